theorem k_423 : (Cond.code yX8_offAt cX8_offAt 3 (some .int)) ∈ TBg := tb_mem 689 (by decide +kernel) (by decide +kernel)
theorem k_424 : (Cond.methodLink RX2 42 yX8_offAt) ∈ TBg := tb_mem 686 (by decide +kernel) (by decide +kernel)
theorem k_425 : (Cond.instanceMethod yX8_offAt) ∈ TBg := tb_mem 687 (by decide +kernel) (by decide +kernel)
theorem k_426 : (Cond.selects RX8 yX8_offAt yX8_offAt) ∈ TBg := tb_mem 688 (by decide +kernel) (by decide +kernel)
theorem k_427 : (Cond.code yX2_hearAt cX2_hearAt 4 none) ∈ TBg := tb_mem 708 (by decide +kernel) (by decide +kernel)
theorem k_428 : (Cond.methodLink RX2 46 yX2_hearAt) ∈ TBg := tb_mem 705 (by decide +kernel) (by decide +kernel)
theorem k_429 : (Cond.instanceMethod yX2_hearAt) ∈ TBg := tb_mem 707 (by decide +kernel) (by decide +kernel)
theorem k_430 : (Cond.selects RX2 yX2_hearAt yX2_hearAt) ∈ TBg := tb_mem 23 (by decide +kernel) (by decide +kernel)
theorem k_431 : (Cond.initialized RX2) ∈ TBg := tb_mem 89 (by decide +kernel) (by decide +kernel)
theorem k_432 : (Cond.methodLink RX4 15 Lib.Math.min.name) ∈ TBg := tb_mem 729 (by decide +kernel) (by decide +kernel)
theorem k_433 : (Cond.code yX4_nearWorn cX4_nearWorn 2 (some .int)) ∈ TBg := tb_mem 728 (by decide +kernel) (by decide +kernel)
theorem k_434 : (Cond.methodLink RX5 25 yX4_nearWorn) ∈ TBg := tb_mem 725 (by decide +kernel) (by decide +kernel)
theorem k_435 : (Cond.instanceMethod yX4_nearWorn) ∈ TBg := tb_mem 726 (by decide +kernel) (by decide +kernel)
theorem k_436 : (Cond.selects RX4 yX4_nearWorn yX4_nearWorn) ∈ TBg := tb_mem 727 (by decide +kernel) (by decide +kernel)
theorem k_437 : (Cond.initialized RX4) ∈ TBg := tb_mem 90 (by decide +kernel) (by decide +kernel)
theorem k_438 : (Cond.code yX5_pop cX5_pop 1 (some .int)) ∈ TBg := tb_mem 740 (by decide +kernel) (by decide +kernel)
theorem k_439 : (Cond.methodLink RX5 62 yX5_pop) ∈ TBg := tb_mem 737 (by decide +kernel) (by decide +kernel)
theorem k_440 : (Cond.instanceMethod yX5_pop) ∈ TBg := tb_mem 739 (by decide +kernel) (by decide +kernel)
theorem k_441 : (Cond.selects RX5 yX5_pop yX5_pop) ∈ TBg := tb_mem 26 (by decide +kernel) (by decide +kernel)
theorem k_442 : (Cond.initialized RX5) ∈ TBg := tb_mem 86 (by decide +kernel) (by decide +kernel)
theorem k_443 : (Cond.code yX5_join cX5_join 3 (some .int)) ∈ TBg := tb_mem 743 (by decide +kernel) (by decide +kernel)
theorem k_444 : (Cond.methodLink RX5 66 yX5_join) ∈ TBg := tb_mem 741 (by decide +kernel) (by decide +kernel)
theorem k_445 : (Cond.static yX5_join) ∈ TBg := tb_mem 742 (by decide +kernel) (by decide +kernel)
theorem k_446 : (Cond.code yX5_push cX5_push 2 none) ∈ TBg := tb_mem 733 (by decide +kernel) (by decide +kernel)
theorem k_447 : (Cond.methodLink RX5 40 yX5_push) ∈ TBg := tb_mem 730 (by decide +kernel) (by decide +kernel)
theorem k_448 : (Cond.instanceMethod yX5_push) ∈ TBg := tb_mem 732 (by decide +kernel) (by decide +kernel)
theorem k_449 : (Cond.selects RX5 yX5_push yX5_push) ∈ TBg := tb_mem 25 (by decide +kernel) (by decide +kernel)
theorem k_450 : (Cond.code yX5_isNear cX5_isNear 4 (some .int)) ∈ TBg := tb_mem 736 (by decide +kernel) (by decide +kernel)
theorem k_451 : (Cond.methodLink RX5 49 yX5_isNear) ∈ TBg := tb_mem 734 (by decide +kernel) (by decide +kernel)
theorem k_452 : (Cond.static yX5_isNear) ∈ TBg := tb_mem 735 (by decide +kernel) (by decide +kernel)
theorem dX2_hearAt_0 : decode cX2_hearAt 0 = .ok (.iload_n 2, 1) := by decide +kernel
theorem dX2_hearAt_1 : decode cX2_hearAt 1 = .ok (.ifCond .ne 10, 3) := by decide +kernel
theorem dX2_hearAt_11 : decode cX2_hearAt 11 = .ok (.iload_n 2, 1) := by decide +kernel
theorem dX2_hearAt_12 : decode cX2_hearAt 12 = .ok (.ifCond .eq 13, 3) := by decide +kernel
theorem dX2_hearAt_25 : decode cX2_hearAt 25 = .ok (.aload_n 0, 1) := by decide +kernel
theorem dX2_hearAt_26 : decode cX2_hearAt 26 = .ok (.getfield 15, 3) := by decide +kernel
theorem dX2_hearAt_29 : decode cX2_hearAt 29 = .ok (.iload_n 1, 1) := by decide +kernel
theorem dX2_hearAt_30 : decode cX2_hearAt 30 = .ok (.iload_n 3, 1) := by decide +kernel
theorem dX2_hearAt_31 : decode cX2_hearAt 31 = .ok (.iastore, 1) := by decide +kernel
theorem dX2_hearAt_32 : decode cX2_hearAt 32 = .ok (.aload_n 0, 1) := by decide +kernel
theorem dX2_hearAt_33 : decode cX2_hearAt 33 = .ok (.getfield 9, 3) := by decide +kernel
theorem dX2_hearAt_36 : decode cX2_hearAt 36 = .ok (.iload_n 1, 1) := by decide +kernel
theorem dX2_hearAt_37 : decode cX2_hearAt 37 = .ok (.iload_n 2, 1) := by decide +kernel
theorem dX2_hearAt_38 : decode cX2_hearAt 38 = .ok (.iastore, 1) := by decide +kernel
theorem dX2_hearAt_39 : decode cX2_hearAt 39 = .ok (.aload_n 0, 1) := by decide +kernel
theorem dX2_hearAt_40 : decode cX2_hearAt 40 = .ok (.getfield 21, 3) := by decide +kernel
theorem dX2_hearAt_43 : decode cX2_hearAt 43 = .ok (.iload_n 1, 1) := by decide +kernel
theorem dX2_hearAt_44 : decode cX2_hearAt 44 = .ok (.iload_n 3, 1) := by decide +kernel
theorem dX2_hearAt_45 : decode cX2_hearAt 45 = .ok (.iastore, 1) := by decide +kernel
theorem dX2_hearAt_46 : decode cX2_hearAt 46 = .ok (.return_, 1) := by decide +kernel
theorem dX2_hearAt_15 : decode cX2_hearAt 15 = .ok (.iload_n 3, 1) := by decide +kernel
theorem dX2_hearAt_16 : decode cX2_hearAt 16 = .ok (.aload_n 0, 1) := by decide +kernel
theorem dX2_hearAt_17 : decode cX2_hearAt 17 = .ok (.getfield 15, 3) := by decide +kernel
theorem dX2_hearAt_20 : decode cX2_hearAt 20 = .ok (.iload_n 1, 1) := by decide +kernel
theorem dX2_hearAt_21 : decode cX2_hearAt 21 = .ok (.iaload, 1) := by decide +kernel
theorem dX2_hearAt_22 : decode cX2_hearAt 22 = .ok (.if_icmp .ge 17, 3) := by decide +kernel
theorem dX2_hearAt_4 : decode cX2_hearAt 4 = .ok (.aload_n 0, 1) := by decide +kernel
theorem dX2_hearAt_5 : decode cX2_hearAt 5 = .ok (.getfield 18, 3) := by decide +kernel
theorem dX2_hearAt_8 : decode cX2_hearAt 8 = .ok (.iload_n 1, 1) := by decide +kernel
theorem dX2_hearAt_9 : decode cX2_hearAt 9 = .ok (.iload_n 3, 1) := by decide +kernel
theorem dX2_hearAt_10 : decode cX2_hearAt 10 = .ok (.iastore, 1) := by decide +kernel
theorem dX2_hearAll_0 : decode cX2_hearAll 0 = .ok (.aload_n 0, 1) := by decide +kernel
theorem dX2_hearAll_1 : decode cX2_hearAll 1 = .ok (.aload_n 1, 1) := by decide +kernel
theorem dX2_hearAll_2 : decode cX2_hearAll 2 = .ok (.getfield 24, 3) := by decide +kernel
theorem dX2_hearAll_5 : decode cX2_hearAll 5 = .ok (.putfield 30, 3) := by decide +kernel
theorem dX2_hearAll_8 : decode cX2_hearAll 8 = .ok (.iconst 0, 1) := by decide +kernel
theorem dX2_hearAll_9 : decode cX2_hearAll 9 = .ok (.istore_n 3, 1) := by decide +kernel
theorem dX2_hearAll_10 : decode cX2_hearAll 10 = .ok (.iload_n 3, 1) := by decide +kernel
theorem dX2_hearAll_11 : decode cX2_hearAll 11 = .ok (.aload_n 2, 1) := by decide +kernel
theorem dX2_hearAll_12 : decode cX2_hearAll 12 = .ok (.getfield 33, 3) := by decide +kernel
theorem dX2_hearAll_15 : decode cX2_hearAll 15 = .ok (.if_icmp .ge 88, 3) := by decide +kernel
theorem dX2_hearAll_103 : decode cX2_hearAll 103 = .ok (.return_, 1) := by decide +kernel
theorem dX2_hearAll_18 : decode cX2_hearAll 18 = .ok (.aload_n 0, 1) := by decide +kernel
theorem dX2_hearAll_19 : decode cX2_hearAll 19 = .ok (.getfield 9, 3) := by decide +kernel
theorem dX2_hearAll_22 : decode cX2_hearAll 22 = .ok (.iload_n 3, 1) := by decide +kernel
theorem dX2_hearAll_23 : decode cX2_hearAll 23 = .ok (.iconst (-1), 1) := by decide +kernel
theorem dX2_hearAll_24 : decode cX2_hearAll 24 = .ok (.iastore, 1) := by decide +kernel
theorem dX2_hearAll_25 : decode cX2_hearAll 25 = .ok (.aload_n 0, 1) := by decide +kernel
theorem dX2_hearAll_26 : decode cX2_hearAll 26 = .ok (.getfield 15, 3) := by decide +kernel
theorem dX2_hearAll_29 : decode cX2_hearAll 29 = .ok (.iload_n 3, 1) := by decide +kernel
theorem dX2_hearAll_30 : decode cX2_hearAll 30 = .ok (.iconst (-1), 1) := by decide +kernel
theorem dX2_hearAll_31 : decode cX2_hearAll 31 = .ok (.iastore, 1) := by decide +kernel
theorem dX2_hearAll_32 : decode cX2_hearAll 32 = .ok (.aload_n 0, 1) := by decide +kernel
theorem dX2_hearAll_33 : decode cX2_hearAll 33 = .ok (.getfield 18, 3) := by decide +kernel
theorem dX2_hearAll_36 : decode cX2_hearAll 36 = .ok (.iload_n 3, 1) := by decide +kernel
theorem dX2_hearAll_37 : decode cX2_hearAll 37 = .ok (.iconst (-1), 1) := by decide +kernel
theorem dX2_hearAll_38 : decode cX2_hearAll 38 = .ok (.iastore, 1) := by decide +kernel
theorem dX2_hearAll_39 : decode cX2_hearAll 39 = .ok (.aload_n 0, 1) := by decide +kernel
theorem dX2_hearAll_40 : decode cX2_hearAll 40 = .ok (.getfield 21, 3) := by decide +kernel
theorem dX2_hearAll_43 : decode cX2_hearAll 43 = .ok (.iload_n 3, 1) := by decide +kernel
theorem dX2_hearAll_44 : decode cX2_hearAll 44 = .ok (.iconst (-1), 1) := by decide +kernel
theorem dX2_hearAll_45 : decode cX2_hearAll 45 = .ok (.iastore, 1) := by decide +kernel
theorem dX2_hearAll_46 : decode cX2_hearAll 46 = .ok (.aload_n 1, 1) := by decide +kernel
theorem dX2_hearAll_47 : decode cX2_hearAll 47 = .ok (.getfield 24, 3) := by decide +kernel
theorem dX2_hearAll_50 : decode cX2_hearAll 50 = .ok (.aload_n 2, 1) := by decide +kernel
theorem dX2_hearAll_51 : decode cX2_hearAll 51 = .ok (.getfield 38, 3) := by decide +kernel
theorem dX2_hearAll_54 : decode cX2_hearAll 54 = .ok (.iload_n 3, 1) := by decide +kernel
theorem dX2_hearAll_55 : decode cX2_hearAll 55 = .ok (.aaload, 1) := by decide +kernel
theorem dX2_hearAll_56 : decode cX2_hearAll 56 = .ok (.getfield 24, 3) := by decide +kernel
theorem dX2_hearAll_59 : decode cX2_hearAll 59 = .ok (.isub, 1) := by decide +kernel
theorem dX2_hearAll_60 : decode cX2_hearAll 60 = .ok (.istore 4, 2) := by decide +kernel
theorem dX2_hearAll_62 : decode cX2_hearAll 62 = .ok (.iconst 0, 1) := by decide +kernel
theorem dX2_hearAll_63 : decode cX2_hearAll 63 = .ok (.istore 5, 2) := by decide +kernel
theorem dX2_hearAll_65 : decode cX2_hearAll 65 = .ok (.iload 5, 2) := by decide +kernel
theorem dX2_hearAll_67 : decode cX2_hearAll 67 = .ok (.iload 4, 2) := by decide +kernel
theorem dX2_hearAll_69 : decode cX2_hearAll 69 = .ok (.if_icmp .gt 28, 3) := by decide +kernel
theorem dX2_hearAll_97 : decode cX2_hearAll 97 = .ok (.iinc 3 1, 3) := by decide +kernel
theorem dX2_hearAll_100 : decode cX2_hearAll 100 = .ok (.goto (-90), 3) := by decide +kernel
theorem dX2_hearAll_72 : decode cX2_hearAll 72 = .ok (.aload_n 0, 1) := by decide +kernel
theorem dX2_hearAll_73 : decode cX2_hearAll 73 = .ok (.iload_n 3, 1) := by decide +kernel
theorem dX2_hearAll_74 : decode cX2_hearAll 74 = .ok (.iload 5, 2) := by decide +kernel
theorem dX2_hearAll_76 : decode cX2_hearAll 76 = .ok (.aload_n 2, 1) := by decide +kernel
theorem dX2_hearAll_77 : decode cX2_hearAll 77 = .ok (.getfield 38, 3) := by decide +kernel
theorem dX2_hearAll_80 : decode cX2_hearAll 80 = .ok (.iload_n 3, 1) := by decide +kernel
theorem dX2_hearAll_81 : decode cX2_hearAll 81 = .ok (.aaload, 1) := by decide +kernel
theorem dX2_hearAll_82 : decode cX2_hearAll 82 = .ok (.aload_n 1, 1) := by decide +kernel
theorem dX2_hearAll_83 : decode cX2_hearAll 83 = .ok (.iload 5, 2) := by decide +kernel
theorem dX2_hearAll_85 : decode cX2_hearAll 85 = .ok (.invokevirtual 42, 3) := by decide +kernel
theorem dX2_hearAll_88 : decode cX2_hearAll 88 = .ok (.invokevirtual 46, 3) := by decide +kernel
theorem dX2_hearAll_91 : decode cX2_hearAll 91 = .ok (.iinc 5 1, 3) := by decide +kernel
theorem dX2_hearAll_94 : decode cX2_hearAll 94 = .ok (.goto (-29), 3) := by decide +kernel
theorem dX2_hearLast_0 : decode cX2_hearLast 0 = .ok (.aload_n 0, 1) := by decide +kernel
theorem dX2_hearLast_1 : decode cX2_hearLast 1 = .ok (.aload_n 1, 1) := by decide +kernel
theorem dX2_hearLast_2 : decode cX2_hearLast 2 = .ok (.getfield 24, 3) := by decide +kernel
theorem dX2_hearLast_5 : decode cX2_hearLast 5 = .ok (.putfield 30, 3) := by decide +kernel
theorem dX2_hearLast_8 : decode cX2_hearLast 8 = .ok (.iconst 0, 1) := by decide +kernel
theorem dX2_hearLast_9 : decode cX2_hearLast 9 = .ok (.istore_n 3, 1) := by decide +kernel
theorem dX2_hearLast_10 : decode cX2_hearLast 10 = .ok (.iload_n 3, 1) := by decide +kernel
theorem dX2_hearLast_11 : decode cX2_hearLast 11 = .ok (.aload_n 2, 1) := by decide +kernel
theorem dX2_hearLast_12 : decode cX2_hearLast 12 = .ok (.getfield 33, 3) := by decide +kernel
theorem dX2_hearLast_15 : decode cX2_hearLast 15 = .ok (.if_icmp .ge 49, 3) := by decide +kernel
theorem dX2_hearLast_64 : decode cX2_hearLast 64 = .ok (.return_, 1) := by decide +kernel
theorem dX2_hearLast_18 : decode cX2_hearLast 18 = .ok (.aload_n 1, 1) := by decide +kernel
theorem dX2_hearLast_19 : decode cX2_hearLast 19 = .ok (.getfield 24, 3) := by decide +kernel
theorem dX2_hearLast_22 : decode cX2_hearLast 22 = .ok (.aload_n 2, 1) := by decide +kernel
theorem dX2_hearLast_23 : decode cX2_hearLast 23 = .ok (.getfield 38, 3) := by decide +kernel
theorem dX2_hearLast_26 : decode cX2_hearLast 26 = .ok (.iload_n 3, 1) := by decide +kernel
theorem dX2_hearLast_27 : decode cX2_hearLast 27 = .ok (.aaload, 1) := by decide +kernel
theorem dX2_hearLast_28 : decode cX2_hearLast 28 = .ok (.getfield 24, 3) := by decide +kernel
theorem dX2_hearLast_31 : decode cX2_hearLast 31 = .ok (.isub, 1) := by decide +kernel
theorem dX2_hearLast_32 : decode cX2_hearLast 32 = .ok (.istore 4, 2) := by decide +kernel
theorem dX2_hearLast_34 : decode cX2_hearLast 34 = .ok (.iload 4, 2) := by decide +kernel
theorem dX2_hearLast_36 : decode cX2_hearLast 36 = .ok (.ifCond .lt 22, 3) := by decide +kernel
theorem dX2_hearLast_58 : decode cX2_hearLast 58 = .ok (.iinc 3 1, 3) := by decide +kernel
theorem dX2_hearLast_61 : decode cX2_hearLast 61 = .ok (.goto (-51), 3) := by decide +kernel
theorem dX2_hearLast_39 : decode cX2_hearLast 39 = .ok (.aload_n 0, 1) := by decide +kernel
theorem dX2_hearLast_40 : decode cX2_hearLast 40 = .ok (.iload_n 3, 1) := by decide +kernel
theorem dX2_hearLast_41 : decode cX2_hearLast 41 = .ok (.iload 4, 2) := by decide +kernel
theorem dX2_hearLast_43 : decode cX2_hearLast 43 = .ok (.aload_n 2, 1) := by decide +kernel
theorem dX2_hearLast_44 : decode cX2_hearLast 44 = .ok (.getfield 38, 3) := by decide +kernel
theorem dX2_hearLast_47 : decode cX2_hearLast 47 = .ok (.iload_n 3, 1) := by decide +kernel
theorem dX2_hearLast_48 : decode cX2_hearLast 48 = .ok (.aaload, 1) := by decide +kernel
theorem dX2_hearLast_49 : decode cX2_hearLast 49 = .ok (.aload_n 1, 1) := by decide +kernel
theorem dX2_hearLast_50 : decode cX2_hearLast 50 = .ok (.iload 4, 2) := by decide +kernel
theorem dX2_hearLast_52 : decode cX2_hearLast 52 = .ok (.invokevirtual 42, 3) := by decide +kernel
theorem dX2_hearLast_55 : decode cX2_hearLast 55 = .ok (.invokevirtual 46, 3) := by decide +kernel
theorem dX4_nearWorn_0 : decode cX4_nearWorn 0 = .ok (.bipush 20, 2) := by decide +kernel
theorem dX4_nearWorn_2 : decode cX4_nearWorn 2 = .ok (.aload_n 0, 1) := by decide +kernel
theorem dX4_nearWorn_3 : decode cX4_nearWorn 3 = .ok (.getfield 9, 3) := by decide +kernel
theorem dX4_nearWorn_6 : decode cX4_nearWorn 6 = .ok (.iload_n 1, 1) := by decide +kernel
theorem dX4_nearWorn_7 : decode cX4_nearWorn 7 = .ok (.iconst 3, 1) := by decide +kernel
theorem dX4_nearWorn_8 : decode cX4_nearWorn 8 = .ok (.idiv, 1) := by decide +kernel
theorem dX4_nearWorn_9 : decode cX4_nearWorn 9 = .ok (.iadd, 1) := by decide +kernel
theorem dX4_nearWorn_10 : decode cX4_nearWorn 10 = .ok (.invokestatic 15, 3) := by decide +kernel
theorem dX4_nearWorn_13 : decode cX4_nearWorn 13 = .ok (.ireturn, 1) := by decide +kernel
theorem dX4_opensToldBits_0 : decode cX4_opensToldBits 0 = .ok (.iload_n 1, 1) := by decide +kernel
theorem dX4_opensToldBits_1 : decode cX4_opensToldBits 1 = .ok (.ifCond .eq 10, 3) := by decide +kernel
theorem dX4_opensToldBits_11 : decode cX4_opensToldBits 11 = .ok (.aload_n 0, 1) := by decide +kernel
theorem dX4_opensToldBits_12 : decode cX4_opensToldBits 12 = .ok (.getfield 24, 3) := by decide +kernel
theorem dX4_opensToldBits_15 : decode cX4_opensToldBits 15 = .ok (.ireturn, 1) := by decide +kernel
theorem dX4_opensToldBits_4 : decode cX4_opensToldBits 4 = .ok (.aload_n 0, 1) := by decide +kernel
theorem dX4_opensToldBits_5 : decode cX4_opensToldBits 5 = .ok (.getfield 21, 3) := by decide +kernel
theorem dX4_opensToldBits_8 : decode cX4_opensToldBits 8 = .ok (.goto 7, 3) := by decide +kernel
theorem dX5_add_0 : decode cX5_add 0 = .ok (.aload_n 0, 1) := by decide +kernel
theorem dX5_add_1 : decode cX5_add 1 = .ok (.getfield 21, 3) := by decide +kernel
theorem dX5_add_4 : decode cX5_add 4 = .ok (.aload_n 0, 1) := by decide +kernel
theorem dX5_add_5 : decode cX5_add 5 = .ok (.getfield 11, 3) := by decide +kernel
theorem dX5_add_8 : decode cX5_add 8 = .ok (.arraylength, 1) := by decide +kernel
theorem dX5_add_9 : decode cX5_add 9 = .ok (.if_icmp .ge 33, 3) := by decide +kernel
theorem dX5_add_42 : decode cX5_add 42 = .ok (.return_, 1) := by decide +kernel
theorem dX5_add_12 : decode cX5_add 12 = .ok (.aload_n 0, 1) := by decide +kernel
theorem dX5_add_13 : decode cX5_add 13 = .ok (.getfield 11, 3) := by decide +kernel
theorem dX5_add_16 : decode cX5_add 16 = .ok (.aload_n 0, 1) := by decide +kernel
theorem dX5_add_17 : decode cX5_add 17 = .ok (.getfield 21, 3) := by decide +kernel
theorem dX5_add_20 : decode cX5_add 20 = .ok (.iload_n 1, 1) := by decide +kernel
theorem dX5_add_21 : decode cX5_add 21 = .ok (.iastore, 1) := by decide +kernel
theorem dX5_add_22 : decode cX5_add 22 = .ok (.aload_n 0, 1) := by decide +kernel
theorem dX5_add_23 : decode cX5_add 23 = .ok (.getfield 15, 3) := by decide +kernel
theorem dX5_add_26 : decode cX5_add 26 = .ok (.aload_n 0, 1) := by decide +kernel
theorem dX5_add_27 : decode cX5_add 27 = .ok (.getfield 21, 3) := by decide +kernel
theorem dX5_add_30 : decode cX5_add 30 = .ok (.iload_n 2, 1) := by decide +kernel
theorem dX5_add_31 : decode cX5_add 31 = .ok (.iastore, 1) := by decide +kernel
theorem dX5_add_32 : decode cX5_add 32 = .ok (.aload_n 0, 1) := by decide +kernel
theorem dX5_add_33 : decode cX5_add 33 = .ok (.dup, 1) := by decide +kernel
theorem dX5_add_34 : decode cX5_add 34 = .ok (.getfield 21, 3) := by decide +kernel
theorem dX5_add_37 : decode cX5_add 37 = .ok (.iconst 1, 1) := by decide +kernel
theorem dX5_add_38 : decode cX5_add 38 = .ok (.iadd, 1) := by decide +kernel
theorem dX5_add_39 : decode cX5_add 39 = .ok (.putfield 21, 3) := by decide +kernel
theorem dX5_push_0 : decode cX5_push 0 = .ok (.aload_n 0, 1) := by decide +kernel
theorem dX5_push_1 : decode cX5_push 1 = .ok (.getfield 31, 3) := by decide +kernel
theorem dX5_push_4 : decode cX5_push 4 = .ok (.aload_n 0, 1) := by decide +kernel
theorem dX5_push_5 : decode cX5_push 5 = .ok (.getfield 18, 3) := by decide +kernel
theorem dX5_push_8 : decode cX5_push 8 = .ok (.arraylength, 1) := by decide +kernel
theorem dX5_push_9 : decode cX5_push 9 = .ok (.if_icmp .ge 23, 3) := by decide +kernel
theorem dX5_push_32 : decode cX5_push 32 = .ok (.return_, 1) := by decide +kernel
theorem dX5_push_12 : decode cX5_push 12 = .ok (.aload_n 0, 1) := by decide +kernel
theorem dX5_push_13 : decode cX5_push 13 = .ok (.getfield 18, 3) := by decide +kernel
theorem dX5_push_16 : decode cX5_push 16 = .ok (.aload_n 0, 1) := by decide +kernel
theorem dX5_push_17 : decode cX5_push 17 = .ok (.getfield 31, 3) := by decide +kernel
theorem dX5_push_20 : decode cX5_push 20 = .ok (.iload_n 1, 1) := by decide +kernel
theorem dX5_push_21 : decode cX5_push 21 = .ok (.iastore, 1) := by decide +kernel
theorem dX5_push_22 : decode cX5_push 22 = .ok (.aload_n 0, 1) := by decide +kernel
theorem dX5_push_23 : decode cX5_push 23 = .ok (.dup, 1) := by decide +kernel
theorem dX5_push_24 : decode cX5_push 24 = .ok (.getfield 31, 3) := by decide +kernel
theorem dX5_push_27 : decode cX5_push 27 = .ok (.iconst 1, 1) := by decide +kernel
theorem dX5_push_28 : decode cX5_push 28 = .ok (.iadd, 1) := by decide +kernel
theorem dX5_push_29 : decode cX5_push 29 = .ok (.putfield 31, 3) := by decide +kernel
theorem dX5_pop_0 : decode cX5_pop 0 = .ok (.aload_n 0, 1) := by decide +kernel
theorem dX5_pop_1 : decode cX5_pop 1 = .ok (.getfield 31, 3) := by decide +kernel
theorem dX5_pop_4 : decode cX5_pop 4 = .ok (.iconst 1, 1) := by decide +kernel
theorem dX5_pop_5 : decode cX5_pop 5 = .ok (.if_icmp .ge 5, 3) := by decide +kernel
theorem dX5_pop_10 : decode cX5_pop 10 = .ok (.aload_n 0, 1) := by decide +kernel
theorem dX5_pop_11 : decode cX5_pop 11 = .ok (.dup, 1) := by decide +kernel
theorem dX5_pop_12 : decode cX5_pop 12 = .ok (.getfield 31, 3) := by decide +kernel
theorem dX5_pop_15 : decode cX5_pop 15 = .ok (.iconst 1, 1) := by decide +kernel
theorem dX5_pop_16 : decode cX5_pop 16 = .ok (.isub, 1) := by decide +kernel
theorem dX5_pop_17 : decode cX5_pop 17 = .ok (.putfield 31, 3) := by decide +kernel
theorem dX5_pop_20 : decode cX5_pop 20 = .ok (.aload_n 0, 1) := by decide +kernel
theorem dX5_pop_21 : decode cX5_pop 21 = .ok (.getfield 18, 3) := by decide +kernel
theorem dX5_pop_24 : decode cX5_pop 24 = .ok (.aload_n 0, 1) := by decide +kernel
theorem dX5_pop_25 : decode cX5_pop 25 = .ok (.getfield 31, 3) := by decide +kernel
theorem dX5_pop_28 : decode cX5_pop 28 = .ok (.iaload, 1) := by decide +kernel
theorem dX5_pop_29 : decode cX5_pop 29 = .ok (.ireturn, 1) := by decide +kernel
theorem dX5_pop_8 : decode cX5_pop 8 = .ok (.iconst 0, 1) := by decide +kernel
theorem dX5_pop_9 : decode cX5_pop 9 = .ok (.ireturn, 1) := by decide +kernel
theorem dX5_isNear_22 : decode cX5_isNear 22 = .ok (.istore_n 3, 1) := by decide +kernel
theorem dX5_isNear_23 : decode cX5_isNear 23 = .ok (.iload_n 3, 1) := by decide +kernel
theorem dX5_isNear_24 : decode cX5_isNear 24 = .ok (.ifCond .eq 14, 3) := by decide +kernel
theorem dX5_isNear_38 : decode cX5_isNear 38 = .ok (.iconst 0, 1) := by decide +kernel
theorem dX5_isNear_39 : decode cX5_isNear 39 = .ok (.ireturn, 1) := by decide +kernel
theorem dX5_isNear_27 : decode cX5_isNear 27 = .ok (.aload_n 0, 1) := by decide +kernel
theorem dX5_isNear_28 : decode cX5_isNear 28 = .ok (.iload_n 1, 1) := by decide +kernel
theorem dX5_isNear_29 : decode cX5_isNear 29 = .ok (.iaload, 1) := by decide +kernel
theorem dX5_isNear_30 : decode cX5_isNear 30 = .ok (.iload_n 2, 1) := by decide +kernel
theorem dX5_isNear_31 : decode cX5_isNear 31 = .ok (.if_icmp .gt 7, 3) := by decide +kernel
theorem dX5_isNear_34 : decode cX5_isNear 34 = .ok (.iconst 1, 1) := by decide +kernel
theorem dX5_isNear_35 : decode cX5_isNear 35 = .ok (.goto 4, 3) := by decide +kernel
theorem dX5_isNear_0 : decode cX5_isNear 0 = .ok (.iload_n 1, 1) := by decide +kernel
theorem dX5_isNear_1 : decode cX5_isNear 1 = .ok (.ifCond .lt 20, 3) := by decide +kernel
theorem dX5_isNear_21 : decode cX5_isNear 21 = .ok (.iconst 0, 1) := by decide +kernel
theorem dX5_isNear_4 : decode cX5_isNear 4 = .ok (.iload_n 1, 1) := by decide +kernel
theorem dX5_isNear_5 : decode cX5_isNear 5 = .ok (.aload_n 0, 1) := by decide +kernel
theorem dX5_isNear_6 : decode cX5_isNear 6 = .ok (.arraylength, 1) := by decide +kernel
theorem dX5_isNear_7 : decode cX5_isNear 7 = .ok (.if_icmp .ge 14, 3) := by decide +kernel
theorem dX5_isNear_10 : decode cX5_isNear 10 = .ok (.aload_n 0, 1) := by decide +kernel
theorem dX5_isNear_11 : decode cX5_isNear 11 = .ok (.iload_n 1, 1) := by decide +kernel
theorem dX5_isNear_12 : decode cX5_isNear 12 = .ok (.iaload, 1) := by decide +kernel
theorem dX5_isNear_13 : decode cX5_isNear 13 = .ok (.iconst (-1), 1) := by decide +kernel
theorem dX5_isNear_14 : decode cX5_isNear 14 = .ok (.if_icmp .eq 7, 3) := by decide +kernel
theorem dX5_isNear_17 : decode cX5_isNear 17 = .ok (.iconst 1, 1) := by decide +kernel
theorem dX5_isNear_18 : decode cX5_isNear 18 = .ok (.goto 4, 3) := by decide +kernel
theorem dX5_answer_0 : decode cX5_answer 0 = .ok (.aload_n 1, 1) := by decide +kernel
theorem dX5_answer_1 : decode cX5_answer 1 = .ok (.iload 4, 2) := by decide +kernel
theorem dX5_answer_3 : decode cX5_answer 3 = .ok (.invokevirtual 25, 3) := by decide +kernel
theorem dX5_answer_6 : decode cX5_answer 6 = .ok (.istore 5, 2) := by decide +kernel
theorem dX5_answer_8 : decode cX5_answer 8 = .ok (.aload_n 0, 1) := by decide +kernel
theorem dX5_answer_9 : decode cX5_answer 9 = .ok (.iconst 0, 1) := by decide +kernel
theorem dX5_answer_10 : decode cX5_answer 10 = .ok (.putfield 31, 3) := by decide +kernel
theorem dX5_answer_13 : decode cX5_answer 13 = .ok (.aload_n 1, 1) := by decide +kernel
theorem dX5_answer_14 : decode cX5_answer 14 = .ok (.getfield 34, 3) := by decide +kernel
theorem dX5_answer_17 : decode cX5_answer 17 = .ok (.istore 6, 2) := by decide +kernel
theorem dX5_answer_19 : decode cX5_answer 19 = .ok (.iload 6, 2) := by decide +kernel
theorem dX5_answer_21 : decode cX5_answer 21 = .ok (.aload_n 1, 1) := by decide +kernel
theorem dX5_answer_22 : decode cX5_answer 22 = .ok (.getfield 37, 3) := by decide +kernel
theorem dX5_answer_25 : decode cX5_answer 25 = .ok (.if_icmp .ge 241, 3) := by decide +kernel
theorem dX5_answer_266 : decode cX5_answer 266 = .ok (.aload_n 0, 1) := by decide +kernel
theorem dX5_answer_267 : decode cX5_answer 267 = .ok (.invokevirtual 62, 3) := by decide +kernel
theorem dX5_answer_270 : decode cX5_answer 270 = .ok (.ireturn, 1) := by decide +kernel
theorem dX5_answer_28 : decode cX5_answer 28 = .ok (.iload 6, 2) := by decide +kernel
theorem dX5_answer_30 : decode cX5_answer 30 = .ok (.aload_n 0, 1) := by decide +kernel
theorem dX5_answer_31 : decode cX5_answer 31 = .ok (.getfield 21, 3) := by decide +kernel
theorem dX5_answer_34 : decode cX5_answer 34 = .ok (.if_icmp .ge 232, 3) := by decide +kernel
theorem dX5_answer_37 : decode cX5_answer 37 = .ok (.aload_n 0, 1) := by decide +kernel
theorem dX5_answer_38 : decode cX5_answer 38 = .ok (.getfield 11, 3) := by decide +kernel
theorem dX5_answer_41 : decode cX5_answer 41 = .ok (.iload 6, 2) := by decide +kernel
theorem dX5_answer_43 : decode cX5_answer 43 = .ok (.iaload, 1) := by decide +kernel
theorem dX5_answer_44 : decode cX5_answer 44 = .ok (.tableswitch 190 8 16 #[171, 66, 89, 112, 135, 151, 162, 190, 52], 52) := by decide +kernel
theorem dX5_answer_234 : decode cX5_answer 234 = .ok (.aload_n 0, 1) := by decide +kernel
theorem dX5_answer_235 : decode cX5_answer 235 = .ok (.invokevirtual 62, 3) := by decide +kernel
theorem dX5_answer_238 : decode cX5_answer 238 = .ok (.istore 7, 2) := by decide +kernel
theorem dX5_answer_240 : decode cX5_answer 240 = .ok (.aload_n 0, 1) := by decide +kernel
theorem dX5_answer_241 : decode cX5_answer 241 = .ok (.aload_n 0, 1) := by decide +kernel
theorem dX5_answer_242 : decode cX5_answer 242 = .ok (.getfield 11, 3) := by decide +kernel
theorem dX5_answer_245 : decode cX5_answer 245 = .ok (.iload 6, 2) := by decide +kernel
theorem dX5_answer_247 : decode cX5_answer 247 = .ok (.iaload, 1) := by decide +kernel
theorem dX5_answer_248 : decode cX5_answer 248 = .ok (.aload_n 0, 1) := by decide +kernel
theorem dX5_answer_249 : decode cX5_answer 249 = .ok (.invokevirtual 62, 3) := by decide +kernel
theorem dX5_answer_252 : decode cX5_answer 252 = .ok (.iload 7, 2) := by decide +kernel
theorem dX5_answer_254 : decode cX5_answer 254 = .ok (.invokestatic 66, 3) := by decide +kernel
theorem dX5_answer_257 : decode cX5_answer 257 = .ok (.invokevirtual 40, 3) := by decide +kernel
theorem dX5_answer_260 : decode cX5_answer 260 = .ok (.iinc 6 1, 3) := by decide +kernel
theorem dX5_answer_263 : decode cX5_answer 263 = .ok (.goto (-244), 3) := by decide +kernel
theorem dX5_answer_215 : decode cX5_answer 215 = .ok (.aload_n 0, 1) := by decide +kernel
theorem dX5_answer_216 : decode cX5_answer 216 = .ok (.aload_n 0, 1) := by decide +kernel
theorem dX5_answer_217 : decode cX5_answer 217 = .ok (.invokevirtual 62, 3) := by decide +kernel
theorem dX5_answer_220 : decode cX5_answer 220 = .ok (.ifCond .ne 7, 3) := by decide +kernel
theorem dX5_answer_227 : decode cX5_answer 227 = .ok (.iconst 0, 1) := by decide +kernel
theorem dX5_answer_228 : decode cX5_answer 228 = .ok (.invokevirtual 40, 3) := by decide +kernel
theorem dX5_answer_231 : decode cX5_answer 231 = .ok (.goto 29, 3) := by decide +kernel
theorem dX5_answer_223 : decode cX5_answer 223 = .ok (.iconst 1, 1) := by decide +kernel
theorem dX5_answer_224 : decode cX5_answer 224 = .ok (.goto 4, 3) := by decide +kernel
theorem dX5_answer_110 : decode cX5_answer 110 = .ok (.aload_n 0, 1) := by decide +kernel
theorem dX5_answer_111 : decode cX5_answer 111 = .ok (.aload_n 2, 1) := by decide +kernel
theorem dX5_answer_112 : decode cX5_answer 112 = .ok (.getfield 44, 3) := by decide +kernel
theorem dX5_answer_115 : decode cX5_answer 115 = .ok (.aload_n 0, 1) := by decide +kernel
theorem dX5_answer_116 : decode cX5_answer 116 = .ok (.getfield 15, 3) := by decide +kernel
theorem dX5_answer_119 : decode cX5_answer 119 = .ok (.iload 6, 2) := by decide +kernel
theorem dX5_answer_121 : decode cX5_answer 121 = .ok (.iaload, 1) := by decide +kernel
theorem dX5_answer_122 : decode cX5_answer 122 = .ok (.iload 5, 2) := by decide +kernel
theorem dX5_answer_124 : decode cX5_answer 124 = .ok (.invokestatic 49, 3) := by decide +kernel
theorem dX5_answer_127 : decode cX5_answer 127 = .ok (.invokevirtual 40, 3) := by decide +kernel
theorem dX5_answer_130 : decode cX5_answer 130 = .ok (.goto 130, 3) := by decide +kernel
theorem dX5_answer_133 : decode cX5_answer 133 = .ok (.aload_n 0, 1) := by decide +kernel
theorem dX5_answer_134 : decode cX5_answer 134 = .ok (.aload_n 2, 1) := by decide +kernel
theorem dX5_answer_135 : decode cX5_answer 135 = .ok (.getfield 53, 3) := by decide +kernel
theorem dX5_answer_138 : decode cX5_answer 138 = .ok (.aload_n 0, 1) := by decide +kernel
theorem dX5_answer_139 : decode cX5_answer 139 = .ok (.getfield 15, 3) := by decide +kernel
theorem dX5_answer_142 : decode cX5_answer 142 = .ok (.iload 6, 2) := by decide +kernel
theorem dX5_answer_144 : decode cX5_answer 144 = .ok (.iaload, 1) := by decide +kernel
theorem dX5_answer_145 : decode cX5_answer 145 = .ok (.iload 5, 2) := by decide +kernel
theorem dX5_answer_147 : decode cX5_answer 147 = .ok (.invokestatic 49, 3) := by decide +kernel
theorem dX5_answer_150 : decode cX5_answer 150 = .ok (.invokevirtual 40, 3) := by decide +kernel
theorem dX5_answer_153 : decode cX5_answer 153 = .ok (.goto 107, 3) := by decide +kernel
theorem dX5_answer_156 : decode cX5_answer 156 = .ok (.aload_n 0, 1) := by decide +kernel
theorem dX5_answer_157 : decode cX5_answer 157 = .ok (.aload_n 2, 1) := by decide +kernel
theorem dX5_answer_158 : decode cX5_answer 158 = .ok (.getfield 56, 3) := by decide +kernel
theorem dX5_answer_161 : decode cX5_answer 161 = .ok (.aload_n 0, 1) := by decide +kernel
theorem dX5_answer_162 : decode cX5_answer 162 = .ok (.getfield 15, 3) := by decide +kernel
theorem dX5_answer_165 : decode cX5_answer 165 = .ok (.iload 6, 2) := by decide +kernel
theorem dX5_answer_167 : decode cX5_answer 167 = .ok (.iaload, 1) := by decide +kernel
theorem dX5_answer_168 : decode cX5_answer 168 = .ok (.iload 5, 2) := by decide +kernel
theorem dX5_answer_170 : decode cX5_answer 170 = .ok (.invokestatic 49, 3) := by decide +kernel
theorem dX5_answer_173 : decode cX5_answer 173 = .ok (.invokevirtual 40, 3) := by decide +kernel
theorem dX5_answer_176 : decode cX5_answer 176 = .ok (.goto 84, 3) := by decide +kernel
theorem dX5_answer_179 : decode cX5_answer 179 = .ok (.aload_n 0, 1) := by decide +kernel
theorem dX5_answer_180 : decode cX5_answer 180 = .ok (.iload_n 3, 1) := by decide +kernel
theorem dX5_answer_181 : decode cX5_answer 181 = .ok (.ifCond .eq 7, 3) := by decide +kernel
theorem dX5_answer_188 : decode cX5_answer 188 = .ok (.iconst 0, 1) := by decide +kernel
theorem dX5_answer_189 : decode cX5_answer 189 = .ok (.invokevirtual 40, 3) := by decide +kernel
theorem dX5_answer_192 : decode cX5_answer 192 = .ok (.goto 68, 3) := by decide +kernel
theorem dX5_answer_184 : decode cX5_answer 184 = .ok (.iconst 1, 1) := by decide +kernel
theorem dX5_answer_185 : decode cX5_answer 185 = .ok (.goto 4, 3) := by decide +kernel
theorem dX5_answer_195 : decode cX5_answer 195 = .ok (.aload_n 0, 1) := by decide +kernel
theorem dX5_answer_196 : decode cX5_answer 196 = .ok (.aload_n 2, 1) := by decide +kernel
theorem dX5_answer_197 : decode cX5_answer 197 = .ok (.getfield 59, 3) := by decide +kernel
theorem dX5_answer_200 : decode cX5_answer 200 = .ok (.invokevirtual 40, 3) := by decide +kernel
theorem dX5_answer_203 : decode cX5_answer 203 = .ok (.goto 57, 3) := by decide +kernel
theorem dX5_answer_206 : decode cX5_answer 206 = .ok (.aload_n 0, 1) := by decide +kernel
theorem dX5_answer_207 : decode cX5_answer 207 = .ok (.iload 4, 2) := by decide +kernel
theorem dX5_answer_209 : decode cX5_answer 209 = .ok (.invokevirtual 40, 3) := by decide +kernel
theorem dX5_answer_212 : decode cX5_answer 212 = .ok (.goto 48, 3) := by decide +kernel
theorem dX5_answer_96 : decode cX5_answer 96 = .ok (.aload_n 0, 1) := by decide +kernel
theorem dX5_answer_97 : decode cX5_answer 97 = .ok (.aload_n 0, 1) := by decide +kernel
theorem dX5_answer_98 : decode cX5_answer 98 = .ok (.getfield 15, 3) := by decide +kernel
theorem dX5_answer_101 : decode cX5_answer 101 = .ok (.iload 6, 2) := by decide +kernel
theorem dX5_answer_103 : decode cX5_answer 103 = .ok (.iaload, 1) := by decide +kernel
theorem dX5_answer_104 : decode cX5_answer 104 = .ok (.invokevirtual 40, 3) := by decide +kernel
theorem dX5_answer_107 : decode cX5_answer 107 = .ok (.goto 153, 3) := by decide +kernel
set_option maxHeartbeats 4000000 in
set_option maxRecDepth 100000 in
theorem c_hearAt (l : Launch) (G : va_G) (cy : Nat → ClassId) (sz : Nat) (L : List Nat) (K : Nat → Nat) (R : Nat → Nat → Nat) (T : Int) (I E : Nat → Nat → Int32) (J B : Nat → Nat → Int64) (this : Nat) (n : Int32) (n2 : Int32) (n3 : Int32) (hRT : RT L K R) (hI : IV T L K I) (hE : EV L K E) (hthis1 : this ∈ L) (hthis2 : K this = 4) (h_n : 0 ≤ n.toInt ∧ n.toInt ≤ 13) : Met l yX2_hearAt (.code yX2_hearAt cX2_hearAt 4 none :: TBg) ({ frames := 1, cells := 0, slots := 0, locals := 64 }) (va_Pc [.ref this, .int n, .int n2, .int n3] (En G cy (WC cy L K R I J E B) sz)) (va_Qv (fun (u : (Nat → Nat → Int32) × (Nat → Nat → Int64) × (Nat → Nat → Int32) × (Nat → Nat → Int64)) => IV T L K u.1 ∧ EV L K u.2.2.1 ∧ FI [] K I u.1 ∧ (True)) (fun u t => Ex G (va_A (WC cy L K R I J E B) sz) (WC cy L K R u.1 u.2.1 u.2.2.1 u.2.2.2) t) (va_A (WC cy L K R I J E B) sz)) 0 0 (va_A (WC cy L K R I J E B) sz) := by
  have hthis : this ∈ L ∧ K this = 4 := ⟨hthis1, hthis2⟩
  refine Met.ofW (cc := cX2_hearAt) (maxL := 4) (ret := none) (by decide) rfl ?_
  intro p e s m args below meth c s₁ B9 hml hv9
  obtain ⟨rfl, hsz, hP, hK, hD0, hN⟩ := hv9
  have hx := B9.exec
  have hb := B9.bytes
  have hr := B9.returns
  have hts := atoms_spec (ws := .code yX2_hearAt cX2_hearAt 4 none :: TBg) B9.pre
  have ht : ∀ w ∈ TBg, w.before _ s = true := fun w h => hts w (List.mem_cons_of_mem _ h)
  have hown : s.vm.findClass RX2 = some m.cls := findClass_of_methodNamed B9.named
  have hlocks := B9.notSynchronized
  subst hsz
  have hD := hD0.self (sz := s.heap.size)
  generalize hAe : va_A (WC cy L K R I J E B) s.heap.size = A at hD ⊢
  have hA : ∀ q : Nat, s.heap.size ≤ q → A q := fun q h => by rw [← hAe]; exact Or.inr h
  have hS : va_S A s.heap s.heap [] := va_S.rf
  have hl := lv_entry ([.ref this, .int n, .int n2, .int n3]) (n := 4) (Nat.le_of_ble_eq_true rfl)
  rw [lg_entry_eq]
  generalize (lg_sl ([.ref this, .int n, .int n2, .int n3]) ++ List.replicate (4 - (lg_sl ([.ref this, .int n, .int n2, .int n3])).length) Slot.unset).toArray = ls at hl ⊢
  have hl : lv_has ls 4 [(0, .ref this), (1, .int n), (2, .int n2), (3, .int n3)] := hl
  have z0 : (0 : Int32).toInt = 0 := by decide
  have hC_0 : FI [] K I I := FI.rf
  refine lv_iload_n hx hb dX2_hearAt_0 rfl (lv_at hl 2 rfl) ?_
  refine lv_if_ne (tgt := 11) hx hb dX2_hearAt_1 (by decide) (fun c_1 => ?_) (fun c_1 => ?_)
  · have q_2 : ¬ n2.toInt = (0 : Int32).toInt := by have := (not_congr (ow_eq _ _)).mp c_1; omega
    refine lv_iload_n hx hb dX2_hearAt_11 rfl (lv_at hl 2 rfl) ?_
    refine lv_if_eq (tgt := 25) hx hb dX2_hearAt_12 (by decide) (fun c_3 => ?_) (fun c_3 => ?_)
    · have q_4 : n2.toInt = (0 : Int32).toInt := (ow_eq _ _).mp c_3
      refine lv_aload_n hx hb dX2_hearAt_25 rfl (lv_at hl 0 rfl) ?_
      refine cg_4_1_2 hx hb ht hown hK hN hP hthis.1 hthis.2 dX2_hearAt_26 ?_
      have hm_5 : (R this 1) ∈ L ∧ K (R this 1) = 25 := RT.o hRT hthis.1 hthis.2 1 (by decide)
      refine lv_iload_n hx hb dX2_hearAt_29 rfl (lv_at hl 1 rfl) ?_
      refine lv_iload_n hx hb dX2_hearAt_30 rfl (lv_at hl 3 rfl) ?_
      have q_6 : vp_in n 14 := vp_in_iff.mpr ⟨by omega, by omega⟩
      refine cs_25 hx hb hK hP hD hS hm_5.1 hm_5.2 q_6 dX2_hearAt_31 (fun H locs hP hD hS => ?_)
      replace hE := EV.up hE hm_5.2 (i := (Int32.toNatClampNeg n)) (ow_any n3)
      generalize (va_up E (R this 1) (upd (E (R this 1)) (Int32.toNatClampNeg n) n3)) = E_7 at hP hD hE
      refine lv_aload_n hx hb dX2_hearAt_32 rfl (lv_at hl 0 rfl) ?_
      refine cg_4_0_2 hx hb ht hown hK hN hP hthis.1 hthis.2 dX2_hearAt_33 ?_
      have hm_8 : (R this 0) ∈ L ∧ K (R this 0) = 25 := RT.o hRT hthis.1 hthis.2 0 (by decide)
      refine lv_iload_n hx hb dX2_hearAt_36 rfl (lv_at hl 1 rfl) ?_
      refine lv_iload_n hx hb dX2_hearAt_37 rfl (lv_at hl 2 rfl) ?_
      have q_9 : vp_in n 14 := vp_in_iff.mpr ⟨by omega, by omega⟩
      refine cs_25 hx hb hK hP hD hS hm_8.1 hm_8.2 q_9 dX2_hearAt_38 (fun H locs hP hD hS => ?_)
      replace hE := EV.up hE hm_8.2 (i := (Int32.toNatClampNeg n)) (ow_any n2)
      generalize (va_up E_7 (R this 0) (upd (E_7 (R this 0)) (Int32.toNatClampNeg n) n2)) = E_10 at hP hD hE
      refine lv_aload_n hx hb dX2_hearAt_39 rfl (lv_at hl 0 rfl) ?_
      refine cg_4_3_2 hx hb ht hown hK hN hP hthis.1 hthis.2 dX2_hearAt_40 ?_
      have hm_11 : (R this 3) ∈ L ∧ K (R this 3) = 25 := RT.o hRT hthis.1 hthis.2 3 (by decide)
      refine lv_iload_n hx hb dX2_hearAt_43 rfl (lv_at hl 1 rfl) ?_
      refine lv_iload_n hx hb dX2_hearAt_44 rfl (lv_at hl 3 rfl) ?_
      have q_12 : vp_in n 14 := vp_in_iff.mpr ⟨by omega, by omega⟩
      refine cs_25 hx hb hK hP hD hS hm_11.1 hm_11.2 q_12 dX2_hearAt_45 (fun H locs hP hD hS => ?_)
      replace hE := EV.up hE hm_11.2 (i := (Int32.toNatClampNeg n)) (ow_any n3)
      generalize (va_up E_10 (R this 3) (upd (E_10 (R this 3)) (Int32.toNatClampNeg n) n3)) = E_13 at hP hD hE
      refine W.widen (k := 0) (n := 0) (Nat.le_of_ble_eq_true rfl) (Nat.le_of_ble_eq_true rfl) ?_
      exact W.vret hx hb hr (fun t ht9 hW => ⟨⟨(I, J, E_13, B), rfl, ⟨hI, hE, hC_0, trivial⟩, ⟨by rw [ht9]; exact hP, hD⟩⟩, hS.F ht9⟩) hS.2.2 dX2_hearAt_46
    · have q_14 : ¬ n2.toInt = (0 : Int32).toInt := by have := (not_congr (ow_eq _ _)).mp c_3; omega
      refine lv_iload_n hx hb dX2_hearAt_15 rfl (lv_at hl 3 rfl) ?_
      refine lv_aload_n hx hb dX2_hearAt_16 rfl (lv_at hl 0 rfl) ?_
      refine cg_4_1_2 hx hb ht hown hK hN hP hthis.1 hthis.2 dX2_hearAt_17 ?_
      have hm_15 : (R this 1) ∈ L ∧ K (R this 1) = 25 := RT.o hRT hthis.1 hthis.2 1 (by decide)
      refine lv_iload_n hx hb dX2_hearAt_20 rfl (lv_at hl 1 rfl) ?_
      have q_16 : vp_in n 14 := vp_in_iff.mpr ⟨by omega, by omega⟩
      refine cl_25 hx hb hK hP hm_15.1 hm_15.2 q_16 dX2_hearAt_21 ?_
      refine lv_topi (fun v_17 ev_17 => ?_)
      refine lv_icmp_ge (tgt := 39) hx hb dX2_hearAt_22 (by decide) (fun c_18 => ?_) (fun c_18 => ?_)
      · have q_19 : v_17.toInt ≤ n3.toInt := (ow_le _ _).mp c_18
        refine lv_aload_n hx hb dX2_hearAt_39 rfl (lv_at hl 0 rfl) ?_
        refine cg_4_3_2 hx hb ht hown hK hN hP hthis.1 hthis.2 dX2_hearAt_40 ?_
        have hm_20 : (R this 3) ∈ L ∧ K (R this 3) = 25 := RT.o hRT hthis.1 hthis.2 3 (by decide)
        refine lv_iload_n hx hb dX2_hearAt_43 rfl (lv_at hl 1 rfl) ?_
        refine lv_iload_n hx hb dX2_hearAt_44 rfl (lv_at hl 3 rfl) ?_
        have q_21 : vp_in n 14 := vp_in_iff.mpr ⟨by omega, by omega⟩
        refine cs_25 hx hb hK hP hD hS hm_20.1 hm_20.2 q_21 dX2_hearAt_45 (fun H locs hP hD hS => ?_)
        replace hE := EV.up hE hm_20.2 (i := (Int32.toNatClampNeg n)) (ow_any n3)
        generalize (va_up E (R this 3) (upd (E (R this 3)) (Int32.toNatClampNeg n) n3)) = E_22 at hP hD hE
        refine W.widen (k := 0) (n := 0) (Nat.le_of_ble_eq_true rfl) (Nat.le_of_ble_eq_true rfl) ?_
        exact W.vret hx hb hr (fun t ht9 hW => ⟨⟨(I, J, E_22, B), rfl, ⟨hI, hE, hC_0, trivial⟩, ⟨by rw [ht9]; exact hP, hD⟩⟩, hS.F ht9⟩) hS.2.2 dX2_hearAt_46
      · have q_23 : n3.toInt < v_17.toInt := by have := (not_congr (ow_le _ _)).mp c_18; omega
        refine lv_aload_n hx hb dX2_hearAt_25 rfl (lv_at hl 0 rfl) ?_
        refine cg_4_1_2 hx hb ht hown hK hN hP hthis.1 hthis.2 dX2_hearAt_26 ?_
        refine lv_iload_n hx hb dX2_hearAt_29 rfl (lv_at hl 1 rfl) ?_
        refine lv_iload_n hx hb dX2_hearAt_30 rfl (lv_at hl 3 rfl) ?_
        have q_24 : vp_in n 14 := vp_in_iff.mpr ⟨by omega, by omega⟩
        refine cs_25 hx hb hK hP hD hS hm_15.1 hm_15.2 q_24 dX2_hearAt_31 (fun H locs hP hD hS => ?_)
        replace hE := EV.up hE hm_15.2 (i := (Int32.toNatClampNeg n)) (ow_any n3)
        generalize (va_up E (R this 1) (upd (E (R this 1)) (Int32.toNatClampNeg n) n3)) = E_25 at hP hD hE
        refine lv_aload_n hx hb dX2_hearAt_32 rfl (lv_at hl 0 rfl) ?_
        refine cg_4_0_2 hx hb ht hown hK hN hP hthis.1 hthis.2 dX2_hearAt_33 ?_
        have hm_26 : (R this 0) ∈ L ∧ K (R this 0) = 25 := RT.o hRT hthis.1 hthis.2 0 (by decide)
        refine lv_iload_n hx hb dX2_hearAt_36 rfl (lv_at hl 1 rfl) ?_
        refine lv_iload_n hx hb dX2_hearAt_37 rfl (lv_at hl 2 rfl) ?_
        have q_27 : vp_in n 14 := vp_in_iff.mpr ⟨by omega, by omega⟩
        refine cs_25 hx hb hK hP hD hS hm_26.1 hm_26.2 q_27 dX2_hearAt_38 (fun H locs hP hD hS => ?_)
        replace hE := EV.up hE hm_26.2 (i := (Int32.toNatClampNeg n)) (ow_any n2)
        generalize (va_up E_25 (R this 0) (upd (E_25 (R this 0)) (Int32.toNatClampNeg n) n2)) = E_28 at hP hD hE
        refine lv_aload_n hx hb dX2_hearAt_39 rfl (lv_at hl 0 rfl) ?_
        refine cg_4_3_2 hx hb ht hown hK hN hP hthis.1 hthis.2 dX2_hearAt_40 ?_
        have hm_29 : (R this 3) ∈ L ∧ K (R this 3) = 25 := RT.o hRT hthis.1 hthis.2 3 (by decide)
        refine lv_iload_n hx hb dX2_hearAt_43 rfl (lv_at hl 1 rfl) ?_
        refine lv_iload_n hx hb dX2_hearAt_44 rfl (lv_at hl 3 rfl) ?_
        have q_30 : vp_in n 14 := vp_in_iff.mpr ⟨by omega, by omega⟩
        refine cs_25 hx hb hK hP hD hS hm_29.1 hm_29.2 q_30 dX2_hearAt_45 (fun H locs hP hD hS => ?_)
        replace hE := EV.up hE hm_29.2 (i := (Int32.toNatClampNeg n)) (ow_any n3)
        generalize (va_up E_28 (R this 3) (upd (E_28 (R this 3)) (Int32.toNatClampNeg n) n3)) = E_31 at hP hD hE
        refine W.widen (k := 0) (n := 0) (Nat.le_of_ble_eq_true rfl) (Nat.le_of_ble_eq_true rfl) ?_
        exact W.vret hx hb hr (fun t ht9 hW => ⟨⟨(I, J, E_31, B), rfl, ⟨hI, hE, hC_0, trivial⟩, ⟨by rw [ht9]; exact hP, hD⟩⟩, hS.F ht9⟩) hS.2.2 dX2_hearAt_46
  · have q_32 : n2.toInt = (0 : Int32).toInt := (ow_eq _ _).mp c_1
    refine lv_aload_n hx hb dX2_hearAt_4 rfl (lv_at hl 0 rfl) ?_
    refine cg_4_2_2 hx hb ht hown hK hN hP hthis.1 hthis.2 dX2_hearAt_5 ?_
    have hm_33 : (R this 2) ∈ L ∧ K (R this 2) = 25 := RT.o hRT hthis.1 hthis.2 2 (by decide)
    refine lv_iload_n hx hb dX2_hearAt_8 rfl (lv_at hl 1 rfl) ?_
    refine lv_iload_n hx hb dX2_hearAt_9 rfl (lv_at hl 3 rfl) ?_
    have q_34 : vp_in n 14 := vp_in_iff.mpr ⟨by omega, by omega⟩
    refine cs_25 hx hb hK hP hD hS hm_33.1 hm_33.2 q_34 dX2_hearAt_10 (fun H locs hP hD hS => ?_)
    replace hE := EV.up hE hm_33.2 (i := (Int32.toNatClampNeg n)) (ow_any n3)
    generalize (va_up E (R this 2) (upd (E (R this 2)) (Int32.toNatClampNeg n) n3)) = E_35 at hP hD hE
    refine lv_iload_n hx hb dX2_hearAt_11 rfl (lv_at hl 2 rfl) ?_
    refine lv_if_eq (tgt := 25) hx hb dX2_hearAt_12 (by decide) (fun c_36 => ?_) (fun c_36 => ?_)
    · have q_37 : n2.toInt = (0 : Int32).toInt := (ow_eq _ _).mp c_36
      refine lv_aload_n hx hb dX2_hearAt_25 rfl (lv_at hl 0 rfl) ?_
      refine cg_4_1_2 hx hb ht hown hK hN hP hthis.1 hthis.2 dX2_hearAt_26 ?_
      have hm_38 : (R this 1) ∈ L ∧ K (R this 1) = 25 := RT.o hRT hthis.1 hthis.2 1 (by decide)
      refine lv_iload_n hx hb dX2_hearAt_29 rfl (lv_at hl 1 rfl) ?_
      refine lv_iload_n hx hb dX2_hearAt_30 rfl (lv_at hl 3 rfl) ?_
      have q_39 : vp_in n 14 := vp_in_iff.mpr ⟨by omega, by omega⟩
      refine cs_25 hx hb hK hP hD hS hm_38.1 hm_38.2 q_39 dX2_hearAt_31 (fun H locs hP hD hS => ?_)
      replace hE := EV.up hE hm_38.2 (i := (Int32.toNatClampNeg n)) (ow_any n3)
      generalize (va_up E_35 (R this 1) (upd (E_35 (R this 1)) (Int32.toNatClampNeg n) n3)) = E_40 at hP hD hE
      refine lv_aload_n hx hb dX2_hearAt_32 rfl (lv_at hl 0 rfl) ?_
      refine cg_4_0_2 hx hb ht hown hK hN hP hthis.1 hthis.2 dX2_hearAt_33 ?_
      have hm_41 : (R this 0) ∈ L ∧ K (R this 0) = 25 := RT.o hRT hthis.1 hthis.2 0 (by decide)
      refine lv_iload_n hx hb dX2_hearAt_36 rfl (lv_at hl 1 rfl) ?_
      refine lv_iload_n hx hb dX2_hearAt_37 rfl (lv_at hl 2 rfl) ?_
      have q_42 : vp_in n 14 := vp_in_iff.mpr ⟨by omega, by omega⟩
      refine cs_25 hx hb hK hP hD hS hm_41.1 hm_41.2 q_42 dX2_hearAt_38 (fun H locs hP hD hS => ?_)
      replace hE := EV.up hE hm_41.2 (i := (Int32.toNatClampNeg n)) (ow_any n2)
      generalize (va_up E_40 (R this 0) (upd (E_40 (R this 0)) (Int32.toNatClampNeg n) n2)) = E_43 at hP hD hE
      refine lv_aload_n hx hb dX2_hearAt_39 rfl (lv_at hl 0 rfl) ?_
      refine cg_4_3_2 hx hb ht hown hK hN hP hthis.1 hthis.2 dX2_hearAt_40 ?_
      have hm_44 : (R this 3) ∈ L ∧ K (R this 3) = 25 := RT.o hRT hthis.1 hthis.2 3 (by decide)
      refine lv_iload_n hx hb dX2_hearAt_43 rfl (lv_at hl 1 rfl) ?_
      refine lv_iload_n hx hb dX2_hearAt_44 rfl (lv_at hl 3 rfl) ?_
      have q_45 : vp_in n 14 := vp_in_iff.mpr ⟨by omega, by omega⟩
      refine cs_25 hx hb hK hP hD hS hm_44.1 hm_44.2 q_45 dX2_hearAt_45 (fun H locs hP hD hS => ?_)
      replace hE := EV.up hE hm_44.2 (i := (Int32.toNatClampNeg n)) (ow_any n3)
      generalize (va_up E_43 (R this 3) (upd (E_43 (R this 3)) (Int32.toNatClampNeg n) n3)) = E_46 at hP hD hE
      refine W.widen (k := 0) (n := 0) (Nat.le_of_ble_eq_true rfl) (Nat.le_of_ble_eq_true rfl) ?_
      exact W.vret hx hb hr (fun t ht9 hW => ⟨⟨(I, J, E_46, B), rfl, ⟨hI, hE, hC_0, trivial⟩, ⟨by rw [ht9]; exact hP, hD⟩⟩, hS.F ht9⟩) hS.2.2 dX2_hearAt_46
    · have q_47 : ¬ n2.toInt = (0 : Int32).toInt := by have := (not_congr (ow_eq _ _)).mp c_36; omega
      exfalso
      omega
set_option maxHeartbeats 4000000 in
set_option maxRecDepth 100000 in
theorem c_hearAll2 (l : Launch) (G : va_G) (cy : Nat → ClassId) (sz : Nat) (L : List Nat) (K : Nat → Nat) (R : Nat → Nat → Nat) (T : Int) (I E : Nat → Nat → Int32) (J B : Nat → Nat → Int64) (this : Nat) (song : Nat) (town : Nat) (hRT : RT L K R) (hI : IV T L K I) (hE : EV L K E) (hthis1 : this ∈ L) (hthis2 : K this = 4) (h_song1 : song ∈ L) (h_song2 : K song = 2) (h_town1 : town ∈ L) (h_town2 : K town = 1) : Met l yX2_hearAll (.code yX2_hearAll cX2_hearAll 6 none :: TBg) ({ frames := 4, cells := 0, slots := 0, locals := 256 }) (va_Pc [.ref this, .ref song, .ref town] (En G cy (WC cy L K R I J E B) sz)) (va_Qv (fun (u : (Nat → Nat → Int32) × (Nat → Nat → Int64) × (Nat → Nat → Int32) × (Nat → Nat → Int64)) => IV T L K u.1 ∧ EV L K u.2.2.1 ∧ FI [(4, 4)] K I u.1 ∧ (True)) (fun u t => Ex G (va_A (WC cy L K R I J E B) sz) (WC cy L K R u.1 u.2.1 u.2.2.1 u.2.2.2) t) (va_A (WC cy L K R I J E B) sz)) 0 0 (va_A (WC cy L K R I J E B) sz) := by
  have hthis : this ∈ L ∧ K this = 4 := ⟨hthis1, hthis2⟩
  have h_song : song ∈ L ∧ K song = 2 := ⟨h_song1, h_song2⟩
  have h_town : town ∈ L ∧ K town = 1 := ⟨h_town1, h_town2⟩
  refine Met.ofW (cc := cX2_hearAll) (maxL := 6) (ret := none) (by decide) rfl ?_
  intro p e s m args below meth c s₁ B9 hml hv9
  obtain ⟨rfl, hsz, hP, hK, hD0, hN⟩ := hv9
  have hx := B9.exec
  have hb := B9.bytes
  have hr := B9.returns
  have hts := atoms_spec (ws := .code yX2_hearAll cX2_hearAll 6 none :: TBg) B9.pre
  have ht : ∀ w ∈ TBg, w.before _ s = true := fun w h => hts w (List.mem_cons_of_mem _ h)
  have hown : s.vm.findClass RX2 = some m.cls := findClass_of_methodNamed B9.named
  have hlocks := B9.notSynchronized
  subst hsz
  have hD := hD0.self (sz := s.heap.size)
  generalize hAe : va_A (WC cy L K R I J E B) s.heap.size = A at hD ⊢
  have hA : ∀ q : Nat, s.heap.size ≤ q → A q := fun q h => by rw [← hAe]; exact Or.inr h
  have hS : va_S A s.heap s.heap [] := va_S.rf
  have hl := lv_entry ([.ref this, .ref song, .ref town]) (n := 6) (Nat.le_of_ble_eq_true rfl)
  rw [lg_entry_eq]
  generalize (lg_sl ([.ref this, .ref song, .ref town]) ++ List.replicate (6 - (lg_sl ([.ref this, .ref song, .ref town])).length) Slot.unset).toArray = ls at hl ⊢
  have hl : lv_has ls 6 [(0, .ref this), (1, .ref song), (2, .ref town)] := hl
  have z0 : (0 : Int32).toInt = 0 := by decide
  have z1 : (1 : Int32).toInt = 1 := by decide
  have hC_0 : FI [(4, 4)] K I I := FI.rf
  refine lv_aload_n hx hb dX2_hearAll_0 rfl (lv_at hl 0 rfl) ?_
  refine lv_aload_n hx hb dX2_hearAll_1 rfl (lv_at hl 1 rfl) ?_
  refine cg_2_2_2 hx hb ht hown hK hN hP h_song.1 h_song.2 dX2_hearAll_2 ?_
  have q_1 : 0 ≤ (I song 2).toInt ∧ (I song 2).toInt ≤ 12 := IV.rd hI h_song.1 h_song.2 2
  refine cp_4_4_2 hx hb ht hown hK hN hP hD hS hthis.1 hthis.2 dX2_hearAll_5 (fun H locs hP hD hS => ?_)
  replace hI := IV.up hI hthis.2 4 (ow_any (I song 2))
  have f_2 : FI [(4, 4)] K I (va_up I this (va_up (I this) 4 (I song 2))) := FI.up hthis.2 4 (I song 2)
  have e_3 : (va_up I this (va_up (I this) 4 (I song 2))) this 4 = (I song 2) := FI.at I this 4 (I song 2)
  replace hC_0 := FI.tr hC_0 f_2 (by decide)
  generalize (va_up I this (va_up (I this) 4 (I song 2))) = I_4 at hP hD hI f_2 e_3 hC_0
  refine lv_iconst (v := 0) hx hb dX2_hearAll_8 (by decide) ?_
  refine lv_istore_n (lv' := [(3, .int 0), (0, .ref this), (1, .ref song), (2, .ref town)]) hx hb dX2_hearAll_9 rfl hl (by decide) rfl (fun ls hl => ?_)
  refine W.widen (k := 0) (n := 0) (Nat.le_of_ble_eq_true rfl) (Nat.le_of_ble_eq_true rfl) ?_
  have lp_5 : ∀ (N_5 : Nat) (x3_5 : Int32) (I5 : Nat → Nat → Int32) (J5 : Nat → Nat → Int64) (E5 : Nat → Nat → Int32) (B5 : Nat → Nat → Int64) (H : Heap) (locs : List Loc) (ls : Array Slot), IV T L K I5 → EV L K E5 → FI [(4, 4)] K I_4 I5 → (0 ≤ x3_5.toInt ∧ x3_5.toInt ≤ 14) → (14 - x3_5.toInt).toNat < N_5 → va_P G vwCl (WC cy L K R I5 J5 E5 B5) H → va_D A (WC cy L K R I5 J5 E5 B5) → va_S A s.heap H locs → lv_has ls 6 [(3, .int x3_5), (0, .ref this), (1, .ref song), (2, .ref town)] → W p l e (headSpec (.code yX2_hearAll cX2_hearAll 6 none :: TBg) ({ frames := 4, cells := 0, slots := 0, locals := 256 })).room s m ([.ref this, .ref song, .ref town] : List Value).toArray below meth c H locs 0 0 (MQ below (va_Qv (fun (u : (Nat → Nat → Int32) × (Nat → Nat → Int64) × (Nat → Nat → Int32) × (Nat → Nat → Int64)) => IV T L K u.1 ∧ EV L K u.2.2.1 ∧ FI [(4, 4)] K I u.1 ∧ (True)) (fun u t => Ex G A (WC cy L K R u.1 u.2.1 u.2.2.1 u.2.2.2) t) A) ([.ref this, .ref song, .ref town] : List Value).toArray s 0 0 A) (F0 m 10 ls []) := by
    intro N_5
    induction N_5 with
    | zero => intro x3_5 I5 J5 E5 B5 H locs ls hI hE hC_5 qf5_0 hm9 hP hD hS hl; exact absurd hm9 (Nat.not_lt_zero _)
    | succ N_5 ih_5 =>
      intro x3_5 I5 J5 E5 B5 H locs ls hI hE hC_5 qf5_0 hm9 hP hD hS hl
      replace hC_0 := FI.tr hC_0 hC_5 (by decide)
      have hX_5 := hC_5
      refine lv_iload_n hx hb dX2_hearAll_10 rfl (lv_at hl 0 rfl) ?_
      refine lv_aload_n hx hb dX2_hearAll_11 rfl (lv_at hl 3 rfl) ?_
      refine cg_1_3_2 hx hb ht hown hK hN hP h_town.1 h_town.2 dX2_hearAll_12 ?_
      refine ow_top (I town 3) ((hC_5 town 3 (by rw [h_town.2]; decide)).trans (f_2 town 3 (by rw [h_town.2]; decide))) ?_
      have q_6 : 0 ≤ (I town 3).toInt ∧ (I town 3).toInt ≤ 14 := by have h9 : I5 town 3 = (I town 3) := ((hC_5 town 3 (by rw [h_town.2]; decide)).trans (f_2 town 3 (by rw [h_town.2]; decide))); rw [← h9]; exact IV.rd hI h_town.1 h_town.2 3
      refine lv_icmp_ge (tgt := 103) hx hb dX2_hearAll_15 (by decide) (fun c_7 => ?_) (fun c_7 => ?_)
      · have q_8 : (I town 3).toInt ≤ x3_5.toInt := (ow_le _ _).mp c_7
        refine W.widen (k := 0) (n := 0) (Nat.le_of_ble_eq_true rfl) (Nat.le_of_ble_eq_true rfl) ?_
        exact W.vret hx hb hr (fun t ht9 hW => ⟨⟨(I5, J5, E5, B5), rfl, ⟨hI, hE, hC_0, trivial⟩, ⟨by rw [ht9]; exact hP, hD⟩⟩, hS.F ht9⟩) hS.2.2 dX2_hearAll_103
      · have q_9 : x3_5.toInt < (I town 3).toInt := by have := (not_congr (ow_le _ _)).mp c_7; omega
        refine lv_aload_n hx hb dX2_hearAll_18 rfl (lv_at hl 1 rfl) ?_
        refine cg_4_0_2 hx hb ht hown hK hN hP hthis.1 hthis.2 dX2_hearAll_19 ?_
        have hm_10 : (R this 0) ∈ L ∧ K (R this 0) = 25 := RT.o hRT hthis.1 hthis.2 0 (by decide)
        refine lv_iload_n hx hb dX2_hearAll_22 rfl (lv_at hl 0 rfl) ?_
        refine lv_iconst (v := (-1)) hx hb dX2_hearAll_23 (by decide) ?_
        have q_11 : vp_in x3_5 14 := vp_in_iff.mpr ⟨by omega, by omega⟩
        refine cs_25 hx hb hK hP hD hS hm_10.1 hm_10.2 q_11 dX2_hearAll_24 (fun H locs hP hD hS => ?_)
        replace hE := EV.up hE hm_10.2 (i := (Int32.toNatClampNeg x3_5)) (ow_any ((-1) : Int32))
        generalize (va_up E5 (R this 0) (upd (E5 (R this 0)) (Int32.toNatClampNeg x3_5) (-1))) = E_12 at hP hD hE
        refine lv_aload_n hx hb dX2_hearAll_25 rfl (lv_at hl 1 rfl) ?_
        refine cg_4_1_2 hx hb ht hown hK hN hP hthis.1 hthis.2 dX2_hearAll_26 ?_
        have hm_13 : (R this 1) ∈ L ∧ K (R this 1) = 25 := RT.o hRT hthis.1 hthis.2 1 (by decide)
        refine lv_iload_n hx hb dX2_hearAll_29 rfl (lv_at hl 0 rfl) ?_
        refine lv_iconst (v := (-1)) hx hb dX2_hearAll_30 (by decide) ?_
        have q_14 : vp_in x3_5 14 := vp_in_iff.mpr ⟨by omega, by omega⟩
        refine cs_25 hx hb hK hP hD hS hm_13.1 hm_13.2 q_14 dX2_hearAll_31 (fun H locs hP hD hS => ?_)
        replace hE := EV.up hE hm_13.2 (i := (Int32.toNatClampNeg x3_5)) (ow_any ((-1) : Int32))
        generalize (va_up E_12 (R this 1) (upd (E_12 (R this 1)) (Int32.toNatClampNeg x3_5) (-1))) = E_15 at hP hD hE
        refine lv_aload_n hx hb dX2_hearAll_32 rfl (lv_at hl 1 rfl) ?_
        refine cg_4_2_2 hx hb ht hown hK hN hP hthis.1 hthis.2 dX2_hearAll_33 ?_
        have hm_16 : (R this 2) ∈ L ∧ K (R this 2) = 25 := RT.o hRT hthis.1 hthis.2 2 (by decide)
        refine lv_iload_n hx hb dX2_hearAll_36 rfl (lv_at hl 0 rfl) ?_
        refine lv_iconst (v := (-1)) hx hb dX2_hearAll_37 (by decide) ?_
        have q_17 : vp_in x3_5 14 := vp_in_iff.mpr ⟨by omega, by omega⟩
        refine cs_25 hx hb hK hP hD hS hm_16.1 hm_16.2 q_17 dX2_hearAll_38 (fun H locs hP hD hS => ?_)
        replace hE := EV.up hE hm_16.2 (i := (Int32.toNatClampNeg x3_5)) (ow_any ((-1) : Int32))
        generalize (va_up E_15 (R this 2) (upd (E_15 (R this 2)) (Int32.toNatClampNeg x3_5) (-1))) = E_18 at hP hD hE
        refine lv_aload_n hx hb dX2_hearAll_39 rfl (lv_at hl 1 rfl) ?_
        refine cg_4_3_2 hx hb ht hown hK hN hP hthis.1 hthis.2 dX2_hearAll_40 ?_
        have hm_19 : (R this 3) ∈ L ∧ K (R this 3) = 25 := RT.o hRT hthis.1 hthis.2 3 (by decide)
        refine lv_iload_n hx hb dX2_hearAll_43 rfl (lv_at hl 0 rfl) ?_
        refine lv_iconst (v := (-1)) hx hb dX2_hearAll_44 (by decide) ?_
        have q_20 : vp_in x3_5 14 := vp_in_iff.mpr ⟨by omega, by omega⟩
        refine cs_25 hx hb hK hP hD hS hm_19.1 hm_19.2 q_20 dX2_hearAll_45 (fun H locs hP hD hS => ?_)
        replace hE := EV.up hE hm_19.2 (i := (Int32.toNatClampNeg x3_5)) (ow_any ((-1) : Int32))
        generalize (va_up E_18 (R this 3) (upd (E_18 (R this 3)) (Int32.toNatClampNeg x3_5) (-1))) = E_21 at hP hD hE
        refine lv_aload_n hx hb dX2_hearAll_46 rfl (lv_at hl 2 rfl) ?_
        refine cg_2_2_2 hx hb ht hown hK hN hP h_song.1 h_song.2 dX2_hearAll_47 ?_
        refine ow_top (I song 2) ((hC_5 song 2 (by rw [h_song.2]; decide)).trans (f_2 song 2 (by rw [h_song.2]; decide))) ?_
        have q_22 : 0 ≤ (I song 2).toInt ∧ (I song 2).toInt ≤ 12 := by have h9 : I5 song 2 = (I song 2) := ((hC_5 song 2 (by rw [h_song.2]; decide)).trans (f_2 song 2 (by rw [h_song.2]; decide))); rw [← h9]; exact IV.rd hI h_song.1 h_song.2 2
        refine lv_aload_n hx hb dX2_hearAll_50 rfl (lv_at hl 3 rfl) ?_
        refine cg_1_0_2 hx hb ht hown hK hN hP h_town.1 h_town.2 dX2_hearAll_51 ?_
        have hm_23 : (R town 0) ∈ L ∧ K (R town 0) = 29 := RT.o hRT h_town.1 h_town.2 0 (by decide)
        refine lv_iload_n hx hb dX2_hearAll_54 rfl (lv_at hl 0 rfl) ?_
        have q_24 : vp_in x3_5 14 := vp_in_iff.mpr ⟨by omega, by omega⟩
        refine cl_29 hx hb hK hP hm_23.1 hm_23.2 q_24 dX2_hearAll_55 ?_
        have hm_25 : (R (R town 0) (Int32.toNatClampNeg x3_5)) ∈ L ∧ K (R (R town 0) (Int32.toNatClampNeg x3_5)) = 2 := RT.a hRT hm_23.1 hm_23.2 (by decide) q_24
        refine cg_2_2_2 hx hb ht hown hK hN hP hm_25.1 hm_25.2 dX2_hearAll_56 ?_
        have q_26 : 0 ≤ (I5 (R (R town 0) (Int32.toNatClampNeg x3_5)) 2).toInt ∧ (I5 (R (R town 0) (Int32.toNatClampNeg x3_5)) 2).toInt ≤ 12 := IV.rd hI hm_25.1 hm_25.2 2
        refine lv_isub hx hb dX2_hearAll_59 ?_
        refine lv_topi (fun v_27 ev_27 => ?_)
        have q_28 : v_27.toInt = (I song 2).toInt - (I5 (R (R town 0) (Int32.toNatClampNeg x3_5)) 2).toInt := ow_sub ev_27 (by omega) (by omega)
        refine lv_istore (lv' := [(4, .int v_27), (3, .int x3_5), (0, .ref this), (1, .ref song), (2, .ref town)]) hx hb dX2_hearAll_60 hl (by decide) rfl (fun ls hl => ?_)
        refine lv_iconst (v := 0) hx hb dX2_hearAll_62 (by decide) ?_
        refine lv_istore (lv' := [(5, .int 0), (4, .int v_27), (3, .int x3_5), (0, .ref this), (1, .ref song), (2, .ref town)]) hx hb dX2_hearAll_63 hl (by decide) rfl (fun ls hl => ?_)
        refine W.widen (k := 0) (n := 0) (Nat.le_of_ble_eq_true rfl) (Nat.le_of_ble_eq_true rfl) ?_
        have lp_29 : ∀ (N_29 : Nat) (x5_29 : Int32) (I29 : Nat → Nat → Int32) (J29 : Nat → Nat → Int64) (E29 : Nat → Nat → Int32) (B29 : Nat → Nat → Int64) (H : Heap) (locs : List Loc) (ls : Array Slot), IV T L K I29 → EV L K E29 → FI [(4, 4)] K I5 I29 → (0 ≤ x5_29.toInt ∧ x5_29.toInt ≤ 41) → (41 - x5_29.toInt).toNat < N_29 → va_P G vwCl (WC cy L K R I29 J29 E29 B29) H → va_D A (WC cy L K R I29 J29 E29 B29) → va_S A s.heap H locs → lv_has ls 6 [(5, .int x5_29), (4, .int v_27), (3, .int x3_5), (0, .ref this), (1, .ref song), (2, .ref town)] → W p l e (headSpec (.code yX2_hearAll cX2_hearAll 6 none :: TBg) ({ frames := 4, cells := 0, slots := 0, locals := 256 })).room s m ([.ref this, .ref song, .ref town] : List Value).toArray below meth c H locs 0 0 (MQ below (va_Qv (fun (u : (Nat → Nat → Int32) × (Nat → Nat → Int64) × (Nat → Nat → Int32) × (Nat → Nat → Int64)) => IV T L K u.1 ∧ EV L K u.2.2.1 ∧ FI [(4, 4)] K I u.1 ∧ (True)) (fun u t => Ex G A (WC cy L K R u.1 u.2.1 u.2.2.1 u.2.2.2) t) A) ([.ref this, .ref song, .ref town] : List Value).toArray s 0 0 A) (F0 m 65 ls []) := by
          intro N_29
          induction N_29 with
          | zero => intro x5_29 I29 J29 E29 B29 H locs ls hI hE hC_29 qf29_0 hm9 hP hD hS hl; exact absurd hm9 (Nat.not_lt_zero _)
          | succ N_29 ih_29 =>
            intro x5_29 I29 J29 E29 B29 H locs ls hI hE hC_29 qf29_0 hm9 hP hD hS hl
            replace hC_0 := FI.tr hC_0 hC_29 (by decide)
            replace hX_5 := FI.tr hX_5 hC_29 (by decide)
            have hX_29 := hC_29
            refine lv_iload hx hb dX2_hearAll_65 (lv_at hl 0 rfl) ?_
            refine lv_iload hx hb dX2_hearAll_67 (lv_at hl 1 rfl) ?_
            refine lv_icmp_gt (tgt := 97) hx hb dX2_hearAll_69 (by decide) (fun c_30 => ?_) (fun c_30 => ?_)
            · have q_31 : v_27.toInt < x5_29.toInt := (ow_lt _ _).mp c_30
              obtain ⟨v_32, ev_32⟩ : ∃ y : Int32, y = x3_5 + 1 := ⟨_, rfl⟩
              refine lv_iinc (v := v_32) (lv' := [(3, .int v_32), (5, .int x5_29), (4, .int v_27), (0, .ref this), (1, .ref song), (2, .ref town)]) hx hb dX2_hearAll_97 hl (k := 2) rfl (by rw [ev_32]; rfl) (by decide) rfl (fun ls hl => ?_)
              have q_33 : v_32.toInt = x3_5.toInt + 1 := by have := ow_add ev_32 (by omega) (by omega); omega
              refine lv_goto (tgt := 10) hx hb dX2_hearAll_100 (by decide) ?_
              refine W.widen (k := 0) (n := 0) (Nat.le_of_ble_eq_true rfl) (Nat.le_of_ble_eq_true rfl) ?_
              exact ih_5 v_32 I29 J29 E29 B29 _ _ _ hI hE hX_5 (by omega) (by omega) hP hD hS (lv_sub hl [0, 3, 4, 5] rfl)
            · have q_34 : x5_29.toInt ≤ v_27.toInt := by have := (not_congr (ow_lt _ _)).mp c_30; omega
              refine lv_aload_n hx hb dX2_hearAll_72 rfl (lv_at hl 3 rfl) ?_
              refine lv_iload_n hx hb dX2_hearAll_73 rfl (lv_at hl 2 rfl) ?_
              refine lv_iload hx hb dX2_hearAll_74 (lv_at hl 0 rfl) ?_
              refine lv_aload_n hx hb dX2_hearAll_76 rfl (lv_at hl 5 rfl) ?_
              refine cg_1_0_2 hx hb ht hown hK hN hP h_town.1 h_town.2 dX2_hearAll_77 ?_
              refine lv_iload_n hx hb dX2_hearAll_80 rfl (lv_at hl 2 rfl) ?_
              have q_35 : vp_in x3_5 14 := vp_in_iff.mpr ⟨by omega, by omega⟩
              refine cl_29 hx hb hK hP hm_23.1 hm_23.2 q_35 dX2_hearAll_81 ?_
              have hm_36 : (R (R town 0) (Int32.toNatClampNeg x3_5)) ∈ L ∧ K (R (R town 0) (Int32.toNatClampNeg x3_5)) = 2 := RT.a hRT hm_23.1 hm_23.2 (by decide) q_35
              refine lv_aload_n hx hb dX2_hearAll_82 rfl (lv_at hl 4 rfl) ?_
              refine lv_iload hx hb dX2_hearAll_83 (lv_at hl 0 rfl) ?_
              have hFc := fr_new hS hA
              refine va_calli (va_runV (As := [.ref song, .int x5_29]) (rest := [.int x5_29, .int x3_5, .ref this]) ⟨hx, hb, hml, hown, ht⟩ (c_offAt2 l G cy _ L K R T I29 E29 J29 B29 (R (R town 0) (Int32.toNatClampNeg x3_5)) song x5_29 hRT hI hE hm_36.1 hm_36.2 h_song.1 h_song.2) (cwV 2 ht (gv k_424 k_425 k_426 k_399 k_423) rfl rfl rfl (by decide +kernel) ⟨Nat.le_of_ble_eq_true rfl, Nat.le_of_ble_eq_true rfl⟩) ⟨En.blind, cr_2 hK hP hm_36.1 hm_36.2, fun U hU hW => ⟨rfl, En.of hU hW hP hK hD hN⟩⟩ rfl rfl hl.1 rfl (lv_room (Nat.le_of_ble_eq_true rfl)) dX2_hearAll_85 ⟨Nat.le_of_ble_eq_true rfl, Nat.le_of_ble_eq_true rfl⟩) hS (fun q _ h => hFc q h) hFc (fun r_u_37 u_37 t9 H locs ht9 hvm hw hB hz1 hk1 hS => ?_)
              have hP := fr_keep hP hk1
              have wu_37 := hw
              clear hFc hk1 hz1 hB hw
              have hFc := fr_free hD hS hA
              refine va_callv (va_runV (As := [.int x3_5, .int x5_29, .int r_u_37]) (rest := []) ⟨hx, hb, hml, hown, ht⟩ (c_hearAt l G cy _ L K R T I29 E29 J29 B29 this x3_5 x5_29 r_u_37 hRT hI hE hthis.1 hthis.2 (by omega)) (cwV 3 ht (gv k_428 k_429 k_430 k_431 k_427) rfl rfl rfl (by decide +kernel) ⟨Nat.le_of_ble_eq_true rfl, Nat.le_of_ble_eq_true rfl⟩) ⟨En.blind, cr_4 hK hP hthis.1 hthis.2, fun U hU hW => ⟨rfl, En.of hU hW hP hK hD hN⟩⟩ rfl rfl hl.1 rfl (lv_room (Nat.le_of_ble_eq_true rfl)) dX2_hearAll_88 ⟨Nat.le_of_ble_eq_true rfl, Nat.le_of_ble_eq_true rfl⟩) hS (fun q _ h => hFc q h) hFc (fun u_38 t9 H locs ht9 hvm hw hB hz1 hk1 hS => ?_)
              obtain ⟨I38, J38, E38, B38⟩ := u_38
              obtain ⟨hP1, hD1⟩ := hB
              rw [ht9] at hP1
              clear hI hE
              obtain ⟨hI, hE, xu_38I, wu_38⟩ := hw
              dsimp only at hI hE xu_38I wu_38
              have hP : va_P G vwCl (WC cy L K R I38 J38 E38 B38) H := hP1
              have hD : va_D A (WC cy L K R I38 J38 E38 B38) := hD1.weaken (fun _ _ _ h => hFc _ h)
              clear hFc hk1 hz1 hP1 hD1
              replace hC_0 := FI.tr hC_0 xu_38I (by decide)
              replace hX_5 := FI.tr hX_5 xu_38I (by decide)
              replace hX_29 := FI.tr hX_29 xu_38I (by decide)
              obtain ⟨v_39, ev_39⟩ : ∃ y : Int32, y = x5_29 + 1 := ⟨_, rfl⟩
              refine lv_iinc (v := v_39) (lv' := [(5, .int v_39), (4, .int v_27), (3, .int x3_5), (0, .ref this), (1, .ref song), (2, .ref town)]) hx hb dX2_hearAll_91 hl (k := 0) rfl (by rw [ev_39]; rfl) (by decide) rfl (fun ls hl => ?_)
              have q_40 : v_39.toInt = x5_29.toInt + 1 := by have := ow_add ev_39 (by omega) (by omega); omega
              refine lv_goto (tgt := 65) hx hb dX2_hearAll_94 (by decide) ?_
              refine W.widen (k := 0) (n := 0) (Nat.le_of_ble_eq_true rfl) (Nat.le_of_ble_eq_true rfl) ?_
              exact ih_29 v_39 I38 J38 E38 B38 _ _ _ hI hE hX_29 (by omega) (by omega) hP hD hS (lv_sub hl [0, 1, 2, 3, 4, 5] rfl)
        exact lp_29 _ (0) I5 J5 E_21 B5 _ _ _ hI hE FI.rf (by omega) (Nat.lt_succ_self _) hP hD hS (lv_sub hl [0, 1, 2, 3, 4, 5] rfl)
  exact lp_5 _ (0) I_4 J E B _ _ _ hI hE FI.rf (by omega) (Nat.lt_succ_self _) hP hD hS (lv_sub hl [0, 1, 2, 3] rfl)
set_option maxHeartbeats 4000000 in
set_option maxRecDepth 100000 in
theorem c_hearAll3 (l : Launch) (G : va_G) (cy : Nat → ClassId) (sz : Nat) (L : List Nat) (K : Nat → Nat) (R : Nat → Nat → Nat) (T : Int) (I E : Nat → Nat → Int32) (J B : Nat → Nat → Int64) (this : Nat) (song : Nat) (town : Nat) (hRT : RT L K R) (hI : IV T L K I) (hE : EV L K E) (hthis1 : this ∈ L) (hthis2 : K this = 4) (h_song1 : song ∈ L) (h_song2 : K song = 3) (h_town1 : town ∈ L) (h_town2 : K town = 1) : Met l yX2_hearAll (.code yX2_hearAll cX2_hearAll 6 none :: TBg) ({ frames := 4, cells := 0, slots := 0, locals := 256 }) (va_Pc [.ref this, .ref song, .ref town] (En G cy (WC cy L K R I J E B) sz)) (va_Qv (fun (u : (Nat → Nat → Int32) × (Nat → Nat → Int64) × (Nat → Nat → Int32) × (Nat → Nat → Int64)) => IV T L K u.1 ∧ EV L K u.2.2.1 ∧ FI [(4, 4)] K I u.1 ∧ (True)) (fun u t => Ex G (va_A (WC cy L K R I J E B) sz) (WC cy L K R u.1 u.2.1 u.2.2.1 u.2.2.2) t) (va_A (WC cy L K R I J E B) sz)) 0 0 (va_A (WC cy L K R I J E B) sz) := by
  have hthis : this ∈ L ∧ K this = 4 := ⟨hthis1, hthis2⟩
  have h_song : song ∈ L ∧ K song = 3 := ⟨h_song1, h_song2⟩
  have h_town : town ∈ L ∧ K town = 1 := ⟨h_town1, h_town2⟩
  refine Met.ofW (cc := cX2_hearAll) (maxL := 6) (ret := none) (by decide) rfl ?_
  intro p e s m args below meth c s₁ B9 hml hv9
  obtain ⟨rfl, hsz, hP, hK, hD0, hN⟩ := hv9
  have hx := B9.exec
  have hb := B9.bytes
  have hr := B9.returns
  have hts := atoms_spec (ws := .code yX2_hearAll cX2_hearAll 6 none :: TBg) B9.pre
  have ht : ∀ w ∈ TBg, w.before _ s = true := fun w h => hts w (List.mem_cons_of_mem _ h)
  have hown : s.vm.findClass RX2 = some m.cls := findClass_of_methodNamed B9.named
  have hlocks := B9.notSynchronized
  subst hsz
  have hD := hD0.self (sz := s.heap.size)
  generalize hAe : va_A (WC cy L K R I J E B) s.heap.size = A at hD ⊢
  have hA : ∀ q : Nat, s.heap.size ≤ q → A q := fun q h => by rw [← hAe]; exact Or.inr h
  have hS : va_S A s.heap s.heap [] := va_S.rf
  have hl := lv_entry ([.ref this, .ref song, .ref town]) (n := 6) (Nat.le_of_ble_eq_true rfl)
  rw [lg_entry_eq]
  generalize (lg_sl ([.ref this, .ref song, .ref town]) ++ List.replicate (6 - (lg_sl ([.ref this, .ref song, .ref town])).length) Slot.unset).toArray = ls at hl ⊢
  have hl : lv_has ls 6 [(0, .ref this), (1, .ref song), (2, .ref town)] := hl
  have z0 : (0 : Int32).toInt = 0 := by decide
  have z1 : (1 : Int32).toInt = 1 := by decide
  have hC_0 : FI [(4, 4)] K I I := FI.rf
  refine lv_aload_n hx hb dX2_hearAll_0 rfl (lv_at hl 0 rfl) ?_
  refine lv_aload_n hx hb dX2_hearAll_1 rfl (lv_at hl 1 rfl) ?_
  refine cg_3_2_2 hx hb ht hown hK hN hP h_song.1 h_song.2 dX2_hearAll_2 ?_
  have q_1 : 0 ≤ (I song 2).toInt ∧ (I song 2).toInt ≤ 40 := IV.rd hI h_song.1 h_song.2 2
  refine cp_4_4_2 hx hb ht hown hK hN hP hD hS hthis.1 hthis.2 dX2_hearAll_5 (fun H locs hP hD hS => ?_)
  replace hI := IV.up hI hthis.2 4 (ow_any (I song 2))
  have f_2 : FI [(4, 4)] K I (va_up I this (va_up (I this) 4 (I song 2))) := FI.up hthis.2 4 (I song 2)
  have e_3 : (va_up I this (va_up (I this) 4 (I song 2))) this 4 = (I song 2) := FI.at I this 4 (I song 2)
  replace hC_0 := FI.tr hC_0 f_2 (by decide)
  generalize (va_up I this (va_up (I this) 4 (I song 2))) = I_4 at hP hD hI f_2 e_3 hC_0
  refine lv_iconst (v := 0) hx hb dX2_hearAll_8 (by decide) ?_
  refine lv_istore_n (lv' := [(3, .int 0), (0, .ref this), (1, .ref song), (2, .ref town)]) hx hb dX2_hearAll_9 rfl hl (by decide) rfl (fun ls hl => ?_)
  refine W.widen (k := 0) (n := 0) (Nat.le_of_ble_eq_true rfl) (Nat.le_of_ble_eq_true rfl) ?_
  have lp_5 : ∀ (N_5 : Nat) (x3_5 : Int32) (I5 : Nat → Nat → Int32) (J5 : Nat → Nat → Int64) (E5 : Nat → Nat → Int32) (B5 : Nat → Nat → Int64) (H : Heap) (locs : List Loc) (ls : Array Slot), IV T L K I5 → EV L K E5 → FI [(4, 4)] K I_4 I5 → (0 ≤ x3_5.toInt ∧ x3_5.toInt ≤ 14) → (14 - x3_5.toInt).toNat < N_5 → va_P G vwCl (WC cy L K R I5 J5 E5 B5) H → va_D A (WC cy L K R I5 J5 E5 B5) → va_S A s.heap H locs → lv_has ls 6 [(3, .int x3_5), (0, .ref this), (1, .ref song), (2, .ref town)] → W p l e (headSpec (.code yX2_hearAll cX2_hearAll 6 none :: TBg) ({ frames := 4, cells := 0, slots := 0, locals := 256 })).room s m ([.ref this, .ref song, .ref town] : List Value).toArray below meth c H locs 0 0 (MQ below (va_Qv (fun (u : (Nat → Nat → Int32) × (Nat → Nat → Int64) × (Nat → Nat → Int32) × (Nat → Nat → Int64)) => IV T L K u.1 ∧ EV L K u.2.2.1 ∧ FI [(4, 4)] K I u.1 ∧ (True)) (fun u t => Ex G A (WC cy L K R u.1 u.2.1 u.2.2.1 u.2.2.2) t) A) ([.ref this, .ref song, .ref town] : List Value).toArray s 0 0 A) (F0 m 10 ls []) := by
    intro N_5
    induction N_5 with
    | zero => intro x3_5 I5 J5 E5 B5 H locs ls hI hE hC_5 qf5_0 hm9 hP hD hS hl; exact absurd hm9 (Nat.not_lt_zero _)
    | succ N_5 ih_5 =>
      intro x3_5 I5 J5 E5 B5 H locs ls hI hE hC_5 qf5_0 hm9 hP hD hS hl
      replace hC_0 := FI.tr hC_0 hC_5 (by decide)
      have hX_5 := hC_5
      refine lv_iload_n hx hb dX2_hearAll_10 rfl (lv_at hl 0 rfl) ?_
      refine lv_aload_n hx hb dX2_hearAll_11 rfl (lv_at hl 3 rfl) ?_
      refine cg_1_3_2 hx hb ht hown hK hN hP h_town.1 h_town.2 dX2_hearAll_12 ?_
      refine ow_top (I town 3) ((hC_5 town 3 (by rw [h_town.2]; decide)).trans (f_2 town 3 (by rw [h_town.2]; decide))) ?_
      have q_6 : 0 ≤ (I town 3).toInt ∧ (I town 3).toInt ≤ 14 := by have h9 : I5 town 3 = (I town 3) := ((hC_5 town 3 (by rw [h_town.2]; decide)).trans (f_2 town 3 (by rw [h_town.2]; decide))); rw [← h9]; exact IV.rd hI h_town.1 h_town.2 3
      refine lv_icmp_ge (tgt := 103) hx hb dX2_hearAll_15 (by decide) (fun c_7 => ?_) (fun c_7 => ?_)
      · have q_8 : (I town 3).toInt ≤ x3_5.toInt := (ow_le _ _).mp c_7
        refine W.widen (k := 0) (n := 0) (Nat.le_of_ble_eq_true rfl) (Nat.le_of_ble_eq_true rfl) ?_
        exact W.vret hx hb hr (fun t ht9 hW => ⟨⟨(I5, J5, E5, B5), rfl, ⟨hI, hE, hC_0, trivial⟩, ⟨by rw [ht9]; exact hP, hD⟩⟩, hS.F ht9⟩) hS.2.2 dX2_hearAll_103
      · have q_9 : x3_5.toInt < (I town 3).toInt := by have := (not_congr (ow_le _ _)).mp c_7; omega
        refine lv_aload_n hx hb dX2_hearAll_18 rfl (lv_at hl 1 rfl) ?_
        refine cg_4_0_2 hx hb ht hown hK hN hP hthis.1 hthis.2 dX2_hearAll_19 ?_
        have hm_10 : (R this 0) ∈ L ∧ K (R this 0) = 25 := RT.o hRT hthis.1 hthis.2 0 (by decide)
        refine lv_iload_n hx hb dX2_hearAll_22 rfl (lv_at hl 0 rfl) ?_
        refine lv_iconst (v := (-1)) hx hb dX2_hearAll_23 (by decide) ?_
        have q_11 : vp_in x3_5 14 := vp_in_iff.mpr ⟨by omega, by omega⟩
        refine cs_25 hx hb hK hP hD hS hm_10.1 hm_10.2 q_11 dX2_hearAll_24 (fun H locs hP hD hS => ?_)
        replace hE := EV.up hE hm_10.2 (i := (Int32.toNatClampNeg x3_5)) (ow_any ((-1) : Int32))
        generalize (va_up E5 (R this 0) (upd (E5 (R this 0)) (Int32.toNatClampNeg x3_5) (-1))) = E_12 at hP hD hE
        refine lv_aload_n hx hb dX2_hearAll_25 rfl (lv_at hl 1 rfl) ?_
        refine cg_4_1_2 hx hb ht hown hK hN hP hthis.1 hthis.2 dX2_hearAll_26 ?_
        have hm_13 : (R this 1) ∈ L ∧ K (R this 1) = 25 := RT.o hRT hthis.1 hthis.2 1 (by decide)
        refine lv_iload_n hx hb dX2_hearAll_29 rfl (lv_at hl 0 rfl) ?_
        refine lv_iconst (v := (-1)) hx hb dX2_hearAll_30 (by decide) ?_
        have q_14 : vp_in x3_5 14 := vp_in_iff.mpr ⟨by omega, by omega⟩
        refine cs_25 hx hb hK hP hD hS hm_13.1 hm_13.2 q_14 dX2_hearAll_31 (fun H locs hP hD hS => ?_)
        replace hE := EV.up hE hm_13.2 (i := (Int32.toNatClampNeg x3_5)) (ow_any ((-1) : Int32))
        generalize (va_up E_12 (R this 1) (upd (E_12 (R this 1)) (Int32.toNatClampNeg x3_5) (-1))) = E_15 at hP hD hE
        refine lv_aload_n hx hb dX2_hearAll_32 rfl (lv_at hl 1 rfl) ?_
        refine cg_4_2_2 hx hb ht hown hK hN hP hthis.1 hthis.2 dX2_hearAll_33 ?_
        have hm_16 : (R this 2) ∈ L ∧ K (R this 2) = 25 := RT.o hRT hthis.1 hthis.2 2 (by decide)
        refine lv_iload_n hx hb dX2_hearAll_36 rfl (lv_at hl 0 rfl) ?_
        refine lv_iconst (v := (-1)) hx hb dX2_hearAll_37 (by decide) ?_
        have q_17 : vp_in x3_5 14 := vp_in_iff.mpr ⟨by omega, by omega⟩
        refine cs_25 hx hb hK hP hD hS hm_16.1 hm_16.2 q_17 dX2_hearAll_38 (fun H locs hP hD hS => ?_)
        replace hE := EV.up hE hm_16.2 (i := (Int32.toNatClampNeg x3_5)) (ow_any ((-1) : Int32))
        generalize (va_up E_15 (R this 2) (upd (E_15 (R this 2)) (Int32.toNatClampNeg x3_5) (-1))) = E_18 at hP hD hE
        refine lv_aload_n hx hb dX2_hearAll_39 rfl (lv_at hl 1 rfl) ?_
        refine cg_4_3_2 hx hb ht hown hK hN hP hthis.1 hthis.2 dX2_hearAll_40 ?_
        have hm_19 : (R this 3) ∈ L ∧ K (R this 3) = 25 := RT.o hRT hthis.1 hthis.2 3 (by decide)
        refine lv_iload_n hx hb dX2_hearAll_43 rfl (lv_at hl 0 rfl) ?_
        refine lv_iconst (v := (-1)) hx hb dX2_hearAll_44 (by decide) ?_
        have q_20 : vp_in x3_5 14 := vp_in_iff.mpr ⟨by omega, by omega⟩
        refine cs_25 hx hb hK hP hD hS hm_19.1 hm_19.2 q_20 dX2_hearAll_45 (fun H locs hP hD hS => ?_)
        replace hE := EV.up hE hm_19.2 (i := (Int32.toNatClampNeg x3_5)) (ow_any ((-1) : Int32))
        generalize (va_up E_18 (R this 3) (upd (E_18 (R this 3)) (Int32.toNatClampNeg x3_5) (-1))) = E_21 at hP hD hE
        refine lv_aload_n hx hb dX2_hearAll_46 rfl (lv_at hl 2 rfl) ?_
        refine cg_3_2_2 hx hb ht hown hK hN hP h_song.1 h_song.2 dX2_hearAll_47 ?_
        refine ow_top (I song 2) ((hC_5 song 2 (by rw [h_song.2]; decide)).trans (f_2 song 2 (by rw [h_song.2]; decide))) ?_
        have q_22 : 0 ≤ (I song 2).toInt ∧ (I song 2).toInt ≤ 40 := by have h9 : I5 song 2 = (I song 2) := ((hC_5 song 2 (by rw [h_song.2]; decide)).trans (f_2 song 2 (by rw [h_song.2]; decide))); rw [← h9]; exact IV.rd hI h_song.1 h_song.2 2
        refine lv_aload_n hx hb dX2_hearAll_50 rfl (lv_at hl 3 rfl) ?_
        refine cg_1_0_2 hx hb ht hown hK hN hP h_town.1 h_town.2 dX2_hearAll_51 ?_
        have hm_23 : (R town 0) ∈ L ∧ K (R town 0) = 29 := RT.o hRT h_town.1 h_town.2 0 (by decide)
        refine lv_iload_n hx hb dX2_hearAll_54 rfl (lv_at hl 0 rfl) ?_
        have q_24 : vp_in x3_5 14 := vp_in_iff.mpr ⟨by omega, by omega⟩
        refine cl_29 hx hb hK hP hm_23.1 hm_23.2 q_24 dX2_hearAll_55 ?_
        have hm_25 : (R (R town 0) (Int32.toNatClampNeg x3_5)) ∈ L ∧ K (R (R town 0) (Int32.toNatClampNeg x3_5)) = 2 := RT.a hRT hm_23.1 hm_23.2 (by decide) q_24
        refine cg_2_2_2 hx hb ht hown hK hN hP hm_25.1 hm_25.2 dX2_hearAll_56 ?_
        have q_26 : 0 ≤ (I5 (R (R town 0) (Int32.toNatClampNeg x3_5)) 2).toInt ∧ (I5 (R (R town 0) (Int32.toNatClampNeg x3_5)) 2).toInt ≤ 12 := IV.rd hI hm_25.1 hm_25.2 2
        refine lv_isub hx hb dX2_hearAll_59 ?_
        refine lv_topi (fun v_27 ev_27 => ?_)
        have q_28 : v_27.toInt = (I song 2).toInt - (I5 (R (R town 0) (Int32.toNatClampNeg x3_5)) 2).toInt := ow_sub ev_27 (by omega) (by omega)
        refine lv_istore (lv' := [(4, .int v_27), (3, .int x3_5), (0, .ref this), (1, .ref song), (2, .ref town)]) hx hb dX2_hearAll_60 hl (by decide) rfl (fun ls hl => ?_)
        refine lv_iconst (v := 0) hx hb dX2_hearAll_62 (by decide) ?_
        refine lv_istore (lv' := [(5, .int 0), (4, .int v_27), (3, .int x3_5), (0, .ref this), (1, .ref song), (2, .ref town)]) hx hb dX2_hearAll_63 hl (by decide) rfl (fun ls hl => ?_)
        refine W.widen (k := 0) (n := 0) (Nat.le_of_ble_eq_true rfl) (Nat.le_of_ble_eq_true rfl) ?_
        have lp_29 : ∀ (N_29 : Nat) (x5_29 : Int32) (I29 : Nat → Nat → Int32) (J29 : Nat → Nat → Int64) (E29 : Nat → Nat → Int32) (B29 : Nat → Nat → Int64) (H : Heap) (locs : List Loc) (ls : Array Slot), IV T L K I29 → EV L K E29 → FI [(4, 4)] K I5 I29 → (0 ≤ x5_29.toInt ∧ x5_29.toInt ≤ 41) → (41 - x5_29.toInt).toNat < N_29 → va_P G vwCl (WC cy L K R I29 J29 E29 B29) H → va_D A (WC cy L K R I29 J29 E29 B29) → va_S A s.heap H locs → lv_has ls 6 [(5, .int x5_29), (4, .int v_27), (3, .int x3_5), (0, .ref this), (1, .ref song), (2, .ref town)] → W p l e (headSpec (.code yX2_hearAll cX2_hearAll 6 none :: TBg) ({ frames := 4, cells := 0, slots := 0, locals := 256 })).room s m ([.ref this, .ref song, .ref town] : List Value).toArray below meth c H locs 0 0 (MQ below (va_Qv (fun (u : (Nat → Nat → Int32) × (Nat → Nat → Int64) × (Nat → Nat → Int32) × (Nat → Nat → Int64)) => IV T L K u.1 ∧ EV L K u.2.2.1 ∧ FI [(4, 4)] K I u.1 ∧ (True)) (fun u t => Ex G A (WC cy L K R u.1 u.2.1 u.2.2.1 u.2.2.2) t) A) ([.ref this, .ref song, .ref town] : List Value).toArray s 0 0 A) (F0 m 65 ls []) := by
          intro N_29
          induction N_29 with
          | zero => intro x5_29 I29 J29 E29 B29 H locs ls hI hE hC_29 qf29_0 hm9 hP hD hS hl; exact absurd hm9 (Nat.not_lt_zero _)
          | succ N_29 ih_29 =>
            intro x5_29 I29 J29 E29 B29 H locs ls hI hE hC_29 qf29_0 hm9 hP hD hS hl
            replace hC_0 := FI.tr hC_0 hC_29 (by decide)
            replace hX_5 := FI.tr hX_5 hC_29 (by decide)
            have hX_29 := hC_29
            refine lv_iload hx hb dX2_hearAll_65 (lv_at hl 0 rfl) ?_
            refine lv_iload hx hb dX2_hearAll_67 (lv_at hl 1 rfl) ?_
            refine lv_icmp_gt (tgt := 97) hx hb dX2_hearAll_69 (by decide) (fun c_30 => ?_) (fun c_30 => ?_)
            · have q_31 : v_27.toInt < x5_29.toInt := (ow_lt _ _).mp c_30
              obtain ⟨v_32, ev_32⟩ : ∃ y : Int32, y = x3_5 + 1 := ⟨_, rfl⟩
              refine lv_iinc (v := v_32) (lv' := [(3, .int v_32), (5, .int x5_29), (4, .int v_27), (0, .ref this), (1, .ref song), (2, .ref town)]) hx hb dX2_hearAll_97 hl (k := 2) rfl (by rw [ev_32]; rfl) (by decide) rfl (fun ls hl => ?_)
              have q_33 : v_32.toInt = x3_5.toInt + 1 := by have := ow_add ev_32 (by omega) (by omega); omega
              refine lv_goto (tgt := 10) hx hb dX2_hearAll_100 (by decide) ?_
              refine W.widen (k := 0) (n := 0) (Nat.le_of_ble_eq_true rfl) (Nat.le_of_ble_eq_true rfl) ?_
              exact ih_5 v_32 I29 J29 E29 B29 _ _ _ hI hE hX_5 (by omega) (by omega) hP hD hS (lv_sub hl [0, 3, 4, 5] rfl)
            · have q_34 : x5_29.toInt ≤ v_27.toInt := by have := (not_congr (ow_lt _ _)).mp c_30; omega
              refine lv_aload_n hx hb dX2_hearAll_72 rfl (lv_at hl 3 rfl) ?_
              refine lv_iload_n hx hb dX2_hearAll_73 rfl (lv_at hl 2 rfl) ?_
              refine lv_iload hx hb dX2_hearAll_74 (lv_at hl 0 rfl) ?_
              refine lv_aload_n hx hb dX2_hearAll_76 rfl (lv_at hl 5 rfl) ?_
              refine cg_1_0_2 hx hb ht hown hK hN hP h_town.1 h_town.2 dX2_hearAll_77 ?_
              refine lv_iload_n hx hb dX2_hearAll_80 rfl (lv_at hl 2 rfl) ?_
              have q_35 : vp_in x3_5 14 := vp_in_iff.mpr ⟨by omega, by omega⟩
              refine cl_29 hx hb hK hP hm_23.1 hm_23.2 q_35 dX2_hearAll_81 ?_
              have hm_36 : (R (R town 0) (Int32.toNatClampNeg x3_5)) ∈ L ∧ K (R (R town 0) (Int32.toNatClampNeg x3_5)) = 2 := RT.a hRT hm_23.1 hm_23.2 (by decide) q_35
              refine lv_aload_n hx hb dX2_hearAll_82 rfl (lv_at hl 4 rfl) ?_
              refine lv_iload hx hb dX2_hearAll_83 (lv_at hl 0 rfl) ?_
              have hFc := fr_new hS hA
              refine va_calli (va_runV (As := [.ref song, .int x5_29]) (rest := [.int x5_29, .int x3_5, .ref this]) ⟨hx, hb, hml, hown, ht⟩ (c_offAt3 l G cy _ L K R T I29 E29 J29 B29 (R (R town 0) (Int32.toNatClampNeg x3_5)) song x5_29 hRT hI hE hm_36.1 hm_36.2 h_song.1 h_song.2) (cwV 2 ht (gv k_424 k_425 k_426 k_399 k_423) rfl rfl rfl (by decide +kernel) ⟨Nat.le_of_ble_eq_true rfl, Nat.le_of_ble_eq_true rfl⟩) ⟨En.blind, cr_2 hK hP hm_36.1 hm_36.2, fun U hU hW => ⟨rfl, En.of hU hW hP hK hD hN⟩⟩ rfl rfl hl.1 rfl (lv_room (Nat.le_of_ble_eq_true rfl)) dX2_hearAll_85 ⟨Nat.le_of_ble_eq_true rfl, Nat.le_of_ble_eq_true rfl⟩) hS (fun q _ h => hFc q h) hFc (fun r_u_37 u_37 t9 H locs ht9 hvm hw hB hz1 hk1 hS => ?_)
              have hP := fr_keep hP hk1
              have wu_37 := hw
              clear hFc hk1 hz1 hB hw
              have hFc := fr_free hD hS hA
              refine va_callv (va_runV (As := [.int x3_5, .int x5_29, .int r_u_37]) (rest := []) ⟨hx, hb, hml, hown, ht⟩ (c_hearAt l G cy _ L K R T I29 E29 J29 B29 this x3_5 x5_29 r_u_37 hRT hI hE hthis.1 hthis.2 (by omega)) (cwV 3 ht (gv k_428 k_429 k_430 k_431 k_427) rfl rfl rfl (by decide +kernel) ⟨Nat.le_of_ble_eq_true rfl, Nat.le_of_ble_eq_true rfl⟩) ⟨En.blind, cr_4 hK hP hthis.1 hthis.2, fun U hU hW => ⟨rfl, En.of hU hW hP hK hD hN⟩⟩ rfl rfl hl.1 rfl (lv_room (Nat.le_of_ble_eq_true rfl)) dX2_hearAll_88 ⟨Nat.le_of_ble_eq_true rfl, Nat.le_of_ble_eq_true rfl⟩) hS (fun q _ h => hFc q h) hFc (fun u_38 t9 H locs ht9 hvm hw hB hz1 hk1 hS => ?_)
              obtain ⟨I38, J38, E38, B38⟩ := u_38
              obtain ⟨hP1, hD1⟩ := hB
              rw [ht9] at hP1
              clear hI hE
              obtain ⟨hI, hE, xu_38I, wu_38⟩ := hw
              dsimp only at hI hE xu_38I wu_38
              have hP : va_P G vwCl (WC cy L K R I38 J38 E38 B38) H := hP1
              have hD : va_D A (WC cy L K R I38 J38 E38 B38) := hD1.weaken (fun _ _ _ h => hFc _ h)
              clear hFc hk1 hz1 hP1 hD1
              replace hC_0 := FI.tr hC_0 xu_38I (by decide)
              replace hX_5 := FI.tr hX_5 xu_38I (by decide)
              replace hX_29 := FI.tr hX_29 xu_38I (by decide)
              obtain ⟨v_39, ev_39⟩ : ∃ y : Int32, y = x5_29 + 1 := ⟨_, rfl⟩
              refine lv_iinc (v := v_39) (lv' := [(5, .int v_39), (4, .int v_27), (3, .int x3_5), (0, .ref this), (1, .ref song), (2, .ref town)]) hx hb dX2_hearAll_91 hl (k := 0) rfl (by rw [ev_39]; rfl) (by decide) rfl (fun ls hl => ?_)
              have q_40 : v_39.toInt = x5_29.toInt + 1 := by have := ow_add ev_39 (by omega) (by omega); omega
              refine lv_goto (tgt := 65) hx hb dX2_hearAll_94 (by decide) ?_
              refine W.widen (k := 0) (n := 0) (Nat.le_of_ble_eq_true rfl) (Nat.le_of_ble_eq_true rfl) ?_
              exact ih_29 v_39 I38 J38 E38 B38 _ _ _ hI hE hX_29 (by omega) (by omega) hP hD hS (lv_sub hl [0, 1, 2, 3, 4, 5] rfl)
        exact lp_29 _ (0) I5 J5 E_21 B5 _ _ _ hI hE FI.rf (by omega) (Nat.lt_succ_self _) hP hD hS (lv_sub hl [0, 1, 2, 3, 4, 5] rfl)
  exact lp_5 _ (0) I_4 J E B _ _ _ hI hE FI.rf (by omega) (Nat.lt_succ_self _) hP hD hS (lv_sub hl [0, 1, 2, 3] rfl)
set_option maxHeartbeats 4000000 in
set_option maxRecDepth 100000 in
theorem c_hearLast (l : Launch) (G : va_G) (cy : Nat → ClassId) (sz : Nat) (L : List Nat) (K : Nat → Nat) (R : Nat → Nat → Nat) (T : Int) (I E : Nat → Nat → Int32) (J B : Nat → Nat → Int64) (this : Nat) (song : Nat) (town : Nat) (hRT : RT L K R) (hI : IV T L K I) (hE : EV L K E) (hthis1 : this ∈ L) (hthis2 : K this = 4) (h_song1 : song ∈ L) (h_song2 : K song = 3) (h_town1 : town ∈ L) (h_town2 : K town = 1) : Met l yX2_hearLast (.code yX2_hearLast cX2_hearLast 5 none :: TBg) ({ frames := 4, cells := 0, slots := 0, locals := 256 }) (va_Pc [.ref this, .ref song, .ref town] (En G cy (WC cy L K R I J E B) sz)) (va_Qv (fun (u : (Nat → Nat → Int32) × (Nat → Nat → Int64) × (Nat → Nat → Int32) × (Nat → Nat → Int64)) => IV T L K u.1 ∧ EV L K u.2.2.1 ∧ FI [(4, 4)] K I u.1 ∧ (True)) (fun u t => Ex G (va_A (WC cy L K R I J E B) sz) (WC cy L K R u.1 u.2.1 u.2.2.1 u.2.2.2) t) (va_A (WC cy L K R I J E B) sz)) 0 0 (va_A (WC cy L K R I J E B) sz) := by
  have hthis : this ∈ L ∧ K this = 4 := ⟨hthis1, hthis2⟩
  have h_song : song ∈ L ∧ K song = 3 := ⟨h_song1, h_song2⟩
  have h_town : town ∈ L ∧ K town = 1 := ⟨h_town1, h_town2⟩
  refine Met.ofW (cc := cX2_hearLast) (maxL := 5) (ret := none) (by decide) rfl ?_
  intro p e s m args below meth c s₁ B9 hml hv9
  obtain ⟨rfl, hsz, hP, hK, hD0, hN⟩ := hv9
  have hx := B9.exec
  have hb := B9.bytes
  have hr := B9.returns
  have hts := atoms_spec (ws := .code yX2_hearLast cX2_hearLast 5 none :: TBg) B9.pre
  have ht : ∀ w ∈ TBg, w.before _ s = true := fun w h => hts w (List.mem_cons_of_mem _ h)
  have hown : s.vm.findClass RX2 = some m.cls := findClass_of_methodNamed B9.named
  have hlocks := B9.notSynchronized
  subst hsz
  have hD := hD0.self (sz := s.heap.size)
  generalize hAe : va_A (WC cy L K R I J E B) s.heap.size = A at hD ⊢
  have hA : ∀ q : Nat, s.heap.size ≤ q → A q := fun q h => by rw [← hAe]; exact Or.inr h
  have hS : va_S A s.heap s.heap [] := va_S.rf
  have hl := lv_entry ([.ref this, .ref song, .ref town]) (n := 5) (Nat.le_of_ble_eq_true rfl)
  rw [lg_entry_eq]
  generalize (lg_sl ([.ref this, .ref song, .ref town]) ++ List.replicate (5 - (lg_sl ([.ref this, .ref song, .ref town])).length) Slot.unset).toArray = ls at hl ⊢
  have hl : lv_has ls 5 [(0, .ref this), (1, .ref song), (2, .ref town)] := hl
  have z0 : (0 : Int32).toInt = 0 := by decide
  have z1 : (1 : Int32).toInt = 1 := by decide
  have hC_0 : FI [(4, 4)] K I I := FI.rf
  refine lv_aload_n hx hb dX2_hearLast_0 rfl (lv_at hl 0 rfl) ?_
  refine lv_aload_n hx hb dX2_hearLast_1 rfl (lv_at hl 1 rfl) ?_
  refine cg_3_2_2 hx hb ht hown hK hN hP h_song.1 h_song.2 dX2_hearLast_2 ?_
  have q_1 : 0 ≤ (I song 2).toInt ∧ (I song 2).toInt ≤ 40 := IV.rd hI h_song.1 h_song.2 2
  refine cp_4_4_2 hx hb ht hown hK hN hP hD hS hthis.1 hthis.2 dX2_hearLast_5 (fun H locs hP hD hS => ?_)
  replace hI := IV.up hI hthis.2 4 (ow_any (I song 2))
  have f_2 : FI [(4, 4)] K I (va_up I this (va_up (I this) 4 (I song 2))) := FI.up hthis.2 4 (I song 2)
  have e_3 : (va_up I this (va_up (I this) 4 (I song 2))) this 4 = (I song 2) := FI.at I this 4 (I song 2)
  replace hC_0 := FI.tr hC_0 f_2 (by decide)
  generalize (va_up I this (va_up (I this) 4 (I song 2))) = I_4 at hP hD hI f_2 e_3 hC_0
  refine lv_iconst (v := 0) hx hb dX2_hearLast_8 (by decide) ?_
  refine lv_istore_n (lv' := [(3, .int 0), (0, .ref this), (1, .ref song), (2, .ref town)]) hx hb dX2_hearLast_9 rfl hl (by decide) rfl (fun ls hl => ?_)
  refine W.widen (k := 0) (n := 0) (Nat.le_of_ble_eq_true rfl) (Nat.le_of_ble_eq_true rfl) ?_
  have lp_5 : ∀ (N_5 : Nat) (x3_5 : Int32) (I5 : Nat → Nat → Int32) (J5 : Nat → Nat → Int64) (E5 : Nat → Nat → Int32) (B5 : Nat → Nat → Int64) (H : Heap) (locs : List Loc) (ls : Array Slot), IV T L K I5 → EV L K E5 → FI [(4, 4)] K I_4 I5 → (0 ≤ x3_5.toInt ∧ x3_5.toInt ≤ 14) → (14 - x3_5.toInt).toNat < N_5 → va_P G vwCl (WC cy L K R I5 J5 E5 B5) H → va_D A (WC cy L K R I5 J5 E5 B5) → va_S A s.heap H locs → lv_has ls 5 [(3, .int x3_5), (0, .ref this), (1, .ref song), (2, .ref town)] → W p l e (headSpec (.code yX2_hearLast cX2_hearLast 5 none :: TBg) ({ frames := 4, cells := 0, slots := 0, locals := 256 })).room s m ([.ref this, .ref song, .ref town] : List Value).toArray below meth c H locs 0 0 (MQ below (va_Qv (fun (u : (Nat → Nat → Int32) × (Nat → Nat → Int64) × (Nat → Nat → Int32) × (Nat → Nat → Int64)) => IV T L K u.1 ∧ EV L K u.2.2.1 ∧ FI [(4, 4)] K I u.1 ∧ (True)) (fun u t => Ex G A (WC cy L K R u.1 u.2.1 u.2.2.1 u.2.2.2) t) A) ([.ref this, .ref song, .ref town] : List Value).toArray s 0 0 A) (F0 m 10 ls []) := by
    intro N_5
    induction N_5 with
    | zero => intro x3_5 I5 J5 E5 B5 H locs ls hI hE hC_5 qf5_0 hm9 hP hD hS hl; exact absurd hm9 (Nat.not_lt_zero _)
    | succ N_5 ih_5 =>
      intro x3_5 I5 J5 E5 B5 H locs ls hI hE hC_5 qf5_0 hm9 hP hD hS hl
      replace hC_0 := FI.tr hC_0 hC_5 (by decide)
      have hX_5 := hC_5
      refine lv_iload_n hx hb dX2_hearLast_10 rfl (lv_at hl 0 rfl) ?_
      refine lv_aload_n hx hb dX2_hearLast_11 rfl (lv_at hl 3 rfl) ?_
      refine cg_1_3_2 hx hb ht hown hK hN hP h_town.1 h_town.2 dX2_hearLast_12 ?_
      refine ow_top (I town 3) ((hC_5 town 3 (by rw [h_town.2]; decide)).trans (f_2 town 3 (by rw [h_town.2]; decide))) ?_
      have q_6 : 0 ≤ (I town 3).toInt ∧ (I town 3).toInt ≤ 14 := by have h9 : I5 town 3 = (I town 3) := ((hC_5 town 3 (by rw [h_town.2]; decide)).trans (f_2 town 3 (by rw [h_town.2]; decide))); rw [← h9]; exact IV.rd hI h_town.1 h_town.2 3
      refine lv_icmp_ge (tgt := 64) hx hb dX2_hearLast_15 (by decide) (fun c_7 => ?_) (fun c_7 => ?_)
      · have q_8 : (I town 3).toInt ≤ x3_5.toInt := (ow_le _ _).mp c_7
        refine W.widen (k := 0) (n := 0) (Nat.le_of_ble_eq_true rfl) (Nat.le_of_ble_eq_true rfl) ?_
        exact W.vret hx hb hr (fun t ht9 hW => ⟨⟨(I5, J5, E5, B5), rfl, ⟨hI, hE, hC_0, trivial⟩, ⟨by rw [ht9]; exact hP, hD⟩⟩, hS.F ht9⟩) hS.2.2 dX2_hearLast_64
      · have q_9 : x3_5.toInt < (I town 3).toInt := by have := (not_congr (ow_le _ _)).mp c_7; omega
        refine lv_aload_n hx hb dX2_hearLast_18 rfl (lv_at hl 2 rfl) ?_
        refine cg_3_2_2 hx hb ht hown hK hN hP h_song.1 h_song.2 dX2_hearLast_19 ?_
        refine ow_top (I song 2) ((hC_5 song 2 (by rw [h_song.2]; decide)).trans (f_2 song 2 (by rw [h_song.2]; decide))) ?_
        have q_10 : 0 ≤ (I song 2).toInt ∧ (I song 2).toInt ≤ 40 := by have h9 : I5 song 2 = (I song 2) := ((hC_5 song 2 (by rw [h_song.2]; decide)).trans (f_2 song 2 (by rw [h_song.2]; decide))); rw [← h9]; exact IV.rd hI h_song.1 h_song.2 2
        refine lv_aload_n hx hb dX2_hearLast_22 rfl (lv_at hl 3 rfl) ?_
        refine cg_1_0_2 hx hb ht hown hK hN hP h_town.1 h_town.2 dX2_hearLast_23 ?_
        have hm_11 : (R town 0) ∈ L ∧ K (R town 0) = 29 := RT.o hRT h_town.1 h_town.2 0 (by decide)
        refine lv_iload_n hx hb dX2_hearLast_26 rfl (lv_at hl 0 rfl) ?_
        have q_12 : vp_in x3_5 14 := vp_in_iff.mpr ⟨by omega, by omega⟩
        refine cl_29 hx hb hK hP hm_11.1 hm_11.2 q_12 dX2_hearLast_27 ?_
        have hm_13 : (R (R town 0) (Int32.toNatClampNeg x3_5)) ∈ L ∧ K (R (R town 0) (Int32.toNatClampNeg x3_5)) = 2 := RT.a hRT hm_11.1 hm_11.2 (by decide) q_12
        refine cg_2_2_2 hx hb ht hown hK hN hP hm_13.1 hm_13.2 dX2_hearLast_28 ?_
        have q_14 : 0 ≤ (I5 (R (R town 0) (Int32.toNatClampNeg x3_5)) 2).toInt ∧ (I5 (R (R town 0) (Int32.toNatClampNeg x3_5)) 2).toInt ≤ 12 := IV.rd hI hm_13.1 hm_13.2 2
        refine lv_isub hx hb dX2_hearLast_31 ?_
        refine lv_topi (fun v_15 ev_15 => ?_)
        have q_16 : v_15.toInt = (I song 2).toInt - (I5 (R (R town 0) (Int32.toNatClampNeg x3_5)) 2).toInt := ow_sub ev_15 (by omega) (by omega)
        refine lv_istore (lv' := [(4, .int v_15), (3, .int x3_5), (0, .ref this), (1, .ref song), (2, .ref town)]) hx hb dX2_hearLast_32 hl (by decide) rfl (fun ls hl => ?_)
        refine lv_iload hx hb dX2_hearLast_34 (lv_at hl 0 rfl) ?_
        refine lv_if_lt (tgt := 58) hx hb dX2_hearLast_36 (by decide) (fun c_17 => ?_) (fun c_17 => ?_)
        · have q_18 : v_15.toInt < (0 : Int32).toInt := (ow_lt _ _).mp c_17
          obtain ⟨v_19, ev_19⟩ : ∃ y : Int32, y = x3_5 + 1 := ⟨_, rfl⟩
          refine lv_iinc (v := v_19) (lv' := [(3, .int v_19), (4, .int v_15), (0, .ref this), (1, .ref song), (2, .ref town)]) hx hb dX2_hearLast_58 hl (k := 1) rfl (by rw [ev_19]; rfl) (by decide) rfl (fun ls hl => ?_)
          have q_20 : v_19.toInt = x3_5.toInt + 1 := by have := ow_add ev_19 (by omega) (by omega); omega
          refine lv_goto (tgt := 10) hx hb dX2_hearLast_61 (by decide) ?_
          refine W.widen (k := 0) (n := 0) (Nat.le_of_ble_eq_true rfl) (Nat.le_of_ble_eq_true rfl) ?_
          exact ih_5 v_19 I5 J5 E5 B5 _ _ _ hI hE hX_5 (by omega) (by omega) hP hD hS (lv_sub hl [0, 2, 3, 4] rfl)
        · have q_21 : (0 : Int32).toInt ≤ v_15.toInt := by have := (not_congr (ow_lt _ _)).mp c_17; omega
          refine lv_aload_n hx hb dX2_hearLast_39 rfl (lv_at hl 2 rfl) ?_
          refine lv_iload_n hx hb dX2_hearLast_40 rfl (lv_at hl 1 rfl) ?_
          refine lv_iload hx hb dX2_hearLast_41 (lv_at hl 0 rfl) ?_
          refine lv_aload_n hx hb dX2_hearLast_43 rfl (lv_at hl 4 rfl) ?_
          refine cg_1_0_2 hx hb ht hown hK hN hP h_town.1 h_town.2 dX2_hearLast_44 ?_
          refine lv_iload_n hx hb dX2_hearLast_47 rfl (lv_at hl 1 rfl) ?_
          have q_22 : vp_in x3_5 14 := vp_in_iff.mpr ⟨by omega, by omega⟩
          refine cl_29 hx hb hK hP hm_11.1 hm_11.2 q_22 dX2_hearLast_48 ?_
          have hm_23 : (R (R town 0) (Int32.toNatClampNeg x3_5)) ∈ L ∧ K (R (R town 0) (Int32.toNatClampNeg x3_5)) = 2 := RT.a hRT hm_11.1 hm_11.2 (by decide) q_22
          refine lv_aload_n hx hb dX2_hearLast_49 rfl (lv_at hl 3 rfl) ?_
          refine lv_iload hx hb dX2_hearLast_50 (lv_at hl 0 rfl) ?_
          have hFc := fr_new hS hA
          refine va_calli (va_runV (As := [.ref song, .int v_15]) (rest := [.int v_15, .int x3_5, .ref this]) ⟨hx, hb, hml, hown, ht⟩ (c_offAt3 l G cy _ L K R T I5 E5 J5 B5 (R (R town 0) (Int32.toNatClampNeg x3_5)) song v_15 hRT hI hE hm_23.1 hm_23.2 h_song.1 h_song.2) (cwV 2 ht (gv k_424 k_425 k_426 k_399 k_423) rfl rfl rfl (by decide +kernel) ⟨Nat.le_of_ble_eq_true rfl, Nat.le_of_ble_eq_true rfl⟩) ⟨En.blind, cr_2 hK hP hm_23.1 hm_23.2, fun U hU hW => ⟨rfl, En.of hU hW hP hK hD hN⟩⟩ rfl rfl hl.1 rfl (lv_room (Nat.le_of_ble_eq_true rfl)) dX2_hearLast_52 ⟨Nat.le_of_ble_eq_true rfl, Nat.le_of_ble_eq_true rfl⟩) hS (fun q _ h => hFc q h) hFc (fun r_u_24 u_24 t9 H locs ht9 hvm hw hB hz1 hk1 hS => ?_)
          have hP := fr_keep hP hk1
          have wu_24 := hw
          clear hFc hk1 hz1 hB hw
          have hFc := fr_free hD hS hA
          refine va_callv (va_runV (As := [.int x3_5, .int v_15, .int r_u_24]) (rest := []) ⟨hx, hb, hml, hown, ht⟩ (c_hearAt l G cy _ L K R T I5 E5 J5 B5 this x3_5 v_15 r_u_24 hRT hI hE hthis.1 hthis.2 (by omega)) (cwV 3 ht (gv k_428 k_429 k_430 k_431 k_427) rfl rfl rfl (by decide +kernel) ⟨Nat.le_of_ble_eq_true rfl, Nat.le_of_ble_eq_true rfl⟩) ⟨En.blind, cr_4 hK hP hthis.1 hthis.2, fun U hU hW => ⟨rfl, En.of hU hW hP hK hD hN⟩⟩ rfl rfl hl.1 rfl (lv_room (Nat.le_of_ble_eq_true rfl)) dX2_hearLast_55 ⟨Nat.le_of_ble_eq_true rfl, Nat.le_of_ble_eq_true rfl⟩) hS (fun q _ h => hFc q h) hFc (fun u_25 t9 H locs ht9 hvm hw hB hz1 hk1 hS => ?_)
          obtain ⟨I25, J25, E25, B25⟩ := u_25
          obtain ⟨hP1, hD1⟩ := hB
          rw [ht9] at hP1
          clear hI hE
          obtain ⟨hI, hE, xu_25I, wu_25⟩ := hw
          dsimp only at hI hE xu_25I wu_25
          have hP : va_P G vwCl (WC cy L K R I25 J25 E25 B25) H := hP1
          have hD : va_D A (WC cy L K R I25 J25 E25 B25) := hD1.weaken (fun _ _ _ h => hFc _ h)
          clear hFc hk1 hz1 hP1 hD1
          replace hC_0 := FI.tr hC_0 xu_25I (by decide)
          replace hX_5 := FI.tr hX_5 xu_25I (by decide)
          obtain ⟨v_26, ev_26⟩ : ∃ y : Int32, y = x3_5 + 1 := ⟨_, rfl⟩
          refine lv_iinc (v := v_26) (lv' := [(3, .int v_26), (4, .int v_15), (0, .ref this), (1, .ref song), (2, .ref town)]) hx hb dX2_hearLast_58 hl (k := 1) rfl (by rw [ev_26]; rfl) (by decide) rfl (fun ls hl => ?_)
          have q_27 : v_26.toInt = x3_5.toInt + 1 := by have := ow_add ev_26 (by omega) (by omega); omega
          refine lv_goto (tgt := 10) hx hb dX2_hearLast_61 (by decide) ?_
          refine W.widen (k := 0) (n := 0) (Nat.le_of_ble_eq_true rfl) (Nat.le_of_ble_eq_true rfl) ?_
          exact ih_5 v_26 I25 J25 E25 B25 _ _ _ hI hE hX_5 (by omega) (by omega) hP hD hS (lv_sub hl [0, 2, 3, 4] rfl)
  exact lp_5 _ (0) I_4 J E B _ _ _ hI hE FI.rf (by omega) (Nat.lt_succ_self _) hP hD hS (lv_sub hl [0, 1, 2, 3] rfl)
set_option maxHeartbeats 4000000 in
set_option maxRecDepth 100000 in
theorem c_nearWorn (l : Launch) (G : va_G) (cy : Nat → ClassId) (sz : Nat) (L : List Nat) (K : Nat → Nat) (R : Nat → Nat → Nat) (T : Int) (I E : Nat → Nat → Int32) (J B : Nat → Nat → Int64) (this : Nat) (n : Int32) (hRT : RT L K R) (hI : IV T L K I) (hE : EV L K E) (hthis1 : this ∈ L) (hthis2 : K this = 5) : Met l yX4_nearWorn (.code yX4_nearWorn cX4_nearWorn 2 (some .int) :: TBg) ({ frames := 2, cells := 0, slots := 0, locals := 128 }) (va_Pc [.ref this, .int n] (En G cy (WC cy L K R I J E B) sz)) (va_Qi (fun (r : Int32) (_ : Unit) => True) (fun _ _ => True) (va_A [] sz)) 0 0 (va_A [] sz) := by
  have hthis : this ∈ L ∧ K this = 5 := ⟨hthis1, hthis2⟩
  refine Met.ofW (cc := cX4_nearWorn) (maxL := 2) (ret := (some .int)) (by decide) rfl ?_
  intro p e s m args below meth c s₁ B9 hml hv9
  obtain ⟨rfl, hsz, hP, hK, hD0, hN⟩ := hv9
  have hx := B9.exec
  have hb := B9.bytes
  have hr := B9.returns
  have hts := atoms_spec (ws := .code yX4_nearWorn cX4_nearWorn 2 (some .int) :: TBg) B9.pre
  have ht : ∀ w ∈ TBg, w.before _ s = true := fun w h => hts w (List.mem_cons_of_mem _ h)
  have hown : s.vm.findClass RX4 = some m.cls := findClass_of_methodNamed B9.named
  have hlocks := B9.notSynchronized
  subst hsz
  generalize hAe : va_A [] s.heap.size = A at ⊢
  have hA : ∀ q : Nat, s.heap.size ≤ q → A q := fun q h => by rw [← hAe]; exact Or.inr h
  have hS : va_S A s.heap s.heap [] := va_S.rf
  have hl := lv_entry ([.ref this, .int n]) (n := 2) (Nat.le_of_ble_eq_true rfl)
  rw [lg_entry_eq]
  generalize (lg_sl ([.ref this, .int n]) ++ List.replicate (2 - (lg_sl ([.ref this, .int n])).length) Slot.unset).toArray = ls at hl ⊢
  have hl : lv_has ls 2 [(0, .ref this), (1, .int n)] := hl
  have z0 : (20 : Int32).toInt = 20 := by decide
  refine lv_bipush (v := 20) hx hb dX4_nearWorn_0 (by decide) ?_
  refine lv_aload_n hx hb dX4_nearWorn_2 rfl (lv_at hl 0 rfl) ?_
  refine cg_5_1_4 hx hb ht hown hK hN hP hthis.1 hthis.2 dX4_nearWorn_3 ?_
  refine lv_iload_n hx hb dX4_nearWorn_6 rfl (lv_at hl 1 rfl) ?_
  refine lv_iconst (v := 3) hx hb dX4_nearWorn_7 (by decide) ?_
  refine lv_idiv hx hb dX4_nearWorn_8 (by decide) ?_
  refine lv_topi (fun v_1 ev_1 => ?_)
  refine lv_iadd hx hb dX4_nearWorn_9 ?_
  refine lv_topi (fun v_2 ev_2 => ?_)
  refine va_mmin hx hb (by rw [hml]; exact hl.1.symm) hown (ht _ k_432) (ht _ k_417) (ht _ k_402) (ht _ k_418) (Nat.le_of_ble_eq_true rfl) (Nat.le_of_ble_eq_true rfl) (Nat.le_of_ble_eq_true rfl) (Nat.le_of_ble_eq_true rfl) dX4_nearWorn_10 ?_
  refine lv_topi (fun v_3 ev_3 => ?_)
  have q_4 : v_3.toInt ≤ (20 : Int32).toInt ∧ v_3.toInt ≤ v_2.toInt ∧ (v_3.toInt = (20 : Int32).toInt ∨ v_3.toInt = v_2.toInt) := ow_mmin ev_3
  refine W.widen (k := 0) (n := 0) (Nat.le_of_ble_eq_true rfl) (Nat.le_of_ble_eq_true rfl) ?_
  exact W.iret (v := v_3) hx hb hr (fun t ht9 hW => ⟨⟨v_3, (), rfl, trivial, trivial⟩, hS.F ht9⟩) hS.2.2 dX4_nearWorn_13
set_option maxHeartbeats 4000000 in
set_option maxRecDepth 100000 in
theorem c_told (l : Launch) (G : va_G) (cy : Nat → ClassId) (sz : Nat) (L : List Nat) (K : Nat → Nat) (R : Nat → Nat → Nat) (T : Int) (I E : Nat → Nat → Int32) (J B : Nat → Nat → Int64) (this : Nat) (n : Int32) (hRT : RT L K R) (hI : IV T L K I) (hE : EV L K E) (hthis1 : this ∈ L) (hthis2 : K this = 5) (h_n : 0 ≤ n.toInt ∧ n.toInt ≤ 1) : Met l yX4_opensToldBits (.code yX4_opensToldBits cX4_opensToldBits 2 (some .int) :: TBg) ({ frames := 1, cells := 0, slots := 0, locals := 64 }) (va_Pc [.ref this, .int n] (En G cy (WC cy L K R I J E B) sz)) (va_Qi (fun (r : Int32) (_ : Unit) => True) (fun _ _ => True) (va_A [] sz)) 0 0 (va_A [] sz) := by
  have hthis : this ∈ L ∧ K this = 5 := ⟨hthis1, hthis2⟩
  refine Met.ofW (cc := cX4_opensToldBits) (maxL := 2) (ret := (some .int)) (by decide) rfl ?_
  intro p e s m args below meth c s₁ B9 hml hv9
  obtain ⟨rfl, hsz, hP, hK, hD0, hN⟩ := hv9
  have hx := B9.exec
  have hb := B9.bytes
  have hr := B9.returns
  have hts := atoms_spec (ws := .code yX4_opensToldBits cX4_opensToldBits 2 (some .int) :: TBg) B9.pre
  have ht : ∀ w ∈ TBg, w.before _ s = true := fun w h => hts w (List.mem_cons_of_mem _ h)
  have hown : s.vm.findClass RX4 = some m.cls := findClass_of_methodNamed B9.named
  have hlocks := B9.notSynchronized
  subst hsz
  generalize hAe : va_A [] s.heap.size = A at ⊢
  have hA : ∀ q : Nat, s.heap.size ≤ q → A q := fun q h => by rw [← hAe]; exact Or.inr h
  have hS : va_S A s.heap s.heap [] := va_S.rf
  have hl := lv_entry ([.ref this, .int n]) (n := 2) (Nat.le_of_ble_eq_true rfl)
  rw [lg_entry_eq]
  generalize (lg_sl ([.ref this, .int n]) ++ List.replicate (2 - (lg_sl ([.ref this, .int n])).length) Slot.unset).toArray = ls at hl ⊢
  have hl : lv_has ls 2 [(0, .ref this), (1, .int n)] := hl
  have z0 : (0 : Int32).toInt = 0 := by decide
  refine lv_iload_n hx hb dX4_opensToldBits_0 rfl (lv_at hl 1 rfl) ?_
  refine lv_if_eq (tgt := 11) hx hb dX4_opensToldBits_1 (by decide) (fun c_1 => ?_) (fun c_1 => ?_)
  · have q_2 : n.toInt = (0 : Int32).toInt := (ow_eq _ _).mp c_1
    refine lv_aload_n hx hb dX4_opensToldBits_11 rfl (lv_at hl 0 rfl) ?_
    refine cg_5_4_4 hx hb ht hown hK hN hP hthis.1 hthis.2 dX4_opensToldBits_12 ?_
    refine W.widen (k := 0) (n := 0) (Nat.le_of_ble_eq_true rfl) (Nat.le_of_ble_eq_true rfl) ?_
    exact W.iret (v := (I this 4)) hx hb hr (fun t ht9 hW => ⟨⟨(I this 4), (), rfl, trivial, trivial⟩, hS.F ht9⟩) hS.2.2 dX4_opensToldBits_15
  · have q_3 : ¬ n.toInt = (0 : Int32).toInt := by have := (not_congr (ow_eq _ _)).mp c_1; omega
    refine lv_aload_n hx hb dX4_opensToldBits_4 rfl (lv_at hl 0 rfl) ?_
    refine cg_5_5_4 hx hb ht hown hK hN hP hthis.1 hthis.2 dX4_opensToldBits_5 ?_
    refine lv_goto (tgt := 15) hx hb dX4_opensToldBits_8 (by decide) ?_
    refine W.widen (k := 0) (n := 0) (Nat.le_of_ble_eq_true rfl) (Nat.le_of_ble_eq_true rfl) ?_
    exact W.iret (v := (I this 5)) hx hb hr (fun t ht9 hW => ⟨⟨(I this 5), (), rfl, trivial, trivial⟩, hS.F ht9⟩) hS.2.2 dX4_opensToldBits_15
set_option maxHeartbeats 4000000 in
set_option maxRecDepth 100000 in
theorem c_qadd (l : Launch) (G : va_G) (cy : Nat → ClassId) (sz : Nat) (L : List Nat) (K : Nat → Nat) (R : Nat → Nat → Nat) (T : Int) (I E : Nat → Nat → Int32) (J B : Nat → Nat → Int64) (this : Nat) (n : Int32) (n2 : Int32) (hRT : RT L K R) (hI : IV T L K I) (hE : EV L K E) (hthis1 : this ∈ L) (hthis2 : K this = 6) : Met l yX5_add (.code yX5_add cX5_add 3 none :: TBg) ({ frames := 1, cells := 0, slots := 0, locals := 64 }) (va_Pc [.ref this, .int n, .int n2] (En G cy (WC cy L K R I J E B) sz)) (va_Qv (fun (u : (Nat → Nat → Int32) × (Nat → Nat → Int64) × (Nat → Nat → Int32) × (Nat → Nat → Int64)) => IV T L K u.1 ∧ EV L K u.2.2.1 ∧ FI [(6, 2)] K I u.1 ∧ (True)) (fun u t => Ex G (va_A (WC cy L K R I J E B) sz) (WC cy L K R u.1 u.2.1 u.2.2.1 u.2.2.2) t) (va_A (WC cy L K R I J E B) sz)) 0 0 (va_A (WC cy L K R I J E B) sz) := by
  have hthis : this ∈ L ∧ K this = 6 := ⟨hthis1, hthis2⟩
  refine Met.ofW (cc := cX5_add) (maxL := 3) (ret := none) (by decide) rfl ?_
  intro p e s m args below meth c s₁ B9 hml hv9
  obtain ⟨rfl, hsz, hP, hK, hD0, hN⟩ := hv9
  have hx := B9.exec
  have hb := B9.bytes
  have hr := B9.returns
  have hts := atoms_spec (ws := .code yX5_add cX5_add 3 none :: TBg) B9.pre
  have ht : ∀ w ∈ TBg, w.before _ s = true := fun w h => hts w (List.mem_cons_of_mem _ h)
  have hown : s.vm.findClass RX5 = some m.cls := findClass_of_methodNamed B9.named
  have hlocks := B9.notSynchronized
  subst hsz
  have hD := hD0.self (sz := s.heap.size)
  generalize hAe : va_A (WC cy L K R I J E B) s.heap.size = A at hD ⊢
  have hA : ∀ q : Nat, s.heap.size ≤ q → A q := fun q h => by rw [← hAe]; exact Or.inr h
  have hS : va_S A s.heap s.heap [] := va_S.rf
  have hl := lv_entry ([.ref this, .int n, .int n2]) (n := 3) (Nat.le_of_ble_eq_true rfl)
  rw [lg_entry_eq]
  generalize (lg_sl ([.ref this, .int n, .int n2]) ++ List.replicate (3 - (lg_sl ([.ref this, .int n, .int n2])).length) Slot.unset).toArray = ls at hl ⊢
  have hl : lv_has ls 3 [(0, .ref this), (1, .int n), (2, .int n2)] := hl
  have z0 : (1 : Int32).toInt = 1 := by decide
  have z1 : (540 : Int32).toInt = 540 := by decide
  have hC_0 : FI [(6, 2)] K I I := FI.rf
  refine lv_aload_n hx hb dX5_add_0 rfl (lv_at hl 0 rfl) ?_
  refine cg_6_2_5 hx hb ht hown hK hN hP hthis.1 hthis.2 dX5_add_1 ?_
  have q_1 : 0 ≤ (I this 2).toInt ∧ (I this 2).toInt ≤ 540 := IV.rd hI hthis.1 hthis.2 2
  refine lv_aload_n hx hb dX5_add_4 rfl (lv_at hl 0 rfl) ?_
  refine cg_6_0_5 hx hb ht hown hK hN hP hthis.1 hthis.2 dX5_add_5 ?_
  have hm_2 : (R this 0) ∈ L ∧ K (R this 0) = 26 := RT.o hRT hthis.1 hthis.2 0 (by decide)
  refine cn_26 hx hb hK hP hm_2.1 hm_2.2 dX5_add_8 ?_
  refine lv_icmp_ge (tgt := 42) hx hb dX5_add_9 (by decide) (fun c_3 => ?_) (fun c_3 => ?_)
  · have q_4 : (540 : Int32).toInt ≤ (I this 2).toInt := (ow_le _ _).mp c_3
    refine W.widen (k := 0) (n := 0) (Nat.le_of_ble_eq_true rfl) (Nat.le_of_ble_eq_true rfl) ?_
    exact W.vret hx hb hr (fun t ht9 hW => ⟨⟨(I, J, E, B), rfl, ⟨hI, hE, hC_0, trivial⟩, ⟨by rw [ht9]; exact hP, hD⟩⟩, hS.F ht9⟩) hS.2.2 dX5_add_42
  · have q_5 : (I this 2).toInt < (540 : Int32).toInt := by have := (not_congr (ow_le _ _)).mp c_3; omega
    refine lv_aload_n hx hb dX5_add_12 rfl (lv_at hl 0 rfl) ?_
    refine cg_6_0_5 hx hb ht hown hK hN hP hthis.1 hthis.2 dX5_add_13 ?_
    refine lv_aload_n hx hb dX5_add_16 rfl (lv_at hl 0 rfl) ?_
    refine cg_6_2_5 hx hb ht hown hK hN hP hthis.1 hthis.2 dX5_add_17 ?_
    refine lv_iload_n hx hb dX5_add_20 rfl (lv_at hl 1 rfl) ?_
    have q_6 : vp_in (I this 2) 540 := vp_in_iff.mpr ⟨by omega, by omega⟩
    refine cs_26 hx hb hK hP hD hS hm_2.1 hm_2.2 q_6 dX5_add_21 (fun H locs hP hD hS => ?_)
    replace hE := EV.up hE hm_2.2 (i := (Int32.toNatClampNeg (I this 2))) (ow_any n)
    generalize (va_up E (R this 0) (upd (E (R this 0)) (Int32.toNatClampNeg (I this 2)) n)) = E_7 at hP hD hE
    refine lv_aload_n hx hb dX5_add_22 rfl (lv_at hl 0 rfl) ?_
    refine cg_6_1_5 hx hb ht hown hK hN hP hthis.1 hthis.2 dX5_add_23 ?_
    have hm_8 : (R this 1) ∈ L ∧ K (R this 1) = 27 := RT.o hRT hthis.1 hthis.2 1 (by decide)
    refine lv_aload_n hx hb dX5_add_26 rfl (lv_at hl 0 rfl) ?_
    refine cg_6_2_5 hx hb ht hown hK hN hP hthis.1 hthis.2 dX5_add_27 ?_
    refine lv_iload_n hx hb dX5_add_30 rfl (lv_at hl 2 rfl) ?_
    have q_9 : vp_in (I this 2) 540 := vp_in_iff.mpr ⟨by omega, by omega⟩
    refine cs_27 hx hb hK hP hD hS hm_8.1 hm_8.2 q_9 dX5_add_31 (fun H locs hP hD hS => ?_)
    replace hE := EV.up hE hm_8.2 (i := (Int32.toNatClampNeg (I this 2))) (ow_any n2)
    generalize (va_up E_7 (R this 1) (upd (E_7 (R this 1)) (Int32.toNatClampNeg (I this 2)) n2)) = E_10 at hP hD hE
    refine lv_aload_n hx hb dX5_add_32 rfl (lv_at hl 0 rfl) ?_
    refine lv_dup hx hb dX5_add_33 rfl ?_
    refine cg_6_2_5 hx hb ht hown hK hN hP hthis.1 hthis.2 dX5_add_34 ?_
    refine lv_iconst (v := 1) hx hb dX5_add_37 (by decide) ?_
    refine lv_iadd hx hb dX5_add_38 ?_
    refine lv_topi (fun v_11 ev_11 => ?_)
    have q_12 : v_11.toInt = (I this 2).toInt + (1 : Int32).toInt := ow_add ev_11 (by omega) (by omega)
    refine cp_6_2_5 hx hb ht hown hK hN hP hD hS hthis.1 hthis.2 dX5_add_39 (fun H locs hP hD hS => ?_)
    replace hI := IV.up hI hthis.2 2 (show 0 ≤ v_11.toInt ∧ v_11.toInt ≤ 540 from by omega)
    have f_13 : FI [(6, 2)] K I (va_up I this (va_up (I this) 2 v_11)) := FI.up hthis.2 2 v_11
    have e_14 : (va_up I this (va_up (I this) 2 v_11)) this 2 = v_11 := FI.at I this 2 v_11
    replace hC_0 := FI.tr hC_0 f_13 (by decide)
    generalize (va_up I this (va_up (I this) 2 v_11)) = I_15 at hP hD hI f_13 e_14 hC_0
    refine W.widen (k := 0) (n := 0) (Nat.le_of_ble_eq_true rfl) (Nat.le_of_ble_eq_true rfl) ?_
    exact W.vret hx hb hr (fun t ht9 hW => ⟨⟨(I_15, J, E_10, B), rfl, ⟨hI, hE, hC_0, trivial⟩, ⟨by rw [ht9]; exact hP, hD⟩⟩, hS.F ht9⟩) hS.2.2 dX5_add_42
set_option maxHeartbeats 4000000 in
set_option maxRecDepth 100000 in
theorem c_push (l : Launch) (G : va_G) (cy : Nat → ClassId) (sz : Nat) (L : List Nat) (K : Nat → Nat) (R : Nat → Nat → Nat) (T : Int) (I E : Nat → Nat → Int32) (J B : Nat → Nat → Int64) (this : Nat) (n : Int32) (hRT : RT L K R) (hI : IV T L K I) (hE : EV L K E) (hthis1 : this ∈ L) (hthis2 : K this = 6) : Met l yX5_push (.code yX5_push cX5_push 2 none :: TBg) ({ frames := 1, cells := 0, slots := 0, locals := 64 }) (va_Pc [.ref this, .int n] (En G cy (WC cy L K R I J E B) sz)) (va_Qv (fun (u : (Nat → Nat → Int32) × (Nat → Nat → Int64) × (Nat → Nat → Int32) × (Nat → Nat → Int64)) => IV T L K u.1 ∧ EV L K u.2.2.1 ∧ FI [(6, 4)] K I u.1 ∧ (True)) (fun u t => Ex G (va_A (WC cy L K R I J E B) sz) (WC cy L K R u.1 u.2.1 u.2.2.1 u.2.2.2) t) (va_A (WC cy L K R I J E B) sz)) 0 0 (va_A (WC cy L K R I J E B) sz) := by
  have hthis : this ∈ L ∧ K this = 6 := ⟨hthis1, hthis2⟩
  refine Met.ofW (cc := cX5_push) (maxL := 2) (ret := none) (by decide) rfl ?_
  intro p e s m args below meth c s₁ B9 hml hv9
  obtain ⟨rfl, hsz, hP, hK, hD0, hN⟩ := hv9
  have hx := B9.exec
  have hb := B9.bytes
  have hr := B9.returns
  have hts := atoms_spec (ws := .code yX5_push cX5_push 2 none :: TBg) B9.pre
  have ht : ∀ w ∈ TBg, w.before _ s = true := fun w h => hts w (List.mem_cons_of_mem _ h)
  have hown : s.vm.findClass RX5 = some m.cls := findClass_of_methodNamed B9.named
  have hlocks := B9.notSynchronized
  subst hsz
  have hD := hD0.self (sz := s.heap.size)
  generalize hAe : va_A (WC cy L K R I J E B) s.heap.size = A at hD ⊢
  have hA : ∀ q : Nat, s.heap.size ≤ q → A q := fun q h => by rw [← hAe]; exact Or.inr h
  have hS : va_S A s.heap s.heap [] := va_S.rf
  have hl := lv_entry ([.ref this, .int n]) (n := 2) (Nat.le_of_ble_eq_true rfl)
  rw [lg_entry_eq]
  generalize (lg_sl ([.ref this, .int n]) ++ List.replicate (2 - (lg_sl ([.ref this, .int n])).length) Slot.unset).toArray = ls at hl ⊢
  have hl : lv_has ls 2 [(0, .ref this), (1, .int n)] := hl
  have z0 : (1 : Int32).toInt = 1 := by decide
  have z1 : (61 : Int32).toInt = 61 := by decide
  have hC_0 : FI [(6, 4)] K I I := FI.rf
  refine lv_aload_n hx hb dX5_push_0 rfl (lv_at hl 0 rfl) ?_
  refine cg_6_4_5 hx hb ht hown hK hN hP hthis.1 hthis.2 dX5_push_1 ?_
  have q_1 : 0 ≤ (I this 4).toInt ∧ (I this 4).toInt ≤ 61 := IV.rd hI hthis.1 hthis.2 4
  refine lv_aload_n hx hb dX5_push_4 rfl (lv_at hl 0 rfl) ?_
  refine cg_6_3_5 hx hb ht hown hK hN hP hthis.1 hthis.2 dX5_push_5 ?_
  have hm_2 : (R this 3) ∈ L ∧ K (R this 3) = 28 := RT.o hRT hthis.1 hthis.2 3 (by decide)
  refine cn_28 hx hb hK hP hm_2.1 hm_2.2 dX5_push_8 ?_
  refine lv_icmp_ge (tgt := 32) hx hb dX5_push_9 (by decide) (fun c_3 => ?_) (fun c_3 => ?_)
  · have q_4 : (61 : Int32).toInt ≤ (I this 4).toInt := (ow_le _ _).mp c_3
    refine W.widen (k := 0) (n := 0) (Nat.le_of_ble_eq_true rfl) (Nat.le_of_ble_eq_true rfl) ?_
    exact W.vret hx hb hr (fun t ht9 hW => ⟨⟨(I, J, E, B), rfl, ⟨hI, hE, hC_0, trivial⟩, ⟨by rw [ht9]; exact hP, hD⟩⟩, hS.F ht9⟩) hS.2.2 dX5_push_32
  · have q_5 : (I this 4).toInt < (61 : Int32).toInt := by have := (not_congr (ow_le _ _)).mp c_3; omega
    refine lv_aload_n hx hb dX5_push_12 rfl (lv_at hl 0 rfl) ?_
    refine cg_6_3_5 hx hb ht hown hK hN hP hthis.1 hthis.2 dX5_push_13 ?_
    refine lv_aload_n hx hb dX5_push_16 rfl (lv_at hl 0 rfl) ?_
    refine cg_6_4_5 hx hb ht hown hK hN hP hthis.1 hthis.2 dX5_push_17 ?_
    refine lv_iload_n hx hb dX5_push_20 rfl (lv_at hl 1 rfl) ?_
    have q_6 : vp_in (I this 4) 61 := vp_in_iff.mpr ⟨by omega, by omega⟩
    refine cs_28 hx hb hK hP hD hS hm_2.1 hm_2.2 q_6 dX5_push_21 (fun H locs hP hD hS => ?_)
    replace hE := EV.up hE hm_2.2 (i := (Int32.toNatClampNeg (I this 4))) (ow_any n)
    generalize (va_up E (R this 3) (upd (E (R this 3)) (Int32.toNatClampNeg (I this 4)) n)) = E_7 at hP hD hE
    refine lv_aload_n hx hb dX5_push_22 rfl (lv_at hl 0 rfl) ?_
    refine lv_dup hx hb dX5_push_23 rfl ?_
    refine cg_6_4_5 hx hb ht hown hK hN hP hthis.1 hthis.2 dX5_push_24 ?_
    refine lv_iconst (v := 1) hx hb dX5_push_27 (by decide) ?_
    refine lv_iadd hx hb dX5_push_28 ?_
    refine lv_topi (fun v_8 ev_8 => ?_)
    have q_9 : v_8.toInt = (I this 4).toInt + (1 : Int32).toInt := ow_add ev_8 (by omega) (by omega)
    refine cp_6_4_5 hx hb ht hown hK hN hP hD hS hthis.1 hthis.2 dX5_push_29 (fun H locs hP hD hS => ?_)
    replace hI := IV.up hI hthis.2 4 (show 0 ≤ v_8.toInt ∧ v_8.toInt ≤ 61 from by omega)
    have f_10 : FI [(6, 4)] K I (va_up I this (va_up (I this) 4 v_8)) := FI.up hthis.2 4 v_8
    have e_11 : (va_up I this (va_up (I this) 4 v_8)) this 4 = v_8 := FI.at I this 4 v_8
    replace hC_0 := FI.tr hC_0 f_10 (by decide)
    generalize (va_up I this (va_up (I this) 4 v_8)) = I_12 at hP hD hI f_10 e_11 hC_0
    refine W.widen (k := 0) (n := 0) (Nat.le_of_ble_eq_true rfl) (Nat.le_of_ble_eq_true rfl) ?_
    exact W.vret hx hb hr (fun t ht9 hW => ⟨⟨(I_12, J, E_7, B), rfl, ⟨hI, hE, hC_0, trivial⟩, ⟨by rw [ht9]; exact hP, hD⟩⟩, hS.F ht9⟩) hS.2.2 dX5_push_32
set_option maxHeartbeats 4000000 in
set_option maxRecDepth 100000 in
theorem c_pop (l : Launch) (G : va_G) (cy : Nat → ClassId) (sz : Nat) (L : List Nat) (K : Nat → Nat) (R : Nat → Nat → Nat) (T : Int) (I E : Nat → Nat → Int32) (J B : Nat → Nat → Int64) (this : Nat)  (hRT : RT L K R) (hI : IV T L K I) (hE : EV L K E) (hthis1 : this ∈ L) (hthis2 : K this = 6) : Met l yX5_pop (.code yX5_pop cX5_pop 1 (some .int) :: TBg) ({ frames := 1, cells := 0, slots := 0, locals := 64 }) (va_Pc [.ref this] (En G cy (WC cy L K R I J E B) sz)) (va_Qi (fun (r : Int32) (u : (Nat → Nat → Int32) × (Nat → Nat → Int64) × (Nat → Nat → Int32) × (Nat → Nat → Int64)) => IV T L K u.1 ∧ EV L K u.2.2.1 ∧ FI [(6, 4)] K I u.1 ∧ (True)) (fun u t => Ex G (va_A (WC cy L K R I J E B) sz) (WC cy L K R u.1 u.2.1 u.2.2.1 u.2.2.2) t) (va_A (WC cy L K R I J E B) sz)) 0 0 (va_A (WC cy L K R I J E B) sz) := by
  have hthis : this ∈ L ∧ K this = 6 := ⟨hthis1, hthis2⟩
  refine Met.ofW (cc := cX5_pop) (maxL := 1) (ret := (some .int)) (by decide) rfl ?_
  intro p e s m args below meth c s₁ B9 hml hv9
  obtain ⟨rfl, hsz, hP, hK, hD0, hN⟩ := hv9
  have hx := B9.exec
  have hb := B9.bytes
  have hr := B9.returns
  have hts := atoms_spec (ws := .code yX5_pop cX5_pop 1 (some .int) :: TBg) B9.pre
  have ht : ∀ w ∈ TBg, w.before _ s = true := fun w h => hts w (List.mem_cons_of_mem _ h)
  have hown : s.vm.findClass RX5 = some m.cls := findClass_of_methodNamed B9.named
  have hlocks := B9.notSynchronized
  subst hsz
  have hD := hD0.self (sz := s.heap.size)
  generalize hAe : va_A (WC cy L K R I J E B) s.heap.size = A at hD ⊢
  have hA : ∀ q : Nat, s.heap.size ≤ q → A q := fun q h => by rw [← hAe]; exact Or.inr h
  have hS : va_S A s.heap s.heap [] := va_S.rf
  have hl := lv_entry ([.ref this]) (n := 1) (Nat.le_of_ble_eq_true rfl)
  rw [lg_entry_eq]
  generalize (lg_sl ([.ref this]) ++ List.replicate (1 - (lg_sl ([.ref this])).length) Slot.unset).toArray = ls at hl ⊢
  have hl : lv_has ls 1 [(0, .ref this)] := hl
  have z0 : (0 : Int32).toInt = 0 := by decide
  have z1 : (1 : Int32).toInt = 1 := by decide
  have hC_0 : FI [(6, 4)] K I I := FI.rf
  refine lv_aload_n hx hb dX5_pop_0 rfl (lv_at hl 0 rfl) ?_
  refine cg_6_4_5 hx hb ht hown hK hN hP hthis.1 hthis.2 dX5_pop_1 ?_
  have q_1 : 0 ≤ (I this 4).toInt ∧ (I this 4).toInt ≤ 61 := IV.rd hI hthis.1 hthis.2 4
  refine lv_iconst (v := 1) hx hb dX5_pop_4 (by decide) ?_
  refine lv_icmp_ge (tgt := 10) hx hb dX5_pop_5 (by decide) (fun c_2 => ?_) (fun c_2 => ?_)
  · have q_3 : (1 : Int32).toInt ≤ (I this 4).toInt := (ow_le _ _).mp c_2
    refine lv_aload_n hx hb dX5_pop_10 rfl (lv_at hl 0 rfl) ?_
    refine lv_dup hx hb dX5_pop_11 rfl ?_
    refine cg_6_4_5 hx hb ht hown hK hN hP hthis.1 hthis.2 dX5_pop_12 ?_
    refine lv_iconst (v := 1) hx hb dX5_pop_15 (by decide) ?_
    refine lv_isub hx hb dX5_pop_16 ?_
    refine lv_topi (fun v_4 ev_4 => ?_)
    have q_5 : v_4.toInt = (I this 4).toInt - (1 : Int32).toInt := ow_sub ev_4 (by omega) (by omega)
    refine cp_6_4_5 hx hb ht hown hK hN hP hD hS hthis.1 hthis.2 dX5_pop_17 (fun H locs hP hD hS => ?_)
    replace hI := IV.up hI hthis.2 4 (show 0 ≤ v_4.toInt ∧ v_4.toInt ≤ 61 from by omega)
    have f_6 : FI [(6, 4)] K I (va_up I this (va_up (I this) 4 v_4)) := FI.up hthis.2 4 v_4
    have e_7 : (va_up I this (va_up (I this) 4 v_4)) this 4 = v_4 := FI.at I this 4 v_4
    replace hC_0 := FI.tr hC_0 f_6 (by decide)
    generalize (va_up I this (va_up (I this) 4 v_4)) = I_8 at hP hD hI f_6 e_7 hC_0
    refine lv_aload_n hx hb dX5_pop_20 rfl (lv_at hl 0 rfl) ?_
    refine cg_6_3_5 hx hb ht hown hK hN hP hthis.1 hthis.2 dX5_pop_21 ?_
    have hm_9 : (R this 3) ∈ L ∧ K (R this 3) = 28 := RT.o hRT hthis.1 hthis.2 3 (by decide)
    refine lv_aload_n hx hb dX5_pop_24 rfl (lv_at hl 0 rfl) ?_
    refine cg_6_4_5 hx hb ht hown hK hN hP hthis.1 hthis.2 dX5_pop_25 ?_
    refine ow_top v_4 e_7 ?_
    have q_10 : 0 ≤ v_4.toInt ∧ v_4.toInt ≤ 61 := by have h9 : I_8 this 4 = v_4 := e_7; rw [← h9]; exact IV.rd hI hthis.1 hthis.2 4
    have q_11 : vp_in v_4 61 := vp_in_iff.mpr ⟨by omega, by omega⟩
    refine cl_28 hx hb hK hP hm_9.1 hm_9.2 q_11 dX5_pop_28 ?_
    refine lv_topi (fun v_12 ev_12 => ?_)
    refine W.widen (k := 0) (n := 0) (Nat.le_of_ble_eq_true rfl) (Nat.le_of_ble_eq_true rfl) ?_
    exact W.iret (v := v_12) hx hb hr (fun t ht9 hW => ⟨⟨v_12, (I_8, J, E, B), rfl, ⟨hI, hE, hC_0, trivial⟩, ⟨by rw [ht9]; exact hP, hD⟩⟩, hS.F ht9⟩) hS.2.2 dX5_pop_29
  · have q_13 : (I this 4).toInt < (1 : Int32).toInt := by have := (not_congr (ow_le _ _)).mp c_2; omega
    refine lv_iconst (v := 0) hx hb dX5_pop_8 (by decide) ?_
    refine W.widen (k := 0) (n := 0) (Nat.le_of_ble_eq_true rfl) (Nat.le_of_ble_eq_true rfl) ?_
    exact W.iret (v := 0) hx hb hr (fun t ht9 hW => ⟨⟨0, (I, J, E, B), rfl, ⟨hI, hE, hC_0, trivial⟩, ⟨by rw [ht9]; exact hP, hD⟩⟩, hS.F ht9⟩) hS.2.2 dX5_pop_9
set_option maxHeartbeats 4000000 in
set_option maxRecDepth 100000 in
theorem c_isNear (l : Launch) (G : va_G) (cy : Nat → ClassId) (sz : Nat) (L : List Nat) (K : Nat → Nat) (R : Nat → Nat → Nat) (T : Int) (I E : Nat → Nat → Int32) (J B : Nat → Nat → Int64) (offs : Nat) (n : Int32) (n2 : Int32) (hRT : RT L K R) (hI : IV T L K I) (hE : EV L K E) (h_offs1 : offs ∈ L) (h_offs2 : K offs = 25) : Met l yX5_isNear (.code yX5_isNear cX5_isNear 4 (some .int) :: TBg) ({ frames := 1, cells := 0, slots := 0, locals := 64 }) (va_Pc [.ref offs, .int n, .int n2] (En G cy (WC cy L K R I J E B) sz)) (va_Qi (fun (r : Int32) (_ : Unit) => True) (fun _ _ => True) (va_A [] sz)) 0 0 (va_A [] sz) := by
  have h_offs : offs ∈ L ∧ K offs = 25 := ⟨h_offs1, h_offs2⟩
  refine Met.ofW (cc := cX5_isNear) (maxL := 4) (ret := (some .int)) (by decide) rfl ?_
  intro p e s m args below meth c s₁ B9 hml hv9
  obtain ⟨rfl, hsz, hP, hK, hD0, hN⟩ := hv9
  have hx := B9.exec
  have hb := B9.bytes
  have hr := B9.returns
  have hts := atoms_spec (ws := .code yX5_isNear cX5_isNear 4 (some .int) :: TBg) B9.pre
  have ht : ∀ w ∈ TBg, w.before _ s = true := fun w h => hts w (List.mem_cons_of_mem _ h)
  have hown : s.vm.findClass RX5 = some m.cls := findClass_of_methodNamed B9.named
  have hlocks := B9.notSynchronized
  subst hsz
  generalize hAe : va_A [] s.heap.size = A at ⊢
  have hA : ∀ q : Nat, s.heap.size ≤ q → A q := fun q h => by rw [← hAe]; exact Or.inr h
  have hS : va_S A s.heap s.heap [] := va_S.rf
  have hl := lv_entry ([.ref offs, .int n, .int n2]) (n := 4) (Nat.le_of_ble_eq_true rfl)
  rw [lg_entry_eq]
  generalize (lg_sl ([.ref offs, .int n, .int n2]) ++ List.replicate (4 - (lg_sl ([.ref offs, .int n, .int n2])).length) Slot.unset).toArray = ls at hl ⊢
  have hl : lv_has ls 4 [(0, .ref offs), (1, .int n), (2, .int n2)] := hl
  have z0 : (-1 : Int32).toInt = -1 := by decide
  have z1 : (0 : Int32).toInt = 0 := by decide
  have z2 : (1 : Int32).toInt = 1 := by decide
  have z3 : (14 : Int32).toInt = 14 := by decide
  refine W.widen (k := 0) (n := 0) (Nat.le_of_ble_eq_true rfl) (Nat.le_of_ble_eq_true rfl) ?_
  have jn_1 : ∀ (y0_1 : Int32) (H : Heap) (locs : List Loc) (ls : Array Slot), (0 ≤ y0_1.toInt ∧ y0_1.toInt ≤ 1) → (y0_1.toInt = 0 ∨ (0 ≤ n.toInt ∧ n.toInt ≤ 13)) → va_P G vwCl (WC cy L K R I J E B) H → va_S A s.heap H locs → lv_has ls 4 [(0, .ref offs), (1, .int n), (2, .int n2)] → W p l e (headSpec (.code yX5_isNear cX5_isNear 4 (some .int) :: TBg) ({ frames := 1, cells := 0, slots := 0, locals := 64 })).room s m ([.ref offs, .int n, .int n2] : List Value).toArray below meth c H locs 0 0 (MQ below (va_Qi (fun (r : Int32) (_ : Unit) => True) (fun _ _ => True) A) ([.ref offs, .int n, .int n2] : List Value).toArray s 0 0 A) (F0 m 22 ls [.int y0_1]) := by
    intro y0_1 H locs ls qf1_0 qf1_1 hP hS hl
    refine lv_istore_n (lv' := [(3, .int y0_1), (0, .ref offs), (1, .int n), (2, .int n2)]) hx hb dX5_isNear_22 rfl hl (by decide) rfl (fun ls hl => ?_)
    refine lv_iload_n hx hb dX5_isNear_23 rfl (lv_at hl 0 rfl) ?_
    refine lv_if_eq (tgt := 38) hx hb dX5_isNear_24 (by decide) (fun c_2 => ?_) (fun c_2 => ?_)
    · have q_3 : y0_1.toInt = (0 : Int32).toInt := (ow_eq _ _).mp c_2
      refine lv_iconst (v := 0) hx hb dX5_isNear_38 (by decide) ?_
      refine W.widen (k := 0) (n := 0) (Nat.le_of_ble_eq_true rfl) (Nat.le_of_ble_eq_true rfl) ?_
      exact W.iret (v := 0) hx hb hr (fun t ht9 hW => ⟨⟨0, (), rfl, trivial, trivial⟩, hS.F ht9⟩) hS.2.2 dX5_isNear_39
    · have q_4 : ¬ y0_1.toInt = (0 : Int32).toInt := by have := (not_congr (ow_eq _ _)).mp c_2; omega
      refine lv_aload_n hx hb dX5_isNear_27 rfl (lv_at hl 1 rfl) ?_
      refine lv_iload_n hx hb dX5_isNear_28 rfl (lv_at hl 2 rfl) ?_
      have q_5 : vp_in n 14 := vp_in_iff.mpr ⟨by omega, by omega⟩
      refine cl_25 hx hb hK hP h_offs.1 h_offs.2 q_5 dX5_isNear_29 ?_
      refine lv_topi (fun v_6 ev_6 => ?_)
      refine lv_iload_n hx hb dX5_isNear_30 rfl (lv_at hl 3 rfl) ?_
      refine lv_icmp_gt (tgt := 38) hx hb dX5_isNear_31 (by decide) (fun c_7 => ?_) (fun c_7 => ?_)
      · have q_8 : n2.toInt < v_6.toInt := (ow_lt _ _).mp c_7
        refine lv_iconst (v := 0) hx hb dX5_isNear_38 (by decide) ?_
        refine W.widen (k := 0) (n := 0) (Nat.le_of_ble_eq_true rfl) (Nat.le_of_ble_eq_true rfl) ?_
        exact W.iret (v := 0) hx hb hr (fun t ht9 hW => ⟨⟨0, (), rfl, trivial, trivial⟩, hS.F ht9⟩) hS.2.2 dX5_isNear_39
      · have q_9 : v_6.toInt ≤ n2.toInt := by have := (not_congr (ow_lt _ _)).mp c_7; omega
        refine lv_iconst (v := 1) hx hb dX5_isNear_34 (by decide) ?_
        refine lv_goto (tgt := 39) hx hb dX5_isNear_35 (by decide) ?_
        refine W.widen (k := 0) (n := 0) (Nat.le_of_ble_eq_true rfl) (Nat.le_of_ble_eq_true rfl) ?_
        exact W.iret (v := 1) hx hb hr (fun t ht9 hW => ⟨⟨1, (), rfl, trivial, trivial⟩, hS.F ht9⟩) hS.2.2 dX5_isNear_39
  refine lv_iload_n hx hb dX5_isNear_0 rfl (lv_at hl 1 rfl) ?_
  refine lv_if_lt (tgt := 21) hx hb dX5_isNear_1 (by decide) (fun c_10 => ?_) (fun c_10 => ?_)
  · have q_11 : n.toInt < (0 : Int32).toInt := (ow_lt _ _).mp c_10
    refine lv_iconst (v := 0) hx hb dX5_isNear_21 (by decide) ?_
    refine W.widen (k := 0) (n := 0) (Nat.le_of_ble_eq_true rfl) (Nat.le_of_ble_eq_true rfl) ?_
    exact jn_1 (0) _ _ _ (by omega) (by omega) hP hS (lv_sub hl [0, 1, 2] rfl)
  · have q_12 : (0 : Int32).toInt ≤ n.toInt := by have := (not_congr (ow_lt _ _)).mp c_10; omega
    refine lv_iload_n hx hb dX5_isNear_4 rfl (lv_at hl 1 rfl) ?_
    refine lv_aload_n hx hb dX5_isNear_5 rfl (lv_at hl 0 rfl) ?_
    refine cn_25 hx hb hK hP h_offs.1 h_offs.2 dX5_isNear_6 ?_
    refine lv_icmp_ge (tgt := 21) hx hb dX5_isNear_7 (by decide) (fun c_13 => ?_) (fun c_13 => ?_)
    · have q_14 : (14 : Int32).toInt ≤ n.toInt := (ow_le _ _).mp c_13
      refine lv_iconst (v := 0) hx hb dX5_isNear_21 (by decide) ?_
      refine W.widen (k := 0) (n := 0) (Nat.le_of_ble_eq_true rfl) (Nat.le_of_ble_eq_true rfl) ?_
      exact jn_1 (0) _ _ _ (by omega) (by omega) hP hS (lv_sub hl [0, 1, 2] rfl)
    · have q_15 : n.toInt < (14 : Int32).toInt := by have := (not_congr (ow_le _ _)).mp c_13; omega
      refine lv_aload_n hx hb dX5_isNear_10 rfl (lv_at hl 0 rfl) ?_
      refine lv_iload_n hx hb dX5_isNear_11 rfl (lv_at hl 1 rfl) ?_
      have q_16 : vp_in n 14 := vp_in_iff.mpr ⟨by omega, by omega⟩
      refine cl_25 hx hb hK hP h_offs.1 h_offs.2 q_16 dX5_isNear_12 ?_
      refine lv_topi (fun v_17 ev_17 => ?_)
      refine lv_iconst (v := (-1)) hx hb dX5_isNear_13 (by decide) ?_
      refine lv_icmp_eq (tgt := 21) hx hb dX5_isNear_14 (by decide) (fun c_18 => ?_) (fun c_18 => ?_)
      · have q_19 : v_17.toInt = ((-1) : Int32).toInt := (ow_eq _ _).mp c_18
        refine lv_iconst (v := 0) hx hb dX5_isNear_21 (by decide) ?_
        refine W.widen (k := 0) (n := 0) (Nat.le_of_ble_eq_true rfl) (Nat.le_of_ble_eq_true rfl) ?_
        exact jn_1 (0) _ _ _ (by omega) (by omega) hP hS (lv_sub hl [0, 1, 2] rfl)
      · have q_20 : ¬ v_17.toInt = ((-1) : Int32).toInt := by have := (not_congr (ow_eq _ _)).mp c_18; omega
        refine lv_iconst (v := 1) hx hb dX5_isNear_17 (by decide) ?_
        refine lv_goto (tgt := 22) hx hb dX5_isNear_18 (by decide) ?_
        refine W.widen (k := 0) (n := 0) (Nat.le_of_ble_eq_true rfl) (Nat.le_of_ble_eq_true rfl) ?_
        exact jn_1 (1) _ _ _ (by omega) (by omega) hP hS (lv_sub hl [0, 1, 2] rfl)
set_option maxHeartbeats 4000000 in
set_option maxRecDepth 100000 in
theorem c_answer (l : Launch) (G : va_G) (cy : Nat → ClassId) (sz : Nat) (L : List Nat) (K : Nat → Nat) (R : Nat → Nat → Nat) (T : Int) (I E : Nat → Nat → Int32) (J B : Nat → Nat → Int64) (this : Nat) (lock : Nat) (song : Nat) (n3 : Int32) (n4 : Int32) (hRT : RT L K R) (hI : IV T L K I) (hE : EV L K E) (hthis1 : this ∈ L) (hthis2 : K this = 6) (h_lock1 : lock ∈ L) (h_lock2 : K lock = 5) (h_song1 : song ∈ L) (h_song2 : K song = 4) (h_n3 : 0 ≤ n3.toInt ∧ n3.toInt ≤ 1) : Met l yX5_answer (.code yX5_answer cX5_answer 8 (some .int) :: TBg) ({ frames := 3, cells := 0, slots := 0, locals := 192 }) (va_Pc [.ref this, .ref lock, .ref song, .int n3, .int n4] (En G cy (WC cy L K R I J E B) sz)) (va_Qi (fun (r : Int32) (u : (Nat → Nat → Int32) × (Nat → Nat → Int64) × (Nat → Nat → Int32) × (Nat → Nat → Int64)) => IV T L K u.1 ∧ EV L K u.2.2.1 ∧ FI [(6, 4)] K I u.1 ∧ (True)) (fun u t => Ex G (va_A (WC cy L K R I J E B) sz) (WC cy L K R u.1 u.2.1 u.2.2.1 u.2.2.2) t) (va_A (WC cy L K R I J E B) sz)) 0 0 (va_A (WC cy L K R I J E B) sz) := by
  have hthis : this ∈ L ∧ K this = 6 := ⟨hthis1, hthis2⟩
  have h_lock : lock ∈ L ∧ K lock = 5 := ⟨h_lock1, h_lock2⟩
  have h_song : song ∈ L ∧ K song = 4 := ⟨h_song1, h_song2⟩
  refine Met.ofW (cc := cX5_answer) (maxL := 8) (ret := (some .int)) (by decide) rfl ?_
  intro p e s m args below meth c s₁ B9 hml hv9
  obtain ⟨rfl, hsz, hP, hK, hD0, hN⟩ := hv9
  have hx := B9.exec
  have hb := B9.bytes
  have hr := B9.returns
  have hts := atoms_spec (ws := .code yX5_answer cX5_answer 8 (some .int) :: TBg) B9.pre
  have ht : ∀ w ∈ TBg, w.before _ s = true := fun w h => hts w (List.mem_cons_of_mem _ h)
  have hown : s.vm.findClass RX5 = some m.cls := findClass_of_methodNamed B9.named
  have hlocks := B9.notSynchronized
  subst hsz
  have hD := hD0.self (sz := s.heap.size)
  generalize hAe : va_A (WC cy L K R I J E B) s.heap.size = A at hD ⊢
  have hA : ∀ q : Nat, s.heap.size ≤ q → A q := fun q h => by rw [← hAe]; exact Or.inr h
  have hS : va_S A s.heap s.heap [] := va_S.rf
  have hl := lv_entry ([.ref this, .ref lock, .ref song, .int n3, .int n4]) (n := 8) (Nat.le_of_ble_eq_true rfl)
  rw [lg_entry_eq]
  generalize (lg_sl ([.ref this, .ref lock, .ref song, .int n3, .int n4]) ++ List.replicate (8 - (lg_sl ([.ref this, .ref lock, .ref song, .int n3, .int n4])).length) Slot.unset).toArray = ls at hl ⊢
  have hl : lv_has ls 8 [(0, .ref this), (1, .ref lock), (2, .ref song), (3, .int n3), (4, .int n4)] := hl
  have z0 : (0 : Int32).toInt = 0 := by decide
  have z1 : (1 : Int32).toInt = 1 := by decide
  have hC_0 : FI [(6, 4)] K I I := FI.rf
  refine lv_aload_n hx hb dX5_answer_0 rfl (lv_at hl 1 rfl) ?_
  refine lv_iload hx hb dX5_answer_1 (lv_at hl 4 rfl) ?_
  have hFc := fr_new hS hA
  refine va_calli (va_runV (As := [.int n4]) (rest := []) ⟨hx, hb, hml, hown, ht⟩ (c_nearWorn l G cy _ L K R T I E J B lock n4 hRT hI hE h_lock.1 h_lock.2) (cwV 1 ht (gv k_434 k_435 k_436 k_437 k_433) rfl rfl rfl (by decide +kernel) ⟨Nat.le_of_ble_eq_true rfl, Nat.le_of_ble_eq_true rfl⟩) ⟨En.blind, cr_5 hK hP h_lock.1 h_lock.2, fun U hU hW => ⟨rfl, En.of hU hW hP hK hD hN⟩⟩ rfl rfl hl.1 rfl (lv_room (Nat.le_of_ble_eq_true rfl)) dX5_answer_3 ⟨Nat.le_of_ble_eq_true rfl, Nat.le_of_ble_eq_true rfl⟩) hS (fun q _ h => hFc q h) hFc (fun r_u_1 u_1 t9 H locs ht9 hvm hw hB hz1 hk1 hS => ?_)
  have hP := fr_keep hP hk1
  have wu_1 := hw
  clear hFc hk1 hz1 hB hw
  refine lv_istore (lv' := [(5, .int r_u_1), (0, .ref this), (1, .ref lock), (2, .ref song), (3, .int n3), (4, .int n4)]) hx hb dX5_answer_6 hl (by decide) rfl (fun ls hl => ?_)
  refine lv_aload_n hx hb dX5_answer_8 rfl (lv_at hl 1 rfl) ?_
  refine lv_iconst (v := 0) hx hb dX5_answer_9 (by decide) ?_
  refine cp_6_4_5 hx hb ht hown hK hN hP hD hS hthis.1 hthis.2 dX5_answer_10 (fun H locs hP hD hS => ?_)
  replace hI := IV.up hI hthis.2 4 (show 0 ≤ (0 : Int32).toInt ∧ (0 : Int32).toInt ≤ 61 from by omega)
  have f_2 : FI [(6, 4)] K I (va_up I this (va_up (I this) 4 0)) := FI.up hthis.2 4 (0 : Int32)
  have e_3 : (va_up I this (va_up (I this) 4 0)) this 4 = 0 := FI.at I this 4 (0 : Int32)
  replace hC_0 := FI.tr hC_0 f_2 (by decide)
  generalize (va_up I this (va_up (I this) 4 0)) = I_4 at hP hD hI f_2 e_3 hC_0
  refine lv_aload_n hx hb dX5_answer_13 rfl (lv_at hl 2 rfl) ?_
  refine cg_5_2_5 hx hb ht hown hK hN hP h_lock.1 h_lock.2 dX5_answer_14 ?_
  refine ow_top (I lock 2) (f_2 lock 2 (by rw [h_lock.2]; decide)) ?_
  have q_5 : 0 ≤ (I lock 2).toInt ∧ (I lock 2).toInt ≤ 540 := by have h9 : I_4 lock 2 = (I lock 2) := (f_2 lock 2 (by rw [h_lock.2]; decide)); rw [← h9]; exact IV.rd hI h_lock.1 h_lock.2 2
  refine lv_istore (lv' := [(6, .int (I lock 2)), (5, .int r_u_1), (0, .ref this), (1, .ref lock), (2, .ref song), (3, .int n3), (4, .int n4)]) hx hb dX5_answer_17 hl (by decide) rfl (fun ls hl => ?_)
  refine W.widen (k := 0) (n := 0) (Nat.le_of_ble_eq_true rfl) (Nat.le_of_ble_eq_true rfl) ?_
  have lp_6 : ∀ (N_6 : Nat) (x6_6 : Int32) (I6 : Nat → Nat → Int32) (J6 : Nat → Nat → Int64) (E6 : Nat → Nat → Int32) (B6 : Nat → Nat → Int64) (H : Heap) (locs : List Loc) (ls : Array Slot), IV T L K I6 → EV L K E6 → FI [(6, 4)] K I_4 I6 → (0 ≤ x6_6.toInt ∧ x6_6.toInt ≤ 540) → (540 - x6_6.toInt).toNat < N_6 → va_P G vwCl (WC cy L K R I6 J6 E6 B6) H → va_D A (WC cy L K R I6 J6 E6 B6) → va_S A s.heap H locs → lv_has ls 8 [(6, .int x6_6), (5, .int r_u_1), (0, .ref this), (1, .ref lock), (2, .ref song), (3, .int n3), (4, .int n4)] → W p l e (headSpec (.code yX5_answer cX5_answer 8 (some .int) :: TBg) ({ frames := 3, cells := 0, slots := 0, locals := 192 })).room s m ([.ref this, .ref lock, .ref song, .int n3, .int n4] : List Value).toArray below meth c H locs 0 0 (MQ below (va_Qi (fun (r : Int32) (u : (Nat → Nat → Int32) × (Nat → Nat → Int64) × (Nat → Nat → Int32) × (Nat → Nat → Int64)) => IV T L K u.1 ∧ EV L K u.2.2.1 ∧ FI [(6, 4)] K I u.1 ∧ (True)) (fun u t => Ex G A (WC cy L K R u.1 u.2.1 u.2.2.1 u.2.2.2) t) A) ([.ref this, .ref lock, .ref song, .int n3, .int n4] : List Value).toArray s 0 0 A) (F0 m 19 ls []) := by
    intro N_6
    induction N_6 with
    | zero => intro x6_6 I6 J6 E6 B6 H locs ls hI hE hC_6 qf6_0 hm9 hP hD hS hl; exact absurd hm9 (Nat.not_lt_zero _)
    | succ N_6 ih_6 =>
      intro x6_6 I6 J6 E6 B6 H locs ls hI hE hC_6 qf6_0 hm9 hP hD hS hl
      replace hC_0 := FI.tr hC_0 hC_6 (by decide)
      have hX_6 := hC_6
      refine lv_iload hx hb dX5_answer_19 (lv_at hl 0 rfl) ?_
      refine lv_aload_n hx hb dX5_answer_21 rfl (lv_at hl 3 rfl) ?_
      refine cg_5_3_5 hx hb ht hown hK hN hP h_lock.1 h_lock.2 dX5_answer_22 ?_
      refine ow_top (I lock 3) ((hC_6 lock 3 (by rw [h_lock.2]; decide)).trans (f_2 lock 3 (by rw [h_lock.2]; decide))) ?_
      refine lv_icmp_ge (tgt := 266) hx hb dX5_answer_25 (by decide) (fun c_7 => ?_) (fun c_7 => ?_)
      · have q_8 : (I lock 3).toInt ≤ x6_6.toInt := (ow_le _ _).mp c_7
        refine lv_aload_n hx hb dX5_answer_266 rfl (lv_at hl 2 rfl) ?_
        have hFc := fr_free hD hS hA
        refine va_calli (va_runV (As := []) (rest := []) ⟨hx, hb, hml, hown, ht⟩ (c_pop l G cy _ L K R T I6 E6 J6 B6 this hRT hI hE hthis.1 hthis.2) (cwV 0 ht (gv k_439 k_440 k_441 k_442 k_438) rfl rfl rfl (by decide +kernel) ⟨Nat.le_of_ble_eq_true rfl, Nat.le_of_ble_eq_true rfl⟩) ⟨En.blind, cr_6 hK hP hthis.1 hthis.2, fun U hU hW => ⟨rfl, En.of hU hW hP hK hD hN⟩⟩ rfl rfl hl.1 rfl (lv_room (Nat.le_of_ble_eq_true rfl)) dX5_answer_267 ⟨Nat.le_of_ble_eq_true rfl, Nat.le_of_ble_eq_true rfl⟩) hS (fun q _ h => hFc q h) hFc (fun r_u_9 u_9 t9 H locs ht9 hvm hw hB hz1 hk1 hS => ?_)
        obtain ⟨I9, J9, E9, B9⟩ := u_9
        obtain ⟨hP1, hD1⟩ := hB
        rw [ht9] at hP1
        clear hI hE
        obtain ⟨hI, hE, xu_9I, wu_9⟩ := hw
        dsimp only at hI hE xu_9I wu_9
        have hP : va_P G vwCl (WC cy L K R I9 J9 E9 B9) H := hP1
        have hD : va_D A (WC cy L K R I9 J9 E9 B9) := hD1.weaken (fun _ _ _ h => hFc _ h)
        clear hFc hk1 hz1 hP1 hD1
        replace hC_0 := FI.tr hC_0 xu_9I (by decide)
        replace hX_6 := FI.tr hX_6 xu_9I (by decide)
        refine W.widen (k := 0) (n := 0) (Nat.le_of_ble_eq_true rfl) (Nat.le_of_ble_eq_true rfl) ?_
        exact W.iret (v := r_u_9) hx hb hr (fun t ht9 hW => ⟨⟨r_u_9, (I9, J9, E9, B9), rfl, ⟨hI, hE, hC_0, trivial⟩, ⟨by rw [ht9]; exact hP, hD⟩⟩, hS.F ht9⟩) hS.2.2 dX5_answer_270
      · have q_10 : x6_6.toInt < (I lock 3).toInt := by have := (not_congr (ow_le _ _)).mp c_7; omega
        refine lv_iload hx hb dX5_answer_28 (lv_at hl 0 rfl) ?_
        refine lv_aload_n hx hb dX5_answer_30 rfl (lv_at hl 2 rfl) ?_
        refine cg_6_2_5 hx hb ht hown hK hN hP hthis.1 hthis.2 dX5_answer_31 ?_
        refine ow_top (I this 2) ((hC_6 this 2 (by rw [hthis.2]; decide)).trans (f_2 this 2 (by rw [hthis.2]; decide))) ?_
        have q_11 : 0 ≤ (I this 2).toInt ∧ (I this 2).toInt ≤ 540 := by have h9 : I6 this 2 = (I this 2) := ((hC_6 this 2 (by rw [hthis.2]; decide)).trans (f_2 this 2 (by rw [hthis.2]; decide))); rw [← h9]; exact IV.rd hI hthis.1 hthis.2 2
        refine lv_icmp_ge (tgt := 266) hx hb dX5_answer_34 (by decide) (fun c_12 => ?_) (fun c_12 => ?_)
        · have q_13 : (I this 2).toInt ≤ x6_6.toInt := (ow_le _ _).mp c_12
          refine lv_aload_n hx hb dX5_answer_266 rfl (lv_at hl 2 rfl) ?_
          have hFc := fr_free hD hS hA
          refine va_calli (va_runV (As := []) (rest := []) ⟨hx, hb, hml, hown, ht⟩ (c_pop l G cy _ L K R T I6 E6 J6 B6 this hRT hI hE hthis.1 hthis.2) (cwV 0 ht (gv k_439 k_440 k_441 k_442 k_438) rfl rfl rfl (by decide +kernel) ⟨Nat.le_of_ble_eq_true rfl, Nat.le_of_ble_eq_true rfl⟩) ⟨En.blind, cr_6 hK hP hthis.1 hthis.2, fun U hU hW => ⟨rfl, En.of hU hW hP hK hD hN⟩⟩ rfl rfl hl.1 rfl (lv_room (Nat.le_of_ble_eq_true rfl)) dX5_answer_267 ⟨Nat.le_of_ble_eq_true rfl, Nat.le_of_ble_eq_true rfl⟩) hS (fun q _ h => hFc q h) hFc (fun r_u_14 u_14 t9 H locs ht9 hvm hw hB hz1 hk1 hS => ?_)
          obtain ⟨I14, J14, E14, B14⟩ := u_14
          obtain ⟨hP1, hD1⟩ := hB
          rw [ht9] at hP1
          clear hI hE
          obtain ⟨hI, hE, xu_14I, wu_14⟩ := hw
          dsimp only at hI hE xu_14I wu_14
          have hP : va_P G vwCl (WC cy L K R I14 J14 E14 B14) H := hP1
          have hD : va_D A (WC cy L K R I14 J14 E14 B14) := hD1.weaken (fun _ _ _ h => hFc _ h)
          clear hFc hk1 hz1 hP1 hD1
          replace hC_0 := FI.tr hC_0 xu_14I (by decide)
          replace hX_6 := FI.tr hX_6 xu_14I (by decide)
          refine W.widen (k := 0) (n := 0) (Nat.le_of_ble_eq_true rfl) (Nat.le_of_ble_eq_true rfl) ?_
          exact W.iret (v := r_u_14) hx hb hr (fun t ht9 hW => ⟨⟨r_u_14, (I14, J14, E14, B14), rfl, ⟨hI, hE, hC_0, trivial⟩, ⟨by rw [ht9]; exact hP, hD⟩⟩, hS.F ht9⟩) hS.2.2 dX5_answer_270
        · have q_15 : x6_6.toInt < (I this 2).toInt := by have := (not_congr (ow_le _ _)).mp c_12; omega
          refine lv_aload_n hx hb dX5_answer_37 rfl (lv_at hl 2 rfl) ?_
          refine cg_6_0_5 hx hb ht hown hK hN hP hthis.1 hthis.2 dX5_answer_38 ?_
          have hm_16 : (R this 0) ∈ L ∧ K (R this 0) = 26 := RT.o hRT hthis.1 hthis.2 0 (by decide)
          refine lv_iload hx hb dX5_answer_41 (lv_at hl 0 rfl) ?_
          have q_17 : vp_in x6_6 540 := vp_in_iff.mpr ⟨by omega, by omega⟩
          refine cl_26 hx hb hK hP hm_16.1 hm_16.2 q_17 dX5_answer_43 ?_
          refine lv_topi (fun v_18 ev_18 => ?_)
          by_cases sw_19 : v_18.toInt < 8 ∨ 16 < v_18.toInt
          · refine lv_tableOut (tgt := 234) hx hb dX5_answer_44 (by omega) (by decide) ?_
            refine lv_aload_n hx hb dX5_answer_234 rfl (lv_at hl 2 rfl) ?_
            have hFc := fr_free hD hS hA
            refine va_calli (va_runV (As := []) (rest := []) ⟨hx, hb, hml, hown, ht⟩ (c_pop l G cy _ L K R T I6 E6 J6 B6 this hRT hI hE hthis.1 hthis.2) (cwV 0 ht (gv k_439 k_440 k_441 k_442 k_438) rfl rfl rfl (by decide +kernel) ⟨Nat.le_of_ble_eq_true rfl, Nat.le_of_ble_eq_true rfl⟩) ⟨En.blind, cr_6 hK hP hthis.1 hthis.2, fun U hU hW => ⟨rfl, En.of hU hW hP hK hD hN⟩⟩ rfl rfl hl.1 rfl (lv_room (Nat.le_of_ble_eq_true rfl)) dX5_answer_235 ⟨Nat.le_of_ble_eq_true rfl, Nat.le_of_ble_eq_true rfl⟩) hS (fun q _ h => hFc q h) hFc (fun r_u_20 u_20 t9 H locs ht9 hvm hw hB hz1 hk1 hS => ?_)
            obtain ⟨I20, J20, E20, B20⟩ := u_20
            obtain ⟨hP1, hD1⟩ := hB
            rw [ht9] at hP1
            clear hI hE
            obtain ⟨hI, hE, xu_20I, wu_20⟩ := hw
            dsimp only at hI hE xu_20I wu_20
            have hP : va_P G vwCl (WC cy L K R I20 J20 E20 B20) H := hP1
            have hD : va_D A (WC cy L K R I20 J20 E20 B20) := hD1.weaken (fun _ _ _ h => hFc _ h)
            clear hFc hk1 hz1 hP1 hD1
            replace hC_0 := FI.tr hC_0 xu_20I (by decide)
            replace hX_6 := FI.tr hX_6 xu_20I (by decide)
            refine lv_istore (lv' := [(7, .int r_u_20), (6, .int x6_6), (5, .int r_u_1), (0, .ref this), (1, .ref lock), (2, .ref song), (3, .int n3), (4, .int n4)]) hx hb dX5_answer_238 hl (by decide) rfl (fun ls hl => ?_)
            refine lv_aload_n hx hb dX5_answer_240 rfl (lv_at hl 3 rfl) ?_
            refine lv_aload_n hx hb dX5_answer_241 rfl (lv_at hl 3 rfl) ?_
            refine cg_6_0_5 hx hb ht hown hK hN hP hthis.1 hthis.2 dX5_answer_242 ?_
            refine lv_iload hx hb dX5_answer_245 (lv_at hl 1 rfl) ?_
            have q_21 : vp_in x6_6 540 := vp_in_iff.mpr ⟨by omega, by omega⟩
            refine cl_26 hx hb hK hP hm_16.1 hm_16.2 q_21 dX5_answer_247 ?_
            refine lv_topi (fun v_22 ev_22 => ?_)
            refine lv_aload_n hx hb dX5_answer_248 rfl (lv_at hl 3 rfl) ?_
            have hFc := fr_free hD hS hA
            refine va_calli (va_runV (As := []) (rest := [.int v_22, .ref this]) ⟨hx, hb, hml, hown, ht⟩ (c_pop l G cy _ L K R T I20 E20 J20 B20 this hRT hI hE hthis.1 hthis.2) (cwV 0 ht (gv k_439 k_440 k_441 k_442 k_438) rfl rfl rfl (by decide +kernel) ⟨Nat.le_of_ble_eq_true rfl, Nat.le_of_ble_eq_true rfl⟩) ⟨En.blind, cr_6 hK hP hthis.1 hthis.2, fun U hU hW => ⟨rfl, En.of hU hW hP hK hD hN⟩⟩ rfl rfl hl.1 rfl (lv_room (Nat.le_of_ble_eq_true rfl)) dX5_answer_249 ⟨Nat.le_of_ble_eq_true rfl, Nat.le_of_ble_eq_true rfl⟩) hS (fun q _ h => hFc q h) hFc (fun r_u_23 u_23 t9 H locs ht9 hvm hw hB hz1 hk1 hS => ?_)
            obtain ⟨I23, J23, E23, B23⟩ := u_23
            obtain ⟨hP1, hD1⟩ := hB
            rw [ht9] at hP1
            clear hI hE
            obtain ⟨hI, hE, xu_23I, wu_23⟩ := hw
            dsimp only at hI hE xu_23I wu_23
            have hP : va_P G vwCl (WC cy L K R I23 J23 E23 B23) H := hP1
            have hD : va_D A (WC cy L K R I23 J23 E23 B23) := hD1.weaken (fun _ _ _ h => hFc _ h)
            clear hFc hk1 hz1 hP1 hD1
            replace hC_0 := FI.tr hC_0 xu_23I (by decide)
            replace hX_6 := FI.tr hX_6 xu_23I (by decide)
            refine lv_iload hx hb dX5_answer_252 (lv_at hl 0 rfl) ?_
            have hFc := fr_new hS hA
            refine va_calli (va_runS (As := [.int v_22, .int r_u_23, .int r_u_20]) (rest := [.ref this]) ⟨hx, hb, hml, hown, ht⟩ (c_join l G cy _  v_22 r_u_23 r_u_20  ) (va_cwS 3 ht (gs k_444 k_445 k_442 k_443) rfl rfl rfl (by decide +kernel) ⟨Nat.le_of_ble_eq_true rfl, Nat.le_of_ble_eq_true rfl⟩) ⟨En.blind, fun U hU hW => ⟨rfl, En.of hU hW (va_P0 (H := _)) hK va_D0 hN⟩⟩ rfl rfl hl.1 rfl (lv_room (Nat.le_of_ble_eq_true rfl)) dX5_answer_254 ⟨Nat.le_of_ble_eq_true rfl, Nat.le_of_ble_eq_true rfl⟩) hS (fun q _ h => hFc q h) hFc (fun r_u_24 u_24 t9 H locs ht9 hvm hw hB hz1 hk1 hS => ?_)
            have hP := fr_keep hP hk1
            have wu_24 := hw
            clear hFc hk1 hz1 hB hw
            have hFc := fr_free hD hS hA
            refine va_callv (va_runV (As := [.int r_u_24]) (rest := []) ⟨hx, hb, hml, hown, ht⟩ (c_push l G cy _ L K R T I23 E23 J23 B23 this r_u_24 hRT hI hE hthis.1 hthis.2) (cwV 1 ht (gv k_447 k_448 k_449 k_442 k_446) rfl rfl rfl (by decide +kernel) ⟨Nat.le_of_ble_eq_true rfl, Nat.le_of_ble_eq_true rfl⟩) ⟨En.blind, cr_6 hK hP hthis.1 hthis.2, fun U hU hW => ⟨rfl, En.of hU hW hP hK hD hN⟩⟩ rfl rfl hl.1 rfl (lv_room (Nat.le_of_ble_eq_true rfl)) dX5_answer_257 ⟨Nat.le_of_ble_eq_true rfl, Nat.le_of_ble_eq_true rfl⟩) hS (fun q _ h => hFc q h) hFc (fun u_25 t9 H locs ht9 hvm hw hB hz1 hk1 hS => ?_)
            obtain ⟨I25, J25, E25, B25⟩ := u_25
            obtain ⟨hP1, hD1⟩ := hB
            rw [ht9] at hP1
            clear hI hE
            obtain ⟨hI, hE, xu_25I, wu_25⟩ := hw
            dsimp only at hI hE xu_25I wu_25
            have hP : va_P G vwCl (WC cy L K R I25 J25 E25 B25) H := hP1
            have hD : va_D A (WC cy L K R I25 J25 E25 B25) := hD1.weaken (fun _ _ _ h => hFc _ h)
            clear hFc hk1 hz1 hP1 hD1
            replace hC_0 := FI.tr hC_0 xu_25I (by decide)
            replace hX_6 := FI.tr hX_6 xu_25I (by decide)
            obtain ⟨v_26, ev_26⟩ : ∃ y : Int32, y = x6_6 + 1 := ⟨_, rfl⟩
            refine lv_iinc (v := v_26) (lv' := [(6, .int v_26), (7, .int r_u_20), (5, .int r_u_1), (0, .ref this), (1, .ref lock), (2, .ref song), (3, .int n3), (4, .int n4)]) hx hb dX5_answer_260 hl (k := 1) rfl (by rw [ev_26]; rfl) (by decide) rfl (fun ls hl => ?_)
            have q_27 : v_26.toInt = x6_6.toInt + 1 := by have := ow_add ev_26 (by omega) (by omega); omega
            refine lv_goto (tgt := 19) hx hb dX5_answer_263 (by decide) ?_
            refine W.widen (k := 0) (n := 0) (Nat.le_of_ble_eq_true rfl) (Nat.le_of_ble_eq_true rfl) ?_
            exact ih_6 v_26 I25 J25 E25 B25 _ _ _ hI hE hX_6 (by omega) (by omega) hP hD hS (lv_sub hl [0, 2, 3, 4, 5, 6, 7] rfl)
          · have h3sw_19 : v_18.toInt = 8 ∨ v_18.toInt = 9 ∨ v_18.toInt = 10 ∨ v_18.toInt = 11 ∨ v_18.toInt = 12 ∨ v_18.toInt = 13 ∨ v_18.toInt = 14 ∨ v_18.toInt = 15 ∨ v_18.toInt = 16 := by omega
            rcases h3sw_19 with h3sw_19 | h3sw_19 | h3sw_19 | h3sw_19 | h3sw_19 | h3sw_19 | h3sw_19 | h3sw_19 | h3sw_19
            · refine ow_top 8 ((ow_eq _ _).mpr (by rw [h3sw_19]; decide)) ?_
              refine lv_tableIn (tgt := 215) hx hb dX5_answer_44 (by decide +kernel) (by decide +kernel) rfl (by decide) ?_
              refine lv_aload_n hx hb dX5_answer_215 rfl (lv_at hl 2 rfl) ?_
              refine lv_aload_n hx hb dX5_answer_216 rfl (lv_at hl 2 rfl) ?_
              have hFc := fr_free hD hS hA
              refine va_calli (va_runV (As := []) (rest := [.ref this]) ⟨hx, hb, hml, hown, ht⟩ (c_pop l G cy _ L K R T I6 E6 J6 B6 this hRT hI hE hthis.1 hthis.2) (cwV 0 ht (gv k_439 k_440 k_441 k_442 k_438) rfl rfl rfl (by decide +kernel) ⟨Nat.le_of_ble_eq_true rfl, Nat.le_of_ble_eq_true rfl⟩) ⟨En.blind, cr_6 hK hP hthis.1 hthis.2, fun U hU hW => ⟨rfl, En.of hU hW hP hK hD hN⟩⟩ rfl rfl hl.1 rfl (lv_room (Nat.le_of_ble_eq_true rfl)) dX5_answer_217 ⟨Nat.le_of_ble_eq_true rfl, Nat.le_of_ble_eq_true rfl⟩) hS (fun q _ h => hFc q h) hFc (fun r_u_28 u_28 t9 H locs ht9 hvm hw hB hz1 hk1 hS => ?_)
              obtain ⟨I28, J28, E28, B28⟩ := u_28
              obtain ⟨hP1, hD1⟩ := hB
              rw [ht9] at hP1
              clear hI hE
              obtain ⟨hI, hE, xu_28I, wu_28⟩ := hw
              dsimp only at hI hE xu_28I wu_28
              have hP : va_P G vwCl (WC cy L K R I28 J28 E28 B28) H := hP1
              have hD : va_D A (WC cy L K R I28 J28 E28 B28) := hD1.weaken (fun _ _ _ h => hFc _ h)
              clear hFc hk1 hz1 hP1 hD1
              replace hC_0 := FI.tr hC_0 xu_28I (by decide)
              replace hX_6 := FI.tr hX_6 xu_28I (by decide)
              refine lv_if_ne (tgt := 227) hx hb dX5_answer_220 (by decide) (fun c_29 => ?_) (fun c_29 => ?_)
              · have q_30 : ¬ r_u_28.toInt = (0 : Int32).toInt := by have := (not_congr (ow_eq _ _)).mp c_29; omega
                refine lv_iconst (v := 0) hx hb dX5_answer_227 (by decide) ?_
                have hFc := fr_free hD hS hA
                refine va_callv (va_runV (As := [.int 0]) (rest := []) ⟨hx, hb, hml, hown, ht⟩ (c_push l G cy _ L K R T I28 E28 J28 B28 this (0) hRT hI hE hthis.1 hthis.2) (cwV 1 ht (gv k_447 k_448 k_449 k_442 k_446) rfl rfl rfl (by decide +kernel) ⟨Nat.le_of_ble_eq_true rfl, Nat.le_of_ble_eq_true rfl⟩) ⟨En.blind, cr_6 hK hP hthis.1 hthis.2, fun U hU hW => ⟨rfl, En.of hU hW hP hK hD hN⟩⟩ rfl rfl hl.1 rfl (lv_room (Nat.le_of_ble_eq_true rfl)) dX5_answer_228 ⟨Nat.le_of_ble_eq_true rfl, Nat.le_of_ble_eq_true rfl⟩) hS (fun q _ h => hFc q h) hFc (fun u_31 t9 H locs ht9 hvm hw hB hz1 hk1 hS => ?_)
                obtain ⟨I31, J31, E31, B31⟩ := u_31
                obtain ⟨hP1, hD1⟩ := hB
                rw [ht9] at hP1
                clear hI hE
                obtain ⟨hI, hE, xu_31I, wu_31⟩ := hw
                dsimp only at hI hE xu_31I wu_31
                have hP : va_P G vwCl (WC cy L K R I31 J31 E31 B31) H := hP1
                have hD : va_D A (WC cy L K R I31 J31 E31 B31) := hD1.weaken (fun _ _ _ h => hFc _ h)
                clear hFc hk1 hz1 hP1 hD1
                replace hC_0 := FI.tr hC_0 xu_31I (by decide)
                replace hX_6 := FI.tr hX_6 xu_31I (by decide)
                refine lv_goto (tgt := 260) hx hb dX5_answer_231 (by decide) ?_
                obtain ⟨v_32, ev_32⟩ : ∃ y : Int32, y = x6_6 + 1 := ⟨_, rfl⟩
                refine lv_iinc (v := v_32) (lv' := [(6, .int v_32), (5, .int r_u_1), (0, .ref this), (1, .ref lock), (2, .ref song), (3, .int n3), (4, .int n4)]) hx hb dX5_answer_260 hl (k := 0) rfl (by rw [ev_32]; rfl) (by decide) rfl (fun ls hl => ?_)
                have q_33 : v_32.toInt = x6_6.toInt + 1 := by have := ow_add ev_32 (by omega) (by omega); omega
                refine lv_goto (tgt := 19) hx hb dX5_answer_263 (by decide) ?_
                refine W.widen (k := 0) (n := 0) (Nat.le_of_ble_eq_true rfl) (Nat.le_of_ble_eq_true rfl) ?_
                exact ih_6 v_32 I31 J31 E31 B31 _ _ _ hI hE hX_6 (by omega) (by omega) hP hD hS (lv_sub hl [0, 1, 2, 3, 4, 5, 6] rfl)
              · have q_34 : r_u_28.toInt = (0 : Int32).toInt := (ow_eq _ _).mp c_29
                refine lv_iconst (v := 1) hx hb dX5_answer_223 (by decide) ?_
                refine lv_goto (tgt := 228) hx hb dX5_answer_224 (by decide) ?_
                have hFc := fr_free hD hS hA
                refine va_callv (va_runV (As := [.int 1]) (rest := []) ⟨hx, hb, hml, hown, ht⟩ (c_push l G cy _ L K R T I28 E28 J28 B28 this (1) hRT hI hE hthis.1 hthis.2) (cwV 1 ht (gv k_447 k_448 k_449 k_442 k_446) rfl rfl rfl (by decide +kernel) ⟨Nat.le_of_ble_eq_true rfl, Nat.le_of_ble_eq_true rfl⟩) ⟨En.blind, cr_6 hK hP hthis.1 hthis.2, fun U hU hW => ⟨rfl, En.of hU hW hP hK hD hN⟩⟩ rfl rfl hl.1 rfl (lv_room (Nat.le_of_ble_eq_true rfl)) dX5_answer_228 ⟨Nat.le_of_ble_eq_true rfl, Nat.le_of_ble_eq_true rfl⟩) hS (fun q _ h => hFc q h) hFc (fun u_35 t9 H locs ht9 hvm hw hB hz1 hk1 hS => ?_)
                obtain ⟨I35, J35, E35, B35⟩ := u_35
                obtain ⟨hP1, hD1⟩ := hB
                rw [ht9] at hP1
                clear hI hE
                obtain ⟨hI, hE, xu_35I, wu_35⟩ := hw
                dsimp only at hI hE xu_35I wu_35
                have hP : va_P G vwCl (WC cy L K R I35 J35 E35 B35) H := hP1
                have hD : va_D A (WC cy L K R I35 J35 E35 B35) := hD1.weaken (fun _ _ _ h => hFc _ h)
                clear hFc hk1 hz1 hP1 hD1
                replace hC_0 := FI.tr hC_0 xu_35I (by decide)
                replace hX_6 := FI.tr hX_6 xu_35I (by decide)
                refine lv_goto (tgt := 260) hx hb dX5_answer_231 (by decide) ?_
                obtain ⟨v_36, ev_36⟩ : ∃ y : Int32, y = x6_6 + 1 := ⟨_, rfl⟩
                refine lv_iinc (v := v_36) (lv' := [(6, .int v_36), (5, .int r_u_1), (0, .ref this), (1, .ref lock), (2, .ref song), (3, .int n3), (4, .int n4)]) hx hb dX5_answer_260 hl (k := 0) rfl (by rw [ev_36]; rfl) (by decide) rfl (fun ls hl => ?_)
                have q_37 : v_36.toInt = x6_6.toInt + 1 := by have := ow_add ev_36 (by omega) (by omega); omega
                refine lv_goto (tgt := 19) hx hb dX5_answer_263 (by decide) ?_
                refine W.widen (k := 0) (n := 0) (Nat.le_of_ble_eq_true rfl) (Nat.le_of_ble_eq_true rfl) ?_
                exact ih_6 v_36 I35 J35 E35 B35 _ _ _ hI hE hX_6 (by omega) (by omega) hP hD hS (lv_sub hl [0, 1, 2, 3, 4, 5, 6] rfl)
            · refine ow_top 9 ((ow_eq _ _).mpr (by rw [h3sw_19]; decide)) ?_
              refine lv_tableIn (tgt := 110) hx hb dX5_answer_44 (by decide +kernel) (by decide +kernel) rfl (by decide) ?_
              refine lv_aload_n hx hb dX5_answer_110 rfl (lv_at hl 2 rfl) ?_
              refine lv_aload_n hx hb dX5_answer_111 rfl (lv_at hl 4 rfl) ?_
              refine cg_4_1_5 hx hb ht hown hK hN hP h_song.1 h_song.2 dX5_answer_112 ?_
              have hm_38 : (R song 1) ∈ L ∧ K (R song 1) = 25 := RT.o hRT h_song.1 h_song.2 1 (by decide)
              refine lv_aload_n hx hb dX5_answer_115 rfl (lv_at hl 2 rfl) ?_
              refine cg_6_1_5 hx hb ht hown hK hN hP hthis.1 hthis.2 dX5_answer_116 ?_
              have hm_39 : (R this 1) ∈ L ∧ K (R this 1) = 27 := RT.o hRT hthis.1 hthis.2 1 (by decide)
              refine lv_iload hx hb dX5_answer_119 (lv_at hl 0 rfl) ?_
              have q_40 : vp_in x6_6 540 := vp_in_iff.mpr ⟨by omega, by omega⟩
              refine cl_27 hx hb hK hP hm_39.1 hm_39.2 q_40 dX5_answer_121 ?_
              refine lv_topi (fun v_41 ev_41 => ?_)
              refine lv_iload hx hb dX5_answer_122 (lv_at hl 1 rfl) ?_
              have hFc := fr_new hS hA
              refine va_calli (va_runS (As := [.ref (R song 1), .int v_41, .int r_u_1]) (rest := [.ref this]) ⟨hx, hb, hml, hown, ht⟩ (c_isNear l G cy _ L K R T I6 E6 J6 B6 (R song 1) v_41 r_u_1 hRT hI hE hm_38.1 hm_38.2) (va_cwS 3 ht (gs k_451 k_452 k_442 k_450) rfl rfl rfl (by decide +kernel) ⟨Nat.le_of_ble_eq_true rfl, Nat.le_of_ble_eq_true rfl⟩) ⟨En.blind, fun U hU hW => ⟨rfl, En.of hU hW hP hK hD hN⟩⟩ rfl rfl hl.1 rfl (lv_room (Nat.le_of_ble_eq_true rfl)) dX5_answer_124 ⟨Nat.le_of_ble_eq_true rfl, Nat.le_of_ble_eq_true rfl⟩) hS (fun q _ h => hFc q h) hFc (fun r_u_42 u_42 t9 H locs ht9 hvm hw hB hz1 hk1 hS => ?_)
              have hP := fr_keep hP hk1
              have wu_42 := hw
              clear hFc hk1 hz1 hB hw
              have hFc := fr_free hD hS hA
              refine va_callv (va_runV (As := [.int r_u_42]) (rest := []) ⟨hx, hb, hml, hown, ht⟩ (c_push l G cy _ L K R T I6 E6 J6 B6 this r_u_42 hRT hI hE hthis.1 hthis.2) (cwV 1 ht (gv k_447 k_448 k_449 k_442 k_446) rfl rfl rfl (by decide +kernel) ⟨Nat.le_of_ble_eq_true rfl, Nat.le_of_ble_eq_true rfl⟩) ⟨En.blind, cr_6 hK hP hthis.1 hthis.2, fun U hU hW => ⟨rfl, En.of hU hW hP hK hD hN⟩⟩ rfl rfl hl.1 rfl (lv_room (Nat.le_of_ble_eq_true rfl)) dX5_answer_127 ⟨Nat.le_of_ble_eq_true rfl, Nat.le_of_ble_eq_true rfl⟩) hS (fun q _ h => hFc q h) hFc (fun u_43 t9 H locs ht9 hvm hw hB hz1 hk1 hS => ?_)
              obtain ⟨I43, J43, E43, B43⟩ := u_43
              obtain ⟨hP1, hD1⟩ := hB
              rw [ht9] at hP1
              clear hI hE
              obtain ⟨hI, hE, xu_43I, wu_43⟩ := hw
              dsimp only at hI hE xu_43I wu_43
              have hP : va_P G vwCl (WC cy L K R I43 J43 E43 B43) H := hP1
              have hD : va_D A (WC cy L K R I43 J43 E43 B43) := hD1.weaken (fun _ _ _ h => hFc _ h)
              clear hFc hk1 hz1 hP1 hD1
              replace hC_0 := FI.tr hC_0 xu_43I (by decide)
              replace hX_6 := FI.tr hX_6 xu_43I (by decide)
              refine lv_goto (tgt := 260) hx hb dX5_answer_130 (by decide) ?_
              obtain ⟨v_44, ev_44⟩ : ∃ y : Int32, y = x6_6 + 1 := ⟨_, rfl⟩
              refine lv_iinc (v := v_44) (lv' := [(6, .int v_44), (5, .int r_u_1), (0, .ref this), (1, .ref lock), (2, .ref song), (3, .int n3), (4, .int n4)]) hx hb dX5_answer_260 hl (k := 0) rfl (by rw [ev_44]; rfl) (by decide) rfl (fun ls hl => ?_)
              have q_45 : v_44.toInt = x6_6.toInt + 1 := by have := ow_add ev_44 (by omega) (by omega); omega
              refine lv_goto (tgt := 19) hx hb dX5_answer_263 (by decide) ?_
              refine W.widen (k := 0) (n := 0) (Nat.le_of_ble_eq_true rfl) (Nat.le_of_ble_eq_true rfl) ?_
              exact ih_6 v_44 I43 J43 E43 B43 _ _ _ hI hE hX_6 (by omega) (by omega) hP hD hS (lv_sub hl [0, 1, 2, 3, 4, 5, 6] rfl)
            · refine ow_top 10 ((ow_eq _ _).mpr (by rw [h3sw_19]; decide)) ?_
              refine lv_tableIn (tgt := 133) hx hb dX5_answer_44 (by decide +kernel) (by decide +kernel) rfl (by decide) ?_
              refine lv_aload_n hx hb dX5_answer_133 rfl (lv_at hl 2 rfl) ?_
              refine lv_aload_n hx hb dX5_answer_134 rfl (lv_at hl 4 rfl) ?_
              refine cg_4_2_5 hx hb ht hown hK hN hP h_song.1 h_song.2 dX5_answer_135 ?_
              have hm_46 : (R song 2) ∈ L ∧ K (R song 2) = 25 := RT.o hRT h_song.1 h_song.2 2 (by decide)
              refine lv_aload_n hx hb dX5_answer_138 rfl (lv_at hl 2 rfl) ?_
              refine cg_6_1_5 hx hb ht hown hK hN hP hthis.1 hthis.2 dX5_answer_139 ?_
              have hm_47 : (R this 1) ∈ L ∧ K (R this 1) = 27 := RT.o hRT hthis.1 hthis.2 1 (by decide)
              refine lv_iload hx hb dX5_answer_142 (lv_at hl 0 rfl) ?_
              have q_48 : vp_in x6_6 540 := vp_in_iff.mpr ⟨by omega, by omega⟩
              refine cl_27 hx hb hK hP hm_47.1 hm_47.2 q_48 dX5_answer_144 ?_
              refine lv_topi (fun v_49 ev_49 => ?_)
              refine lv_iload hx hb dX5_answer_145 (lv_at hl 1 rfl) ?_
              have hFc := fr_new hS hA
              refine va_calli (va_runS (As := [.ref (R song 2), .int v_49, .int r_u_1]) (rest := [.ref this]) ⟨hx, hb, hml, hown, ht⟩ (c_isNear l G cy _ L K R T I6 E6 J6 B6 (R song 2) v_49 r_u_1 hRT hI hE hm_46.1 hm_46.2) (va_cwS 3 ht (gs k_451 k_452 k_442 k_450) rfl rfl rfl (by decide +kernel) ⟨Nat.le_of_ble_eq_true rfl, Nat.le_of_ble_eq_true rfl⟩) ⟨En.blind, fun U hU hW => ⟨rfl, En.of hU hW hP hK hD hN⟩⟩ rfl rfl hl.1 rfl (lv_room (Nat.le_of_ble_eq_true rfl)) dX5_answer_147 ⟨Nat.le_of_ble_eq_true rfl, Nat.le_of_ble_eq_true rfl⟩) hS (fun q _ h => hFc q h) hFc (fun r_u_50 u_50 t9 H locs ht9 hvm hw hB hz1 hk1 hS => ?_)
              have hP := fr_keep hP hk1
              have wu_50 := hw
              clear hFc hk1 hz1 hB hw
              have hFc := fr_free hD hS hA
              refine va_callv (va_runV (As := [.int r_u_50]) (rest := []) ⟨hx, hb, hml, hown, ht⟩ (c_push l G cy _ L K R T I6 E6 J6 B6 this r_u_50 hRT hI hE hthis.1 hthis.2) (cwV 1 ht (gv k_447 k_448 k_449 k_442 k_446) rfl rfl rfl (by decide +kernel) ⟨Nat.le_of_ble_eq_true rfl, Nat.le_of_ble_eq_true rfl⟩) ⟨En.blind, cr_6 hK hP hthis.1 hthis.2, fun U hU hW => ⟨rfl, En.of hU hW hP hK hD hN⟩⟩ rfl rfl hl.1 rfl (lv_room (Nat.le_of_ble_eq_true rfl)) dX5_answer_150 ⟨Nat.le_of_ble_eq_true rfl, Nat.le_of_ble_eq_true rfl⟩) hS (fun q _ h => hFc q h) hFc (fun u_51 t9 H locs ht9 hvm hw hB hz1 hk1 hS => ?_)
              obtain ⟨I51, J51, E51, B51⟩ := u_51
              obtain ⟨hP1, hD1⟩ := hB
              rw [ht9] at hP1
              clear hI hE
              obtain ⟨hI, hE, xu_51I, wu_51⟩ := hw
              dsimp only at hI hE xu_51I wu_51
              have hP : va_P G vwCl (WC cy L K R I51 J51 E51 B51) H := hP1
              have hD : va_D A (WC cy L K R I51 J51 E51 B51) := hD1.weaken (fun _ _ _ h => hFc _ h)
              clear hFc hk1 hz1 hP1 hD1
              replace hC_0 := FI.tr hC_0 xu_51I (by decide)
              replace hX_6 := FI.tr hX_6 xu_51I (by decide)
              refine lv_goto (tgt := 260) hx hb dX5_answer_153 (by decide) ?_
              obtain ⟨v_52, ev_52⟩ : ∃ y : Int32, y = x6_6 + 1 := ⟨_, rfl⟩
              refine lv_iinc (v := v_52) (lv' := [(6, .int v_52), (5, .int r_u_1), (0, .ref this), (1, .ref lock), (2, .ref song), (3, .int n3), (4, .int n4)]) hx hb dX5_answer_260 hl (k := 0) rfl (by rw [ev_52]; rfl) (by decide) rfl (fun ls hl => ?_)
              have q_53 : v_52.toInt = x6_6.toInt + 1 := by have := ow_add ev_52 (by omega) (by omega); omega
              refine lv_goto (tgt := 19) hx hb dX5_answer_263 (by decide) ?_
              refine W.widen (k := 0) (n := 0) (Nat.le_of_ble_eq_true rfl) (Nat.le_of_ble_eq_true rfl) ?_
              exact ih_6 v_52 I51 J51 E51 B51 _ _ _ hI hE hX_6 (by omega) (by omega) hP hD hS (lv_sub hl [0, 1, 2, 3, 4, 5, 6] rfl)
            · refine ow_top 11 ((ow_eq _ _).mpr (by rw [h3sw_19]; decide)) ?_
              refine lv_tableIn (tgt := 156) hx hb dX5_answer_44 (by decide +kernel) (by decide +kernel) rfl (by decide) ?_
              refine lv_aload_n hx hb dX5_answer_156 rfl (lv_at hl 2 rfl) ?_
              refine lv_aload_n hx hb dX5_answer_157 rfl (lv_at hl 4 rfl) ?_
              refine cg_4_3_5 hx hb ht hown hK hN hP h_song.1 h_song.2 dX5_answer_158 ?_
              have hm_54 : (R song 3) ∈ L ∧ K (R song 3) = 25 := RT.o hRT h_song.1 h_song.2 3 (by decide)
              refine lv_aload_n hx hb dX5_answer_161 rfl (lv_at hl 2 rfl) ?_
              refine cg_6_1_5 hx hb ht hown hK hN hP hthis.1 hthis.2 dX5_answer_162 ?_
              have hm_55 : (R this 1) ∈ L ∧ K (R this 1) = 27 := RT.o hRT hthis.1 hthis.2 1 (by decide)
              refine lv_iload hx hb dX5_answer_165 (lv_at hl 0 rfl) ?_
              have q_56 : vp_in x6_6 540 := vp_in_iff.mpr ⟨by omega, by omega⟩
              refine cl_27 hx hb hK hP hm_55.1 hm_55.2 q_56 dX5_answer_167 ?_
              refine lv_topi (fun v_57 ev_57 => ?_)
              refine lv_iload hx hb dX5_answer_168 (lv_at hl 1 rfl) ?_
              have hFc := fr_new hS hA
              refine va_calli (va_runS (As := [.ref (R song 3), .int v_57, .int r_u_1]) (rest := [.ref this]) ⟨hx, hb, hml, hown, ht⟩ (c_isNear l G cy _ L K R T I6 E6 J6 B6 (R song 3) v_57 r_u_1 hRT hI hE hm_54.1 hm_54.2) (va_cwS 3 ht (gs k_451 k_452 k_442 k_450) rfl rfl rfl (by decide +kernel) ⟨Nat.le_of_ble_eq_true rfl, Nat.le_of_ble_eq_true rfl⟩) ⟨En.blind, fun U hU hW => ⟨rfl, En.of hU hW hP hK hD hN⟩⟩ rfl rfl hl.1 rfl (lv_room (Nat.le_of_ble_eq_true rfl)) dX5_answer_170 ⟨Nat.le_of_ble_eq_true rfl, Nat.le_of_ble_eq_true rfl⟩) hS (fun q _ h => hFc q h) hFc (fun r_u_58 u_58 t9 H locs ht9 hvm hw hB hz1 hk1 hS => ?_)
              have hP := fr_keep hP hk1
              have wu_58 := hw
              clear hFc hk1 hz1 hB hw
              have hFc := fr_free hD hS hA
              refine va_callv (va_runV (As := [.int r_u_58]) (rest := []) ⟨hx, hb, hml, hown, ht⟩ (c_push l G cy _ L K R T I6 E6 J6 B6 this r_u_58 hRT hI hE hthis.1 hthis.2) (cwV 1 ht (gv k_447 k_448 k_449 k_442 k_446) rfl rfl rfl (by decide +kernel) ⟨Nat.le_of_ble_eq_true rfl, Nat.le_of_ble_eq_true rfl⟩) ⟨En.blind, cr_6 hK hP hthis.1 hthis.2, fun U hU hW => ⟨rfl, En.of hU hW hP hK hD hN⟩⟩ rfl rfl hl.1 rfl (lv_room (Nat.le_of_ble_eq_true rfl)) dX5_answer_173 ⟨Nat.le_of_ble_eq_true rfl, Nat.le_of_ble_eq_true rfl⟩) hS (fun q _ h => hFc q h) hFc (fun u_59 t9 H locs ht9 hvm hw hB hz1 hk1 hS => ?_)
              obtain ⟨I59, J59, E59, B59⟩ := u_59
              obtain ⟨hP1, hD1⟩ := hB
              rw [ht9] at hP1
              clear hI hE
              obtain ⟨hI, hE, xu_59I, wu_59⟩ := hw
              dsimp only at hI hE xu_59I wu_59
              have hP : va_P G vwCl (WC cy L K R I59 J59 E59 B59) H := hP1
              have hD : va_D A (WC cy L K R I59 J59 E59 B59) := hD1.weaken (fun _ _ _ h => hFc _ h)
              clear hFc hk1 hz1 hP1 hD1
              replace hC_0 := FI.tr hC_0 xu_59I (by decide)
              replace hX_6 := FI.tr hX_6 xu_59I (by decide)
              refine lv_goto (tgt := 260) hx hb dX5_answer_176 (by decide) ?_
              obtain ⟨v_60, ev_60⟩ : ∃ y : Int32, y = x6_6 + 1 := ⟨_, rfl⟩
              refine lv_iinc (v := v_60) (lv' := [(6, .int v_60), (5, .int r_u_1), (0, .ref this), (1, .ref lock), (2, .ref song), (3, .int n3), (4, .int n4)]) hx hb dX5_answer_260 hl (k := 0) rfl (by rw [ev_60]; rfl) (by decide) rfl (fun ls hl => ?_)
              have q_61 : v_60.toInt = x6_6.toInt + 1 := by have := ow_add ev_60 (by omega) (by omega); omega
              refine lv_goto (tgt := 19) hx hb dX5_answer_263 (by decide) ?_
              refine W.widen (k := 0) (n := 0) (Nat.le_of_ble_eq_true rfl) (Nat.le_of_ble_eq_true rfl) ?_
              exact ih_6 v_60 I59 J59 E59 B59 _ _ _ hI hE hX_6 (by omega) (by omega) hP hD hS (lv_sub hl [0, 1, 2, 3, 4, 5, 6] rfl)
            · refine ow_top 12 ((ow_eq _ _).mpr (by rw [h3sw_19]; decide)) ?_
              refine lv_tableIn (tgt := 179) hx hb dX5_answer_44 (by decide +kernel) (by decide +kernel) rfl (by decide) ?_
              refine lv_aload_n hx hb dX5_answer_179 rfl (lv_at hl 2 rfl) ?_
              refine lv_iload_n hx hb dX5_answer_180 rfl (lv_at hl 5 rfl) ?_
              refine lv_if_eq (tgt := 188) hx hb dX5_answer_181 (by decide) (fun c_62 => ?_) (fun c_62 => ?_)
              · have q_63 : n3.toInt = (0 : Int32).toInt := (ow_eq _ _).mp c_62
                refine lv_iconst (v := 0) hx hb dX5_answer_188 (by decide) ?_
                have hFc := fr_free hD hS hA
                refine va_callv (va_runV (As := [.int 0]) (rest := []) ⟨hx, hb, hml, hown, ht⟩ (c_push l G cy _ L K R T I6 E6 J6 B6 this (0) hRT hI hE hthis.1 hthis.2) (cwV 1 ht (gv k_447 k_448 k_449 k_442 k_446) rfl rfl rfl (by decide +kernel) ⟨Nat.le_of_ble_eq_true rfl, Nat.le_of_ble_eq_true rfl⟩) ⟨En.blind, cr_6 hK hP hthis.1 hthis.2, fun U hU hW => ⟨rfl, En.of hU hW hP hK hD hN⟩⟩ rfl rfl hl.1 rfl (lv_room (Nat.le_of_ble_eq_true rfl)) dX5_answer_189 ⟨Nat.le_of_ble_eq_true rfl, Nat.le_of_ble_eq_true rfl⟩) hS (fun q _ h => hFc q h) hFc (fun u_64 t9 H locs ht9 hvm hw hB hz1 hk1 hS => ?_)
                obtain ⟨I64, J64, E64, B64⟩ := u_64
                obtain ⟨hP1, hD1⟩ := hB
                rw [ht9] at hP1
                clear hI hE
                obtain ⟨hI, hE, xu_64I, wu_64⟩ := hw
                dsimp only at hI hE xu_64I wu_64
                have hP : va_P G vwCl (WC cy L K R I64 J64 E64 B64) H := hP1
                have hD : va_D A (WC cy L K R I64 J64 E64 B64) := hD1.weaken (fun _ _ _ h => hFc _ h)
                clear hFc hk1 hz1 hP1 hD1
                replace hC_0 := FI.tr hC_0 xu_64I (by decide)
                replace hX_6 := FI.tr hX_6 xu_64I (by decide)
                refine lv_goto (tgt := 260) hx hb dX5_answer_192 (by decide) ?_
                obtain ⟨v_65, ev_65⟩ : ∃ y : Int32, y = x6_6 + 1 := ⟨_, rfl⟩
                refine lv_iinc (v := v_65) (lv' := [(6, .int v_65), (5, .int r_u_1), (0, .ref this), (1, .ref lock), (2, .ref song), (3, .int n3), (4, .int n4)]) hx hb dX5_answer_260 hl (k := 0) rfl (by rw [ev_65]; rfl) (by decide) rfl (fun ls hl => ?_)
                have q_66 : v_65.toInt = x6_6.toInt + 1 := by have := ow_add ev_65 (by omega) (by omega); omega
                refine lv_goto (tgt := 19) hx hb dX5_answer_263 (by decide) ?_
                refine W.widen (k := 0) (n := 0) (Nat.le_of_ble_eq_true rfl) (Nat.le_of_ble_eq_true rfl) ?_
                exact ih_6 v_65 I64 J64 E64 B64 _ _ _ hI hE hX_6 (by omega) (by omega) hP hD hS (lv_sub hl [0, 1, 2, 3, 4, 5, 6] rfl)
              · have q_67 : ¬ n3.toInt = (0 : Int32).toInt := by have := (not_congr (ow_eq _ _)).mp c_62; omega
                refine lv_iconst (v := 1) hx hb dX5_answer_184 (by decide) ?_
                refine lv_goto (tgt := 189) hx hb dX5_answer_185 (by decide) ?_
                have hFc := fr_free hD hS hA
                refine va_callv (va_runV (As := [.int 1]) (rest := []) ⟨hx, hb, hml, hown, ht⟩ (c_push l G cy _ L K R T I6 E6 J6 B6 this (1) hRT hI hE hthis.1 hthis.2) (cwV 1 ht (gv k_447 k_448 k_449 k_442 k_446) rfl rfl rfl (by decide +kernel) ⟨Nat.le_of_ble_eq_true rfl, Nat.le_of_ble_eq_true rfl⟩) ⟨En.blind, cr_6 hK hP hthis.1 hthis.2, fun U hU hW => ⟨rfl, En.of hU hW hP hK hD hN⟩⟩ rfl rfl hl.1 rfl (lv_room (Nat.le_of_ble_eq_true rfl)) dX5_answer_189 ⟨Nat.le_of_ble_eq_true rfl, Nat.le_of_ble_eq_true rfl⟩) hS (fun q _ h => hFc q h) hFc (fun u_68 t9 H locs ht9 hvm hw hB hz1 hk1 hS => ?_)
                obtain ⟨I68, J68, E68, B68⟩ := u_68
                obtain ⟨hP1, hD1⟩ := hB
                rw [ht9] at hP1
                clear hI hE
                obtain ⟨hI, hE, xu_68I, wu_68⟩ := hw
                dsimp only at hI hE xu_68I wu_68
                have hP : va_P G vwCl (WC cy L K R I68 J68 E68 B68) H := hP1
                have hD : va_D A (WC cy L K R I68 J68 E68 B68) := hD1.weaken (fun _ _ _ h => hFc _ h)
                clear hFc hk1 hz1 hP1 hD1
                replace hC_0 := FI.tr hC_0 xu_68I (by decide)
                replace hX_6 := FI.tr hX_6 xu_68I (by decide)
                refine lv_goto (tgt := 260) hx hb dX5_answer_192 (by decide) ?_
                obtain ⟨v_69, ev_69⟩ : ∃ y : Int32, y = x6_6 + 1 := ⟨_, rfl⟩
                refine lv_iinc (v := v_69) (lv' := [(6, .int v_69), (5, .int r_u_1), (0, .ref this), (1, .ref lock), (2, .ref song), (3, .int n3), (4, .int n4)]) hx hb dX5_answer_260 hl (k := 0) rfl (by rw [ev_69]; rfl) (by decide) rfl (fun ls hl => ?_)
                have q_70 : v_69.toInt = x6_6.toInt + 1 := by have := ow_add ev_69 (by omega) (by omega); omega
                refine lv_goto (tgt := 19) hx hb dX5_answer_263 (by decide) ?_
                refine W.widen (k := 0) (n := 0) (Nat.le_of_ble_eq_true rfl) (Nat.le_of_ble_eq_true rfl) ?_
                exact ih_6 v_69 I68 J68 E68 B68 _ _ _ hI hE hX_6 (by omega) (by omega) hP hD hS (lv_sub hl [0, 1, 2, 3, 4, 5, 6] rfl)
            · refine ow_top 13 ((ow_eq _ _).mpr (by rw [h3sw_19]; decide)) ?_
              refine lv_tableIn (tgt := 195) hx hb dX5_answer_44 (by decide +kernel) (by decide +kernel) rfl (by decide) ?_
              refine lv_aload_n hx hb dX5_answer_195 rfl (lv_at hl 2 rfl) ?_
              refine lv_aload_n hx hb dX5_answer_196 rfl (lv_at hl 4 rfl) ?_
              refine cg_4_4_5 hx hb ht hown hK hN hP h_song.1 h_song.2 dX5_answer_197 ?_
              refine ow_top (I song 4) ((hC_6 song 4 (by rw [h_song.2]; decide)).trans (f_2 song 4 (by rw [h_song.2]; decide))) ?_
              have hFc := fr_free hD hS hA
              refine va_callv (va_runV (As := [.int (I song 4)]) (rest := []) ⟨hx, hb, hml, hown, ht⟩ (c_push l G cy _ L K R T I6 E6 J6 B6 this (I song 4) hRT hI hE hthis.1 hthis.2) (cwV 1 ht (gv k_447 k_448 k_449 k_442 k_446) rfl rfl rfl (by decide +kernel) ⟨Nat.le_of_ble_eq_true rfl, Nat.le_of_ble_eq_true rfl⟩) ⟨En.blind, cr_6 hK hP hthis.1 hthis.2, fun U hU hW => ⟨rfl, En.of hU hW hP hK hD hN⟩⟩ rfl rfl hl.1 rfl (lv_room (Nat.le_of_ble_eq_true rfl)) dX5_answer_200 ⟨Nat.le_of_ble_eq_true rfl, Nat.le_of_ble_eq_true rfl⟩) hS (fun q _ h => hFc q h) hFc (fun u_71 t9 H locs ht9 hvm hw hB hz1 hk1 hS => ?_)
              obtain ⟨I71, J71, E71, B71⟩ := u_71
              obtain ⟨hP1, hD1⟩ := hB
              rw [ht9] at hP1
              clear hI hE
              obtain ⟨hI, hE, xu_71I, wu_71⟩ := hw
              dsimp only at hI hE xu_71I wu_71
              have hP : va_P G vwCl (WC cy L K R I71 J71 E71 B71) H := hP1
              have hD : va_D A (WC cy L K R I71 J71 E71 B71) := hD1.weaken (fun _ _ _ h => hFc _ h)
              clear hFc hk1 hz1 hP1 hD1
              replace hC_0 := FI.tr hC_0 xu_71I (by decide)
              replace hX_6 := FI.tr hX_6 xu_71I (by decide)
              refine lv_goto (tgt := 260) hx hb dX5_answer_203 (by decide) ?_
              obtain ⟨v_72, ev_72⟩ : ∃ y : Int32, y = x6_6 + 1 := ⟨_, rfl⟩
              refine lv_iinc (v := v_72) (lv' := [(6, .int v_72), (5, .int r_u_1), (0, .ref this), (1, .ref lock), (2, .ref song), (3, .int n3), (4, .int n4)]) hx hb dX5_answer_260 hl (k := 0) rfl (by rw [ev_72]; rfl) (by decide) rfl (fun ls hl => ?_)
              have q_73 : v_72.toInt = x6_6.toInt + 1 := by have := ow_add ev_72 (by omega) (by omega); omega
              refine lv_goto (tgt := 19) hx hb dX5_answer_263 (by decide) ?_
              refine W.widen (k := 0) (n := 0) (Nat.le_of_ble_eq_true rfl) (Nat.le_of_ble_eq_true rfl) ?_
              exact ih_6 v_72 I71 J71 E71 B71 _ _ _ hI hE hX_6 (by omega) (by omega) hP hD hS (lv_sub hl [0, 1, 2, 3, 4, 5, 6] rfl)
            · refine ow_top 14 ((ow_eq _ _).mpr (by rw [h3sw_19]; decide)) ?_
              refine lv_tableIn (tgt := 206) hx hb dX5_answer_44 (by decide +kernel) (by decide +kernel) rfl (by decide) ?_
              refine lv_aload_n hx hb dX5_answer_206 rfl (lv_at hl 2 rfl) ?_
              refine lv_iload hx hb dX5_answer_207 (lv_at hl 6 rfl) ?_
              have hFc := fr_free hD hS hA
              refine va_callv (va_runV (As := [.int n4]) (rest := []) ⟨hx, hb, hml, hown, ht⟩ (c_push l G cy _ L K R T I6 E6 J6 B6 this n4 hRT hI hE hthis.1 hthis.2) (cwV 1 ht (gv k_447 k_448 k_449 k_442 k_446) rfl rfl rfl (by decide +kernel) ⟨Nat.le_of_ble_eq_true rfl, Nat.le_of_ble_eq_true rfl⟩) ⟨En.blind, cr_6 hK hP hthis.1 hthis.2, fun U hU hW => ⟨rfl, En.of hU hW hP hK hD hN⟩⟩ rfl rfl hl.1 rfl (lv_room (Nat.le_of_ble_eq_true rfl)) dX5_answer_209 ⟨Nat.le_of_ble_eq_true rfl, Nat.le_of_ble_eq_true rfl⟩) hS (fun q _ h => hFc q h) hFc (fun u_74 t9 H locs ht9 hvm hw hB hz1 hk1 hS => ?_)
              obtain ⟨I74, J74, E74, B74⟩ := u_74
              obtain ⟨hP1, hD1⟩ := hB
              rw [ht9] at hP1
              clear hI hE
              obtain ⟨hI, hE, xu_74I, wu_74⟩ := hw
              dsimp only at hI hE xu_74I wu_74
              have hP : va_P G vwCl (WC cy L K R I74 J74 E74 B74) H := hP1
              have hD : va_D A (WC cy L K R I74 J74 E74 B74) := hD1.weaken (fun _ _ _ h => hFc _ h)
              clear hFc hk1 hz1 hP1 hD1
              replace hC_0 := FI.tr hC_0 xu_74I (by decide)
              replace hX_6 := FI.tr hX_6 xu_74I (by decide)
              refine lv_goto (tgt := 260) hx hb dX5_answer_212 (by decide) ?_
              obtain ⟨v_75, ev_75⟩ : ∃ y : Int32, y = x6_6 + 1 := ⟨_, rfl⟩
              refine lv_iinc (v := v_75) (lv' := [(6, .int v_75), (5, .int r_u_1), (0, .ref this), (1, .ref lock), (2, .ref song), (3, .int n3), (4, .int n4)]) hx hb dX5_answer_260 hl (k := 0) rfl (by rw [ev_75]; rfl) (by decide) rfl (fun ls hl => ?_)
              have q_76 : v_75.toInt = x6_6.toInt + 1 := by have := ow_add ev_75 (by omega) (by omega); omega
              refine lv_goto (tgt := 19) hx hb dX5_answer_263 (by decide) ?_
              refine W.widen (k := 0) (n := 0) (Nat.le_of_ble_eq_true rfl) (Nat.le_of_ble_eq_true rfl) ?_
              exact ih_6 v_75 I74 J74 E74 B74 _ _ _ hI hE hX_6 (by omega) (by omega) hP hD hS (lv_sub hl [0, 1, 2, 3, 4, 5, 6] rfl)
            · refine ow_top 15 ((ow_eq _ _).mpr (by rw [h3sw_19]; decide)) ?_
              refine lv_tableIn (tgt := 234) hx hb dX5_answer_44 (by decide +kernel) (by decide +kernel) rfl (by decide) ?_
              refine lv_aload_n hx hb dX5_answer_234 rfl (lv_at hl 2 rfl) ?_
              have hFc := fr_free hD hS hA
              refine va_calli (va_runV (As := []) (rest := []) ⟨hx, hb, hml, hown, ht⟩ (c_pop l G cy _ L K R T I6 E6 J6 B6 this hRT hI hE hthis.1 hthis.2) (cwV 0 ht (gv k_439 k_440 k_441 k_442 k_438) rfl rfl rfl (by decide +kernel) ⟨Nat.le_of_ble_eq_true rfl, Nat.le_of_ble_eq_true rfl⟩) ⟨En.blind, cr_6 hK hP hthis.1 hthis.2, fun U hU hW => ⟨rfl, En.of hU hW hP hK hD hN⟩⟩ rfl rfl hl.1 rfl (lv_room (Nat.le_of_ble_eq_true rfl)) dX5_answer_235 ⟨Nat.le_of_ble_eq_true rfl, Nat.le_of_ble_eq_true rfl⟩) hS (fun q _ h => hFc q h) hFc (fun r_u_77 u_77 t9 H locs ht9 hvm hw hB hz1 hk1 hS => ?_)
              obtain ⟨I77, J77, E77, B77⟩ := u_77
              obtain ⟨hP1, hD1⟩ := hB
              rw [ht9] at hP1
              clear hI hE
              obtain ⟨hI, hE, xu_77I, wu_77⟩ := hw
              dsimp only at hI hE xu_77I wu_77
              have hP : va_P G vwCl (WC cy L K R I77 J77 E77 B77) H := hP1
              have hD : va_D A (WC cy L K R I77 J77 E77 B77) := hD1.weaken (fun _ _ _ h => hFc _ h)
              clear hFc hk1 hz1 hP1 hD1
              replace hC_0 := FI.tr hC_0 xu_77I (by decide)
              replace hX_6 := FI.tr hX_6 xu_77I (by decide)
              refine lv_istore (lv' := [(7, .int r_u_77), (6, .int x6_6), (5, .int r_u_1), (0, .ref this), (1, .ref lock), (2, .ref song), (3, .int n3), (4, .int n4)]) hx hb dX5_answer_238 hl (by decide) rfl (fun ls hl => ?_)
              refine lv_aload_n hx hb dX5_answer_240 rfl (lv_at hl 3 rfl) ?_
              refine lv_aload_n hx hb dX5_answer_241 rfl (lv_at hl 3 rfl) ?_
              refine cg_6_0_5 hx hb ht hown hK hN hP hthis.1 hthis.2 dX5_answer_242 ?_
              refine lv_iload hx hb dX5_answer_245 (lv_at hl 1 rfl) ?_
              have q_78 : vp_in x6_6 540 := vp_in_iff.mpr ⟨by omega, by omega⟩
              refine cl_26 hx hb hK hP hm_16.1 hm_16.2 q_78 dX5_answer_247 ?_
              refine lv_topi (fun v_79 ev_79 => ?_)
              refine lv_aload_n hx hb dX5_answer_248 rfl (lv_at hl 3 rfl) ?_
              have hFc := fr_free hD hS hA
              refine va_calli (va_runV (As := []) (rest := [.int v_79, .ref this]) ⟨hx, hb, hml, hown, ht⟩ (c_pop l G cy _ L K R T I77 E77 J77 B77 this hRT hI hE hthis.1 hthis.2) (cwV 0 ht (gv k_439 k_440 k_441 k_442 k_438) rfl rfl rfl (by decide +kernel) ⟨Nat.le_of_ble_eq_true rfl, Nat.le_of_ble_eq_true rfl⟩) ⟨En.blind, cr_6 hK hP hthis.1 hthis.2, fun U hU hW => ⟨rfl, En.of hU hW hP hK hD hN⟩⟩ rfl rfl hl.1 rfl (lv_room (Nat.le_of_ble_eq_true rfl)) dX5_answer_249 ⟨Nat.le_of_ble_eq_true rfl, Nat.le_of_ble_eq_true rfl⟩) hS (fun q _ h => hFc q h) hFc (fun r_u_80 u_80 t9 H locs ht9 hvm hw hB hz1 hk1 hS => ?_)
              obtain ⟨I80, J80, E80, B80⟩ := u_80
              obtain ⟨hP1, hD1⟩ := hB
              rw [ht9] at hP1
              clear hI hE
              obtain ⟨hI, hE, xu_80I, wu_80⟩ := hw
              dsimp only at hI hE xu_80I wu_80
              have hP : va_P G vwCl (WC cy L K R I80 J80 E80 B80) H := hP1
              have hD : va_D A (WC cy L K R I80 J80 E80 B80) := hD1.weaken (fun _ _ _ h => hFc _ h)
              clear hFc hk1 hz1 hP1 hD1
              replace hC_0 := FI.tr hC_0 xu_80I (by decide)
              replace hX_6 := FI.tr hX_6 xu_80I (by decide)
              refine lv_iload hx hb dX5_answer_252 (lv_at hl 0 rfl) ?_
              have hFc := fr_new hS hA
              refine va_calli (va_runS (As := [.int v_79, .int r_u_80, .int r_u_77]) (rest := [.ref this]) ⟨hx, hb, hml, hown, ht⟩ (c_join l G cy _  v_79 r_u_80 r_u_77  ) (va_cwS 3 ht (gs k_444 k_445 k_442 k_443) rfl rfl rfl (by decide +kernel) ⟨Nat.le_of_ble_eq_true rfl, Nat.le_of_ble_eq_true rfl⟩) ⟨En.blind, fun U hU hW => ⟨rfl, En.of hU hW (va_P0 (H := _)) hK va_D0 hN⟩⟩ rfl rfl hl.1 rfl (lv_room (Nat.le_of_ble_eq_true rfl)) dX5_answer_254 ⟨Nat.le_of_ble_eq_true rfl, Nat.le_of_ble_eq_true rfl⟩) hS (fun q _ h => hFc q h) hFc (fun r_u_81 u_81 t9 H locs ht9 hvm hw hB hz1 hk1 hS => ?_)
              have hP := fr_keep hP hk1
              have wu_81 := hw
              clear hFc hk1 hz1 hB hw
              have hFc := fr_free hD hS hA
              refine va_callv (va_runV (As := [.int r_u_81]) (rest := []) ⟨hx, hb, hml, hown, ht⟩ (c_push l G cy _ L K R T I80 E80 J80 B80 this r_u_81 hRT hI hE hthis.1 hthis.2) (cwV 1 ht (gv k_447 k_448 k_449 k_442 k_446) rfl rfl rfl (by decide +kernel) ⟨Nat.le_of_ble_eq_true rfl, Nat.le_of_ble_eq_true rfl⟩) ⟨En.blind, cr_6 hK hP hthis.1 hthis.2, fun U hU hW => ⟨rfl, En.of hU hW hP hK hD hN⟩⟩ rfl rfl hl.1 rfl (lv_room (Nat.le_of_ble_eq_true rfl)) dX5_answer_257 ⟨Nat.le_of_ble_eq_true rfl, Nat.le_of_ble_eq_true rfl⟩) hS (fun q _ h => hFc q h) hFc (fun u_82 t9 H locs ht9 hvm hw hB hz1 hk1 hS => ?_)
              obtain ⟨I82, J82, E82, B82⟩ := u_82
              obtain ⟨hP1, hD1⟩ := hB
              rw [ht9] at hP1
              clear hI hE
              obtain ⟨hI, hE, xu_82I, wu_82⟩ := hw
              dsimp only at hI hE xu_82I wu_82
              have hP : va_P G vwCl (WC cy L K R I82 J82 E82 B82) H := hP1
              have hD : va_D A (WC cy L K R I82 J82 E82 B82) := hD1.weaken (fun _ _ _ h => hFc _ h)
              clear hFc hk1 hz1 hP1 hD1
              replace hC_0 := FI.tr hC_0 xu_82I (by decide)
              replace hX_6 := FI.tr hX_6 xu_82I (by decide)
              obtain ⟨v_83, ev_83⟩ : ∃ y : Int32, y = x6_6 + 1 := ⟨_, rfl⟩
              refine lv_iinc (v := v_83) (lv' := [(6, .int v_83), (7, .int r_u_77), (5, .int r_u_1), (0, .ref this), (1, .ref lock), (2, .ref song), (3, .int n3), (4, .int n4)]) hx hb dX5_answer_260 hl (k := 1) rfl (by rw [ev_83]; rfl) (by decide) rfl (fun ls hl => ?_)
              have q_84 : v_83.toInt = x6_6.toInt + 1 := by have := ow_add ev_83 (by omega) (by omega); omega
              refine lv_goto (tgt := 19) hx hb dX5_answer_263 (by decide) ?_
              refine W.widen (k := 0) (n := 0) (Nat.le_of_ble_eq_true rfl) (Nat.le_of_ble_eq_true rfl) ?_
              exact ih_6 v_83 I82 J82 E82 B82 _ _ _ hI hE hX_6 (by omega) (by omega) hP hD hS (lv_sub hl [0, 2, 3, 4, 5, 6, 7] rfl)
            · refine ow_top 16 ((ow_eq _ _).mpr (by rw [h3sw_19]; decide)) ?_
              refine lv_tableIn (tgt := 96) hx hb dX5_answer_44 (by decide +kernel) (by decide +kernel) rfl (by decide) ?_
              refine lv_aload_n hx hb dX5_answer_96 rfl (lv_at hl 2 rfl) ?_
              refine lv_aload_n hx hb dX5_answer_97 rfl (lv_at hl 2 rfl) ?_
              refine cg_6_1_5 hx hb ht hown hK hN hP hthis.1 hthis.2 dX5_answer_98 ?_
              have hm_85 : (R this 1) ∈ L ∧ K (R this 1) = 27 := RT.o hRT hthis.1 hthis.2 1 (by decide)
              refine lv_iload hx hb dX5_answer_101 (lv_at hl 0 rfl) ?_
              have q_86 : vp_in x6_6 540 := vp_in_iff.mpr ⟨by omega, by omega⟩
              refine cl_27 hx hb hK hP hm_85.1 hm_85.2 q_86 dX5_answer_103 ?_
              refine lv_topi (fun v_87 ev_87 => ?_)
              have hFc := fr_free hD hS hA
              refine va_callv (va_runV (As := [.int v_87]) (rest := []) ⟨hx, hb, hml, hown, ht⟩ (c_push l G cy _ L K R T I6 E6 J6 B6 this v_87 hRT hI hE hthis.1 hthis.2) (cwV 1 ht (gv k_447 k_448 k_449 k_442 k_446) rfl rfl rfl (by decide +kernel) ⟨Nat.le_of_ble_eq_true rfl, Nat.le_of_ble_eq_true rfl⟩) ⟨En.blind, cr_6 hK hP hthis.1 hthis.2, fun U hU hW => ⟨rfl, En.of hU hW hP hK hD hN⟩⟩ rfl rfl hl.1 rfl (lv_room (Nat.le_of_ble_eq_true rfl)) dX5_answer_104 ⟨Nat.le_of_ble_eq_true rfl, Nat.le_of_ble_eq_true rfl⟩) hS (fun q _ h => hFc q h) hFc (fun u_88 t9 H locs ht9 hvm hw hB hz1 hk1 hS => ?_)
              obtain ⟨I88, J88, E88, B88⟩ := u_88
              obtain ⟨hP1, hD1⟩ := hB
              rw [ht9] at hP1
              clear hI hE
              obtain ⟨hI, hE, xu_88I, wu_88⟩ := hw
              dsimp only at hI hE xu_88I wu_88
              have hP : va_P G vwCl (WC cy L K R I88 J88 E88 B88) H := hP1
              have hD : va_D A (WC cy L K R I88 J88 E88 B88) := hD1.weaken (fun _ _ _ h => hFc _ h)
              clear hFc hk1 hz1 hP1 hD1
              replace hC_0 := FI.tr hC_0 xu_88I (by decide)
              replace hX_6 := FI.tr hX_6 xu_88I (by decide)
              refine lv_goto (tgt := 260) hx hb dX5_answer_107 (by decide) ?_
              obtain ⟨v_89, ev_89⟩ : ∃ y : Int32, y = x6_6 + 1 := ⟨_, rfl⟩
              refine lv_iinc (v := v_89) (lv' := [(6, .int v_89), (5, .int r_u_1), (0, .ref this), (1, .ref lock), (2, .ref song), (3, .int n3), (4, .int n4)]) hx hb dX5_answer_260 hl (k := 0) rfl (by rw [ev_89]; rfl) (by decide) rfl (fun ls hl => ?_)
              have q_90 : v_89.toInt = x6_6.toInt + 1 := by have := ow_add ev_89 (by omega) (by omega); omega
              refine lv_goto (tgt := 19) hx hb dX5_answer_263 (by decide) ?_
              refine W.widen (k := 0) (n := 0) (Nat.le_of_ble_eq_true rfl) (Nat.le_of_ble_eq_true rfl) ?_
              exact ih_6 v_89 I88 J88 E88 B88 _ _ _ hI hE hX_6 (by omega) (by omega) hP hD hS (lv_sub hl [0, 1, 2, 3, 4, 5, 6] rfl)
  exact lp_6 _ (I lock 2) I_4 J E B _ _ _ hI hE FI.rf (by omega) (Nat.lt_succ_self _) hP hD hS (lv_sub hl [0, 1, 2, 3, 4, 5, 6] rfl)
