theorem k_392 : (Cond.constant RJ6 265 (1431655765)) ∈ TBg := tb_mem 835 (by decide +kernel) (by decide +kernel)
theorem k_393 : (Cond.constant RJ6 266 (858993459)) ∈ TBg := tb_mem 836 (by decide +kernel) (by decide +kernel)
theorem k_394 : (Cond.constant RJ6 267 (252645135)) ∈ TBg := tb_mem 837 (by decide +kernel) (by decide +kernel)
theorem k_395 : (Cond.code yX8_riseTo cX8_riseTo 2 (some .int)) ∈ TBg := tb_mem 697 (by decide +kernel) (by decide +kernel)
theorem k_396 : (Cond.methodLink RX8 36 yX8_riseTo) ∈ TBg := tb_mem 694 (by decide +kernel) (by decide +kernel)
theorem k_397 : (Cond.instanceMethod yX8_riseTo) ∈ TBg := tb_mem 695 (by decide +kernel) (by decide +kernel)
theorem k_398 : (Cond.selects RX8 yX8_riseTo yX8_riseTo) ∈ TBg := tb_mem 696 (by decide +kernel) (by decide +kernel)
theorem k_399 : (Cond.initialized RX8) ∈ TBg := tb_mem 87 (by decide +kernel) (by decide +kernel)
theorem k_400 : (Cond.methodLink RX8 40 Lib.Math.abs.name) ∈ TBg := tb_mem 698 (by decide +kernel) (by decide +kernel)
theorem k_401 : (Cond.static Lib.Math.abs.name) ∈ TBg := tb_mem 699 (by decide +kernel) (by decide +kernel)
theorem k_402 : (Cond.initialized "java/lang/Math") ∈ TBg := tb_mem 88 (by decide +kernel) (by decide +kernel)
theorem k_403 : (Cond.code Lib.Math.abs.name Lib.Math.abs.code 1 (some .int)) ∈ TBg := tb_mem 700 (by decide +kernel) (by decide +kernel)
theorem k_404 : (Cond.code yX8_outOfPace cX8_outOfPace 4 (some .int)) ∈ TBg := tb_mem 704 (by decide +kernel) (by decide +kernel)
theorem k_405 : (Cond.methodLink RX8 43 yX8_outOfPace) ∈ TBg := tb_mem 701 (by decide +kernel) (by decide +kernel)
theorem k_406 : (Cond.instanceMethod yX8_outOfPace) ∈ TBg := tb_mem 703 (by decide +kernel) (by decide +kernel)
theorem k_407 : (Cond.selects RX8 yX8_outOfPace yX8_outOfPace) ∈ TBg := tb_mem 22 (by decide +kernel) (by decide +kernel)
theorem k_408 : (Cond.code yX8_offOfFirst cX8_offOfFirst 6 (some .int)) ∈ TBg := tb_mem 693 (by decide +kernel) (by decide +kernel)
theorem k_409 : (Cond.methodLink RX8 32 yX8_offOfFirst) ∈ TBg := tb_mem 690 (by decide +kernel) (by decide +kernel)
theorem k_410 : (Cond.instanceMethod yX8_offOfFirst) ∈ TBg := tb_mem 691 (by decide +kernel) (by decide +kernel)
theorem k_411 : (Cond.selects RX8 yX8_offOfFirst yX8_offOfFirst) ∈ TBg := tb_mem 692 (by decide +kernel) (by decide +kernel)
theorem k_412 : (Cond.code yX8_reachOf cX8_reachOf 3 (some .int)) ∈ TBg := tb_mem 898 (by decide +kernel) (by decide +kernel)
theorem k_413 : (Cond.methodLink RX8 46 yX8_reachOf) ∈ TBg := tb_mem 895 (by decide +kernel) (by decide +kernel)
theorem k_414 : (Cond.instanceMethod yX8_reachOf) ∈ TBg := tb_mem 897 (by decide +kernel) (by decide +kernel)
theorem k_415 : (Cond.selects RX8 yX8_reachOf yX8_reachOf) ∈ TBg := tb_mem 28 (by decide +kernel) (by decide +kernel)
theorem k_416 : (Cond.methodLink RX8 49 Lib.Math.min.name) ∈ TBg := tb_mem 899 (by decide +kernel) (by decide +kernel)
theorem k_417 : (Cond.static Lib.Math.min.name) ∈ TBg := tb_mem 473 (by decide +kernel) (by decide +kernel)
theorem k_418 : (Cond.code Lib.Math.min.name Lib.Math.min.code 2 (some .int)) ∈ TBg := tb_mem 474 (by decide +kernel) (by decide +kernel)
theorem k_419 : (Cond.code yX8_add cX8_add 3 none) ∈ TBg := tb_mem 627 (by decide +kernel) (by decide +kernel)
theorem k_420 : (Cond.methodLink RX8 28 yX8_add) ∈ TBg := tb_mem 997 (by decide +kernel) (by decide +kernel)
theorem k_421 : (Cond.instanceMethod yX8_add) ∈ TBg := tb_mem 625 (by decide +kernel) (by decide +kernel)
theorem k_422 : (Cond.selects RX8 yX8_add yX8_add) ∈ TBg := tb_mem 626 (by decide +kernel) (by decide +kernel)
theorem dJ6_bitCount_0f7a4_0 : decode cJ6_bitCount_0f7a4 0 = .ok (.iload_n 0, 1) := by decide +kernel
theorem dJ6_bitCount_0f7a4_1 : decode cJ6_bitCount_0f7a4 1 = .ok (.iload_n 0, 1) := by decide +kernel
theorem dJ6_bitCount_0f7a4_2 : decode cJ6_bitCount_0f7a4 2 = .ok (.iconst 1, 1) := by decide +kernel
theorem dJ6_bitCount_0f7a4_3 : decode cJ6_bitCount_0f7a4 3 = .ok (.iushr, 1) := by decide +kernel
theorem dJ6_bitCount_0f7a4_4 : decode cJ6_bitCount_0f7a4 4 = .ok (.ldc_w 265, 3) := by decide +kernel
theorem dJ6_bitCount_0f7a4_7 : decode cJ6_bitCount_0f7a4 7 = .ok (.iand, 1) := by decide +kernel
theorem dJ6_bitCount_0f7a4_8 : decode cJ6_bitCount_0f7a4 8 = .ok (.isub, 1) := by decide +kernel
theorem dJ6_bitCount_0f7a4_9 : decode cJ6_bitCount_0f7a4 9 = .ok (.istore_n 0, 1) := by decide +kernel
theorem dJ6_bitCount_0f7a4_10 : decode cJ6_bitCount_0f7a4 10 = .ok (.iload_n 0, 1) := by decide +kernel
theorem dJ6_bitCount_0f7a4_11 : decode cJ6_bitCount_0f7a4 11 = .ok (.ldc_w 266, 3) := by decide +kernel
theorem dJ6_bitCount_0f7a4_14 : decode cJ6_bitCount_0f7a4 14 = .ok (.iand, 1) := by decide +kernel
theorem dJ6_bitCount_0f7a4_15 : decode cJ6_bitCount_0f7a4 15 = .ok (.iload_n 0, 1) := by decide +kernel
theorem dJ6_bitCount_0f7a4_16 : decode cJ6_bitCount_0f7a4 16 = .ok (.iconst 2, 1) := by decide +kernel
theorem dJ6_bitCount_0f7a4_17 : decode cJ6_bitCount_0f7a4 17 = .ok (.iushr, 1) := by decide +kernel
theorem dJ6_bitCount_0f7a4_18 : decode cJ6_bitCount_0f7a4 18 = .ok (.ldc_w 266, 3) := by decide +kernel
theorem dJ6_bitCount_0f7a4_21 : decode cJ6_bitCount_0f7a4 21 = .ok (.iand, 1) := by decide +kernel
theorem dJ6_bitCount_0f7a4_22 : decode cJ6_bitCount_0f7a4 22 = .ok (.iadd, 1) := by decide +kernel
theorem dJ6_bitCount_0f7a4_23 : decode cJ6_bitCount_0f7a4 23 = .ok (.istore_n 0, 1) := by decide +kernel
theorem dJ6_bitCount_0f7a4_24 : decode cJ6_bitCount_0f7a4 24 = .ok (.iload_n 0, 1) := by decide +kernel
theorem dJ6_bitCount_0f7a4_25 : decode cJ6_bitCount_0f7a4 25 = .ok (.iload_n 0, 1) := by decide +kernel
theorem dJ6_bitCount_0f7a4_26 : decode cJ6_bitCount_0f7a4 26 = .ok (.iconst 4, 1) := by decide +kernel
theorem dJ6_bitCount_0f7a4_27 : decode cJ6_bitCount_0f7a4 27 = .ok (.iushr, 1) := by decide +kernel
theorem dJ6_bitCount_0f7a4_28 : decode cJ6_bitCount_0f7a4 28 = .ok (.iadd, 1) := by decide +kernel
theorem dJ6_bitCount_0f7a4_29 : decode cJ6_bitCount_0f7a4 29 = .ok (.ldc_w 267, 3) := by decide +kernel
theorem dJ6_bitCount_0f7a4_32 : decode cJ6_bitCount_0f7a4 32 = .ok (.iand, 1) := by decide +kernel
theorem dJ6_bitCount_0f7a4_33 : decode cJ6_bitCount_0f7a4 33 = .ok (.istore_n 0, 1) := by decide +kernel
theorem dJ6_bitCount_0f7a4_34 : decode cJ6_bitCount_0f7a4 34 = .ok (.iload_n 0, 1) := by decide +kernel
theorem dJ6_bitCount_0f7a4_35 : decode cJ6_bitCount_0f7a4 35 = .ok (.iload_n 0, 1) := by decide +kernel
theorem dJ6_bitCount_0f7a4_36 : decode cJ6_bitCount_0f7a4 36 = .ok (.bipush 8, 2) := by decide +kernel
theorem dJ6_bitCount_0f7a4_38 : decode cJ6_bitCount_0f7a4 38 = .ok (.iushr, 1) := by decide +kernel
theorem dJ6_bitCount_0f7a4_39 : decode cJ6_bitCount_0f7a4 39 = .ok (.iadd, 1) := by decide +kernel
theorem dJ6_bitCount_0f7a4_40 : decode cJ6_bitCount_0f7a4 40 = .ok (.istore_n 0, 1) := by decide +kernel
theorem dJ6_bitCount_0f7a4_41 : decode cJ6_bitCount_0f7a4 41 = .ok (.iload_n 0, 1) := by decide +kernel
theorem dJ6_bitCount_0f7a4_42 : decode cJ6_bitCount_0f7a4 42 = .ok (.iload_n 0, 1) := by decide +kernel
theorem dJ6_bitCount_0f7a4_43 : decode cJ6_bitCount_0f7a4 43 = .ok (.bipush 16, 2) := by decide +kernel
theorem dJ6_bitCount_0f7a4_45 : decode cJ6_bitCount_0f7a4 45 = .ok (.iushr, 1) := by decide +kernel
theorem dJ6_bitCount_0f7a4_46 : decode cJ6_bitCount_0f7a4 46 = .ok (.iadd, 1) := by decide +kernel
theorem dJ6_bitCount_0f7a4_47 : decode cJ6_bitCount_0f7a4 47 = .ok (.istore_n 0, 1) := by decide +kernel
theorem dJ6_bitCount_0f7a4_48 : decode cJ6_bitCount_0f7a4 48 = .ok (.iload_n 0, 1) := by decide +kernel
theorem dJ6_bitCount_0f7a4_49 : decode cJ6_bitCount_0f7a4 49 = .ok (.bipush 63, 2) := by decide +kernel
theorem dJ6_bitCount_0f7a4_51 : decode cJ6_bitCount_0f7a4 51 = .ok (.iand, 1) := by decide +kernel
theorem dJ6_bitCount_0f7a4_52 : decode cJ6_bitCount_0f7a4 52 = .ok (.ireturn, 1) := by decide +kernel
theorem dX11_canBeSung_0 : decode cX11_canBeSung 0 = .ok (.iload_n 0, 1) := by decide +kernel
theorem dX11_canBeSung_1 : decode cX11_canBeSung 1 = .ok (.ifCond .lt 13, 3) := by decide +kernel
theorem dX11_canBeSung_14 : decode cX11_canBeSung 14 = .ok (.iconst 0, 1) := by decide +kernel
theorem dX11_canBeSung_15 : decode cX11_canBeSung 15 = .ok (.ireturn, 1) := by decide +kernel
theorem dX11_canBeSung_4 : decode cX11_canBeSung 4 = .ok (.iload_n 0, 1) := by decide +kernel
theorem dX11_canBeSung_5 : decode cX11_canBeSung 5 = .ok (.bipush 60, 2) := by decide +kernel
theorem dX11_canBeSung_7 : decode cX11_canBeSung 7 = .ok (.if_icmp .gt 7, 3) := by decide +kernel
theorem dX11_canBeSung_10 : decode cX11_canBeSung 10 = .ok (.iconst 1, 1) := by decide +kernel
theorem dX11_canBeSung_11 : decode cX11_canBeSung 11 = .ok (.goto 4, 3) := by decide +kernel
theorem dX6_isSign_0 : decode cX6_isSign 0 = .ok (.iload_n 0, 1) := by decide +kernel
theorem dX6_isSign_1 : decode cX6_isSign 1 = .ok (.tableswitch 109 40 62 #[107, 107, 109, 107, 109, 107, 109, 109, 109, 109, 109, 109, 109, 109, 109, 109, 109, 109, 109, 107, 107, 107, 107], 107) := by decide +kernel
theorem dX6_isSign_110 : decode cX6_isSign 110 = .ok (.iconst 0, 1) := by decide +kernel
theorem dX6_isSign_111 : decode cX6_isSign 111 = .ok (.ireturn, 1) := by decide +kernel
theorem dX6_isSign_108 : decode cX6_isSign 108 = .ok (.iconst 1, 1) := by decide +kernel
theorem dX6_isSign_109 : decode cX6_isSign 109 = .ok (.ireturn, 1) := by decide +kernel
theorem dX5_join_0 : decode cX5_join 0 = .ok (.iload_n 0, 1) := by decide +kernel
theorem dX5_join_1 : decode cX5_join 1 = .ok (.lookupswitch 114 #[(7, 100), (43, 59), (45, 63), (60, 67), (61, 89), (62, 78)], 59) := by decide +kernel
theorem dX5_join_101 : decode cX5_join 101 = .ok (.iload_n 1, 1) := by decide +kernel
theorem dX5_join_102 : decode cX5_join 102 = .ok (.ifCond .eq 11, 3) := by decide +kernel
theorem dX5_join_113 : decode cX5_join 113 = .ok (.iconst 0, 1) := by decide +kernel
theorem dX5_join_114 : decode cX5_join 114 = .ok (.ireturn, 1) := by decide +kernel
theorem dX5_join_105 : decode cX5_join 105 = .ok (.iload_n 2, 1) := by decide +kernel
theorem dX5_join_106 : decode cX5_join 106 = .ok (.ifCond .eq 7, 3) := by decide +kernel
theorem dX5_join_109 : decode cX5_join 109 = .ok (.iconst 1, 1) := by decide +kernel
theorem dX5_join_110 : decode cX5_join 110 = .ok (.goto 4, 3) := by decide +kernel
theorem dX5_join_60 : decode cX5_join 60 = .ok (.iload_n 1, 1) := by decide +kernel
theorem dX5_join_61 : decode cX5_join 61 = .ok (.iload_n 2, 1) := by decide +kernel
theorem dX5_join_62 : decode cX5_join 62 = .ok (.iadd, 1) := by decide +kernel
theorem dX5_join_63 : decode cX5_join 63 = .ok (.ireturn, 1) := by decide +kernel
theorem dX5_join_64 : decode cX5_join 64 = .ok (.iload_n 1, 1) := by decide +kernel
theorem dX5_join_65 : decode cX5_join 65 = .ok (.iload_n 2, 1) := by decide +kernel
theorem dX5_join_66 : decode cX5_join 66 = .ok (.isub, 1) := by decide +kernel
theorem dX5_join_67 : decode cX5_join 67 = .ok (.ireturn, 1) := by decide +kernel
theorem dX5_join_68 : decode cX5_join 68 = .ok (.iload_n 1, 1) := by decide +kernel
theorem dX5_join_69 : decode cX5_join 69 = .ok (.iload_n 2, 1) := by decide +kernel
theorem dX5_join_70 : decode cX5_join 70 = .ok (.if_icmp .ge 7, 3) := by decide +kernel
theorem dX5_join_77 : decode cX5_join 77 = .ok (.iconst 0, 1) := by decide +kernel
theorem dX5_join_78 : decode cX5_join 78 = .ok (.ireturn, 1) := by decide +kernel
theorem dX5_join_73 : decode cX5_join 73 = .ok (.iconst 1, 1) := by decide +kernel
theorem dX5_join_74 : decode cX5_join 74 = .ok (.goto 4, 3) := by decide +kernel
theorem dX5_join_90 : decode cX5_join 90 = .ok (.iload_n 1, 1) := by decide +kernel
theorem dX5_join_91 : decode cX5_join 91 = .ok (.iload_n 2, 1) := by decide +kernel
theorem dX5_join_92 : decode cX5_join 92 = .ok (.if_icmp .ne 7, 3) := by decide +kernel
theorem dX5_join_99 : decode cX5_join 99 = .ok (.iconst 0, 1) := by decide +kernel
theorem dX5_join_100 : decode cX5_join 100 = .ok (.ireturn, 1) := by decide +kernel
theorem dX5_join_95 : decode cX5_join 95 = .ok (.iconst 1, 1) := by decide +kernel
theorem dX5_join_96 : decode cX5_join 96 = .ok (.goto 4, 3) := by decide +kernel
theorem dX5_join_79 : decode cX5_join 79 = .ok (.iload_n 1, 1) := by decide +kernel
theorem dX5_join_80 : decode cX5_join 80 = .ok (.iload_n 2, 1) := by decide +kernel
theorem dX5_join_81 : decode cX5_join 81 = .ok (.if_icmp .le 7, 3) := by decide +kernel
theorem dX5_join_88 : decode cX5_join 88 = .ok (.iconst 0, 1) := by decide +kernel
theorem dX5_join_89 : decode cX5_join 89 = .ok (.ireturn, 1) := by decide +kernel
theorem dX5_join_84 : decode cX5_join 84 = .ok (.iconst 1, 1) := by decide +kernel
theorem dX5_join_85 : decode cX5_join 85 = .ok (.goto 4, 3) := by decide +kernel
theorem dX5_join_115 : decode cX5_join 115 = .ok (.iload_n 1, 1) := by decide +kernel
theorem dX5_join_116 : decode cX5_join 116 = .ok (.ifCond .ne 7, 3) := by decide +kernel
theorem dX5_join_123 : decode cX5_join 123 = .ok (.iconst 1, 1) := by decide +kernel
theorem dX5_join_124 : decode cX5_join 124 = .ok (.goto 4, 3) := by decide +kernel
theorem dX5_join_128 : decode cX5_join 128 = .ok (.ireturn, 1) := by decide +kernel
theorem dX5_join_119 : decode cX5_join 119 = .ok (.iload_n 2, 1) := by decide +kernel
theorem dX5_join_120 : decode cX5_join 120 = .ok (.ifCond .eq 7, 3) := by decide +kernel
theorem dX5_join_127 : decode cX5_join 127 = .ok (.iconst 0, 1) := by decide +kernel
theorem dX8_add_0 : decode cX8_add 0 = .ok (.aload_n 0, 1) := by decide +kernel
theorem dX8_add_1 : decode cX8_add 1 = .ok (.getfield 24, 3) := by decide +kernel
theorem dX8_add_4 : decode cX8_add 4 = .ok (.aload_n 0, 1) := by decide +kernel
theorem dX8_add_5 : decode cX8_add 5 = .ok (.getfield 15, 3) := by decide +kernel
theorem dX8_add_8 : decode cX8_add 8 = .ok (.arraylength, 1) := by decide +kernel
theorem dX8_add_9 : decode cX8_add 9 = .ok (.if_icmp .ge 33, 3) := by decide +kernel
theorem dX8_add_42 : decode cX8_add 42 = .ok (.return_, 1) := by decide +kernel
theorem dX8_add_12 : decode cX8_add 12 = .ok (.aload_n 0, 1) := by decide +kernel
theorem dX8_add_13 : decode cX8_add 13 = .ok (.getfield 15, 3) := by decide +kernel
theorem dX8_add_16 : decode cX8_add 16 = .ok (.aload_n 0, 1) := by decide +kernel
theorem dX8_add_17 : decode cX8_add 17 = .ok (.getfield 24, 3) := by decide +kernel
theorem dX8_add_20 : decode cX8_add 20 = .ok (.iload_n 1, 1) := by decide +kernel
theorem dX8_add_21 : decode cX8_add 21 = .ok (.iastore, 1) := by decide +kernel
theorem dX8_add_22 : decode cX8_add 22 = .ok (.aload_n 0, 1) := by decide +kernel
theorem dX8_add_23 : decode cX8_add 23 = .ok (.getfield 21, 3) := by decide +kernel
theorem dX8_add_26 : decode cX8_add 26 = .ok (.aload_n 0, 1) := by decide +kernel
theorem dX8_add_27 : decode cX8_add 27 = .ok (.getfield 24, 3) := by decide +kernel
theorem dX8_add_30 : decode cX8_add 30 = .ok (.iload_n 2, 1) := by decide +kernel
theorem dX8_add_31 : decode cX8_add 31 = .ok (.iastore, 1) := by decide +kernel
theorem dX8_add_32 : decode cX8_add 32 = .ok (.aload_n 0, 1) := by decide +kernel
theorem dX8_add_33 : decode cX8_add 33 = .ok (.dup, 1) := by decide +kernel
theorem dX8_add_34 : decode cX8_add 34 = .ok (.getfield 24, 3) := by decide +kernel
theorem dX8_add_37 : decode cX8_add 37 = .ok (.iconst 1, 1) := by decide +kernel
theorem dX8_add_38 : decode cX8_add 38 = .ok (.iadd, 1) := by decide +kernel
theorem dX8_add_39 : decode cX8_add 39 = .ok (.putfield 24, 3) := by decide +kernel
theorem dX8_riseTo_0 : decode cX8_riseTo 0 = .ok (.iload_n 1, 1) := by decide +kernel
theorem dX8_riseTo_1 : decode cX8_riseTo 1 = .ok (.iconst 1, 1) := by decide +kernel
theorem dX8_riseTo_2 : decode cX8_riseTo 2 = .ok (.if_icmp .lt 11, 3) := by decide +kernel
theorem dX8_riseTo_13 : decode cX8_riseTo 13 = .ok (.iconst 0, 1) := by decide +kernel
theorem dX8_riseTo_14 : decode cX8_riseTo 14 = .ok (.goto 18, 3) := by decide +kernel
theorem dX8_riseTo_32 : decode cX8_riseTo 32 = .ok (.ireturn, 1) := by decide +kernel
theorem dX8_riseTo_5 : decode cX8_riseTo 5 = .ok (.iload_n 1, 1) := by decide +kernel
theorem dX8_riseTo_6 : decode cX8_riseTo 6 = .ok (.aload_n 0, 1) := by decide +kernel
theorem dX8_riseTo_7 : decode cX8_riseTo 7 = .ok (.getfield 24, 3) := by decide +kernel
theorem dX8_riseTo_10 : decode cX8_riseTo 10 = .ok (.if_icmp .lt 7, 3) := by decide +kernel
theorem dX8_riseTo_17 : decode cX8_riseTo 17 = .ok (.aload_n 0, 1) := by decide +kernel
theorem dX8_riseTo_18 : decode cX8_riseTo 18 = .ok (.getfield 15, 3) := by decide +kernel
theorem dX8_riseTo_21 : decode cX8_riseTo 21 = .ok (.iload_n 1, 1) := by decide +kernel
theorem dX8_riseTo_22 : decode cX8_riseTo 22 = .ok (.iaload, 1) := by decide +kernel
theorem dX8_riseTo_23 : decode cX8_riseTo 23 = .ok (.aload_n 0, 1) := by decide +kernel
theorem dX8_riseTo_24 : decode cX8_riseTo 24 = .ok (.getfield 15, 3) := by decide +kernel
theorem dX8_riseTo_27 : decode cX8_riseTo 27 = .ok (.iload_n 1, 1) := by decide +kernel
theorem dX8_riseTo_28 : decode cX8_riseTo 28 = .ok (.iconst 1, 1) := by decide +kernel
theorem dX8_riseTo_29 : decode cX8_riseTo 29 = .ok (.isub, 1) := by decide +kernel
theorem dX8_riseTo_30 : decode cX8_riseTo 30 = .ok (.iaload, 1) := by decide +kernel
theorem dX8_riseTo_31 : decode cX8_riseTo 31 = .ok (.isub, 1) := by decide +kernel
theorem dX8_outOfPace_0 : decode cX8_outOfPace 0 = .ok (.aload_n 2, 1) := by decide +kernel
theorem dX8_outOfPace_1 : decode cX8_outOfPace 1 = .ok (.getfield 21, 3) := by decide +kernel
theorem dX8_outOfPace_4 : decode cX8_outOfPace 4 = .ok (.iload_n 3, 1) := by decide +kernel
theorem dX8_outOfPace_5 : decode cX8_outOfPace 5 = .ok (.iload_n 1, 1) := by decide +kernel
theorem dX8_outOfPace_6 : decode cX8_outOfPace 6 = .ok (.iadd, 1) := by decide +kernel
theorem dX8_outOfPace_7 : decode cX8_outOfPace 7 = .ok (.iaload, 1) := by decide +kernel
theorem dX8_outOfPace_8 : decode cX8_outOfPace 8 = .ok (.aload_n 0, 1) := by decide +kernel
theorem dX8_outOfPace_9 : decode cX8_outOfPace 9 = .ok (.getfield 21, 3) := by decide +kernel
theorem dX8_outOfPace_12 : decode cX8_outOfPace 12 = .ok (.iconst 0, 1) := by decide +kernel
theorem dX8_outOfPace_13 : decode cX8_outOfPace 13 = .ok (.iaload, 1) := by decide +kernel
theorem dX8_outOfPace_14 : decode cX8_outOfPace 14 = .ok (.imul, 1) := by decide +kernel
theorem dX8_outOfPace_15 : decode cX8_outOfPace 15 = .ok (.aload_n 2, 1) := by decide +kernel
theorem dX8_outOfPace_16 : decode cX8_outOfPace 16 = .ok (.getfield 21, 3) := by decide +kernel
theorem dX8_outOfPace_19 : decode cX8_outOfPace 19 = .ok (.iload_n 3, 1) := by decide +kernel
theorem dX8_outOfPace_20 : decode cX8_outOfPace 20 = .ok (.iaload, 1) := by decide +kernel
theorem dX8_outOfPace_21 : decode cX8_outOfPace 21 = .ok (.aload_n 0, 1) := by decide +kernel
theorem dX8_outOfPace_22 : decode cX8_outOfPace 22 = .ok (.getfield 21, 3) := by decide +kernel
theorem dX8_outOfPace_25 : decode cX8_outOfPace 25 = .ok (.iload_n 1, 1) := by decide +kernel
theorem dX8_outOfPace_26 : decode cX8_outOfPace 26 = .ok (.iaload, 1) := by decide +kernel
theorem dX8_outOfPace_27 : decode cX8_outOfPace 27 = .ok (.imul, 1) := by decide +kernel
theorem dX8_outOfPace_28 : decode cX8_outOfPace 28 = .ok (.if_icmp .ne 7, 3) := by decide +kernel
theorem dX8_outOfPace_35 : decode cX8_outOfPace 35 = .ok (.iconst 1, 1) := by decide +kernel
theorem dX8_outOfPace_36 : decode cX8_outOfPace 36 = .ok (.ireturn, 1) := by decide +kernel
theorem dX8_outOfPace_31 : decode cX8_outOfPace 31 = .ok (.iconst 0, 1) := by decide +kernel
theorem dX8_outOfPace_32 : decode cX8_outOfPace 32 = .ok (.goto 4, 3) := by decide +kernel
theorem dX8_offOfFirst_0 : decode cX8_offOfFirst 0 = .ok (.iload_n 1, 1) := by decide +kernel
theorem dX8_offOfFirst_1 : decode cX8_offOfFirst 1 = .ok (.iconst 1, 1) := by decide +kernel
theorem dX8_offOfFirst_2 : decode cX8_offOfFirst 2 = .ok (.if_icmp .lt 25, 3) := by decide +kernel
theorem dX8_offOfFirst_27 : decode cX8_offOfFirst 27 = .ok (.iconst (-1), 1) := by decide +kernel
theorem dX8_offOfFirst_28 : decode cX8_offOfFirst 28 = .ok (.ireturn, 1) := by decide +kernel
theorem dX8_offOfFirst_5 : decode cX8_offOfFirst 5 = .ok (.iload_n 1, 1) := by decide +kernel
theorem dX8_offOfFirst_6 : decode cX8_offOfFirst 6 = .ok (.aload_n 0, 1) := by decide +kernel
theorem dX8_offOfFirst_7 : decode cX8_offOfFirst 7 = .ok (.getfield 24, 3) := by decide +kernel
theorem dX8_offOfFirst_10 : decode cX8_offOfFirst 10 = .ok (.if_icmp .gt 17, 3) := by decide +kernel
theorem dX8_offOfFirst_13 : decode cX8_offOfFirst 13 = .ok (.iload_n 3, 1) := by decide +kernel
theorem dX8_offOfFirst_14 : decode cX8_offOfFirst 14 = .ok (.ifCond .lt 13, 3) := by decide +kernel
theorem dX8_offOfFirst_17 : decode cX8_offOfFirst 17 = .ok (.iload_n 3, 1) := by decide +kernel
theorem dX8_offOfFirst_18 : decode cX8_offOfFirst 18 = .ok (.aload_n 2, 1) := by decide +kernel
theorem dX8_offOfFirst_19 : decode cX8_offOfFirst 19 = .ok (.getfield 24, 3) := by decide +kernel
theorem dX8_offOfFirst_22 : decode cX8_offOfFirst 22 = .ok (.iload_n 1, 1) := by decide +kernel
theorem dX8_offOfFirst_23 : decode cX8_offOfFirst 23 = .ok (.isub, 1) := by decide +kernel
theorem dX8_offOfFirst_24 : decode cX8_offOfFirst 24 = .ok (.if_icmp .le 5, 3) := by decide +kernel
theorem dX8_offOfFirst_29 : decode cX8_offOfFirst 29 = .ok (.iconst 0, 1) := by decide +kernel
theorem dX8_offOfFirst_30 : decode cX8_offOfFirst 30 = .ok (.istore 4, 2) := by decide +kernel
theorem dX8_offOfFirst_32 : decode cX8_offOfFirst 32 = .ok (.iconst 1, 1) := by decide +kernel
theorem dX8_offOfFirst_33 : decode cX8_offOfFirst 33 = .ok (.istore 5, 2) := by decide +kernel
theorem dX8_offOfFirst_35 : decode cX8_offOfFirst 35 = .ok (.iload 5, 2) := by decide +kernel
theorem dX8_offOfFirst_37 : decode cX8_offOfFirst 37 = .ok (.iload_n 1, 1) := by decide +kernel
theorem dX8_offOfFirst_38 : decode cX8_offOfFirst 38 = .ok (.if_icmp .ge 41, 3) := by decide +kernel
theorem dX8_offOfFirst_79 : decode cX8_offOfFirst 79 = .ok (.iload 4, 2) := by decide +kernel
theorem dX8_offOfFirst_81 : decode cX8_offOfFirst 81 = .ok (.ireturn, 1) := by decide +kernel
theorem dX8_offOfFirst_41 : decode cX8_offOfFirst 41 = .ok (.iload 4, 2) := by decide +kernel
theorem dX8_offOfFirst_43 : decode cX8_offOfFirst 43 = .ok (.aload_n 0, 1) := by decide +kernel
theorem dX8_offOfFirst_44 : decode cX8_offOfFirst 44 = .ok (.iload 5, 2) := by decide +kernel
theorem dX8_offOfFirst_46 : decode cX8_offOfFirst 46 = .ok (.invokevirtual 36, 3) := by decide +kernel
theorem dX8_offOfFirst_49 : decode cX8_offOfFirst 49 = .ok (.aload_n 2, 1) := by decide +kernel
theorem dX8_offOfFirst_50 : decode cX8_offOfFirst 50 = .ok (.iload_n 3, 1) := by decide +kernel
theorem dX8_offOfFirst_51 : decode cX8_offOfFirst 51 = .ok (.iload 5, 2) := by decide +kernel
theorem dX8_offOfFirst_53 : decode cX8_offOfFirst 53 = .ok (.iadd, 1) := by decide +kernel
theorem dX8_offOfFirst_54 : decode cX8_offOfFirst 54 = .ok (.invokevirtual 36, 3) := by decide +kernel
theorem dX8_offOfFirst_57 : decode cX8_offOfFirst 57 = .ok (.isub, 1) := by decide +kernel
theorem dX8_offOfFirst_58 : decode cX8_offOfFirst 58 = .ok (.invokestatic 40, 3) := by decide +kernel
theorem dX8_offOfFirst_61 : decode cX8_offOfFirst 61 = .ok (.aload_n 0, 1) := by decide +kernel
theorem dX8_offOfFirst_62 : decode cX8_offOfFirst 62 = .ok (.iload 5, 2) := by decide +kernel
theorem dX8_offOfFirst_64 : decode cX8_offOfFirst 64 = .ok (.aload_n 2, 1) := by decide +kernel
theorem dX8_offOfFirst_65 : decode cX8_offOfFirst 65 = .ok (.iload_n 3, 1) := by decide +kernel
theorem dX8_offOfFirst_66 : decode cX8_offOfFirst 66 = .ok (.invokevirtual 43, 3) := by decide +kernel
theorem dX8_offOfFirst_69 : decode cX8_offOfFirst 69 = .ok (.iadd, 1) := by decide +kernel
theorem dX8_offOfFirst_70 : decode cX8_offOfFirst 70 = .ok (.iadd, 1) := by decide +kernel
theorem dX8_offOfFirst_71 : decode cX8_offOfFirst 71 = .ok (.istore 4, 2) := by decide +kernel
theorem dX8_offOfFirst_73 : decode cX8_offOfFirst 73 = .ok (.iinc 5 1, 3) := by decide +kernel
theorem dX8_offOfFirst_76 : decode cX8_offOfFirst 76 = .ok (.goto (-41), 3) := by decide +kernel
theorem dX8_offAt_0 : decode cX8_offAt 0 = .ok (.aload_n 0, 1) := by decide +kernel
theorem dX8_offAt_1 : decode cX8_offAt 1 = .ok (.aload_n 0, 1) := by decide +kernel
theorem dX8_offAt_2 : decode cX8_offAt 2 = .ok (.getfield 24, 3) := by decide +kernel
theorem dX8_offAt_5 : decode cX8_offAt 5 = .ok (.aload_n 1, 1) := by decide +kernel
theorem dX8_offAt_6 : decode cX8_offAt 6 = .ok (.iload_n 2, 1) := by decide +kernel
theorem dX8_offAt_7 : decode cX8_offAt 7 = .ok (.invokevirtual 32, 3) := by decide +kernel
theorem dX8_offAt_10 : decode cX8_offAt 10 = .ok (.ireturn, 1) := by decide +kernel
theorem dX8_firstOffAt_0 : decode cX8_firstOffAt 0 = .ok (.iload_n 2, 1) := by decide +kernel
theorem dX8_firstOffAt_1 : decode cX8_firstOffAt 1 = .ok (.ifCond .lt 16, 3) := by decide +kernel
theorem dX8_firstOffAt_17 : decode cX8_firstOffAt 17 = .ok (.iconst (-1), 1) := by decide +kernel
theorem dX8_firstOffAt_18 : decode cX8_firstOffAt 18 = .ok (.ireturn, 1) := by decide +kernel
theorem dX8_firstOffAt_4 : decode cX8_firstOffAt 4 = .ok (.iload_n 2, 1) := by decide +kernel
theorem dX8_firstOffAt_5 : decode cX8_firstOffAt 5 = .ok (.aload_n 1, 1) := by decide +kernel
theorem dX8_firstOffAt_6 : decode cX8_firstOffAt 6 = .ok (.getfield 24, 3) := by decide +kernel
theorem dX8_firstOffAt_9 : decode cX8_firstOffAt 9 = .ok (.aload_n 0, 1) := by decide +kernel
theorem dX8_firstOffAt_10 : decode cX8_firstOffAt 10 = .ok (.getfield 24, 3) := by decide +kernel
theorem dX8_firstOffAt_13 : decode cX8_firstOffAt 13 = .ok (.isub, 1) := by decide +kernel
theorem dX8_firstOffAt_14 : decode cX8_firstOffAt 14 = .ok (.if_icmp .le 5, 3) := by decide +kernel
theorem dX8_firstOffAt_19 : decode cX8_firstOffAt 19 = .ok (.iconst 1, 1) := by decide +kernel
theorem dX8_firstOffAt_20 : decode cX8_firstOffAt 20 = .ok (.istore_n 3, 1) := by decide +kernel
theorem dX8_firstOffAt_21 : decode cX8_firstOffAt 21 = .ok (.iload_n 3, 1) := by decide +kernel
theorem dX8_firstOffAt_22 : decode cX8_firstOffAt 22 = .ok (.aload_n 0, 1) := by decide +kernel
theorem dX8_firstOffAt_23 : decode cX8_firstOffAt 23 = .ok (.getfield 24, 3) := by decide +kernel
theorem dX8_firstOffAt_26 : decode cX8_firstOffAt 26 = .ok (.if_icmp .ge 36, 3) := by decide +kernel
theorem dX8_firstOffAt_62 : decode cX8_firstOffAt 62 = .ok (.iconst (-1), 1) := by decide +kernel
theorem dX8_firstOffAt_63 : decode cX8_firstOffAt 63 = .ok (.ireturn, 1) := by decide +kernel
theorem dX8_firstOffAt_29 : decode cX8_firstOffAt 29 = .ok (.aload_n 0, 1) := by decide +kernel
theorem dX8_firstOffAt_30 : decode cX8_firstOffAt 30 = .ok (.iload_n 3, 1) := by decide +kernel
theorem dX8_firstOffAt_31 : decode cX8_firstOffAt 31 = .ok (.invokevirtual 36, 3) := by decide +kernel
theorem dX8_firstOffAt_34 : decode cX8_firstOffAt 34 = .ok (.aload_n 1, 1) := by decide +kernel
theorem dX8_firstOffAt_35 : decode cX8_firstOffAt 35 = .ok (.iload_n 2, 1) := by decide +kernel
theorem dX8_firstOffAt_36 : decode cX8_firstOffAt 36 = .ok (.iload_n 3, 1) := by decide +kernel
theorem dX8_firstOffAt_37 : decode cX8_firstOffAt 37 = .ok (.iadd, 1) := by decide +kernel
theorem dX8_firstOffAt_38 : decode cX8_firstOffAt 38 = .ok (.invokevirtual 36, 3) := by decide +kernel
theorem dX8_firstOffAt_41 : decode cX8_firstOffAt 41 = .ok (.if_icmp .ne 13, 3) := by decide +kernel
theorem dX8_firstOffAt_54 : decode cX8_firstOffAt 54 = .ok (.iload_n 3, 1) := by decide +kernel
theorem dX8_firstOffAt_55 : decode cX8_firstOffAt 55 = .ok (.ireturn, 1) := by decide +kernel
theorem dX8_firstOffAt_44 : decode cX8_firstOffAt 44 = .ok (.aload_n 0, 1) := by decide +kernel
theorem dX8_firstOffAt_45 : decode cX8_firstOffAt 45 = .ok (.iload_n 3, 1) := by decide +kernel
theorem dX8_firstOffAt_46 : decode cX8_firstOffAt 46 = .ok (.aload_n 1, 1) := by decide +kernel
theorem dX8_firstOffAt_47 : decode cX8_firstOffAt 47 = .ok (.iload_n 2, 1) := by decide +kernel
theorem dX8_firstOffAt_48 : decode cX8_firstOffAt 48 = .ok (.invokevirtual 43, 3) := by decide +kernel
theorem dX8_firstOffAt_51 : decode cX8_firstOffAt 51 = .ok (.ifCond .eq 5, 3) := by decide +kernel
theorem dX8_firstOffAt_56 : decode cX8_firstOffAt 56 = .ok (.iinc 3 1, 3) := by decide +kernel
theorem dX8_firstOffAt_59 : decode cX8_firstOffAt 59 = .ok (.goto (-38), 3) := by decide +kernel
theorem dX8_reachOf_0 : decode cX8_reachOf 0 = .ok (.iload_n 1, 1) := by decide +kernel
theorem dX8_reachOf_1 : decode cX8_reachOf 1 = .ok (.ifCond .lt 28, 3) := by decide +kernel
theorem dX8_reachOf_29 : decode cX8_reachOf 29 = .ok (.iconst 0, 1) := by decide +kernel
theorem dX8_reachOf_30 : decode cX8_reachOf 30 = .ok (.ireturn, 1) := by decide +kernel
theorem dX8_reachOf_4 : decode cX8_reachOf 4 = .ok (.iload_n 1, 1) := by decide +kernel
theorem dX8_reachOf_5 : decode cX8_reachOf 5 = .ok (.aload_n 0, 1) := by decide +kernel
theorem dX8_reachOf_6 : decode cX8_reachOf 6 = .ok (.getfield 24, 3) := by decide +kernel
theorem dX8_reachOf_9 : decode cX8_reachOf 9 = .ok (.if_icmp .ge 20, 3) := by decide +kernel
theorem dX8_reachOf_12 : decode cX8_reachOf 12 = .ok (.aload_n 0, 1) := by decide +kernel
theorem dX8_reachOf_13 : decode cX8_reachOf 13 = .ok (.getfield 15, 3) := by decide +kernel
theorem dX8_reachOf_16 : decode cX8_reachOf 16 = .ok (.iload_n 1, 1) := by decide +kernel
theorem dX8_reachOf_17 : decode cX8_reachOf 17 = .ok (.iaload, 1) := by decide +kernel
theorem dX8_reachOf_18 : decode cX8_reachOf 18 = .ok (.bipush 12, 2) := by decide +kernel
theorem dX8_reachOf_20 : decode cX8_reachOf 20 = .ok (.irem, 1) := by decide +kernel
theorem dX8_reachOf_21 : decode cX8_reachOf 21 = .ok (.iload_n 2, 1) := by decide +kernel
theorem dX8_reachOf_22 : decode cX8_reachOf 22 = .ok (.if_icmp .ne 7, 3) := by decide +kernel
theorem dX8_reachOf_25 : decode cX8_reachOf 25 = .ok (.iconst 1, 1) := by decide +kernel
theorem dX8_reachOf_26 : decode cX8_reachOf 26 = .ok (.goto 4, 3) := by decide +kernel
theorem dX8_deafOffAt_0 : decode cX8_deafOffAt 0 = .ok (.iload_n 2, 1) := by decide +kernel
theorem dX8_deafOffAt_1 : decode cX8_deafOffAt 1 = .ok (.ifCond .lt 16, 3) := by decide +kernel
theorem dX8_deafOffAt_17 : decode cX8_deafOffAt 17 = .ok (.iconst (-1), 1) := by decide +kernel
theorem dX8_deafOffAt_18 : decode cX8_deafOffAt 18 = .ok (.ireturn, 1) := by decide +kernel
theorem dX8_deafOffAt_4 : decode cX8_deafOffAt 4 = .ok (.iload_n 2, 1) := by decide +kernel
theorem dX8_deafOffAt_5 : decode cX8_deafOffAt 5 = .ok (.aload_n 1, 1) := by decide +kernel
theorem dX8_deafOffAt_6 : decode cX8_deafOffAt 6 = .ok (.getfield 24, 3) := by decide +kernel
theorem dX8_deafOffAt_9 : decode cX8_deafOffAt 9 = .ok (.aload_n 0, 1) := by decide +kernel
theorem dX8_deafOffAt_10 : decode cX8_deafOffAt 10 = .ok (.getfield 24, 3) := by decide +kernel
theorem dX8_deafOffAt_13 : decode cX8_deafOffAt 13 = .ok (.isub, 1) := by decide +kernel
theorem dX8_deafOffAt_14 : decode cX8_deafOffAt 14 = .ok (.if_icmp .le 5, 3) := by decide +kernel
theorem dX8_deafOffAt_19 : decode cX8_deafOffAt 19 = .ok (.aload_n 1, 1) := by decide +kernel
theorem dX8_deafOffAt_20 : decode cX8_deafOffAt 20 = .ok (.iload_n 2, 1) := by decide +kernel
theorem dX8_deafOffAt_21 : decode cX8_deafOffAt 21 = .ok (.iload_n 3, 1) := by decide +kernel
theorem dX8_deafOffAt_22 : decode cX8_deafOffAt 22 = .ok (.invokevirtual 46, 3) := by decide +kernel
theorem dX8_deafOffAt_25 : decode cX8_deafOffAt 25 = .ok (.istore 4, 2) := by decide +kernel
theorem dX8_deafOffAt_27 : decode cX8_deafOffAt 27 = .ok (.iconst 0, 1) := by decide +kernel
theorem dX8_deafOffAt_28 : decode cX8_deafOffAt 28 = .ok (.istore 5, 2) := by decide +kernel
theorem dX8_deafOffAt_30 : decode cX8_deafOffAt 30 = .ok (.iconst 0, 1) := by decide +kernel
theorem dX8_deafOffAt_31 : decode cX8_deafOffAt 31 = .ok (.istore 6, 2) := by decide +kernel
theorem dX8_deafOffAt_33 : decode cX8_deafOffAt 33 = .ok (.iconst 1, 1) := by decide +kernel
theorem dX8_deafOffAt_34 : decode cX8_deafOffAt 34 = .ok (.istore 7, 2) := by decide +kernel
theorem dX8_deafOffAt_36 : decode cX8_deafOffAt 36 = .ok (.iload 7, 2) := by decide +kernel
theorem dX8_deafOffAt_38 : decode cX8_deafOffAt 38 = .ok (.aload_n 0, 1) := by decide +kernel
theorem dX8_deafOffAt_39 : decode cX8_deafOffAt 39 = .ok (.getfield 24, 3) := by decide +kernel
theorem dX8_deafOffAt_42 : decode cX8_deafOffAt 42 = .ok (.if_icmp .ge 131, 3) := by decide +kernel
theorem dX8_deafOffAt_173 : decode cX8_deafOffAt 173 = .ok (.iload 5, 2) := by decide +kernel
theorem dX8_deafOffAt_175 : decode cX8_deafOffAt 175 = .ok (.iload 6, 2) := by decide +kernel
theorem dX8_deafOffAt_177 : decode cX8_deafOffAt 177 = .ok (.invokestatic 49, 3) := by decide +kernel
theorem dX8_deafOffAt_180 : decode cX8_deafOffAt 180 = .ok (.ireturn, 1) := by decide +kernel
theorem dX8_deafOffAt_45 : decode cX8_deafOffAt 45 = .ok (.aload_n 1, 1) := by decide +kernel
theorem dX8_deafOffAt_46 : decode cX8_deafOffAt 46 = .ok (.iload_n 2, 1) := by decide +kernel
theorem dX8_deafOffAt_47 : decode cX8_deafOffAt 47 = .ok (.iload 7, 2) := by decide +kernel
theorem dX8_deafOffAt_49 : decode cX8_deafOffAt 49 = .ok (.iadd, 1) := by decide +kernel
theorem dX8_deafOffAt_50 : decode cX8_deafOffAt 50 = .ok (.iload_n 3, 1) := by decide +kernel
theorem dX8_deafOffAt_51 : decode cX8_deafOffAt 51 = .ok (.invokevirtual 46, 3) := by decide +kernel
theorem dX8_deafOffAt_54 : decode cX8_deafOffAt 54 = .ok (.istore 8, 2) := by decide +kernel
theorem dX8_deafOffAt_56 : decode cX8_deafOffAt 56 = .ok (.aload_n 0, 1) := by decide +kernel
theorem dX8_deafOffAt_57 : decode cX8_deafOffAt 57 = .ok (.iload 7, 2) := by decide +kernel
theorem dX8_deafOffAt_59 : decode cX8_deafOffAt 59 = .ok (.invokevirtual 36, 3) := by decide +kernel
theorem dX8_deafOffAt_62 : decode cX8_deafOffAt 62 = .ok (.aload_n 1, 1) := by decide +kernel
theorem dX8_deafOffAt_63 : decode cX8_deafOffAt 63 = .ok (.iload_n 2, 1) := by decide +kernel
theorem dX8_deafOffAt_64 : decode cX8_deafOffAt 64 = .ok (.iload 7, 2) := by decide +kernel
theorem dX8_deafOffAt_66 : decode cX8_deafOffAt 66 = .ok (.iadd, 1) := by decide +kernel
theorem dX8_deafOffAt_67 : decode cX8_deafOffAt 67 = .ok (.invokevirtual 36, 3) := by decide +kernel
theorem dX8_deafOffAt_70 : decode cX8_deafOffAt 70 = .ok (.isub, 1) := by decide +kernel
theorem dX8_deafOffAt_71 : decode cX8_deafOffAt 71 = .ok (.istore 9, 2) := by decide +kernel
theorem dX8_deafOffAt_73 : decode cX8_deafOffAt 73 = .ok (.aload_n 0, 1) := by decide +kernel
theorem dX8_deafOffAt_74 : decode cX8_deafOffAt 74 = .ok (.iload 7, 2) := by decide +kernel
theorem dX8_deafOffAt_76 : decode cX8_deafOffAt 76 = .ok (.aload_n 1, 1) := by decide +kernel
theorem dX8_deafOffAt_77 : decode cX8_deafOffAt 77 = .ok (.iload_n 2, 1) := by decide +kernel
theorem dX8_deafOffAt_78 : decode cX8_deafOffAt 78 = .ok (.invokevirtual 43, 3) := by decide +kernel
theorem dX8_deafOffAt_81 : decode cX8_deafOffAt 81 = .ok (.istore 10, 2) := by decide +kernel
theorem dX8_deafOffAt_83 : decode cX8_deafOffAt 83 = .ok (.iload 5, 2) := by decide +kernel
theorem dX8_deafOffAt_85 : decode cX8_deafOffAt 85 = .ok (.iload 9, 2) := by decide +kernel
theorem dX8_deafOffAt_87 : decode cX8_deafOffAt 87 = .ok (.iload 8, 2) := by decide +kernel
theorem dX8_deafOffAt_89 : decode cX8_deafOffAt 89 = .ok (.iadd, 1) := by decide +kernel
theorem dX8_deafOffAt_90 : decode cX8_deafOffAt 90 = .ok (.iload 4, 2) := by decide +kernel
theorem dX8_deafOffAt_92 : decode cX8_deafOffAt 92 = .ok (.isub, 1) := by decide +kernel
theorem dX8_deafOffAt_93 : decode cX8_deafOffAt 93 = .ok (.invokestatic 40, 3) := by decide +kernel
theorem dX8_deafOffAt_96 : decode cX8_deafOffAt 96 = .ok (.iadd, 1) := by decide +kernel
theorem dX8_deafOffAt_97 : decode cX8_deafOffAt 97 = .ok (.iload 6, 2) := by decide +kernel
theorem dX8_deafOffAt_99 : decode cX8_deafOffAt 99 = .ok (.iload 9, 2) := by decide +kernel
theorem dX8_deafOffAt_101 : decode cX8_deafOffAt 101 = .ok (.iload 8, 2) := by decide +kernel
theorem dX8_deafOffAt_103 : decode cX8_deafOffAt 103 = .ok (.iadd, 1) := by decide +kernel
theorem dX8_deafOffAt_104 : decode cX8_deafOffAt 104 = .ok (.iload 4, 2) := by decide +kernel
theorem dX8_deafOffAt_106 : decode cX8_deafOffAt 106 = .ok (.iadd, 1) := by decide +kernel
theorem dX8_deafOffAt_107 : decode cX8_deafOffAt 107 = .ok (.invokestatic 40, 3) := by decide +kernel
theorem dX8_deafOffAt_110 : decode cX8_deafOffAt 110 = .ok (.iadd, 1) := by decide +kernel
theorem dX8_deafOffAt_111 : decode cX8_deafOffAt 111 = .ok (.invokestatic 49, 3) := by decide +kernel
theorem dX8_deafOffAt_114 : decode cX8_deafOffAt 114 = .ok (.istore 11, 2) := by decide +kernel
theorem dX8_deafOffAt_116 : decode cX8_deafOffAt 116 = .ok (.iload 5, 2) := by decide +kernel
theorem dX8_deafOffAt_118 : decode cX8_deafOffAt 118 = .ok (.iload 9, 2) := by decide +kernel
theorem dX8_deafOffAt_120 : decode cX8_deafOffAt 120 = .ok (.iload 8, 2) := by decide +kernel
theorem dX8_deafOffAt_122 : decode cX8_deafOffAt 122 = .ok (.isub, 1) := by decide +kernel
theorem dX8_deafOffAt_123 : decode cX8_deafOffAt 123 = .ok (.iload 4, 2) := by decide +kernel
theorem dX8_deafOffAt_125 : decode cX8_deafOffAt 125 = .ok (.isub, 1) := by decide +kernel
theorem dX8_deafOffAt_126 : decode cX8_deafOffAt 126 = .ok (.invokestatic 40, 3) := by decide +kernel
theorem dX8_deafOffAt_129 : decode cX8_deafOffAt 129 = .ok (.iadd, 1) := by decide +kernel
theorem dX8_deafOffAt_130 : decode cX8_deafOffAt 130 = .ok (.iload 6, 2) := by decide +kernel
theorem dX8_deafOffAt_132 : decode cX8_deafOffAt 132 = .ok (.iload 9, 2) := by decide +kernel
theorem dX8_deafOffAt_134 : decode cX8_deafOffAt 134 = .ok (.iload 8, 2) := by decide +kernel
theorem dX8_deafOffAt_136 : decode cX8_deafOffAt 136 = .ok (.isub, 1) := by decide +kernel
theorem dX8_deafOffAt_137 : decode cX8_deafOffAt 137 = .ok (.iload 4, 2) := by decide +kernel
theorem dX8_deafOffAt_139 : decode cX8_deafOffAt 139 = .ok (.iadd, 1) := by decide +kernel
theorem dX8_deafOffAt_140 : decode cX8_deafOffAt 140 = .ok (.invokestatic 40, 3) := by decide +kernel
theorem dX8_deafOffAt_143 : decode cX8_deafOffAt 143 = .ok (.iadd, 1) := by decide +kernel
theorem dX8_deafOffAt_144 : decode cX8_deafOffAt 144 = .ok (.invokestatic 49, 3) := by decide +kernel
theorem dX8_deafOffAt_147 : decode cX8_deafOffAt 147 = .ok (.istore 12, 2) := by decide +kernel
theorem dX8_deafOffAt_149 : decode cX8_deafOffAt 149 = .ok (.iload 11, 2) := by decide +kernel
theorem dX8_deafOffAt_151 : decode cX8_deafOffAt 151 = .ok (.iload 10, 2) := by decide +kernel
theorem dX8_deafOffAt_153 : decode cX8_deafOffAt 153 = .ok (.iadd, 1) := by decide +kernel
theorem dX8_deafOffAt_154 : decode cX8_deafOffAt 154 = .ok (.istore 5, 2) := by decide +kernel
theorem dX8_deafOffAt_156 : decode cX8_deafOffAt 156 = .ok (.iload 12, 2) := by decide +kernel
theorem dX8_deafOffAt_158 : decode cX8_deafOffAt 158 = .ok (.iload 10, 2) := by decide +kernel
theorem dX8_deafOffAt_160 : decode cX8_deafOffAt 160 = .ok (.iadd, 1) := by decide +kernel
theorem dX8_deafOffAt_161 : decode cX8_deafOffAt 161 = .ok (.istore 6, 2) := by decide +kernel
theorem dX8_deafOffAt_163 : decode cX8_deafOffAt 163 = .ok (.iload 8, 2) := by decide +kernel
theorem dX8_deafOffAt_165 : decode cX8_deafOffAt 165 = .ok (.istore 4, 2) := by decide +kernel
theorem dX8_deafOffAt_167 : decode cX8_deafOffAt 167 = .ok (.iinc 7 1, 3) := by decide +kernel
theorem dX8_deafOffAt_170 : decode cX8_deafOffAt 170 = .ok (.goto (-134), 3) := by decide +kernel
theorem dX8_becomeLike_0 : decode cX8_becomeLike 0 = .ok (.aload_n 0, 1) := by decide +kernel
theorem dX8_becomeLike_1 : decode cX8_becomeLike 1 = .ok (.iconst 0, 1) := by decide +kernel
theorem dX8_becomeLike_2 : decode cX8_becomeLike 2 = .ok (.putfield 24, 3) := by decide +kernel
theorem dX8_becomeLike_5 : decode cX8_becomeLike 5 = .ok (.iconst 0, 1) := by decide +kernel
theorem dX8_becomeLike_6 : decode cX8_becomeLike 6 = .ok (.istore_n 2, 1) := by decide +kernel
theorem dX8_becomeLike_7 : decode cX8_becomeLike 7 = .ok (.iload_n 2, 1) := by decide +kernel
theorem dX8_becomeLike_8 : decode cX8_becomeLike 8 = .ok (.aload_n 1, 1) := by decide +kernel
theorem dX8_becomeLike_9 : decode cX8_becomeLike 9 = .ok (.getfield 24, 3) := by decide +kernel
theorem dX8_becomeLike_12 : decode cX8_becomeLike 12 = .ok (.if_icmp .ge 25, 3) := by decide +kernel
theorem dX8_becomeLike_37 : decode cX8_becomeLike 37 = .ok (.return_, 1) := by decide +kernel
theorem dX8_becomeLike_15 : decode cX8_becomeLike 15 = .ok (.aload_n 0, 1) := by decide +kernel
theorem dX8_becomeLike_16 : decode cX8_becomeLike 16 = .ok (.aload_n 1, 1) := by decide +kernel
theorem dX8_becomeLike_17 : decode cX8_becomeLike 17 = .ok (.getfield 15, 3) := by decide +kernel
theorem dX8_becomeLike_20 : decode cX8_becomeLike 20 = .ok (.iload_n 2, 1) := by decide +kernel
theorem dX8_becomeLike_21 : decode cX8_becomeLike 21 = .ok (.iaload, 1) := by decide +kernel
theorem dX8_becomeLike_22 : decode cX8_becomeLike 22 = .ok (.aload_n 1, 1) := by decide +kernel
theorem dX8_becomeLike_23 : decode cX8_becomeLike 23 = .ok (.getfield 21, 3) := by decide +kernel
theorem dX8_becomeLike_26 : decode cX8_becomeLike 26 = .ok (.iload_n 2, 1) := by decide +kernel
theorem dX8_becomeLike_27 : decode cX8_becomeLike 27 = .ok (.iaload, 1) := by decide +kernel
theorem dX8_becomeLike_28 : decode cX8_becomeLike 28 = .ok (.invokevirtual 28, 3) := by decide +kernel
theorem dX8_becomeLike_31 : decode cX8_becomeLike 31 = .ok (.iinc 2 1, 3) := by decide +kernel
theorem dX8_becomeLike_34 : decode cX8_becomeLike 34 = .ok (.goto (-27), 3) := by decide +kernel
set_option maxHeartbeats 4000000 in
set_option maxRecDepth 100000 in
theorem c_bitCount (l : Launch) (G : va_G) (cy : Nat → ClassId) (sz : Nat)  (n : Int32)   : Met l yJ6_bitCount_0f7a4 (.code yJ6_bitCount_0f7a4 cJ6_bitCount_0f7a4 1 (some .int) :: TBg) ({ frames := 1, cells := 0, slots := 0, locals := 64 }) (va_Pc [.int n] (En G cy [] sz)) (va_Qi (fun (r : Int32) (_ : Unit) => True) (fun _ _ => True) (va_A [] sz)) 0 0 (va_A [] sz) := by
  refine Met.ofW (cc := cJ6_bitCount_0f7a4) (maxL := 1) (ret := (some .int)) (by decide) rfl ?_
  intro p e s m args below meth c s₁ B9 hml hv9
  obtain ⟨rfl, hsz, hP, hK, hD0, hN⟩ := hv9
  have hx := B9.exec
  have hb := B9.bytes
  have hr := B9.returns
  have hts := atoms_spec (ws := .code yJ6_bitCount_0f7a4 cJ6_bitCount_0f7a4 1 (some .int) :: TBg) B9.pre
  have ht : ∀ w ∈ TBg, w.before _ s = true := fun w h => hts w (List.mem_cons_of_mem _ h)
  have hown : s.vm.findClass RJ6 = some m.cls := findClass_of_methodNamed B9.named
  have hlocks := B9.notSynchronized
  subst hsz
  generalize hAe : va_A [] s.heap.size = A at ⊢
  have hA : ∀ q : Nat, s.heap.size ≤ q → A q := fun q h => by rw [← hAe]; exact Or.inr h
  have hS : va_S A s.heap s.heap [] := va_S.rf
  have hl := lv_entry ([.int n]) (n := 1) (Nat.le_of_ble_eq_true rfl)
  rw [lg_entry_eq]
  generalize (lg_sl ([.int n]) ++ List.replicate (1 - (lg_sl ([.int n])).length) Slot.unset).toArray = ls at hl ⊢
  have hl : lv_has ls 1 [(0, .int n)] := hl
  refine lv_iload_n hx hb dJ6_bitCount_0f7a4_0 rfl (lv_at hl 0 rfl) ?_
  refine lv_iload_n hx hb dJ6_bitCount_0f7a4_1 rfl (lv_at hl 0 rfl) ?_
  refine lv_iconst (v := 1) hx hb dJ6_bitCount_0f7a4_2 (by decide) ?_
  refine lv_iushr hx hb dJ6_bitCount_0f7a4_3 rfl ?_
  refine lv_topi (fun v_1 ev_1 => ?_)
  refine lv_ldcw (v := 1431655765) hx hb hown (ht _ k_392) dJ6_bitCount_0f7a4_4 ?_
  refine lv_iand hx hb dJ6_bitCount_0f7a4_7 ?_
  refine lv_topi (fun v_2 ev_2 => ?_)
  refine lv_isub hx hb dJ6_bitCount_0f7a4_8 ?_
  refine lv_topi (fun v_3 ev_3 => ?_)
  refine lv_istore_n (lv' := [(0, .int v_3)]) hx hb dJ6_bitCount_0f7a4_9 rfl hl (by decide) rfl (fun ls hl => ?_)
  refine lv_iload_n hx hb dJ6_bitCount_0f7a4_10 rfl (lv_at hl 0 rfl) ?_
  refine lv_ldcw (v := 858993459) hx hb hown (ht _ k_393) dJ6_bitCount_0f7a4_11 ?_
  refine lv_iand hx hb dJ6_bitCount_0f7a4_14 ?_
  refine lv_topi (fun v_4 ev_4 => ?_)
  refine lv_iload_n hx hb dJ6_bitCount_0f7a4_15 rfl (lv_at hl 0 rfl) ?_
  refine lv_iconst (v := 2) hx hb dJ6_bitCount_0f7a4_16 (by decide) ?_
  refine lv_iushr hx hb dJ6_bitCount_0f7a4_17 rfl ?_
  refine lv_topi (fun v_5 ev_5 => ?_)
  refine lv_ldcw (v := 858993459) hx hb hown (ht _ k_393) dJ6_bitCount_0f7a4_18 ?_
  refine lv_iand hx hb dJ6_bitCount_0f7a4_21 ?_
  refine lv_topi (fun v_6 ev_6 => ?_)
  refine lv_iadd hx hb dJ6_bitCount_0f7a4_22 ?_
  refine lv_topi (fun v_7 ev_7 => ?_)
  refine lv_istore_n (lv' := [(0, .int v_7)]) hx hb dJ6_bitCount_0f7a4_23 rfl hl (by decide) rfl (fun ls hl => ?_)
  refine lv_iload_n hx hb dJ6_bitCount_0f7a4_24 rfl (lv_at hl 0 rfl) ?_
  refine lv_iload_n hx hb dJ6_bitCount_0f7a4_25 rfl (lv_at hl 0 rfl) ?_
  refine lv_iconst (v := 4) hx hb dJ6_bitCount_0f7a4_26 (by decide) ?_
  refine lv_iushr hx hb dJ6_bitCount_0f7a4_27 rfl ?_
  refine lv_topi (fun v_8 ev_8 => ?_)
  refine lv_iadd hx hb dJ6_bitCount_0f7a4_28 ?_
  refine lv_topi (fun v_9 ev_9 => ?_)
  refine lv_ldcw (v := 252645135) hx hb hown (ht _ k_394) dJ6_bitCount_0f7a4_29 ?_
  refine lv_iand hx hb dJ6_bitCount_0f7a4_32 ?_
  refine lv_topi (fun v_10 ev_10 => ?_)
  refine lv_istore_n (lv' := [(0, .int v_10)]) hx hb dJ6_bitCount_0f7a4_33 rfl hl (by decide) rfl (fun ls hl => ?_)
  refine lv_iload_n hx hb dJ6_bitCount_0f7a4_34 rfl (lv_at hl 0 rfl) ?_
  refine lv_iload_n hx hb dJ6_bitCount_0f7a4_35 rfl (lv_at hl 0 rfl) ?_
  refine lv_bipush (v := 8) hx hb dJ6_bitCount_0f7a4_36 (by decide) ?_
  refine lv_iushr hx hb dJ6_bitCount_0f7a4_38 rfl ?_
  refine lv_topi (fun v_11 ev_11 => ?_)
  refine lv_iadd hx hb dJ6_bitCount_0f7a4_39 ?_
  refine lv_topi (fun v_12 ev_12 => ?_)
  refine lv_istore_n (lv' := [(0, .int v_12)]) hx hb dJ6_bitCount_0f7a4_40 rfl hl (by decide) rfl (fun ls hl => ?_)
  refine lv_iload_n hx hb dJ6_bitCount_0f7a4_41 rfl (lv_at hl 0 rfl) ?_
  refine lv_iload_n hx hb dJ6_bitCount_0f7a4_42 rfl (lv_at hl 0 rfl) ?_
  refine lv_bipush (v := 16) hx hb dJ6_bitCount_0f7a4_43 (by decide) ?_
  refine lv_iushr hx hb dJ6_bitCount_0f7a4_45 rfl ?_
  refine lv_topi (fun v_13 ev_13 => ?_)
  refine lv_iadd hx hb dJ6_bitCount_0f7a4_46 ?_
  refine lv_topi (fun v_14 ev_14 => ?_)
  refine lv_istore_n (lv' := [(0, .int v_14)]) hx hb dJ6_bitCount_0f7a4_47 rfl hl (by decide) rfl (fun ls hl => ?_)
  refine lv_iload_n hx hb dJ6_bitCount_0f7a4_48 rfl (lv_at hl 0 rfl) ?_
  refine lv_bipush (v := 63) hx hb dJ6_bitCount_0f7a4_49 (by decide) ?_
  refine lv_iand hx hb dJ6_bitCount_0f7a4_51 ?_
  refine lv_topi (fun v_15 ev_15 => ?_)
  refine W.widen (k := 0) (n := 0) (Nat.le_of_ble_eq_true rfl) (Nat.le_of_ble_eq_true rfl) ?_
  exact W.iret (v := v_15) hx hb hr (fun t ht9 hW => ⟨⟨v_15, (), rfl, trivial, trivial⟩, hS.F ht9⟩) hS.2.2 dJ6_bitCount_0f7a4_52
set_option maxHeartbeats 4000000 in
set_option maxRecDepth 100000 in
theorem c_canBeSung (l : Launch) (G : va_G) (cy : Nat → ClassId) (sz : Nat)  (n : Int32)   : Met l yX11_canBeSung (.code yX11_canBeSung cX11_canBeSung 1 (some .boolean) :: TBg) ({ frames := 1, cells := 0, slots := 0, locals := 64 }) (va_Pc [.int n] (En G cy [] sz)) (va_Qi (fun (r : Int32) (_ : Unit) => (r.toInt = 0 ∨ r.toInt = 1)) (fun _ _ => True) (va_A [] sz)) 0 0 (va_A [] sz) := by
  refine Met.ofW (cc := cX11_canBeSung) (maxL := 1) (ret := (some .boolean)) (by decide) rfl ?_
  intro p e s m args below meth c s₁ B9 hml hv9
  obtain ⟨rfl, hsz, hP, hK, hD0, hN⟩ := hv9
  have hx := B9.exec
  have hb := B9.bytes
  have hr := B9.returns
  have hts := atoms_spec (ws := .code yX11_canBeSung cX11_canBeSung 1 (some .boolean) :: TBg) B9.pre
  have ht : ∀ w ∈ TBg, w.before _ s = true := fun w h => hts w (List.mem_cons_of_mem _ h)
  have hown : s.vm.findClass RX11 = some m.cls := findClass_of_methodNamed B9.named
  have hlocks := B9.notSynchronized
  subst hsz
  generalize hAe : va_A [] s.heap.size = A at ⊢
  have hA : ∀ q : Nat, s.heap.size ≤ q → A q := fun q h => by rw [← hAe]; exact Or.inr h
  have hS : va_S A s.heap s.heap [] := va_S.rf
  have hl := lv_entry ([.int n]) (n := 1) (Nat.le_of_ble_eq_true rfl)
  rw [lg_entry_eq]
  generalize (lg_sl ([.int n]) ++ List.replicate (1 - (lg_sl ([.int n])).length) Slot.unset).toArray = ls at hl ⊢
  have hl : lv_has ls 1 [(0, .int n)] := hl
  have z0 : (0 : Int32).toInt = 0 := by decide
  have z1 : (1 : Int32).toInt = 1 := by decide
  have z2 : (60 : Int32).toInt = 60 := by decide
  refine lv_iload_n hx hb dX11_canBeSung_0 rfl (lv_at hl 0 rfl) ?_
  refine lv_if_lt (tgt := 14) hx hb dX11_canBeSung_1 (by decide) (fun c_1 => ?_) (fun c_1 => ?_)
  · have q_2 : n.toInt < (0 : Int32).toInt := (ow_lt _ _).mp c_1
    refine lv_iconst (v := 0) hx hb dX11_canBeSung_14 (by decide) ?_
    refine W.widen (k := 0) (n := 0) (Nat.le_of_ble_eq_true rfl) (Nat.le_of_ble_eq_true rfl) ?_
    exact W.zret (v := 0) hx hb hr rfl (fun t ht9 hW => ⟨⟨0, (), rfl, (by omega), trivial⟩, hS.F ht9⟩) hS.2.2 dX11_canBeSung_15
  · have q_3 : (0 : Int32).toInt ≤ n.toInt := by have := (not_congr (ow_lt _ _)).mp c_1; omega
    refine lv_iload_n hx hb dX11_canBeSung_4 rfl (lv_at hl 0 rfl) ?_
    refine lv_bipush (v := 60) hx hb dX11_canBeSung_5 (by decide) ?_
    refine lv_icmp_gt (tgt := 14) hx hb dX11_canBeSung_7 (by decide) (fun c_4 => ?_) (fun c_4 => ?_)
    · have q_5 : (60 : Int32).toInt < n.toInt := (ow_lt _ _).mp c_4
      refine lv_iconst (v := 0) hx hb dX11_canBeSung_14 (by decide) ?_
      refine W.widen (k := 0) (n := 0) (Nat.le_of_ble_eq_true rfl) (Nat.le_of_ble_eq_true rfl) ?_
      exact W.zret (v := 0) hx hb hr rfl (fun t ht9 hW => ⟨⟨0, (), rfl, (by omega), trivial⟩, hS.F ht9⟩) hS.2.2 dX11_canBeSung_15
    · have q_6 : n.toInt ≤ (60 : Int32).toInt := by have := (not_congr (ow_lt _ _)).mp c_4; omega
      refine lv_iconst (v := 1) hx hb dX11_canBeSung_10 (by decide) ?_
      refine lv_goto (tgt := 15) hx hb dX11_canBeSung_11 (by decide) ?_
      refine W.widen (k := 0) (n := 0) (Nat.le_of_ble_eq_true rfl) (Nat.le_of_ble_eq_true rfl) ?_
      exact W.zret (v := 1) hx hb hr rfl (fun t ht9 hW => ⟨⟨1, (), rfl, (by omega), trivial⟩, hS.F ht9⟩) hS.2.2 dX11_canBeSung_15
set_option maxHeartbeats 4000000 in
set_option maxRecDepth 100000 in
theorem c_isSign (l : Launch) (G : va_G) (cy : Nat → ClassId) (sz : Nat)  (n : Int32)   : Met l yX6_isSign (.code yX6_isSign cX6_isSign 1 (some .boolean) :: TBg) ({ frames := 1, cells := 0, slots := 0, locals := 64 }) (va_Pc [.int n] (En G cy [] sz)) (va_Qi (fun (r : Int32) (_ : Unit) => (r.toInt = 0 ∨ r.toInt = 1)) (fun _ _ => True) (va_A [] sz)) 0 0 (va_A [] sz) := by
  refine Met.ofW (cc := cX6_isSign) (maxL := 1) (ret := (some .boolean)) (by decide) rfl ?_
  intro p e s m args below meth c s₁ B9 hml hv9
  obtain ⟨rfl, hsz, hP, hK, hD0, hN⟩ := hv9
  have hx := B9.exec
  have hb := B9.bytes
  have hr := B9.returns
  have hts := atoms_spec (ws := .code yX6_isSign cX6_isSign 1 (some .boolean) :: TBg) B9.pre
  have ht : ∀ w ∈ TBg, w.before _ s = true := fun w h => hts w (List.mem_cons_of_mem _ h)
  have hown : s.vm.findClass RX6 = some m.cls := findClass_of_methodNamed B9.named
  have hlocks := B9.notSynchronized
  subst hsz
  generalize hAe : va_A [] s.heap.size = A at ⊢
  have hA : ∀ q : Nat, s.heap.size ≤ q → A q := fun q h => by rw [← hAe]; exact Or.inr h
  have hS : va_S A s.heap s.heap [] := va_S.rf
  have hl := lv_entry ([.int n]) (n := 1) (Nat.le_of_ble_eq_true rfl)
  rw [lg_entry_eq]
  generalize (lg_sl ([.int n]) ++ List.replicate (1 - (lg_sl ([.int n])).length) Slot.unset).toArray = ls at hl ⊢
  have hl : lv_has ls 1 [(0, .int n)] := hl
  have z0 : (0 : Int32).toInt = 0 := by decide
  have z1 : (1 : Int32).toInt = 1 := by decide
  refine lv_iload_n hx hb dX6_isSign_0 rfl (lv_at hl 0 rfl) ?_
  by_cases sw_1 : n.toInt < 40 ∨ 62 < n.toInt
  · refine lv_tableOut (tgt := 110) hx hb dX6_isSign_1 (by omega) (by decide) ?_
    refine lv_iconst (v := 0) hx hb dX6_isSign_110 (by decide) ?_
    refine W.widen (k := 0) (n := 0) (Nat.le_of_ble_eq_true rfl) (Nat.le_of_ble_eq_true rfl) ?_
    exact W.zret (v := 0) hx hb hr rfl (fun t ht9 hW => ⟨⟨0, (), rfl, (by omega), trivial⟩, hS.F ht9⟩) hS.2.2 dX6_isSign_111
  · have h3sw_1 : n.toInt = 40 ∨ n.toInt = 41 ∨ n.toInt = 42 ∨ n.toInt = 43 ∨ n.toInt = 44 ∨ n.toInt = 45 ∨ n.toInt = 46 ∨ n.toInt = 47 ∨ n.toInt = 48 ∨ n.toInt = 49 ∨ n.toInt = 50 ∨ n.toInt = 51 ∨ n.toInt = 52 ∨ n.toInt = 53 ∨ n.toInt = 54 ∨ n.toInt = 55 ∨ n.toInt = 56 ∨ n.toInt = 57 ∨ n.toInt = 58 ∨ n.toInt = 59 ∨ n.toInt = 60 ∨ n.toInt = 61 ∨ n.toInt = 62 := by omega
    rcases h3sw_1 with h3sw_1 | h3sw_1 | h3sw_1 | h3sw_1 | h3sw_1 | h3sw_1 | h3sw_1 | h3sw_1 | h3sw_1 | h3sw_1 | h3sw_1 | h3sw_1 | h3sw_1 | h3sw_1 | h3sw_1 | h3sw_1 | h3sw_1 | h3sw_1 | h3sw_1 | h3sw_1 | h3sw_1 | h3sw_1 | h3sw_1
    · refine ow_top 40 ((ow_eq _ _).mpr (by rw [h3sw_1]; decide)) ?_
      refine lv_tableIn (tgt := 108) hx hb dX6_isSign_1 (by decide +kernel) (by decide +kernel) rfl (by decide) ?_
      refine lv_iconst (v := 1) hx hb dX6_isSign_108 (by decide) ?_
      refine W.widen (k := 0) (n := 0) (Nat.le_of_ble_eq_true rfl) (Nat.le_of_ble_eq_true rfl) ?_
      exact W.zret (v := 1) hx hb hr rfl (fun t ht9 hW => ⟨⟨1, (), rfl, (by omega), trivial⟩, hS.F ht9⟩) hS.2.2 dX6_isSign_109
    · refine ow_top 41 ((ow_eq _ _).mpr (by rw [h3sw_1]; decide)) ?_
      refine lv_tableIn (tgt := 108) hx hb dX6_isSign_1 (by decide +kernel) (by decide +kernel) rfl (by decide) ?_
      refine lv_iconst (v := 1) hx hb dX6_isSign_108 (by decide) ?_
      refine W.widen (k := 0) (n := 0) (Nat.le_of_ble_eq_true rfl) (Nat.le_of_ble_eq_true rfl) ?_
      exact W.zret (v := 1) hx hb hr rfl (fun t ht9 hW => ⟨⟨1, (), rfl, (by omega), trivial⟩, hS.F ht9⟩) hS.2.2 dX6_isSign_109
    · refine ow_top 42 ((ow_eq _ _).mpr (by rw [h3sw_1]; decide)) ?_
      refine lv_tableIn (tgt := 110) hx hb dX6_isSign_1 (by decide +kernel) (by decide +kernel) rfl (by decide) ?_
      refine lv_iconst (v := 0) hx hb dX6_isSign_110 (by decide) ?_
      refine W.widen (k := 0) (n := 0) (Nat.le_of_ble_eq_true rfl) (Nat.le_of_ble_eq_true rfl) ?_
      exact W.zret (v := 0) hx hb hr rfl (fun t ht9 hW => ⟨⟨0, (), rfl, (by omega), trivial⟩, hS.F ht9⟩) hS.2.2 dX6_isSign_111
    · refine ow_top 43 ((ow_eq _ _).mpr (by rw [h3sw_1]; decide)) ?_
      refine lv_tableIn (tgt := 108) hx hb dX6_isSign_1 (by decide +kernel) (by decide +kernel) rfl (by decide) ?_
      refine lv_iconst (v := 1) hx hb dX6_isSign_108 (by decide) ?_
      refine W.widen (k := 0) (n := 0) (Nat.le_of_ble_eq_true rfl) (Nat.le_of_ble_eq_true rfl) ?_
      exact W.zret (v := 1) hx hb hr rfl (fun t ht9 hW => ⟨⟨1, (), rfl, (by omega), trivial⟩, hS.F ht9⟩) hS.2.2 dX6_isSign_109
    · refine ow_top 44 ((ow_eq _ _).mpr (by rw [h3sw_1]; decide)) ?_
      refine lv_tableIn (tgt := 110) hx hb dX6_isSign_1 (by decide +kernel) (by decide +kernel) rfl (by decide) ?_
      refine lv_iconst (v := 0) hx hb dX6_isSign_110 (by decide) ?_
      refine W.widen (k := 0) (n := 0) (Nat.le_of_ble_eq_true rfl) (Nat.le_of_ble_eq_true rfl) ?_
      exact W.zret (v := 0) hx hb hr rfl (fun t ht9 hW => ⟨⟨0, (), rfl, (by omega), trivial⟩, hS.F ht9⟩) hS.2.2 dX6_isSign_111
    · refine ow_top 45 ((ow_eq _ _).mpr (by rw [h3sw_1]; decide)) ?_
      refine lv_tableIn (tgt := 108) hx hb dX6_isSign_1 (by decide +kernel) (by decide +kernel) rfl (by decide) ?_
      refine lv_iconst (v := 1) hx hb dX6_isSign_108 (by decide) ?_
      refine W.widen (k := 0) (n := 0) (Nat.le_of_ble_eq_true rfl) (Nat.le_of_ble_eq_true rfl) ?_
      exact W.zret (v := 1) hx hb hr rfl (fun t ht9 hW => ⟨⟨1, (), rfl, (by omega), trivial⟩, hS.F ht9⟩) hS.2.2 dX6_isSign_109
    · refine ow_top 46 ((ow_eq _ _).mpr (by rw [h3sw_1]; decide)) ?_
      refine lv_tableIn (tgt := 110) hx hb dX6_isSign_1 (by decide +kernel) (by decide +kernel) rfl (by decide) ?_
      refine lv_iconst (v := 0) hx hb dX6_isSign_110 (by decide) ?_
      refine W.widen (k := 0) (n := 0) (Nat.le_of_ble_eq_true rfl) (Nat.le_of_ble_eq_true rfl) ?_
      exact W.zret (v := 0) hx hb hr rfl (fun t ht9 hW => ⟨⟨0, (), rfl, (by omega), trivial⟩, hS.F ht9⟩) hS.2.2 dX6_isSign_111
    · refine ow_top 47 ((ow_eq _ _).mpr (by rw [h3sw_1]; decide)) ?_
      refine lv_tableIn (tgt := 110) hx hb dX6_isSign_1 (by decide +kernel) (by decide +kernel) rfl (by decide) ?_
      refine lv_iconst (v := 0) hx hb dX6_isSign_110 (by decide) ?_
      refine W.widen (k := 0) (n := 0) (Nat.le_of_ble_eq_true rfl) (Nat.le_of_ble_eq_true rfl) ?_
      exact W.zret (v := 0) hx hb hr rfl (fun t ht9 hW => ⟨⟨0, (), rfl, (by omega), trivial⟩, hS.F ht9⟩) hS.2.2 dX6_isSign_111
    · refine ow_top 48 ((ow_eq _ _).mpr (by rw [h3sw_1]; decide)) ?_
      refine lv_tableIn (tgt := 110) hx hb dX6_isSign_1 (by decide +kernel) (by decide +kernel) rfl (by decide) ?_
      refine lv_iconst (v := 0) hx hb dX6_isSign_110 (by decide) ?_
      refine W.widen (k := 0) (n := 0) (Nat.le_of_ble_eq_true rfl) (Nat.le_of_ble_eq_true rfl) ?_
      exact W.zret (v := 0) hx hb hr rfl (fun t ht9 hW => ⟨⟨0, (), rfl, (by omega), trivial⟩, hS.F ht9⟩) hS.2.2 dX6_isSign_111
    · refine ow_top 49 ((ow_eq _ _).mpr (by rw [h3sw_1]; decide)) ?_
      refine lv_tableIn (tgt := 110) hx hb dX6_isSign_1 (by decide +kernel) (by decide +kernel) rfl (by decide) ?_
      refine lv_iconst (v := 0) hx hb dX6_isSign_110 (by decide) ?_
      refine W.widen (k := 0) (n := 0) (Nat.le_of_ble_eq_true rfl) (Nat.le_of_ble_eq_true rfl) ?_
      exact W.zret (v := 0) hx hb hr rfl (fun t ht9 hW => ⟨⟨0, (), rfl, (by omega), trivial⟩, hS.F ht9⟩) hS.2.2 dX6_isSign_111
    · refine ow_top 50 ((ow_eq _ _).mpr (by rw [h3sw_1]; decide)) ?_
      refine lv_tableIn (tgt := 110) hx hb dX6_isSign_1 (by decide +kernel) (by decide +kernel) rfl (by decide) ?_
      refine lv_iconst (v := 0) hx hb dX6_isSign_110 (by decide) ?_
      refine W.widen (k := 0) (n := 0) (Nat.le_of_ble_eq_true rfl) (Nat.le_of_ble_eq_true rfl) ?_
      exact W.zret (v := 0) hx hb hr rfl (fun t ht9 hW => ⟨⟨0, (), rfl, (by omega), trivial⟩, hS.F ht9⟩) hS.2.2 dX6_isSign_111
    · refine ow_top 51 ((ow_eq _ _).mpr (by rw [h3sw_1]; decide)) ?_
      refine lv_tableIn (tgt := 110) hx hb dX6_isSign_1 (by decide +kernel) (by decide +kernel) rfl (by decide) ?_
      refine lv_iconst (v := 0) hx hb dX6_isSign_110 (by decide) ?_
      refine W.widen (k := 0) (n := 0) (Nat.le_of_ble_eq_true rfl) (Nat.le_of_ble_eq_true rfl) ?_
      exact W.zret (v := 0) hx hb hr rfl (fun t ht9 hW => ⟨⟨0, (), rfl, (by omega), trivial⟩, hS.F ht9⟩) hS.2.2 dX6_isSign_111
    · refine ow_top 52 ((ow_eq _ _).mpr (by rw [h3sw_1]; decide)) ?_
      refine lv_tableIn (tgt := 110) hx hb dX6_isSign_1 (by decide +kernel) (by decide +kernel) rfl (by decide) ?_
      refine lv_iconst (v := 0) hx hb dX6_isSign_110 (by decide) ?_
      refine W.widen (k := 0) (n := 0) (Nat.le_of_ble_eq_true rfl) (Nat.le_of_ble_eq_true rfl) ?_
      exact W.zret (v := 0) hx hb hr rfl (fun t ht9 hW => ⟨⟨0, (), rfl, (by omega), trivial⟩, hS.F ht9⟩) hS.2.2 dX6_isSign_111
    · refine ow_top 53 ((ow_eq _ _).mpr (by rw [h3sw_1]; decide)) ?_
      refine lv_tableIn (tgt := 110) hx hb dX6_isSign_1 (by decide +kernel) (by decide +kernel) rfl (by decide) ?_
      refine lv_iconst (v := 0) hx hb dX6_isSign_110 (by decide) ?_
      refine W.widen (k := 0) (n := 0) (Nat.le_of_ble_eq_true rfl) (Nat.le_of_ble_eq_true rfl) ?_
      exact W.zret (v := 0) hx hb hr rfl (fun t ht9 hW => ⟨⟨0, (), rfl, (by omega), trivial⟩, hS.F ht9⟩) hS.2.2 dX6_isSign_111
    · refine ow_top 54 ((ow_eq _ _).mpr (by rw [h3sw_1]; decide)) ?_
      refine lv_tableIn (tgt := 110) hx hb dX6_isSign_1 (by decide +kernel) (by decide +kernel) rfl (by decide) ?_
      refine lv_iconst (v := 0) hx hb dX6_isSign_110 (by decide) ?_
      refine W.widen (k := 0) (n := 0) (Nat.le_of_ble_eq_true rfl) (Nat.le_of_ble_eq_true rfl) ?_
      exact W.zret (v := 0) hx hb hr rfl (fun t ht9 hW => ⟨⟨0, (), rfl, (by omega), trivial⟩, hS.F ht9⟩) hS.2.2 dX6_isSign_111
    · refine ow_top 55 ((ow_eq _ _).mpr (by rw [h3sw_1]; decide)) ?_
      refine lv_tableIn (tgt := 110) hx hb dX6_isSign_1 (by decide +kernel) (by decide +kernel) rfl (by decide) ?_
      refine lv_iconst (v := 0) hx hb dX6_isSign_110 (by decide) ?_
      refine W.widen (k := 0) (n := 0) (Nat.le_of_ble_eq_true rfl) (Nat.le_of_ble_eq_true rfl) ?_
      exact W.zret (v := 0) hx hb hr rfl (fun t ht9 hW => ⟨⟨0, (), rfl, (by omega), trivial⟩, hS.F ht9⟩) hS.2.2 dX6_isSign_111
    · refine ow_top 56 ((ow_eq _ _).mpr (by rw [h3sw_1]; decide)) ?_
      refine lv_tableIn (tgt := 110) hx hb dX6_isSign_1 (by decide +kernel) (by decide +kernel) rfl (by decide) ?_
      refine lv_iconst (v := 0) hx hb dX6_isSign_110 (by decide) ?_
      refine W.widen (k := 0) (n := 0) (Nat.le_of_ble_eq_true rfl) (Nat.le_of_ble_eq_true rfl) ?_
      exact W.zret (v := 0) hx hb hr rfl (fun t ht9 hW => ⟨⟨0, (), rfl, (by omega), trivial⟩, hS.F ht9⟩) hS.2.2 dX6_isSign_111
    · refine ow_top 57 ((ow_eq _ _).mpr (by rw [h3sw_1]; decide)) ?_
      refine lv_tableIn (tgt := 110) hx hb dX6_isSign_1 (by decide +kernel) (by decide +kernel) rfl (by decide) ?_
      refine lv_iconst (v := 0) hx hb dX6_isSign_110 (by decide) ?_
      refine W.widen (k := 0) (n := 0) (Nat.le_of_ble_eq_true rfl) (Nat.le_of_ble_eq_true rfl) ?_
      exact W.zret (v := 0) hx hb hr rfl (fun t ht9 hW => ⟨⟨0, (), rfl, (by omega), trivial⟩, hS.F ht9⟩) hS.2.2 dX6_isSign_111
    · refine ow_top 58 ((ow_eq _ _).mpr (by rw [h3sw_1]; decide)) ?_
      refine lv_tableIn (tgt := 110) hx hb dX6_isSign_1 (by decide +kernel) (by decide +kernel) rfl (by decide) ?_
      refine lv_iconst (v := 0) hx hb dX6_isSign_110 (by decide) ?_
      refine W.widen (k := 0) (n := 0) (Nat.le_of_ble_eq_true rfl) (Nat.le_of_ble_eq_true rfl) ?_
      exact W.zret (v := 0) hx hb hr rfl (fun t ht9 hW => ⟨⟨0, (), rfl, (by omega), trivial⟩, hS.F ht9⟩) hS.2.2 dX6_isSign_111
    · refine ow_top 59 ((ow_eq _ _).mpr (by rw [h3sw_1]; decide)) ?_
      refine lv_tableIn (tgt := 108) hx hb dX6_isSign_1 (by decide +kernel) (by decide +kernel) rfl (by decide) ?_
      refine lv_iconst (v := 1) hx hb dX6_isSign_108 (by decide) ?_
      refine W.widen (k := 0) (n := 0) (Nat.le_of_ble_eq_true rfl) (Nat.le_of_ble_eq_true rfl) ?_
      exact W.zret (v := 1) hx hb hr rfl (fun t ht9 hW => ⟨⟨1, (), rfl, (by omega), trivial⟩, hS.F ht9⟩) hS.2.2 dX6_isSign_109
    · refine ow_top 60 ((ow_eq _ _).mpr (by rw [h3sw_1]; decide)) ?_
      refine lv_tableIn (tgt := 108) hx hb dX6_isSign_1 (by decide +kernel) (by decide +kernel) rfl (by decide) ?_
      refine lv_iconst (v := 1) hx hb dX6_isSign_108 (by decide) ?_
      refine W.widen (k := 0) (n := 0) (Nat.le_of_ble_eq_true rfl) (Nat.le_of_ble_eq_true rfl) ?_
      exact W.zret (v := 1) hx hb hr rfl (fun t ht9 hW => ⟨⟨1, (), rfl, (by omega), trivial⟩, hS.F ht9⟩) hS.2.2 dX6_isSign_109
    · refine ow_top 61 ((ow_eq _ _).mpr (by rw [h3sw_1]; decide)) ?_
      refine lv_tableIn (tgt := 108) hx hb dX6_isSign_1 (by decide +kernel) (by decide +kernel) rfl (by decide) ?_
      refine lv_iconst (v := 1) hx hb dX6_isSign_108 (by decide) ?_
      refine W.widen (k := 0) (n := 0) (Nat.le_of_ble_eq_true rfl) (Nat.le_of_ble_eq_true rfl) ?_
      exact W.zret (v := 1) hx hb hr rfl (fun t ht9 hW => ⟨⟨1, (), rfl, (by omega), trivial⟩, hS.F ht9⟩) hS.2.2 dX6_isSign_109
    · refine ow_top 62 ((ow_eq _ _).mpr (by rw [h3sw_1]; decide)) ?_
      refine lv_tableIn (tgt := 108) hx hb dX6_isSign_1 (by decide +kernel) (by decide +kernel) rfl (by decide) ?_
      refine lv_iconst (v := 1) hx hb dX6_isSign_108 (by decide) ?_
      refine W.widen (k := 0) (n := 0) (Nat.le_of_ble_eq_true rfl) (Nat.le_of_ble_eq_true rfl) ?_
      exact W.zret (v := 1) hx hb hr rfl (fun t ht9 hW => ⟨⟨1, (), rfl, (by omega), trivial⟩, hS.F ht9⟩) hS.2.2 dX6_isSign_109
set_option maxHeartbeats 4000000 in
set_option maxRecDepth 100000 in
theorem c_join (l : Launch) (G : va_G) (cy : Nat → ClassId) (sz : Nat)  (n : Int32) (n2 : Int32) (n3 : Int32)   : Met l yX5_join (.code yX5_join cX5_join 3 (some .int) :: TBg) ({ frames := 1, cells := 0, slots := 0, locals := 64 }) (va_Pc [.int n, .int n2, .int n3] (En G cy [] sz)) (va_Qi (fun (r : Int32) (_ : Unit) => True) (fun _ _ => True) (va_A [] sz)) 0 0 (va_A [] sz) := by
  refine Met.ofW (cc := cX5_join) (maxL := 3) (ret := (some .int)) (by decide) rfl ?_
  intro p e s m args below meth c s₁ B9 hml hv9
  obtain ⟨rfl, hsz, hP, hK, hD0, hN⟩ := hv9
  have hx := B9.exec
  have hb := B9.bytes
  have hr := B9.returns
  have hts := atoms_spec (ws := .code yX5_join cX5_join 3 (some .int) :: TBg) B9.pre
  have ht : ∀ w ∈ TBg, w.before _ s = true := fun w h => hts w (List.mem_cons_of_mem _ h)
  have hown : s.vm.findClass RX5 = some m.cls := findClass_of_methodNamed B9.named
  have hlocks := B9.notSynchronized
  subst hsz
  generalize hAe : va_A [] s.heap.size = A at ⊢
  have hA : ∀ q : Nat, s.heap.size ≤ q → A q := fun q h => by rw [← hAe]; exact Or.inr h
  have hS : va_S A s.heap s.heap [] := va_S.rf
  have hl := lv_entry ([.int n, .int n2, .int n3]) (n := 3) (Nat.le_of_ble_eq_true rfl)
  rw [lg_entry_eq]
  generalize (lg_sl ([.int n, .int n2, .int n3]) ++ List.replicate (3 - (lg_sl ([.int n, .int n2, .int n3])).length) Slot.unset).toArray = ls at hl ⊢
  have hl : lv_has ls 3 [(0, .int n), (1, .int n2), (2, .int n3)] := hl
  have z0 : (0 : Int32).toInt = 0 := by decide
  have z1 : (1 : Int32).toInt = 1 := by decide
  refine lv_iload_n hx hb dX5_join_0 rfl (lv_at hl 0 rfl) ?_
  by_cases k_1 : n = 7
  · refine ow_top 7 k_1 ?_
    refine lv_lookup (off := 100) (tgt := 101) hx hb dX5_join_1 (by decide) (by decide +kernel) (by decide) ?_
    refine lv_iload_n hx hb dX5_join_101 rfl (lv_at hl 1 rfl) ?_
    refine lv_if_eq (tgt := 113) hx hb dX5_join_102 (by decide) (fun c_2 => ?_) (fun c_2 => ?_)
    · have q_3 : n2.toInt = (0 : Int32).toInt := (ow_eq _ _).mp c_2
      refine lv_iconst (v := 0) hx hb dX5_join_113 (by decide) ?_
      refine W.widen (k := 0) (n := 0) (Nat.le_of_ble_eq_true rfl) (Nat.le_of_ble_eq_true rfl) ?_
      exact W.iret (v := 0) hx hb hr (fun t ht9 hW => ⟨⟨0, (), rfl, trivial, trivial⟩, hS.F ht9⟩) hS.2.2 dX5_join_114
    · have q_4 : ¬ n2.toInt = (0 : Int32).toInt := by have := (not_congr (ow_eq _ _)).mp c_2; omega
      refine lv_iload_n hx hb dX5_join_105 rfl (lv_at hl 2 rfl) ?_
      refine lv_if_eq (tgt := 113) hx hb dX5_join_106 (by decide) (fun c_5 => ?_) (fun c_5 => ?_)
      · have q_6 : n3.toInt = (0 : Int32).toInt := (ow_eq _ _).mp c_5
        refine lv_iconst (v := 0) hx hb dX5_join_113 (by decide) ?_
        refine W.widen (k := 0) (n := 0) (Nat.le_of_ble_eq_true rfl) (Nat.le_of_ble_eq_true rfl) ?_
        exact W.iret (v := 0) hx hb hr (fun t ht9 hW => ⟨⟨0, (), rfl, trivial, trivial⟩, hS.F ht9⟩) hS.2.2 dX5_join_114
      · have q_7 : ¬ n3.toInt = (0 : Int32).toInt := by have := (not_congr (ow_eq _ _)).mp c_5; omega
        refine lv_iconst (v := 1) hx hb dX5_join_109 (by decide) ?_
        refine lv_goto (tgt := 114) hx hb dX5_join_110 (by decide) ?_
        refine W.widen (k := 0) (n := 0) (Nat.le_of_ble_eq_true rfl) (Nat.le_of_ble_eq_true rfl) ?_
        exact W.iret (v := 1) hx hb hr (fun t ht9 hW => ⟨⟨1, (), rfl, trivial, trivial⟩, hS.F ht9⟩) hS.2.2 dX5_join_114
  by_cases k_8 : n = 43
  · refine ow_top 43 k_8 ?_
    refine lv_lookup (off := 59) (tgt := 60) hx hb dX5_join_1 (by decide) (by decide +kernel) (by decide) ?_
    refine lv_iload_n hx hb dX5_join_60 rfl (lv_at hl 1 rfl) ?_
    refine lv_iload_n hx hb dX5_join_61 rfl (lv_at hl 2 rfl) ?_
    refine lv_iadd hx hb dX5_join_62 ?_
    refine lv_topi (fun v_9 ev_9 => ?_)
    refine W.widen (k := 0) (n := 0) (Nat.le_of_ble_eq_true rfl) (Nat.le_of_ble_eq_true rfl) ?_
    exact W.iret (v := v_9) hx hb hr (fun t ht9 hW => ⟨⟨v_9, (), rfl, trivial, trivial⟩, hS.F ht9⟩) hS.2.2 dX5_join_63
  by_cases k_10 : n = 45
  · refine ow_top 45 k_10 ?_
    refine lv_lookup (off := 63) (tgt := 64) hx hb dX5_join_1 (by decide) (by decide +kernel) (by decide) ?_
    refine lv_iload_n hx hb dX5_join_64 rfl (lv_at hl 1 rfl) ?_
    refine lv_iload_n hx hb dX5_join_65 rfl (lv_at hl 2 rfl) ?_
    refine lv_isub hx hb dX5_join_66 ?_
    refine lv_topi (fun v_11 ev_11 => ?_)
    refine W.widen (k := 0) (n := 0) (Nat.le_of_ble_eq_true rfl) (Nat.le_of_ble_eq_true rfl) ?_
    exact W.iret (v := v_11) hx hb hr (fun t ht9 hW => ⟨⟨v_11, (), rfl, trivial, trivial⟩, hS.F ht9⟩) hS.2.2 dX5_join_67
  by_cases k_12 : n = 60
  · refine ow_top 60 k_12 ?_
    refine lv_lookup (off := 67) (tgt := 68) hx hb dX5_join_1 (by decide) (by decide +kernel) (by decide) ?_
    refine lv_iload_n hx hb dX5_join_68 rfl (lv_at hl 1 rfl) ?_
    refine lv_iload_n hx hb dX5_join_69 rfl (lv_at hl 2 rfl) ?_
    refine lv_icmp_ge (tgt := 77) hx hb dX5_join_70 (by decide) (fun c_13 => ?_) (fun c_13 => ?_)
    · have q_14 : n3.toInt ≤ n2.toInt := (ow_le _ _).mp c_13
      refine lv_iconst (v := 0) hx hb dX5_join_77 (by decide) ?_
      refine W.widen (k := 0) (n := 0) (Nat.le_of_ble_eq_true rfl) (Nat.le_of_ble_eq_true rfl) ?_
      exact W.iret (v := 0) hx hb hr (fun t ht9 hW => ⟨⟨0, (), rfl, trivial, trivial⟩, hS.F ht9⟩) hS.2.2 dX5_join_78
    · have q_15 : n2.toInt < n3.toInt := by have := (not_congr (ow_le _ _)).mp c_13; omega
      refine lv_iconst (v := 1) hx hb dX5_join_73 (by decide) ?_
      refine lv_goto (tgt := 78) hx hb dX5_join_74 (by decide) ?_
      refine W.widen (k := 0) (n := 0) (Nat.le_of_ble_eq_true rfl) (Nat.le_of_ble_eq_true rfl) ?_
      exact W.iret (v := 1) hx hb hr (fun t ht9 hW => ⟨⟨1, (), rfl, trivial, trivial⟩, hS.F ht9⟩) hS.2.2 dX5_join_78
  by_cases k_16 : n = 61
  · refine ow_top 61 k_16 ?_
    refine lv_lookup (off := 89) (tgt := 90) hx hb dX5_join_1 (by decide) (by decide +kernel) (by decide) ?_
    refine lv_iload_n hx hb dX5_join_90 rfl (lv_at hl 1 rfl) ?_
    refine lv_iload_n hx hb dX5_join_91 rfl (lv_at hl 2 rfl) ?_
    refine lv_icmp_ne (tgt := 99) hx hb dX5_join_92 (by decide) (fun c_17 => ?_) (fun c_17 => ?_)
    · have q_18 : ¬ n2.toInt = n3.toInt := by have := (not_congr (ow_eq _ _)).mp c_17; omega
      refine lv_iconst (v := 0) hx hb dX5_join_99 (by decide) ?_
      refine W.widen (k := 0) (n := 0) (Nat.le_of_ble_eq_true rfl) (Nat.le_of_ble_eq_true rfl) ?_
      exact W.iret (v := 0) hx hb hr (fun t ht9 hW => ⟨⟨0, (), rfl, trivial, trivial⟩, hS.F ht9⟩) hS.2.2 dX5_join_100
    · have q_19 : n2.toInt = n3.toInt := (ow_eq _ _).mp c_17
      refine lv_iconst (v := 1) hx hb dX5_join_95 (by decide) ?_
      refine lv_goto (tgt := 100) hx hb dX5_join_96 (by decide) ?_
      refine W.widen (k := 0) (n := 0) (Nat.le_of_ble_eq_true rfl) (Nat.le_of_ble_eq_true rfl) ?_
      exact W.iret (v := 1) hx hb hr (fun t ht9 hW => ⟨⟨1, (), rfl, trivial, trivial⟩, hS.F ht9⟩) hS.2.2 dX5_join_100
  by_cases k_20 : n = 62
  · refine ow_top 62 k_20 ?_
    refine lv_lookup (off := 78) (tgt := 79) hx hb dX5_join_1 (by decide) (by decide +kernel) (by decide) ?_
    refine lv_iload_n hx hb dX5_join_79 rfl (lv_at hl 1 rfl) ?_
    refine lv_iload_n hx hb dX5_join_80 rfl (lv_at hl 2 rfl) ?_
    refine lv_icmp_le (tgt := 88) hx hb dX5_join_81 (by decide) (fun c_21 => ?_) (fun c_21 => ?_)
    · have q_22 : n2.toInt ≤ n3.toInt := (ow_le _ _).mp c_21
      refine lv_iconst (v := 0) hx hb dX5_join_88 (by decide) ?_
      refine W.widen (k := 0) (n := 0) (Nat.le_of_ble_eq_true rfl) (Nat.le_of_ble_eq_true rfl) ?_
      exact W.iret (v := 0) hx hb hr (fun t ht9 hW => ⟨⟨0, (), rfl, trivial, trivial⟩, hS.F ht9⟩) hS.2.2 dX5_join_89
    · have q_23 : n3.toInt < n2.toInt := by have := (not_congr (ow_le _ _)).mp c_21; omega
      refine lv_iconst (v := 1) hx hb dX5_join_84 (by decide) ?_
      refine lv_goto (tgt := 89) hx hb dX5_join_85 (by decide) ?_
      refine W.widen (k := 0) (n := 0) (Nat.le_of_ble_eq_true rfl) (Nat.le_of_ble_eq_true rfl) ?_
      exact W.iret (v := 1) hx hb hr (fun t ht9 hW => ⟨⟨1, (), rfl, trivial, trivial⟩, hS.F ht9⟩) hS.2.2 dX5_join_89
  refine lv_lookup (off := 114) (tgt := 115) hx hb dX5_join_1 (by decide) (by show Op.lookupswitch.offset [(7, 100), (43, 59), (45, 63), (60, 67), (61, 89), (62, 78)] 114 _ = _; rw [lv_osw (a := 7) k_1 (by decide), lv_osw (a := 43) k_8 (by decide), lv_osw (a := 45) k_10 (by decide), lv_osw (a := 60) k_12 (by decide), lv_osw (a := 61) k_16 (by decide), lv_osw (a := 62) k_20 (by decide)]; rfl) (by decide) ?_
  refine lv_iload_n hx hb dX5_join_115 rfl (lv_at hl 1 rfl) ?_
  refine lv_if_ne (tgt := 123) hx hb dX5_join_116 (by decide) (fun c_24 => ?_) (fun c_24 => ?_)
  · have q_25 : ¬ n2.toInt = (0 : Int32).toInt := by have := (not_congr (ow_eq _ _)).mp c_24; omega
    refine lv_iconst (v := 1) hx hb dX5_join_123 (by decide) ?_
    refine lv_goto (tgt := 128) hx hb dX5_join_124 (by decide) ?_
    refine W.widen (k := 0) (n := 0) (Nat.le_of_ble_eq_true rfl) (Nat.le_of_ble_eq_true rfl) ?_
    exact W.iret (v := 1) hx hb hr (fun t ht9 hW => ⟨⟨1, (), rfl, trivial, trivial⟩, hS.F ht9⟩) hS.2.2 dX5_join_128
  · have q_26 : n2.toInt = (0 : Int32).toInt := (ow_eq _ _).mp c_24
    refine lv_iload_n hx hb dX5_join_119 rfl (lv_at hl 2 rfl) ?_
    refine lv_if_eq (tgt := 127) hx hb dX5_join_120 (by decide) (fun c_27 => ?_) (fun c_27 => ?_)
    · have q_28 : n3.toInt = (0 : Int32).toInt := (ow_eq _ _).mp c_27
      refine lv_iconst (v := 0) hx hb dX5_join_127 (by decide) ?_
      refine W.widen (k := 0) (n := 0) (Nat.le_of_ble_eq_true rfl) (Nat.le_of_ble_eq_true rfl) ?_
      exact W.iret (v := 0) hx hb hr (fun t ht9 hW => ⟨⟨0, (), rfl, trivial, trivial⟩, hS.F ht9⟩) hS.2.2 dX5_join_128
    · have q_29 : ¬ n3.toInt = (0 : Int32).toInt := by have := (not_congr (ow_eq _ _)).mp c_27; omega
      refine lv_iconst (v := 1) hx hb dX5_join_123 (by decide) ?_
      refine lv_goto (tgt := 128) hx hb dX5_join_124 (by decide) ?_
      refine W.widen (k := 0) (n := 0) (Nat.le_of_ble_eq_true rfl) (Nat.le_of_ble_eq_true rfl) ?_
      exact W.iret (v := 1) hx hb hr (fun t ht9 hW => ⟨⟨1, (), rfl, trivial, trivial⟩, hS.F ht9⟩) hS.2.2 dX5_join_128
set_option maxHeartbeats 4000000 in
set_option maxRecDepth 100000 in
theorem c_add2 (l : Launch) (G : va_G) (cy : Nat → ClassId) (sz : Nat) (L : List Nat) (K : Nat → Nat) (R : Nat → Nat → Nat) (T : Int) (I E : Nat → Nat → Int32) (J B : Nat → Nat → Int64) (this : Nat) (n : Int32) (n2 : Int32) (hRT : RT L K R) (hI : IV T L K I) (hE : EV L K E) (hthis1 : this ∈ L) (hthis2 : K this = 2) : Met l yX8_add (.code yX8_add cX8_add 3 none :: TBg) ({ frames := 1, cells := 0, slots := 0, locals := 64 }) (va_Pc [.ref this, .int n, .int n2] (En G cy (WC cy L K R I J E B) sz)) (va_Qv (fun (u : (Nat → Nat → Int32) × (Nat → Nat → Int64) × (Nat → Nat → Int32) × (Nat → Nat → Int64)) => IV T L K u.1 ∧ EV L K u.2.2.1 ∧ FI [(2, 2)] K I u.1 ∧ (True)) (fun u t => Ex G (va_A (WC cy L K R I J E B) sz) (WC cy L K R u.1 u.2.1 u.2.2.1 u.2.2.2) t) (va_A (WC cy L K R I J E B) sz)) 0 0 (va_A (WC cy L K R I J E B) sz) := by
  have hthis : this ∈ L ∧ K this = 2 := ⟨hthis1, hthis2⟩
  refine Met.ofW (cc := cX8_add) (maxL := 3) (ret := none) (by decide) rfl ?_
  intro p e s m args below meth c s₁ B9 hml hv9
  obtain ⟨rfl, hsz, hP, hK, hD0, hN⟩ := hv9
  have hx := B9.exec
  have hb := B9.bytes
  have hr := B9.returns
  have hts := atoms_spec (ws := .code yX8_add cX8_add 3 none :: TBg) B9.pre
  have ht : ∀ w ∈ TBg, w.before _ s = true := fun w h => hts w (List.mem_cons_of_mem _ h)
  have hown : s.vm.findClass RX8 = some m.cls := findClass_of_methodNamed B9.named
  have hlocks := B9.notSynchronized
  subst hsz
  have hD := hD0.self (sz := s.heap.size)
  generalize hAe : va_A (WC cy L K R I J E B) s.heap.size = A at hD ⊢
  have hA : ∀ q : Nat, s.heap.size ≤ q → A q := fun q h => by rw [← hAe]; exact Or.inr h
  have hS : va_S A s.heap s.heap [] := va_S.rf
  have hl := lv_entry ([.ref this, .int n, .int n2]) (n := 3) (Nat.le_of_ble_eq_true rfl)
  rw [lg_entry_eq]
  generalize (lg_sl ([.ref this, .int n, .int n2]) ++ List.replicate (3 - (lg_sl ([.ref this, .int n, .int n2])).length) Slot.unset).toArray = ls at hl ⊢
  have hl : lv_has ls 3 [(0, .ref this), (1, .int n), (2, .int n2)] := hl
  have z0 : (1 : Int32).toInt = 1 := by decide
  have z1 : (12 : Int32).toInt = 12 := by decide
  have hC_0 : FI [(2, 2)] K I I := FI.rf
  refine lv_aload_n hx hb dX8_add_0 rfl (lv_at hl 0 rfl) ?_
  refine cg_2_2_8 hx hb ht hown hK hN hP hthis.1 hthis.2 dX8_add_1 ?_
  have q_1 : 0 ≤ (I this 2).toInt ∧ (I this 2).toInt ≤ 12 := IV.rd hI hthis.1 hthis.2 2
  refine lv_aload_n hx hb dX8_add_4 rfl (lv_at hl 0 rfl) ?_
  refine cg_2_0_8 hx hb ht hown hK hN hP hthis.1 hthis.2 dX8_add_5 ?_
  have hm_2 : (R this 0) ∈ L ∧ K (R this 0) = 21 := RT.o hRT hthis.1 hthis.2 0 (by decide)
  refine cn_21 hx hb hK hP hm_2.1 hm_2.2 dX8_add_8 ?_
  refine lv_icmp_ge (tgt := 42) hx hb dX8_add_9 (by decide) (fun c_3 => ?_) (fun c_3 => ?_)
  · have q_4 : (12 : Int32).toInt ≤ (I this 2).toInt := (ow_le _ _).mp c_3
    refine W.widen (k := 0) (n := 0) (Nat.le_of_ble_eq_true rfl) (Nat.le_of_ble_eq_true rfl) ?_
    exact W.vret hx hb hr (fun t ht9 hW => ⟨⟨(I, J, E, B), rfl, ⟨hI, hE, hC_0, trivial⟩, ⟨by rw [ht9]; exact hP, hD⟩⟩, hS.F ht9⟩) hS.2.2 dX8_add_42
  · have q_5 : (I this 2).toInt < (12 : Int32).toInt := by have := (not_congr (ow_le _ _)).mp c_3; omega
    refine lv_aload_n hx hb dX8_add_12 rfl (lv_at hl 0 rfl) ?_
    refine cg_2_0_8 hx hb ht hown hK hN hP hthis.1 hthis.2 dX8_add_13 ?_
    refine lv_aload_n hx hb dX8_add_16 rfl (lv_at hl 0 rfl) ?_
    refine cg_2_2_8 hx hb ht hown hK hN hP hthis.1 hthis.2 dX8_add_17 ?_
    refine lv_iload_n hx hb dX8_add_20 rfl (lv_at hl 1 rfl) ?_
    have q_6 : vp_in (I this 2) 12 := vp_in_iff.mpr ⟨by omega, by omega⟩
    refine cs_21 hx hb hK hP hD hS hm_2.1 hm_2.2 q_6 dX8_add_21 (fun H locs hP hD hS => ?_)
    replace hE := EV.up hE hm_2.2 (i := (Int32.toNatClampNeg (I this 2))) (ow_any n)
    generalize (va_up E (R this 0) (upd (E (R this 0)) (Int32.toNatClampNeg (I this 2)) n)) = E_7 at hP hD hE
    refine lv_aload_n hx hb dX8_add_22 rfl (lv_at hl 0 rfl) ?_
    refine cg_2_1_8 hx hb ht hown hK hN hP hthis.1 hthis.2 dX8_add_23 ?_
    have hm_8 : (R this 1) ∈ L ∧ K (R this 1) = 22 := RT.o hRT hthis.1 hthis.2 1 (by decide)
    refine lv_aload_n hx hb dX8_add_26 rfl (lv_at hl 0 rfl) ?_
    refine cg_2_2_8 hx hb ht hown hK hN hP hthis.1 hthis.2 dX8_add_27 ?_
    refine lv_iload_n hx hb dX8_add_30 rfl (lv_at hl 2 rfl) ?_
    have q_9 : vp_in (I this 2) 12 := vp_in_iff.mpr ⟨by omega, by omega⟩
    refine cs_22 hx hb hK hP hD hS hm_8.1 hm_8.2 q_9 dX8_add_31 (fun H locs hP hD hS => ?_)
    replace hE := EV.up hE hm_8.2 (i := (Int32.toNatClampNeg (I this 2))) (ow_any n2)
    generalize (va_up E_7 (R this 1) (upd (E_7 (R this 1)) (Int32.toNatClampNeg (I this 2)) n2)) = E_10 at hP hD hE
    refine lv_aload_n hx hb dX8_add_32 rfl (lv_at hl 0 rfl) ?_
    refine lv_dup hx hb dX8_add_33 rfl ?_
    refine cg_2_2_8 hx hb ht hown hK hN hP hthis.1 hthis.2 dX8_add_34 ?_
    refine lv_iconst (v := 1) hx hb dX8_add_37 (by decide) ?_
    refine lv_iadd hx hb dX8_add_38 ?_
    refine lv_topi (fun v_11 ev_11 => ?_)
    have q_12 : v_11.toInt = (I this 2).toInt + (1 : Int32).toInt := ow_add ev_11 (by omega) (by omega)
    refine cp_2_2_8 hx hb ht hown hK hN hP hD hS hthis.1 hthis.2 dX8_add_39 (fun H locs hP hD hS => ?_)
    replace hI := IV.up hI hthis.2 2 (show 0 ≤ v_11.toInt ∧ v_11.toInt ≤ 12 from by omega)
    have f_13 : FI [(2, 2)] K I (va_up I this (va_up (I this) 2 v_11)) := FI.up hthis.2 2 v_11
    have e_14 : (va_up I this (va_up (I this) 2 v_11)) this 2 = v_11 := FI.at I this 2 v_11
    replace hC_0 := FI.tr hC_0 f_13 (by decide)
    generalize (va_up I this (va_up (I this) 2 v_11)) = I_15 at hP hD hI f_13 e_14 hC_0
    refine W.widen (k := 0) (n := 0) (Nat.le_of_ble_eq_true rfl) (Nat.le_of_ble_eq_true rfl) ?_
    exact W.vret hx hb hr (fun t ht9 hW => ⟨⟨(I_15, J, E_10, B), rfl, ⟨hI, hE, hC_0, trivial⟩, ⟨by rw [ht9]; exact hP, hD⟩⟩, hS.F ht9⟩) hS.2.2 dX8_add_42
set_option maxHeartbeats 4000000 in
set_option maxRecDepth 100000 in
theorem c_rise2 (l : Launch) (G : va_G) (cy : Nat → ClassId) (sz : Nat) (L : List Nat) (K : Nat → Nat) (R : Nat → Nat → Nat) (T : Int) (I E : Nat → Nat → Int32) (J B : Nat → Nat → Int64) (this : Nat) (n : Int32) (hRT : RT L K R) (hI : IV T L K I) (hE : EV L K E) (hthis1 : this ∈ L) (hthis2 : K this = 2) : Met l yX8_riseTo (.code yX8_riseTo cX8_riseTo 2 (some .int) :: TBg) ({ frames := 1, cells := 0, slots := 0, locals := 64 }) (va_Pc [.ref this, .int n] (En G cy (WC cy L K R I J E B) sz)) (va_Qi (fun (r : Int32) (_ : Unit) => True) (fun _ _ => True) (va_A [] sz)) 0 0 (va_A [] sz) := by
  have hthis : this ∈ L ∧ K this = 2 := ⟨hthis1, hthis2⟩
  refine Met.ofW (cc := cX8_riseTo) (maxL := 2) (ret := (some .int)) (by decide) rfl ?_
  intro p e s m args below meth c s₁ B9 hml hv9
  obtain ⟨rfl, hsz, hP, hK, hD0, hN⟩ := hv9
  have hx := B9.exec
  have hb := B9.bytes
  have hr := B9.returns
  have hts := atoms_spec (ws := .code yX8_riseTo cX8_riseTo 2 (some .int) :: TBg) B9.pre
  have ht : ∀ w ∈ TBg, w.before _ s = true := fun w h => hts w (List.mem_cons_of_mem _ h)
  have hown : s.vm.findClass RX8 = some m.cls := findClass_of_methodNamed B9.named
  have hlocks := B9.notSynchronized
  subst hsz
  generalize hAe : va_A [] s.heap.size = A at ⊢
  have hA : ∀ q : Nat, s.heap.size ≤ q → A q := fun q h => by rw [← hAe]; exact Or.inr h
  have hS : va_S A s.heap s.heap [] := va_S.rf
  have hl := lv_entry ([.ref this, .int n]) (n := 2) (Nat.le_of_ble_eq_true rfl)
  rw [lg_entry_eq]
  generalize (lg_sl ([.ref this, .int n]) ++ List.replicate (2 - (lg_sl ([.ref this, .int n])).length) Slot.unset).toArray = ls at hl ⊢
  have hl : lv_has ls 2 [(0, .ref this), (1, .int n)] := hl
  have z0 : (0 : Int32).toInt = 0 := by decide
  have z1 : (1 : Int32).toInt = 1 := by decide
  refine lv_iload_n hx hb dX8_riseTo_0 rfl (lv_at hl 1 rfl) ?_
  refine lv_iconst (v := 1) hx hb dX8_riseTo_1 (by decide) ?_
  refine lv_icmp_lt (tgt := 13) hx hb dX8_riseTo_2 (by decide) (fun c_1 => ?_) (fun c_1 => ?_)
  · have q_2 : n.toInt < (1 : Int32).toInt := (ow_lt _ _).mp c_1
    refine lv_iconst (v := 0) hx hb dX8_riseTo_13 (by decide) ?_
    refine lv_goto (tgt := 32) hx hb dX8_riseTo_14 (by decide) ?_
    refine W.widen (k := 0) (n := 0) (Nat.le_of_ble_eq_true rfl) (Nat.le_of_ble_eq_true rfl) ?_
    exact W.iret (v := 0) hx hb hr (fun t ht9 hW => ⟨⟨0, (), rfl, trivial, trivial⟩, hS.F ht9⟩) hS.2.2 dX8_riseTo_32
  · have q_3 : (1 : Int32).toInt ≤ n.toInt := by have := (not_congr (ow_lt _ _)).mp c_1; omega
    refine lv_iload_n hx hb dX8_riseTo_5 rfl (lv_at hl 1 rfl) ?_
    refine lv_aload_n hx hb dX8_riseTo_6 rfl (lv_at hl 0 rfl) ?_
    refine cg_2_2_8 hx hb ht hown hK hN hP hthis.1 hthis.2 dX8_riseTo_7 ?_
    have q_4 : 0 ≤ (I this 2).toInt ∧ (I this 2).toInt ≤ 12 := IV.rd hI hthis.1 hthis.2 2
    refine lv_icmp_lt (tgt := 17) hx hb dX8_riseTo_10 (by decide) (fun c_5 => ?_) (fun c_5 => ?_)
    · have q_6 : n.toInt < (I this 2).toInt := (ow_lt _ _).mp c_5
      refine lv_aload_n hx hb dX8_riseTo_17 rfl (lv_at hl 0 rfl) ?_
      refine cg_2_0_8 hx hb ht hown hK hN hP hthis.1 hthis.2 dX8_riseTo_18 ?_
      have hm_7 : (R this 0) ∈ L ∧ K (R this 0) = 21 := RT.o hRT hthis.1 hthis.2 0 (by decide)
      refine lv_iload_n hx hb dX8_riseTo_21 rfl (lv_at hl 1 rfl) ?_
      have q_8 : vp_in n 12 := vp_in_iff.mpr ⟨by omega, by omega⟩
      refine cl_21 hx hb hK hP hm_7.1 hm_7.2 q_8 dX8_riseTo_22 ?_
      refine lv_topi (fun v_9 ev_9 => ?_)
      refine lv_aload_n hx hb dX8_riseTo_23 rfl (lv_at hl 0 rfl) ?_
      refine cg_2_0_8 hx hb ht hown hK hN hP hthis.1 hthis.2 dX8_riseTo_24 ?_
      refine lv_iload_n hx hb dX8_riseTo_27 rfl (lv_at hl 1 rfl) ?_
      refine lv_iconst (v := 1) hx hb dX8_riseTo_28 (by decide) ?_
      refine lv_isub hx hb dX8_riseTo_29 ?_
      refine lv_topi (fun v_10 ev_10 => ?_)
      have q_11 : v_10.toInt = n.toInt - (1 : Int32).toInt := ow_sub ev_10 (by omega) (by omega)
      have q_12 : vp_in v_10 12 := vp_in_iff.mpr ⟨by omega, by omega⟩
      refine cl_21 hx hb hK hP hm_7.1 hm_7.2 q_12 dX8_riseTo_30 ?_
      refine lv_topi (fun v_13 ev_13 => ?_)
      refine lv_isub hx hb dX8_riseTo_31 ?_
      refine lv_topi (fun v_14 ev_14 => ?_)
      refine W.widen (k := 0) (n := 0) (Nat.le_of_ble_eq_true rfl) (Nat.le_of_ble_eq_true rfl) ?_
      exact W.iret (v := v_14) hx hb hr (fun t ht9 hW => ⟨⟨v_14, (), rfl, trivial, trivial⟩, hS.F ht9⟩) hS.2.2 dX8_riseTo_32
    · have q_15 : (I this 2).toInt ≤ n.toInt := by have := (not_congr (ow_lt _ _)).mp c_5; omega
      refine lv_iconst (v := 0) hx hb dX8_riseTo_13 (by decide) ?_
      refine lv_goto (tgt := 32) hx hb dX8_riseTo_14 (by decide) ?_
      refine W.widen (k := 0) (n := 0) (Nat.le_of_ble_eq_true rfl) (Nat.le_of_ble_eq_true rfl) ?_
      exact W.iret (v := 0) hx hb hr (fun t ht9 hW => ⟨⟨0, (), rfl, trivial, trivial⟩, hS.F ht9⟩) hS.2.2 dX8_riseTo_32
set_option maxHeartbeats 4000000 in
set_option maxRecDepth 100000 in
theorem c_add3 (l : Launch) (G : va_G) (cy : Nat → ClassId) (sz : Nat) (L : List Nat) (K : Nat → Nat) (R : Nat → Nat → Nat) (T : Int) (I E : Nat → Nat → Int32) (J B : Nat → Nat → Int64) (this : Nat) (n : Int32) (n2 : Int32) (hRT : RT L K R) (hI : IV T L K I) (hE : EV L K E) (hthis1 : this ∈ L) (hthis2 : K this = 3) : Met l yX8_add (.code yX8_add cX8_add 3 none :: TBg) ({ frames := 1, cells := 0, slots := 0, locals := 64 }) (va_Pc [.ref this, .int n, .int n2] (En G cy (WC cy L K R I J E B) sz)) (va_Qv (fun (u : (Nat → Nat → Int32) × (Nat → Nat → Int64) × (Nat → Nat → Int32) × (Nat → Nat → Int64)) => IV T L K u.1 ∧ EV L K u.2.2.1 ∧ FI [(3, 2)] K I u.1 ∧ (True)) (fun u t => Ex G (va_A (WC cy L K R I J E B) sz) (WC cy L K R u.1 u.2.1 u.2.2.1 u.2.2.2) t) (va_A (WC cy L K R I J E B) sz)) 0 0 (va_A (WC cy L K R I J E B) sz) := by
  have hthis : this ∈ L ∧ K this = 3 := ⟨hthis1, hthis2⟩
  refine Met.ofW (cc := cX8_add) (maxL := 3) (ret := none) (by decide) rfl ?_
  intro p e s m args below meth c s₁ B9 hml hv9
  obtain ⟨rfl, hsz, hP, hK, hD0, hN⟩ := hv9
  have hx := B9.exec
  have hb := B9.bytes
  have hr := B9.returns
  have hts := atoms_spec (ws := .code yX8_add cX8_add 3 none :: TBg) B9.pre
  have ht : ∀ w ∈ TBg, w.before _ s = true := fun w h => hts w (List.mem_cons_of_mem _ h)
  have hown : s.vm.findClass RX8 = some m.cls := findClass_of_methodNamed B9.named
  have hlocks := B9.notSynchronized
  subst hsz
  have hD := hD0.self (sz := s.heap.size)
  generalize hAe : va_A (WC cy L K R I J E B) s.heap.size = A at hD ⊢
  have hA : ∀ q : Nat, s.heap.size ≤ q → A q := fun q h => by rw [← hAe]; exact Or.inr h
  have hS : va_S A s.heap s.heap [] := va_S.rf
  have hl := lv_entry ([.ref this, .int n, .int n2]) (n := 3) (Nat.le_of_ble_eq_true rfl)
  rw [lg_entry_eq]
  generalize (lg_sl ([.ref this, .int n, .int n2]) ++ List.replicate (3 - (lg_sl ([.ref this, .int n, .int n2])).length) Slot.unset).toArray = ls at hl ⊢
  have hl : lv_has ls 3 [(0, .ref this), (1, .int n), (2, .int n2)] := hl
  have z0 : (1 : Int32).toInt = 1 := by decide
  have z1 : (40 : Int32).toInt = 40 := by decide
  have hC_0 : FI [(3, 2)] K I I := FI.rf
  refine lv_aload_n hx hb dX8_add_0 rfl (lv_at hl 0 rfl) ?_
  refine cg_3_2_8 hx hb ht hown hK hN hP hthis.1 hthis.2 dX8_add_1 ?_
  have q_1 : 0 ≤ (I this 2).toInt ∧ (I this 2).toInt ≤ 40 := IV.rd hI hthis.1 hthis.2 2
  refine lv_aload_n hx hb dX8_add_4 rfl (lv_at hl 0 rfl) ?_
  refine cg_3_0_8 hx hb ht hown hK hN hP hthis.1 hthis.2 dX8_add_5 ?_
  have hm_2 : (R this 0) ∈ L ∧ K (R this 0) = 23 := RT.o hRT hthis.1 hthis.2 0 (by decide)
  refine cn_23 hx hb hK hP hm_2.1 hm_2.2 dX8_add_8 ?_
  refine lv_icmp_ge (tgt := 42) hx hb dX8_add_9 (by decide) (fun c_3 => ?_) (fun c_3 => ?_)
  · have q_4 : (40 : Int32).toInt ≤ (I this 2).toInt := (ow_le _ _).mp c_3
    refine W.widen (k := 0) (n := 0) (Nat.le_of_ble_eq_true rfl) (Nat.le_of_ble_eq_true rfl) ?_
    exact W.vret hx hb hr (fun t ht9 hW => ⟨⟨(I, J, E, B), rfl, ⟨hI, hE, hC_0, trivial⟩, ⟨by rw [ht9]; exact hP, hD⟩⟩, hS.F ht9⟩) hS.2.2 dX8_add_42
  · have q_5 : (I this 2).toInt < (40 : Int32).toInt := by have := (not_congr (ow_le _ _)).mp c_3; omega
    refine lv_aload_n hx hb dX8_add_12 rfl (lv_at hl 0 rfl) ?_
    refine cg_3_0_8 hx hb ht hown hK hN hP hthis.1 hthis.2 dX8_add_13 ?_
    refine lv_aload_n hx hb dX8_add_16 rfl (lv_at hl 0 rfl) ?_
    refine cg_3_2_8 hx hb ht hown hK hN hP hthis.1 hthis.2 dX8_add_17 ?_
    refine lv_iload_n hx hb dX8_add_20 rfl (lv_at hl 1 rfl) ?_
    have q_6 : vp_in (I this 2) 40 := vp_in_iff.mpr ⟨by omega, by omega⟩
    refine cs_23 hx hb hK hP hD hS hm_2.1 hm_2.2 q_6 dX8_add_21 (fun H locs hP hD hS => ?_)
    replace hE := EV.up hE hm_2.2 (i := (Int32.toNatClampNeg (I this 2))) (ow_any n)
    generalize (va_up E (R this 0) (upd (E (R this 0)) (Int32.toNatClampNeg (I this 2)) n)) = E_7 at hP hD hE
    refine lv_aload_n hx hb dX8_add_22 rfl (lv_at hl 0 rfl) ?_
    refine cg_3_1_8 hx hb ht hown hK hN hP hthis.1 hthis.2 dX8_add_23 ?_
    have hm_8 : (R this 1) ∈ L ∧ K (R this 1) = 24 := RT.o hRT hthis.1 hthis.2 1 (by decide)
    refine lv_aload_n hx hb dX8_add_26 rfl (lv_at hl 0 rfl) ?_
    refine cg_3_2_8 hx hb ht hown hK hN hP hthis.1 hthis.2 dX8_add_27 ?_
    refine lv_iload_n hx hb dX8_add_30 rfl (lv_at hl 2 rfl) ?_
    have q_9 : vp_in (I this 2) 40 := vp_in_iff.mpr ⟨by omega, by omega⟩
    refine cs_24 hx hb hK hP hD hS hm_8.1 hm_8.2 q_9 dX8_add_31 (fun H locs hP hD hS => ?_)
    replace hE := EV.up hE hm_8.2 (i := (Int32.toNatClampNeg (I this 2))) (ow_any n2)
    generalize (va_up E_7 (R this 1) (upd (E_7 (R this 1)) (Int32.toNatClampNeg (I this 2)) n2)) = E_10 at hP hD hE
    refine lv_aload_n hx hb dX8_add_32 rfl (lv_at hl 0 rfl) ?_
    refine lv_dup hx hb dX8_add_33 rfl ?_
    refine cg_3_2_8 hx hb ht hown hK hN hP hthis.1 hthis.2 dX8_add_34 ?_
    refine lv_iconst (v := 1) hx hb dX8_add_37 (by decide) ?_
    refine lv_iadd hx hb dX8_add_38 ?_
    refine lv_topi (fun v_11 ev_11 => ?_)
    have q_12 : v_11.toInt = (I this 2).toInt + (1 : Int32).toInt := ow_add ev_11 (by omega) (by omega)
    refine cp_3_2_8 hx hb ht hown hK hN hP hD hS hthis.1 hthis.2 dX8_add_39 (fun H locs hP hD hS => ?_)
    replace hI := IV.up hI hthis.2 2 (show 0 ≤ v_11.toInt ∧ v_11.toInt ≤ 40 from by omega)
    have f_13 : FI [(3, 2)] K I (va_up I this (va_up (I this) 2 v_11)) := FI.up hthis.2 2 v_11
    have e_14 : (va_up I this (va_up (I this) 2 v_11)) this 2 = v_11 := FI.at I this 2 v_11
    replace hC_0 := FI.tr hC_0 f_13 (by decide)
    generalize (va_up I this (va_up (I this) 2 v_11)) = I_15 at hP hD hI f_13 e_14 hC_0
    refine W.widen (k := 0) (n := 0) (Nat.le_of_ble_eq_true rfl) (Nat.le_of_ble_eq_true rfl) ?_
    exact W.vret hx hb hr (fun t ht9 hW => ⟨⟨(I_15, J, E_10, B), rfl, ⟨hI, hE, hC_0, trivial⟩, ⟨by rw [ht9]; exact hP, hD⟩⟩, hS.F ht9⟩) hS.2.2 dX8_add_42
set_option maxHeartbeats 4000000 in
set_option maxRecDepth 100000 in
theorem c_rise3 (l : Launch) (G : va_G) (cy : Nat → ClassId) (sz : Nat) (L : List Nat) (K : Nat → Nat) (R : Nat → Nat → Nat) (T : Int) (I E : Nat → Nat → Int32) (J B : Nat → Nat → Int64) (this : Nat) (n : Int32) (hRT : RT L K R) (hI : IV T L K I) (hE : EV L K E) (hthis1 : this ∈ L) (hthis2 : K this = 3) : Met l yX8_riseTo (.code yX8_riseTo cX8_riseTo 2 (some .int) :: TBg) ({ frames := 1, cells := 0, slots := 0, locals := 64 }) (va_Pc [.ref this, .int n] (En G cy (WC cy L K R I J E B) sz)) (va_Qi (fun (r : Int32) (_ : Unit) => True) (fun _ _ => True) (va_A [] sz)) 0 0 (va_A [] sz) := by
  have hthis : this ∈ L ∧ K this = 3 := ⟨hthis1, hthis2⟩
  refine Met.ofW (cc := cX8_riseTo) (maxL := 2) (ret := (some .int)) (by decide) rfl ?_
  intro p e s m args below meth c s₁ B9 hml hv9
  obtain ⟨rfl, hsz, hP, hK, hD0, hN⟩ := hv9
  have hx := B9.exec
  have hb := B9.bytes
  have hr := B9.returns
  have hts := atoms_spec (ws := .code yX8_riseTo cX8_riseTo 2 (some .int) :: TBg) B9.pre
  have ht : ∀ w ∈ TBg, w.before _ s = true := fun w h => hts w (List.mem_cons_of_mem _ h)
  have hown : s.vm.findClass RX8 = some m.cls := findClass_of_methodNamed B9.named
  have hlocks := B9.notSynchronized
  subst hsz
  generalize hAe : va_A [] s.heap.size = A at ⊢
  have hA : ∀ q : Nat, s.heap.size ≤ q → A q := fun q h => by rw [← hAe]; exact Or.inr h
  have hS : va_S A s.heap s.heap [] := va_S.rf
  have hl := lv_entry ([.ref this, .int n]) (n := 2) (Nat.le_of_ble_eq_true rfl)
  rw [lg_entry_eq]
  generalize (lg_sl ([.ref this, .int n]) ++ List.replicate (2 - (lg_sl ([.ref this, .int n])).length) Slot.unset).toArray = ls at hl ⊢
  have hl : lv_has ls 2 [(0, .ref this), (1, .int n)] := hl
  have z0 : (0 : Int32).toInt = 0 := by decide
  have z1 : (1 : Int32).toInt = 1 := by decide
  refine lv_iload_n hx hb dX8_riseTo_0 rfl (lv_at hl 1 rfl) ?_
  refine lv_iconst (v := 1) hx hb dX8_riseTo_1 (by decide) ?_
  refine lv_icmp_lt (tgt := 13) hx hb dX8_riseTo_2 (by decide) (fun c_1 => ?_) (fun c_1 => ?_)
  · have q_2 : n.toInt < (1 : Int32).toInt := (ow_lt _ _).mp c_1
    refine lv_iconst (v := 0) hx hb dX8_riseTo_13 (by decide) ?_
    refine lv_goto (tgt := 32) hx hb dX8_riseTo_14 (by decide) ?_
    refine W.widen (k := 0) (n := 0) (Nat.le_of_ble_eq_true rfl) (Nat.le_of_ble_eq_true rfl) ?_
    exact W.iret (v := 0) hx hb hr (fun t ht9 hW => ⟨⟨0, (), rfl, trivial, trivial⟩, hS.F ht9⟩) hS.2.2 dX8_riseTo_32
  · have q_3 : (1 : Int32).toInt ≤ n.toInt := by have := (not_congr (ow_lt _ _)).mp c_1; omega
    refine lv_iload_n hx hb dX8_riseTo_5 rfl (lv_at hl 1 rfl) ?_
    refine lv_aload_n hx hb dX8_riseTo_6 rfl (lv_at hl 0 rfl) ?_
    refine cg_3_2_8 hx hb ht hown hK hN hP hthis.1 hthis.2 dX8_riseTo_7 ?_
    have q_4 : 0 ≤ (I this 2).toInt ∧ (I this 2).toInt ≤ 40 := IV.rd hI hthis.1 hthis.2 2
    refine lv_icmp_lt (tgt := 17) hx hb dX8_riseTo_10 (by decide) (fun c_5 => ?_) (fun c_5 => ?_)
    · have q_6 : n.toInt < (I this 2).toInt := (ow_lt _ _).mp c_5
      refine lv_aload_n hx hb dX8_riseTo_17 rfl (lv_at hl 0 rfl) ?_
      refine cg_3_0_8 hx hb ht hown hK hN hP hthis.1 hthis.2 dX8_riseTo_18 ?_
      have hm_7 : (R this 0) ∈ L ∧ K (R this 0) = 23 := RT.o hRT hthis.1 hthis.2 0 (by decide)
      refine lv_iload_n hx hb dX8_riseTo_21 rfl (lv_at hl 1 rfl) ?_
      have q_8 : vp_in n 40 := vp_in_iff.mpr ⟨by omega, by omega⟩
      refine cl_23 hx hb hK hP hm_7.1 hm_7.2 q_8 dX8_riseTo_22 ?_
      refine lv_topi (fun v_9 ev_9 => ?_)
      refine lv_aload_n hx hb dX8_riseTo_23 rfl (lv_at hl 0 rfl) ?_
      refine cg_3_0_8 hx hb ht hown hK hN hP hthis.1 hthis.2 dX8_riseTo_24 ?_
      refine lv_iload_n hx hb dX8_riseTo_27 rfl (lv_at hl 1 rfl) ?_
      refine lv_iconst (v := 1) hx hb dX8_riseTo_28 (by decide) ?_
      refine lv_isub hx hb dX8_riseTo_29 ?_
      refine lv_topi (fun v_10 ev_10 => ?_)
      have q_11 : v_10.toInt = n.toInt - (1 : Int32).toInt := ow_sub ev_10 (by omega) (by omega)
      have q_12 : vp_in v_10 40 := vp_in_iff.mpr ⟨by omega, by omega⟩
      refine cl_23 hx hb hK hP hm_7.1 hm_7.2 q_12 dX8_riseTo_30 ?_
      refine lv_topi (fun v_13 ev_13 => ?_)
      refine lv_isub hx hb dX8_riseTo_31 ?_
      refine lv_topi (fun v_14 ev_14 => ?_)
      refine W.widen (k := 0) (n := 0) (Nat.le_of_ble_eq_true rfl) (Nat.le_of_ble_eq_true rfl) ?_
      exact W.iret (v := v_14) hx hb hr (fun t ht9 hW => ⟨⟨v_14, (), rfl, trivial, trivial⟩, hS.F ht9⟩) hS.2.2 dX8_riseTo_32
    · have q_15 : (I this 2).toInt ≤ n.toInt := by have := (not_congr (ow_lt _ _)).mp c_5; omega
      refine lv_iconst (v := 0) hx hb dX8_riseTo_13 (by decide) ?_
      refine lv_goto (tgt := 32) hx hb dX8_riseTo_14 (by decide) ?_
      refine W.widen (k := 0) (n := 0) (Nat.le_of_ble_eq_true rfl) (Nat.le_of_ble_eq_true rfl) ?_
      exact W.iret (v := 0) hx hb hr (fun t ht9 hW => ⟨⟨0, (), rfl, trivial, trivial⟩, hS.F ht9⟩) hS.2.2 dX8_riseTo_32
set_option maxHeartbeats 4000000 in
set_option maxRecDepth 100000 in
theorem c_pace2 (l : Launch) (G : va_G) (cy : Nat → ClassId) (sz : Nat) (L : List Nat) (K : Nat → Nat) (R : Nat → Nat → Nat) (T : Int) (I E : Nat → Nat → Int32) (J B : Nat → Nat → Int64) (this : Nat) (n : Int32) (song : Nat) (n3 : Int32) (hRT : RT L K R) (hI : IV T L K I) (hE : EV L K E) (hthis1 : this ∈ L) (hthis2 : K this = 2) (h_n : 0 ≤ n.toInt ∧ n.toInt ≤ 11) (h_song1 : song ∈ L) (h_song2 : K song = 2) (h_n3 : 0 ≤ n3.toInt ∧ n3.toInt ≤ 39) (h1 : n.toInt < (I this 2).toInt) (h2 : n3.toInt + n.toInt < (I song 2).toInt) : Met l yX8_outOfPace (.code yX8_outOfPace cX8_outOfPace 4 (some .int) :: TBg) ({ frames := 1, cells := 0, slots := 0, locals := 64 }) (va_Pc [.ref this, .int n, .ref song, .int n3] (En G cy (WC cy L K R I J E B) sz)) (va_Qi (fun (r : Int32) (_ : Unit) => (0 ≤ r.toInt ∧ r.toInt ≤ 1)) (fun _ _ => True) (va_A [] sz)) 0 0 (va_A [] sz) := by
  have hthis : this ∈ L ∧ K this = 2 := ⟨hthis1, hthis2⟩
  have h_song : song ∈ L ∧ K song = 2 := ⟨h_song1, h_song2⟩
  refine Met.ofW (cc := cX8_outOfPace) (maxL := 4) (ret := (some .int)) (by decide) rfl ?_
  intro p e s m args below meth c s₁ B9 hml hv9
  obtain ⟨rfl, hsz, hP, hK, hD0, hN⟩ := hv9
  have hx := B9.exec
  have hb := B9.bytes
  have hr := B9.returns
  have hts := atoms_spec (ws := .code yX8_outOfPace cX8_outOfPace 4 (some .int) :: TBg) B9.pre
  have ht : ∀ w ∈ TBg, w.before _ s = true := fun w h => hts w (List.mem_cons_of_mem _ h)
  have hown : s.vm.findClass RX8 = some m.cls := findClass_of_methodNamed B9.named
  have hlocks := B9.notSynchronized
  subst hsz
  generalize hAe : va_A [] s.heap.size = A at ⊢
  have hA : ∀ q : Nat, s.heap.size ≤ q → A q := fun q h => by rw [← hAe]; exact Or.inr h
  have hS : va_S A s.heap s.heap [] := va_S.rf
  have hl := lv_entry ([.ref this, .int n, .ref song, .int n3]) (n := 4) (Nat.le_of_ble_eq_true rfl)
  rw [lg_entry_eq]
  generalize (lg_sl ([.ref this, .int n, .ref song, .int n3]) ++ List.replicate (4 - (lg_sl ([.ref this, .int n, .ref song, .int n3])).length) Slot.unset).toArray = ls at hl ⊢
  have hl : lv_has ls 4 [(0, .ref this), (1, .int n), (2, .ref song), (3, .int n3)] := hl
  have z0 : (0 : Int32).toInt = 0 := by decide
  have z1 : (1 : Int32).toInt = 1 := by decide
  have ru_this2 : 0 ≤ (I this 2).toInt ∧ (I this 2).toInt ≤ 12 := IV.rd hI hthis.1 hthis.2 2
  have ru_song2 : 0 ≤ (I song 2).toInt ∧ (I song 2).toInt ≤ 12 := IV.rd hI h_song.1 h_song.2 2
  refine lv_aload_n hx hb dX8_outOfPace_0 rfl (lv_at hl 2 rfl) ?_
  refine cg_2_1_8 hx hb ht hown hK hN hP h_song.1 h_song.2 dX8_outOfPace_1 ?_
  have hm_1 : (R song 1) ∈ L ∧ K (R song 1) = 22 := RT.o hRT h_song.1 h_song.2 1 (by decide)
  refine lv_iload_n hx hb dX8_outOfPace_4 rfl (lv_at hl 3 rfl) ?_
  refine lv_iload_n hx hb dX8_outOfPace_5 rfl (lv_at hl 1 rfl) ?_
  refine lv_iadd hx hb dX8_outOfPace_6 ?_
  refine lv_topi (fun v_2 ev_2 => ?_)
  have q_3 : v_2.toInt = n3.toInt + n.toInt := ow_add ev_2 (by omega) (by omega)
  have q_4 : vp_in v_2 12 := vp_in_iff.mpr ⟨by omega, by omega⟩
  refine cl_22 hx hb hK hP hm_1.1 hm_1.2 q_4 dX8_outOfPace_7 ?_
  refine lv_topi (fun v_5 ev_5 => ?_)
  refine lv_aload_n hx hb dX8_outOfPace_8 rfl (lv_at hl 0 rfl) ?_
  refine cg_2_1_8 hx hb ht hown hK hN hP hthis.1 hthis.2 dX8_outOfPace_9 ?_
  have hm_6 : (R this 1) ∈ L ∧ K (R this 1) = 22 := RT.o hRT hthis.1 hthis.2 1 (by decide)
  refine lv_iconst (v := 0) hx hb dX8_outOfPace_12 (by decide) ?_
  have q_7 : vp_in (0 : Int32) 12 := vp_in_iff.mpr ⟨by omega, by omega⟩
  refine cl_22 hx hb hK hP hm_6.1 hm_6.2 q_7 dX8_outOfPace_13 ?_
  refine lv_topi (fun v_8 ev_8 => ?_)
  refine lv_imul hx hb dX8_outOfPace_14 ?_
  refine lv_topi (fun v_9 ev_9 => ?_)
  refine lv_aload_n hx hb dX8_outOfPace_15 rfl (lv_at hl 2 rfl) ?_
  refine cg_2_1_8 hx hb ht hown hK hN hP h_song.1 h_song.2 dX8_outOfPace_16 ?_
  refine lv_iload_n hx hb dX8_outOfPace_19 rfl (lv_at hl 3 rfl) ?_
  have q_10 : vp_in n3 12 := vp_in_iff.mpr ⟨by omega, by omega⟩
  refine cl_22 hx hb hK hP hm_1.1 hm_1.2 q_10 dX8_outOfPace_20 ?_
  refine lv_topi (fun v_11 ev_11 => ?_)
  refine lv_aload_n hx hb dX8_outOfPace_21 rfl (lv_at hl 0 rfl) ?_
  refine cg_2_1_8 hx hb ht hown hK hN hP hthis.1 hthis.2 dX8_outOfPace_22 ?_
  refine lv_iload_n hx hb dX8_outOfPace_25 rfl (lv_at hl 1 rfl) ?_
  have q_12 : vp_in n 12 := vp_in_iff.mpr ⟨by omega, by omega⟩
  refine cl_22 hx hb hK hP hm_6.1 hm_6.2 q_12 dX8_outOfPace_26 ?_
  refine lv_topi (fun v_13 ev_13 => ?_)
  refine lv_imul hx hb dX8_outOfPace_27 ?_
  refine lv_topi (fun v_14 ev_14 => ?_)
  refine lv_icmp_ne (tgt := 35) hx hb dX8_outOfPace_28 (by decide) (fun c_15 => ?_) (fun c_15 => ?_)
  · have q_16 : ¬ v_9.toInt = v_14.toInt := by have := (not_congr (ow_eq _ _)).mp c_15; omega
    refine lv_iconst (v := 1) hx hb dX8_outOfPace_35 (by decide) ?_
    refine W.widen (k := 0) (n := 0) (Nat.le_of_ble_eq_true rfl) (Nat.le_of_ble_eq_true rfl) ?_
    exact W.iret (v := 1) hx hb hr (fun t ht9 hW => ⟨⟨1, (), rfl, (by omega), trivial⟩, hS.F ht9⟩) hS.2.2 dX8_outOfPace_36
  · have q_17 : v_9.toInt = v_14.toInt := (ow_eq _ _).mp c_15
    refine lv_iconst (v := 0) hx hb dX8_outOfPace_31 (by decide) ?_
    refine lv_goto (tgt := 36) hx hb dX8_outOfPace_32 (by decide) ?_
    refine W.widen (k := 0) (n := 0) (Nat.le_of_ble_eq_true rfl) (Nat.le_of_ble_eq_true rfl) ?_
    exact W.iret (v := 0) hx hb hr (fun t ht9 hW => ⟨⟨0, (), rfl, (by omega), trivial⟩, hS.F ht9⟩) hS.2.2 dX8_outOfPace_36
set_option maxHeartbeats 4000000 in
set_option maxRecDepth 100000 in
theorem c_pace3 (l : Launch) (G : va_G) (cy : Nat → ClassId) (sz : Nat) (L : List Nat) (K : Nat → Nat) (R : Nat → Nat → Nat) (T : Int) (I E : Nat → Nat → Int32) (J B : Nat → Nat → Int64) (this : Nat) (n : Int32) (song : Nat) (n3 : Int32) (hRT : RT L K R) (hI : IV T L K I) (hE : EV L K E) (hthis1 : this ∈ L) (hthis2 : K this = 2) (h_n : 0 ≤ n.toInt ∧ n.toInt ≤ 11) (h_song1 : song ∈ L) (h_song2 : K song = 3) (h_n3 : 0 ≤ n3.toInt ∧ n3.toInt ≤ 39) (h1 : n.toInt < (I this 2).toInt) (h2 : n3.toInt + n.toInt < (I song 2).toInt) : Met l yX8_outOfPace (.code yX8_outOfPace cX8_outOfPace 4 (some .int) :: TBg) ({ frames := 1, cells := 0, slots := 0, locals := 64 }) (va_Pc [.ref this, .int n, .ref song, .int n3] (En G cy (WC cy L K R I J E B) sz)) (va_Qi (fun (r : Int32) (_ : Unit) => (0 ≤ r.toInt ∧ r.toInt ≤ 1)) (fun _ _ => True) (va_A [] sz)) 0 0 (va_A [] sz) := by
  have hthis : this ∈ L ∧ K this = 2 := ⟨hthis1, hthis2⟩
  have h_song : song ∈ L ∧ K song = 3 := ⟨h_song1, h_song2⟩
  refine Met.ofW (cc := cX8_outOfPace) (maxL := 4) (ret := (some .int)) (by decide) rfl ?_
  intro p e s m args below meth c s₁ B9 hml hv9
  obtain ⟨rfl, hsz, hP, hK, hD0, hN⟩ := hv9
  have hx := B9.exec
  have hb := B9.bytes
  have hr := B9.returns
  have hts := atoms_spec (ws := .code yX8_outOfPace cX8_outOfPace 4 (some .int) :: TBg) B9.pre
  have ht : ∀ w ∈ TBg, w.before _ s = true := fun w h => hts w (List.mem_cons_of_mem _ h)
  have hown : s.vm.findClass RX8 = some m.cls := findClass_of_methodNamed B9.named
  have hlocks := B9.notSynchronized
  subst hsz
  generalize hAe : va_A [] s.heap.size = A at ⊢
  have hA : ∀ q : Nat, s.heap.size ≤ q → A q := fun q h => by rw [← hAe]; exact Or.inr h
  have hS : va_S A s.heap s.heap [] := va_S.rf
  have hl := lv_entry ([.ref this, .int n, .ref song, .int n3]) (n := 4) (Nat.le_of_ble_eq_true rfl)
  rw [lg_entry_eq]
  generalize (lg_sl ([.ref this, .int n, .ref song, .int n3]) ++ List.replicate (4 - (lg_sl ([.ref this, .int n, .ref song, .int n3])).length) Slot.unset).toArray = ls at hl ⊢
  have hl : lv_has ls 4 [(0, .ref this), (1, .int n), (2, .ref song), (3, .int n3)] := hl
  have z0 : (0 : Int32).toInt = 0 := by decide
  have z1 : (1 : Int32).toInt = 1 := by decide
  have ru_this2 : 0 ≤ (I this 2).toInt ∧ (I this 2).toInt ≤ 12 := IV.rd hI hthis.1 hthis.2 2
  have ru_song2 : 0 ≤ (I song 2).toInt ∧ (I song 2).toInt ≤ 40 := IV.rd hI h_song.1 h_song.2 2
  refine lv_aload_n hx hb dX8_outOfPace_0 rfl (lv_at hl 2 rfl) ?_
  refine cg_3_1_8 hx hb ht hown hK hN hP h_song.1 h_song.2 dX8_outOfPace_1 ?_
  have hm_1 : (R song 1) ∈ L ∧ K (R song 1) = 24 := RT.o hRT h_song.1 h_song.2 1 (by decide)
  refine lv_iload_n hx hb dX8_outOfPace_4 rfl (lv_at hl 3 rfl) ?_
  refine lv_iload_n hx hb dX8_outOfPace_5 rfl (lv_at hl 1 rfl) ?_
  refine lv_iadd hx hb dX8_outOfPace_6 ?_
  refine lv_topi (fun v_2 ev_2 => ?_)
  have q_3 : v_2.toInt = n3.toInt + n.toInt := ow_add ev_2 (by omega) (by omega)
  have q_4 : vp_in v_2 40 := vp_in_iff.mpr ⟨by omega, by omega⟩
  refine cl_24 hx hb hK hP hm_1.1 hm_1.2 q_4 dX8_outOfPace_7 ?_
  refine lv_topi (fun v_5 ev_5 => ?_)
  refine lv_aload_n hx hb dX8_outOfPace_8 rfl (lv_at hl 0 rfl) ?_
  refine cg_2_1_8 hx hb ht hown hK hN hP hthis.1 hthis.2 dX8_outOfPace_9 ?_
  have hm_6 : (R this 1) ∈ L ∧ K (R this 1) = 22 := RT.o hRT hthis.1 hthis.2 1 (by decide)
  refine lv_iconst (v := 0) hx hb dX8_outOfPace_12 (by decide) ?_
  have q_7 : vp_in (0 : Int32) 12 := vp_in_iff.mpr ⟨by omega, by omega⟩
  refine cl_22 hx hb hK hP hm_6.1 hm_6.2 q_7 dX8_outOfPace_13 ?_
  refine lv_topi (fun v_8 ev_8 => ?_)
  refine lv_imul hx hb dX8_outOfPace_14 ?_
  refine lv_topi (fun v_9 ev_9 => ?_)
  refine lv_aload_n hx hb dX8_outOfPace_15 rfl (lv_at hl 2 rfl) ?_
  refine cg_3_1_8 hx hb ht hown hK hN hP h_song.1 h_song.2 dX8_outOfPace_16 ?_
  refine lv_iload_n hx hb dX8_outOfPace_19 rfl (lv_at hl 3 rfl) ?_
  have q_10 : vp_in n3 40 := vp_in_iff.mpr ⟨by omega, by omega⟩
  refine cl_24 hx hb hK hP hm_1.1 hm_1.2 q_10 dX8_outOfPace_20 ?_
  refine lv_topi (fun v_11 ev_11 => ?_)
  refine lv_aload_n hx hb dX8_outOfPace_21 rfl (lv_at hl 0 rfl) ?_
  refine cg_2_1_8 hx hb ht hown hK hN hP hthis.1 hthis.2 dX8_outOfPace_22 ?_
  refine lv_iload_n hx hb dX8_outOfPace_25 rfl (lv_at hl 1 rfl) ?_
  have q_12 : vp_in n 12 := vp_in_iff.mpr ⟨by omega, by omega⟩
  refine cl_22 hx hb hK hP hm_6.1 hm_6.2 q_12 dX8_outOfPace_26 ?_
  refine lv_topi (fun v_13 ev_13 => ?_)
  refine lv_imul hx hb dX8_outOfPace_27 ?_
  refine lv_topi (fun v_14 ev_14 => ?_)
  refine lv_icmp_ne (tgt := 35) hx hb dX8_outOfPace_28 (by decide) (fun c_15 => ?_) (fun c_15 => ?_)
  · have q_16 : ¬ v_9.toInt = v_14.toInt := by have := (not_congr (ow_eq _ _)).mp c_15; omega
    refine lv_iconst (v := 1) hx hb dX8_outOfPace_35 (by decide) ?_
    refine W.widen (k := 0) (n := 0) (Nat.le_of_ble_eq_true rfl) (Nat.le_of_ble_eq_true rfl) ?_
    exact W.iret (v := 1) hx hb hr (fun t ht9 hW => ⟨⟨1, (), rfl, (by omega), trivial⟩, hS.F ht9⟩) hS.2.2 dX8_outOfPace_36
  · have q_17 : v_9.toInt = v_14.toInt := (ow_eq _ _).mp c_15
    refine lv_iconst (v := 0) hx hb dX8_outOfPace_31 (by decide) ?_
    refine lv_goto (tgt := 36) hx hb dX8_outOfPace_32 (by decide) ?_
    refine W.widen (k := 0) (n := 0) (Nat.le_of_ble_eq_true rfl) (Nat.le_of_ble_eq_true rfl) ?_
    exact W.iret (v := 0) hx hb hr (fun t ht9 hW => ⟨⟨0, (), rfl, (by omega), trivial⟩, hS.F ht9⟩) hS.2.2 dX8_outOfPace_36
set_option maxHeartbeats 4000000 in
set_option maxRecDepth 100000 in
theorem c_offF2 (l : Launch) (G : va_G) (cy : Nat → ClassId) (sz : Nat) (L : List Nat) (K : Nat → Nat) (R : Nat → Nat → Nat) (T : Int) (I E : Nat → Nat → Int32) (J B : Nat → Nat → Int64) (this : Nat) (n : Int32) (song : Nat) (n3 : Int32) (hRT : RT L K R) (hI : IV T L K I) (hE : EV L K E) (hthis1 : this ∈ L) (hthis2 : K this = 2) (h_song1 : song ∈ L) (h_song2 : K song = 2) : Met l yX8_offOfFirst (.code yX8_offOfFirst cX8_offOfFirst 6 (some .int) :: TBg) ({ frames := 2, cells := 0, slots := 0, locals := 128 }) (va_Pc [.ref this, .int n, .ref song, .int n3] (En G cy (WC cy L K R I J E B) sz)) (va_Qi (fun (r : Int32) (_ : Unit) => True) (fun _ _ => True) (va_A [] sz)) 0 0 (va_A [] sz) := by
  have hthis : this ∈ L ∧ K this = 2 := ⟨hthis1, hthis2⟩
  have h_song : song ∈ L ∧ K song = 2 := ⟨h_song1, h_song2⟩
  refine Met.ofW (cc := cX8_offOfFirst) (maxL := 6) (ret := (some .int)) (by decide) rfl ?_
  intro p e s m args below meth c s₁ B9 hml hv9
  obtain ⟨rfl, hsz, hP, hK, hD0, hN⟩ := hv9
  have hx := B9.exec
  have hb := B9.bytes
  have hr := B9.returns
  have hts := atoms_spec (ws := .code yX8_offOfFirst cX8_offOfFirst 6 (some .int) :: TBg) B9.pre
  have ht : ∀ w ∈ TBg, w.before _ s = true := fun w h => hts w (List.mem_cons_of_mem _ h)
  have hown : s.vm.findClass RX8 = some m.cls := findClass_of_methodNamed B9.named
  have hlocks := B9.notSynchronized
  subst hsz
  generalize hAe : va_A [] s.heap.size = A at ⊢
  have hA : ∀ q : Nat, s.heap.size ≤ q → A q := fun q h => by rw [← hAe]; exact Or.inr h
  have hS : va_S A s.heap s.heap [] := va_S.rf
  have hl := lv_entry ([.ref this, .int n, .ref song, .int n3]) (n := 6) (Nat.le_of_ble_eq_true rfl)
  rw [lg_entry_eq]
  generalize (lg_sl ([.ref this, .int n, .ref song, .int n3]) ++ List.replicate (6 - (lg_sl ([.ref this, .int n, .ref song, .int n3])).length) Slot.unset).toArray = ls at hl ⊢
  have hl : lv_has ls 6 [(0, .ref this), (1, .int n), (2, .ref song), (3, .int n3)] := hl
  have z0 : (-1 : Int32).toInt = -1 := by decide
  have z1 : (0 : Int32).toInt = 0 := by decide
  have z2 : (1 : Int32).toInt = 1 := by decide
  refine lv_iload_n hx hb dX8_offOfFirst_0 rfl (lv_at hl 1 rfl) ?_
  refine lv_iconst (v := 1) hx hb dX8_offOfFirst_1 (by decide) ?_
  refine lv_icmp_lt (tgt := 27) hx hb dX8_offOfFirst_2 (by decide) (fun c_1 => ?_) (fun c_1 => ?_)
  · have q_2 : n.toInt < (1 : Int32).toInt := (ow_lt _ _).mp c_1
    refine lv_iconst (v := (-1)) hx hb dX8_offOfFirst_27 (by decide) ?_
    refine W.widen (k := 0) (n := 0) (Nat.le_of_ble_eq_true rfl) (Nat.le_of_ble_eq_true rfl) ?_
    exact W.iret (v := (-1)) hx hb hr (fun t ht9 hW => ⟨⟨(-1), (), rfl, trivial, trivial⟩, hS.F ht9⟩) hS.2.2 dX8_offOfFirst_28
  · have q_3 : (1 : Int32).toInt ≤ n.toInt := by have := (not_congr (ow_lt _ _)).mp c_1; omega
    refine lv_iload_n hx hb dX8_offOfFirst_5 rfl (lv_at hl 1 rfl) ?_
    refine lv_aload_n hx hb dX8_offOfFirst_6 rfl (lv_at hl 0 rfl) ?_
    refine cg_2_2_8 hx hb ht hown hK hN hP hthis.1 hthis.2 dX8_offOfFirst_7 ?_
    have q_4 : 0 ≤ (I this 2).toInt ∧ (I this 2).toInt ≤ 12 := IV.rd hI hthis.1 hthis.2 2
    refine lv_icmp_gt (tgt := 27) hx hb dX8_offOfFirst_10 (by decide) (fun c_5 => ?_) (fun c_5 => ?_)
    · have q_6 : (I this 2).toInt < n.toInt := (ow_lt _ _).mp c_5
      refine lv_iconst (v := (-1)) hx hb dX8_offOfFirst_27 (by decide) ?_
      refine W.widen (k := 0) (n := 0) (Nat.le_of_ble_eq_true rfl) (Nat.le_of_ble_eq_true rfl) ?_
      exact W.iret (v := (-1)) hx hb hr (fun t ht9 hW => ⟨⟨(-1), (), rfl, trivial, trivial⟩, hS.F ht9⟩) hS.2.2 dX8_offOfFirst_28
    · have q_7 : n.toInt ≤ (I this 2).toInt := by have := (not_congr (ow_lt _ _)).mp c_5; omega
      refine lv_iload_n hx hb dX8_offOfFirst_13 rfl (lv_at hl 3 rfl) ?_
      refine lv_if_lt (tgt := 27) hx hb dX8_offOfFirst_14 (by decide) (fun c_8 => ?_) (fun c_8 => ?_)
      · have q_9 : n3.toInt < (0 : Int32).toInt := (ow_lt _ _).mp c_8
        refine lv_iconst (v := (-1)) hx hb dX8_offOfFirst_27 (by decide) ?_
        refine W.widen (k := 0) (n := 0) (Nat.le_of_ble_eq_true rfl) (Nat.le_of_ble_eq_true rfl) ?_
        exact W.iret (v := (-1)) hx hb hr (fun t ht9 hW => ⟨⟨(-1), (), rfl, trivial, trivial⟩, hS.F ht9⟩) hS.2.2 dX8_offOfFirst_28
      · have q_10 : (0 : Int32).toInt ≤ n3.toInt := by have := (not_congr (ow_lt _ _)).mp c_8; omega
        refine lv_iload_n hx hb dX8_offOfFirst_17 rfl (lv_at hl 3 rfl) ?_
        refine lv_aload_n hx hb dX8_offOfFirst_18 rfl (lv_at hl 2 rfl) ?_
        refine cg_2_2_8 hx hb ht hown hK hN hP h_song.1 h_song.2 dX8_offOfFirst_19 ?_
        have q_11 : 0 ≤ (I song 2).toInt ∧ (I song 2).toInt ≤ 12 := IV.rd hI h_song.1 h_song.2 2
        refine lv_iload_n hx hb dX8_offOfFirst_22 rfl (lv_at hl 1 rfl) ?_
        refine lv_isub hx hb dX8_offOfFirst_23 ?_
        refine lv_topi (fun v_12 ev_12 => ?_)
        have q_13 : v_12.toInt = (I song 2).toInt - n.toInt := ow_sub ev_12 (by omega) (by omega)
        refine lv_icmp_le (tgt := 29) hx hb dX8_offOfFirst_24 (by decide) (fun c_14 => ?_) (fun c_14 => ?_)
        · have q_15 : n3.toInt ≤ v_12.toInt := (ow_le _ _).mp c_14
          refine lv_iconst (v := 0) hx hb dX8_offOfFirst_29 (by decide) ?_
          refine lv_istore (lv' := [(4, .int 0), (0, .ref this), (1, .int n), (2, .ref song), (3, .int n3)]) hx hb dX8_offOfFirst_30 hl (by decide) rfl (fun ls hl => ?_)
          refine lv_iconst (v := 1) hx hb dX8_offOfFirst_32 (by decide) ?_
          refine lv_istore (lv' := [(5, .int 1), (4, .int 0), (0, .ref this), (1, .int n), (2, .ref song), (3, .int n3)]) hx hb dX8_offOfFirst_33 hl (by decide) rfl (fun ls hl => ?_)
          refine W.widen (k := 0) (n := 0) (Nat.le_of_ble_eq_true rfl) (Nat.le_of_ble_eq_true rfl) ?_
          have lp_16 : ∀ (N_16 : Nat) (x5_16 : Int32) (x4_16 : Int32) (H : Heap) (locs : List Loc) (ls : Array Slot), (1 ≤ x5_16.toInt ∧ x5_16.toInt ≤ 12) → (12 - x5_16.toInt).toNat < N_16 → va_P G vwCl (WC cy L K R I J E B) H → va_S A s.heap H locs → lv_has ls 6 [(5, .int x5_16), (4, .int x4_16), (0, .ref this), (1, .int n), (2, .ref song), (3, .int n3)] → W p l e (headSpec (.code yX8_offOfFirst cX8_offOfFirst 6 (some .int) :: TBg) ({ frames := 2, cells := 0, slots := 0, locals := 128 })).room s m ([.ref this, .int n, .ref song, .int n3] : List Value).toArray below meth c H locs 0 0 (MQ below (va_Qi (fun (r : Int32) (_ : Unit) => True) (fun _ _ => True) A) ([.ref this, .int n, .ref song, .int n3] : List Value).toArray s 0 0 A) (F0 m 35 ls []) := by
            intro N_16
            induction N_16 with
            | zero => intro x5_16 x4_16 H locs ls qf16_0 hm9 hP hS hl; exact absurd hm9 (Nat.not_lt_zero _)
            | succ N_16 ih_16 =>
              intro x5_16 x4_16 H locs ls qf16_0 hm9 hP hS hl
              refine lv_iload hx hb dX8_offOfFirst_35 (lv_at hl 0 rfl) ?_
              refine lv_iload_n hx hb dX8_offOfFirst_37 rfl (lv_at hl 3 rfl) ?_
              refine lv_icmp_ge (tgt := 79) hx hb dX8_offOfFirst_38 (by decide) (fun c_17 => ?_) (fun c_17 => ?_)
              · have q_18 : n.toInt ≤ x5_16.toInt := (ow_le _ _).mp c_17
                refine lv_iload hx hb dX8_offOfFirst_79 (lv_at hl 1 rfl) ?_
                refine W.widen (k := 0) (n := 0) (Nat.le_of_ble_eq_true rfl) (Nat.le_of_ble_eq_true rfl) ?_
                exact W.iret (v := x4_16) hx hb hr (fun t ht9 hW => ⟨⟨x4_16, (), rfl, trivial, trivial⟩, hS.F ht9⟩) hS.2.2 dX8_offOfFirst_81
              · have q_19 : x5_16.toInt < n.toInt := by have := (not_congr (ow_le _ _)).mp c_17; omega
                refine lv_iload hx hb dX8_offOfFirst_41 (lv_at hl 1 rfl) ?_
                refine lv_aload_n hx hb dX8_offOfFirst_43 rfl (lv_at hl 2 rfl) ?_
                refine lv_iload hx hb dX8_offOfFirst_44 (lv_at hl 0 rfl) ?_
                have hFc := fr_new hS hA
                refine va_calli (va_runV (As := [.int x5_16]) (rest := [.int x4_16]) ⟨hx, hb, hml, hown, ht⟩ (c_rise2 l G cy _ L K R T I E J B this x5_16 hRT hI hE hthis.1 hthis.2) (cwV 1 ht (gv k_396 k_397 k_398 k_399 k_395) rfl rfl rfl (by decide +kernel) ⟨Nat.le_of_ble_eq_true rfl, Nat.le_of_ble_eq_true rfl⟩) ⟨En.blind, cr_2 hK hP hthis.1 hthis.2, fun U hU hW => ⟨rfl, En.of hU hW hP hK hD0 hN⟩⟩ rfl rfl hl.1 rfl (lv_room (Nat.le_of_ble_eq_true rfl)) dX8_offOfFirst_46 ⟨Nat.le_of_ble_eq_true rfl, Nat.le_of_ble_eq_true rfl⟩) hS (fun q _ h => hFc q h) hFc (fun r_u_20 u_20 t9 H locs ht9 hvm hw hB hz1 hk1 hS => ?_)
                have hP := fr_keep hP hk1
                have wu_20 := hw
                clear hFc hk1 hz1 hB hw
                refine lv_aload_n hx hb dX8_offOfFirst_49 rfl (lv_at hl 4 rfl) ?_
                refine lv_iload_n hx hb dX8_offOfFirst_50 rfl (lv_at hl 5 rfl) ?_
                refine lv_iload hx hb dX8_offOfFirst_51 (lv_at hl 0 rfl) ?_
                refine lv_iadd hx hb dX8_offOfFirst_53 ?_
                refine lv_topi (fun v_21 ev_21 => ?_)
                have q_22 : v_21.toInt = n3.toInt + x5_16.toInt := ow_add ev_21 (by omega) (by omega)
                have hFc := fr_new hS hA
                refine va_calli (va_runV (As := [.int v_21]) (rest := [.int r_u_20, .int x4_16]) ⟨hx, hb, hml, hown, ht⟩ (c_rise2 l G cy _ L K R T I E J B song v_21 hRT hI hE h_song.1 h_song.2) (cwV 1 ht (gv k_396 k_397 k_398 k_399 k_395) rfl rfl rfl (by decide +kernel) ⟨Nat.le_of_ble_eq_true rfl, Nat.le_of_ble_eq_true rfl⟩) ⟨En.blind, cr_2 hK hP h_song.1 h_song.2, fun U hU hW => ⟨rfl, En.of hU hW hP hK hD0 hN⟩⟩ rfl rfl hl.1 rfl (lv_room (Nat.le_of_ble_eq_true rfl)) dX8_offOfFirst_54 ⟨Nat.le_of_ble_eq_true rfl, Nat.le_of_ble_eq_true rfl⟩) hS (fun q _ h => hFc q h) hFc (fun r_u_23 u_23 t9 H locs ht9 hvm hw hB hz1 hk1 hS => ?_)
                have hP := fr_keep hP hk1
                have wu_23 := hw
                clear hFc hk1 hz1 hB hw
                refine lv_isub hx hb dX8_offOfFirst_57 ?_
                refine lv_topi (fun v_24 ev_24 => ?_)
                refine va_mabs hx hb (by rw [hml]; exact hl.1.symm) hown (ht _ k_400) (ht _ k_401) (ht _ k_402) (ht _ k_403) (Nat.le_of_ble_eq_true rfl) (Nat.le_of_ble_eq_true rfl) (Nat.le_of_ble_eq_true rfl) (Nat.le_of_ble_eq_true rfl) dX8_offOfFirst_58 ?_
                refine lv_topi (fun v_25 ev_25 => ?_)
                refine lv_aload_n hx hb dX8_offOfFirst_61 rfl (lv_at hl 2 rfl) ?_
                refine lv_iload hx hb dX8_offOfFirst_62 (lv_at hl 0 rfl) ?_
                refine lv_aload_n hx hb dX8_offOfFirst_64 rfl (lv_at hl 4 rfl) ?_
                refine lv_iload_n hx hb dX8_offOfFirst_65 rfl (lv_at hl 5 rfl) ?_
                have hFc := fr_new hS hA
                refine va_calli (va_runV (As := [.int x5_16, .ref song, .int n3]) (rest := [.int v_25, .int x4_16]) ⟨hx, hb, hml, hown, ht⟩ (c_pace2 l G cy _ L K R T I E J B this x5_16 song n3 hRT hI hE hthis.1 hthis.2 (by omega) h_song.1 h_song.2 (by omega) (show x5_16.toInt < (I this 2).toInt from by omega) (show n3.toInt + x5_16.toInt < (I song 2).toInt from by omega)) (cwV 3 ht (gv k_405 k_406 k_407 k_399 k_404) rfl rfl rfl (by decide +kernel) ⟨Nat.le_of_ble_eq_true rfl, Nat.le_of_ble_eq_true rfl⟩) ⟨En.blind, cr_2 hK hP hthis.1 hthis.2, fun U hU hW => ⟨rfl, En.of hU hW hP hK hD0 hN⟩⟩ rfl rfl hl.1 rfl (lv_room (Nat.le_of_ble_eq_true rfl)) dX8_offOfFirst_66 ⟨Nat.le_of_ble_eq_true rfl, Nat.le_of_ble_eq_true rfl⟩) hS (fun q _ h => hFc q h) hFc (fun r_u_26 u_26 t9 H locs ht9 hvm hw hB hz1 hk1 hS => ?_)
                have hP := fr_keep hP hk1
                have wu_26 := hw
                clear hFc hk1 hz1 hB hw
                refine lv_iadd hx hb dX8_offOfFirst_69 ?_
                refine lv_topi (fun v_27 ev_27 => ?_)
                refine lv_iadd hx hb dX8_offOfFirst_70 ?_
                refine lv_topi (fun v_28 ev_28 => ?_)
                refine lv_istore (lv' := [(4, .int v_28), (5, .int x5_16), (0, .ref this), (1, .int n), (2, .ref song), (3, .int n3)]) hx hb dX8_offOfFirst_71 hl (by decide) rfl (fun ls hl => ?_)
                obtain ⟨v_29, ev_29⟩ : ∃ y : Int32, y = x5_16 + 1 := ⟨_, rfl⟩
                refine lv_iinc (v := v_29) (lv' := [(5, .int v_29), (4, .int v_28), (0, .ref this), (1, .int n), (2, .ref song), (3, .int n3)]) hx hb dX8_offOfFirst_73 hl (k := 1) rfl (by rw [ev_29]; rfl) (by decide) rfl (fun ls hl => ?_)
                have q_30 : v_29.toInt = x5_16.toInt + 1 := by have := ow_add ev_29 (by omega) (by omega); omega
                refine lv_goto (tgt := 35) hx hb dX8_offOfFirst_76 (by decide) ?_
                refine W.widen (k := 0) (n := 0) (Nat.le_of_ble_eq_true rfl) (Nat.le_of_ble_eq_true rfl) ?_
                exact ih_16 v_29 v_28 _ _ _ (by omega) (by omega) hP hS (lv_sub hl [0, 1, 2, 3, 4, 5] rfl)
          exact lp_16 _ (1) (0) _ _ _ (by omega) (Nat.lt_succ_self _) hP hS (lv_sub hl [0, 1, 2, 3, 4, 5] rfl)
        · have q_31 : v_12.toInt < n3.toInt := by have := (not_congr (ow_le _ _)).mp c_14; omega
          refine lv_iconst (v := (-1)) hx hb dX8_offOfFirst_27 (by decide) ?_
          refine W.widen (k := 0) (n := 0) (Nat.le_of_ble_eq_true rfl) (Nat.le_of_ble_eq_true rfl) ?_
          exact W.iret (v := (-1)) hx hb hr (fun t ht9 hW => ⟨⟨(-1), (), rfl, trivial, trivial⟩, hS.F ht9⟩) hS.2.2 dX8_offOfFirst_28
set_option maxHeartbeats 4000000 in
set_option maxRecDepth 100000 in
theorem c_offAt2 (l : Launch) (G : va_G) (cy : Nat → ClassId) (sz : Nat) (L : List Nat) (K : Nat → Nat) (R : Nat → Nat → Nat) (T : Int) (I E : Nat → Nat → Int32) (J B : Nat → Nat → Int64) (this : Nat) (song : Nat) (n3 : Int32) (hRT : RT L K R) (hI : IV T L K I) (hE : EV L K E) (hthis1 : this ∈ L) (hthis2 : K this = 2) (h_song1 : song ∈ L) (h_song2 : K song = 2) : Met l yX8_offAt (.code yX8_offAt cX8_offAt 3 (some .int) :: TBg) ({ frames := 3, cells := 0, slots := 0, locals := 192 }) (va_Pc [.ref this, .ref song, .int n3] (En G cy (WC cy L K R I J E B) sz)) (va_Qi (fun (r : Int32) (_ : Unit) => True) (fun _ _ => True) (va_A [] sz)) 0 0 (va_A [] sz) := by
  have hthis : this ∈ L ∧ K this = 2 := ⟨hthis1, hthis2⟩
  have h_song : song ∈ L ∧ K song = 2 := ⟨h_song1, h_song2⟩
  refine Met.ofW (cc := cX8_offAt) (maxL := 3) (ret := (some .int)) (by decide) rfl ?_
  intro p e s m args below meth c s₁ B9 hml hv9
  obtain ⟨rfl, hsz, hP, hK, hD0, hN⟩ := hv9
  have hx := B9.exec
  have hb := B9.bytes
  have hr := B9.returns
  have hts := atoms_spec (ws := .code yX8_offAt cX8_offAt 3 (some .int) :: TBg) B9.pre
  have ht : ∀ w ∈ TBg, w.before _ s = true := fun w h => hts w (List.mem_cons_of_mem _ h)
  have hown : s.vm.findClass RX8 = some m.cls := findClass_of_methodNamed B9.named
  have hlocks := B9.notSynchronized
  subst hsz
  generalize hAe : va_A [] s.heap.size = A at ⊢
  have hA : ∀ q : Nat, s.heap.size ≤ q → A q := fun q h => by rw [← hAe]; exact Or.inr h
  have hS : va_S A s.heap s.heap [] := va_S.rf
  have hl := lv_entry ([.ref this, .ref song, .int n3]) (n := 3) (Nat.le_of_ble_eq_true rfl)
  rw [lg_entry_eq]
  generalize (lg_sl ([.ref this, .ref song, .int n3]) ++ List.replicate (3 - (lg_sl ([.ref this, .ref song, .int n3])).length) Slot.unset).toArray = ls at hl ⊢
  have hl : lv_has ls 3 [(0, .ref this), (1, .ref song), (2, .int n3)] := hl
  refine lv_aload_n hx hb dX8_offAt_0 rfl (lv_at hl 0 rfl) ?_
  refine lv_aload_n hx hb dX8_offAt_1 rfl (lv_at hl 0 rfl) ?_
  refine cg_2_2_8 hx hb ht hown hK hN hP hthis.1 hthis.2 dX8_offAt_2 ?_
  have q_1 : 0 ≤ (I this 2).toInt ∧ (I this 2).toInt ≤ 12 := IV.rd hI hthis.1 hthis.2 2
  refine lv_aload_n hx hb dX8_offAt_5 rfl (lv_at hl 1 rfl) ?_
  refine lv_iload_n hx hb dX8_offAt_6 rfl (lv_at hl 2 rfl) ?_
  have hFc := fr_new hS hA
  refine va_calli (va_runV (As := [.int (I this 2), .ref song, .int n3]) (rest := []) ⟨hx, hb, hml, hown, ht⟩ (c_offF2 l G cy _ L K R T I E J B this (I this 2) song n3 hRT hI hE hthis.1 hthis.2 h_song.1 h_song.2) (cwV 3 ht (gv k_409 k_410 k_411 k_399 k_408) rfl rfl rfl (by decide +kernel) ⟨Nat.le_of_ble_eq_true rfl, Nat.le_of_ble_eq_true rfl⟩) ⟨En.blind, cr_2 hK hP hthis.1 hthis.2, fun U hU hW => ⟨rfl, En.of hU hW hP hK hD0 hN⟩⟩ rfl rfl hl.1 rfl (lv_room (Nat.le_of_ble_eq_true rfl)) dX8_offAt_7 ⟨Nat.le_of_ble_eq_true rfl, Nat.le_of_ble_eq_true rfl⟩) hS (fun q _ h => hFc q h) hFc (fun r_u_2 u_2 t9 H locs ht9 hvm hw hB hz1 hk1 hS => ?_)
  have hP := fr_keep hP hk1
  have wu_2 := hw
  clear hFc hk1 hz1 hB hw
  refine W.widen (k := 0) (n := 0) (Nat.le_of_ble_eq_true rfl) (Nat.le_of_ble_eq_true rfl) ?_
  exact W.iret (v := r_u_2) hx hb hr (fun t ht9 hW => ⟨⟨r_u_2, (), rfl, trivial, trivial⟩, hS.F ht9⟩) hS.2.2 dX8_offAt_10
set_option maxHeartbeats 4000000 in
set_option maxRecDepth 100000 in
theorem c_first2 (l : Launch) (G : va_G) (cy : Nat → ClassId) (sz : Nat) (L : List Nat) (K : Nat → Nat) (R : Nat → Nat → Nat) (T : Int) (I E : Nat → Nat → Int32) (J B : Nat → Nat → Int64) (this : Nat) (song : Nat) (n3 : Int32) (hRT : RT L K R) (hI : IV T L K I) (hE : EV L K E) (hthis1 : this ∈ L) (hthis2 : K this = 2) (h_song1 : song ∈ L) (h_song2 : K song = 2) : Met l yX8_firstOffAt (.code yX8_firstOffAt cX8_firstOffAt 4 (some .int) :: TBg) ({ frames := 2, cells := 0, slots := 0, locals := 128 }) (va_Pc [.ref this, .ref song, .int n3] (En G cy (WC cy L K R I J E B) sz)) (va_Qi (fun (r : Int32) (_ : Unit) => True) (fun _ _ => True) (va_A [] sz)) 0 0 (va_A [] sz) := by
  have hthis : this ∈ L ∧ K this = 2 := ⟨hthis1, hthis2⟩
  have h_song : song ∈ L ∧ K song = 2 := ⟨h_song1, h_song2⟩
  refine Met.ofW (cc := cX8_firstOffAt) (maxL := 4) (ret := (some .int)) (by decide) rfl ?_
  intro p e s m args below meth c s₁ B9 hml hv9
  obtain ⟨rfl, hsz, hP, hK, hD0, hN⟩ := hv9
  have hx := B9.exec
  have hb := B9.bytes
  have hr := B9.returns
  have hts := atoms_spec (ws := .code yX8_firstOffAt cX8_firstOffAt 4 (some .int) :: TBg) B9.pre
  have ht : ∀ w ∈ TBg, w.before _ s = true := fun w h => hts w (List.mem_cons_of_mem _ h)
  have hown : s.vm.findClass RX8 = some m.cls := findClass_of_methodNamed B9.named
  have hlocks := B9.notSynchronized
  subst hsz
  generalize hAe : va_A [] s.heap.size = A at ⊢
  have hA : ∀ q : Nat, s.heap.size ≤ q → A q := fun q h => by rw [← hAe]; exact Or.inr h
  have hS : va_S A s.heap s.heap [] := va_S.rf
  have hl := lv_entry ([.ref this, .ref song, .int n3]) (n := 4) (Nat.le_of_ble_eq_true rfl)
  rw [lg_entry_eq]
  generalize (lg_sl ([.ref this, .ref song, .int n3]) ++ List.replicate (4 - (lg_sl ([.ref this, .ref song, .int n3])).length) Slot.unset).toArray = ls at hl ⊢
  have hl : lv_has ls 4 [(0, .ref this), (1, .ref song), (2, .int n3)] := hl
  have z0 : (-1 : Int32).toInt = -1 := by decide
  have z1 : (0 : Int32).toInt = 0 := by decide
  have z2 : (1 : Int32).toInt = 1 := by decide
  refine lv_iload_n hx hb dX8_firstOffAt_0 rfl (lv_at hl 2 rfl) ?_
  refine lv_if_lt (tgt := 17) hx hb dX8_firstOffAt_1 (by decide) (fun c_1 => ?_) (fun c_1 => ?_)
  · have q_2 : n3.toInt < (0 : Int32).toInt := (ow_lt _ _).mp c_1
    refine lv_iconst (v := (-1)) hx hb dX8_firstOffAt_17 (by decide) ?_
    refine W.widen (k := 0) (n := 0) (Nat.le_of_ble_eq_true rfl) (Nat.le_of_ble_eq_true rfl) ?_
    exact W.iret (v := (-1)) hx hb hr (fun t ht9 hW => ⟨⟨(-1), (), rfl, trivial, trivial⟩, hS.F ht9⟩) hS.2.2 dX8_firstOffAt_18
  · have q_3 : (0 : Int32).toInt ≤ n3.toInt := by have := (not_congr (ow_lt _ _)).mp c_1; omega
    refine lv_iload_n hx hb dX8_firstOffAt_4 rfl (lv_at hl 2 rfl) ?_
    refine lv_aload_n hx hb dX8_firstOffAt_5 rfl (lv_at hl 1 rfl) ?_
    refine cg_2_2_8 hx hb ht hown hK hN hP h_song.1 h_song.2 dX8_firstOffAt_6 ?_
    have q_4 : 0 ≤ (I song 2).toInt ∧ (I song 2).toInt ≤ 12 := IV.rd hI h_song.1 h_song.2 2
    refine lv_aload_n hx hb dX8_firstOffAt_9 rfl (lv_at hl 0 rfl) ?_
    refine cg_2_2_8 hx hb ht hown hK hN hP hthis.1 hthis.2 dX8_firstOffAt_10 ?_
    have q_5 : 0 ≤ (I this 2).toInt ∧ (I this 2).toInt ≤ 12 := IV.rd hI hthis.1 hthis.2 2
    refine lv_isub hx hb dX8_firstOffAt_13 ?_
    refine lv_topi (fun v_6 ev_6 => ?_)
    have q_7 : v_6.toInt = (I song 2).toInt - (I this 2).toInt := ow_sub ev_6 (by omega) (by omega)
    refine lv_icmp_le (tgt := 19) hx hb dX8_firstOffAt_14 (by decide) (fun c_8 => ?_) (fun c_8 => ?_)
    · have q_9 : n3.toInt ≤ v_6.toInt := (ow_le _ _).mp c_8
      refine lv_iconst (v := 1) hx hb dX8_firstOffAt_19 (by decide) ?_
      refine lv_istore_n (lv' := [(3, .int 1), (0, .ref this), (1, .ref song), (2, .int n3)]) hx hb dX8_firstOffAt_20 rfl hl (by decide) rfl (fun ls hl => ?_)
      refine W.widen (k := 0) (n := 0) (Nat.le_of_ble_eq_true rfl) (Nat.le_of_ble_eq_true rfl) ?_
      have lp_10 : ∀ (N_10 : Nat) (x3_10 : Int32) (H : Heap) (locs : List Loc) (ls : Array Slot), (1 ≤ x3_10.toInt ∧ x3_10.toInt ≤ 12) → (12 - x3_10.toInt).toNat < N_10 → va_P G vwCl (WC cy L K R I J E B) H → va_S A s.heap H locs → lv_has ls 4 [(3, .int x3_10), (0, .ref this), (1, .ref song), (2, .int n3)] → W p l e (headSpec (.code yX8_firstOffAt cX8_firstOffAt 4 (some .int) :: TBg) ({ frames := 2, cells := 0, slots := 0, locals := 128 })).room s m ([.ref this, .ref song, .int n3] : List Value).toArray below meth c H locs 0 0 (MQ below (va_Qi (fun (r : Int32) (_ : Unit) => True) (fun _ _ => True) A) ([.ref this, .ref song, .int n3] : List Value).toArray s 0 0 A) (F0 m 21 ls []) := by
        intro N_10
        induction N_10 with
        | zero => intro x3_10 H locs ls qf10_0 hm9 hP hS hl; exact absurd hm9 (Nat.not_lt_zero _)
        | succ N_10 ih_10 =>
          intro x3_10 H locs ls qf10_0 hm9 hP hS hl
          refine lv_iload_n hx hb dX8_firstOffAt_21 rfl (lv_at hl 0 rfl) ?_
          refine lv_aload_n hx hb dX8_firstOffAt_22 rfl (lv_at hl 1 rfl) ?_
          refine cg_2_2_8 hx hb ht hown hK hN hP hthis.1 hthis.2 dX8_firstOffAt_23 ?_
          have q_11 : 0 ≤ (I this 2).toInt ∧ (I this 2).toInt ≤ 12 := IV.rd hI hthis.1 hthis.2 2
          refine lv_icmp_ge (tgt := 62) hx hb dX8_firstOffAt_26 (by decide) (fun c_12 => ?_) (fun c_12 => ?_)
          · have q_13 : (I this 2).toInt ≤ x3_10.toInt := (ow_le _ _).mp c_12
            refine lv_iconst (v := (-1)) hx hb dX8_firstOffAt_62 (by decide) ?_
            refine W.widen (k := 0) (n := 0) (Nat.le_of_ble_eq_true rfl) (Nat.le_of_ble_eq_true rfl) ?_
            exact W.iret (v := (-1)) hx hb hr (fun t ht9 hW => ⟨⟨(-1), (), rfl, trivial, trivial⟩, hS.F ht9⟩) hS.2.2 dX8_firstOffAt_63
          · have q_14 : x3_10.toInt < (I this 2).toInt := by have := (not_congr (ow_le _ _)).mp c_12; omega
            refine lv_aload_n hx hb dX8_firstOffAt_29 rfl (lv_at hl 1 rfl) ?_
            refine lv_iload_n hx hb dX8_firstOffAt_30 rfl (lv_at hl 0 rfl) ?_
            have hFc := fr_new hS hA
            refine va_calli (va_runV (As := [.int x3_10]) (rest := []) ⟨hx, hb, hml, hown, ht⟩ (c_rise2 l G cy _ L K R T I E J B this x3_10 hRT hI hE hthis.1 hthis.2) (cwV 1 ht (gv k_396 k_397 k_398 k_399 k_395) rfl rfl rfl (by decide +kernel) ⟨Nat.le_of_ble_eq_true rfl, Nat.le_of_ble_eq_true rfl⟩) ⟨En.blind, cr_2 hK hP hthis.1 hthis.2, fun U hU hW => ⟨rfl, En.of hU hW hP hK hD0 hN⟩⟩ rfl rfl hl.1 rfl (lv_room (Nat.le_of_ble_eq_true rfl)) dX8_firstOffAt_31 ⟨Nat.le_of_ble_eq_true rfl, Nat.le_of_ble_eq_true rfl⟩) hS (fun q _ h => hFc q h) hFc (fun r_u_15 u_15 t9 H locs ht9 hvm hw hB hz1 hk1 hS => ?_)
            have hP := fr_keep hP hk1
            have wu_15 := hw
            clear hFc hk1 hz1 hB hw
            refine lv_aload_n hx hb dX8_firstOffAt_34 rfl (lv_at hl 2 rfl) ?_
            refine lv_iload_n hx hb dX8_firstOffAt_35 rfl (lv_at hl 3 rfl) ?_
            refine lv_iload_n hx hb dX8_firstOffAt_36 rfl (lv_at hl 0 rfl) ?_
            refine lv_iadd hx hb dX8_firstOffAt_37 ?_
            refine lv_topi (fun v_16 ev_16 => ?_)
            have q_17 : v_16.toInt = n3.toInt + x3_10.toInt := ow_add ev_16 (by omega) (by omega)
            have hFc := fr_new hS hA
            refine va_calli (va_runV (As := [.int v_16]) (rest := [.int r_u_15]) ⟨hx, hb, hml, hown, ht⟩ (c_rise2 l G cy _ L K R T I E J B song v_16 hRT hI hE h_song.1 h_song.2) (cwV 1 ht (gv k_396 k_397 k_398 k_399 k_395) rfl rfl rfl (by decide +kernel) ⟨Nat.le_of_ble_eq_true rfl, Nat.le_of_ble_eq_true rfl⟩) ⟨En.blind, cr_2 hK hP h_song.1 h_song.2, fun U hU hW => ⟨rfl, En.of hU hW hP hK hD0 hN⟩⟩ rfl rfl hl.1 rfl (lv_room (Nat.le_of_ble_eq_true rfl)) dX8_firstOffAt_38 ⟨Nat.le_of_ble_eq_true rfl, Nat.le_of_ble_eq_true rfl⟩) hS (fun q _ h => hFc q h) hFc (fun r_u_18 u_18 t9 H locs ht9 hvm hw hB hz1 hk1 hS => ?_)
            have hP := fr_keep hP hk1
            have wu_18 := hw
            clear hFc hk1 hz1 hB hw
            refine lv_icmp_ne (tgt := 54) hx hb dX8_firstOffAt_41 (by decide) (fun c_19 => ?_) (fun c_19 => ?_)
            · have q_20 : ¬ r_u_15.toInt = r_u_18.toInt := by have := (not_congr (ow_eq _ _)).mp c_19; omega
              refine lv_iload_n hx hb dX8_firstOffAt_54 rfl (lv_at hl 0 rfl) ?_
              refine W.widen (k := 0) (n := 0) (Nat.le_of_ble_eq_true rfl) (Nat.le_of_ble_eq_true rfl) ?_
              exact W.iret (v := x3_10) hx hb hr (fun t ht9 hW => ⟨⟨x3_10, (), rfl, trivial, trivial⟩, hS.F ht9⟩) hS.2.2 dX8_firstOffAt_55
            · have q_21 : r_u_15.toInt = r_u_18.toInt := (ow_eq _ _).mp c_19
              refine lv_aload_n hx hb dX8_firstOffAt_44 rfl (lv_at hl 1 rfl) ?_
              refine lv_iload_n hx hb dX8_firstOffAt_45 rfl (lv_at hl 0 rfl) ?_
              refine lv_aload_n hx hb dX8_firstOffAt_46 rfl (lv_at hl 2 rfl) ?_
              refine lv_iload_n hx hb dX8_firstOffAt_47 rfl (lv_at hl 3 rfl) ?_
              have hFc := fr_new hS hA
              refine va_calli (va_runV (As := [.int x3_10, .ref song, .int n3]) (rest := []) ⟨hx, hb, hml, hown, ht⟩ (c_pace2 l G cy _ L K R T I E J B this x3_10 song n3 hRT hI hE hthis.1 hthis.2 (by omega) h_song.1 h_song.2 (by omega) (show x3_10.toInt < (I this 2).toInt from by omega) (show n3.toInt + x3_10.toInt < (I song 2).toInt from by omega)) (cwV 3 ht (gv k_405 k_406 k_407 k_399 k_404) rfl rfl rfl (by decide +kernel) ⟨Nat.le_of_ble_eq_true rfl, Nat.le_of_ble_eq_true rfl⟩) ⟨En.blind, cr_2 hK hP hthis.1 hthis.2, fun U hU hW => ⟨rfl, En.of hU hW hP hK hD0 hN⟩⟩ rfl rfl hl.1 rfl (lv_room (Nat.le_of_ble_eq_true rfl)) dX8_firstOffAt_48 ⟨Nat.le_of_ble_eq_true rfl, Nat.le_of_ble_eq_true rfl⟩) hS (fun q _ h => hFc q h) hFc (fun r_u_22 u_22 t9 H locs ht9 hvm hw hB hz1 hk1 hS => ?_)
              have hP := fr_keep hP hk1
              have wu_22 := hw
              clear hFc hk1 hz1 hB hw
              refine lv_if_eq (tgt := 56) hx hb dX8_firstOffAt_51 (by decide) (fun c_23 => ?_) (fun c_23 => ?_)
              · have q_24 : r_u_22.toInt = (0 : Int32).toInt := (ow_eq _ _).mp c_23
                obtain ⟨v_25, ev_25⟩ : ∃ y : Int32, y = x3_10 + 1 := ⟨_, rfl⟩
                refine lv_iinc (v := v_25) (lv' := [(3, .int v_25), (0, .ref this), (1, .ref song), (2, .int n3)]) hx hb dX8_firstOffAt_56 hl (k := 0) rfl (by rw [ev_25]; rfl) (by decide) rfl (fun ls hl => ?_)
                have q_26 : v_25.toInt = x3_10.toInt + 1 := by have := ow_add ev_25 (by omega) (by omega); omega
                refine lv_goto (tgt := 21) hx hb dX8_firstOffAt_59 (by decide) ?_
                refine W.widen (k := 0) (n := 0) (Nat.le_of_ble_eq_true rfl) (Nat.le_of_ble_eq_true rfl) ?_
                exact ih_10 v_25 _ _ _ (by omega) (by omega) hP hS (lv_sub hl [0, 1, 2, 3] rfl)
              · have q_27 : ¬ r_u_22.toInt = (0 : Int32).toInt := by have := (not_congr (ow_eq _ _)).mp c_23; omega
                refine lv_iload_n hx hb dX8_firstOffAt_54 rfl (lv_at hl 0 rfl) ?_
                refine W.widen (k := 0) (n := 0) (Nat.le_of_ble_eq_true rfl) (Nat.le_of_ble_eq_true rfl) ?_
                exact W.iret (v := x3_10) hx hb hr (fun t ht9 hW => ⟨⟨x3_10, (), rfl, trivial, trivial⟩, hS.F ht9⟩) hS.2.2 dX8_firstOffAt_55
      exact lp_10 _ (1) _ _ _ (by omega) (Nat.lt_succ_self _) hP hS (lv_sub hl [0, 1, 2, 3] rfl)
    · have q_28 : v_6.toInt < n3.toInt := by have := (not_congr (ow_le _ _)).mp c_8; omega
      refine lv_iconst (v := (-1)) hx hb dX8_firstOffAt_17 (by decide) ?_
      refine W.widen (k := 0) (n := 0) (Nat.le_of_ble_eq_true rfl) (Nat.le_of_ble_eq_true rfl) ?_
      exact W.iret (v := (-1)) hx hb hr (fun t ht9 hW => ⟨⟨(-1), (), rfl, trivial, trivial⟩, hS.F ht9⟩) hS.2.2 dX8_firstOffAt_18
set_option maxHeartbeats 4000000 in
set_option maxRecDepth 100000 in
theorem c_offF3 (l : Launch) (G : va_G) (cy : Nat → ClassId) (sz : Nat) (L : List Nat) (K : Nat → Nat) (R : Nat → Nat → Nat) (T : Int) (I E : Nat → Nat → Int32) (J B : Nat → Nat → Int64) (this : Nat) (n : Int32) (song : Nat) (n3 : Int32) (hRT : RT L K R) (hI : IV T L K I) (hE : EV L K E) (hthis1 : this ∈ L) (hthis2 : K this = 2) (h_song1 : song ∈ L) (h_song2 : K song = 3) : Met l yX8_offOfFirst (.code yX8_offOfFirst cX8_offOfFirst 6 (some .int) :: TBg) ({ frames := 2, cells := 0, slots := 0, locals := 128 }) (va_Pc [.ref this, .int n, .ref song, .int n3] (En G cy (WC cy L K R I J E B) sz)) (va_Qi (fun (r : Int32) (_ : Unit) => True) (fun _ _ => True) (va_A [] sz)) 0 0 (va_A [] sz) := by
  have hthis : this ∈ L ∧ K this = 2 := ⟨hthis1, hthis2⟩
  have h_song : song ∈ L ∧ K song = 3 := ⟨h_song1, h_song2⟩
  refine Met.ofW (cc := cX8_offOfFirst) (maxL := 6) (ret := (some .int)) (by decide) rfl ?_
  intro p e s m args below meth c s₁ B9 hml hv9
  obtain ⟨rfl, hsz, hP, hK, hD0, hN⟩ := hv9
  have hx := B9.exec
  have hb := B9.bytes
  have hr := B9.returns
  have hts := atoms_spec (ws := .code yX8_offOfFirst cX8_offOfFirst 6 (some .int) :: TBg) B9.pre
  have ht : ∀ w ∈ TBg, w.before _ s = true := fun w h => hts w (List.mem_cons_of_mem _ h)
  have hown : s.vm.findClass RX8 = some m.cls := findClass_of_methodNamed B9.named
  have hlocks := B9.notSynchronized
  subst hsz
  generalize hAe : va_A [] s.heap.size = A at ⊢
  have hA : ∀ q : Nat, s.heap.size ≤ q → A q := fun q h => by rw [← hAe]; exact Or.inr h
  have hS : va_S A s.heap s.heap [] := va_S.rf
  have hl := lv_entry ([.ref this, .int n, .ref song, .int n3]) (n := 6) (Nat.le_of_ble_eq_true rfl)
  rw [lg_entry_eq]
  generalize (lg_sl ([.ref this, .int n, .ref song, .int n3]) ++ List.replicate (6 - (lg_sl ([.ref this, .int n, .ref song, .int n3])).length) Slot.unset).toArray = ls at hl ⊢
  have hl : lv_has ls 6 [(0, .ref this), (1, .int n), (2, .ref song), (3, .int n3)] := hl
  have z0 : (-1 : Int32).toInt = -1 := by decide
  have z1 : (0 : Int32).toInt = 0 := by decide
  have z2 : (1 : Int32).toInt = 1 := by decide
  refine lv_iload_n hx hb dX8_offOfFirst_0 rfl (lv_at hl 1 rfl) ?_
  refine lv_iconst (v := 1) hx hb dX8_offOfFirst_1 (by decide) ?_
  refine lv_icmp_lt (tgt := 27) hx hb dX8_offOfFirst_2 (by decide) (fun c_1 => ?_) (fun c_1 => ?_)
  · have q_2 : n.toInt < (1 : Int32).toInt := (ow_lt _ _).mp c_1
    refine lv_iconst (v := (-1)) hx hb dX8_offOfFirst_27 (by decide) ?_
    refine W.widen (k := 0) (n := 0) (Nat.le_of_ble_eq_true rfl) (Nat.le_of_ble_eq_true rfl) ?_
    exact W.iret (v := (-1)) hx hb hr (fun t ht9 hW => ⟨⟨(-1), (), rfl, trivial, trivial⟩, hS.F ht9⟩) hS.2.2 dX8_offOfFirst_28
  · have q_3 : (1 : Int32).toInt ≤ n.toInt := by have := (not_congr (ow_lt _ _)).mp c_1; omega
    refine lv_iload_n hx hb dX8_offOfFirst_5 rfl (lv_at hl 1 rfl) ?_
    refine lv_aload_n hx hb dX8_offOfFirst_6 rfl (lv_at hl 0 rfl) ?_
    refine cg_2_2_8 hx hb ht hown hK hN hP hthis.1 hthis.2 dX8_offOfFirst_7 ?_
    have q_4 : 0 ≤ (I this 2).toInt ∧ (I this 2).toInt ≤ 12 := IV.rd hI hthis.1 hthis.2 2
    refine lv_icmp_gt (tgt := 27) hx hb dX8_offOfFirst_10 (by decide) (fun c_5 => ?_) (fun c_5 => ?_)
    · have q_6 : (I this 2).toInt < n.toInt := (ow_lt _ _).mp c_5
      refine lv_iconst (v := (-1)) hx hb dX8_offOfFirst_27 (by decide) ?_
      refine W.widen (k := 0) (n := 0) (Nat.le_of_ble_eq_true rfl) (Nat.le_of_ble_eq_true rfl) ?_
      exact W.iret (v := (-1)) hx hb hr (fun t ht9 hW => ⟨⟨(-1), (), rfl, trivial, trivial⟩, hS.F ht9⟩) hS.2.2 dX8_offOfFirst_28
    · have q_7 : n.toInt ≤ (I this 2).toInt := by have := (not_congr (ow_lt _ _)).mp c_5; omega
      refine lv_iload_n hx hb dX8_offOfFirst_13 rfl (lv_at hl 3 rfl) ?_
      refine lv_if_lt (tgt := 27) hx hb dX8_offOfFirst_14 (by decide) (fun c_8 => ?_) (fun c_8 => ?_)
      · have q_9 : n3.toInt < (0 : Int32).toInt := (ow_lt _ _).mp c_8
        refine lv_iconst (v := (-1)) hx hb dX8_offOfFirst_27 (by decide) ?_
        refine W.widen (k := 0) (n := 0) (Nat.le_of_ble_eq_true rfl) (Nat.le_of_ble_eq_true rfl) ?_
        exact W.iret (v := (-1)) hx hb hr (fun t ht9 hW => ⟨⟨(-1), (), rfl, trivial, trivial⟩, hS.F ht9⟩) hS.2.2 dX8_offOfFirst_28
      · have q_10 : (0 : Int32).toInt ≤ n3.toInt := by have := (not_congr (ow_lt _ _)).mp c_8; omega
        refine lv_iload_n hx hb dX8_offOfFirst_17 rfl (lv_at hl 3 rfl) ?_
        refine lv_aload_n hx hb dX8_offOfFirst_18 rfl (lv_at hl 2 rfl) ?_
        refine cg_3_2_8 hx hb ht hown hK hN hP h_song.1 h_song.2 dX8_offOfFirst_19 ?_
        have q_11 : 0 ≤ (I song 2).toInt ∧ (I song 2).toInt ≤ 40 := IV.rd hI h_song.1 h_song.2 2
        refine lv_iload_n hx hb dX8_offOfFirst_22 rfl (lv_at hl 1 rfl) ?_
        refine lv_isub hx hb dX8_offOfFirst_23 ?_
        refine lv_topi (fun v_12 ev_12 => ?_)
        have q_13 : v_12.toInt = (I song 2).toInt - n.toInt := ow_sub ev_12 (by omega) (by omega)
        refine lv_icmp_le (tgt := 29) hx hb dX8_offOfFirst_24 (by decide) (fun c_14 => ?_) (fun c_14 => ?_)
        · have q_15 : n3.toInt ≤ v_12.toInt := (ow_le _ _).mp c_14
          refine lv_iconst (v := 0) hx hb dX8_offOfFirst_29 (by decide) ?_
          refine lv_istore (lv' := [(4, .int 0), (0, .ref this), (1, .int n), (2, .ref song), (3, .int n3)]) hx hb dX8_offOfFirst_30 hl (by decide) rfl (fun ls hl => ?_)
          refine lv_iconst (v := 1) hx hb dX8_offOfFirst_32 (by decide) ?_
          refine lv_istore (lv' := [(5, .int 1), (4, .int 0), (0, .ref this), (1, .int n), (2, .ref song), (3, .int n3)]) hx hb dX8_offOfFirst_33 hl (by decide) rfl (fun ls hl => ?_)
          refine W.widen (k := 0) (n := 0) (Nat.le_of_ble_eq_true rfl) (Nat.le_of_ble_eq_true rfl) ?_
          have lp_16 : ∀ (N_16 : Nat) (x5_16 : Int32) (x4_16 : Int32) (H : Heap) (locs : List Loc) (ls : Array Slot), (1 ≤ x5_16.toInt ∧ x5_16.toInt ≤ 12) → (12 - x5_16.toInt).toNat < N_16 → va_P G vwCl (WC cy L K R I J E B) H → va_S A s.heap H locs → lv_has ls 6 [(5, .int x5_16), (4, .int x4_16), (0, .ref this), (1, .int n), (2, .ref song), (3, .int n3)] → W p l e (headSpec (.code yX8_offOfFirst cX8_offOfFirst 6 (some .int) :: TBg) ({ frames := 2, cells := 0, slots := 0, locals := 128 })).room s m ([.ref this, .int n, .ref song, .int n3] : List Value).toArray below meth c H locs 0 0 (MQ below (va_Qi (fun (r : Int32) (_ : Unit) => True) (fun _ _ => True) A) ([.ref this, .int n, .ref song, .int n3] : List Value).toArray s 0 0 A) (F0 m 35 ls []) := by
            intro N_16
            induction N_16 with
            | zero => intro x5_16 x4_16 H locs ls qf16_0 hm9 hP hS hl; exact absurd hm9 (Nat.not_lt_zero _)
            | succ N_16 ih_16 =>
              intro x5_16 x4_16 H locs ls qf16_0 hm9 hP hS hl
              refine lv_iload hx hb dX8_offOfFirst_35 (lv_at hl 0 rfl) ?_
              refine lv_iload_n hx hb dX8_offOfFirst_37 rfl (lv_at hl 3 rfl) ?_
              refine lv_icmp_ge (tgt := 79) hx hb dX8_offOfFirst_38 (by decide) (fun c_17 => ?_) (fun c_17 => ?_)
              · have q_18 : n.toInt ≤ x5_16.toInt := (ow_le _ _).mp c_17
                refine lv_iload hx hb dX8_offOfFirst_79 (lv_at hl 1 rfl) ?_
                refine W.widen (k := 0) (n := 0) (Nat.le_of_ble_eq_true rfl) (Nat.le_of_ble_eq_true rfl) ?_
                exact W.iret (v := x4_16) hx hb hr (fun t ht9 hW => ⟨⟨x4_16, (), rfl, trivial, trivial⟩, hS.F ht9⟩) hS.2.2 dX8_offOfFirst_81
              · have q_19 : x5_16.toInt < n.toInt := by have := (not_congr (ow_le _ _)).mp c_17; omega
                refine lv_iload hx hb dX8_offOfFirst_41 (lv_at hl 1 rfl) ?_
                refine lv_aload_n hx hb dX8_offOfFirst_43 rfl (lv_at hl 2 rfl) ?_
                refine lv_iload hx hb dX8_offOfFirst_44 (lv_at hl 0 rfl) ?_
                have hFc := fr_new hS hA
                refine va_calli (va_runV (As := [.int x5_16]) (rest := [.int x4_16]) ⟨hx, hb, hml, hown, ht⟩ (c_rise2 l G cy _ L K R T I E J B this x5_16 hRT hI hE hthis.1 hthis.2) (cwV 1 ht (gv k_396 k_397 k_398 k_399 k_395) rfl rfl rfl (by decide +kernel) ⟨Nat.le_of_ble_eq_true rfl, Nat.le_of_ble_eq_true rfl⟩) ⟨En.blind, cr_2 hK hP hthis.1 hthis.2, fun U hU hW => ⟨rfl, En.of hU hW hP hK hD0 hN⟩⟩ rfl rfl hl.1 rfl (lv_room (Nat.le_of_ble_eq_true rfl)) dX8_offOfFirst_46 ⟨Nat.le_of_ble_eq_true rfl, Nat.le_of_ble_eq_true rfl⟩) hS (fun q _ h => hFc q h) hFc (fun r_u_20 u_20 t9 H locs ht9 hvm hw hB hz1 hk1 hS => ?_)
                have hP := fr_keep hP hk1
                have wu_20 := hw
                clear hFc hk1 hz1 hB hw
                refine lv_aload_n hx hb dX8_offOfFirst_49 rfl (lv_at hl 4 rfl) ?_
                refine lv_iload_n hx hb dX8_offOfFirst_50 rfl (lv_at hl 5 rfl) ?_
                refine lv_iload hx hb dX8_offOfFirst_51 (lv_at hl 0 rfl) ?_
                refine lv_iadd hx hb dX8_offOfFirst_53 ?_
                refine lv_topi (fun v_21 ev_21 => ?_)
                have q_22 : v_21.toInt = n3.toInt + x5_16.toInt := ow_add ev_21 (by omega) (by omega)
                have hFc := fr_new hS hA
                refine va_calli (va_runV (As := [.int v_21]) (rest := [.int r_u_20, .int x4_16]) ⟨hx, hb, hml, hown, ht⟩ (c_rise3 l G cy _ L K R T I E J B song v_21 hRT hI hE h_song.1 h_song.2) (cwV 1 ht (gv k_396 k_397 k_398 k_399 k_395) rfl rfl rfl (by decide +kernel) ⟨Nat.le_of_ble_eq_true rfl, Nat.le_of_ble_eq_true rfl⟩) ⟨En.blind, cr_3 hK hP h_song.1 h_song.2, fun U hU hW => ⟨rfl, En.of hU hW hP hK hD0 hN⟩⟩ rfl rfl hl.1 rfl (lv_room (Nat.le_of_ble_eq_true rfl)) dX8_offOfFirst_54 ⟨Nat.le_of_ble_eq_true rfl, Nat.le_of_ble_eq_true rfl⟩) hS (fun q _ h => hFc q h) hFc (fun r_u_23 u_23 t9 H locs ht9 hvm hw hB hz1 hk1 hS => ?_)
                have hP := fr_keep hP hk1
                have wu_23 := hw
                clear hFc hk1 hz1 hB hw
                refine lv_isub hx hb dX8_offOfFirst_57 ?_
                refine lv_topi (fun v_24 ev_24 => ?_)
                refine va_mabs hx hb (by rw [hml]; exact hl.1.symm) hown (ht _ k_400) (ht _ k_401) (ht _ k_402) (ht _ k_403) (Nat.le_of_ble_eq_true rfl) (Nat.le_of_ble_eq_true rfl) (Nat.le_of_ble_eq_true rfl) (Nat.le_of_ble_eq_true rfl) dX8_offOfFirst_58 ?_
                refine lv_topi (fun v_25 ev_25 => ?_)
                refine lv_aload_n hx hb dX8_offOfFirst_61 rfl (lv_at hl 2 rfl) ?_
                refine lv_iload hx hb dX8_offOfFirst_62 (lv_at hl 0 rfl) ?_
                refine lv_aload_n hx hb dX8_offOfFirst_64 rfl (lv_at hl 4 rfl) ?_
                refine lv_iload_n hx hb dX8_offOfFirst_65 rfl (lv_at hl 5 rfl) ?_
                have hFc := fr_new hS hA
                refine va_calli (va_runV (As := [.int x5_16, .ref song, .int n3]) (rest := [.int v_25, .int x4_16]) ⟨hx, hb, hml, hown, ht⟩ (c_pace3 l G cy _ L K R T I E J B this x5_16 song n3 hRT hI hE hthis.1 hthis.2 (by omega) h_song.1 h_song.2 (by omega) (show x5_16.toInt < (I this 2).toInt from by omega) (show n3.toInt + x5_16.toInt < (I song 2).toInt from by omega)) (cwV 3 ht (gv k_405 k_406 k_407 k_399 k_404) rfl rfl rfl (by decide +kernel) ⟨Nat.le_of_ble_eq_true rfl, Nat.le_of_ble_eq_true rfl⟩) ⟨En.blind, cr_2 hK hP hthis.1 hthis.2, fun U hU hW => ⟨rfl, En.of hU hW hP hK hD0 hN⟩⟩ rfl rfl hl.1 rfl (lv_room (Nat.le_of_ble_eq_true rfl)) dX8_offOfFirst_66 ⟨Nat.le_of_ble_eq_true rfl, Nat.le_of_ble_eq_true rfl⟩) hS (fun q _ h => hFc q h) hFc (fun r_u_26 u_26 t9 H locs ht9 hvm hw hB hz1 hk1 hS => ?_)
                have hP := fr_keep hP hk1
                have wu_26 := hw
                clear hFc hk1 hz1 hB hw
                refine lv_iadd hx hb dX8_offOfFirst_69 ?_
                refine lv_topi (fun v_27 ev_27 => ?_)
                refine lv_iadd hx hb dX8_offOfFirst_70 ?_
                refine lv_topi (fun v_28 ev_28 => ?_)
                refine lv_istore (lv' := [(4, .int v_28), (5, .int x5_16), (0, .ref this), (1, .int n), (2, .ref song), (3, .int n3)]) hx hb dX8_offOfFirst_71 hl (by decide) rfl (fun ls hl => ?_)
                obtain ⟨v_29, ev_29⟩ : ∃ y : Int32, y = x5_16 + 1 := ⟨_, rfl⟩
                refine lv_iinc (v := v_29) (lv' := [(5, .int v_29), (4, .int v_28), (0, .ref this), (1, .int n), (2, .ref song), (3, .int n3)]) hx hb dX8_offOfFirst_73 hl (k := 1) rfl (by rw [ev_29]; rfl) (by decide) rfl (fun ls hl => ?_)
                have q_30 : v_29.toInt = x5_16.toInt + 1 := by have := ow_add ev_29 (by omega) (by omega); omega
                refine lv_goto (tgt := 35) hx hb dX8_offOfFirst_76 (by decide) ?_
                refine W.widen (k := 0) (n := 0) (Nat.le_of_ble_eq_true rfl) (Nat.le_of_ble_eq_true rfl) ?_
                exact ih_16 v_29 v_28 _ _ _ (by omega) (by omega) hP hS (lv_sub hl [0, 1, 2, 3, 4, 5] rfl)
          exact lp_16 _ (1) (0) _ _ _ (by omega) (Nat.lt_succ_self _) hP hS (lv_sub hl [0, 1, 2, 3, 4, 5] rfl)
        · have q_31 : v_12.toInt < n3.toInt := by have := (not_congr (ow_le _ _)).mp c_14; omega
          refine lv_iconst (v := (-1)) hx hb dX8_offOfFirst_27 (by decide) ?_
          refine W.widen (k := 0) (n := 0) (Nat.le_of_ble_eq_true rfl) (Nat.le_of_ble_eq_true rfl) ?_
          exact W.iret (v := (-1)) hx hb hr (fun t ht9 hW => ⟨⟨(-1), (), rfl, trivial, trivial⟩, hS.F ht9⟩) hS.2.2 dX8_offOfFirst_28
set_option maxHeartbeats 4000000 in
set_option maxRecDepth 100000 in
theorem c_offAt3 (l : Launch) (G : va_G) (cy : Nat → ClassId) (sz : Nat) (L : List Nat) (K : Nat → Nat) (R : Nat → Nat → Nat) (T : Int) (I E : Nat → Nat → Int32) (J B : Nat → Nat → Int64) (this : Nat) (song : Nat) (n3 : Int32) (hRT : RT L K R) (hI : IV T L K I) (hE : EV L K E) (hthis1 : this ∈ L) (hthis2 : K this = 2) (h_song1 : song ∈ L) (h_song2 : K song = 3) : Met l yX8_offAt (.code yX8_offAt cX8_offAt 3 (some .int) :: TBg) ({ frames := 3, cells := 0, slots := 0, locals := 192 }) (va_Pc [.ref this, .ref song, .int n3] (En G cy (WC cy L K R I J E B) sz)) (va_Qi (fun (r : Int32) (_ : Unit) => True) (fun _ _ => True) (va_A [] sz)) 0 0 (va_A [] sz) := by
  have hthis : this ∈ L ∧ K this = 2 := ⟨hthis1, hthis2⟩
  have h_song : song ∈ L ∧ K song = 3 := ⟨h_song1, h_song2⟩
  refine Met.ofW (cc := cX8_offAt) (maxL := 3) (ret := (some .int)) (by decide) rfl ?_
  intro p e s m args below meth c s₁ B9 hml hv9
  obtain ⟨rfl, hsz, hP, hK, hD0, hN⟩ := hv9
  have hx := B9.exec
  have hb := B9.bytes
  have hr := B9.returns
  have hts := atoms_spec (ws := .code yX8_offAt cX8_offAt 3 (some .int) :: TBg) B9.pre
  have ht : ∀ w ∈ TBg, w.before _ s = true := fun w h => hts w (List.mem_cons_of_mem _ h)
  have hown : s.vm.findClass RX8 = some m.cls := findClass_of_methodNamed B9.named
  have hlocks := B9.notSynchronized
  subst hsz
  generalize hAe : va_A [] s.heap.size = A at ⊢
  have hA : ∀ q : Nat, s.heap.size ≤ q → A q := fun q h => by rw [← hAe]; exact Or.inr h
  have hS : va_S A s.heap s.heap [] := va_S.rf
  have hl := lv_entry ([.ref this, .ref song, .int n3]) (n := 3) (Nat.le_of_ble_eq_true rfl)
  rw [lg_entry_eq]
  generalize (lg_sl ([.ref this, .ref song, .int n3]) ++ List.replicate (3 - (lg_sl ([.ref this, .ref song, .int n3])).length) Slot.unset).toArray = ls at hl ⊢
  have hl : lv_has ls 3 [(0, .ref this), (1, .ref song), (2, .int n3)] := hl
  refine lv_aload_n hx hb dX8_offAt_0 rfl (lv_at hl 0 rfl) ?_
  refine lv_aload_n hx hb dX8_offAt_1 rfl (lv_at hl 0 rfl) ?_
  refine cg_2_2_8 hx hb ht hown hK hN hP hthis.1 hthis.2 dX8_offAt_2 ?_
  have q_1 : 0 ≤ (I this 2).toInt ∧ (I this 2).toInt ≤ 12 := IV.rd hI hthis.1 hthis.2 2
  refine lv_aload_n hx hb dX8_offAt_5 rfl (lv_at hl 1 rfl) ?_
  refine lv_iload_n hx hb dX8_offAt_6 rfl (lv_at hl 2 rfl) ?_
  have hFc := fr_new hS hA
  refine va_calli (va_runV (As := [.int (I this 2), .ref song, .int n3]) (rest := []) ⟨hx, hb, hml, hown, ht⟩ (c_offF3 l G cy _ L K R T I E J B this (I this 2) song n3 hRT hI hE hthis.1 hthis.2 h_song.1 h_song.2) (cwV 3 ht (gv k_409 k_410 k_411 k_399 k_408) rfl rfl rfl (by decide +kernel) ⟨Nat.le_of_ble_eq_true rfl, Nat.le_of_ble_eq_true rfl⟩) ⟨En.blind, cr_2 hK hP hthis.1 hthis.2, fun U hU hW => ⟨rfl, En.of hU hW hP hK hD0 hN⟩⟩ rfl rfl hl.1 rfl (lv_room (Nat.le_of_ble_eq_true rfl)) dX8_offAt_7 ⟨Nat.le_of_ble_eq_true rfl, Nat.le_of_ble_eq_true rfl⟩) hS (fun q _ h => hFc q h) hFc (fun r_u_2 u_2 t9 H locs ht9 hvm hw hB hz1 hk1 hS => ?_)
  have hP := fr_keep hP hk1
  have wu_2 := hw
  clear hFc hk1 hz1 hB hw
  refine W.widen (k := 0) (n := 0) (Nat.le_of_ble_eq_true rfl) (Nat.le_of_ble_eq_true rfl) ?_
  exact W.iret (v := r_u_2) hx hb hr (fun t ht9 hW => ⟨⟨r_u_2, (), rfl, trivial, trivial⟩, hS.F ht9⟩) hS.2.2 dX8_offAt_10
set_option maxHeartbeats 4000000 in
set_option maxRecDepth 100000 in
theorem c_first3 (l : Launch) (G : va_G) (cy : Nat → ClassId) (sz : Nat) (L : List Nat) (K : Nat → Nat) (R : Nat → Nat → Nat) (T : Int) (I E : Nat → Nat → Int32) (J B : Nat → Nat → Int64) (this : Nat) (song : Nat) (n3 : Int32) (hRT : RT L K R) (hI : IV T L K I) (hE : EV L K E) (hthis1 : this ∈ L) (hthis2 : K this = 2) (h_song1 : song ∈ L) (h_song2 : K song = 3) : Met l yX8_firstOffAt (.code yX8_firstOffAt cX8_firstOffAt 4 (some .int) :: TBg) ({ frames := 2, cells := 0, slots := 0, locals := 128 }) (va_Pc [.ref this, .ref song, .int n3] (En G cy (WC cy L K R I J E B) sz)) (va_Qi (fun (r : Int32) (_ : Unit) => True) (fun _ _ => True) (va_A [] sz)) 0 0 (va_A [] sz) := by
  have hthis : this ∈ L ∧ K this = 2 := ⟨hthis1, hthis2⟩
  have h_song : song ∈ L ∧ K song = 3 := ⟨h_song1, h_song2⟩
  refine Met.ofW (cc := cX8_firstOffAt) (maxL := 4) (ret := (some .int)) (by decide) rfl ?_
  intro p e s m args below meth c s₁ B9 hml hv9
  obtain ⟨rfl, hsz, hP, hK, hD0, hN⟩ := hv9
  have hx := B9.exec
  have hb := B9.bytes
  have hr := B9.returns
  have hts := atoms_spec (ws := .code yX8_firstOffAt cX8_firstOffAt 4 (some .int) :: TBg) B9.pre
  have ht : ∀ w ∈ TBg, w.before _ s = true := fun w h => hts w (List.mem_cons_of_mem _ h)
  have hown : s.vm.findClass RX8 = some m.cls := findClass_of_methodNamed B9.named
  have hlocks := B9.notSynchronized
  subst hsz
  generalize hAe : va_A [] s.heap.size = A at ⊢
  have hA : ∀ q : Nat, s.heap.size ≤ q → A q := fun q h => by rw [← hAe]; exact Or.inr h
  have hS : va_S A s.heap s.heap [] := va_S.rf
  have hl := lv_entry ([.ref this, .ref song, .int n3]) (n := 4) (Nat.le_of_ble_eq_true rfl)
  rw [lg_entry_eq]
  generalize (lg_sl ([.ref this, .ref song, .int n3]) ++ List.replicate (4 - (lg_sl ([.ref this, .ref song, .int n3])).length) Slot.unset).toArray = ls at hl ⊢
  have hl : lv_has ls 4 [(0, .ref this), (1, .ref song), (2, .int n3)] := hl
  have z0 : (-1 : Int32).toInt = -1 := by decide
  have z1 : (0 : Int32).toInt = 0 := by decide
  have z2 : (1 : Int32).toInt = 1 := by decide
  refine lv_iload_n hx hb dX8_firstOffAt_0 rfl (lv_at hl 2 rfl) ?_
  refine lv_if_lt (tgt := 17) hx hb dX8_firstOffAt_1 (by decide) (fun c_1 => ?_) (fun c_1 => ?_)
  · have q_2 : n3.toInt < (0 : Int32).toInt := (ow_lt _ _).mp c_1
    refine lv_iconst (v := (-1)) hx hb dX8_firstOffAt_17 (by decide) ?_
    refine W.widen (k := 0) (n := 0) (Nat.le_of_ble_eq_true rfl) (Nat.le_of_ble_eq_true rfl) ?_
    exact W.iret (v := (-1)) hx hb hr (fun t ht9 hW => ⟨⟨(-1), (), rfl, trivial, trivial⟩, hS.F ht9⟩) hS.2.2 dX8_firstOffAt_18
  · have q_3 : (0 : Int32).toInt ≤ n3.toInt := by have := (not_congr (ow_lt _ _)).mp c_1; omega
    refine lv_iload_n hx hb dX8_firstOffAt_4 rfl (lv_at hl 2 rfl) ?_
    refine lv_aload_n hx hb dX8_firstOffAt_5 rfl (lv_at hl 1 rfl) ?_
    refine cg_3_2_8 hx hb ht hown hK hN hP h_song.1 h_song.2 dX8_firstOffAt_6 ?_
    have q_4 : 0 ≤ (I song 2).toInt ∧ (I song 2).toInt ≤ 40 := IV.rd hI h_song.1 h_song.2 2
    refine lv_aload_n hx hb dX8_firstOffAt_9 rfl (lv_at hl 0 rfl) ?_
    refine cg_2_2_8 hx hb ht hown hK hN hP hthis.1 hthis.2 dX8_firstOffAt_10 ?_
    have q_5 : 0 ≤ (I this 2).toInt ∧ (I this 2).toInt ≤ 12 := IV.rd hI hthis.1 hthis.2 2
    refine lv_isub hx hb dX8_firstOffAt_13 ?_
    refine lv_topi (fun v_6 ev_6 => ?_)
    have q_7 : v_6.toInt = (I song 2).toInt - (I this 2).toInt := ow_sub ev_6 (by omega) (by omega)
    refine lv_icmp_le (tgt := 19) hx hb dX8_firstOffAt_14 (by decide) (fun c_8 => ?_) (fun c_8 => ?_)
    · have q_9 : n3.toInt ≤ v_6.toInt := (ow_le _ _).mp c_8
      refine lv_iconst (v := 1) hx hb dX8_firstOffAt_19 (by decide) ?_
      refine lv_istore_n (lv' := [(3, .int 1), (0, .ref this), (1, .ref song), (2, .int n3)]) hx hb dX8_firstOffAt_20 rfl hl (by decide) rfl (fun ls hl => ?_)
      refine W.widen (k := 0) (n := 0) (Nat.le_of_ble_eq_true rfl) (Nat.le_of_ble_eq_true rfl) ?_
      have lp_10 : ∀ (N_10 : Nat) (x3_10 : Int32) (H : Heap) (locs : List Loc) (ls : Array Slot), (1 ≤ x3_10.toInt ∧ x3_10.toInt ≤ 12) → (12 - x3_10.toInt).toNat < N_10 → va_P G vwCl (WC cy L K R I J E B) H → va_S A s.heap H locs → lv_has ls 4 [(3, .int x3_10), (0, .ref this), (1, .ref song), (2, .int n3)] → W p l e (headSpec (.code yX8_firstOffAt cX8_firstOffAt 4 (some .int) :: TBg) ({ frames := 2, cells := 0, slots := 0, locals := 128 })).room s m ([.ref this, .ref song, .int n3] : List Value).toArray below meth c H locs 0 0 (MQ below (va_Qi (fun (r : Int32) (_ : Unit) => True) (fun _ _ => True) A) ([.ref this, .ref song, .int n3] : List Value).toArray s 0 0 A) (F0 m 21 ls []) := by
        intro N_10
        induction N_10 with
        | zero => intro x3_10 H locs ls qf10_0 hm9 hP hS hl; exact absurd hm9 (Nat.not_lt_zero _)
        | succ N_10 ih_10 =>
          intro x3_10 H locs ls qf10_0 hm9 hP hS hl
          refine lv_iload_n hx hb dX8_firstOffAt_21 rfl (lv_at hl 0 rfl) ?_
          refine lv_aload_n hx hb dX8_firstOffAt_22 rfl (lv_at hl 1 rfl) ?_
          refine cg_2_2_8 hx hb ht hown hK hN hP hthis.1 hthis.2 dX8_firstOffAt_23 ?_
          have q_11 : 0 ≤ (I this 2).toInt ∧ (I this 2).toInt ≤ 12 := IV.rd hI hthis.1 hthis.2 2
          refine lv_icmp_ge (tgt := 62) hx hb dX8_firstOffAt_26 (by decide) (fun c_12 => ?_) (fun c_12 => ?_)
          · have q_13 : (I this 2).toInt ≤ x3_10.toInt := (ow_le _ _).mp c_12
            refine lv_iconst (v := (-1)) hx hb dX8_firstOffAt_62 (by decide) ?_
            refine W.widen (k := 0) (n := 0) (Nat.le_of_ble_eq_true rfl) (Nat.le_of_ble_eq_true rfl) ?_
            exact W.iret (v := (-1)) hx hb hr (fun t ht9 hW => ⟨⟨(-1), (), rfl, trivial, trivial⟩, hS.F ht9⟩) hS.2.2 dX8_firstOffAt_63
          · have q_14 : x3_10.toInt < (I this 2).toInt := by have := (not_congr (ow_le _ _)).mp c_12; omega
            refine lv_aload_n hx hb dX8_firstOffAt_29 rfl (lv_at hl 1 rfl) ?_
            refine lv_iload_n hx hb dX8_firstOffAt_30 rfl (lv_at hl 0 rfl) ?_
            have hFc := fr_new hS hA
            refine va_calli (va_runV (As := [.int x3_10]) (rest := []) ⟨hx, hb, hml, hown, ht⟩ (c_rise2 l G cy _ L K R T I E J B this x3_10 hRT hI hE hthis.1 hthis.2) (cwV 1 ht (gv k_396 k_397 k_398 k_399 k_395) rfl rfl rfl (by decide +kernel) ⟨Nat.le_of_ble_eq_true rfl, Nat.le_of_ble_eq_true rfl⟩) ⟨En.blind, cr_2 hK hP hthis.1 hthis.2, fun U hU hW => ⟨rfl, En.of hU hW hP hK hD0 hN⟩⟩ rfl rfl hl.1 rfl (lv_room (Nat.le_of_ble_eq_true rfl)) dX8_firstOffAt_31 ⟨Nat.le_of_ble_eq_true rfl, Nat.le_of_ble_eq_true rfl⟩) hS (fun q _ h => hFc q h) hFc (fun r_u_15 u_15 t9 H locs ht9 hvm hw hB hz1 hk1 hS => ?_)
            have hP := fr_keep hP hk1
            have wu_15 := hw
            clear hFc hk1 hz1 hB hw
            refine lv_aload_n hx hb dX8_firstOffAt_34 rfl (lv_at hl 2 rfl) ?_
            refine lv_iload_n hx hb dX8_firstOffAt_35 rfl (lv_at hl 3 rfl) ?_
            refine lv_iload_n hx hb dX8_firstOffAt_36 rfl (lv_at hl 0 rfl) ?_
            refine lv_iadd hx hb dX8_firstOffAt_37 ?_
            refine lv_topi (fun v_16 ev_16 => ?_)
            have q_17 : v_16.toInt = n3.toInt + x3_10.toInt := ow_add ev_16 (by omega) (by omega)
            have hFc := fr_new hS hA
            refine va_calli (va_runV (As := [.int v_16]) (rest := [.int r_u_15]) ⟨hx, hb, hml, hown, ht⟩ (c_rise3 l G cy _ L K R T I E J B song v_16 hRT hI hE h_song.1 h_song.2) (cwV 1 ht (gv k_396 k_397 k_398 k_399 k_395) rfl rfl rfl (by decide +kernel) ⟨Nat.le_of_ble_eq_true rfl, Nat.le_of_ble_eq_true rfl⟩) ⟨En.blind, cr_3 hK hP h_song.1 h_song.2, fun U hU hW => ⟨rfl, En.of hU hW hP hK hD0 hN⟩⟩ rfl rfl hl.1 rfl (lv_room (Nat.le_of_ble_eq_true rfl)) dX8_firstOffAt_38 ⟨Nat.le_of_ble_eq_true rfl, Nat.le_of_ble_eq_true rfl⟩) hS (fun q _ h => hFc q h) hFc (fun r_u_18 u_18 t9 H locs ht9 hvm hw hB hz1 hk1 hS => ?_)
            have hP := fr_keep hP hk1
            have wu_18 := hw
            clear hFc hk1 hz1 hB hw
            refine lv_icmp_ne (tgt := 54) hx hb dX8_firstOffAt_41 (by decide) (fun c_19 => ?_) (fun c_19 => ?_)
            · have q_20 : ¬ r_u_15.toInt = r_u_18.toInt := by have := (not_congr (ow_eq _ _)).mp c_19; omega
              refine lv_iload_n hx hb dX8_firstOffAt_54 rfl (lv_at hl 0 rfl) ?_
              refine W.widen (k := 0) (n := 0) (Nat.le_of_ble_eq_true rfl) (Nat.le_of_ble_eq_true rfl) ?_
              exact W.iret (v := x3_10) hx hb hr (fun t ht9 hW => ⟨⟨x3_10, (), rfl, trivial, trivial⟩, hS.F ht9⟩) hS.2.2 dX8_firstOffAt_55
            · have q_21 : r_u_15.toInt = r_u_18.toInt := (ow_eq _ _).mp c_19
              refine lv_aload_n hx hb dX8_firstOffAt_44 rfl (lv_at hl 1 rfl) ?_
              refine lv_iload_n hx hb dX8_firstOffAt_45 rfl (lv_at hl 0 rfl) ?_
              refine lv_aload_n hx hb dX8_firstOffAt_46 rfl (lv_at hl 2 rfl) ?_
              refine lv_iload_n hx hb dX8_firstOffAt_47 rfl (lv_at hl 3 rfl) ?_
              have hFc := fr_new hS hA
              refine va_calli (va_runV (As := [.int x3_10, .ref song, .int n3]) (rest := []) ⟨hx, hb, hml, hown, ht⟩ (c_pace3 l G cy _ L K R T I E J B this x3_10 song n3 hRT hI hE hthis.1 hthis.2 (by omega) h_song.1 h_song.2 (by omega) (show x3_10.toInt < (I this 2).toInt from by omega) (show n3.toInt + x3_10.toInt < (I song 2).toInt from by omega)) (cwV 3 ht (gv k_405 k_406 k_407 k_399 k_404) rfl rfl rfl (by decide +kernel) ⟨Nat.le_of_ble_eq_true rfl, Nat.le_of_ble_eq_true rfl⟩) ⟨En.blind, cr_2 hK hP hthis.1 hthis.2, fun U hU hW => ⟨rfl, En.of hU hW hP hK hD0 hN⟩⟩ rfl rfl hl.1 rfl (lv_room (Nat.le_of_ble_eq_true rfl)) dX8_firstOffAt_48 ⟨Nat.le_of_ble_eq_true rfl, Nat.le_of_ble_eq_true rfl⟩) hS (fun q _ h => hFc q h) hFc (fun r_u_22 u_22 t9 H locs ht9 hvm hw hB hz1 hk1 hS => ?_)
              have hP := fr_keep hP hk1
              have wu_22 := hw
              clear hFc hk1 hz1 hB hw
              refine lv_if_eq (tgt := 56) hx hb dX8_firstOffAt_51 (by decide) (fun c_23 => ?_) (fun c_23 => ?_)
              · have q_24 : r_u_22.toInt = (0 : Int32).toInt := (ow_eq _ _).mp c_23
                obtain ⟨v_25, ev_25⟩ : ∃ y : Int32, y = x3_10 + 1 := ⟨_, rfl⟩
                refine lv_iinc (v := v_25) (lv' := [(3, .int v_25), (0, .ref this), (1, .ref song), (2, .int n3)]) hx hb dX8_firstOffAt_56 hl (k := 0) rfl (by rw [ev_25]; rfl) (by decide) rfl (fun ls hl => ?_)
                have q_26 : v_25.toInt = x3_10.toInt + 1 := by have := ow_add ev_25 (by omega) (by omega); omega
                refine lv_goto (tgt := 21) hx hb dX8_firstOffAt_59 (by decide) ?_
                refine W.widen (k := 0) (n := 0) (Nat.le_of_ble_eq_true rfl) (Nat.le_of_ble_eq_true rfl) ?_
                exact ih_10 v_25 _ _ _ (by omega) (by omega) hP hS (lv_sub hl [0, 1, 2, 3] rfl)
              · have q_27 : ¬ r_u_22.toInt = (0 : Int32).toInt := by have := (not_congr (ow_eq _ _)).mp c_23; omega
                refine lv_iload_n hx hb dX8_firstOffAt_54 rfl (lv_at hl 0 rfl) ?_
                refine W.widen (k := 0) (n := 0) (Nat.le_of_ble_eq_true rfl) (Nat.le_of_ble_eq_true rfl) ?_
                exact W.iret (v := x3_10) hx hb hr (fun t ht9 hW => ⟨⟨x3_10, (), rfl, trivial, trivial⟩, hS.F ht9⟩) hS.2.2 dX8_firstOffAt_55
      exact lp_10 _ (1) _ _ _ (by omega) (Nat.lt_succ_self _) hP hS (lv_sub hl [0, 1, 2, 3] rfl)
    · have q_28 : v_6.toInt < n3.toInt := by have := (not_congr (ow_le _ _)).mp c_8; omega
      refine lv_iconst (v := (-1)) hx hb dX8_firstOffAt_17 (by decide) ?_
      refine W.widen (k := 0) (n := 0) (Nat.le_of_ble_eq_true rfl) (Nat.le_of_ble_eq_true rfl) ?_
      exact W.iret (v := (-1)) hx hb hr (fun t ht9 hW => ⟨⟨(-1), (), rfl, trivial, trivial⟩, hS.F ht9⟩) hS.2.2 dX8_firstOffAt_18
set_option maxHeartbeats 4000000 in
set_option maxRecDepth 100000 in
theorem c_reach (l : Launch) (G : va_G) (cy : Nat → ClassId) (sz : Nat) (L : List Nat) (K : Nat → Nat) (R : Nat → Nat → Nat) (T : Int) (I E : Nat → Nat → Int32) (J B : Nat → Nat → Int64) (this : Nat) (n : Int32) (n2 : Int32) (hRT : RT L K R) (hI : IV T L K I) (hE : EV L K E) (hthis1 : this ∈ L) (hthis2 : K this = 2) : Met l yX8_reachOf (.code yX8_reachOf cX8_reachOf 3 (some .int) :: TBg) ({ frames := 1, cells := 0, slots := 0, locals := 64 }) (va_Pc [.ref this, .int n, .int n2] (En G cy (WC cy L K R I J E B) sz)) (va_Qi (fun (r : Int32) (_ : Unit) => (0 ≤ r.toInt ∧ r.toInt ≤ 1)) (fun _ _ => True) (va_A [] sz)) 0 0 (va_A [] sz) := by
  have hthis : this ∈ L ∧ K this = 2 := ⟨hthis1, hthis2⟩
  refine Met.ofW (cc := cX8_reachOf) (maxL := 3) (ret := (some .int)) (by decide) rfl ?_
  intro p e s m args below meth c s₁ B9 hml hv9
  obtain ⟨rfl, hsz, hP, hK, hD0, hN⟩ := hv9
  have hx := B9.exec
  have hb := B9.bytes
  have hr := B9.returns
  have hts := atoms_spec (ws := .code yX8_reachOf cX8_reachOf 3 (some .int) :: TBg) B9.pre
  have ht : ∀ w ∈ TBg, w.before _ s = true := fun w h => hts w (List.mem_cons_of_mem _ h)
  have hown : s.vm.findClass RX8 = some m.cls := findClass_of_methodNamed B9.named
  have hlocks := B9.notSynchronized
  subst hsz
  generalize hAe : va_A [] s.heap.size = A at ⊢
  have hA : ∀ q : Nat, s.heap.size ≤ q → A q := fun q h => by rw [← hAe]; exact Or.inr h
  have hS : va_S A s.heap s.heap [] := va_S.rf
  have hl := lv_entry ([.ref this, .int n, .int n2]) (n := 3) (Nat.le_of_ble_eq_true rfl)
  rw [lg_entry_eq]
  generalize (lg_sl ([.ref this, .int n, .int n2]) ++ List.replicate (3 - (lg_sl ([.ref this, .int n, .int n2])).length) Slot.unset).toArray = ls at hl ⊢
  have hl : lv_has ls 3 [(0, .ref this), (1, .int n), (2, .int n2)] := hl
  have z0 : (0 : Int32).toInt = 0 := by decide
  have z1 : (1 : Int32).toInt = 1 := by decide
  refine lv_iload_n hx hb dX8_reachOf_0 rfl (lv_at hl 1 rfl) ?_
  refine lv_if_lt (tgt := 29) hx hb dX8_reachOf_1 (by decide) (fun c_1 => ?_) (fun c_1 => ?_)
  · have q_2 : n.toInt < (0 : Int32).toInt := (ow_lt _ _).mp c_1
    refine lv_iconst (v := 0) hx hb dX8_reachOf_29 (by decide) ?_
    refine W.widen (k := 0) (n := 0) (Nat.le_of_ble_eq_true rfl) (Nat.le_of_ble_eq_true rfl) ?_
    exact W.iret (v := 0) hx hb hr (fun t ht9 hW => ⟨⟨0, (), rfl, (by omega), trivial⟩, hS.F ht9⟩) hS.2.2 dX8_reachOf_30
  · have q_3 : (0 : Int32).toInt ≤ n.toInt := by have := (not_congr (ow_lt _ _)).mp c_1; omega
    refine lv_iload_n hx hb dX8_reachOf_4 rfl (lv_at hl 1 rfl) ?_
    refine lv_aload_n hx hb dX8_reachOf_5 rfl (lv_at hl 0 rfl) ?_
    refine cg_2_2_8 hx hb ht hown hK hN hP hthis.1 hthis.2 dX8_reachOf_6 ?_
    have q_4 : 0 ≤ (I this 2).toInt ∧ (I this 2).toInt ≤ 12 := IV.rd hI hthis.1 hthis.2 2
    refine lv_icmp_ge (tgt := 29) hx hb dX8_reachOf_9 (by decide) (fun c_5 => ?_) (fun c_5 => ?_)
    · have q_6 : (I this 2).toInt ≤ n.toInt := (ow_le _ _).mp c_5
      refine lv_iconst (v := 0) hx hb dX8_reachOf_29 (by decide) ?_
      refine W.widen (k := 0) (n := 0) (Nat.le_of_ble_eq_true rfl) (Nat.le_of_ble_eq_true rfl) ?_
      exact W.iret (v := 0) hx hb hr (fun t ht9 hW => ⟨⟨0, (), rfl, (by omega), trivial⟩, hS.F ht9⟩) hS.2.2 dX8_reachOf_30
    · have q_7 : n.toInt < (I this 2).toInt := by have := (not_congr (ow_le _ _)).mp c_5; omega
      refine lv_aload_n hx hb dX8_reachOf_12 rfl (lv_at hl 0 rfl) ?_
      refine cg_2_0_8 hx hb ht hown hK hN hP hthis.1 hthis.2 dX8_reachOf_13 ?_
      have hm_8 : (R this 0) ∈ L ∧ K (R this 0) = 21 := RT.o hRT hthis.1 hthis.2 0 (by decide)
      refine lv_iload_n hx hb dX8_reachOf_16 rfl (lv_at hl 1 rfl) ?_
      have q_9 : vp_in n 12 := vp_in_iff.mpr ⟨by omega, by omega⟩
      refine cl_21 hx hb hK hP hm_8.1 hm_8.2 q_9 dX8_reachOf_17 ?_
      refine lv_topi (fun v_10 ev_10 => ?_)
      refine lv_bipush (v := 12) hx hb dX8_reachOf_18 (by decide) ?_
      refine lv_irem hx hb dX8_reachOf_20 (by decide) ?_
      refine lv_topi (fun v_11 ev_11 => ?_)
      refine lv_iload_n hx hb dX8_reachOf_21 rfl (lv_at hl 2 rfl) ?_
      refine lv_icmp_ne (tgt := 29) hx hb dX8_reachOf_22 (by decide) (fun c_12 => ?_) (fun c_12 => ?_)
      · have q_13 : ¬ v_11.toInt = n2.toInt := by have := (not_congr (ow_eq _ _)).mp c_12; omega
        refine lv_iconst (v := 0) hx hb dX8_reachOf_29 (by decide) ?_
        refine W.widen (k := 0) (n := 0) (Nat.le_of_ble_eq_true rfl) (Nat.le_of_ble_eq_true rfl) ?_
        exact W.iret (v := 0) hx hb hr (fun t ht9 hW => ⟨⟨0, (), rfl, (by omega), trivial⟩, hS.F ht9⟩) hS.2.2 dX8_reachOf_30
      · have q_14 : v_11.toInt = n2.toInt := (ow_eq _ _).mp c_12
        refine lv_iconst (v := 1) hx hb dX8_reachOf_25 (by decide) ?_
        refine lv_goto (tgt := 30) hx hb dX8_reachOf_26 (by decide) ?_
        refine W.widen (k := 0) (n := 0) (Nat.le_of_ble_eq_true rfl) (Nat.le_of_ble_eq_true rfl) ?_
        exact W.iret (v := 1) hx hb hr (fun t ht9 hW => ⟨⟨1, (), rfl, (by omega), trivial⟩, hS.F ht9⟩) hS.2.2 dX8_reachOf_30
set_option maxHeartbeats 4000000 in
set_option maxRecDepth 100000 in
theorem c_deafAt (l : Launch) (G : va_G) (cy : Nat → ClassId) (sz : Nat) (L : List Nat) (K : Nat → Nat) (R : Nat → Nat → Nat) (T : Int) (I E : Nat → Nat → Int32) (J B : Nat → Nat → Int64) (this : Nat) (song : Nat) (n3 : Int32) (n4 : Int32) (hRT : RT L K R) (hI : IV T L K I) (hE : EV L K E) (hthis1 : this ∈ L) (hthis2 : K this = 2) (h_song1 : song ∈ L) (h_song2 : K song = 2) : Met l yX8_deafOffAt (.code yX8_deafOffAt cX8_deafOffAt 13 (some .int) :: TBg) ({ frames := 2, cells := 0, slots := 0, locals := 128 }) (va_Pc [.ref this, .ref song, .int n3, .int n4] (En G cy (WC cy L K R I J E B) sz)) (va_Qi (fun (r : Int32) (_ : Unit) => True) (fun _ _ => True) (va_A [] sz)) 0 0 (va_A [] sz) := by
  have hthis : this ∈ L ∧ K this = 2 := ⟨hthis1, hthis2⟩
  have h_song : song ∈ L ∧ K song = 2 := ⟨h_song1, h_song2⟩
  refine Met.ofW (cc := cX8_deafOffAt) (maxL := 13) (ret := (some .int)) (by decide) rfl ?_
  intro p e s m args below meth c s₁ B9 hml hv9
  obtain ⟨rfl, hsz, hP, hK, hD0, hN⟩ := hv9
  have hx := B9.exec
  have hb := B9.bytes
  have hr := B9.returns
  have hts := atoms_spec (ws := .code yX8_deafOffAt cX8_deafOffAt 13 (some .int) :: TBg) B9.pre
  have ht : ∀ w ∈ TBg, w.before _ s = true := fun w h => hts w (List.mem_cons_of_mem _ h)
  have hown : s.vm.findClass RX8 = some m.cls := findClass_of_methodNamed B9.named
  have hlocks := B9.notSynchronized
  subst hsz
  generalize hAe : va_A [] s.heap.size = A at ⊢
  have hA : ∀ q : Nat, s.heap.size ≤ q → A q := fun q h => by rw [← hAe]; exact Or.inr h
  have hS : va_S A s.heap s.heap [] := va_S.rf
  have hl := lv_entry ([.ref this, .ref song, .int n3, .int n4]) (n := 13) (Nat.le_of_ble_eq_true rfl)
  rw [lg_entry_eq]
  generalize (lg_sl ([.ref this, .ref song, .int n3, .int n4]) ++ List.replicate (13 - (lg_sl ([.ref this, .ref song, .int n3, .int n4])).length) Slot.unset).toArray = ls at hl ⊢
  have hl : lv_has ls 13 [(0, .ref this), (1, .ref song), (2, .int n3), (3, .int n4)] := hl
  have z0 : (-1 : Int32).toInt = -1 := by decide
  have z1 : (0 : Int32).toInt = 0 := by decide
  have z2 : (1 : Int32).toInt = 1 := by decide
  refine lv_iload_n hx hb dX8_deafOffAt_0 rfl (lv_at hl 2 rfl) ?_
  refine lv_if_lt (tgt := 17) hx hb dX8_deafOffAt_1 (by decide) (fun c_1 => ?_) (fun c_1 => ?_)
  · have q_2 : n3.toInt < (0 : Int32).toInt := (ow_lt _ _).mp c_1
    refine lv_iconst (v := (-1)) hx hb dX8_deafOffAt_17 (by decide) ?_
    refine W.widen (k := 0) (n := 0) (Nat.le_of_ble_eq_true rfl) (Nat.le_of_ble_eq_true rfl) ?_
    exact W.iret (v := (-1)) hx hb hr (fun t ht9 hW => ⟨⟨(-1), (), rfl, trivial, trivial⟩, hS.F ht9⟩) hS.2.2 dX8_deafOffAt_18
  · have q_3 : (0 : Int32).toInt ≤ n3.toInt := by have := (not_congr (ow_lt _ _)).mp c_1; omega
    refine lv_iload_n hx hb dX8_deafOffAt_4 rfl (lv_at hl 2 rfl) ?_
    refine lv_aload_n hx hb dX8_deafOffAt_5 rfl (lv_at hl 1 rfl) ?_
    refine cg_2_2_8 hx hb ht hown hK hN hP h_song.1 h_song.2 dX8_deafOffAt_6 ?_
    have q_4 : 0 ≤ (I song 2).toInt ∧ (I song 2).toInt ≤ 12 := IV.rd hI h_song.1 h_song.2 2
    refine lv_aload_n hx hb dX8_deafOffAt_9 rfl (lv_at hl 0 rfl) ?_
    refine cg_2_2_8 hx hb ht hown hK hN hP hthis.1 hthis.2 dX8_deafOffAt_10 ?_
    have q_5 : 0 ≤ (I this 2).toInt ∧ (I this 2).toInt ≤ 12 := IV.rd hI hthis.1 hthis.2 2
    refine lv_isub hx hb dX8_deafOffAt_13 ?_
    refine lv_topi (fun v_6 ev_6 => ?_)
    have q_7 : v_6.toInt = (I song 2).toInt - (I this 2).toInt := ow_sub ev_6 (by omega) (by omega)
    refine lv_icmp_le (tgt := 19) hx hb dX8_deafOffAt_14 (by decide) (fun c_8 => ?_) (fun c_8 => ?_)
    · have q_9 : n3.toInt ≤ v_6.toInt := (ow_le _ _).mp c_8
      refine lv_aload_n hx hb dX8_deafOffAt_19 rfl (lv_at hl 1 rfl) ?_
      refine lv_iload_n hx hb dX8_deafOffAt_20 rfl (lv_at hl 2 rfl) ?_
      refine lv_iload_n hx hb dX8_deafOffAt_21 rfl (lv_at hl 3 rfl) ?_
      have hFc := fr_new hS hA
      refine va_calli (va_runV (As := [.int n3, .int n4]) (rest := []) ⟨hx, hb, hml, hown, ht⟩ (c_reach l G cy _ L K R T I E J B song n3 n4 hRT hI hE h_song.1 h_song.2) (cwV 2 ht (gv k_413 k_414 k_415 k_399 k_412) rfl rfl rfl (by decide +kernel) ⟨Nat.le_of_ble_eq_true rfl, Nat.le_of_ble_eq_true rfl⟩) ⟨En.blind, cr_2 hK hP h_song.1 h_song.2, fun U hU hW => ⟨rfl, En.of hU hW hP hK hD0 hN⟩⟩ rfl rfl hl.1 rfl (lv_room (Nat.le_of_ble_eq_true rfl)) dX8_deafOffAt_22 ⟨Nat.le_of_ble_eq_true rfl, Nat.le_of_ble_eq_true rfl⟩) hS (fun q _ h => hFc q h) hFc (fun r_u_10 u_10 t9 H locs ht9 hvm hw hB hz1 hk1 hS => ?_)
      have hP := fr_keep hP hk1
      have wu_10 := hw
      clear hFc hk1 hz1 hB hw
      refine lv_istore (lv' := [(4, .int r_u_10), (0, .ref this), (1, .ref song), (2, .int n3), (3, .int n4)]) hx hb dX8_deafOffAt_25 hl (by decide) rfl (fun ls hl => ?_)
      refine lv_iconst (v := 0) hx hb dX8_deafOffAt_27 (by decide) ?_
      refine lv_istore (lv' := [(5, .int 0), (4, .int r_u_10), (0, .ref this), (1, .ref song), (2, .int n3), (3, .int n4)]) hx hb dX8_deafOffAt_28 hl (by decide) rfl (fun ls hl => ?_)
      refine lv_iconst (v := 0) hx hb dX8_deafOffAt_30 (by decide) ?_
      refine lv_istore (lv' := [(6, .int 0), (5, .int 0), (4, .int r_u_10), (0, .ref this), (1, .ref song), (2, .int n3), (3, .int n4)]) hx hb dX8_deafOffAt_31 hl (by decide) rfl (fun ls hl => ?_)
      refine lv_iconst (v := 1) hx hb dX8_deafOffAt_33 (by decide) ?_
      refine lv_istore (lv' := [(7, .int 1), (6, .int 0), (5, .int 0), (4, .int r_u_10), (0, .ref this), (1, .ref song), (2, .int n3), (3, .int n4)]) hx hb dX8_deafOffAt_34 hl (by decide) rfl (fun ls hl => ?_)
      refine W.widen (k := 0) (n := 0) (Nat.le_of_ble_eq_true rfl) (Nat.le_of_ble_eq_true rfl) ?_
      have lp_11 : ∀ (N_11 : Nat) (x7_11 : Int32) (x6_11 : Int32) (x5_11 : Int32) (x4_11 : Int32) (H : Heap) (locs : List Loc) (ls : Array Slot), (1 ≤ x7_11.toInt ∧ x7_11.toInt ≤ 12) → (12 - x7_11.toInt).toNat < N_11 → va_P G vwCl (WC cy L K R I J E B) H → va_S A s.heap H locs → lv_has ls 13 [(7, .int x7_11), (6, .int x6_11), (5, .int x5_11), (4, .int x4_11), (0, .ref this), (1, .ref song), (2, .int n3), (3, .int n4)] → W p l e (headSpec (.code yX8_deafOffAt cX8_deafOffAt 13 (some .int) :: TBg) ({ frames := 2, cells := 0, slots := 0, locals := 128 })).room s m ([.ref this, .ref song, .int n3, .int n4] : List Value).toArray below meth c H locs 0 0 (MQ below (va_Qi (fun (r : Int32) (_ : Unit) => True) (fun _ _ => True) A) ([.ref this, .ref song, .int n3, .int n4] : List Value).toArray s 0 0 A) (F0 m 36 ls []) := by
        intro N_11
        induction N_11 with
        | zero => intro x7_11 x6_11 x5_11 x4_11 H locs ls qf11_0 hm9 hP hS hl; exact absurd hm9 (Nat.not_lt_zero _)
        | succ N_11 ih_11 =>
          intro x7_11 x6_11 x5_11 x4_11 H locs ls qf11_0 hm9 hP hS hl
          refine lv_iload hx hb dX8_deafOffAt_36 (lv_at hl 0 rfl) ?_
          refine lv_aload_n hx hb dX8_deafOffAt_38 rfl (lv_at hl 4 rfl) ?_
          refine cg_2_2_8 hx hb ht hown hK hN hP hthis.1 hthis.2 dX8_deafOffAt_39 ?_
          have q_12 : 0 ≤ (I this 2).toInt ∧ (I this 2).toInt ≤ 12 := IV.rd hI hthis.1 hthis.2 2
          refine lv_icmp_ge (tgt := 173) hx hb dX8_deafOffAt_42 (by decide) (fun c_13 => ?_) (fun c_13 => ?_)
          · have q_14 : (I this 2).toInt ≤ x7_11.toInt := (ow_le _ _).mp c_13
            refine lv_iload hx hb dX8_deafOffAt_173 (lv_at hl 2 rfl) ?_
            refine lv_iload hx hb dX8_deafOffAt_175 (lv_at hl 1 rfl) ?_
            refine va_mmin hx hb (by rw [hml]; exact hl.1.symm) hown (ht _ k_416) (ht _ k_417) (ht _ k_402) (ht _ k_418) (Nat.le_of_ble_eq_true rfl) (Nat.le_of_ble_eq_true rfl) (Nat.le_of_ble_eq_true rfl) (Nat.le_of_ble_eq_true rfl) dX8_deafOffAt_177 ?_
            refine lv_topi (fun v_15 ev_15 => ?_)
            have q_16 : v_15.toInt ≤ x5_11.toInt ∧ v_15.toInt ≤ x6_11.toInt ∧ (v_15.toInt = x5_11.toInt ∨ v_15.toInt = x6_11.toInt) := ow_mmin ev_15
            refine W.widen (k := 0) (n := 0) (Nat.le_of_ble_eq_true rfl) (Nat.le_of_ble_eq_true rfl) ?_
            exact W.iret (v := v_15) hx hb hr (fun t ht9 hW => ⟨⟨v_15, (), rfl, trivial, trivial⟩, hS.F ht9⟩) hS.2.2 dX8_deafOffAt_180
          · have q_17 : x7_11.toInt < (I this 2).toInt := by have := (not_congr (ow_le _ _)).mp c_13; omega
            refine lv_aload_n hx hb dX8_deafOffAt_45 rfl (lv_at hl 5 rfl) ?_
            refine lv_iload_n hx hb dX8_deafOffAt_46 rfl (lv_at hl 6 rfl) ?_
            refine lv_iload hx hb dX8_deafOffAt_47 (lv_at hl 0 rfl) ?_
            refine lv_iadd hx hb dX8_deafOffAt_49 ?_
            refine lv_topi (fun v_18 ev_18 => ?_)
            have q_19 : v_18.toInt = n3.toInt + x7_11.toInt := ow_add ev_18 (by omega) (by omega)
            refine lv_iload_n hx hb dX8_deafOffAt_50 rfl (lv_at hl 7 rfl) ?_
            have hFc := fr_new hS hA
            refine va_calli (va_runV (As := [.int v_18, .int n4]) (rest := []) ⟨hx, hb, hml, hown, ht⟩ (c_reach l G cy _ L K R T I E J B song v_18 n4 hRT hI hE h_song.1 h_song.2) (cwV 2 ht (gv k_413 k_414 k_415 k_399 k_412) rfl rfl rfl (by decide +kernel) ⟨Nat.le_of_ble_eq_true rfl, Nat.le_of_ble_eq_true rfl⟩) ⟨En.blind, cr_2 hK hP h_song.1 h_song.2, fun U hU hW => ⟨rfl, En.of hU hW hP hK hD0 hN⟩⟩ rfl rfl hl.1 rfl (lv_room (Nat.le_of_ble_eq_true rfl)) dX8_deafOffAt_51 ⟨Nat.le_of_ble_eq_true rfl, Nat.le_of_ble_eq_true rfl⟩) hS (fun q _ h => hFc q h) hFc (fun r_u_20 u_20 t9 H locs ht9 hvm hw hB hz1 hk1 hS => ?_)
            have hP := fr_keep hP hk1
            have wu_20 := hw
            clear hFc hk1 hz1 hB hw
            refine lv_istore (lv' := [(8, .int r_u_20), (7, .int x7_11), (6, .int x6_11), (5, .int x5_11), (4, .int x4_11), (0, .ref this), (1, .ref song), (2, .int n3), (3, .int n4)]) hx hb dX8_deafOffAt_54 hl (by decide) rfl (fun ls hl => ?_)
            refine lv_aload_n hx hb dX8_deafOffAt_56 rfl (lv_at hl 5 rfl) ?_
            refine lv_iload hx hb dX8_deafOffAt_57 (lv_at hl 1 rfl) ?_
            have hFc := fr_new hS hA
            refine va_calli (va_runV (As := [.int x7_11]) (rest := []) ⟨hx, hb, hml, hown, ht⟩ (c_rise2 l G cy _ L K R T I E J B this x7_11 hRT hI hE hthis.1 hthis.2) (cwV 1 ht (gv k_396 k_397 k_398 k_399 k_395) rfl rfl rfl (by decide +kernel) ⟨Nat.le_of_ble_eq_true rfl, Nat.le_of_ble_eq_true rfl⟩) ⟨En.blind, cr_2 hK hP hthis.1 hthis.2, fun U hU hW => ⟨rfl, En.of hU hW hP hK hD0 hN⟩⟩ rfl rfl hl.1 rfl (lv_room (Nat.le_of_ble_eq_true rfl)) dX8_deafOffAt_59 ⟨Nat.le_of_ble_eq_true rfl, Nat.le_of_ble_eq_true rfl⟩) hS (fun q _ h => hFc q h) hFc (fun r_u_21 u_21 t9 H locs ht9 hvm hw hB hz1 hk1 hS => ?_)
            have hP := fr_keep hP hk1
            have wu_21 := hw
            clear hFc hk1 hz1 hB hw
            refine lv_aload_n hx hb dX8_deafOffAt_62 rfl (lv_at hl 6 rfl) ?_
            refine lv_iload_n hx hb dX8_deafOffAt_63 rfl (lv_at hl 7 rfl) ?_
            refine lv_iload hx hb dX8_deafOffAt_64 (lv_at hl 1 rfl) ?_
            refine lv_iadd hx hb dX8_deafOffAt_66 ?_
            refine lv_topi (fun v_22 ev_22 => ?_)
            have q_23 : v_22.toInt = n3.toInt + x7_11.toInt := ow_add ev_22 (by omega) (by omega)
            have hFc := fr_new hS hA
            refine va_calli (va_runV (As := [.int v_22]) (rest := [.int r_u_21]) ⟨hx, hb, hml, hown, ht⟩ (c_rise2 l G cy _ L K R T I E J B song v_22 hRT hI hE h_song.1 h_song.2) (cwV 1 ht (gv k_396 k_397 k_398 k_399 k_395) rfl rfl rfl (by decide +kernel) ⟨Nat.le_of_ble_eq_true rfl, Nat.le_of_ble_eq_true rfl⟩) ⟨En.blind, cr_2 hK hP h_song.1 h_song.2, fun U hU hW => ⟨rfl, En.of hU hW hP hK hD0 hN⟩⟩ rfl rfl hl.1 rfl (lv_room (Nat.le_of_ble_eq_true rfl)) dX8_deafOffAt_67 ⟨Nat.le_of_ble_eq_true rfl, Nat.le_of_ble_eq_true rfl⟩) hS (fun q _ h => hFc q h) hFc (fun r_u_24 u_24 t9 H locs ht9 hvm hw hB hz1 hk1 hS => ?_)
            have hP := fr_keep hP hk1
            have wu_24 := hw
            clear hFc hk1 hz1 hB hw
            refine lv_isub hx hb dX8_deafOffAt_70 ?_
            refine lv_topi (fun v_25 ev_25 => ?_)
            refine lv_istore (lv' := [(9, .int v_25), (8, .int r_u_20), (7, .int x7_11), (6, .int x6_11), (5, .int x5_11), (4, .int x4_11), (0, .ref this), (1, .ref song), (2, .int n3), (3, .int n4)]) hx hb dX8_deafOffAt_71 hl (by decide) rfl (fun ls hl => ?_)
            refine lv_aload_n hx hb dX8_deafOffAt_73 rfl (lv_at hl 6 rfl) ?_
            refine lv_iload hx hb dX8_deafOffAt_74 (lv_at hl 2 rfl) ?_
            refine lv_aload_n hx hb dX8_deafOffAt_76 rfl (lv_at hl 7 rfl) ?_
            refine lv_iload_n hx hb dX8_deafOffAt_77 rfl (lv_at hl 8 rfl) ?_
            have hFc := fr_new hS hA
            refine va_calli (va_runV (As := [.int x7_11, .ref song, .int n3]) (rest := []) ⟨hx, hb, hml, hown, ht⟩ (c_pace2 l G cy _ L K R T I E J B this x7_11 song n3 hRT hI hE hthis.1 hthis.2 (by omega) h_song.1 h_song.2 (by omega) (show x7_11.toInt < (I this 2).toInt from by omega) (show n3.toInt + x7_11.toInt < (I song 2).toInt from by omega)) (cwV 3 ht (gv k_405 k_406 k_407 k_399 k_404) rfl rfl rfl (by decide +kernel) ⟨Nat.le_of_ble_eq_true rfl, Nat.le_of_ble_eq_true rfl⟩) ⟨En.blind, cr_2 hK hP hthis.1 hthis.2, fun U hU hW => ⟨rfl, En.of hU hW hP hK hD0 hN⟩⟩ rfl rfl hl.1 rfl (lv_room (Nat.le_of_ble_eq_true rfl)) dX8_deafOffAt_78 ⟨Nat.le_of_ble_eq_true rfl, Nat.le_of_ble_eq_true rfl⟩) hS (fun q _ h => hFc q h) hFc (fun r_u_26 u_26 t9 H locs ht9 hvm hw hB hz1 hk1 hS => ?_)
            have hP := fr_keep hP hk1
            have wu_26 := hw
            clear hFc hk1 hz1 hB hw
            refine lv_istore (lv' := [(10, .int r_u_26), (9, .int v_25), (8, .int r_u_20), (7, .int x7_11), (6, .int x6_11), (5, .int x5_11), (4, .int x4_11), (0, .ref this), (1, .ref song), (2, .int n3), (3, .int n4)]) hx hb dX8_deafOffAt_81 hl (by decide) rfl (fun ls hl => ?_)
            refine lv_iload hx hb dX8_deafOffAt_83 (lv_at hl 5 rfl) ?_
            refine lv_iload hx hb dX8_deafOffAt_85 (lv_at hl 1 rfl) ?_
            refine lv_iload hx hb dX8_deafOffAt_87 (lv_at hl 2 rfl) ?_
            refine lv_iadd hx hb dX8_deafOffAt_89 ?_
            refine lv_topi (fun v_27 ev_27 => ?_)
            refine lv_iload hx hb dX8_deafOffAt_90 (lv_at hl 6 rfl) ?_
            refine lv_isub hx hb dX8_deafOffAt_92 ?_
            refine lv_topi (fun v_28 ev_28 => ?_)
            refine va_mabs hx hb (by rw [hml]; exact hl.1.symm) hown (ht _ k_400) (ht _ k_401) (ht _ k_402) (ht _ k_403) (Nat.le_of_ble_eq_true rfl) (Nat.le_of_ble_eq_true rfl) (Nat.le_of_ble_eq_true rfl) (Nat.le_of_ble_eq_true rfl) dX8_deafOffAt_93 ?_
            refine lv_topi (fun v_29 ev_29 => ?_)
            refine lv_iadd hx hb dX8_deafOffAt_96 ?_
            refine lv_topi (fun v_30 ev_30 => ?_)
            refine lv_iload hx hb dX8_deafOffAt_97 (lv_at hl 4 rfl) ?_
            refine lv_iload hx hb dX8_deafOffAt_99 (lv_at hl 1 rfl) ?_
            refine lv_iload hx hb dX8_deafOffAt_101 (lv_at hl 2 rfl) ?_
            refine lv_iadd hx hb dX8_deafOffAt_103 ?_
            refine lv_topi (fun v_31 ev_31 => ?_)
            refine lv_iload hx hb dX8_deafOffAt_104 (lv_at hl 6 rfl) ?_
            refine lv_iadd hx hb dX8_deafOffAt_106 ?_
            refine lv_topi (fun v_32 ev_32 => ?_)
            refine va_mabs hx hb (by rw [hml]; exact hl.1.symm) hown (ht _ k_400) (ht _ k_401) (ht _ k_402) (ht _ k_403) (Nat.le_of_ble_eq_true rfl) (Nat.le_of_ble_eq_true rfl) (Nat.le_of_ble_eq_true rfl) (Nat.le_of_ble_eq_true rfl) dX8_deafOffAt_107 ?_
            refine lv_topi (fun v_33 ev_33 => ?_)
            refine lv_iadd hx hb dX8_deafOffAt_110 ?_
            refine lv_topi (fun v_34 ev_34 => ?_)
            refine va_mmin hx hb (by rw [hml]; exact hl.1.symm) hown (ht _ k_416) (ht _ k_417) (ht _ k_402) (ht _ k_418) (Nat.le_of_ble_eq_true rfl) (Nat.le_of_ble_eq_true rfl) (Nat.le_of_ble_eq_true rfl) (Nat.le_of_ble_eq_true rfl) dX8_deafOffAt_111 ?_
            refine lv_topi (fun v_35 ev_35 => ?_)
            have q_36 : v_35.toInt ≤ v_30.toInt ∧ v_35.toInt ≤ v_34.toInt ∧ (v_35.toInt = v_30.toInt ∨ v_35.toInt = v_34.toInt) := ow_mmin ev_35
            refine lv_istore (lv' := [(11, .int v_35), (10, .int r_u_26), (9, .int v_25), (8, .int r_u_20), (7, .int x7_11), (6, .int x6_11), (5, .int x5_11), (4, .int x4_11), (0, .ref this), (1, .ref song), (2, .int n3), (3, .int n4)]) hx hb dX8_deafOffAt_114 hl (by decide) rfl (fun ls hl => ?_)
            refine lv_iload hx hb dX8_deafOffAt_116 (lv_at hl 6 rfl) ?_
            refine lv_iload hx hb dX8_deafOffAt_118 (lv_at hl 2 rfl) ?_
            refine lv_iload hx hb dX8_deafOffAt_120 (lv_at hl 3 rfl) ?_
            refine lv_isub hx hb dX8_deafOffAt_122 ?_
            refine lv_topi (fun v_37 ev_37 => ?_)
            refine lv_iload hx hb dX8_deafOffAt_123 (lv_at hl 7 rfl) ?_
            refine lv_isub hx hb dX8_deafOffAt_125 ?_
            refine lv_topi (fun v_38 ev_38 => ?_)
            refine va_mabs hx hb (by rw [hml]; exact hl.1.symm) hown (ht _ k_400) (ht _ k_401) (ht _ k_402) (ht _ k_403) (Nat.le_of_ble_eq_true rfl) (Nat.le_of_ble_eq_true rfl) (Nat.le_of_ble_eq_true rfl) (Nat.le_of_ble_eq_true rfl) dX8_deafOffAt_126 ?_
            refine lv_topi (fun v_39 ev_39 => ?_)
            refine lv_iadd hx hb dX8_deafOffAt_129 ?_
            refine lv_topi (fun v_40 ev_40 => ?_)
            refine lv_iload hx hb dX8_deafOffAt_130 (lv_at hl 5 rfl) ?_
            refine lv_iload hx hb dX8_deafOffAt_132 (lv_at hl 2 rfl) ?_
            refine lv_iload hx hb dX8_deafOffAt_134 (lv_at hl 3 rfl) ?_
            refine lv_isub hx hb dX8_deafOffAt_136 ?_
            refine lv_topi (fun v_41 ev_41 => ?_)
            refine lv_iload hx hb dX8_deafOffAt_137 (lv_at hl 7 rfl) ?_
            refine lv_iadd hx hb dX8_deafOffAt_139 ?_
            refine lv_topi (fun v_42 ev_42 => ?_)
            refine va_mabs hx hb (by rw [hml]; exact hl.1.symm) hown (ht _ k_400) (ht _ k_401) (ht _ k_402) (ht _ k_403) (Nat.le_of_ble_eq_true rfl) (Nat.le_of_ble_eq_true rfl) (Nat.le_of_ble_eq_true rfl) (Nat.le_of_ble_eq_true rfl) dX8_deafOffAt_140 ?_
            refine lv_topi (fun v_43 ev_43 => ?_)
            refine lv_iadd hx hb dX8_deafOffAt_143 ?_
            refine lv_topi (fun v_44 ev_44 => ?_)
            refine va_mmin hx hb (by rw [hml]; exact hl.1.symm) hown (ht _ k_416) (ht _ k_417) (ht _ k_402) (ht _ k_418) (Nat.le_of_ble_eq_true rfl) (Nat.le_of_ble_eq_true rfl) (Nat.le_of_ble_eq_true rfl) (Nat.le_of_ble_eq_true rfl) dX8_deafOffAt_144 ?_
            refine lv_topi (fun v_45 ev_45 => ?_)
            have q_46 : v_45.toInt ≤ v_40.toInt ∧ v_45.toInt ≤ v_44.toInt ∧ (v_45.toInt = v_40.toInt ∨ v_45.toInt = v_44.toInt) := ow_mmin ev_45
            refine lv_istore (lv' := [(12, .int v_45), (11, .int v_35), (10, .int r_u_26), (9, .int v_25), (8, .int r_u_20), (7, .int x7_11), (6, .int x6_11), (5, .int x5_11), (4, .int x4_11), (0, .ref this), (1, .ref song), (2, .int n3), (3, .int n4)]) hx hb dX8_deafOffAt_147 hl (by decide) rfl (fun ls hl => ?_)
            refine lv_iload hx hb dX8_deafOffAt_149 (lv_at hl 1 rfl) ?_
            refine lv_iload hx hb dX8_deafOffAt_151 (lv_at hl 2 rfl) ?_
            refine lv_iadd hx hb dX8_deafOffAt_153 ?_
            refine lv_topi (fun v_47 ev_47 => ?_)
            refine lv_istore (lv' := [(5, .int v_47), (12, .int v_45), (11, .int v_35), (10, .int r_u_26), (9, .int v_25), (8, .int r_u_20), (7, .int x7_11), (6, .int x6_11), (4, .int x4_11), (0, .ref this), (1, .ref song), (2, .int n3), (3, .int n4)]) hx hb dX8_deafOffAt_154 hl (by decide) rfl (fun ls hl => ?_)
            refine lv_iload hx hb dX8_deafOffAt_156 (lv_at hl 1 rfl) ?_
            refine lv_iload hx hb dX8_deafOffAt_158 (lv_at hl 3 rfl) ?_
            refine lv_iadd hx hb dX8_deafOffAt_160 ?_
            refine lv_topi (fun v_48 ev_48 => ?_)
            refine lv_istore (lv' := [(6, .int v_48), (5, .int v_47), (12, .int v_45), (11, .int v_35), (10, .int r_u_26), (9, .int v_25), (8, .int r_u_20), (7, .int x7_11), (4, .int x4_11), (0, .ref this), (1, .ref song), (2, .int n3), (3, .int n4)]) hx hb dX8_deafOffAt_161 hl (by decide) rfl (fun ls hl => ?_)
            refine lv_iload hx hb dX8_deafOffAt_163 (lv_at hl 6 rfl) ?_
            refine lv_istore (lv' := [(4, .int r_u_20), (6, .int v_48), (5, .int v_47), (12, .int v_45), (11, .int v_35), (10, .int r_u_26), (9, .int v_25), (8, .int r_u_20), (7, .int x7_11), (0, .ref this), (1, .ref song), (2, .int n3), (3, .int n4)]) hx hb dX8_deafOffAt_165 hl (by decide) rfl (fun ls hl => ?_)
            obtain ⟨v_49, ev_49⟩ : ∃ y : Int32, y = x7_11 + 1 := ⟨_, rfl⟩
            refine lv_iinc (v := v_49) (lv' := [(7, .int v_49), (4, .int r_u_20), (6, .int v_48), (5, .int v_47), (12, .int v_45), (11, .int v_35), (10, .int r_u_26), (9, .int v_25), (8, .int r_u_20), (0, .ref this), (1, .ref song), (2, .int n3), (3, .int n4)]) hx hb dX8_deafOffAt_167 hl (k := 8) rfl (by rw [ev_49]; rfl) (by decide) rfl (fun ls hl => ?_)
            have q_50 : v_49.toInt = x7_11.toInt + 1 := by have := ow_add ev_49 (by omega) (by omega); omega
            refine lv_goto (tgt := 36) hx hb dX8_deafOffAt_170 (by decide) ?_
            refine W.widen (k := 0) (n := 0) (Nat.le_of_ble_eq_true rfl) (Nat.le_of_ble_eq_true rfl) ?_
            exact ih_11 v_49 v_48 v_47 r_u_20 _ _ _ (by omega) (by omega) hP hS (lv_sub hl [0, 2, 3, 1, 9, 10, 11, 12] rfl)
      exact lp_11 _ (1) (0) (0) r_u_10 _ _ _ (by omega) (Nat.lt_succ_self _) hP hS (lv_sub hl [0, 1, 2, 3, 4, 5, 6, 7] rfl)
    · have q_51 : v_6.toInt < n3.toInt := by have := (not_congr (ow_le _ _)).mp c_8; omega
      refine lv_iconst (v := (-1)) hx hb dX8_deafOffAt_17 (by decide) ?_
      refine W.widen (k := 0) (n := 0) (Nat.le_of_ble_eq_true rfl) (Nat.le_of_ble_eq_true rfl) ?_
      exact W.iret (v := (-1)) hx hb hr (fun t ht9 hW => ⟨⟨(-1), (), rfl, trivial, trivial⟩, hS.F ht9⟩) hS.2.2 dX8_deafOffAt_18
set_option maxHeartbeats 4000000 in
set_option maxRecDepth 100000 in
theorem c_like (l : Launch) (G : va_G) (cy : Nat → ClassId) (sz : Nat) (L : List Nat) (K : Nat → Nat) (R : Nat → Nat → Nat) (T : Int) (I E : Nat → Nat → Int32) (J B : Nat → Nat → Int64) (this : Nat) (other : Nat) (hRT : RT L K R) (hI : IV T L K I) (hE : EV L K E) (hthis1 : this ∈ L) (hthis2 : K this = 3) (h_other1 : other ∈ L) (h_other2 : K other = 3) : Met l yX8_becomeLike (.code yX8_becomeLike cX8_becomeLike 3 none :: TBg) ({ frames := 2, cells := 0, slots := 0, locals := 128 }) (va_Pc [.ref this, .ref other] (En G cy (WC cy L K R I J E B) sz)) (va_Qv (fun (u : (Nat → Nat → Int32) × (Nat → Nat → Int64) × (Nat → Nat → Int32) × (Nat → Nat → Int64)) => IV T L K u.1 ∧ EV L K u.2.2.1 ∧ FI [(3, 2)] K I u.1 ∧ (True)) (fun u t => Ex G (va_A (WC cy L K R I J E B) sz) (WC cy L K R u.1 u.2.1 u.2.2.1 u.2.2.2) t) (va_A (WC cy L K R I J E B) sz)) 0 0 (va_A (WC cy L K R I J E B) sz) := by
  have hthis : this ∈ L ∧ K this = 3 := ⟨hthis1, hthis2⟩
  have h_other : other ∈ L ∧ K other = 3 := ⟨h_other1, h_other2⟩
  refine Met.ofW (cc := cX8_becomeLike) (maxL := 3) (ret := none) (by decide) rfl ?_
  intro p e s m args below meth c s₁ B9 hml hv9
  obtain ⟨rfl, hsz, hP, hK, hD0, hN⟩ := hv9
  have hx := B9.exec
  have hb := B9.bytes
  have hr := B9.returns
  have hts := atoms_spec (ws := .code yX8_becomeLike cX8_becomeLike 3 none :: TBg) B9.pre
  have ht : ∀ w ∈ TBg, w.before _ s = true := fun w h => hts w (List.mem_cons_of_mem _ h)
  have hown : s.vm.findClass RX8 = some m.cls := findClass_of_methodNamed B9.named
  have hlocks := B9.notSynchronized
  subst hsz
  have hD := hD0.self (sz := s.heap.size)
  generalize hAe : va_A (WC cy L K R I J E B) s.heap.size = A at hD ⊢
  have hA : ∀ q : Nat, s.heap.size ≤ q → A q := fun q h => by rw [← hAe]; exact Or.inr h
  have hS : va_S A s.heap s.heap [] := va_S.rf
  have hl := lv_entry ([.ref this, .ref other]) (n := 3) (Nat.le_of_ble_eq_true rfl)
  rw [lg_entry_eq]
  generalize (lg_sl ([.ref this, .ref other]) ++ List.replicate (3 - (lg_sl ([.ref this, .ref other])).length) Slot.unset).toArray = ls at hl ⊢
  have hl : lv_has ls 3 [(0, .ref this), (1, .ref other)] := hl
  have z0 : (0 : Int32).toInt = 0 := by decide
  have z1 : (1 : Int32).toInt = 1 := by decide
  have hC_0 : FI [(3, 2)] K I I := FI.rf
  refine lv_aload_n hx hb dX8_becomeLike_0 rfl (lv_at hl 0 rfl) ?_
  refine lv_iconst (v := 0) hx hb dX8_becomeLike_1 (by decide) ?_
  refine cp_3_2_8 hx hb ht hown hK hN hP hD hS hthis.1 hthis.2 dX8_becomeLike_2 (fun H locs hP hD hS => ?_)
  replace hI := IV.up hI hthis.2 2 (show 0 ≤ (0 : Int32).toInt ∧ (0 : Int32).toInt ≤ 40 from by omega)
  have f_1 : FI [(3, 2)] K I (va_up I this (va_up (I this) 2 0)) := FI.up hthis.2 2 (0 : Int32)
  have e_2 : (va_up I this (va_up (I this) 2 0)) this 2 = 0 := FI.at I this 2 (0 : Int32)
  replace hC_0 := FI.tr hC_0 f_1 (by decide)
  generalize (va_up I this (va_up (I this) 2 0)) = I_3 at hP hD hI f_1 e_2 hC_0
  refine lv_iconst (v := 0) hx hb dX8_becomeLike_5 (by decide) ?_
  refine lv_istore_n (lv' := [(2, .int 0), (0, .ref this), (1, .ref other)]) hx hb dX8_becomeLike_6 rfl hl (by decide) rfl (fun ls hl => ?_)
  refine W.widen (k := 0) (n := 0) (Nat.le_of_ble_eq_true rfl) (Nat.le_of_ble_eq_true rfl) ?_
  have lp_4 : ∀ (N_4 : Nat) (x2_4 : Int32) (I4 : Nat → Nat → Int32) (J4 : Nat → Nat → Int64) (E4 : Nat → Nat → Int32) (B4 : Nat → Nat → Int64) (H : Heap) (locs : List Loc) (ls : Array Slot), IV T L K I4 → EV L K E4 → FI [(3, 2)] K I_3 I4 → (0 ≤ x2_4.toInt ∧ x2_4.toInt ≤ 40) → (40 - x2_4.toInt).toNat < N_4 → va_P G vwCl (WC cy L K R I4 J4 E4 B4) H → va_D A (WC cy L K R I4 J4 E4 B4) → va_S A s.heap H locs → lv_has ls 3 [(2, .int x2_4), (0, .ref this), (1, .ref other)] → W p l e (headSpec (.code yX8_becomeLike cX8_becomeLike 3 none :: TBg) ({ frames := 2, cells := 0, slots := 0, locals := 128 })).room s m ([.ref this, .ref other] : List Value).toArray below meth c H locs 0 0 (MQ below (va_Qv (fun (u : (Nat → Nat → Int32) × (Nat → Nat → Int64) × (Nat → Nat → Int32) × (Nat → Nat → Int64)) => IV T L K u.1 ∧ EV L K u.2.2.1 ∧ FI [(3, 2)] K I u.1 ∧ (True)) (fun u t => Ex G A (WC cy L K R u.1 u.2.1 u.2.2.1 u.2.2.2) t) A) ([.ref this, .ref other] : List Value).toArray s 0 0 A) (F0 m 7 ls []) := by
    intro N_4
    induction N_4 with
    | zero => intro x2_4 I4 J4 E4 B4 H locs ls hI hE hC_4 qf4_0 hm9 hP hD hS hl; exact absurd hm9 (Nat.not_lt_zero _)
    | succ N_4 ih_4 =>
      intro x2_4 I4 J4 E4 B4 H locs ls hI hE hC_4 qf4_0 hm9 hP hD hS hl
      replace hC_0 := FI.tr hC_0 hC_4 (by decide)
      have hX_4 := hC_4
      refine lv_iload_n hx hb dX8_becomeLike_7 rfl (lv_at hl 0 rfl) ?_
      refine lv_aload_n hx hb dX8_becomeLike_8 rfl (lv_at hl 2 rfl) ?_
      refine cg_3_2_8 hx hb ht hown hK hN hP h_other.1 h_other.2 dX8_becomeLike_9 ?_
      have q_5 : 0 ≤ (I4 other 2).toInt ∧ (I4 other 2).toInt ≤ 40 := IV.rd hI h_other.1 h_other.2 2
      refine lv_icmp_ge (tgt := 37) hx hb dX8_becomeLike_12 (by decide) (fun c_6 => ?_) (fun c_6 => ?_)
      · have q_7 : (I4 other 2).toInt ≤ x2_4.toInt := (ow_le _ _).mp c_6
        refine W.widen (k := 0) (n := 0) (Nat.le_of_ble_eq_true rfl) (Nat.le_of_ble_eq_true rfl) ?_
        exact W.vret hx hb hr (fun t ht9 hW => ⟨⟨(I4, J4, E4, B4), rfl, ⟨hI, hE, hC_0, trivial⟩, ⟨by rw [ht9]; exact hP, hD⟩⟩, hS.F ht9⟩) hS.2.2 dX8_becomeLike_37
      · have q_8 : x2_4.toInt < (I4 other 2).toInt := by have := (not_congr (ow_le _ _)).mp c_6; omega
        refine lv_aload_n hx hb dX8_becomeLike_15 rfl (lv_at hl 1 rfl) ?_
        refine lv_aload_n hx hb dX8_becomeLike_16 rfl (lv_at hl 2 rfl) ?_
        refine cg_3_0_8 hx hb ht hown hK hN hP h_other.1 h_other.2 dX8_becomeLike_17 ?_
        have hm_9 : (R other 0) ∈ L ∧ K (R other 0) = 23 := RT.o hRT h_other.1 h_other.2 0 (by decide)
        refine lv_iload_n hx hb dX8_becomeLike_20 rfl (lv_at hl 0 rfl) ?_
        have q_10 : vp_in x2_4 40 := vp_in_iff.mpr ⟨by omega, by omega⟩
        refine cl_23 hx hb hK hP hm_9.1 hm_9.2 q_10 dX8_becomeLike_21 ?_
        refine lv_topi (fun v_11 ev_11 => ?_)
        refine lv_aload_n hx hb dX8_becomeLike_22 rfl (lv_at hl 2 rfl) ?_
        refine cg_3_1_8 hx hb ht hown hK hN hP h_other.1 h_other.2 dX8_becomeLike_23 ?_
        have hm_12 : (R other 1) ∈ L ∧ K (R other 1) = 24 := RT.o hRT h_other.1 h_other.2 1 (by decide)
        refine lv_iload_n hx hb dX8_becomeLike_26 rfl (lv_at hl 0 rfl) ?_
        have q_13 : vp_in x2_4 40 := vp_in_iff.mpr ⟨by omega, by omega⟩
        refine cl_24 hx hb hK hP hm_12.1 hm_12.2 q_13 dX8_becomeLike_27 ?_
        refine lv_topi (fun v_14 ev_14 => ?_)
        have hFc := fr_free hD hS hA
        refine va_callv (va_runV (As := [.int v_11, .int v_14]) (rest := []) ⟨hx, hb, hml, hown, ht⟩ (c_add3 l G cy _ L K R T I4 E4 J4 B4 this v_11 v_14 hRT hI hE hthis.1 hthis.2) (cwV 2 ht (gv k_420 k_421 k_422 k_399 k_419) rfl rfl rfl (by decide +kernel) ⟨Nat.le_of_ble_eq_true rfl, Nat.le_of_ble_eq_true rfl⟩) ⟨En.blind, cr_3 hK hP hthis.1 hthis.2, fun U hU hW => ⟨rfl, En.of hU hW hP hK hD hN⟩⟩ rfl rfl hl.1 rfl (lv_room (Nat.le_of_ble_eq_true rfl)) dX8_becomeLike_28 ⟨Nat.le_of_ble_eq_true rfl, Nat.le_of_ble_eq_true rfl⟩) hS (fun q _ h => hFc q h) hFc (fun u_15 t9 H locs ht9 hvm hw hB hz1 hk1 hS => ?_)
        obtain ⟨I15, J15, E15, B15⟩ := u_15
        obtain ⟨hP1, hD1⟩ := hB
        rw [ht9] at hP1
        clear hI hE
        obtain ⟨hI, hE, xu_15I, wu_15⟩ := hw
        dsimp only at hI hE xu_15I wu_15
        have hP : va_P G vwCl (WC cy L K R I15 J15 E15 B15) H := hP1
        have hD : va_D A (WC cy L K R I15 J15 E15 B15) := hD1.weaken (fun _ _ _ h => hFc _ h)
        clear hFc hk1 hz1 hP1 hD1
        replace hC_0 := FI.tr hC_0 xu_15I (by decide)
        replace hX_4 := FI.tr hX_4 xu_15I (by decide)
        obtain ⟨v_16, ev_16⟩ : ∃ y : Int32, y = x2_4 + 1 := ⟨_, rfl⟩
        refine lv_iinc (v := v_16) (lv' := [(2, .int v_16), (0, .ref this), (1, .ref other)]) hx hb dX8_becomeLike_31 hl (k := 0) rfl (by rw [ev_16]; rfl) (by decide) rfl (fun ls hl => ?_)
        have q_17 : v_16.toInt = x2_4.toInt + 1 := by have := ow_add ev_16 (by omega) (by omega); omega
        refine lv_goto (tgt := 7) hx hb dX8_becomeLike_34 (by decide) ?_
        refine W.widen (k := 0) (n := 0) (Nat.le_of_ble_eq_true rfl) (Nat.le_of_ble_eq_true rfl) ?_
        exact ih_4 v_16 I15 J15 E15 B15 _ _ _ hI hE hX_4 (by omega) (by omega) hP hD hS (lv_sub hl [0, 1, 2] rfl)
  exact lp_4 _ (0) I_3 J E B _ _ _ hI hE FI.rf (by omega) (Nat.lt_succ_self _) hP hD hS (lv_sub hl [0, 1, 2] rfl)
