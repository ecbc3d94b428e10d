theorem dX4_init_0 : decode cX4_init 0 = .ok (.aload_n 0, 1) := by decide +kernel
theorem dX4_init_1 : decode cX4_init 1 = .ok (.invokespecial 3, 3) := by decide +kernel
theorem dX4_init_4 : decode cX4_init 4 = .ok (.return_, 1) := by decide +kernel
theorem dX0_init_0 : decode cX0_init 0 = .ok (.aload_n 0, 1) := by decide +kernel
theorem dX0_init_1 : decode cX0_init 1 = .ok (.invokespecial 3, 3) := by decide +kernel
theorem dX0_init_4 : decode cX0_init 4 = .ok (.aload_n 0, 1) := by decide +kernel
theorem dX0_init_5 : decode cX0_init 5 = .ok (.bipush 108, 2) := by decide +kernel
theorem dX0_init_7 : decode cX0_init 7 = .ok (.newarray .int, 2) := by decide +kernel
theorem dX0_init_9 : decode cX0_init 9 = .ok (.putfield 9, 3) := by decide +kernel
theorem dX0_init_12 : decode cX0_init 12 = .ok (.return_, 1) := by decide +kernel
theorem dX1_init_0 : decode cX1_init 0 = .ok (.aload_n 0, 1) := by decide +kernel
theorem dX1_init_1 : decode cX1_init 1 = .ok (.invokespecial 3, 3) := by decide +kernel
theorem dX1_init_4 : decode cX1_init 4 = .ok (.aload_n 0, 1) := by decide +kernel
theorem dX1_init_5 : decode cX1_init 5 = .ok (.bipush 14, 2) := by decide +kernel
theorem dX1_init_7 : decode cX1_init 7 = .ok (.newarray .int, 2) := by decide +kernel
theorem dX1_init_9 : decode cX1_init 9 = .ok (.putfield 9, 3) := by decide +kernel
theorem dX1_init_12 : decode cX1_init 12 = .ok (.return_, 1) := by decide +kernel
theorem dX2_init_0 : decode cX2_init 0 = .ok (.aload_n 0, 1) := by decide +kernel
theorem dX2_init_1 : decode cX2_init 1 = .ok (.invokespecial 3, 3) := by decide +kernel
theorem dX2_init_4 : decode cX2_init 4 = .ok (.aload_n 0, 1) := by decide +kernel
theorem dX2_init_5 : decode cX2_init 5 = .ok (.bipush 14, 2) := by decide +kernel
theorem dX2_init_7 : decode cX2_init 7 = .ok (.newarray .int, 2) := by decide +kernel
theorem dX2_init_9 : decode cX2_init 9 = .ok (.putfield 9, 3) := by decide +kernel
theorem dX2_init_12 : decode cX2_init 12 = .ok (.aload_n 0, 1) := by decide +kernel
theorem dX2_init_13 : decode cX2_init 13 = .ok (.bipush 14, 2) := by decide +kernel
theorem dX2_init_15 : decode cX2_init 15 = .ok (.newarray .int, 2) := by decide +kernel
theorem dX2_init_17 : decode cX2_init 17 = .ok (.putfield 15, 3) := by decide +kernel
theorem dX2_init_20 : decode cX2_init 20 = .ok (.aload_n 0, 1) := by decide +kernel
theorem dX2_init_21 : decode cX2_init 21 = .ok (.bipush 14, 2) := by decide +kernel
theorem dX2_init_23 : decode cX2_init 23 = .ok (.newarray .int, 2) := by decide +kernel
theorem dX2_init_25 : decode cX2_init 25 = .ok (.putfield 18, 3) := by decide +kernel
theorem dX2_init_28 : decode cX2_init 28 = .ok (.aload_n 0, 1) := by decide +kernel
theorem dX2_init_29 : decode cX2_init 29 = .ok (.bipush 14, 2) := by decide +kernel
theorem dX2_init_31 : decode cX2_init 31 = .ok (.newarray .int, 2) := by decide +kernel
theorem dX2_init_33 : decode cX2_init 33 = .ok (.putfield 21, 3) := by decide +kernel
theorem dX2_init_36 : decode cX2_init 36 = .ok (.return_, 1) := by decide +kernel
theorem dX5_init_0 : decode cX5_init 0 = .ok (.aload_n 0, 1) := by decide +kernel
theorem dX5_init_1 : decode cX5_init 1 = .ok (.invokespecial 3, 3) := by decide +kernel
theorem dX5_init_4 : decode cX5_init 4 = .ok (.aload_n 0, 1) := by decide +kernel
theorem dX5_init_5 : decode cX5_init 5 = .ok (.sipush 540, 3) := by decide +kernel
theorem dX5_init_8 : decode cX5_init 8 = .ok (.newarray .int, 2) := by decide +kernel
theorem dX5_init_10 : decode cX5_init 10 = .ok (.putfield 11, 3) := by decide +kernel
theorem dX5_init_13 : decode cX5_init 13 = .ok (.aload_n 0, 1) := by decide +kernel
theorem dX5_init_14 : decode cX5_init 14 = .ok (.sipush 540, 3) := by decide +kernel
theorem dX5_init_17 : decode cX5_init 17 = .ok (.newarray .int, 2) := by decide +kernel
theorem dX5_init_19 : decode cX5_init 19 = .ok (.putfield 15, 3) := by decide +kernel
theorem dX5_init_22 : decode cX5_init 22 = .ok (.aload_n 0, 1) := by decide +kernel
theorem dX5_init_23 : decode cX5_init 23 = .ok (.bipush 61, 2) := by decide +kernel
theorem dX5_init_25 : decode cX5_init 25 = .ok (.newarray .int, 2) := by decide +kernel
theorem dX5_init_27 : decode cX5_init 27 = .ok (.putfield 18, 3) := by decide +kernel
theorem dX5_init_30 : decode cX5_init 30 = .ok (.return_, 1) := by decide +kernel
theorem dX10_init_0 : decode cX10_init 0 = .ok (.aload_n 0, 1) := by decide +kernel
theorem dX10_init_1 : decode cX10_init 1 = .ok (.invokespecial 3, 3) := by decide +kernel
theorem dX10_init_4 : decode cX10_init 4 = .ok (.aload_n 0, 1) := by decide +kernel
theorem dX10_init_5 : decode cX10_init 5 = .ok (.bipush 30, 2) := by decide +kernel
theorem dX10_init_7 : decode cX10_init 7 = .ok (.newarray .int, 2) := by decide +kernel
theorem dX10_init_9 : decode cX10_init 9 = .ok (.putfield 9, 3) := by decide +kernel
theorem dX10_init_12 : decode cX10_init 12 = .ok (.aload_n 0, 1) := by decide +kernel
theorem dX10_init_13 : decode cX10_init 13 = .ok (.bipush 30, 2) := by decide +kernel
theorem dX10_init_15 : decode cX10_init 15 = .ok (.newarray .boolean, 2) := by decide +kernel
theorem dX10_init_17 : decode cX10_init 17 = .ok (.putfield 15, 3) := by decide +kernel
theorem dX10_init_20 : decode cX10_init 20 = .ok (.aload_n 0, 1) := by decide +kernel
theorem dX10_init_21 : decode cX10_init 21 = .ok (.bipush 30, 2) := by decide +kernel
theorem dX10_init_23 : decode cX10_init 23 = .ok (.newarray .boolean, 2) := by decide +kernel
theorem dX10_init_25 : decode cX10_init 25 = .ok (.putfield 19, 3) := by decide +kernel
theorem dX10_init_28 : decode cX10_init 28 = .ok (.aload_n 0, 1) := by decide +kernel
theorem dX10_init_29 : decode cX10_init 29 = .ok (.bipush 30, 2) := by decide +kernel
theorem dX10_init_31 : decode cX10_init 31 = .ok (.newarray .int, 2) := by decide +kernel
theorem dX10_init_33 : decode cX10_init 33 = .ok (.putfield 22, 3) := by decide +kernel
theorem dX10_init_36 : decode cX10_init 36 = .ok (.aload_n 0, 1) := by decide +kernel
theorem dX10_init_37 : decode cX10_init 37 = .ok (.bipush 30, 2) := by decide +kernel
theorem dX10_init_39 : decode cX10_init 39 = .ok (.newarray .int, 2) := by decide +kernel
theorem dX10_init_41 : decode cX10_init 41 = .ok (.putfield 25, 3) := by decide +kernel
theorem dX10_init_44 : decode cX10_init 44 = .ok (.return_, 1) := by decide +kernel
theorem dX8_init_0 : decode cX8_init 0 = .ok (.aload_n 0, 1) := by decide +kernel
theorem dX8_init_1 : decode cX8_init 1 = .ok (.invokespecial 3, 3) := by decide +kernel
theorem dX8_init_4 : decode cX8_init 4 = .ok (.aload_n 0, 1) := by decide +kernel
theorem dX8_init_5 : decode cX8_init 5 = .ok (.iload_n 1, 1) := by decide +kernel
theorem dX8_init_6 : decode cX8_init 6 = .ok (.iconst 0, 1) := by decide +kernel
theorem dX8_init_7 : decode cX8_init 7 = .ok (.invokestatic 9, 3) := by decide +kernel
theorem dX8_init_10 : decode cX8_init 10 = .ok (.newarray .int, 2) := by decide +kernel
theorem dX8_init_12 : decode cX8_init 12 = .ok (.putfield 15, 3) := by decide +kernel
theorem dX8_init_15 : decode cX8_init 15 = .ok (.aload_n 0, 1) := by decide +kernel
theorem dX8_init_16 : decode cX8_init 16 = .ok (.iload_n 1, 1) := by decide +kernel
theorem dX8_init_17 : decode cX8_init 17 = .ok (.iconst 0, 1) := by decide +kernel
theorem dX8_init_18 : decode cX8_init 18 = .ok (.invokestatic 9, 3) := by decide +kernel
theorem dX8_init_21 : decode cX8_init 21 = .ok (.newarray .int, 2) := by decide +kernel
theorem dX8_init_23 : decode cX8_init 23 = .ok (.putfield 21, 3) := by decide +kernel
theorem dX8_init_26 : decode cX8_init 26 = .ok (.return_, 1) := by decide +kernel
theorem dX3_init_0 : decode cX3_init 0 = .ok (.aload_n 0, 1) := by decide +kernel
theorem dX3_init_1 : decode cX3_init 1 = .ok (.invokespecial 3, 3) := by decide +kernel
theorem dX3_init_4 : decode cX3_init 4 = .ok (.aload_n 0, 1) := by decide +kernel
theorem dX3_init_5 : decode cX3_init 5 = .ok (.bipush 6, 2) := by decide +kernel
theorem dX3_init_7 : decode cX3_init 7 = .ok (.newarray .int, 2) := by decide +kernel
theorem dX3_init_9 : decode cX3_init 9 = .ok (.putfield 9, 3) := by decide +kernel
theorem dX3_init_12 : decode cX3_init 12 = .ok (.aload_n 0, 1) := by decide +kernel
theorem dX3_init_13 : decode cX3_init 13 = .ok (.bipush 6, 2) := by decide +kernel
theorem dX3_init_15 : decode cX3_init 15 = .ok (.newarray .int, 2) := by decide +kernel
theorem dX3_init_17 : decode cX3_init 17 = .ok (.putfield 15, 3) := by decide +kernel
theorem dX3_init_20 : decode cX3_init 20 = .ok (.aload_n 0, 1) := by decide +kernel
theorem dX3_init_21 : decode cX3_init 21 = .ok (.bipush 6, 2) := by decide +kernel
theorem dX3_init_23 : decode cX3_init 23 = .ok (.bipush 6, 2) := by decide +kernel
theorem dX3_init_25 : decode cX3_init 25 = .ok (.multianewarray 18 2, 4) := by decide +kernel
theorem dX3_init_29 : decode cX3_init 29 = .ok (.putfield 20, 3) := by decide +kernel
theorem dX3_init_32 : decode cX3_init 32 = .ok (.aload_n 0, 1) := by decide +kernel
theorem dX3_init_33 : decode cX3_init 33 = .ok (.bipush 6, 2) := by decide +kernel
theorem dX3_init_35 : decode cX3_init 35 = .ok (.newarray .int, 2) := by decide +kernel
theorem dX3_init_37 : decode cX3_init 37 = .ok (.putfield 23, 3) := by decide +kernel
theorem dX3_init_40 : decode cX3_init 40 = .ok (.aload_n 0, 1) := by decide +kernel
theorem dX3_init_41 : decode cX3_init 41 = .ok (.bipush 6, 2) := by decide +kernel
theorem dX3_init_43 : decode cX3_init 43 = .ok (.newarray .int, 2) := by decide +kernel
theorem dX3_init_45 : decode cX3_init 45 = .ok (.putfield 26, 3) := by decide +kernel
theorem dX3_init_48 : decode cX3_init 48 = .ok (.return_, 1) := by decide +kernel
theorem dX7_init_0 : decode cX7_init 0 = .ok (.aload_n 0, 1) := by decide +kernel
theorem dX7_init_1 : decode cX7_init 1 = .ok (.invokespecial 3, 3) := by decide +kernel
theorem dX7_init_4 : decode cX7_init 4 = .ok (.aload_n 0, 1) := by decide +kernel
theorem dX7_init_5 : decode cX7_init 5 = .ok (.new 9, 3) := by decide +kernel
theorem dX7_init_8 : decode cX7_init 8 = .ok (.dup, 1) := by decide +kernel
theorem dX7_init_9 : decode cX7_init 9 = .ok (.bipush 40, 2) := by decide +kernel
theorem dX7_init_11 : decode cX7_init 11 = .ok (.invokespecial 11, 3) := by decide +kernel
theorem dX7_init_14 : decode cX7_init 14 = .ok (.putfield 14, 3) := by decide +kernel
theorem dX7_init_17 : decode cX7_init 17 = .ok (.aload_n 0, 1) := by decide +kernel
theorem dX7_init_18 : decode cX7_init 18 = .ok (.bipush 8, 2) := by decide +kernel
theorem dX7_init_20 : decode cX7_init 20 = .ok (.newarray .int, 2) := by decide +kernel
theorem dX7_init_22 : decode cX7_init 22 = .ok (.putfield 20, 3) := by decide +kernel
theorem dX7_init_25 : decode cX7_init 25 = .ok (.return_, 1) := by decide +kernel
theorem dX9_hasTune_0 : decode cX9_hasTune 0 = .ok (.iload_n 1, 1) := by decide +kernel
theorem dX9_hasTune_1 : decode cX9_hasTune 1 = .ok (.ifCond .lt 15, 3) := by decide +kernel
theorem dX9_hasTune_16 : decode cX9_hasTune 16 = .ok (.iconst 0, 1) := by decide +kernel
theorem dX9_hasTune_17 : decode cX9_hasTune 17 = .ok (.ireturn, 1) := by decide +kernel
theorem dX9_hasTune_4 : decode cX9_hasTune 4 = .ok (.iload_n 1, 1) := by decide +kernel
theorem dX9_hasTune_5 : decode cX9_hasTune 5 = .ok (.aload_n 0, 1) := by decide +kernel
theorem dX9_hasTune_6 : decode cX9_hasTune 6 = .ok (.getfield 49, 3) := by decide +kernel
theorem dX9_hasTune_9 : decode cX9_hasTune 9 = .ok (.if_icmp .ge 7, 3) := by decide +kernel
theorem dX9_init_0 : decode cX9_init 0 = .ok (.aload_n 0, 1) := by decide +kernel
theorem dX9_init_1 : decode cX9_init 1 = .ok (.invokespecial 3, 3) := by decide +kernel
theorem dX9_init_4 : decode cX9_init 4 = .ok (.aload_n 0, 1) := by decide +kernel
theorem dX9_init_5 : decode cX9_init 5 = .ok (.bipush 14, 2) := by decide +kernel
theorem dX9_init_7 : decode cX9_init 7 = .ok (.anewarray 9, 3) := by decide +kernel
theorem dX9_init_10 : decode cX9_init 10 = .ok (.putfield 11, 3) := by decide +kernel
theorem dX9_init_13 : decode cX9_init 13 = .ok (.aload_n 0, 1) := by decide +kernel
theorem dX9_init_14 : decode cX9_init 14 = .ok (.bipush 14, 2) := by decide +kernel
theorem dX9_init_16 : decode cX9_init 16 = .ok (.newarray .long, 2) := by decide +kernel
theorem dX9_init_18 : decode cX9_init 18 = .ok (.putfield 17, 3) := by decide +kernel
theorem dX9_init_21 : decode cX9_init 21 = .ok (.aload_n 0, 1) := by decide +kernel
theorem dX9_init_22 : decode cX9_init 22 = .ok (.bipush 14, 2) := by decide +kernel
theorem dX9_init_24 : decode cX9_init 24 = .ok (.anewarray 21, 3) := by decide +kernel
theorem dX9_init_27 : decode cX9_init 27 = .ok (.putfield 23, 3) := by decide +kernel
theorem dX9_init_30 : decode cX9_init 30 = .ok (.aload_n 0, 1) := by decide +kernel
theorem dX9_init_31 : decode cX9_init 31 = .ok (.bipush 8, 2) := by decide +kernel
theorem dX9_init_33 : decode cX9_init 33 = .ok (.anewarray 27, 3) := by decide +kernel
theorem dX9_init_36 : decode cX9_init 36 = .ok (.putfield 29, 3) := by decide +kernel
theorem dX9_init_39 : decode cX9_init 39 = .ok (.aload_n 0, 1) := by decide +kernel
theorem dX9_init_40 : decode cX9_init 40 = .ok (.new 33, 3) := by decide +kernel
theorem dX9_init_43 : decode cX9_init 43 = .ok (.dup, 1) := by decide +kernel
theorem dX9_init_44 : decode cX9_init 44 = .ok (.invokespecial 35, 3) := by decide +kernel
theorem dX9_init_47 : decode cX9_init 47 = .ok (.putfield 36, 3) := by decide +kernel
theorem dX9_init_50 : decode cX9_init 50 = .ok (.aload_n 0, 1) := by decide +kernel
theorem dX9_init_51 : decode cX9_init 51 = .ok (.bipush 12, 2) := by decide +kernel
theorem dX9_init_53 : decode cX9_init 53 = .ok (.newarray .boolean, 2) := by decide +kernel
theorem dX9_init_55 : decode cX9_init 55 = .ok (.putfield 40, 3) := by decide +kernel
theorem dX9_init_58 : decode cX9_init 58 = .ok (.iconst 0, 1) := by decide +kernel
theorem dX9_init_59 : decode cX9_init 59 = .ok (.istore_n 1, 1) := by decide +kernel
theorem dX9_init_60 : decode cX9_init 60 = .ok (.iload_n 1, 1) := by decide +kernel
theorem dX9_init_61 : decode cX9_init 61 = .ok (.bipush 14, 2) := by decide +kernel
theorem dX9_init_63 : decode cX9_init 63 = .ok (.if_icmp .ge 37, 3) := by decide +kernel
theorem dX9_init_66 : decode cX9_init 66 = .ok (.aload_n 0, 1) := by decide +kernel
theorem dX9_init_67 : decode cX9_init 67 = .ok (.getfield 11, 3) := by decide +kernel
theorem dX9_init_70 : decode cX9_init 70 = .ok (.iload_n 1, 1) := by decide +kernel
theorem dX9_init_71 : decode cX9_init 71 = .ok (.new 9, 3) := by decide +kernel
theorem dX9_init_74 : decode cX9_init 74 = .ok (.dup, 1) := by decide +kernel
theorem dX9_init_75 : decode cX9_init 75 = .ok (.bipush 12, 2) := by decide +kernel
theorem dX9_init_77 : decode cX9_init 77 = .ok (.invokespecial 44, 3) := by decide +kernel
theorem dX9_init_80 : decode cX9_init 80 = .ok (.aastore, 1) := by decide +kernel
theorem dX9_init_81 : decode cX9_init 81 = .ok (.aload_n 0, 1) := by decide +kernel
theorem dX9_init_82 : decode cX9_init 82 = .ok (.getfield 23, 3) := by decide +kernel
theorem dX9_init_85 : decode cX9_init 85 = .ok (.iload_n 1, 1) := by decide +kernel
theorem dX9_init_86 : decode cX9_init 86 = .ok (.new 21, 3) := by decide +kernel
theorem dX9_init_89 : decode cX9_init 89 = .ok (.dup, 1) := by decide +kernel
theorem dX9_init_90 : decode cX9_init 90 = .ok (.invokespecial 47, 3) := by decide +kernel
theorem dX9_init_93 : decode cX9_init 93 = .ok (.aastore, 1) := by decide +kernel
theorem dX9_init_94 : decode cX9_init 94 = .ok (.iinc 1 1, 3) := by decide +kernel
theorem dX9_init_97 : decode cX9_init 97 = .ok (.goto (-37), 3) := by decide +kernel
theorem dX9_init_100 : decode cX9_init 100 = .ok (.iconst 0, 1) := by decide +kernel
theorem dX9_init_101 : decode cX9_init 101 = .ok (.istore_n 1, 1) := by decide +kernel
theorem dX9_init_102 : decode cX9_init 102 = .ok (.iload_n 1, 1) := by decide +kernel
theorem dX9_init_103 : decode cX9_init 103 = .ok (.bipush 8, 2) := by decide +kernel
theorem dX9_init_105 : decode cX9_init 105 = .ok (.if_icmp .ge 22, 3) := by decide +kernel
theorem dX9_init_108 : decode cX9_init 108 = .ok (.aload_n 0, 1) := by decide +kernel
theorem dX9_init_109 : decode cX9_init 109 = .ok (.getfield 29, 3) := by decide +kernel
theorem dX9_init_112 : decode cX9_init 112 = .ok (.iload_n 1, 1) := by decide +kernel
theorem dX9_init_113 : decode cX9_init 113 = .ok (.new 27, 3) := by decide +kernel
theorem dX9_init_116 : decode cX9_init 116 = .ok (.dup, 1) := by decide +kernel
theorem dX9_init_117 : decode cX9_init 117 = .ok (.invokespecial 48, 3) := by decide +kernel
theorem dX9_init_120 : decode cX9_init 120 = .ok (.aastore, 1) := by decide +kernel
theorem dX9_init_121 : decode cX9_init 121 = .ok (.iinc 1 1, 3) := by decide +kernel
theorem dX9_init_124 : decode cX9_init 124 = .ok (.goto (-22), 3) := by decide +kernel
theorem dX9_init_127 : decode cX9_init 127 = .ok (.return_, 1) := by decide +kernel
theorem dX11_init_0 : decode cX11_init 0 = .ok (.aload_n 0, 1) := by decide +kernel
theorem dX11_init_1 : decode cX11_init 1 = .ok (.invokespecial 1, 3) := by decide +kernel
theorem dX11_init_4 : decode cX11_init 4 = .ok (.aload_n 0, 1) := by decide +kernel
theorem dX11_init_5 : decode cX11_init 5 = .ok (.sipush 1700, 3) := by decide +kernel
theorem dX11_init_8 : decode cX11_init 8 = .ok (.newarray .byte, 2) := by decide +kernel
theorem dX11_init_10 : decode cX11_init 10 = .ok (.putfield 9, 3) := by decide +kernel
theorem dX11_init_13 : decode cX11_init 13 = .ok (.aload_n 0, 1) := by decide +kernel
theorem dX11_init_14 : decode cX11_init 14 = .ok (.new 13, 3) := by decide +kernel
theorem dX11_init_17 : decode cX11_init 17 = .ok (.dup, 1) := by decide +kernel
theorem dX11_init_18 : decode cX11_init 18 = .ok (.invokespecial 15, 3) := by decide +kernel
theorem dX11_init_21 : decode cX11_init 21 = .ok (.putfield 16, 3) := by decide +kernel
theorem dX11_init_24 : decode cX11_init 24 = .ok (.aload_n 0, 1) := by decide +kernel
theorem dX11_init_25 : decode cX11_init 25 = .ok (.new 13, 3) := by decide +kernel
theorem dX11_init_28 : decode cX11_init 28 = .ok (.dup, 1) := by decide +kernel
theorem dX11_init_29 : decode cX11_init 29 = .ok (.invokespecial 15, 3) := by decide +kernel
theorem dX11_init_32 : decode cX11_init 32 = .ok (.putfield 20, 3) := by decide +kernel
theorem dX11_init_35 : decode cX11_init 35 = .ok (.aload_n 0, 1) := by decide +kernel
theorem dX11_init_36 : decode cX11_init 36 = .ok (.iconst (-1), 1) := by decide +kernel
theorem dX11_init_37 : decode cX11_init 37 = .ok (.putfield 23, 3) := by decide +kernel
theorem dX11_init_40 : decode cX11_init 40 = .ok (.aload_n 0, 1) := by decide +kernel
theorem dX11_init_41 : decode cX11_init 41 = .ok (.new 27, 3) := by decide +kernel
theorem dX11_init_44 : decode cX11_init 44 = .ok (.dup, 1) := by decide +kernel
theorem dX11_init_45 : decode cX11_init 45 = .ok (.invokespecial 29, 3) := by decide +kernel
theorem dX11_init_48 : decode cX11_init 48 = .ok (.putfield 30, 3) := by decide +kernel
theorem dX11_init_51 : decode cX11_init 51 = .ok (.aload_n 0, 1) := by decide +kernel
theorem dX11_init_52 : decode cX11_init 52 = .ok (.iconst 3, 1) := by decide +kernel
theorem dX11_init_53 : decode cX11_init 53 = .ok (.anewarray 27, 3) := by decide +kernel
theorem dX11_init_56 : decode cX11_init 56 = .ok (.putfield 34, 3) := by decide +kernel
theorem dX11_init_59 : decode cX11_init 59 = .ok (.aload_n 0, 1) := by decide +kernel
theorem dX11_init_60 : decode cX11_init 60 = .ok (.new 38, 3) := by decide +kernel
theorem dX11_init_63 : decode cX11_init 63 = .ok (.dup, 1) := by decide +kernel
theorem dX11_init_64 : decode cX11_init 64 = .ok (.invokespecial 40, 3) := by decide +kernel
theorem dX11_init_67 : decode cX11_init 67 = .ok (.putfield 41, 3) := by decide +kernel
theorem dX11_init_70 : decode cX11_init 70 = .ok (.aload_n 0, 1) := by decide +kernel
theorem dX11_init_71 : decode cX11_init 71 = .ok (.new 45, 3) := by decide +kernel
theorem dX11_init_74 : decode cX11_init 74 = .ok (.dup, 1) := by decide +kernel
theorem dX11_init_75 : decode cX11_init 75 = .ok (.invokespecial 47, 3) := by decide +kernel
theorem dX11_init_78 : decode cX11_init 78 = .ok (.putfield 48, 3) := by decide +kernel
theorem dX11_init_81 : decode cX11_init 81 = .ok (.aload_n 0, 1) := by decide +kernel
theorem dX11_init_82 : decode cX11_init 82 = .ok (.new 52, 3) := by decide +kernel
theorem dX11_init_85 : decode cX11_init 85 = .ok (.dup, 1) := by decide +kernel
theorem dX11_init_86 : decode cX11_init 86 = .ok (.invokespecial 54, 3) := by decide +kernel
theorem dX11_init_89 : decode cX11_init 89 = .ok (.putfield 55, 3) := by decide +kernel
theorem dX11_init_92 : decode cX11_init 92 = .ok (.aload_n 0, 1) := by decide +kernel
theorem dX11_init_93 : decode cX11_init 93 = .ok (.new 59, 3) := by decide +kernel
theorem dX11_init_96 : decode cX11_init 96 = .ok (.dup, 1) := by decide +kernel
theorem dX11_init_97 : decode cX11_init 97 = .ok (.invokespecial 61, 3) := by decide +kernel
theorem dX11_init_100 : decode cX11_init 100 = .ok (.putfield 62, 3) := by decide +kernel
theorem dX11_init_103 : decode cX11_init 103 = .ok (.aload_n 0, 1) := by decide +kernel
theorem dX11_init_104 : decode cX11_init 104 = .ok (.new 66, 3) := by decide +kernel
theorem dX11_init_107 : decode cX11_init 107 = .ok (.dup, 1) := by decide +kernel
theorem dX11_init_108 : decode cX11_init 108 = .ok (.invokespecial 68, 3) := by decide +kernel
theorem dX11_init_111 : decode cX11_init 111 = .ok (.putfield 69, 3) := by decide +kernel
theorem dX11_init_114 : decode cX11_init 114 = .ok (.iconst 0, 1) := by decide +kernel
theorem dX11_init_115 : decode cX11_init 115 = .ok (.istore_n 1, 1) := by decide +kernel
theorem dX11_init_116 : decode cX11_init 116 = .ok (.iload_n 1, 1) := by decide +kernel
theorem dX11_init_117 : decode cX11_init 117 = .ok (.aload_n 0, 1) := by decide +kernel
theorem dX11_init_118 : decode cX11_init 118 = .ok (.getfield 34, 3) := by decide +kernel
theorem dX11_init_121 : decode cX11_init 121 = .ok (.arraylength, 1) := by decide +kernel
theorem dX11_init_122 : decode cX11_init 122 = .ok (.if_icmp .ge 22, 3) := by decide +kernel
theorem dX11_init_125 : decode cX11_init 125 = .ok (.aload_n 0, 1) := by decide +kernel
theorem dX11_init_126 : decode cX11_init 126 = .ok (.getfield 34, 3) := by decide +kernel
theorem dX11_init_129 : decode cX11_init 129 = .ok (.iload_n 1, 1) := by decide +kernel
theorem dX11_init_130 : decode cX11_init 130 = .ok (.new 27, 3) := by decide +kernel
theorem dX11_init_133 : decode cX11_init 133 = .ok (.dup, 1) := by decide +kernel
theorem dX11_init_134 : decode cX11_init 134 = .ok (.invokespecial 29, 3) := by decide +kernel
theorem dX11_init_137 : decode cX11_init 137 = .ok (.aastore, 1) := by decide +kernel
theorem dX11_init_138 : decode cX11_init 138 = .ok (.iinc 1 1, 3) := by decide +kernel
theorem dX11_init_141 : decode cX11_init 141 = .ok (.goto (-25), 3) := by decide +kernel
theorem dX11_init_144 : decode cX11_init 144 = .ok (.return_, 1) := by decide +kernel
theorem dX9_hasLock_0 : decode cX9_hasLock 0 = .ok (.iload_n 1, 1) := by decide +kernel
theorem dX9_hasLock_1 : decode cX9_hasLock 1 = .ok (.ifCond .lt 15, 3) := by decide +kernel
theorem dX9_hasLock_16 : decode cX9_hasLock 16 = .ok (.iconst 0, 1) := by decide +kernel
theorem dX9_hasLock_17 : decode cX9_hasLock 17 = .ok (.ireturn, 1) := by decide +kernel
theorem dX9_hasLock_4 : decode cX9_hasLock 4 = .ok (.iload_n 1, 1) := by decide +kernel
theorem dX9_hasLock_5 : decode cX9_hasLock 5 = .ok (.aload_n 0, 1) := by decide +kernel
theorem dX9_hasLock_6 : decode cX9_hasLock 6 = .ok (.getfield 53, 3) := by decide +kernel
theorem dX9_hasLock_9 : decode cX9_hasLock 9 = .ok (.if_icmp .ge 7, 3) := by decide +kernel
theorem dX11_putNumber_0 : decode cX11_putNumber 0 = .ok (.bipush 24, 2) := by decide +kernel
theorem dX11_putNumber_2 : decode cX11_putNumber 2 = .ok (.istore_n 2, 1) := by decide +kernel
theorem dX11_putNumber_3 : decode cX11_putNumber 3 = .ok (.iload_n 2, 1) := by decide +kernel
theorem dX11_putNumber_4 : decode cX11_putNumber 4 = .ok (.ifCond .lt 44, 3) := by decide +kernel
theorem dX11_putNumber_7 : decode cX11_putNumber 7 = .ok (.aload_n 0, 1) := by decide +kernel
theorem dX11_putNumber_8 : decode cX11_putNumber 8 = .ok (.getfield 73, 3) := by decide +kernel
theorem dX11_putNumber_11 : decode cX11_putNumber 11 = .ok (.aload_n 0, 1) := by decide +kernel
theorem dX11_putNumber_12 : decode cX11_putNumber 12 = .ok (.getfield 9, 3) := by decide +kernel
theorem dX11_putNumber_15 : decode cX11_putNumber 15 = .ok (.arraylength, 1) := by decide +kernel
theorem dX11_putNumber_16 : decode cX11_putNumber 16 = .ok (.if_icmp .ge 26, 3) := by decide +kernel
theorem dX11_putNumber_19 : decode cX11_putNumber 19 = .ok (.aload_n 0, 1) := by decide +kernel
theorem dX11_putNumber_20 : decode cX11_putNumber 20 = .ok (.getfield 9, 3) := by decide +kernel
theorem dX11_putNumber_23 : decode cX11_putNumber 23 = .ok (.aload_n 0, 1) := by decide +kernel
theorem dX11_putNumber_24 : decode cX11_putNumber 24 = .ok (.getfield 73, 3) := by decide +kernel
theorem dX11_putNumber_27 : decode cX11_putNumber 27 = .ok (.iload_n 1, 1) := by decide +kernel
theorem dX11_putNumber_28 : decode cX11_putNumber 28 = .ok (.iload_n 2, 1) := by decide +kernel
theorem dX11_putNumber_29 : decode cX11_putNumber 29 = .ok (.ishr, 1) := by decide +kernel
theorem dX11_putNumber_30 : decode cX11_putNumber 30 = .ok (.i2b, 1) := by decide +kernel
theorem dX11_putNumber_31 : decode cX11_putNumber 31 = .ok (.bastore, 1) := by decide +kernel
theorem dX11_putNumber_32 : decode cX11_putNumber 32 = .ok (.aload_n 0, 1) := by decide +kernel
theorem dX11_putNumber_33 : decode cX11_putNumber 33 = .ok (.dup, 1) := by decide +kernel
theorem dX11_putNumber_34 : decode cX11_putNumber 34 = .ok (.getfield 73, 3) := by decide +kernel
theorem dX11_putNumber_37 : decode cX11_putNumber 37 = .ok (.iconst 1, 1) := by decide +kernel
theorem dX11_putNumber_38 : decode cX11_putNumber 38 = .ok (.iadd, 1) := by decide +kernel
theorem dX11_putNumber_39 : decode cX11_putNumber 39 = .ok (.putfield 73, 3) := by decide +kernel
theorem dX11_putNumber_42 : decode cX11_putNumber 42 = .ok (.iinc 2 (-8), 3) := by decide +kernel
theorem dX11_putNumber_45 : decode cX11_putNumber 45 = .ok (.goto (-42), 3) := by decide +kernel
theorem dX11_putNumber_48 : decode cX11_putNumber 48 = .ok (.return_, 1) := by decide +kernel
theorem dX8_add_0 : decode cX8_add 0 = .ok (.aload_n 0, 1) := by decide +kernel
theorem dX8_add_1 : decode cX8_add 1 = .ok (.getfield 24, 3) := by decide +kernel
theorem dX8_add_4 : decode cX8_add 4 = .ok (.aload_n 0, 1) := by decide +kernel
theorem dX8_add_5 : decode cX8_add 5 = .ok (.getfield 15, 3) := by decide +kernel
theorem dX8_add_8 : decode cX8_add 8 = .ok (.arraylength, 1) := by decide +kernel
theorem dX8_add_9 : decode cX8_add 9 = .ok (.if_icmp .ge 33, 3) := by decide +kernel
theorem dX8_add_12 : decode cX8_add 12 = .ok (.aload_n 0, 1) := by decide +kernel
theorem dX8_add_13 : decode cX8_add 13 = .ok (.getfield 15, 3) := by decide +kernel
theorem dX8_add_16 : decode cX8_add 16 = .ok (.aload_n 0, 1) := by decide +kernel
theorem dX8_add_17 : decode cX8_add 17 = .ok (.getfield 24, 3) := by decide +kernel
theorem dX8_add_20 : decode cX8_add 20 = .ok (.iload_n 1, 1) := by decide +kernel
theorem dX8_add_21 : decode cX8_add 21 = .ok (.iastore, 1) := by decide +kernel
theorem dX8_add_22 : decode cX8_add 22 = .ok (.aload_n 0, 1) := by decide +kernel
theorem dX8_add_23 : decode cX8_add 23 = .ok (.getfield 21, 3) := by decide +kernel
theorem dX8_add_26 : decode cX8_add 26 = .ok (.aload_n 0, 1) := by decide +kernel
theorem dX8_add_27 : decode cX8_add 27 = .ok (.getfield 24, 3) := by decide +kernel
theorem dX8_add_30 : decode cX8_add 30 = .ok (.iload_n 2, 1) := by decide +kernel
theorem dX8_add_31 : decode cX8_add 31 = .ok (.iastore, 1) := by decide +kernel
theorem dX8_add_32 : decode cX8_add 32 = .ok (.aload_n 0, 1) := by decide +kernel
theorem dX8_add_33 : decode cX8_add 33 = .ok (.dup, 1) := by decide +kernel
theorem dX8_add_34 : decode cX8_add 34 = .ok (.getfield 24, 3) := by decide +kernel
theorem dX8_add_37 : decode cX8_add 37 = .ok (.iconst 1, 1) := by decide +kernel
theorem dX8_add_38 : decode cX8_add 38 = .ok (.iadd, 1) := by decide +kernel
theorem dX8_add_39 : decode cX8_add 39 = .ok (.putfield 24, 3) := by decide +kernel
theorem dX8_add_42 : decode cX8_add 42 = .ok (.return_, 1) := by decide +kernel
theorem dX8_becomeLike_0 : decode cX8_becomeLike 0 = .ok (.aload_n 0, 1) := by decide +kernel
theorem dX8_becomeLike_1 : decode cX8_becomeLike 1 = .ok (.iconst 0, 1) := by decide +kernel
theorem dX8_becomeLike_2 : decode cX8_becomeLike 2 = .ok (.putfield 24, 3) := by decide +kernel
theorem dX8_becomeLike_5 : decode cX8_becomeLike 5 = .ok (.iconst 0, 1) := by decide +kernel
theorem dX8_becomeLike_6 : decode cX8_becomeLike 6 = .ok (.istore_n 2, 1) := by decide +kernel
theorem dX8_becomeLike_7 : decode cX8_becomeLike 7 = .ok (.iload_n 2, 1) := by decide +kernel
theorem dX8_becomeLike_8 : decode cX8_becomeLike 8 = .ok (.aload_n 1, 1) := by decide +kernel
theorem dX8_becomeLike_9 : decode cX8_becomeLike 9 = .ok (.getfield 24, 3) := by decide +kernel
theorem dX8_becomeLike_12 : decode cX8_becomeLike 12 = .ok (.if_icmp .ge 25, 3) := by decide +kernel
theorem dX8_becomeLike_37 : decode cX8_becomeLike 37 = .ok (.return_, 1) := by decide +kernel
theorem dJ7_fill_53178_0 : decode cJ7_fill_53178 0 = .ok (.iconst 0, 1) := by decide +kernel
theorem dJ7_fill_53178_1 : decode cJ7_fill_53178 1 = .ok (.istore_n 2, 1) := by decide +kernel
theorem dJ7_fill_53178_2 : decode cJ7_fill_53178 2 = .ok (.aload_n 0, 1) := by decide +kernel
theorem dJ7_fill_53178_3 : decode cJ7_fill_53178 3 = .ok (.arraylength, 1) := by decide +kernel
theorem dJ7_fill_53178_4 : decode cJ7_fill_53178 4 = .ok (.istore_n 3, 1) := by decide +kernel
theorem dJ7_fill_53178_5 : decode cJ7_fill_53178 5 = .ok (.iload_n 2, 1) := by decide +kernel
theorem dJ7_fill_53178_6 : decode cJ7_fill_53178 6 = .ok (.iload_n 3, 1) := by decide +kernel
theorem dJ7_fill_53178_7 : decode cJ7_fill_53178 7 = .ok (.if_icmp .ge 13, 3) := by decide +kernel
theorem dJ7_fill_53178_10 : decode cJ7_fill_53178 10 = .ok (.aload_n 0, 1) := by decide +kernel
theorem dJ7_fill_53178_11 : decode cJ7_fill_53178 11 = .ok (.iload_n 2, 1) := by decide +kernel
theorem dJ7_fill_53178_12 : decode cJ7_fill_53178 12 = .ok (.iload_n 1, 1) := by decide +kernel
theorem dJ7_fill_53178_13 : decode cJ7_fill_53178 13 = .ok (.iastore, 1) := by decide +kernel
theorem dJ7_fill_53178_14 : decode cJ7_fill_53178 14 = .ok (.iinc 2 1, 3) := by decide +kernel
theorem dJ7_fill_53178_17 : decode cJ7_fill_53178 17 = .ok (.goto (-12), 3) := by decide +kernel
theorem dJ7_fill_53178_20 : decode cJ7_fill_53178 20 = .ok (.return_, 1) := by decide +kernel
theorem dX7_clear_0 : decode cX7_clear 0 = .ok (.aload_n 0, 1) := by decide +kernel
theorem dX7_clear_1 : decode cX7_clear 1 = .ok (.getfield 14, 3) := by decide +kernel
theorem dX7_clear_4 : decode cX7_clear 4 = .ok (.iconst 0, 1) := by decide +kernel
theorem dX7_clear_5 : decode cX7_clear 5 = .ok (.putfield 24, 3) := by decide +kernel
theorem dX7_clear_8 : decode cX7_clear 8 = .ok (.aload_n 0, 1) := by decide +kernel
theorem dX7_clear_9 : decode cX7_clear 9 = .ok (.iconst 0, 1) := by decide +kernel
theorem dX7_clear_10 : decode cX7_clear 10 = .ok (.putfield 28, 3) := by decide +kernel
theorem dX7_clear_13 : decode cX7_clear 13 = .ok (.aload_n 0, 1) := by decide +kernel
theorem dX7_clear_14 : decode cX7_clear 14 = .ok (.iconst 0, 1) := by decide +kernel
theorem dX7_clear_15 : decode cX7_clear 15 = .ok (.putfield 32, 3) := by decide +kernel
theorem dX7_clear_18 : decode cX7_clear 18 = .ok (.aload_n 0, 1) := by decide +kernel
theorem dX7_clear_19 : decode cX7_clear 19 = .ok (.getfield 20, 3) := by decide +kernel
theorem dX7_clear_22 : decode cX7_clear 22 = .ok (.iconst 0, 1) := by decide +kernel
theorem dX7_clear_23 : decode cX7_clear 23 = .ok (.invokestatic 35, 3) := by decide +kernel
theorem dX7_clear_26 : decode cX7_clear 26 = .ok (.aload_n 0, 1) := by decide +kernel
theorem dX7_clear_27 : decode cX7_clear 27 = .ok (.iconst 0, 1) := by decide +kernel
theorem dX7_clear_28 : decode cX7_clear 28 = .ok (.putfield 41, 3) := by decide +kernel
theorem dX7_clear_31 : decode cX7_clear 31 = .ok (.return_, 1) := by decide +kernel
theorem dX7_becomeLike_0 : decode cX7_becomeLike 0 = .ok (.aload_n 0, 1) := by decide +kernel
theorem dX7_becomeLike_1 : decode cX7_becomeLike 1 = .ok (.getfield 14, 3) := by decide +kernel
theorem dX7_becomeLike_4 : decode cX7_becomeLike 4 = .ok (.aload_n 1, 1) := by decide +kernel
theorem dX7_becomeLike_5 : decode cX7_becomeLike 5 = .ok (.getfield 14, 3) := by decide +kernel
theorem dX7_becomeLike_8 : decode cX7_becomeLike 8 = .ok (.invokevirtual 44, 3) := by decide +kernel
theorem dX7_becomeLike_11 : decode cX7_becomeLike 11 = .ok (.aload_n 0, 1) := by decide +kernel
theorem dX7_becomeLike_12 : decode cX7_becomeLike 12 = .ok (.aload_n 1, 1) := by decide +kernel
theorem dX7_becomeLike_13 : decode cX7_becomeLike 13 = .ok (.getfield 28, 3) := by decide +kernel
theorem dX7_becomeLike_16 : decode cX7_becomeLike 16 = .ok (.putfield 28, 3) := by decide +kernel
theorem dX7_becomeLike_19 : decode cX7_becomeLike 19 = .ok (.aload_n 0, 1) := by decide +kernel
theorem dX7_becomeLike_20 : decode cX7_becomeLike 20 = .ok (.aload_n 1, 1) := by decide +kernel
theorem dX7_becomeLike_21 : decode cX7_becomeLike 21 = .ok (.getfield 32, 3) := by decide +kernel
theorem dX7_becomeLike_24 : decode cX7_becomeLike 24 = .ok (.putfield 32, 3) := by decide +kernel
theorem dX7_becomeLike_27 : decode cX7_becomeLike 27 = .ok (.aload_n 1, 1) := by decide +kernel
theorem dX7_becomeLike_28 : decode cX7_becomeLike 28 = .ok (.getfield 20, 3) := by decide +kernel
theorem dX7_becomeLike_31 : decode cX7_becomeLike 31 = .ok (.iconst 0, 1) := by decide +kernel
theorem dX7_becomeLike_32 : decode cX7_becomeLike 32 = .ok (.aload_n 0, 1) := by decide +kernel
theorem dX7_becomeLike_33 : decode cX7_becomeLike 33 = .ok (.getfield 20, 3) := by decide +kernel
theorem dX7_becomeLike_36 : decode cX7_becomeLike 36 = .ok (.iconst 0, 1) := by decide +kernel
theorem dX7_becomeLike_37 : decode cX7_becomeLike 37 = .ok (.bipush 8, 2) := by decide +kernel
theorem dX7_becomeLike_39 : decode cX7_becomeLike 39 = .ok (.invokestatic 48, 3) := by decide +kernel
theorem dX7_becomeLike_42 : decode cX7_becomeLike 42 = .ok (.return_, 1) := by decide +kernel
theorem dX2_hearAll_0 : decode cX2_hearAll 0 = .ok (.aload_n 0, 1) := by decide +kernel
theorem dX2_hearAll_1 : decode cX2_hearAll 1 = .ok (.aload_n 1, 1) := by decide +kernel
theorem dX2_hearAll_2 : decode cX2_hearAll 2 = .ok (.getfield 24, 3) := by decide +kernel
theorem dX2_hearAll_5 : decode cX2_hearAll 5 = .ok (.putfield 30, 3) := by decide +kernel
theorem dX2_hearAll_8 : decode cX2_hearAll 8 = .ok (.iconst 0, 1) := by decide +kernel
theorem dX2_hearAll_9 : decode cX2_hearAll 9 = .ok (.istore_n 3, 1) := by decide +kernel
theorem dX2_hearAll_10 : decode cX2_hearAll 10 = .ok (.iload_n 3, 1) := by decide +kernel
theorem dX2_hearAll_11 : decode cX2_hearAll 11 = .ok (.aload_n 2, 1) := by decide +kernel
theorem dX2_hearAll_12 : decode cX2_hearAll 12 = .ok (.getfield 33, 3) := by decide +kernel
theorem dX2_hearAll_15 : decode cX2_hearAll 15 = .ok (.if_icmp .ge 88, 3) := by decide +kernel
theorem dX2_hearAll_103 : decode cX2_hearAll 103 = .ok (.return_, 1) := by decide +kernel
theorem dX2_hearLast_0 : decode cX2_hearLast 0 = .ok (.aload_n 0, 1) := by decide +kernel
theorem dX2_hearLast_1 : decode cX2_hearLast 1 = .ok (.aload_n 1, 1) := by decide +kernel
theorem dX2_hearLast_2 : decode cX2_hearLast 2 = .ok (.getfield 24, 3) := by decide +kernel
theorem dX2_hearLast_5 : decode cX2_hearLast 5 = .ok (.putfield 30, 3) := by decide +kernel
theorem dX2_hearLast_8 : decode cX2_hearLast 8 = .ok (.iconst 0, 1) := by decide +kernel
theorem dX2_hearLast_9 : decode cX2_hearLast 9 = .ok (.istore_n 3, 1) := by decide +kernel
theorem dX2_hearLast_10 : decode cX2_hearLast 10 = .ok (.iload_n 3, 1) := by decide +kernel
theorem dX2_hearLast_11 : decode cX2_hearLast 11 = .ok (.aload_n 2, 1) := by decide +kernel
theorem dX2_hearLast_12 : decode cX2_hearLast 12 = .ok (.getfield 33, 3) := by decide +kernel
theorem dX2_hearLast_15 : decode cX2_hearLast 15 = .ok (.if_icmp .ge 49, 3) := by decide +kernel
theorem dX2_hearLast_64 : decode cX2_hearLast 64 = .ok (.return_, 1) := by decide +kernel
theorem dX10_clear_0 : decode cX10_clear 0 = .ok (.aload_n 0, 1) := by decide +kernel
theorem dX10_clear_1 : decode cX10_clear 1 = .ok (.iconst 0, 1) := by decide +kernel
theorem dX10_clear_2 : decode cX10_clear 2 = .ok (.putfield 28, 3) := by decide +kernel
theorem dX10_clear_5 : decode cX10_clear 5 = .ok (.return_, 1) := by decide +kernel
theorem dX10_takeBack_0 : decode cX10_takeBack 0 = .ok (.iload_n 1, 1) := by decide +kernel
theorem dX10_takeBack_1 : decode cX10_takeBack 1 = .ok (.ifCond .lt 21, 3) := by decide +kernel
theorem dX10_takeBack_22 : decode cX10_takeBack 22 = .ok (.iconst 0, 1) := by decide +kernel
theorem dX10_takeBack_23 : decode cX10_takeBack 23 = .ok (.ireturn, 1) := by decide +kernel
theorem dX10_takeBack_4 : decode cX10_takeBack 4 = .ok (.iload_n 1, 1) := by decide +kernel
theorem dX10_takeBack_5 : decode cX10_takeBack 5 = .ok (.aload_n 0, 1) := by decide +kernel
theorem dX10_takeBack_6 : decode cX10_takeBack 6 = .ok (.getfield 28, 3) := by decide +kernel
theorem dX10_takeBack_9 : decode cX10_takeBack 9 = .ok (.if_icmp .ge 13, 3) := by decide +kernel
theorem dX10_leftAt_0 : decode cX10_leftAt 0 = .ok (.iconst 1, 1) := by decide +kernel
theorem dX10_leftAt_1 : decode cX10_leftAt 1 = .ok (.aload_n 2, 1) := by decide +kernel
theorem dX10_leftAt_2 : decode cX10_leftAt 2 = .ok (.getfield 32, 3) := by decide +kernel
theorem dX10_leftAt_5 : decode cX10_leftAt 5 = .ok (.ishl, 1) := by decide +kernel
theorem dX10_leftAt_6 : decode cX10_leftAt 6 = .ok (.iconst 1, 1) := by decide +kernel
theorem dX10_leftAt_7 : decode cX10_leftAt 7 = .ok (.isub, 1) := by decide +kernel
theorem dX10_leftAt_8 : decode cX10_leftAt 8 = .ok (.istore_n 3, 1) := by decide +kernel
theorem dX10_leftAt_9 : decode cX10_leftAt 9 = .ok (.iconst 0, 1) := by decide +kernel
theorem dX10_leftAt_10 : decode cX10_leftAt 10 = .ok (.istore 4, 2) := by decide +kernel
theorem dX10_leftAt_12 : decode cX10_leftAt 12 = .ok (.iload 4, 2) := by decide +kernel
theorem dX10_leftAt_14 : decode cX10_leftAt 14 = .ok (.aload_n 0, 1) := by decide +kernel
theorem dX10_leftAt_15 : decode cX10_leftAt 15 = .ok (.getfield 28, 3) := by decide +kernel
theorem dX10_leftAt_18 : decode cX10_leftAt 18 = .ok (.if_icmp .ge 79, 3) := by decide +kernel
theorem dX10_leftAt_97 : decode cX10_leftAt 97 = .ok (.iload_n 3, 1) := by decide +kernel
theorem dX10_leftAt_98 : decode cX10_leftAt 98 = .ok (.ireturn, 1) := by decide +kernel
theorem dX1_pick_0 : decode cX1_pick 0 = .ok (.iload_n 3, 1) := by decide +kernel
theorem dX1_pick_1 : decode cX1_pick 1 = .ok (.iload_n 1, 1) := by decide +kernel
theorem dX1_pick_2 : decode cX1_pick 2 = .ok (.iadd, 1) := by decide +kernel
theorem dX1_pick_3 : decode cX1_pick 3 = .ok (.aload_n 0, 1) := by decide +kernel
theorem dX1_pick_4 : decode cX1_pick 4 = .ok (.getfield 28, 3) := by decide +kernel
theorem dX1_pick_7 : decode cX1_pick 7 = .ok (.if_icmp .gt 4, 3) := by decide +kernel
theorem dX1_pick_11 : decode cX1_pick 11 = .ok (.iload_n 1, 1) := by decide +kernel
theorem dX1_pick_12 : decode cX1_pick 12 = .ok (.iconst 1, 1) := by decide +kernel
theorem dX1_pick_13 : decode cX1_pick 13 = .ok (.if_icmp .lt 12, 3) := by decide +kernel
theorem dX1_pick_25 : decode cX1_pick 25 = .ok (.aload_n 0, 1) := by decide +kernel
theorem dX1_pick_26 : decode cX1_pick 26 = .ok (.iload_n 2, 1) := by decide +kernel
theorem dX1_pick_27 : decode cX1_pick 27 = .ok (.putfield 25, 3) := by decide +kernel
theorem dX1_pick_30 : decode cX1_pick 30 = .ok (.aload_n 0, 1) := by decide +kernel
theorem dX1_pick_31 : decode cX1_pick 31 = .ok (.iload_n 3, 1) := by decide +kernel
theorem dX1_pick_32 : decode cX1_pick 32 = .ok (.putfield 28, 3) := by decide +kernel
theorem dX1_pick_35 : decode cX1_pick 35 = .ok (.return_, 1) := by decide +kernel
theorem dX1_choose_0 : decode cX1_choose 0 = .ok (.iconst 0, 1) := by decide +kernel
theorem dX1_choose_1 : decode cX1_choose 1 = .ok (.istore_n 3, 1) := by decide +kernel
theorem dX1_choose_2 : decode cX1_choose 2 = .ok (.iload_n 3, 1) := by decide +kernel
theorem dX1_choose_3 : decode cX1_choose 3 = .ok (.aload_n 1, 1) := by decide +kernel
theorem dX1_choose_4 : decode cX1_choose 4 = .ok (.getfield 15, 3) := by decide +kernel
theorem dX1_choose_7 : decode cX1_choose 7 = .ok (.if_icmp .ge 64, 3) := by decide +kernel
theorem dX1_choose_71 : decode cX1_choose 71 = .ok (.aload_n 0, 1) := by decide +kernel
theorem dX1_choose_72 : decode cX1_choose 72 = .ok (.iconst 0, 1) := by decide +kernel
theorem dX1_choose_73 : decode cX1_choose 73 = .ok (.putfield 25, 3) := by decide +kernel
theorem dX1_choose_76 : decode cX1_choose 76 = .ok (.aload_n 0, 1) := by decide +kernel
theorem dX1_choose_77 : decode cX1_choose 77 = .ok (.iconst (-1), 1) := by decide +kernel
theorem dX1_choose_78 : decode cX1_choose 78 = .ok (.putfield 28, 3) := by decide +kernel
theorem dX1_choose_81 : decode cX1_choose 81 = .ok (.aload_n 0, 1) := by decide +kernel
theorem dX1_choose_82 : decode cX1_choose 82 = .ok (.aload_n 1, 1) := by decide +kernel
theorem dX1_choose_83 : decode cX1_choose 83 = .ok (.getfield 15, 3) := by decide +kernel
theorem dX1_choose_86 : decode cX1_choose 86 = .ok (.iconst 0, 1) := by decide +kernel
theorem dX1_choose_87 : decode cX1_choose 87 = .ok (.iconst 0, 1) := by decide +kernel
theorem dX1_choose_88 : decode cX1_choose 88 = .ok (.invokestatic 31, 3) := by decide +kernel
theorem dX1_choose_91 : decode cX1_choose 91 = .ok (.aload_n 0, 1) := by decide +kernel
theorem dX1_choose_92 : decode cX1_choose 92 = .ok (.getfield 25, 3) := by decide +kernel
theorem dX1_choose_95 : decode cX1_choose 95 = .ok (.ireturn, 1) := by decide +kernel
theorem dX3_layNext_0 : decode cX3_layNext 0 = .ok (.iload_n 3, 1) := by decide +kernel
theorem dX3_layNext_1 : decode cX3_layNext 1 = .ok (.aload_n 0, 1) := by decide +kernel
theorem dX3_layNext_2 : decode cX3_layNext 2 = .ok (.getfield 29, 3) := by decide +kernel
theorem dX3_layNext_5 : decode cX3_layNext 5 = .ok (.if_icmp .lt 4, 3) := by decide +kernel
theorem dX3_layNext_9 : decode cX3_layNext 9 = .ok (.iload_n 1, 1) := by decide +kernel
theorem dX3_layNext_10 : decode cX3_layNext 10 = .ok (.aload_n 0, 1) := by decide +kernel
theorem dX3_layNext_11 : decode cX3_layNext 11 = .ok (.getfield 33, 3) := by decide +kernel
theorem dX3_layNext_14 : decode cX3_layNext 14 = .ok (.if_icmp .ge 9, 3) := by decide +kernel
theorem dX3_layNext_23 : decode cX3_layNext 23 = .ok (.aload_n 0, 1) := by decide +kernel
theorem dX3_layNext_24 : decode cX3_layNext 24 = .ok (.iload_n 3, 1) := by decide +kernel
theorem dX3_layNext_25 : decode cX3_layNext 25 = .ok (.putfield 29, 3) := by decide +kernel
theorem dX3_layNext_28 : decode cX3_layNext 28 = .ok (.aload_n 0, 1) := by decide +kernel
theorem dX3_layNext_29 : decode cX3_layNext 29 = .ok (.getfield 23, 3) := by decide +kernel
theorem dX3_layNext_32 : decode cX3_layNext 32 = .ok (.iconst 0, 1) := by decide +kernel
theorem dX3_layNext_33 : decode cX3_layNext 33 = .ok (.aload_n 0, 1) := by decide +kernel
theorem dX3_layNext_34 : decode cX3_layNext 34 = .ok (.getfield 26, 3) := by decide +kernel
theorem dX3_layNext_37 : decode cX3_layNext 37 = .ok (.iconst 0, 1) := by decide +kernel
theorem dX3_layNext_38 : decode cX3_layNext 38 = .ok (.bipush 6, 2) := by decide +kernel
theorem dX3_layNext_40 : decode cX3_layNext 40 = .ok (.invokestatic 74, 3) := by decide +kernel
theorem dX3_layNext_43 : decode cX3_layNext 43 = .ok (.return_, 1) := by decide +kernel
theorem dX3_lay_0 : decode cX3_lay 0 = .ok (.aload_n 0, 1) := by decide +kernel
theorem dX3_lay_1 : decode cX3_lay 1 = .ok (.iconst 0, 1) := by decide +kernel
theorem dX3_lay_2 : decode cX3_lay 2 = .ok (.putfield 33, 3) := by decide +kernel
theorem dX3_lay_5 : decode cX3_lay 5 = .ok (.iconst 0, 1) := by decide +kernel
theorem dX3_lay_6 : decode cX3_lay 6 = .ok (.istore_n 3, 1) := by decide +kernel
theorem dX3_lay_7 : decode cX3_lay 7 = .ok (.iload_n 3, 1) := by decide +kernel
theorem dX3_lay_8 : decode cX3_lay 8 = .ok (.aload_n 1, 1) := by decide +kernel
theorem dX3_lay_9 : decode cX3_lay 9 = .ok (.getfield 36, 3) := by decide +kernel
theorem dX3_lay_12 : decode cX3_lay 12 = .ok (.if_icmp .ge 73, 3) := by decide +kernel
theorem dX3_lay_85 : decode cX3_lay 85 = .ok (.iconst 0, 1) := by decide +kernel
theorem dX3_lay_86 : decode cX3_lay 86 = .ok (.istore_n 3, 1) := by decide +kernel
theorem dX3_lay_87 : decode cX3_lay 87 = .ok (.iload_n 3, 1) := by decide +kernel
theorem dX3_lay_88 : decode cX3_lay 88 = .ok (.aload_n 0, 1) := by decide +kernel
theorem dX3_lay_89 : decode cX3_lay 89 = .ok (.getfield 33, 3) := by decide +kernel
theorem dX3_lay_92 : decode cX3_lay 92 = .ok (.if_icmp .ge 62, 3) := by decide +kernel
theorem dX3_lay_154 : decode cX3_lay 154 = .ok (.aload_n 0, 1) := by decide +kernel
theorem dX3_lay_155 : decode cX3_lay 155 = .ok (.bipush 73, 2) := by decide +kernel
theorem dX3_lay_157 : decode cX3_lay 157 = .ok (.putfield 29, 3) := by decide +kernel
theorem dX3_lay_160 : decode cX3_lay 160 = .ok (.aload_n 0, 1) := by decide +kernel
theorem dX3_lay_161 : decode cX3_lay 161 = .ok (.iconst 0, 1) := by decide +kernel
theorem dX3_lay_162 : decode cX3_lay 162 = .ok (.iconst 0, 1) := by decide +kernel
theorem dX3_lay_163 : decode cX3_lay 163 = .ok (.iconst 0, 1) := by decide +kernel
theorem dX3_lay_164 : decode cX3_lay 164 = .ok (.invokestatic 56, 3) := by decide +kernel
theorem dX3_lay_167 : decode cX3_lay 167 = .ok (.return_, 1) := by decide +kernel
theorem dX3_fewestNotes_0 : decode cX3_fewestNotes 0 = .ok (.aload_n 0, 1) := by decide +kernel
theorem dX3_fewestNotes_1 : decode cX3_fewestNotes 1 = .ok (.getfield 29, 3) := by decide +kernel
theorem dX3_fewestNotes_4 : decode cX3_fewestNotes 4 = .ok (.ireturn, 1) := by decide +kernel
theorem dX3_laidAt_0 : decode cX3_laidAt 0 = .ok (.iload_n 1, 1) := by decide +kernel
theorem dX3_laidAt_1 : decode cX3_laidAt 1 = .ok (.ifCond .lt 25, 3) := by decide +kernel
theorem dX3_laidAt_26 : decode cX3_laidAt 26 = .ok (.iconst (-1), 1) := by decide +kernel
theorem dX3_laidAt_27 : decode cX3_laidAt 27 = .ok (.ireturn, 1) := by decide +kernel
theorem dX3_laidAt_4 : decode cX3_laidAt 4 = .ok (.iload_n 1, 1) := by decide +kernel
theorem dX3_laidAt_5 : decode cX3_laidAt 5 = .ok (.aload_n 0, 1) := by decide +kernel
theorem dX3_laidAt_6 : decode cX3_laidAt 6 = .ok (.getfield 33, 3) := by decide +kernel
theorem dX3_laidAt_9 : decode cX3_laidAt 9 = .ok (.if_icmp .ge 17, 3) := by decide +kernel
theorem dJ6_bitCount_0f7a4_0 : decode cJ6_bitCount_0f7a4 0 = .ok (.iload_n 0, 1) := by decide +kernel
theorem dJ6_bitCount_0f7a4_1 : decode cJ6_bitCount_0f7a4 1 = .ok (.iload_n 0, 1) := by decide +kernel
theorem dJ6_bitCount_0f7a4_2 : decode cJ6_bitCount_0f7a4 2 = .ok (.iconst 1, 1) := by decide +kernel
theorem dJ6_bitCount_0f7a4_3 : decode cJ6_bitCount_0f7a4 3 = .ok (.iushr, 1) := by decide +kernel
theorem dJ6_bitCount_0f7a4_4 : decode cJ6_bitCount_0f7a4 4 = .ok (.ldc_w 265, 3) := by decide +kernel
theorem dJ6_bitCount_0f7a4_7 : decode cJ6_bitCount_0f7a4 7 = .ok (.iand, 1) := by decide +kernel
theorem dJ6_bitCount_0f7a4_8 : decode cJ6_bitCount_0f7a4 8 = .ok (.isub, 1) := by decide +kernel
theorem dJ6_bitCount_0f7a4_9 : decode cJ6_bitCount_0f7a4 9 = .ok (.istore_n 0, 1) := by decide +kernel
theorem dJ6_bitCount_0f7a4_10 : decode cJ6_bitCount_0f7a4 10 = .ok (.iload_n 0, 1) := by decide +kernel
theorem dJ6_bitCount_0f7a4_11 : decode cJ6_bitCount_0f7a4 11 = .ok (.ldc_w 266, 3) := by decide +kernel
theorem dJ6_bitCount_0f7a4_14 : decode cJ6_bitCount_0f7a4 14 = .ok (.iand, 1) := by decide +kernel
theorem dJ6_bitCount_0f7a4_15 : decode cJ6_bitCount_0f7a4 15 = .ok (.iload_n 0, 1) := by decide +kernel
theorem dJ6_bitCount_0f7a4_16 : decode cJ6_bitCount_0f7a4 16 = .ok (.iconst 2, 1) := by decide +kernel
theorem dJ6_bitCount_0f7a4_17 : decode cJ6_bitCount_0f7a4 17 = .ok (.iushr, 1) := by decide +kernel
theorem dJ6_bitCount_0f7a4_18 : decode cJ6_bitCount_0f7a4 18 = .ok (.ldc_w 266, 3) := by decide +kernel
theorem dJ6_bitCount_0f7a4_21 : decode cJ6_bitCount_0f7a4 21 = .ok (.iand, 1) := by decide +kernel
theorem dJ6_bitCount_0f7a4_22 : decode cJ6_bitCount_0f7a4 22 = .ok (.iadd, 1) := by decide +kernel
theorem dJ6_bitCount_0f7a4_23 : decode cJ6_bitCount_0f7a4 23 = .ok (.istore_n 0, 1) := by decide +kernel
theorem dJ6_bitCount_0f7a4_24 : decode cJ6_bitCount_0f7a4 24 = .ok (.iload_n 0, 1) := by decide +kernel
theorem dJ6_bitCount_0f7a4_25 : decode cJ6_bitCount_0f7a4 25 = .ok (.iload_n 0, 1) := by decide +kernel
theorem dJ6_bitCount_0f7a4_26 : decode cJ6_bitCount_0f7a4 26 = .ok (.iconst 4, 1) := by decide +kernel
theorem dJ6_bitCount_0f7a4_27 : decode cJ6_bitCount_0f7a4 27 = .ok (.iushr, 1) := by decide +kernel
theorem dJ6_bitCount_0f7a4_28 : decode cJ6_bitCount_0f7a4 28 = .ok (.iadd, 1) := by decide +kernel
theorem dJ6_bitCount_0f7a4_29 : decode cJ6_bitCount_0f7a4 29 = .ok (.ldc_w 267, 3) := by decide +kernel
theorem dJ6_bitCount_0f7a4_32 : decode cJ6_bitCount_0f7a4 32 = .ok (.iand, 1) := by decide +kernel
theorem dJ6_bitCount_0f7a4_33 : decode cJ6_bitCount_0f7a4 33 = .ok (.istore_n 0, 1) := by decide +kernel
theorem dJ6_bitCount_0f7a4_34 : decode cJ6_bitCount_0f7a4 34 = .ok (.iload_n 0, 1) := by decide +kernel
theorem dJ6_bitCount_0f7a4_35 : decode cJ6_bitCount_0f7a4 35 = .ok (.iload_n 0, 1) := by decide +kernel
theorem dJ6_bitCount_0f7a4_36 : decode cJ6_bitCount_0f7a4 36 = .ok (.bipush 8, 2) := by decide +kernel
theorem dJ6_bitCount_0f7a4_38 : decode cJ6_bitCount_0f7a4 38 = .ok (.iushr, 1) := by decide +kernel
theorem dJ6_bitCount_0f7a4_39 : decode cJ6_bitCount_0f7a4 39 = .ok (.iadd, 1) := by decide +kernel
theorem dJ6_bitCount_0f7a4_40 : decode cJ6_bitCount_0f7a4 40 = .ok (.istore_n 0, 1) := by decide +kernel
theorem dJ6_bitCount_0f7a4_41 : decode cJ6_bitCount_0f7a4 41 = .ok (.iload_n 0, 1) := by decide +kernel
theorem dJ6_bitCount_0f7a4_42 : decode cJ6_bitCount_0f7a4 42 = .ok (.iload_n 0, 1) := by decide +kernel
theorem dJ6_bitCount_0f7a4_43 : decode cJ6_bitCount_0f7a4 43 = .ok (.bipush 16, 2) := by decide +kernel
theorem dJ6_bitCount_0f7a4_45 : decode cJ6_bitCount_0f7a4 45 = .ok (.iushr, 1) := by decide +kernel
theorem dJ6_bitCount_0f7a4_46 : decode cJ6_bitCount_0f7a4 46 = .ok (.iadd, 1) := by decide +kernel
theorem dJ6_bitCount_0f7a4_47 : decode cJ6_bitCount_0f7a4 47 = .ok (.istore_n 0, 1) := by decide +kernel
theorem dJ6_bitCount_0f7a4_48 : decode cJ6_bitCount_0f7a4 48 = .ok (.iload_n 0, 1) := by decide +kernel
theorem dJ6_bitCount_0f7a4_49 : decode cJ6_bitCount_0f7a4 49 = .ok (.bipush 63, 2) := by decide +kernel
theorem dJ6_bitCount_0f7a4_51 : decode cJ6_bitCount_0f7a4 51 = .ok (.iand, 1) := by decide +kernel
theorem dJ6_bitCount_0f7a4_52 : decode cJ6_bitCount_0f7a4 52 = .ok (.ireturn, 1) := by decide +kernel
theorem dX11_canBeSung_0 : decode cX11_canBeSung 0 = .ok (.iload_n 0, 1) := by decide +kernel
theorem dX11_canBeSung_1 : decode cX11_canBeSung 1 = .ok (.ifCond .lt 13, 3) := by decide +kernel
theorem dX11_canBeSung_14 : decode cX11_canBeSung 14 = .ok (.iconst 0, 1) := by decide +kernel
theorem dX11_canBeSung_15 : decode cX11_canBeSung 15 = .ok (.ireturn, 1) := by decide +kernel
theorem dX11_canBeSung_4 : decode cX11_canBeSung 4 = .ok (.iload_n 0, 1) := by decide +kernel
theorem dX11_canBeSung_5 : decode cX11_canBeSung 5 = .ok (.bipush 60, 2) := by decide +kernel
theorem dX11_canBeSung_7 : decode cX11_canBeSung 7 = .ok (.if_icmp .gt 7, 3) := by decide +kernel
theorem dX11_canBeSung_10 : decode cX11_canBeSung 10 = .ok (.iconst 1, 1) := by decide +kernel
theorem dX11_canBeSung_11 : decode cX11_canBeSung 11 = .ok (.goto 4, 3) := by decide +kernel
theorem dX6_init_0 : decode cX6_init 0 = .ok (.aload_n 0, 1) := by decide +kernel
theorem dX6_init_1 : decode cX6_init 1 = .ok (.invokespecial 3, 3) := by decide +kernel
theorem dX6_init_4 : decode cX6_init 4 = .ok (.aload_n 0, 1) := by decide +kernel
theorem dX6_init_5 : decode cX6_init 5 = .ok (.iconst (-1), 1) := by decide +kernel
theorem dX6_init_6 : decode cX6_init 6 = .ok (.putfield 9, 3) := by decide +kernel
theorem dX6_init_9 : decode cX6_init 9 = .ok (.aload_n 0, 1) := by decide +kernel
theorem dX6_init_10 : decode cX6_init 10 = .ok (.aload_n 1, 1) := by decide +kernel
theorem dX6_init_11 : decode cX6_init 11 = .ok (.putfield 15, 3) := by decide +kernel
theorem dX6_init_14 : decode cX6_init 14 = .ok (.aload_n 0, 1) := by decide +kernel
theorem dX6_init_15 : decode cX6_init 15 = .ok (.iload_n 2, 1) := by decide +kernel
theorem dX6_init_16 : decode cX6_init 16 = .ok (.aload_n 1, 1) := by decide +kernel
theorem dX6_init_17 : decode cX6_init 17 = .ok (.arraylength, 1) := by decide +kernel
theorem dX6_init_18 : decode cX6_init 18 = .ok (.invokestatic 19, 3) := by decide +kernel
theorem dX6_init_21 : decode cX6_init 21 = .ok (.putfield 25, 3) := by decide +kernel
theorem dX6_init_24 : decode cX6_init 24 = .ok (.aload_n 0, 1) := by decide +kernel
theorem dX6_init_25 : decode cX6_init 25 = .ok (.aload_n 3, 1) := by decide +kernel
theorem dX6_init_26 : decode cX6_init 26 = .ok (.putfield 28, 3) := by decide +kernel
theorem dX6_init_29 : decode cX6_init 29 = .ok (.return_, 1) := by decide +kernel
theorem dX6_takeToken_0 : decode cX6_takeToken 0 = .ok (.aload_n 0, 1) := by decide +kernel
theorem dX6_takeToken_1 : decode cX6_takeToken 1 = .ok (.getfield 176, 3) := by decide +kernel
theorem dX6_takeToken_4 : decode cX6_takeToken 4 = .ok (.aload_n 0, 1) := by decide +kernel
theorem dX6_takeToken_5 : decode cX6_takeToken 5 = .ok (.getfield 25, 3) := by decide +kernel
theorem dX6_takeToken_8 : decode cX6_takeToken 8 = .ok (.if_icmp .ge 44, 3) := by decide +kernel
theorem dX6_takeToken_52 : decode cX6_takeToken 52 = .ok (.aload_n 0, 1) := by decide +kernel
theorem dX6_takeToken_53 : decode cX6_takeToken 53 = .ok (.aload_n 0, 1) := by decide +kernel
theorem dX6_takeToken_54 : decode cX6_takeToken 54 = .ok (.getfield 176, 3) := by decide +kernel
theorem dX6_takeToken_57 : decode cX6_takeToken 57 = .ok (.putfield 173, 3) := by decide +kernel
theorem dX6_takeToken_60 : decode cX6_takeToken 60 = .ok (.aload_n 0, 1) := by decide +kernel
theorem dX6_takeToken_61 : decode cX6_takeToken 61 = .ok (.getfield 176, 3) := by decide +kernel
theorem dX6_takeToken_64 : decode cX6_takeToken 64 = .ok (.aload_n 0, 1) := by decide +kernel
theorem dX6_takeToken_65 : decode cX6_takeToken 65 = .ok (.getfield 25, 3) := by decide +kernel
theorem dX6_takeToken_68 : decode cX6_takeToken 68 = .ok (.if_icmp .lt 12, 3) := by decide +kernel
theorem dX6_takeToken_71 : decode cX6_takeToken 71 = .ok (.aload_n 0, 1) := by decide +kernel
theorem dX6_takeToken_72 : decode cX6_takeToken 72 = .ok (.bipush 17, 2) := by decide +kernel
theorem dX6_takeToken_74 : decode cX6_takeToken 74 = .ok (.putfield 40, 3) := by decide +kernel
theorem dX6_takeToken_77 : decode cX6_takeToken 77 = .ok (.goto 99, 3) := by decide +kernel
theorem dX6_takeToken_176 : decode cX6_takeToken 176 = .ok (.return_, 1) := by decide +kernel
theorem dX9_clear_0 : decode cX9_clear 0 = .ok (.aload_n 0, 1) := by decide +kernel
theorem dX9_clear_1 : decode cX9_clear 1 = .ok (.iconst 0, 1) := by decide +kernel
theorem dX9_clear_2 : decode cX9_clear 2 = .ok (.putfield 49, 3) := by decide +kernel
theorem dX9_clear_5 : decode cX9_clear 5 = .ok (.aload_n 0, 1) := by decide +kernel
theorem dX9_clear_6 : decode cX9_clear 6 = .ok (.iconst 0, 1) := by decide +kernel
theorem dX9_clear_7 : decode cX9_clear 7 = .ok (.putfield 53, 3) := by decide +kernel
theorem dX9_clear_10 : decode cX9_clear 10 = .ok (.aload_n 0, 1) := by decide +kernel
theorem dX9_clear_11 : decode cX9_clear 11 = .ok (.iconst 0, 1) := by decide +kernel
theorem dX9_clear_12 : decode cX9_clear 12 = .ok (.putfield 56, 3) := by decide +kernel
theorem dX9_clear_15 : decode cX9_clear 15 = .ok (.aload_n 0, 1) := by decide +kernel
theorem dX9_clear_16 : decode cX9_clear 16 = .ok (.getfield 36, 3) := by decide +kernel
theorem dX9_clear_19 : decode cX9_clear 19 = .ok (.iconst 0, 1) := by decide +kernel
theorem dX9_clear_20 : decode cX9_clear 20 = .ok (.putfield 59, 3) := by decide +kernel
theorem dX9_clear_23 : decode cX9_clear 23 = .ok (.iconst 0, 1) := by decide +kernel
theorem dX9_clear_24 : decode cX9_clear 24 = .ok (.istore_n 1, 1) := by decide +kernel
theorem dX9_clear_25 : decode cX9_clear 25 = .ok (.iload_n 1, 1) := by decide +kernel
theorem dX9_clear_26 : decode cX9_clear 26 = .ok (.aload_n 0, 1) := by decide +kernel
theorem dX9_clear_27 : decode cX9_clear 27 = .ok (.getfield 40, 3) := by decide +kernel
theorem dX9_clear_30 : decode cX9_clear 30 = .ok (.arraylength, 1) := by decide +kernel
theorem dX9_clear_31 : decode cX9_clear 31 = .ok (.if_icmp .ge 16, 3) := by decide +kernel
theorem dX9_clear_34 : decode cX9_clear 34 = .ok (.aload_n 0, 1) := by decide +kernel
theorem dX9_clear_35 : decode cX9_clear 35 = .ok (.getfield 40, 3) := by decide +kernel
theorem dX9_clear_38 : decode cX9_clear 38 = .ok (.iload_n 1, 1) := by decide +kernel
theorem dX9_clear_39 : decode cX9_clear 39 = .ok (.iconst 0, 1) := by decide +kernel
theorem dX9_clear_40 : decode cX9_clear 40 = .ok (.bastore, 1) := by decide +kernel
theorem dX9_clear_41 : decode cX9_clear 41 = .ok (.iinc 1 1, 3) := by decide +kernel
theorem dX9_clear_44 : decode cX9_clear 44 = .ok (.goto (-19), 3) := by decide +kernel
theorem dX9_clear_47 : decode cX9_clear 47 = .ok (.return_, 1) := by decide +kernel
theorem dX9_sweetenUntold_0 : decode cX9_sweetenUntold 0 = .ok (.iconst 0, 1) := by decide +kernel
theorem dX9_sweetenUntold_1 : decode cX9_sweetenUntold 1 = .ok (.istore_n 1, 1) := by decide +kernel
theorem dX9_sweetenUntold_2 : decode cX9_sweetenUntold 2 = .ok (.iload_n 1, 1) := by decide +kernel
theorem dX9_sweetenUntold_3 : decode cX9_sweetenUntold 3 = .ok (.getstatic 62, 3) := by decide +kernel
theorem dX9_sweetenUntold_6 : decode cX9_sweetenUntold 6 = .ok (.arraylength, 1) := by decide +kernel
theorem dX9_sweetenUntold_7 : decode cX9_sweetenUntold 7 = .ok (.if_icmp .ge 20, 3) := by decide +kernel
theorem dX9_sweetenUntold_10 : decode cX9_sweetenUntold 10 = .ok (.aload_n 0, 1) := by decide +kernel
theorem dX9_sweetenUntold_11 : decode cX9_sweetenUntold 11 = .ok (.getfield 40, 3) := by decide +kernel
theorem dX9_sweetenUntold_14 : decode cX9_sweetenUntold 14 = .ok (.getstatic 62, 3) := by decide +kernel
theorem dX9_sweetenUntold_17 : decode cX9_sweetenUntold 17 = .ok (.iload_n 1, 1) := by decide +kernel
theorem dX9_sweetenUntold_18 : decode cX9_sweetenUntold 18 = .ok (.iaload, 1) := by decide +kernel
theorem dX9_sweetenUntold_19 : decode cX9_sweetenUntold 19 = .ok (.iconst 1, 1) := by decide +kernel
theorem dX9_sweetenUntold_20 : decode cX9_sweetenUntold 20 = .ok (.bastore, 1) := by decide +kernel
theorem dX9_sweetenUntold_21 : decode cX9_sweetenUntold 21 = .ok (.iinc 1 1, 3) := by decide +kernel
theorem dX9_sweetenUntold_24 : decode cX9_sweetenUntold 24 = .ok (.goto (-22), 3) := by decide +kernel
theorem dX9_sweetenUntold_27 : decode cX9_sweetenUntold 27 = .ok (.return_, 1) := by decide +kernel
theorem dX9_prepare_0 : decode cX9_prepare 0 = .ok (.iconst 0, 1) := by decide +kernel
theorem dX9_prepare_1 : decode cX9_prepare 1 = .ok (.istore_n 1, 1) := by decide +kernel
theorem dX9_prepare_2 : decode cX9_prepare 2 = .ok (.iload_n 1, 1) := by decide +kernel
theorem dX9_prepare_3 : decode cX9_prepare 3 = .ok (.aload_n 0, 1) := by decide +kernel
theorem dX9_prepare_4 : decode cX9_prepare 4 = .ok (.getfield 49, 3) := by decide +kernel
theorem dX9_prepare_7 : decode cX9_prepare 7 = .ok (.if_icmp .ge 25, 3) := by decide +kernel
theorem dX9_prepare_32 : decode cX9_prepare 32 = .ok (.iconst 0, 1) := by decide +kernel
theorem dX9_prepare_33 : decode cX9_prepare 33 = .ok (.istore_n 1, 1) := by decide +kernel
theorem dX9_prepare_34 : decode cX9_prepare 34 = .ok (.iload_n 1, 1) := by decide +kernel
theorem dX9_prepare_35 : decode cX9_prepare 35 = .ok (.aload_n 0, 1) := by decide +kernel
theorem dX9_prepare_36 : decode cX9_prepare 36 = .ok (.getfield 53, 3) := by decide +kernel
theorem dX9_prepare_39 : decode cX9_prepare 39 = .ok (.if_icmp .ge 39, 3) := by decide +kernel
theorem dX9_prepare_78 : decode cX9_prepare 78 = .ok (.return_, 1) := by decide +kernel
theorem dX6_readTown_0 : decode cX6_readTown 0 = .ok (.aload_n 0, 1) := by decide +kernel
theorem dX6_readTown_1 : decode cX6_readTown 1 = .ok (.getfield 28, 3) := by decide +kernel
theorem dX6_readTown_4 : decode cX6_readTown 4 = .ok (.invokevirtual 32, 3) := by decide +kernel
theorem dX6_readTown_7 : decode cX6_readTown 7 = .ok (.aload_n 0, 1) := by decide +kernel
theorem dX6_readTown_8 : decode cX6_readTown 8 = .ok (.invokevirtual 37, 3) := by decide +kernel
theorem dX6_readTown_11 : decode cX6_readTown 11 = .ok (.iconst 1, 1) := by decide +kernel
theorem dX6_readTown_12 : decode cX6_readTown 12 = .ok (.istore_n 1, 1) := by decide +kernel
theorem dX6_readTown_13 : decode cX6_readTown 13 = .ok (.iconst 0, 1) := by decide +kernel
theorem dX6_readTown_14 : decode cX6_readTown 14 = .ok (.istore_n 2, 1) := by decide +kernel
theorem dX6_readTown_15 : decode cX6_readTown 15 = .ok (.iload_n 2, 1) := by decide +kernel
theorem dX6_readTown_16 : decode cX6_readTown 16 = .ok (.sipush 1700, 3) := by decide +kernel
theorem dX6_readTown_19 : decode cX6_readTown 19 = .ok (.if_icmp .ge 80, 3) := by decide +kernel
theorem dX6_readTown_22 : decode cX6_readTown 22 = .ok (.iload_n 1, 1) := by decide +kernel
theorem dX6_readTown_23 : decode cX6_readTown 23 = .ok (.ifCond .eq 76, 3) := by decide +kernel
theorem dX6_readTown_26 : decode cX6_readTown 26 = .ok (.aload_n 0, 1) := by decide +kernel
theorem dX6_readTown_27 : decode cX6_readTown 27 = .ok (.getfield 40, 3) := by decide +kernel
theorem dX6_readTown_30 : decode cX6_readTown 30 = .ok (.bipush 17, 2) := by decide +kernel
theorem dX6_readTown_32 : decode cX6_readTown 32 = .ok (.if_icmp .eq 67, 3) := by decide +kernel
theorem dX6_readTown_99 : decode cX6_readTown 99 = .ok (.aload_n 0, 1) := by decide +kernel
theorem dX6_readTown_100 : decode cX6_readTown 100 = .ok (.getfield 56, 3) := by decide +kernel
theorem dX6_readTown_103 : decode cX6_readTown 103 = .ok (.ifCond .ne 10, 3) := by decide +kernel
theorem dX6_readTown_106 : decode cX6_readTown 106 = .ok (.aload_n 0, 1) := by decide +kernel
theorem dX6_readTown_107 : decode cX6_readTown 107 = .ok (.getfield 28, 3) := by decide +kernel
theorem dX6_readTown_110 : decode cX6_readTown 110 = .ok (.invokevirtual 60, 3) := by decide +kernel
theorem dX6_readTown_113 : decode cX6_readTown 113 = .ok (.iload_n 1, 1) := by decide +kernel
theorem dX6_readTown_114 : decode cX6_readTown 114 = .ok (.ireturn, 1) := by decide +kernel
