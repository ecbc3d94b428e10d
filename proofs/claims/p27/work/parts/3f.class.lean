theorem k_557 : (Cond.methodLink RX11 220 yX8_add) ∈ TBg := tb_mem 911 (by decide +kernel) (by decide +kernel)
theorem k_558 : (Cond.code yX2_hearLast cX2_hearLast 5 none) ∈ TBg := tb_mem 915 (by decide +kernel) (by decide +kernel)
theorem k_559 : (Cond.methodLink RX11 224 yX2_hearLast) ∈ TBg := tb_mem 912 (by decide +kernel) (by decide +kernel)
theorem k_560 : (Cond.instanceMethod yX2_hearLast) ∈ TBg := tb_mem 913 (by decide +kernel) (by decide +kernel)
theorem k_561 : (Cond.selects RX2 yX2_hearLast yX2_hearLast) ∈ TBg := tb_mem 914 (by decide +kernel) (by decide +kernel)
theorem k_562 : (Cond.code yX11_canBeSung cX11_canBeSung 1 (some .boolean)) ∈ TBg := tb_mem 906 (by decide +kernel) (by decide +kernel)
theorem k_563 : (Cond.methodLink RX11 213 yX11_canBeSung) ∈ TBg := tb_mem 904 (by decide +kernel) (by decide +kernel)
theorem k_564 : (Cond.static yX11_canBeSung) ∈ TBg := tb_mem 905 (by decide +kernel) (by decide +kernel)
theorem k_565 : (Cond.code yX11_singNote cX11_singNote 6 (some .int)) ∈ TBg := tb_mem 910 (by decide +kernel) (by decide +kernel)
theorem k_566 : (Cond.methodLink RX11 216 yX11_singNote) ∈ TBg := tb_mem 907 (by decide +kernel) (by decide +kernel)
theorem k_567 : (Cond.instanceMethod yX11_singNote) ∈ TBg := tb_mem 909 (by decide +kernel) (by decide +kernel)
theorem k_568 : (Cond.selects RX11 yX11_singNote yX11_singNote) ∈ TBg := tb_mem 29 (by decide +kernel) (by decide +kernel)
theorem k_569 : (Cond.methodLink RX11 108 yX2_hearAll) ∈ TBg := tb_mem 751 (by decide +kernel) (by decide +kernel)
theorem k_570 : (Cond.methodLink RX11 244 yX4_nearWorn) ∈ TBg := tb_mem 936 (by decide +kernel) (by decide +kernel)
theorem k_571 : (Cond.code yX10_tell cX10_tell 5 (some .int)) ∈ TBg := tb_mem 948 (by decide +kernel) (by decide +kernel)
theorem k_572 : (Cond.methodLink RX11 252 yX10_tell) ∈ TBg := tb_mem 945 (by decide +kernel) (by decide +kernel)
theorem k_573 : (Cond.instanceMethod yX10_tell) ∈ TBg := tb_mem 946 (by decide +kernel) (by decide +kernel)
theorem k_574 : (Cond.selects RX10 yX10_tell yX10_tell) ∈ TBg := tb_mem 947 (by decide +kernel) (by decide +kernel)
theorem k_575 : (Cond.code yX10_takeBack cX10_takeBack 3 (some .boolean)) ∈ TBg := tb_mem 956 (by decide +kernel) (by decide +kernel)
theorem k_576 : (Cond.methodLink RX11 256 yX10_takeBack) ∈ TBg := tb_mem 953 (by decide +kernel) (by decide +kernel)
theorem k_577 : (Cond.instanceMethod yX10_takeBack) ∈ TBg := tb_mem 954 (by decide +kernel) (by decide +kernel)
theorem k_578 : (Cond.selects RX10 yX10_takeBack yX10_takeBack) ∈ TBg := tb_mem 955 (by decide +kernel) (by decide +kernel)
theorem k_579 : (Cond.constant RX11 260 (100000)) ∈ TBg := tb_mem 961 (by decide +kernel) (by decide +kernel)
theorem k_580 : (Cond.code yX10_leftAt cX10_leftAt 6 (some .int)) ∈ TBg := tb_mem 969 (by decide +kernel) (by decide +kernel)
theorem k_581 : (Cond.methodLink RX11 261 yX10_leftAt) ∈ TBg := tb_mem 966 (by decide +kernel) (by decide +kernel)
theorem k_582 : (Cond.instanceMethod yX10_leftAt) ∈ TBg := tb_mem 967 (by decide +kernel) (by decide +kernel)
theorem k_583 : (Cond.selects RX10 yX10_leftAt yX10_leftAt) ∈ TBg := tb_mem 968 (by decide +kernel) (by decide +kernel)
theorem k_584 : (Cond.code yJ6_bitCount_0f7a4 cJ6_bitCount_0f7a4 1 (some .int)) ∈ TBg := tb_mem 834 (by decide +kernel) (by decide +kernel)
theorem k_585 : (Cond.methodLink RX11 177 yJ6_bitCount_0f7a4) ∈ TBg := tb_mem 832 (by decide +kernel) (by decide +kernel)
theorem k_586 : (Cond.static yJ6_bitCount_0f7a4) ∈ TBg := tb_mem 833 (by decide +kernel) (by decide +kernel)
theorem k_587 : (Cond.initialized RJ6) ∈ TBg := tb_mem 103 (by decide +kernel) (by decide +kernel)
theorem k_588 : (Cond.methodLink RX11 265 yX4_opensToldBits) ∈ TBg := tb_mem 983 (by decide +kernel) (by decide +kernel)
theorem k_589 : (Cond.methodLink RX11 269 Lib.Math.max.name) ∈ TBg := tb_mem 984 (by decide +kernel) (by decide +kernel)
theorem k_590 : (Cond.static Lib.Math.max.name) ∈ TBg := tb_mem 158 (by decide +kernel) (by decide +kernel)
theorem k_591 : (Cond.code Lib.Math.max.name Lib.Math.max.code 2 (some .int)) ∈ TBg := tb_mem 159 (by decide +kernel) (by decide +kernel)
theorem k_592 : (Cond.code yX7_becomeLike cX7_becomeLike 2 none) ∈ TBg := tb_mem 992 (by decide +kernel) (by decide +kernel)
theorem k_593 : (Cond.methodLink RX11 274 yX7_becomeLike) ∈ TBg := tb_mem 989 (by decide +kernel) (by decide +kernel)
theorem k_594 : (Cond.instanceMethod yX7_becomeLike) ∈ TBg := tb_mem 990 (by decide +kernel) (by decide +kernel)
theorem k_595 : (Cond.selects RX7 yX7_becomeLike yX7_becomeLike) ∈ TBg := tb_mem 991 (by decide +kernel) (by decide +kernel)
theorem k_596 : (Cond.initialized RX7) ∈ TBg := tb_mem 91 (by decide +kernel) (by decide +kernel)
theorem dX11_singNote_0 : decode cX11_singNote 0 = .ok (.aload_n 0, 1) := by decide +kernel
theorem dX11_singNote_1 : decode cX11_singNote 1 = .ok (.getfield 30, 3) := by decide +kernel
theorem dX11_singNote_4 : decode cX11_singNote 4 = .ok (.getfield 104, 3) := by decide +kernel
theorem dX11_singNote_7 : decode cX11_singNote 7 = .ok (.iload_n 1, 1) := by decide +kernel
theorem dX11_singNote_8 : decode cX11_singNote 8 = .ok (.iload_n 2, 1) := by decide +kernel
theorem dX11_singNote_9 : decode cX11_singNote 9 = .ok (.invokevirtual 220, 3) := by decide +kernel
theorem dX11_singNote_12 : decode cX11_singNote 12 = .ok (.aload_n 0, 1) := by decide +kernel
theorem dX11_singNote_13 : decode cX11_singNote 13 = .ok (.getfield 41, 3) := by decide +kernel
theorem dX11_singNote_16 : decode cX11_singNote 16 = .ok (.aload_n 0, 1) := by decide +kernel
theorem dX11_singNote_17 : decode cX11_singNote 17 = .ok (.getfield 30, 3) := by decide +kernel
theorem dX11_singNote_20 : decode cX11_singNote 20 = .ok (.getfield 104, 3) := by decide +kernel
theorem dX11_singNote_23 : decode cX11_singNote 23 = .ok (.aload_n 0, 1) := by decide +kernel
theorem dX11_singNote_24 : decode cX11_singNote 24 = .ok (.getfield 16, 3) := by decide +kernel
theorem dX11_singNote_27 : decode cX11_singNote 27 = .ok (.invokevirtual 224, 3) := by decide +kernel
theorem dX11_singNote_30 : decode cX11_singNote 30 = .ok (.iconst 0, 1) := by decide +kernel
theorem dX11_singNote_31 : decode cX11_singNote 31 = .ok (.istore_n 3, 1) := by decide +kernel
theorem dX11_singNote_32 : decode cX11_singNote 32 = .ok (.iconst 0, 1) := by decide +kernel
theorem dX11_singNote_33 : decode cX11_singNote 33 = .ok (.istore 4, 2) := by decide +kernel
theorem dX11_singNote_35 : decode cX11_singNote 35 = .ok (.iload 4, 2) := by decide +kernel
theorem dX11_singNote_37 : decode cX11_singNote 37 = .ok (.aload_n 0, 1) := by decide +kernel
theorem dX11_singNote_38 : decode cX11_singNote 38 = .ok (.getfield 16, 3) := by decide +kernel
theorem dX11_singNote_41 : decode cX11_singNote 41 = .ok (.getfield 113, 3) := by decide +kernel
theorem dX11_singNote_44 : decode cX11_singNote 44 = .ok (.if_icmp .ge 90, 3) := by decide +kernel
theorem dX11_singNote_134 : decode cX11_singNote 134 = .ok (.aload_n 0, 1) := by decide +kernel
theorem dX11_singNote_135 : decode cX11_singNote 135 = .ok (.getfield 30, 3) := by decide +kernel
theorem dX11_singNote_138 : decode cX11_singNote 138 = .ok (.dup, 1) := by decide +kernel
theorem dX11_singNote_139 : decode cX11_singNote 139 = .ok (.getfield 227, 3) := by decide +kernel
theorem dX11_singNote_142 : decode cX11_singNote 142 = .ok (.iload_n 3, 1) := by decide +kernel
theorem dX11_singNote_143 : decode cX11_singNote 143 = .ok (.ior, 1) := by decide +kernel
theorem dX11_singNote_144 : decode cX11_singNote 144 = .ok (.putfield 227, 3) := by decide +kernel
theorem dX11_singNote_147 : decode cX11_singNote 147 = .ok (.iload_n 3, 1) := by decide +kernel
theorem dX11_singNote_148 : decode cX11_singNote 148 = .ok (.ireturn, 1) := by decide +kernel
theorem dX11_singNote_67 : decode cX11_singNote 67 = .ok (.istore 5, 2) := by decide +kernel
theorem dX11_singNote_69 : decode cX11_singNote 69 = .ok (.iload 5, 2) := by decide +kernel
theorem dX11_singNote_71 : decode cX11_singNote 71 = .ok (.ifCond .eq 57, 3) := by decide +kernel
theorem dX11_singNote_128 : decode cX11_singNote 128 = .ok (.iinc 4 1, 3) := by decide +kernel
theorem dX11_singNote_131 : decode cX11_singNote 131 = .ok (.goto (-96), 3) := by decide +kernel
theorem dX11_singNote_74 : decode cX11_singNote 74 = .ok (.aload_n 0, 1) := by decide +kernel
theorem dX11_singNote_75 : decode cX11_singNote 75 = .ok (.getfield 16, 3) := by decide +kernel
theorem dX11_singNote_78 : decode cX11_singNote 78 = .ok (.iload 4, 2) := by decide +kernel
theorem dX11_singNote_80 : decode cX11_singNote 80 = .ok (.aload_n 0, 1) := by decide +kernel
theorem dX11_singNote_81 : decode cX11_singNote 81 = .ok (.getfield 41, 3) := by decide +kernel
theorem dX11_singNote_84 : decode cX11_singNote 84 = .ok (.aload_n 0, 1) := by decide +kernel
theorem dX11_singNote_85 : decode cX11_singNote 85 = .ok (.getfield 30, 3) := by decide +kernel
theorem dX11_singNote_88 : decode cX11_singNote 88 = .ok (.getfield 230, 3) := by decide +kernel
theorem dX11_singNote_91 : decode cX11_singNote 91 = .ok (.aload_n 0, 1) := by decide +kernel
theorem dX11_singNote_92 : decode cX11_singNote 92 = .ok (.getfield 30, 3) := by decide +kernel
theorem dX11_singNote_95 : decode cX11_singNote 95 = .ok (.getfield 156, 3) := by decide +kernel
theorem dX11_singNote_98 : decode cX11_singNote 98 = .ok (.iload 4, 2) := by decide +kernel
theorem dX11_singNote_100 : decode cX11_singNote 100 = .ok (.iaload, 1) := by decide +kernel
theorem dX11_singNote_101 : decode cX11_singNote 101 = .ok (.invokevirtual 159, 3) := by decide +kernel
theorem dX11_singNote_104 : decode cX11_singNote 104 = .ok (.ifCond .eq 24, 3) := by decide +kernel
theorem dX11_singNote_107 : decode cX11_singNote 107 = .ok (.iload_n 3, 1) := by decide +kernel
theorem dX11_singNote_108 : decode cX11_singNote 108 = .ok (.iconst 1, 1) := by decide +kernel
theorem dX11_singNote_109 : decode cX11_singNote 109 = .ok (.iload 4, 2) := by decide +kernel
theorem dX11_singNote_111 : decode cX11_singNote 111 = .ok (.ishl, 1) := by decide +kernel
theorem dX11_singNote_112 : decode cX11_singNote 112 = .ok (.ior, 1) := by decide +kernel
theorem dX11_singNote_113 : decode cX11_singNote 113 = .ok (.istore_n 3, 1) := by decide +kernel
theorem dX11_singNote_114 : decode cX11_singNote 114 = .ok (.aload_n 0, 1) := by decide +kernel
theorem dX11_singNote_115 : decode cX11_singNote 115 = .ok (.getfield 30, 3) := by decide +kernel
theorem dX11_singNote_118 : decode cX11_singNote 118 = .ok (.getfield 156, 3) := by decide +kernel
theorem dX11_singNote_121 : decode cX11_singNote 121 = .ok (.iload 4, 2) := by decide +kernel
theorem dX11_singNote_123 : decode cX11_singNote 123 = .ok (.dup2, 1) := by decide +kernel
theorem dX11_singNote_124 : decode cX11_singNote 124 = .ok (.iaload, 1) := by decide +kernel
theorem dX11_singNote_125 : decode cX11_singNote 125 = .ok (.iconst 1, 1) := by decide +kernel
theorem dX11_singNote_126 : decode cX11_singNote 126 = .ok (.iadd, 1) := by decide +kernel
theorem dX11_singNote_127 : decode cX11_singNote 127 = .ok (.iastore, 1) := by decide +kernel
theorem dX11_singNote_47 : decode cX11_singNote 47 = .ok (.aload_n 0, 1) := by decide +kernel
theorem dX11_singNote_48 : decode cX11_singNote 48 = .ok (.getfield 30, 3) := by decide +kernel
theorem dX11_singNote_51 : decode cX11_singNote 51 = .ok (.getfield 227, 3) := by decide +kernel
theorem dX11_singNote_54 : decode cX11_singNote 54 = .ok (.iload 4, 2) := by decide +kernel
theorem dX11_singNote_56 : decode cX11_singNote 56 = .ok (.ishr, 1) := by decide +kernel
theorem dX11_singNote_57 : decode cX11_singNote 57 = .ok (.iconst 1, 1) := by decide +kernel
theorem dX11_singNote_58 : decode cX11_singNote 58 = .ok (.iand, 1) := by decide +kernel
theorem dX11_singNote_59 : decode cX11_singNote 59 = .ok (.ifCond .ne 7, 3) := by decide +kernel
theorem dX11_singNote_66 : decode cX11_singNote 66 = .ok (.iconst 0, 1) := by decide +kernel
theorem dX11_singNote_62 : decode cX11_singNote 62 = .ok (.iconst 1, 1) := by decide +kernel
theorem dX11_singNote_63 : decode cX11_singNote 63 = .ok (.goto 4, 3) := by decide +kernel
theorem dX11_sing_0 : decode cX11_sing 0 = .ok (.iload_n 1, 1) := by decide +kernel
theorem dX11_sing_1 : decode cX11_sing 1 = .ok (.invokestatic 213, 3) := by decide +kernel
theorem dX11_sing_4 : decode cX11_sing 4 = .ok (.ifCond .eq 29, 3) := by decide +kernel
theorem dX11_sing_33 : decode cX11_sing 33 = .ok (.iconst (-1), 1) := by decide +kernel
theorem dX11_sing_34 : decode cX11_sing 34 = .ok (.ireturn, 1) := by decide +kernel
theorem dX11_sing_7 : decode cX11_sing 7 = .ok (.iload_n 2, 1) := by decide +kernel
theorem dX11_sing_8 : decode cX11_sing 8 = .ok (.iconst 1, 1) := by decide +kernel
theorem dX11_sing_9 : decode cX11_sing 9 = .ok (.if_icmp .lt 24, 3) := by decide +kernel
theorem dX11_sing_12 : decode cX11_sing 12 = .ok (.iload_n 2, 1) := by decide +kernel
theorem dX11_sing_13 : decode cX11_sing 13 = .ok (.bipush 9, 2) := by decide +kernel
theorem dX11_sing_15 : decode cX11_sing 15 = .ok (.if_icmp .gt 18, 3) := by decide +kernel
theorem dX11_sing_18 : decode cX11_sing 18 = .ok (.aload_n 0, 1) := by decide +kernel
theorem dX11_sing_19 : decode cX11_sing 19 = .ok (.getfield 30, 3) := by decide +kernel
theorem dX11_sing_22 : decode cX11_sing 22 = .ok (.getfield 104, 3) := by decide +kernel
theorem dX11_sing_25 : decode cX11_sing 25 = .ok (.getfield 124, 3) := by decide +kernel
theorem dX11_sing_28 : decode cX11_sing 28 = .ok (.bipush 40, 2) := by decide +kernel
theorem dX11_sing_30 : decode cX11_sing 30 = .ok (.if_icmp .lt 5, 3) := by decide +kernel
theorem dX11_sing_35 : decode cX11_sing 35 = .ok (.aload_n 0, 1) := by decide +kernel
theorem dX11_sing_36 : decode cX11_sing 36 = .ok (.iload_n 1, 1) := by decide +kernel
theorem dX11_sing_37 : decode cX11_sing 37 = .ok (.iload_n 2, 1) := by decide +kernel
theorem dX11_sing_38 : decode cX11_sing 38 = .ok (.invokevirtual 216, 3) := by decide +kernel
theorem dX11_sing_41 : decode cX11_sing 41 = .ok (.ireturn, 1) := by decide +kernel
theorem dX11_song_0 : decode cX11_song 0 = .ok (.aload_n 0, 1) := by decide +kernel
theorem dX11_song_1 : decode cX11_song 1 = .ok (.getfield 16, 3) := by decide +kernel
theorem dX11_song_4 : decode cX11_song 4 = .ok (.iload_n 1, 1) := by decide +kernel
theorem dX11_song_5 : decode cX11_song 5 = .ok (.invokevirtual 116, 3) := by decide +kernel
theorem dX11_song_8 : decode cX11_song 8 = .ok (.ifCond .eq 15, 3) := by decide +kernel
theorem dX11_song_23 : decode cX11_song 23 = .ok (.iconst (-1), 1) := by decide +kernel
theorem dX11_song_24 : decode cX11_song 24 = .ok (.ireturn, 1) := by decide +kernel
theorem dX11_song_11 : decode cX11_song 11 = .ok (.iload_n 2, 1) := by decide +kernel
theorem dX11_song_12 : decode cX11_song 12 = .ok (.bipush (-60), 2) := by decide +kernel
theorem dX11_song_14 : decode cX11_song 14 = .ok (.if_icmp .lt 9, 3) := by decide +kernel
theorem dX11_song_17 : decode cX11_song 17 = .ok (.iload_n 2, 1) := by decide +kernel
theorem dX11_song_18 : decode cX11_song 18 = .ok (.bipush 60, 2) := by decide +kernel
theorem dX11_song_20 : decode cX11_song 20 = .ok (.if_icmp .le 5, 3) := by decide +kernel
theorem dX11_song_25 : decode cX11_song 25 = .ok (.aload_n 0, 1) := by decide +kernel
theorem dX11_song_26 : decode cX11_song 26 = .ok (.getfield 16, 3) := by decide +kernel
theorem dX11_song_29 : decode cX11_song 29 = .ok (.getfield 120, 3) := by decide +kernel
theorem dX11_song_32 : decode cX11_song 32 = .ok (.iload_n 1, 1) := by decide +kernel
theorem dX11_song_33 : decode cX11_song 33 = .ok (.aaload, 1) := by decide +kernel
theorem dX11_song_34 : decode cX11_song 34 = .ok (.astore_n 3, 1) := by decide +kernel
theorem dX11_song_35 : decode cX11_song 35 = .ok (.aload_n 0, 1) := by decide +kernel
theorem dX11_song_36 : decode cX11_song 36 = .ok (.getfield 30, 3) := by decide +kernel
theorem dX11_song_39 : decode cX11_song 39 = .ok (.getfield 104, 3) := by decide +kernel
theorem dX11_song_42 : decode cX11_song 42 = .ok (.getfield 124, 3) := by decide +kernel
theorem dX11_song_45 : decode cX11_song 45 = .ok (.aload_n 3, 1) := by decide +kernel
theorem dX11_song_46 : decode cX11_song 46 = .ok (.getfield 124, 3) := by decide +kernel
theorem dX11_song_49 : decode cX11_song 49 = .ok (.iadd, 1) := by decide +kernel
theorem dX11_song_50 : decode cX11_song 50 = .ok (.bipush 40, 2) := by decide +kernel
theorem dX11_song_52 : decode cX11_song 52 = .ok (.if_icmp .le 5, 3) := by decide +kernel
theorem dX11_song_57 : decode cX11_song 57 = .ok (.iconst 0, 1) := by decide +kernel
theorem dX11_song_58 : decode cX11_song 58 = .ok (.istore 4, 2) := by decide +kernel
theorem dX11_song_60 : decode cX11_song 60 = .ok (.iload 4, 2) := by decide +kernel
theorem dX11_song_62 : decode cX11_song 62 = .ok (.aload_n 3, 1) := by decide +kernel
theorem dX11_song_63 : decode cX11_song 63 = .ok (.getfield 124, 3) := by decide +kernel
theorem dX11_song_66 : decode cX11_song 66 = .ok (.if_icmp .ge 26, 3) := by decide +kernel
theorem dX11_song_92 : decode cX11_song 92 = .ok (.iconst 0, 1) := by decide +kernel
theorem dX11_song_93 : decode cX11_song 93 = .ok (.istore 4, 2) := by decide +kernel
theorem dX11_song_95 : decode cX11_song 95 = .ok (.iconst 0, 1) := by decide +kernel
theorem dX11_song_96 : decode cX11_song 96 = .ok (.istore 5, 2) := by decide +kernel
theorem dX11_song_98 : decode cX11_song 98 = .ok (.iload 5, 2) := by decide +kernel
theorem dX11_song_100 : decode cX11_song 100 = .ok (.aload_n 3, 1) := by decide +kernel
theorem dX11_song_101 : decode cX11_song 101 = .ok (.getfield 124, 3) := by decide +kernel
theorem dX11_song_104 : decode cX11_song 104 = .ok (.if_icmp .ge 34, 3) := by decide +kernel
theorem dX11_song_138 : decode cX11_song 138 = .ok (.iload 4, 2) := by decide +kernel
theorem dX11_song_140 : decode cX11_song 140 = .ok (.ireturn, 1) := by decide +kernel
theorem dX11_song_107 : decode cX11_song 107 = .ok (.iload 4, 2) := by decide +kernel
theorem dX11_song_109 : decode cX11_song 109 = .ok (.aload_n 0, 1) := by decide +kernel
theorem dX11_song_110 : decode cX11_song 110 = .ok (.aload_n 3, 1) := by decide +kernel
theorem dX11_song_111 : decode cX11_song 111 = .ok (.getfield 234, 3) := by decide +kernel
theorem dX11_song_114 : decode cX11_song 114 = .ok (.iload 5, 2) := by decide +kernel
theorem dX11_song_116 : decode cX11_song 116 = .ok (.iaload, 1) := by decide +kernel
theorem dX11_song_117 : decode cX11_song 117 = .ok (.iload_n 2, 1) := by decide +kernel
theorem dX11_song_118 : decode cX11_song 118 = .ok (.iadd, 1) := by decide +kernel
theorem dX11_song_119 : decode cX11_song 119 = .ok (.aload_n 3, 1) := by decide +kernel
theorem dX11_song_120 : decode cX11_song 120 = .ok (.getfield 237, 3) := by decide +kernel
theorem dX11_song_123 : decode cX11_song 123 = .ok (.iload 5, 2) := by decide +kernel
theorem dX11_song_125 : decode cX11_song 125 = .ok (.iaload, 1) := by decide +kernel
theorem dX11_song_126 : decode cX11_song 126 = .ok (.invokevirtual 216, 3) := by decide +kernel
theorem dX11_song_129 : decode cX11_song 129 = .ok (.ior, 1) := by decide +kernel
theorem dX11_song_130 : decode cX11_song 130 = .ok (.istore 4, 2) := by decide +kernel
theorem dX11_song_132 : decode cX11_song 132 = .ok (.iinc 5 1, 3) := by decide +kernel
theorem dX11_song_135 : decode cX11_song 135 = .ok (.goto (-37), 3) := by decide +kernel
theorem dX11_song_69 : decode cX11_song 69 = .ok (.aload_n 3, 1) := by decide +kernel
theorem dX11_song_70 : decode cX11_song 70 = .ok (.getfield 234, 3) := by decide +kernel
theorem dX11_song_73 : decode cX11_song 73 = .ok (.iload 4, 2) := by decide +kernel
theorem dX11_song_75 : decode cX11_song 75 = .ok (.iaload, 1) := by decide +kernel
theorem dX11_song_76 : decode cX11_song 76 = .ok (.iload_n 2, 1) := by decide +kernel
theorem dX11_song_77 : decode cX11_song 77 = .ok (.iadd, 1) := by decide +kernel
theorem dX11_song_78 : decode cX11_song 78 = .ok (.invokestatic 213, 3) := by decide +kernel
theorem dX11_song_81 : decode cX11_song 81 = .ok (.ifCond .ne 5, 3) := by decide +kernel
theorem dX11_song_86 : decode cX11_song 86 = .ok (.iinc 4 1, 3) := by decide +kernel
theorem dX11_song_89 : decode cX11_song 89 = .ok (.goto (-29), 3) := by decide +kernel
theorem dX11_song_84 : decode cX11_song 84 = .ok (.iconst (-1), 1) := by decide +kernel
theorem dX11_song_85 : decode cX11_song 85 = .ok (.ireturn, 1) := by decide +kernel
theorem dX11_song_55 : decode cX11_song 55 = .ok (.iconst (-1), 1) := by decide +kernel
theorem dX11_song_56 : decode cX11_song 56 = .ok (.ireturn, 1) := by decide +kernel
theorem dX11_silence_0 : decode cX11_silence 0 = .ok (.aload_n 0, 1) := by decide +kernel
theorem dX11_silence_1 : decode cX11_silence 1 = .ok (.getfield 30, 3) := by decide +kernel
theorem dX11_silence_4 : decode cX11_silence 4 = .ok (.getfield 104, 3) := by decide +kernel
theorem dX11_silence_7 : decode cX11_silence 7 = .ok (.getfield 124, 3) := by decide +kernel
theorem dX11_silence_10 : decode cX11_silence 10 = .ok (.istore_n 1, 1) := by decide +kernel
theorem dX11_silence_11 : decode cX11_silence 11 = .ok (.aload_n 0, 1) := by decide +kernel
theorem dX11_silence_12 : decode cX11_silence 12 = .ok (.getfield 30, 3) := by decide +kernel
theorem dX11_silence_15 : decode cX11_silence 15 = .ok (.getfield 104, 3) := by decide +kernel
theorem dX11_silence_18 : decode cX11_silence 18 = .ok (.iconst 0, 1) := by decide +kernel
theorem dX11_silence_19 : decode cX11_silence 19 = .ok (.putfield 124, 3) := by decide +kernel
theorem dX11_silence_22 : decode cX11_silence 22 = .ok (.aload_n 0, 1) := by decide +kernel
theorem dX11_silence_23 : decode cX11_silence 23 = .ok (.getfield 41, 3) := by decide +kernel
theorem dX11_silence_26 : decode cX11_silence 26 = .ok (.aload_n 0, 1) := by decide +kernel
theorem dX11_silence_27 : decode cX11_silence 27 = .ok (.getfield 30, 3) := by decide +kernel
theorem dX11_silence_30 : decode cX11_silence 30 = .ok (.getfield 104, 3) := by decide +kernel
theorem dX11_silence_33 : decode cX11_silence 33 = .ok (.aload_n 0, 1) := by decide +kernel
theorem dX11_silence_34 : decode cX11_silence 34 = .ok (.getfield 16, 3) := by decide +kernel
theorem dX11_silence_37 : decode cX11_silence 37 = .ok (.invokevirtual 108, 3) := by decide +kernel
theorem dX11_silence_40 : decode cX11_silence 40 = .ok (.iload_n 1, 1) := by decide +kernel
theorem dX11_silence_41 : decode cX11_silence 41 = .ok (.ireturn, 1) := by decide +kernel
theorem dX11_shut_0 : decode cX11_shut 0 = .ok (.aload_n 0, 1) := by decide +kernel
theorem dX11_shut_1 : decode cX11_shut 1 = .ok (.getfield 16, 3) := by decide +kernel
theorem dX11_shut_4 : decode cX11_shut 4 = .ok (.iload_n 1, 1) := by decide +kernel
theorem dX11_shut_5 : decode cX11_shut 5 = .ok (.invokevirtual 163, 3) := by decide +kernel
theorem dX11_shut_8 : decode cX11_shut 8 = .ok (.ifCond .eq 17, 3) := by decide +kernel
theorem dX11_shut_25 : decode cX11_shut 25 = .ok (.iconst 0, 1) := by decide +kernel
theorem dX11_shut_26 : decode cX11_shut 26 = .ok (.ireturn, 1) := by decide +kernel
theorem dX11_shut_11 : decode cX11_shut 11 = .ok (.aload_n 0, 1) := by decide +kernel
theorem dX11_shut_12 : decode cX11_shut 12 = .ok (.getfield 30, 3) := by decide +kernel
theorem dX11_shut_15 : decode cX11_shut 15 = .ok (.getfield 227, 3) := by decide +kernel
theorem dX11_shut_18 : decode cX11_shut 18 = .ok (.iload_n 1, 1) := by decide +kernel
theorem dX11_shut_19 : decode cX11_shut 19 = .ok (.ishr, 1) := by decide +kernel
theorem dX11_shut_20 : decode cX11_shut 20 = .ok (.iconst 1, 1) := by decide +kernel
theorem dX11_shut_21 : decode cX11_shut 21 = .ok (.iand, 1) := by decide +kernel
theorem dX11_shut_22 : decode cX11_shut 22 = .ok (.ifCond .ne 5, 3) := by decide +kernel
theorem dX11_shut_27 : decode cX11_shut 27 = .ok (.aload_n 0, 1) := by decide +kernel
theorem dX11_shut_28 : decode cX11_shut 28 = .ok (.getfield 30, 3) := by decide +kernel
theorem dX11_shut_31 : decode cX11_shut 31 = .ok (.dup, 1) := by decide +kernel
theorem dX11_shut_32 : decode cX11_shut 32 = .ok (.getfield 227, 3) := by decide +kernel
theorem dX11_shut_35 : decode cX11_shut 35 = .ok (.iconst 1, 1) := by decide +kernel
theorem dX11_shut_36 : decode cX11_shut 36 = .ok (.iload_n 1, 1) := by decide +kernel
theorem dX11_shut_37 : decode cX11_shut 37 = .ok (.ishl, 1) := by decide +kernel
theorem dX11_shut_38 : decode cX11_shut 38 = .ok (.iconst (-1), 1) := by decide +kernel
theorem dX11_shut_39 : decode cX11_shut 39 = .ok (.ixor, 1) := by decide +kernel
theorem dX11_shut_40 : decode cX11_shut 40 = .ok (.iand, 1) := by decide +kernel
theorem dX11_shut_41 : decode cX11_shut 41 = .ok (.putfield 227, 3) := by decide +kernel
theorem dX11_shut_44 : decode cX11_shut 44 = .ok (.iconst 1, 1) := by decide +kernel
theorem dX11_shut_45 : decode cX11_shut 45 = .ok (.ireturn, 1) := by decide +kernel
theorem dX11_night_0 : decode cX11_night 0 = .ok (.aload_n 0, 1) := by decide +kernel
theorem dX11_night_1 : decode cX11_night 1 = .ok (.getfield 30, 3) := by decide +kernel
theorem dX11_night_4 : decode cX11_night 4 = .ok (.getfield 230, 3) := by decide +kernel
theorem dX11_night_7 : decode cX11_night 7 = .ok (.iload_n 1, 1) := by decide +kernel
theorem dX11_night_8 : decode cX11_night 8 = .ok (.if_icmp .eq 7, 3) := by decide +kernel
theorem dX11_night_15 : decode cX11_night 15 = .ok (.iconst 0, 1) := by decide +kernel
theorem dX11_night_16 : decode cX11_night 16 = .ok (.istore_n 2, 1) := by decide +kernel
theorem dX11_night_17 : decode cX11_night 17 = .ok (.aload_n 0, 1) := by decide +kernel
theorem dX11_night_18 : decode cX11_night 18 = .ok (.getfield 30, 3) := by decide +kernel
theorem dX11_night_21 : decode cX11_night 21 = .ok (.iload_n 1, 1) := by decide +kernel
theorem dX11_night_22 : decode cX11_night 22 = .ok (.putfield 230, 3) := by decide +kernel
theorem dX11_night_25 : decode cX11_night 25 = .ok (.iload_n 2, 1) := by decide +kernel
theorem dX11_night_26 : decode cX11_night 26 = .ok (.ireturn, 1) := by decide +kernel
theorem dX11_night_11 : decode cX11_night 11 = .ok (.iconst 1, 1) := by decide +kernel
theorem dX11_night_12 : decode cX11_night 12 = .ok (.goto 4, 3) := by decide +kernel
theorem dX11_lock_0 : decode cX11_lock 0 = .ok (.aload_n 0, 1) := by decide +kernel
theorem dX11_lock_1 : decode cX11_lock 1 = .ok (.getfield 16, 3) := by decide +kernel
theorem dX11_lock_4 : decode cX11_lock 4 = .ok (.iload_n 1, 1) := by decide +kernel
theorem dX11_lock_5 : decode cX11_lock 5 = .ok (.invokevirtual 163, 3) := by decide +kernel
theorem dX11_lock_8 : decode cX11_lock 8 = .ok (.ifCond .ne 5, 3) := by decide +kernel
theorem dX11_lock_13 : decode cX11_lock 13 = .ok (.iload_n 2, 1) := by decide +kernel
theorem dX11_lock_14 : decode cX11_lock 14 = .ok (.tableswitch 70 0 2 #[26, 38, 48], 26) := by decide +kernel
theorem dX11_lock_84 : decode cX11_lock 84 = .ok (.iconst (-1), 1) := by decide +kernel
theorem dX11_lock_85 : decode cX11_lock 85 = .ok (.ireturn, 1) := by decide +kernel
theorem dX11_lock_40 : decode cX11_lock 40 = .ok (.aload_n 0, 1) := by decide +kernel
theorem dX11_lock_41 : decode cX11_lock 41 = .ok (.getfield 30, 3) := by decide +kernel
theorem dX11_lock_44 : decode cX11_lock 44 = .ok (.getfield 227, 3) := by decide +kernel
theorem dX11_lock_47 : decode cX11_lock 47 = .ok (.iload_n 1, 1) := by decide +kernel
theorem dX11_lock_48 : decode cX11_lock 48 = .ok (.ishr, 1) := by decide +kernel
theorem dX11_lock_49 : decode cX11_lock 49 = .ok (.iconst 1, 1) := by decide +kernel
theorem dX11_lock_50 : decode cX11_lock 50 = .ok (.iand, 1) := by decide +kernel
theorem dX11_lock_51 : decode cX11_lock 51 = .ok (.ireturn, 1) := by decide +kernel
theorem dX11_lock_52 : decode cX11_lock 52 = .ok (.aload_n 0, 1) := by decide +kernel
theorem dX11_lock_53 : decode cX11_lock 53 = .ok (.getfield 30, 3) := by decide +kernel
theorem dX11_lock_56 : decode cX11_lock 56 = .ok (.getfield 156, 3) := by decide +kernel
theorem dX11_lock_59 : decode cX11_lock 59 = .ok (.iload_n 1, 1) := by decide +kernel
theorem dX11_lock_60 : decode cX11_lock 60 = .ok (.iaload, 1) := by decide +kernel
theorem dX11_lock_61 : decode cX11_lock 61 = .ok (.ireturn, 1) := by decide +kernel
theorem dX11_lock_62 : decode cX11_lock 62 = .ok (.aload_n 0, 1) := by decide +kernel
theorem dX11_lock_63 : decode cX11_lock 63 = .ok (.getfield 16, 3) := by decide +kernel
theorem dX11_lock_66 : decode cX11_lock 66 = .ok (.getfield 240, 3) := by decide +kernel
theorem dX11_lock_69 : decode cX11_lock 69 = .ok (.iload_n 1, 1) := by decide +kernel
theorem dX11_lock_70 : decode cX11_lock 70 = .ok (.aaload, 1) := by decide +kernel
theorem dX11_lock_71 : decode cX11_lock 71 = .ok (.aload_n 0, 1) := by decide +kernel
theorem dX11_lock_72 : decode cX11_lock 72 = .ok (.getfield 30, 3) := by decide +kernel
theorem dX11_lock_75 : decode cX11_lock 75 = .ok (.getfield 156, 3) := by decide +kernel
theorem dX11_lock_78 : decode cX11_lock 78 = .ok (.iload_n 1, 1) := by decide +kernel
theorem dX11_lock_79 : decode cX11_lock 79 = .ok (.iaload, 1) := by decide +kernel
theorem dX11_lock_80 : decode cX11_lock 80 = .ok (.invokevirtual 244, 3) := by decide +kernel
theorem dX11_lock_83 : decode cX11_lock 83 = .ok (.ireturn, 1) := by decide +kernel
theorem dX11_lock_11 : decode cX11_lock 11 = .ok (.iconst (-1), 1) := by decide +kernel
theorem dX11_lock_12 : decode cX11_lock 12 = .ok (.ireturn, 1) := by decide +kernel
theorem dX11_watch_0 : decode cX11_watch 0 = .ok (.aload_n 0, 1) := by decide +kernel
theorem dX11_watch_1 : decode cX11_watch 1 = .ok (.getfield 16, 3) := by decide +kernel
theorem dX11_watch_4 : decode cX11_watch 4 = .ok (.iload_n 1, 1) := by decide +kernel
theorem dX11_watch_5 : decode cX11_watch 5 = .ok (.invokevirtual 163, 3) := by decide +kernel
theorem dX11_watch_8 : decode cX11_watch 8 = .ok (.ifCond .ne 5, 3) := by decide +kernel
theorem dX11_watch_13 : decode cX11_watch 13 = .ok (.aload_n 0, 1) := by decide +kernel
theorem dX11_watch_14 : decode cX11_watch 14 = .ok (.getfield 48, 3) := by decide +kernel
theorem dX11_watch_17 : decode cX11_watch 17 = .ok (.iload_n 1, 1) := by decide +kernel
theorem dX11_watch_18 : decode cX11_watch 18 = .ok (.iload_n 2, 1) := by decide +kernel
theorem dX11_watch_19 : decode cX11_watch 19 = .ok (.iload_n 3, 1) := by decide +kernel
theorem dX11_watch_20 : decode cX11_watch 20 = .ok (.aload_n 0, 1) := by decide +kernel
theorem dX11_watch_21 : decode cX11_watch 21 = .ok (.getfield 249, 3) := by decide +kernel
theorem dX11_watch_24 : decode cX11_watch 24 = .ok (.invokevirtual 252, 3) := by decide +kernel
theorem dX11_watch_27 : decode cX11_watch 27 = .ok (.ireturn, 1) := by decide +kernel
theorem dX11_watch_11 : decode cX11_watch 11 = .ok (.iconst (-1), 1) := by decide +kernel
theorem dX11_watch_12 : decode cX11_watch 12 = .ok (.ireturn, 1) := by decide +kernel
theorem dX11_untell_0 : decode cX11_untell 0 = .ok (.aload_n 0, 1) := by decide +kernel
theorem dX11_untell_1 : decode cX11_untell 1 = .ok (.getfield 48, 3) := by decide +kernel
theorem dX11_untell_4 : decode cX11_untell 4 = .ok (.iload_n 1, 1) := by decide +kernel
theorem dX11_untell_5 : decode cX11_untell 5 = .ok (.aload_n 0, 1) := by decide +kernel
theorem dX11_untell_6 : decode cX11_untell 6 = .ok (.getfield 249, 3) := by decide +kernel
theorem dX11_untell_9 : decode cX11_untell 9 = .ok (.invokevirtual 256, 3) := by decide +kernel
theorem dX11_untell_12 : decode cX11_untell 12 = .ok (.ireturn, 1) := by decide +kernel
theorem dX11_later_0 : decode cX11_later 0 = .ok (.iload_n 1, 1) := by decide +kernel
theorem dX11_later_1 : decode cX11_later 1 = .ok (.ifCond .lt 22, 3) := by decide +kernel
theorem dX11_later_23 : decode cX11_later 23 = .ok (.iconst (-1), 1) := by decide +kernel
theorem dX11_later_24 : decode cX11_later 24 = .ok (.ireturn, 1) := by decide +kernel
theorem dX11_later_4 : decode cX11_later 4 = .ok (.iload_n 1, 1) := by decide +kernel
theorem dX11_later_5 : decode cX11_later 5 = .ok (.sipush 1000, 3) := by decide +kernel
theorem dX11_later_8 : decode cX11_later 8 = .ok (.if_icmp .gt 15, 3) := by decide +kernel
theorem dX11_later_11 : decode cX11_later 11 = .ok (.aload_n 0, 1) := by decide +kernel
theorem dX11_later_12 : decode cX11_later 12 = .ok (.getfield 249, 3) := by decide +kernel
theorem dX11_later_15 : decode cX11_later 15 = .ok (.iload_n 1, 1) := by decide +kernel
theorem dX11_later_16 : decode cX11_later 16 = .ok (.iadd, 1) := by decide +kernel
theorem dX11_later_17 : decode cX11_later 17 = .ok (.ldc_w 260, 3) := by decide +kernel
theorem dX11_later_20 : decode cX11_later 20 = .ok (.if_icmp .le 5, 3) := by decide +kernel
theorem dX11_later_25 : decode cX11_later 25 = .ok (.aload_n 0, 1) := by decide +kernel
theorem dX11_later_26 : decode cX11_later 26 = .ok (.dup, 1) := by decide +kernel
theorem dX11_later_27 : decode cX11_later 27 = .ok (.getfield 249, 3) := by decide +kernel
theorem dX11_later_30 : decode cX11_later 30 = .ok (.iload_n 1, 1) := by decide +kernel
theorem dX11_later_31 : decode cX11_later 31 = .ok (.iadd, 1) := by decide +kernel
theorem dX11_later_32 : decode cX11_later 32 = .ok (.putfield 249, 3) := by decide +kernel
theorem dX11_later_35 : decode cX11_later 35 = .ok (.aload_n 0, 1) := by decide +kernel
theorem dX11_later_36 : decode cX11_later 36 = .ok (.getfield 249, 3) := by decide +kernel
theorem dX11_later_39 : decode cX11_later 39 = .ok (.ireturn, 1) := by decide +kernel
theorem dX11_left_0 : decode cX11_left 0 = .ok (.aload_n 0, 1) := by decide +kernel
theorem dX11_left_1 : decode cX11_left 1 = .ok (.getfield 48, 3) := by decide +kernel
theorem dX11_left_4 : decode cX11_left 4 = .ok (.iload_n 1, 1) := by decide +kernel
theorem dX11_left_5 : decode cX11_left 5 = .ok (.aload_n 0, 1) := by decide +kernel
theorem dX11_left_6 : decode cX11_left 6 = .ok (.getfield 16, 3) := by decide +kernel
theorem dX11_left_9 : decode cX11_left 9 = .ok (.invokevirtual 261, 3) := by decide +kernel
theorem dX11_left_12 : decode cX11_left 12 = .ok (.ireturn, 1) := by decide +kernel
theorem dX11_next_0 : decode cX11_next 0 = .ok (.aload_n 0, 1) := by decide +kernel
theorem dX11_next_1 : decode cX11_next 1 = .ok (.getfield 48, 3) := by decide +kernel
theorem dX11_next_4 : decode cX11_next 4 = .ok (.iload_n 2, 1) := by decide +kernel
theorem dX11_next_5 : decode cX11_next 5 = .ok (.aload_n 0, 1) := by decide +kernel
theorem dX11_next_6 : decode cX11_next 6 = .ok (.getfield 16, 3) := by decide +kernel
theorem dX11_next_9 : decode cX11_next 9 = .ok (.invokevirtual 261, 3) := by decide +kernel
theorem dX11_next_12 : decode cX11_next 12 = .ok (.istore_n 3, 1) := by decide +kernel
theorem dX11_next_13 : decode cX11_next 13 = .ok (.iload_n 3, 1) := by decide +kernel
theorem dX11_next_14 : decode cX11_next 14 = .ok (.ifCond .eq 12, 3) := by decide +kernel
theorem dX11_next_26 : decode cX11_next 26 = .ok (.iconst (-1), 1) := by decide +kernel
theorem dX11_next_27 : decode cX11_next 27 = .ok (.ireturn, 1) := by decide +kernel
theorem dX11_next_17 : decode cX11_next 17 = .ok (.iload_n 1, 1) := by decide +kernel
theorem dX11_next_18 : decode cX11_next 18 = .ok (.ifCond .lt 8, 3) := by decide +kernel
theorem dX11_next_21 : decode cX11_next 21 = .ok (.iload_n 1, 1) := by decide +kernel
theorem dX11_next_22 : decode cX11_next 22 = .ok (.iconst 2, 1) := by decide +kernel
theorem dX11_next_23 : decode cX11_next 23 = .ok (.if_icmp .le 5, 3) := by decide +kernel
theorem dX11_next_28 : decode cX11_next 28 = .ok (.iload_n 3, 1) := by decide +kernel
theorem dX11_next_29 : decode cX11_next 29 = .ok (.invokestatic 177, 3) := by decide +kernel
theorem dX11_next_32 : decode cX11_next 32 = .ok (.istore 4, 2) := by decide +kernel
theorem dX11_next_34 : decode cX11_next 34 = .ok (.iconst (-1), 1) := by decide +kernel
theorem dX11_next_35 : decode cX11_next 35 = .ok (.istore 5, 2) := by decide +kernel
theorem dX11_next_37 : decode cX11_next 37 = .ok (.iconst 0, 1) := by decide +kernel
theorem dX11_next_38 : decode cX11_next 38 = .ok (.istore 6, 2) := by decide +kernel
theorem dX11_next_40 : decode cX11_next 40 = .ok (.iload 4, 2) := by decide +kernel
theorem dX11_next_42 : decode cX11_next 42 = .ok (.iconst 1, 1) := by decide +kernel
theorem dX11_next_43 : decode cX11_next 43 = .ok (.iadd, 1) := by decide +kernel
theorem dX11_next_44 : decode cX11_next 44 = .ok (.istore 7, 2) := by decide +kernel
theorem dX11_next_46 : decode cX11_next 46 = .ok (.iconst 0, 1) := by decide +kernel
theorem dX11_next_47 : decode cX11_next 47 = .ok (.istore 8, 2) := by decide +kernel
theorem dX11_next_49 : decode cX11_next 49 = .ok (.iload 8, 2) := by decide +kernel
theorem dX11_next_51 : decode cX11_next 51 = .ok (.aload_n 0, 1) := by decide +kernel
theorem dX11_next_52 : decode cX11_next 52 = .ok (.getfield 16, 3) := by decide +kernel
theorem dX11_next_55 : decode cX11_next 55 = .ok (.getfield 113, 3) := by decide +kernel
theorem dX11_next_58 : decode cX11_next 58 = .ok (.if_icmp .ge 86, 3) := by decide +kernel
theorem dX11_next_144 : decode cX11_next 144 = .ok (.iload 5, 2) := by decide +kernel
theorem dX11_next_146 : decode cX11_next 146 = .ok (.iconst (-1), 1) := by decide +kernel
theorem dX11_next_147 : decode cX11_next 147 = .ok (.if_icmp .eq 7, 3) := by decide +kernel
theorem dX11_next_154 : decode cX11_next 154 = .ok (.iload 5, 2) := by decide +kernel
theorem dX11_next_156 : decode cX11_next 156 = .ok (.ireturn, 1) := by decide +kernel
theorem dX11_next_150 : decode cX11_next 150 = .ok (.iload_n 1, 1) := by decide +kernel
theorem dX11_next_151 : decode cX11_next 151 = .ok (.ifCond .ne 6, 3) := by decide +kernel
theorem dX11_next_157 : decode cX11_next 157 = .ok (.iload_n 1, 1) := by decide +kernel
theorem dX11_next_158 : decode cX11_next 158 = .ok (.iconst 1, 1) := by decide +kernel
theorem dX11_next_159 : decode cX11_next 159 = .ok (.if_icmp .ne 8, 3) := by decide +kernel
theorem dX11_next_167 : decode cX11_next 167 = .ok (.iload 7, 2) := by decide +kernel
theorem dX11_next_169 : decode cX11_next 169 = .ok (.ireturn, 1) := by decide +kernel
theorem dX11_next_162 : decode cX11_next 162 = .ok (.iload 6, 2) := by decide +kernel
theorem dX11_next_164 : decode cX11_next 164 = .ok (.goto 5, 3) := by decide +kernel
theorem dX11_next_61 : decode cX11_next 61 = .ok (.iconst 0, 1) := by decide +kernel
theorem dX11_next_62 : decode cX11_next 62 = .ok (.istore 9, 2) := by decide +kernel
theorem dX11_next_64 : decode cX11_next 64 = .ok (.iload 9, 2) := by decide +kernel
theorem dX11_next_66 : decode cX11_next 66 = .ok (.iconst 2, 1) := by decide +kernel
theorem dX11_next_67 : decode cX11_next 67 = .ok (.if_icmp .ge 71, 3) := by decide +kernel
theorem dX11_next_138 : decode cX11_next 138 = .ok (.iinc 8 1, 3) := by decide +kernel
theorem dX11_next_141 : decode cX11_next 141 = .ok (.goto (-92), 3) := by decide +kernel
theorem dX11_next_70 : decode cX11_next 70 = .ok (.iload_n 3, 1) := by decide +kernel
theorem dX11_next_71 : decode cX11_next 71 = .ok (.aload_n 0, 1) := by decide +kernel
theorem dX11_next_72 : decode cX11_next 72 = .ok (.getfield 16, 3) := by decide +kernel
theorem dX11_next_75 : decode cX11_next 75 = .ok (.getfield 240, 3) := by decide +kernel
theorem dX11_next_78 : decode cX11_next 78 = .ok (.iload 8, 2) := by decide +kernel
theorem dX11_next_80 : decode cX11_next 80 = .ok (.aaload, 1) := by decide +kernel
theorem dX11_next_81 : decode cX11_next 81 = .ok (.iload 9, 2) := by decide +kernel
theorem dX11_next_83 : decode cX11_next 83 = .ok (.iconst 1, 1) := by decide +kernel
theorem dX11_next_84 : decode cX11_next 84 = .ok (.if_icmp .ne 7, 3) := by decide +kernel
theorem dX11_next_91 : decode cX11_next 91 = .ok (.iconst 0, 1) := by decide +kernel
theorem dX11_next_92 : decode cX11_next 92 = .ok (.invokevirtual 265, 3) := by decide +kernel
theorem dX11_next_95 : decode cX11_next 95 = .ok (.iand, 1) := by decide +kernel
theorem dX11_next_96 : decode cX11_next 96 = .ok (.invokestatic 177, 3) := by decide +kernel
theorem dX11_next_99 : decode cX11_next 99 = .ok (.istore 10, 2) := by decide +kernel
theorem dX11_next_101 : decode cX11_next 101 = .ok (.iload 10, 2) := by decide +kernel
theorem dX11_next_103 : decode cX11_next 103 = .ok (.iload 4, 2) := by decide +kernel
theorem dX11_next_105 : decode cX11_next 105 = .ok (.iload 10, 2) := by decide +kernel
theorem dX11_next_107 : decode cX11_next 107 = .ok (.isub, 1) := by decide +kernel
theorem dX11_next_108 : decode cX11_next 108 = .ok (.invokestatic 269, 3) := by decide +kernel
theorem dX11_next_111 : decode cX11_next 111 = .ok (.istore 11, 2) := by decide +kernel
theorem dX11_next_113 : decode cX11_next 113 = .ok (.iload 11, 2) := by decide +kernel
theorem dX11_next_115 : decode cX11_next 115 = .ok (.iload 7, 2) := by decide +kernel
theorem dX11_next_117 : decode cX11_next 117 = .ok (.if_icmp .ge 15, 3) := by decide +kernel
theorem dX11_next_132 : decode cX11_next 132 = .ok (.iinc 9 1, 3) := by decide +kernel
theorem dX11_next_135 : decode cX11_next 135 = .ok (.goto (-71), 3) := by decide +kernel
theorem dX11_next_120 : decode cX11_next 120 = .ok (.iload 8, 2) := by decide +kernel
theorem dX11_next_122 : decode cX11_next 122 = .ok (.istore 5, 2) := by decide +kernel
theorem dX11_next_124 : decode cX11_next 124 = .ok (.iload 9, 2) := by decide +kernel
theorem dX11_next_126 : decode cX11_next 126 = .ok (.istore 6, 2) := by decide +kernel
theorem dX11_next_128 : decode cX11_next 128 = .ok (.iload 11, 2) := by decide +kernel
theorem dX11_next_130 : decode cX11_next 130 = .ok (.istore 7, 2) := by decide +kernel
theorem dX11_next_87 : decode cX11_next 87 = .ok (.iconst 1, 1) := by decide +kernel
theorem dX11_next_88 : decode cX11_next 88 = .ok (.goto 4, 3) := by decide +kernel
theorem dX11_about_0 : decode cX11_about 0 = .ok (.iload_n 1, 1) := by decide +kernel
theorem dX11_about_1 : decode cX11_about 1 = .ok (.tableswitch 116 0 7 #[47, 55, 63, 74, 90, 98, 103, 108], 47) := by decide +kernel
theorem dX11_about_117 : decode cX11_about 117 = .ok (.iconst (-1), 1) := by decide +kernel
theorem dX11_about_118 : decode cX11_about 118 = .ok (.ireturn, 1) := by decide +kernel
theorem dX11_about_48 : decode cX11_about 48 = .ok (.aload_n 0, 1) := by decide +kernel
theorem dX11_about_49 : decode cX11_about 49 = .ok (.getfield 16, 3) := by decide +kernel
theorem dX11_about_52 : decode cX11_about 52 = .ok (.getfield 170, 3) := by decide +kernel
theorem dX11_about_55 : decode cX11_about 55 = .ok (.ireturn, 1) := by decide +kernel
theorem dX11_about_56 : decode cX11_about 56 = .ok (.aload_n 0, 1) := by decide +kernel
theorem dX11_about_57 : decode cX11_about 57 = .ok (.getfield 16, 3) := by decide +kernel
theorem dX11_about_60 : decode cX11_about 60 = .ok (.getfield 113, 3) := by decide +kernel
theorem dX11_about_63 : decode cX11_about 63 = .ok (.ireturn, 1) := by decide +kernel
theorem dX11_about_64 : decode cX11_about 64 = .ok (.aload_n 0, 1) := by decide +kernel
theorem dX11_about_65 : decode cX11_about 65 = .ok (.getfield 30, 3) := by decide +kernel
theorem dX11_about_68 : decode cX11_about 68 = .ok (.getfield 104, 3) := by decide +kernel
theorem dX11_about_71 : decode cX11_about 71 = .ok (.getfield 124, 3) := by decide +kernel
theorem dX11_about_74 : decode cX11_about 74 = .ok (.ireturn, 1) := by decide +kernel
theorem dX11_about_75 : decode cX11_about 75 = .ok (.aload_n 0, 1) := by decide +kernel
theorem dX11_about_76 : decode cX11_about 76 = .ok (.getfield 30, 3) := by decide +kernel
theorem dX11_about_79 : decode cX11_about 79 = .ok (.getfield 230, 3) := by decide +kernel
theorem dX11_about_82 : decode cX11_about 82 = .ok (.ifCond .eq 7, 3) := by decide +kernel
theorem dX11_about_89 : decode cX11_about 89 = .ok (.iconst 0, 1) := by decide +kernel
theorem dX11_about_90 : decode cX11_about 90 = .ok (.ireturn, 1) := by decide +kernel
theorem dX11_about_85 : decode cX11_about 85 = .ok (.iconst 1, 1) := by decide +kernel
theorem dX11_about_86 : decode cX11_about 86 = .ok (.goto 4, 3) := by decide +kernel
theorem dX11_about_91 : decode cX11_about 91 = .ok (.aload_n 0, 1) := by decide +kernel
theorem dX11_about_92 : decode cX11_about 92 = .ok (.getfield 48, 3) := by decide +kernel
theorem dX11_about_95 : decode cX11_about 95 = .ok (.getfield 281, 3) := by decide +kernel
theorem dX11_about_98 : decode cX11_about 98 = .ok (.ireturn, 1) := by decide +kernel
theorem dX11_about_99 : decode cX11_about 99 = .ok (.aload_n 0, 1) := by decide +kernel
theorem dX11_about_100 : decode cX11_about 100 = .ok (.getfield 249, 3) := by decide +kernel
theorem dX11_about_103 : decode cX11_about 103 = .ok (.ireturn, 1) := by decide +kernel
theorem dX11_about_104 : decode cX11_about 104 = .ok (.aload_n 0, 1) := by decide +kernel
theorem dX11_about_105 : decode cX11_about 105 = .ok (.getfield 73, 3) := by decide +kernel
theorem dX11_about_108 : decode cX11_about 108 = .ok (.ireturn, 1) := by decide +kernel
theorem dX11_about_109 : decode cX11_about 109 = .ok (.aload_n 0, 1) := by decide +kernel
theorem dX11_about_110 : decode cX11_about 110 = .ok (.getfield 16, 3) := by decide +kernel
theorem dX11_about_113 : decode cX11_about 113 = .ok (.getfield 282, 3) := by decide +kernel
theorem dX11_about_116 : decode cX11_about 116 = .ok (.ireturn, 1) := by decide +kernel
theorem dX11_image_0 : decode cX11_image 0 = .ok (.iload_n 1, 1) := by decide +kernel
theorem dX11_image_1 : decode cX11_image 1 = .ok (.ifCond .lt 12, 3) := by decide +kernel
theorem dX11_image_13 : decode cX11_image 13 = .ok (.iconst (-1), 1) := by decide +kernel
theorem dX11_image_14 : decode cX11_image 14 = .ok (.ireturn, 1) := by decide +kernel
theorem dX11_image_4 : decode cX11_image 4 = .ok (.iload_n 1, 1) := by decide +kernel
theorem dX11_image_5 : decode cX11_image 5 = .ok (.aload_n 0, 1) := by decide +kernel
theorem dX11_image_6 : decode cX11_image 6 = .ok (.getfield 34, 3) := by decide +kernel
theorem dX11_image_9 : decode cX11_image 9 = .ok (.arraylength, 1) := by decide +kernel
theorem dX11_image_10 : decode cX11_image 10 = .ok (.if_icmp .lt 5, 3) := by decide +kernel
theorem dX11_image_15 : decode cX11_image 15 = .ok (.aload_n 0, 1) := by decide +kernel
theorem dX11_image_16 : decode cX11_image 16 = .ok (.getfield 34, 3) := by decide +kernel
theorem dX11_image_19 : decode cX11_image 19 = .ok (.iload_n 1, 1) := by decide +kernel
theorem dX11_image_20 : decode cX11_image 20 = .ok (.aaload, 1) := by decide +kernel
theorem dX11_image_21 : decode cX11_image 21 = .ok (.aload_n 0, 1) := by decide +kernel
theorem dX11_image_22 : decode cX11_image 22 = .ok (.getfield 30, 3) := by decide +kernel
theorem dX11_image_25 : decode cX11_image 25 = .ok (.invokevirtual 274, 3) := by decide +kernel
theorem dX11_image_28 : decode cX11_image 28 = .ok (.aload_n 0, 1) := by decide +kernel
theorem dX11_image_29 : decode cX11_image 29 = .ok (.getfield 34, 3) := by decide +kernel
theorem dX11_image_32 : decode cX11_image 32 = .ok (.iload_n 1, 1) := by decide +kernel
theorem dX11_image_33 : decode cX11_image 33 = .ok (.aaload, 1) := by decide +kernel
theorem dX11_image_34 : decode cX11_image 34 = .ok (.iconst 1, 1) := by decide +kernel
theorem dX11_image_35 : decode cX11_image 35 = .ok (.putfield 278, 3) := by decide +kernel
theorem dX11_image_38 : decode cX11_image 38 = .ok (.aload_n 0, 1) := by decide +kernel
theorem dX11_image_39 : decode cX11_image 39 = .ok (.getfield 30, 3) := by decide +kernel
theorem dX11_image_42 : decode cX11_image 42 = .ok (.getfield 104, 3) := by decide +kernel
theorem dX11_image_45 : decode cX11_image 45 = .ok (.getfield 124, 3) := by decide +kernel
theorem dX11_image_48 : decode cX11_image 48 = .ok (.ireturn, 1) := by decide +kernel
theorem dX11_back_0 : decode cX11_back 0 = .ok (.iload_n 1, 1) := by decide +kernel
theorem dX11_back_1 : decode cX11_back 1 = .ok (.ifCond .lt 24, 3) := by decide +kernel
theorem dX11_back_25 : decode cX11_back 25 = .ok (.iconst (-1), 1) := by decide +kernel
theorem dX11_back_26 : decode cX11_back 26 = .ok (.ireturn, 1) := by decide +kernel
theorem dX11_back_4 : decode cX11_back 4 = .ok (.iload_n 1, 1) := by decide +kernel
theorem dX11_back_5 : decode cX11_back 5 = .ok (.aload_n 0, 1) := by decide +kernel
theorem dX11_back_6 : decode cX11_back 6 = .ok (.getfield 34, 3) := by decide +kernel
theorem dX11_back_9 : decode cX11_back 9 = .ok (.arraylength, 1) := by decide +kernel
theorem dX11_back_10 : decode cX11_back 10 = .ok (.if_icmp .ge 15, 3) := by decide +kernel
theorem dX11_back_13 : decode cX11_back 13 = .ok (.aload_n 0, 1) := by decide +kernel
theorem dX11_back_14 : decode cX11_back 14 = .ok (.getfield 34, 3) := by decide +kernel
theorem dX11_back_17 : decode cX11_back 17 = .ok (.iload_n 1, 1) := by decide +kernel
theorem dX11_back_18 : decode cX11_back 18 = .ok (.aaload, 1) := by decide +kernel
theorem dX11_back_19 : decode cX11_back 19 = .ok (.getfield 278, 3) := by decide +kernel
theorem dX11_back_22 : decode cX11_back 22 = .ok (.ifCond .ne 5, 3) := by decide +kernel
theorem dX11_back_27 : decode cX11_back 27 = .ok (.aload_n 0, 1) := by decide +kernel
theorem dX11_back_28 : decode cX11_back 28 = .ok (.getfield 30, 3) := by decide +kernel
theorem dX11_back_31 : decode cX11_back 31 = .ok (.aload_n 0, 1) := by decide +kernel
theorem dX11_back_32 : decode cX11_back 32 = .ok (.getfield 34, 3) := by decide +kernel
theorem dX11_back_35 : decode cX11_back 35 = .ok (.iload_n 1, 1) := by decide +kernel
theorem dX11_back_36 : decode cX11_back 36 = .ok (.aaload, 1) := by decide +kernel
theorem dX11_back_37 : decode cX11_back 37 = .ok (.invokevirtual 274, 3) := by decide +kernel
theorem dX11_back_40 : decode cX11_back 40 = .ok (.aload_n 0, 1) := by decide +kernel
theorem dX11_back_41 : decode cX11_back 41 = .ok (.getfield 41, 3) := by decide +kernel
theorem dX11_back_44 : decode cX11_back 44 = .ok (.aload_n 0, 1) := by decide +kernel
theorem dX11_back_45 : decode cX11_back 45 = .ok (.getfield 30, 3) := by decide +kernel
theorem dX11_back_48 : decode cX11_back 48 = .ok (.getfield 104, 3) := by decide +kernel
theorem dX11_back_51 : decode cX11_back 51 = .ok (.aload_n 0, 1) := by decide +kernel
theorem dX11_back_52 : decode cX11_back 52 = .ok (.getfield 16, 3) := by decide +kernel
theorem dX11_back_55 : decode cX11_back 55 = .ok (.invokevirtual 108, 3) := by decide +kernel
theorem dX11_back_58 : decode cX11_back 58 = .ok (.aload_n 0, 1) := by decide +kernel
theorem dX11_back_59 : decode cX11_back 59 = .ok (.getfield 30, 3) := by decide +kernel
theorem dX11_back_62 : decode cX11_back 62 = .ok (.getfield 104, 3) := by decide +kernel
theorem dX11_back_65 : decode cX11_back 65 = .ok (.getfield 124, 3) := by decide +kernel
theorem dX11_back_68 : decode cX11_back 68 = .ok (.ireturn, 1) := by decide +kernel
set_option maxHeartbeats 4000000 in
set_option maxRecDepth 100000 in
theorem x_singNote (l : Launch) (G : va_G) (cy : Nat → ClassId) (sz : Nat) (L : List Nat) (K : Nat → Nat) (R : Nat → Nat → Nat) (T : Int) (I E : Nat → Nat → Int32) (J B : Nat → Nat → Int64) (this : Nat) (n : Int32) (n2 : Int32) (hRT : RT L K R) (hI : IV T L K I) (hE : EV L K E) (hthis1 : this ∈ L) (hthis2 : K this = 0) : Met l yX11_singNote (.code yX11_singNote cX11_singNote 6 (some .int) :: TBg) ({ frames := 6, cells := 0, slots := 0, locals := 384 }) (va_Pc [.ref this, .int n, .int n2] (En G cy (WC cy L K R I J E B) sz)) (va_Qi (fun (r : Int32) (u : (Nat → Nat → Int32) × (Nat → Nat → Int64) × (Nat → Nat → Int32) × (Nat → Nat → Int64)) => IV T L K u.1 ∧ EV L K u.2.2.1 ∧ FI [(3, 2), (4, 4), (6, 4), (7, 2)] K I u.1 ∧ (True)) (fun u t => Ex G (va_A (WC cy L K R I J E B) sz) (WC cy L K R u.1 u.2.1 u.2.2.1 u.2.2.2) t) (va_A (WC cy L K R I J E B) sz)) 0 0 (va_A (WC cy L K R I J E B) sz) := by
  have hthis : this ∈ L ∧ K this = 0 := ⟨hthis1, hthis2⟩
  refine Met.ofW (cc := cX11_singNote) (maxL := 6) (ret := (some .int)) (by decide) rfl ?_
  intro p e s m args below meth c s₁ B9 hml hv9
  obtain ⟨rfl, hsz, hP, hK, hD0, hN⟩ := hv9
  have hx := B9.exec
  have hb := B9.bytes
  have hr := B9.returns
  have hts := atoms_spec (ws := .code yX11_singNote cX11_singNote 6 (some .int) :: TBg) B9.pre
  have ht : ∀ w ∈ TBg, w.before _ s = true := fun w h => hts w (List.mem_cons_of_mem _ h)
  have hown : s.vm.findClass RX11 = some m.cls := findClass_of_methodNamed B9.named
  have hlocks := B9.notSynchronized
  subst hsz
  have hD := hD0.self (sz := s.heap.size)
  generalize hAe : va_A (WC cy L K R I J E B) s.heap.size = A at hD ⊢
  have hA : ∀ q : Nat, s.heap.size ≤ q → A q := fun q h => by rw [← hAe]; exact Or.inr h
  have hS : va_S A s.heap s.heap [] := va_S.rf
  have hl := lv_entry ([.ref this, .int n, .int n2]) (n := 6) (Nat.le_of_ble_eq_true rfl)
  rw [lg_entry_eq]
  generalize (lg_sl ([.ref this, .int n, .int n2]) ++ List.replicate (6 - (lg_sl ([.ref this, .int n, .int n2])).length) Slot.unset).toArray = ls at hl ⊢
  have hl : lv_has ls 6 [(0, .ref this), (1, .int n), (2, .int n2)] := hl
  have z0 : (0 : Int32).toInt = 0 := by decide
  have z1 : (1 : Int32).toInt = 1 := by decide
  have hC_0 : FI [(3, 2), (4, 4), (6, 4), (7, 2)] K I I := FI.rf
  refine lv_aload_n hx hb dX11_singNote_0 rfl (lv_at hl 0 rfl) ?_
  refine cg_0_6_11 hx hb ht hown hK hN hP hthis.1 hthis.2 dX11_singNote_1 ?_
  have hm_1 : (R this 6) ∈ L ∧ K (R this 6) = 7 := RT.o hRT hthis.1 hthis.2 6 (by decide)
  refine cg_7_0_11 hx hb ht hown hK hN hP hm_1.1 hm_1.2 dX11_singNote_4 ?_
  have hm_2 : (R (R this 6) 0) ∈ L ∧ K (R (R this 6) 0) = 3 := RT.o hRT hm_1.1 hm_1.2 0 (by decide)
  refine lv_iload_n hx hb dX11_singNote_7 rfl (lv_at hl 1 rfl) ?_
  refine lv_iload_n hx hb dX11_singNote_8 rfl (lv_at hl 2 rfl) ?_
  have hFc := fr_free hD hS hA
  refine va_callv (va_runV (As := [.int n, .int n2]) (rest := []) ⟨hx, hb, hml, hown, ht⟩ (c_add3 l G cy _ L K R T I E J B (R (R this 6) 0) n n2 hRT hI hE hm_2.1 hm_2.2) (cwV 2 ht (gv k_557 k_421 k_422 k_399 k_419) rfl rfl rfl (by decide +kernel) ⟨Nat.le_of_ble_eq_true rfl, Nat.le_of_ble_eq_true rfl⟩) ⟨En.blind, cr_3 hK hP hm_2.1 hm_2.2, fun U hU hW => ⟨rfl, En.of hU hW hP hK hD hN⟩⟩ rfl rfl hl.1 rfl (lv_room (Nat.le_of_ble_eq_true rfl)) dX11_singNote_9 ⟨Nat.le_of_ble_eq_true rfl, Nat.le_of_ble_eq_true rfl⟩) hS (fun q _ h => hFc q h) hFc (fun u_3 t9 H locs ht9 hvm hw hB hz1 hk1 hS => ?_)
  obtain ⟨I3, J3, E3, B3⟩ := u_3
  obtain ⟨hP1, hD1⟩ := hB
  rw [ht9] at hP1
  clear hI hE
  obtain ⟨hI, hE, xu_3I, wu_3⟩ := hw
  dsimp only at hI hE xu_3I wu_3
  have hP : va_P G vwCl (WC cy L K R I3 J3 E3 B3) H := hP1
  have hD : va_D A (WC cy L K R I3 J3 E3 B3) := hD1.weaken (fun _ _ _ h => hFc _ h)
  clear hFc hk1 hz1 hP1 hD1
  replace hC_0 := FI.tr hC_0 xu_3I (by decide)
  refine lv_aload_n hx hb dX11_singNote_12 rfl (lv_at hl 0 rfl) ?_
  refine cg_0_8_11 hx hb ht hown hK hN hP hthis.1 hthis.2 dX11_singNote_13 ?_
  have hm_4 : (R this 8) ∈ L ∧ K (R this 8) = 4 := RT.o hRT hthis.1 hthis.2 8 (by decide)
  refine lv_aload_n hx hb dX11_singNote_16 rfl (lv_at hl 0 rfl) ?_
  refine cg_0_6_11 hx hb ht hown hK hN hP hthis.1 hthis.2 dX11_singNote_17 ?_
  refine cg_7_0_11 hx hb ht hown hK hN hP hm_1.1 hm_1.2 dX11_singNote_20 ?_
  refine lv_aload_n hx hb dX11_singNote_23 rfl (lv_at hl 0 rfl) ?_
  refine cg_0_2_11 hx hb ht hown hK hN hP hthis.1 hthis.2 dX11_singNote_24 ?_
  have hm_5 : (R this 2) ∈ L ∧ K (R this 2) = 1 := RT.o hRT hthis.1 hthis.2 2 (by decide)
  have hFc := fr_free hD hS hA
  refine va_callv (va_runV (As := [.ref (R (R this 6) 0), .ref (R this 2)]) (rest := []) ⟨hx, hb, hml, hown, ht⟩ (c_hearLast l G cy _ L K R T I3 E3 J3 B3 (R this 8) (R (R this 6) 0) (R this 2) hRT hI hE hm_4.1 hm_4.2 hm_2.1 hm_2.2 hm_5.1 hm_5.2) (cwV 2 ht (gv k_559 k_560 k_561 k_431 k_558) rfl rfl rfl (by decide +kernel) ⟨Nat.le_of_ble_eq_true rfl, Nat.le_of_ble_eq_true rfl⟩) ⟨En.blind, cr_4 hK hP hm_4.1 hm_4.2, fun U hU hW => ⟨rfl, En.of hU hW hP hK hD hN⟩⟩ rfl rfl hl.1 rfl (lv_room (Nat.le_of_ble_eq_true rfl)) dX11_singNote_27 ⟨Nat.le_of_ble_eq_true rfl, Nat.le_of_ble_eq_true rfl⟩) hS (fun q _ h => hFc q h) hFc (fun u_6 t9 H locs ht9 hvm hw hB hz1 hk1 hS => ?_)
  obtain ⟨I6, J6, E6, B6⟩ := u_6
  obtain ⟨hP1, hD1⟩ := hB
  rw [ht9] at hP1
  clear hI hE
  obtain ⟨hI, hE, xu_6I, wu_6⟩ := hw
  dsimp only at hI hE xu_6I wu_6
  have hP : va_P G vwCl (WC cy L K R I6 J6 E6 B6) H := hP1
  have hD : va_D A (WC cy L K R I6 J6 E6 B6) := hD1.weaken (fun _ _ _ h => hFc _ h)
  clear hFc hk1 hz1 hP1 hD1
  replace hC_0 := FI.tr hC_0 xu_6I (by decide)
  refine lv_iconst (v := 0) hx hb dX11_singNote_30 (by decide) ?_
  refine lv_istore_n (lv' := [(3, .int 0), (0, .ref this), (1, .int n), (2, .int n2)]) hx hb dX11_singNote_31 rfl hl (by decide) rfl (fun ls hl => ?_)
  refine lv_iconst (v := 0) hx hb dX11_singNote_32 (by decide) ?_
  refine lv_istore (lv' := [(4, .int 0), (3, .int 0), (0, .ref this), (1, .int n), (2, .int n2)]) hx hb dX11_singNote_33 hl (by decide) rfl (fun ls hl => ?_)
  refine W.widen (k := 0) (n := 0) (Nat.le_of_ble_eq_true rfl) (Nat.le_of_ble_eq_true rfl) ?_
  have lp_7 : ∀ (N_7 : Nat) (x4_7 : Int32) (x3_7 : Int32) (I7 : Nat → Nat → Int32) (J7 : Nat → Nat → Int64) (E7 : Nat → Nat → Int32) (B7 : Nat → Nat → Int64) (H : Heap) (locs : List Loc) (ls : Array Slot), IV T L K I7 → EV L K E7 → FI [(3, 2), (4, 4), (6, 4), (7, 2)] K I6 I7 → (0 ≤ x4_7.toInt ∧ x4_7.toInt ≤ 8) → (8 - x4_7.toInt).toNat < N_7 → va_P G vwCl (WC cy L K R I7 J7 E7 B7) H → va_D A (WC cy L K R I7 J7 E7 B7) → va_S A s.heap H locs → lv_has ls 6 [(4, .int x4_7), (3, .int x3_7), (0, .ref this), (1, .int n), (2, .int n2)] → W p l e (headSpec (.code yX11_singNote cX11_singNote 6 (some .int) :: TBg) ({ frames := 6, cells := 0, slots := 0, locals := 384 })).room s m ([.ref this, .int n, .int n2] : List Value).toArray below meth c H locs 0 0 (MQ below (va_Qi (fun (r : Int32) (u : (Nat → Nat → Int32) × (Nat → Nat → Int64) × (Nat → Nat → Int32) × (Nat → Nat → Int64)) => IV T L K u.1 ∧ EV L K u.2.2.1 ∧ FI [(3, 2), (4, 4), (6, 4), (7, 2)] K I u.1 ∧ (True)) (fun u t => Ex G A (WC cy L K R u.1 u.2.1 u.2.2.1 u.2.2.2) t) A) ([.ref this, .int n, .int n2] : List Value).toArray s 0 0 A) (F0 m 35 ls []) := by
    intro N_7
    induction N_7 with
    | zero => intro x4_7 x3_7 I7 J7 E7 B7 H locs ls hI hE hC_7 qf7_0 hm9 hP hD hS hl; exact absurd hm9 (Nat.not_lt_zero _)
    | succ N_7 ih_7 =>
      intro x4_7 x3_7 I7 J7 E7 B7 H locs ls hI hE hC_7 qf7_0 hm9 hP hD hS hl
      replace hC_0 := FI.tr hC_0 hC_7 (by decide)
      have hX_7 := hC_7
      refine lv_iload hx hb dX11_singNote_35 (lv_at hl 0 rfl) ?_
      refine lv_aload_n hx hb dX11_singNote_37 rfl (lv_at hl 2 rfl) ?_
      refine cg_0_2_11 hx hb ht hown hK hN hP hthis.1 hthis.2 dX11_singNote_38 ?_
      refine cg_1_5_11 hx hb ht hown hK hN hP hm_5.1 hm_5.2 dX11_singNote_41 ?_
      have q_8 : 0 ≤ (I7 (R this 2) 5).toInt ∧ (I7 (R this 2) 5).toInt ≤ 8 := IV.rd hI hm_5.1 hm_5.2 5
      refine lv_icmp_ge (tgt := 134) hx hb dX11_singNote_44 (by decide) (fun c_9 => ?_) (fun c_9 => ?_)
      · have q_10 : (I7 (R this 2) 5).toInt ≤ x4_7.toInt := (ow_le _ _).mp c_9
        refine lv_aload_n hx hb dX11_singNote_134 rfl (lv_at hl 2 rfl) ?_
        refine cg_0_6_11 hx hb ht hown hK hN hP hthis.1 hthis.2 dX11_singNote_135 ?_
        refine lv_dup hx hb dX11_singNote_138 rfl ?_
        refine cg_7_2_11 hx hb ht hown hK hN hP hm_1.1 hm_1.2 dX11_singNote_139 ?_
        refine lv_iload_n hx hb dX11_singNote_142 rfl (lv_at hl 1 rfl) ?_
        refine lv_ior hx hb dX11_singNote_143 ?_
        refine lv_topi (fun v_11 ev_11 => ?_)
        refine cp_7_2_11 hx hb ht hown hK hN hP hD hS hm_1.1 hm_1.2 dX11_singNote_144 (fun H locs hP hD hS => ?_)
        replace hI := IV.up hI hm_1.2 2 (ow_any v_11)
        have f_12 : FI [(7, 2)] K I7 (va_up I7 (R this 6) (va_up (I7 (R this 6)) 2 v_11)) := FI.up hm_1.2 2 v_11
        have e_13 : (va_up I7 (R this 6) (va_up (I7 (R this 6)) 2 v_11)) (R this 6) 2 = v_11 := FI.at I7 (R this 6) 2 v_11
        replace hC_0 := FI.tr hC_0 f_12 (by decide)
        replace hX_7 := FI.tr hX_7 f_12 (by decide)
        generalize (va_up I7 (R this 6) (va_up (I7 (R this 6)) 2 v_11)) = I_14 at hP hD hI f_12 e_13 hC_0 hX_7
        refine lv_iload_n hx hb dX11_singNote_147 rfl (lv_at hl 1 rfl) ?_
        refine W.widen (k := 0) (n := 0) (Nat.le_of_ble_eq_true rfl) (Nat.le_of_ble_eq_true rfl) ?_
        exact W.iret (v := x3_7) hx hb hr (fun t ht9 hW => ⟨⟨x3_7, (I_14, J7, E7, B7), rfl, ⟨hI, hE, hC_0, trivial⟩, ⟨by rw [ht9]; exact hP, hD⟩⟩, hS.F ht9⟩) hS.2.2 dX11_singNote_148
      · have q_15 : x4_7.toInt < (I7 (R this 2) 5).toInt := by have := (not_congr (ow_le _ _)).mp c_9; omega
        refine W.widen (k := 0) (n := 0) (Nat.le_of_ble_eq_true rfl) (Nat.le_of_ble_eq_true rfl) ?_
        have jn_16 : ∀ (y0_16 : Int32) (H : Heap) (locs : List Loc) (ls : Array Slot), (0 ≤ y0_16.toInt ∧ y0_16.toInt ≤ 1) → va_P G vwCl (WC cy L K R I7 J7 E7 B7) H → va_D A (WC cy L K R I7 J7 E7 B7) → va_S A s.heap H locs → lv_has ls 6 [(4, .int x4_7), (3, .int x3_7), (0, .ref this), (1, .int n), (2, .int n2)] → W p l e (headSpec (.code yX11_singNote cX11_singNote 6 (some .int) :: TBg) ({ frames := 6, cells := 0, slots := 0, locals := 384 })).room s m ([.ref this, .int n, .int n2] : List Value).toArray below meth c H locs 0 0 (MQ below (va_Qi (fun (r : Int32) (u : (Nat → Nat → Int32) × (Nat → Nat → Int64) × (Nat → Nat → Int32) × (Nat → Nat → Int64)) => IV T L K u.1 ∧ EV L K u.2.2.1 ∧ FI [(3, 2), (4, 4), (6, 4), (7, 2)] K I u.1 ∧ (True)) (fun u t => Ex G A (WC cy L K R u.1 u.2.1 u.2.2.1 u.2.2.2) t) A) ([.ref this, .int n, .int n2] : List Value).toArray s 0 0 A) (F0 m 67 ls [.int y0_16]) := by
          intro y0_16 H locs ls qf16_0 hP hD hS hl
          refine lv_istore (lv' := [(5, .int y0_16), (4, .int x4_7), (3, .int x3_7), (0, .ref this), (1, .int n), (2, .int n2)]) hx hb dX11_singNote_67 hl (by decide) rfl (fun ls hl => ?_)
          refine lv_iload hx hb dX11_singNote_69 (lv_at hl 0 rfl) ?_
          refine lv_if_eq (tgt := 128) hx hb dX11_singNote_71 (by decide) (fun c_17 => ?_) (fun c_17 => ?_)
          · have q_18 : y0_16.toInt = (0 : Int32).toInt := (ow_eq _ _).mp c_17
            obtain ⟨v_19, ev_19⟩ : ∃ y : Int32, y = x4_7 + 1 := ⟨_, rfl⟩
            refine lv_iinc (v := v_19) (lv' := [(4, .int v_19), (5, .int y0_16), (3, .int x3_7), (0, .ref this), (1, .int n), (2, .int n2)]) hx hb dX11_singNote_128 hl (k := 1) rfl (by rw [ev_19]; rfl) (by decide) rfl (fun ls hl => ?_)
            have q_20 : v_19.toInt = x4_7.toInt + 1 := by have := ow_add ev_19 (by omega) (by omega); omega
            refine lv_goto (tgt := 35) hx hb dX11_singNote_131 (by decide) ?_
            refine W.widen (k := 0) (n := 0) (Nat.le_of_ble_eq_true rfl) (Nat.le_of_ble_eq_true rfl) ?_
            exact ih_7 v_19 x3_7 I7 J7 E7 B7 _ _ _ hI hE hX_7 (by omega) (by omega) hP hD hS (lv_sub hl [0, 2, 3, 4, 5] rfl)
          · have q_21 : ¬ y0_16.toInt = (0 : Int32).toInt := by have := (not_congr (ow_eq _ _)).mp c_17; omega
            refine lv_aload_n hx hb dX11_singNote_74 rfl (lv_at hl 3 rfl) ?_
            refine cg_0_2_11 hx hb ht hown hK hN hP hthis.1 hthis.2 dX11_singNote_75 ?_
            refine lv_iload hx hb dX11_singNote_78 (lv_at hl 1 rfl) ?_
            refine lv_aload_n hx hb dX11_singNote_80 rfl (lv_at hl 3 rfl) ?_
            refine cg_0_8_11 hx hb ht hown hK hN hP hthis.1 hthis.2 dX11_singNote_81 ?_
            refine lv_aload_n hx hb dX11_singNote_84 rfl (lv_at hl 3 rfl) ?_
            refine cg_0_6_11 hx hb ht hown hK hN hP hthis.1 hthis.2 dX11_singNote_85 ?_
            refine cg_7_1_11 hx hb ht hown hK hN hP hm_1.1 hm_1.2 dX11_singNote_88 ?_
            have q_22 : 0 ≤ (I7 (R this 6) 1).toInt ∧ (I7 (R this 6) 1).toInt ≤ 1 := IV.rd hI hm_1.1 hm_1.2 1
            refine lv_aload_n hx hb dX11_singNote_91 rfl (lv_at hl 3 rfl) ?_
            refine cg_0_6_11 hx hb ht hown hK hN hP hthis.1 hthis.2 dX11_singNote_92 ?_
            refine cg_7_3_11 hx hb ht hown hK hN hP hm_1.1 hm_1.2 dX11_singNote_95 ?_
            have hm_23 : (R (R this 6) 3) ∈ L ∧ K (R (R this 6) 3) = 34 := RT.o hRT hm_1.1 hm_1.2 3 (by decide)
            refine lv_iload hx hb dX11_singNote_98 (lv_at hl 1 rfl) ?_
            have q_24 : vp_in x4_7 8 := vp_in_iff.mpr ⟨by omega, by omega⟩
            refine cl_34 hx hb hK hP hm_23.1 hm_23.2 q_24 dX11_singNote_100 ?_
            refine lv_topi (fun v_25 ev_25 => ?_)
            have hFc := fr_free hD hS hA
            refine va_calli (va_runV (As := [.int x4_7, .ref (R this 8), .int (I7 (R this 6) 1), .int v_25]) (rest := []) ⟨hx, hb, hml, hown, ht⟩ (c_opensTo l G cy _ L K R T I7 E7 J7 B7 (R this 2) x4_7 (R this 8) (I7 (R this 6) 1) v_25 hRT hI hE hm_5.1 hm_5.2 (by omega) hm_4.1 hm_4.2 (by omega)) (cwV 4 ht (gv k_537 k_464 k_465 k_461 k_462) rfl rfl rfl (by decide +kernel) ⟨Nat.le_of_ble_eq_true rfl, Nat.le_of_ble_eq_true rfl⟩) ⟨En.blind, cr_1 hK hP hm_5.1 hm_5.2, fun U hU hW => ⟨rfl, En.of hU hW hP hK hD hN⟩⟩ rfl rfl hl.1 rfl (lv_room (Nat.le_of_ble_eq_true rfl)) dX11_singNote_101 ⟨Nat.le_of_ble_eq_true rfl, Nat.le_of_ble_eq_true rfl⟩) hS (fun q _ h => hFc q h) hFc (fun r_u_26 u_26 t9 H locs ht9 hvm hw hB hz1 hk1 hS => ?_)
            obtain ⟨I26, J26, E26, B26⟩ := u_26
            obtain ⟨hP1, hD1⟩ := hB
            rw [ht9] at hP1
            clear hI hE
            obtain ⟨hI, hE, xu_26I, wu_26⟩ := hw
            dsimp only at hI hE xu_26I wu_26
            have hP : va_P G vwCl (WC cy L K R I26 J26 E26 B26) H := hP1
            have hD : va_D A (WC cy L K R I26 J26 E26 B26) := hD1.weaken (fun _ _ _ h => hFc _ h)
            clear hFc hk1 hz1 hP1 hD1
            replace hC_0 := FI.tr hC_0 xu_26I (by decide)
            replace hX_7 := FI.tr hX_7 xu_26I (by decide)
            refine lv_if_eq (tgt := 128) hx hb dX11_singNote_104 (by decide) (fun c_27 => ?_) (fun c_27 => ?_)
            · have q_28 : r_u_26.toInt = (0 : Int32).toInt := (ow_eq _ _).mp c_27
              obtain ⟨v_29, ev_29⟩ : ∃ y : Int32, y = x4_7 + 1 := ⟨_, rfl⟩
              refine lv_iinc (v := v_29) (lv' := [(4, .int v_29), (5, .int y0_16), (3, .int x3_7), (0, .ref this), (1, .int n), (2, .int n2)]) hx hb dX11_singNote_128 hl (k := 1) rfl (by rw [ev_29]; rfl) (by decide) rfl (fun ls hl => ?_)
              have q_30 : v_29.toInt = x4_7.toInt + 1 := by have := ow_add ev_29 (by omega) (by omega); omega
              refine lv_goto (tgt := 35) hx hb dX11_singNote_131 (by decide) ?_
              refine W.widen (k := 0) (n := 0) (Nat.le_of_ble_eq_true rfl) (Nat.le_of_ble_eq_true rfl) ?_
              exact ih_7 v_29 x3_7 I26 J26 E26 B26 _ _ _ hI hE hX_7 (by omega) (by omega) hP hD hS (lv_sub hl [0, 2, 3, 4, 5] rfl)
            · have q_31 : ¬ r_u_26.toInt = (0 : Int32).toInt := by have := (not_congr (ow_eq _ _)).mp c_27; omega
              refine lv_iload_n hx hb dX11_singNote_107 rfl (lv_at hl 2 rfl) ?_
              refine lv_iconst (v := 1) hx hb dX11_singNote_108 (by decide) ?_
              refine lv_iload hx hb dX11_singNote_109 (lv_at hl 1 rfl) ?_
              refine lv_ishl hx hb dX11_singNote_111 ?_
              refine lv_topi (fun v_32 ev_32 => ?_)
              refine lv_ior hx hb dX11_singNote_112 ?_
              refine lv_topi (fun v_33 ev_33 => ?_)
              refine lv_istore_n (lv' := [(3, .int v_33), (5, .int y0_16), (4, .int x4_7), (0, .ref this), (1, .int n), (2, .int n2)]) hx hb dX11_singNote_113 rfl hl (by decide) rfl (fun ls hl => ?_)
              refine lv_aload_n hx hb dX11_singNote_114 rfl (lv_at hl 3 rfl) ?_
              refine cg_0_6_11 hx hb ht hown hK hN hP hthis.1 hthis.2 dX11_singNote_115 ?_
              refine cg_7_3_11 hx hb ht hown hK hN hP hm_1.1 hm_1.2 dX11_singNote_118 ?_
              refine lv_iload hx hb dX11_singNote_121 (lv_at hl 2 rfl) ?_
              refine lv_dup2_11 hx hb dX11_singNote_123 rfl rfl ?_
              have q_34 : vp_in x4_7 8 := vp_in_iff.mpr ⟨by omega, by omega⟩
              refine cl_34 hx hb hK hP hm_23.1 hm_23.2 q_34 dX11_singNote_124 ?_
              refine lv_topi (fun v_35 ev_35 => ?_)
              refine lv_iconst (v := 1) hx hb dX11_singNote_125 (by decide) ?_
              refine lv_iadd hx hb dX11_singNote_126 ?_
              refine lv_topi (fun v_36 ev_36 => ?_)
              have q_37 : vp_in x4_7 8 := vp_in_iff.mpr ⟨by omega, by omega⟩
              refine cs_34 hx hb hK hP hD hS hm_23.1 hm_23.2 q_37 dX11_singNote_127 (fun H locs hP hD hS => ?_)
              replace hE := EV.up hE hm_23.2 (i := (Int32.toNatClampNeg x4_7)) (ow_any v_36)
              generalize (va_up E26 (R (R this 6) 3) (upd (E26 (R (R this 6) 3)) (Int32.toNatClampNeg x4_7) v_36)) = E_38 at hP hD hE
              obtain ⟨v_39, ev_39⟩ : ∃ y : Int32, y = x4_7 + 1 := ⟨_, rfl⟩
              refine lv_iinc (v := v_39) (lv' := [(4, .int v_39), (3, .int v_33), (5, .int y0_16), (0, .ref this), (1, .int n), (2, .int n2)]) hx hb dX11_singNote_128 hl (k := 2) rfl (by rw [ev_39]; rfl) (by decide) rfl (fun ls hl => ?_)
              have q_40 : v_39.toInt = x4_7.toInt + 1 := by have := ow_add ev_39 (by omega) (by omega); omega
              refine lv_goto (tgt := 35) hx hb dX11_singNote_131 (by decide) ?_
              refine W.widen (k := 0) (n := 0) (Nat.le_of_ble_eq_true rfl) (Nat.le_of_ble_eq_true rfl) ?_
              exact ih_7 v_39 v_33 I26 J26 E_38 B26 _ _ _ hI hE hX_7 (by omega) (by omega) hP hD hS (lv_sub hl [0, 1, 3, 4, 5] rfl)
        refine lv_aload_n hx hb dX11_singNote_47 rfl (lv_at hl 2 rfl) ?_
        refine cg_0_6_11 hx hb ht hown hK hN hP hthis.1 hthis.2 dX11_singNote_48 ?_
        refine cg_7_2_11 hx hb ht hown hK hN hP hm_1.1 hm_1.2 dX11_singNote_51 ?_
        refine lv_iload hx hb dX11_singNote_54 (lv_at hl 0 rfl) ?_
        refine lv_ishr hx hb dX11_singNote_56 ?_
        refine lv_topi (fun v_41 ev_41 => ?_)
        refine lv_iconst (v := 1) hx hb dX11_singNote_57 (by decide) ?_
        refine lv_iand hx hb dX11_singNote_58 ?_
        refine lv_topi (fun v_42 ev_42 => ?_)
        have q_43 : 0 ≤ v_42.toInt ∧ v_42.toInt ≤ 1 := by rw [ev_42]; exact ow_and1 _
        refine lv_if_ne (tgt := 66) hx hb dX11_singNote_59 (by decide) (fun c_44 => ?_) (fun c_44 => ?_)
        · have q_45 : ¬ v_42.toInt = (0 : Int32).toInt := by have := (not_congr (ow_eq _ _)).mp c_44; omega
          refine lv_iconst (v := 0) hx hb dX11_singNote_66 (by decide) ?_
          refine W.widen (k := 0) (n := 0) (Nat.le_of_ble_eq_true rfl) (Nat.le_of_ble_eq_true rfl) ?_
          exact jn_16 (0) _ _ _ (by omega) hP hD hS (lv_sub hl [0, 1, 2, 3, 4] rfl)
        · have q_46 : v_42.toInt = (0 : Int32).toInt := (ow_eq _ _).mp c_44
          refine lv_iconst (v := 1) hx hb dX11_singNote_62 (by decide) ?_
          refine lv_goto (tgt := 67) hx hb dX11_singNote_63 (by decide) ?_
          refine W.widen (k := 0) (n := 0) (Nat.le_of_ble_eq_true rfl) (Nat.le_of_ble_eq_true rfl) ?_
          exact jn_16 (1) _ _ _ (by omega) hP hD hS (lv_sub hl [0, 1, 2, 3, 4] rfl)
  exact lp_7 _ (0) (0) I6 J6 E6 B6 _ _ _ hI hE FI.rf (by omega) (Nat.lt_succ_self _) hP hD hS (lv_sub hl [0, 1, 2, 3, 4] rfl)
set_option maxHeartbeats 4000000 in
set_option maxRecDepth 100000 in
theorem x_sing (l : Launch) (G : va_G) (cy : Nat → ClassId) (sz : Nat) (L : List Nat) (K : Nat → Nat) (R : Nat → Nat → Nat) (T : Int) (I E : Nat → Nat → Int32) (J B : Nat → Nat → Int64) (this : Nat) (n : Int32) (n2 : Int32) (hRT : RT L K R) (hI : IV T L K I) (hE : EV L K E) (hthis1 : this ∈ L) (hthis2 : K this = 0) : Met l yX11_sing (.code yX11_sing cX11_sing 3 (some .int) :: TBg) ({ frames := 7, cells := 0, slots := 0, locals := 448 }) (va_Pc [.ref this, .int n, .int n2] (En G cy (WC cy L K R I J E B) sz)) (va_Qi (fun (r : Int32) (u : (Nat → Nat → Int32) × (Nat → Nat → Int64) × (Nat → Nat → Int32) × (Nat → Nat → Int64)) => IV T L K u.1 ∧ EV L K u.2.2.1 ∧ FI [(3, 2), (4, 4), (6, 4), (7, 2)] K I u.1 ∧ (True)) (fun u t => Ex G (va_A (WC cy L K R I J E B) sz) (WC cy L K R u.1 u.2.1 u.2.2.1 u.2.2.2) t) (va_A (WC cy L K R I J E B) sz)) 0 0 (va_A (WC cy L K R I J E B) sz) := by
  have hthis : this ∈ L ∧ K this = 0 := ⟨hthis1, hthis2⟩
  refine Met.ofW (cc := cX11_sing) (maxL := 3) (ret := (some .int)) (by decide) rfl ?_
  intro p e s m args below meth c s₁ B9 hml hv9
  obtain ⟨rfl, hsz, hP, hK, hD0, hN⟩ := hv9
  have hx := B9.exec
  have hb := B9.bytes
  have hr := B9.returns
  have hts := atoms_spec (ws := .code yX11_sing cX11_sing 3 (some .int) :: TBg) B9.pre
  have ht : ∀ w ∈ TBg, w.before _ s = true := fun w h => hts w (List.mem_cons_of_mem _ h)
  have hown : s.vm.findClass RX11 = some m.cls := findClass_of_methodNamed B9.named
  have hlocks := B9.notSynchronized
  subst hsz
  have hD := hD0.self (sz := s.heap.size)
  generalize hAe : va_A (WC cy L K R I J E B) s.heap.size = A at hD ⊢
  have hA : ∀ q : Nat, s.heap.size ≤ q → A q := fun q h => by rw [← hAe]; exact Or.inr h
  have hS : va_S A s.heap s.heap [] := va_S.rf
  have hl := lv_entry ([.ref this, .int n, .int n2]) (n := 3) (Nat.le_of_ble_eq_true rfl)
  rw [lg_entry_eq]
  generalize (lg_sl ([.ref this, .int n, .int n2]) ++ List.replicate (3 - (lg_sl ([.ref this, .int n, .int n2])).length) Slot.unset).toArray = ls at hl ⊢
  have hl : lv_has ls 3 [(0, .ref this), (1, .int n), (2, .int n2)] := hl
  have z0 : (-1 : Int32).toInt = -1 := by decide
  have z1 : (0 : Int32).toInt = 0 := by decide
  have z2 : (1 : Int32).toInt = 1 := by decide
  have z3 : (9 : Int32).toInt = 9 := by decide
  have z4 : (40 : Int32).toInt = 40 := by decide
  have hC_0 : FI [(3, 2), (4, 4), (6, 4), (7, 2)] K I I := FI.rf
  refine lv_iload_n hx hb dX11_sing_0 rfl (lv_at hl 1 rfl) ?_
  have hFc := fr_new hS hA
  refine va_calli (va_runS (As := [.int n]) (rest := []) ⟨hx, hb, hml, hown, ht⟩ (c_canBeSung l G cy _  n  ) (va_cwS 1 ht (gs k_563 k_564 k_521 k_562) rfl rfl rfl (by decide +kernel) ⟨Nat.le_of_ble_eq_true rfl, Nat.le_of_ble_eq_true rfl⟩) ⟨En.blind, fun U hU hW => ⟨rfl, En.of hU hW (va_P0 (H := _)) hK va_D0 hN⟩⟩ rfl rfl hl.1 rfl (lv_room (Nat.le_of_ble_eq_true rfl)) dX11_sing_1 ⟨Nat.le_of_ble_eq_true rfl, Nat.le_of_ble_eq_true rfl⟩) hS (fun q _ h => hFc q h) hFc (fun r_u_1 u_1 t9 H locs ht9 hvm hw hB hz1 hk1 hS => ?_)
  have hP := fr_keep hP hk1
  have wu_1 := hw
  clear hFc hk1 hz1 hB hw
  refine lv_if_eq (tgt := 33) hx hb dX11_sing_4 (by decide) (fun c_2 => ?_) (fun c_2 => ?_)
  · have q_3 : r_u_1.toInt = (0 : Int32).toInt := (ow_eq _ _).mp c_2
    refine lv_iconst (v := (-1)) hx hb dX11_sing_33 (by decide) ?_
    refine W.widen (k := 0) (n := 0) (Nat.le_of_ble_eq_true rfl) (Nat.le_of_ble_eq_true rfl) ?_
    exact W.iret (v := (-1)) hx hb hr (fun t ht9 hW => ⟨⟨(-1), (I, J, E, B), rfl, ⟨hI, hE, hC_0, trivial⟩, ⟨by rw [ht9]; exact hP, hD⟩⟩, hS.F ht9⟩) hS.2.2 dX11_sing_34
  · have q_4 : ¬ r_u_1.toInt = (0 : Int32).toInt := by have := (not_congr (ow_eq _ _)).mp c_2; omega
    refine lv_iload_n hx hb dX11_sing_7 rfl (lv_at hl 2 rfl) ?_
    refine lv_iconst (v := 1) hx hb dX11_sing_8 (by decide) ?_
    refine lv_icmp_lt (tgt := 33) hx hb dX11_sing_9 (by decide) (fun c_5 => ?_) (fun c_5 => ?_)
    · have q_6 : n2.toInt < (1 : Int32).toInt := (ow_lt _ _).mp c_5
      refine lv_iconst (v := (-1)) hx hb dX11_sing_33 (by decide) ?_
      refine W.widen (k := 0) (n := 0) (Nat.le_of_ble_eq_true rfl) (Nat.le_of_ble_eq_true rfl) ?_
      exact W.iret (v := (-1)) hx hb hr (fun t ht9 hW => ⟨⟨(-1), (I, J, E, B), rfl, ⟨hI, hE, hC_0, trivial⟩, ⟨by rw [ht9]; exact hP, hD⟩⟩, hS.F ht9⟩) hS.2.2 dX11_sing_34
    · have q_7 : (1 : Int32).toInt ≤ n2.toInt := by have := (not_congr (ow_lt _ _)).mp c_5; omega
      refine lv_iload_n hx hb dX11_sing_12 rfl (lv_at hl 2 rfl) ?_
      refine lv_bipush (v := 9) hx hb dX11_sing_13 (by decide) ?_
      refine lv_icmp_gt (tgt := 33) hx hb dX11_sing_15 (by decide) (fun c_8 => ?_) (fun c_8 => ?_)
      · have q_9 : (9 : Int32).toInt < n2.toInt := (ow_lt _ _).mp c_8
        refine lv_iconst (v := (-1)) hx hb dX11_sing_33 (by decide) ?_
        refine W.widen (k := 0) (n := 0) (Nat.le_of_ble_eq_true rfl) (Nat.le_of_ble_eq_true rfl) ?_
        exact W.iret (v := (-1)) hx hb hr (fun t ht9 hW => ⟨⟨(-1), (I, J, E, B), rfl, ⟨hI, hE, hC_0, trivial⟩, ⟨by rw [ht9]; exact hP, hD⟩⟩, hS.F ht9⟩) hS.2.2 dX11_sing_34
      · have q_10 : n2.toInt ≤ (9 : Int32).toInt := by have := (not_congr (ow_lt _ _)).mp c_8; omega
        refine lv_aload_n hx hb dX11_sing_18 rfl (lv_at hl 0 rfl) ?_
        refine cg_0_6_11 hx hb ht hown hK hN hP hthis.1 hthis.2 dX11_sing_19 ?_
        have hm_11 : (R this 6) ∈ L ∧ K (R this 6) = 7 := RT.o hRT hthis.1 hthis.2 6 (by decide)
        refine cg_7_0_11 hx hb ht hown hK hN hP hm_11.1 hm_11.2 dX11_sing_22 ?_
        have hm_12 : (R (R this 6) 0) ∈ L ∧ K (R (R this 6) 0) = 3 := RT.o hRT hm_11.1 hm_11.2 0 (by decide)
        refine cg_3_2_11 hx hb ht hown hK hN hP hm_12.1 hm_12.2 dX11_sing_25 ?_
        have q_13 : 0 ≤ (I (R (R this 6) 0) 2).toInt ∧ (I (R (R this 6) 0) 2).toInt ≤ 40 := IV.rd hI hm_12.1 hm_12.2 2
        refine lv_bipush (v := 40) hx hb dX11_sing_28 (by decide) ?_
        refine lv_icmp_lt (tgt := 35) hx hb dX11_sing_30 (by decide) (fun c_14 => ?_) (fun c_14 => ?_)
        · have q_15 : (I (R (R this 6) 0) 2).toInt < (40 : Int32).toInt := (ow_lt _ _).mp c_14
          refine lv_aload_n hx hb dX11_sing_35 rfl (lv_at hl 0 rfl) ?_
          refine lv_iload_n hx hb dX11_sing_36 rfl (lv_at hl 1 rfl) ?_
          refine lv_iload_n hx hb dX11_sing_37 rfl (lv_at hl 2 rfl) ?_
          have hFc := fr_free hD hS hA
          refine va_calli (va_runV (As := [.int n, .int n2]) (rest := []) ⟨hx, hb, hml, hown, ht⟩ (x_singNote l G cy _ L K R T I E J B this n n2 hRT hI hE hthis.1 hthis.2) (cwV 2 ht (gv k_566 k_567 k_568 k_521 k_565) rfl rfl rfl (by decide +kernel) ⟨Nat.le_of_ble_eq_true rfl, Nat.le_of_ble_eq_true rfl⟩) ⟨En.blind, cr_0 hK hP hthis.1 hthis.2, fun U hU hW => ⟨rfl, En.of hU hW hP hK hD hN⟩⟩ rfl rfl hl.1 rfl (lv_room (Nat.le_of_ble_eq_true rfl)) dX11_sing_38 ⟨Nat.le_of_ble_eq_true rfl, Nat.le_of_ble_eq_true rfl⟩) hS (fun q _ h => hFc q h) hFc (fun r_u_16 u_16 t9 H locs ht9 hvm hw hB hz1 hk1 hS => ?_)
          obtain ⟨I16, J16, E16, B16⟩ := u_16
          obtain ⟨hP1, hD1⟩ := hB
          rw [ht9] at hP1
          clear hI hE
          obtain ⟨hI, hE, xu_16I, wu_16⟩ := hw
          dsimp only at hI hE xu_16I wu_16
          have hP : va_P G vwCl (WC cy L K R I16 J16 E16 B16) H := hP1
          have hD : va_D A (WC cy L K R I16 J16 E16 B16) := hD1.weaken (fun _ _ _ h => hFc _ h)
          clear hFc hk1 hz1 hP1 hD1
          replace hC_0 := FI.tr hC_0 xu_16I (by decide)
          refine W.widen (k := 0) (n := 0) (Nat.le_of_ble_eq_true rfl) (Nat.le_of_ble_eq_true rfl) ?_
          exact W.iret (v := r_u_16) hx hb hr (fun t ht9 hW => ⟨⟨r_u_16, (I16, J16, E16, B16), rfl, ⟨hI, hE, hC_0, trivial⟩, ⟨by rw [ht9]; exact hP, hD⟩⟩, hS.F ht9⟩) hS.2.2 dX11_sing_41
        · have q_17 : (40 : Int32).toInt ≤ (I (R (R this 6) 0) 2).toInt := by have := (not_congr (ow_lt _ _)).mp c_14; omega
          refine lv_iconst (v := (-1)) hx hb dX11_sing_33 (by decide) ?_
          refine W.widen (k := 0) (n := 0) (Nat.le_of_ble_eq_true rfl) (Nat.le_of_ble_eq_true rfl) ?_
          exact W.iret (v := (-1)) hx hb hr (fun t ht9 hW => ⟨⟨(-1), (I, J, E, B), rfl, ⟨hI, hE, hC_0, trivial⟩, ⟨by rw [ht9]; exact hP, hD⟩⟩, hS.F ht9⟩) hS.2.2 dX11_sing_34
set_option maxHeartbeats 4000000 in
set_option maxRecDepth 100000 in
theorem x_song (l : Launch) (G : va_G) (cy : Nat → ClassId) (sz : Nat) (L : List Nat) (K : Nat → Nat) (R : Nat → Nat → Nat) (T : Int) (I E : Nat → Nat → Int32) (J B : Nat → Nat → Int64) (this : Nat) (n : Int32) (n2 : Int32) (hRT : RT L K R) (hI : IV T L K I) (hE : EV L K E) (hthis1 : this ∈ L) (hthis2 : K this = 0) : Met l yX11_song (.code yX11_song cX11_song 6 (some .int) :: TBg) ({ frames := 7, cells := 0, slots := 0, locals := 448 }) (va_Pc [.ref this, .int n, .int n2] (En G cy (WC cy L K R I J E B) sz)) (va_Qi (fun (r : Int32) (u : (Nat → Nat → Int32) × (Nat → Nat → Int64) × (Nat → Nat → Int32) × (Nat → Nat → Int64)) => IV T L K u.1 ∧ EV L K u.2.2.1 ∧ FI [(3, 2), (4, 4), (6, 4), (7, 2)] K I u.1 ∧ (True)) (fun u t => Ex G (va_A (WC cy L K R I J E B) sz) (WC cy L K R u.1 u.2.1 u.2.2.1 u.2.2.2) t) (va_A (WC cy L K R I J E B) sz)) 0 0 (va_A (WC cy L K R I J E B) sz) := by
  have hthis : this ∈ L ∧ K this = 0 := ⟨hthis1, hthis2⟩
  refine Met.ofW (cc := cX11_song) (maxL := 6) (ret := (some .int)) (by decide) rfl ?_
  intro p e s m args below meth c s₁ B9 hml hv9
  obtain ⟨rfl, hsz, hP, hK, hD0, hN⟩ := hv9
  have hx := B9.exec
  have hb := B9.bytes
  have hr := B9.returns
  have hts := atoms_spec (ws := .code yX11_song cX11_song 6 (some .int) :: TBg) B9.pre
  have ht : ∀ w ∈ TBg, w.before _ s = true := fun w h => hts w (List.mem_cons_of_mem _ h)
  have hown : s.vm.findClass RX11 = some m.cls := findClass_of_methodNamed B9.named
  have hlocks := B9.notSynchronized
  subst hsz
  have hD := hD0.self (sz := s.heap.size)
  generalize hAe : va_A (WC cy L K R I J E B) s.heap.size = A at hD ⊢
  have hA : ∀ q : Nat, s.heap.size ≤ q → A q := fun q h => by rw [← hAe]; exact Or.inr h
  have hS : va_S A s.heap s.heap [] := va_S.rf
  have hl := lv_entry ([.ref this, .int n, .int n2]) (n := 6) (Nat.le_of_ble_eq_true rfl)
  rw [lg_entry_eq]
  generalize (lg_sl ([.ref this, .int n, .int n2]) ++ List.replicate (6 - (lg_sl ([.ref this, .int n, .int n2])).length) Slot.unset).toArray = ls at hl ⊢
  have hl : lv_has ls 6 [(0, .ref this), (1, .int n), (2, .int n2)] := hl
  have z0 : (-60 : Int32).toInt = -60 := by decide
  have z1 : (-1 : Int32).toInt = -1 := by decide
  have z2 : (0 : Int32).toInt = 0 := by decide
  have z3 : (1 : Int32).toInt = 1 := by decide
  have z4 : (40 : Int32).toInt = 40 := by decide
  have z5 : (60 : Int32).toInt = 60 := by decide
  have hC_0 : FI [(3, 2), (4, 4), (6, 4), (7, 2)] K I I := FI.rf
  refine lv_aload_n hx hb dX11_song_0 rfl (lv_at hl 0 rfl) ?_
  refine cg_0_2_11 hx hb ht hown hK hN hP hthis.1 hthis.2 dX11_song_1 ?_
  have hm_1 : (R this 2) ∈ L ∧ K (R this 2) = 1 := RT.o hRT hthis.1 hthis.2 2 (by decide)
  refine lv_iload_n hx hb dX11_song_4 rfl (lv_at hl 1 rfl) ?_
  have hFc := fr_new hS hA
  refine va_calli (va_runV (As := [.int n]) (rest := []) ⟨hx, hb, hml, hown, ht⟩ (c_hasTune l G cy _ L K R T I E J B (R this 2) n hRT hI hE hm_1.1 hm_1.2) (cwV 1 ht (gv k_523 k_524 k_525 k_461 k_522) rfl rfl rfl (by decide +kernel) ⟨Nat.le_of_ble_eq_true rfl, Nat.le_of_ble_eq_true rfl⟩) ⟨En.blind, cr_1 hK hP hm_1.1 hm_1.2, fun U hU hW => ⟨rfl, En.of hU hW hP hK hD hN⟩⟩ rfl rfl hl.1 rfl (lv_room (Nat.le_of_ble_eq_true rfl)) dX11_song_5 ⟨Nat.le_of_ble_eq_true rfl, Nat.le_of_ble_eq_true rfl⟩) hS (fun q _ h => hFc q h) hFc (fun r_u_2 u_2 t9 H locs ht9 hvm hw hB hz1 hk1 hS => ?_)
  have hP := fr_keep hP hk1
  have wu_2 := hw
  clear hFc hk1 hz1 hB hw
  refine lv_if_eq (tgt := 23) hx hb dX11_song_8 (by decide) (fun c_3 => ?_) (fun c_3 => ?_)
  · have q_4 : r_u_2.toInt = (0 : Int32).toInt := (ow_eq _ _).mp c_3
    refine lv_iconst (v := (-1)) hx hb dX11_song_23 (by decide) ?_
    refine W.widen (k := 0) (n := 0) (Nat.le_of_ble_eq_true rfl) (Nat.le_of_ble_eq_true rfl) ?_
    exact W.iret (v := (-1)) hx hb hr (fun t ht9 hW => ⟨⟨(-1), (I, J, E, B), rfl, ⟨hI, hE, hC_0, trivial⟩, ⟨by rw [ht9]; exact hP, hD⟩⟩, hS.F ht9⟩) hS.2.2 dX11_song_24
  · have q_5 : ¬ r_u_2.toInt = (0 : Int32).toInt := by have := (not_congr (ow_eq _ _)).mp c_3; omega
    refine lv_iload_n hx hb dX11_song_11 rfl (lv_at hl 2 rfl) ?_
    refine lv_bipush (v := (-60)) hx hb dX11_song_12 (by decide) ?_
    refine lv_icmp_lt (tgt := 23) hx hb dX11_song_14 (by decide) (fun c_6 => ?_) (fun c_6 => ?_)
    · have q_7 : n2.toInt < ((-60) : Int32).toInt := (ow_lt _ _).mp c_6
      refine lv_iconst (v := (-1)) hx hb dX11_song_23 (by decide) ?_
      refine W.widen (k := 0) (n := 0) (Nat.le_of_ble_eq_true rfl) (Nat.le_of_ble_eq_true rfl) ?_
      exact W.iret (v := (-1)) hx hb hr (fun t ht9 hW => ⟨⟨(-1), (I, J, E, B), rfl, ⟨hI, hE, hC_0, trivial⟩, ⟨by rw [ht9]; exact hP, hD⟩⟩, hS.F ht9⟩) hS.2.2 dX11_song_24
    · have q_8 : ((-60) : Int32).toInt ≤ n2.toInt := by have := (not_congr (ow_lt _ _)).mp c_6; omega
      refine lv_iload_n hx hb dX11_song_17 rfl (lv_at hl 2 rfl) ?_
      refine lv_bipush (v := 60) hx hb dX11_song_18 (by decide) ?_
      refine lv_icmp_le (tgt := 25) hx hb dX11_song_20 (by decide) (fun c_9 => ?_) (fun c_9 => ?_)
      · have q_10 : n2.toInt ≤ (60 : Int32).toInt := (ow_le _ _).mp c_9
        refine lv_aload_n hx hb dX11_song_25 rfl (lv_at hl 0 rfl) ?_
        refine cg_0_2_11 hx hb ht hown hK hN hP hthis.1 hthis.2 dX11_song_26 ?_
        refine cg_1_0_11 hx hb ht hown hK hN hP hm_1.1 hm_1.2 dX11_song_29 ?_
        have hm_11 : (R (R this 2) 0) ∈ L ∧ K (R (R this 2) 0) = 29 := RT.o hRT hm_1.1 hm_1.2 0 (by decide)
        refine lv_iload_n hx hb dX11_song_32 rfl (lv_at hl 1 rfl) ?_
        have q_12 : vp_in n 14 := vp_in_iff.mpr ⟨by omega, by omega⟩
        refine cl_29 hx hb hK hP hm_11.1 hm_11.2 q_12 dX11_song_33 ?_
        have hm_13 : (R (R (R this 2) 0) (Int32.toNatClampNeg n)) ∈ L ∧ K (R (R (R this 2) 0) (Int32.toNatClampNeg n)) = 2 := RT.a hRT hm_11.1 hm_11.2 (by decide) q_12
        refine lv_astore_n (lv' := [(3, .ref (R (R (R this 2) 0) (Int32.toNatClampNeg n))), (0, .ref this), (1, .int n), (2, .int n2)]) hx hb dX11_song_34 rfl hl (by decide) rfl (fun ls hl => ?_)
        refine lv_aload_n hx hb dX11_song_35 rfl (lv_at hl 1 rfl) ?_
        refine cg_0_6_11 hx hb ht hown hK hN hP hthis.1 hthis.2 dX11_song_36 ?_
        have hm_14 : (R this 6) ∈ L ∧ K (R this 6) = 7 := RT.o hRT hthis.1 hthis.2 6 (by decide)
        refine cg_7_0_11 hx hb ht hown hK hN hP hm_14.1 hm_14.2 dX11_song_39 ?_
        have hm_15 : (R (R this 6) 0) ∈ L ∧ K (R (R this 6) 0) = 3 := RT.o hRT hm_14.1 hm_14.2 0 (by decide)
        refine cg_3_2_11 hx hb ht hown hK hN hP hm_15.1 hm_15.2 dX11_song_42 ?_
        have q_16 : 0 ≤ (I (R (R this 6) 0) 2).toInt ∧ (I (R (R this 6) 0) 2).toInt ≤ 40 := IV.rd hI hm_15.1 hm_15.2 2
        refine lv_aload_n hx hb dX11_song_45 rfl (lv_at hl 0 rfl) ?_
        refine cg_2_2_11 hx hb ht hown hK hN hP hm_13.1 hm_13.2 dX11_song_46 ?_
        have q_17 : 0 ≤ (I (R (R (R this 2) 0) (Int32.toNatClampNeg n)) 2).toInt ∧ (I (R (R (R this 2) 0) (Int32.toNatClampNeg n)) 2).toInt ≤ 12 := IV.rd hI hm_13.1 hm_13.2 2
        refine lv_iadd hx hb dX11_song_49 ?_
        refine lv_topi (fun v_18 ev_18 => ?_)
        have q_19 : v_18.toInt = (I (R (R this 6) 0) 2).toInt + (I (R (R (R this 2) 0) (Int32.toNatClampNeg n)) 2).toInt := ow_add ev_18 (by omega) (by omega)
        refine lv_bipush (v := 40) hx hb dX11_song_50 (by decide) ?_
        refine lv_icmp_le (tgt := 57) hx hb dX11_song_52 (by decide) (fun c_20 => ?_) (fun c_20 => ?_)
        · have q_21 : v_18.toInt ≤ (40 : Int32).toInt := (ow_le _ _).mp c_20
          refine lv_iconst (v := 0) hx hb dX11_song_57 (by decide) ?_
          refine lv_istore (lv' := [(4, .int 0), (3, .ref (R (R (R this 2) 0) (Int32.toNatClampNeg n))), (0, .ref this), (1, .int n), (2, .int n2)]) hx hb dX11_song_58 hl (by decide) rfl (fun ls hl => ?_)
          refine W.widen (k := 0) (n := 0) (Nat.le_of_ble_eq_true rfl) (Nat.le_of_ble_eq_true rfl) ?_
          have lp_22 : ∀ (N_22 : Nat) (x4_22 : Int32) (H : Heap) (locs : List Loc) (ls : Array Slot), (0 ≤ x4_22.toInt ∧ x4_22.toInt ≤ 12) → (12 - x4_22.toInt).toNat < N_22 → va_P G vwCl (WC cy L K R I J E B) H → va_D A (WC cy L K R I J E B) → va_S A s.heap H locs → lv_has ls 6 [(4, .int x4_22), (3, .ref (R (R (R this 2) 0) (Int32.toNatClampNeg n))), (0, .ref this), (1, .int n), (2, .int n2)] → W p l e (headSpec (.code yX11_song cX11_song 6 (some .int) :: TBg) ({ frames := 7, cells := 0, slots := 0, locals := 448 })).room s m ([.ref this, .int n, .int n2] : List Value).toArray below meth c H locs 0 0 (MQ below (va_Qi (fun (r : Int32) (u : (Nat → Nat → Int32) × (Nat → Nat → Int64) × (Nat → Nat → Int32) × (Nat → Nat → Int64)) => IV T L K u.1 ∧ EV L K u.2.2.1 ∧ FI [(3, 2), (4, 4), (6, 4), (7, 2)] K I u.1 ∧ (True)) (fun u t => Ex G A (WC cy L K R u.1 u.2.1 u.2.2.1 u.2.2.2) t) A) ([.ref this, .int n, .int n2] : List Value).toArray s 0 0 A) (F0 m 60 ls []) := by
            intro N_22
            induction N_22 with
            | zero => intro x4_22 H locs ls qf22_0 hm9 hP hD hS hl; exact absurd hm9 (Nat.not_lt_zero _)
            | succ N_22 ih_22 =>
              intro x4_22 H locs ls qf22_0 hm9 hP hD hS hl
              refine lv_iload hx hb dX11_song_60 (lv_at hl 0 rfl) ?_
              refine lv_aload_n hx hb dX11_song_62 rfl (lv_at hl 1 rfl) ?_
              refine cg_2_2_11 hx hb ht hown hK hN hP hm_13.1 hm_13.2 dX11_song_63 ?_
              have q_23 : 0 ≤ (I (R (R (R this 2) 0) (Int32.toNatClampNeg n)) 2).toInt ∧ (I (R (R (R this 2) 0) (Int32.toNatClampNeg n)) 2).toInt ≤ 12 := IV.rd hI hm_13.1 hm_13.2 2
              refine lv_icmp_ge (tgt := 92) hx hb dX11_song_66 (by decide) (fun c_24 => ?_) (fun c_24 => ?_)
              · have q_25 : (I (R (R (R this 2) 0) (Int32.toNatClampNeg n)) 2).toInt ≤ x4_22.toInt := (ow_le _ _).mp c_24
                refine lv_iconst (v := 0) hx hb dX11_song_92 (by decide) ?_
                refine lv_istore (lv' := [(4, .int 0), (3, .ref (R (R (R this 2) 0) (Int32.toNatClampNeg n))), (0, .ref this), (1, .int n), (2, .int n2)]) hx hb dX11_song_93 hl (by decide) rfl (fun ls hl => ?_)
                refine lv_iconst (v := 0) hx hb dX11_song_95 (by decide) ?_
                refine lv_istore (lv' := [(5, .int 0), (4, .int 0), (3, .ref (R (R (R this 2) 0) (Int32.toNatClampNeg n))), (0, .ref this), (1, .int n), (2, .int n2)]) hx hb dX11_song_96 hl (by decide) rfl (fun ls hl => ?_)
                refine W.widen (k := 0) (n := 0) (Nat.le_of_ble_eq_true rfl) (Nat.le_of_ble_eq_true rfl) ?_
                have lp_26 : ∀ (N_26 : Nat) (x5_26 : Int32) (x4_26 : Int32) (I26 : Nat → Nat → Int32) (J26 : Nat → Nat → Int64) (E26 : Nat → Nat → Int32) (B26 : Nat → Nat → Int64) (H : Heap) (locs : List Loc) (ls : Array Slot), IV T L K I26 → EV L K E26 → FI [(3, 2), (4, 4), (6, 4), (7, 2)] K I I26 → (0 ≤ x5_26.toInt ∧ x5_26.toInt ≤ 12) → (12 - x5_26.toInt).toNat < N_26 → va_P G vwCl (WC cy L K R I26 J26 E26 B26) H → va_D A (WC cy L K R I26 J26 E26 B26) → va_S A s.heap H locs → lv_has ls 6 [(5, .int x5_26), (4, .int x4_26), (3, .ref (R (R (R this 2) 0) (Int32.toNatClampNeg n))), (0, .ref this), (1, .int n), (2, .int n2)] → W p l e (headSpec (.code yX11_song cX11_song 6 (some .int) :: TBg) ({ frames := 7, cells := 0, slots := 0, locals := 448 })).room s m ([.ref this, .int n, .int n2] : List Value).toArray below meth c H locs 0 0 (MQ below (va_Qi (fun (r : Int32) (u : (Nat → Nat → Int32) × (Nat → Nat → Int64) × (Nat → Nat → Int32) × (Nat → Nat → Int64)) => IV T L K u.1 ∧ EV L K u.2.2.1 ∧ FI [(3, 2), (4, 4), (6, 4), (7, 2)] K I u.1 ∧ (True)) (fun u t => Ex G A (WC cy L K R u.1 u.2.1 u.2.2.1 u.2.2.2) t) A) ([.ref this, .int n, .int n2] : List Value).toArray s 0 0 A) (F0 m 98 ls []) := by
                  intro N_26
                  induction N_26 with
                  | zero => intro x5_26 x4_26 I26 J26 E26 B26 H locs ls hI hE hC_26 qf26_0 hm9 hP hD hS hl; exact absurd hm9 (Nat.not_lt_zero _)
                  | succ N_26 ih_26 =>
                    intro x5_26 x4_26 I26 J26 E26 B26 H locs ls hI hE hC_26 qf26_0 hm9 hP hD hS hl
                    replace hC_0 := FI.tr hC_0 hC_26 (by decide)
                    have hX_26 := hC_26
                    refine lv_iload hx hb dX11_song_98 (lv_at hl 0 rfl) ?_
                    refine lv_aload_n hx hb dX11_song_100 rfl (lv_at hl 2 rfl) ?_
                    refine cg_2_2_11 hx hb ht hown hK hN hP hm_13.1 hm_13.2 dX11_song_101 ?_
                    refine ow_top (I (R (R (R this 2) 0) (Int32.toNatClampNeg n)) 2) (hC_26 (R (R (R this 2) 0) (Int32.toNatClampNeg n)) 2 (by rw [hm_13.2]; decide)) ?_
                    have q_27 : 0 ≤ (I (R (R (R this 2) 0) (Int32.toNatClampNeg n)) 2).toInt ∧ (I (R (R (R this 2) 0) (Int32.toNatClampNeg n)) 2).toInt ≤ 12 := by have h9 : I26 (R (R (R this 2) 0) (Int32.toNatClampNeg n)) 2 = (I (R (R (R this 2) 0) (Int32.toNatClampNeg n)) 2) := (hC_26 (R (R (R this 2) 0) (Int32.toNatClampNeg n)) 2 (by rw [hm_13.2]; decide)); rw [← h9]; exact IV.rd hI hm_13.1 hm_13.2 2
                    refine lv_icmp_ge (tgt := 138) hx hb dX11_song_104 (by decide) (fun c_28 => ?_) (fun c_28 => ?_)
                    · have q_29 : (I (R (R (R this 2) 0) (Int32.toNatClampNeg n)) 2).toInt ≤ x5_26.toInt := (ow_le _ _).mp c_28
                      refine lv_iload hx hb dX11_song_138 (lv_at hl 1 rfl) ?_
                      refine W.widen (k := 0) (n := 0) (Nat.le_of_ble_eq_true rfl) (Nat.le_of_ble_eq_true rfl) ?_
                      exact W.iret (v := x4_26) hx hb hr (fun t ht9 hW => ⟨⟨x4_26, (I26, J26, E26, B26), rfl, ⟨hI, hE, hC_0, trivial⟩, ⟨by rw [ht9]; exact hP, hD⟩⟩, hS.F ht9⟩) hS.2.2 dX11_song_140
                    · have q_30 : x5_26.toInt < (I (R (R (R this 2) 0) (Int32.toNatClampNeg n)) 2).toInt := by have := (not_congr (ow_le _ _)).mp c_28; omega
                      refine lv_iload hx hb dX11_song_107 (lv_at hl 1 rfl) ?_
                      refine lv_aload_n hx hb dX11_song_109 rfl (lv_at hl 3 rfl) ?_
                      refine lv_aload_n hx hb dX11_song_110 rfl (lv_at hl 2 rfl) ?_
                      refine cg_2_0_11 hx hb ht hown hK hN hP hm_13.1 hm_13.2 dX11_song_111 ?_
                      have hm_31 : (R (R (R (R this 2) 0) (Int32.toNatClampNeg n)) 0) ∈ L ∧ K (R (R (R (R this 2) 0) (Int32.toNatClampNeg n)) 0) = 21 := RT.o hRT hm_13.1 hm_13.2 0 (by decide)
                      refine lv_iload hx hb dX11_song_114 (lv_at hl 0 rfl) ?_
                      have q_32 : vp_in x5_26 12 := vp_in_iff.mpr ⟨by omega, by omega⟩
                      refine cl_21 hx hb hK hP hm_31.1 hm_31.2 q_32 dX11_song_116 ?_
                      refine lv_topi (fun v_33 ev_33 => ?_)
                      refine lv_iload_n hx hb dX11_song_117 rfl (lv_at hl 5 rfl) ?_
                      refine lv_iadd hx hb dX11_song_118 ?_
                      refine lv_topi (fun v_34 ev_34 => ?_)
                      refine lv_aload_n hx hb dX11_song_119 rfl (lv_at hl 2 rfl) ?_
                      refine cg_2_1_11 hx hb ht hown hK hN hP hm_13.1 hm_13.2 dX11_song_120 ?_
                      have hm_35 : (R (R (R (R this 2) 0) (Int32.toNatClampNeg n)) 1) ∈ L ∧ K (R (R (R (R this 2) 0) (Int32.toNatClampNeg n)) 1) = 22 := RT.o hRT hm_13.1 hm_13.2 1 (by decide)
                      refine lv_iload hx hb dX11_song_123 (lv_at hl 0 rfl) ?_
                      have q_36 : vp_in x5_26 12 := vp_in_iff.mpr ⟨by omega, by omega⟩
                      refine cl_22 hx hb hK hP hm_35.1 hm_35.2 q_36 dX11_song_125 ?_
                      refine lv_topi (fun v_37 ev_37 => ?_)
                      have hFc := fr_free hD hS hA
                      refine va_calli (va_runV (As := [.int v_34, .int v_37]) (rest := [.int x4_26]) ⟨hx, hb, hml, hown, ht⟩ (x_singNote l G cy _ L K R T I26 E26 J26 B26 this v_34 v_37 hRT hI hE hthis.1 hthis.2) (cwV 2 ht (gv k_566 k_567 k_568 k_521 k_565) rfl rfl rfl (by decide +kernel) ⟨Nat.le_of_ble_eq_true rfl, Nat.le_of_ble_eq_true rfl⟩) ⟨En.blind, cr_0 hK hP hthis.1 hthis.2, fun U hU hW => ⟨rfl, En.of hU hW hP hK hD hN⟩⟩ rfl rfl hl.1 rfl (lv_room (Nat.le_of_ble_eq_true rfl)) dX11_song_126 ⟨Nat.le_of_ble_eq_true rfl, Nat.le_of_ble_eq_true rfl⟩) hS (fun q _ h => hFc q h) hFc (fun r_u_38 u_38 t9 H locs ht9 hvm hw hB hz1 hk1 hS => ?_)
                      obtain ⟨I38, J38, E38, B38⟩ := u_38
                      obtain ⟨hP1, hD1⟩ := hB
                      rw [ht9] at hP1
                      clear hI hE
                      obtain ⟨hI, hE, xu_38I, wu_38⟩ := hw
                      dsimp only at hI hE xu_38I wu_38
                      have hP : va_P G vwCl (WC cy L K R I38 J38 E38 B38) H := hP1
                      have hD : va_D A (WC cy L K R I38 J38 E38 B38) := hD1.weaken (fun _ _ _ h => hFc _ h)
                      clear hFc hk1 hz1 hP1 hD1
                      replace hC_0 := FI.tr hC_0 xu_38I (by decide)
                      replace hX_26 := FI.tr hX_26 xu_38I (by decide)
                      refine lv_ior hx hb dX11_song_129 ?_
                      refine lv_topi (fun v_39 ev_39 => ?_)
                      refine lv_istore (lv' := [(4, .int v_39), (5, .int x5_26), (3, .ref (R (R (R this 2) 0) (Int32.toNatClampNeg n))), (0, .ref this), (1, .int n), (2, .int n2)]) hx hb dX11_song_130 hl (by decide) rfl (fun ls hl => ?_)
                      obtain ⟨v_40, ev_40⟩ : ∃ y : Int32, y = x5_26 + 1 := ⟨_, rfl⟩
                      refine lv_iinc (v := v_40) (lv' := [(5, .int v_40), (4, .int v_39), (3, .ref (R (R (R this 2) 0) (Int32.toNatClampNeg n))), (0, .ref this), (1, .int n), (2, .int n2)]) hx hb dX11_song_132 hl (k := 1) rfl (by rw [ev_40]; rfl) (by decide) rfl (fun ls hl => ?_)
                      have q_41 : v_40.toInt = x5_26.toInt + 1 := by have := ow_add ev_40 (by omega) (by omega); omega
                      refine lv_goto (tgt := 98) hx hb dX11_song_135 (by decide) ?_
                      refine W.widen (k := 0) (n := 0) (Nat.le_of_ble_eq_true rfl) (Nat.le_of_ble_eq_true rfl) ?_
                      exact ih_26 v_40 v_39 I38 J38 E38 B38 _ _ _ hI hE hX_26 (by omega) (by omega) hP hD hS (lv_sub hl [0, 1, 2, 3, 4, 5] rfl)
                exact lp_26 _ (0) (0) I J E B _ _ _ hI hE FI.rf (by omega) (Nat.lt_succ_self _) hP hD hS (lv_sub hl [0, 1, 2, 3, 4, 5] rfl)
              · have q_42 : x4_22.toInt < (I (R (R (R this 2) 0) (Int32.toNatClampNeg n)) 2).toInt := by have := (not_congr (ow_le _ _)).mp c_24; omega
                refine lv_aload_n hx hb dX11_song_69 rfl (lv_at hl 1 rfl) ?_
                refine cg_2_0_11 hx hb ht hown hK hN hP hm_13.1 hm_13.2 dX11_song_70 ?_
                have hm_43 : (R (R (R (R this 2) 0) (Int32.toNatClampNeg n)) 0) ∈ L ∧ K (R (R (R (R this 2) 0) (Int32.toNatClampNeg n)) 0) = 21 := RT.o hRT hm_13.1 hm_13.2 0 (by decide)
                refine lv_iload hx hb dX11_song_73 (lv_at hl 0 rfl) ?_
                have q_44 : vp_in x4_22 12 := vp_in_iff.mpr ⟨by omega, by omega⟩
                refine cl_21 hx hb hK hP hm_43.1 hm_43.2 q_44 dX11_song_75 ?_
                refine lv_topi (fun v_45 ev_45 => ?_)
                refine lv_iload_n hx hb dX11_song_76 rfl (lv_at hl 4 rfl) ?_
                refine lv_iadd hx hb dX11_song_77 ?_
                refine lv_topi (fun v_46 ev_46 => ?_)
                have hFc := fr_new hS hA
                refine va_calli (va_runS (As := [.int v_46]) (rest := []) ⟨hx, hb, hml, hown, ht⟩ (c_canBeSung l G cy _  v_46  ) (va_cwS 1 ht (gs k_563 k_564 k_521 k_562) rfl rfl rfl (by decide +kernel) ⟨Nat.le_of_ble_eq_true rfl, Nat.le_of_ble_eq_true rfl⟩) ⟨En.blind, fun U hU hW => ⟨rfl, En.of hU hW (va_P0 (H := _)) hK va_D0 hN⟩⟩ rfl rfl hl.1 rfl (lv_room (Nat.le_of_ble_eq_true rfl)) dX11_song_78 ⟨Nat.le_of_ble_eq_true rfl, Nat.le_of_ble_eq_true rfl⟩) hS (fun q _ h => hFc q h) hFc (fun r_u_47 u_47 t9 H locs ht9 hvm hw hB hz1 hk1 hS => ?_)
                have hP := fr_keep hP hk1
                have wu_47 := hw
                clear hFc hk1 hz1 hB hw
                refine lv_if_ne (tgt := 86) hx hb dX11_song_81 (by decide) (fun c_48 => ?_) (fun c_48 => ?_)
                · have q_49 : ¬ r_u_47.toInt = (0 : Int32).toInt := by have := (not_congr (ow_eq _ _)).mp c_48; omega
                  obtain ⟨v_50, ev_50⟩ : ∃ y : Int32, y = x4_22 + 1 := ⟨_, rfl⟩
                  refine lv_iinc (v := v_50) (lv' := [(4, .int v_50), (3, .ref (R (R (R this 2) 0) (Int32.toNatClampNeg n))), (0, .ref this), (1, .int n), (2, .int n2)]) hx hb dX11_song_86 hl (k := 0) rfl (by rw [ev_50]; rfl) (by decide) rfl (fun ls hl => ?_)
                  have q_51 : v_50.toInt = x4_22.toInt + 1 := by have := ow_add ev_50 (by omega) (by omega); omega
                  refine lv_goto (tgt := 60) hx hb dX11_song_89 (by decide) ?_
                  refine W.widen (k := 0) (n := 0) (Nat.le_of_ble_eq_true rfl) (Nat.le_of_ble_eq_true rfl) ?_
                  exact ih_22 v_50 _ _ _ (by omega) (by omega) hP hD hS (lv_sub hl [0, 1, 2, 3, 4] rfl)
                · have q_52 : r_u_47.toInt = (0 : Int32).toInt := (ow_eq _ _).mp c_48
                  refine lv_iconst (v := (-1)) hx hb dX11_song_84 (by decide) ?_
                  refine W.widen (k := 0) (n := 0) (Nat.le_of_ble_eq_true rfl) (Nat.le_of_ble_eq_true rfl) ?_
                  exact W.iret (v := (-1)) hx hb hr (fun t ht9 hW => ⟨⟨(-1), (I, J, E, B), rfl, ⟨hI, hE, hC_0, trivial⟩, ⟨by rw [ht9]; exact hP, hD⟩⟩, hS.F ht9⟩) hS.2.2 dX11_song_85
          exact lp_22 _ (0) _ _ _ (by omega) (Nat.lt_succ_self _) hP hD hS (lv_sub hl [0, 1, 2, 3, 4] rfl)
        · have q_53 : (40 : Int32).toInt < v_18.toInt := by have := (not_congr (ow_le _ _)).mp c_20; omega
          refine lv_iconst (v := (-1)) hx hb dX11_song_55 (by decide) ?_
          refine W.widen (k := 0) (n := 0) (Nat.le_of_ble_eq_true rfl) (Nat.le_of_ble_eq_true rfl) ?_
          exact W.iret (v := (-1)) hx hb hr (fun t ht9 hW => ⟨⟨(-1), (I, J, E, B), rfl, ⟨hI, hE, hC_0, trivial⟩, ⟨by rw [ht9]; exact hP, hD⟩⟩, hS.F ht9⟩) hS.2.2 dX11_song_56
      · have q_54 : (60 : Int32).toInt < n2.toInt := by have := (not_congr (ow_le _ _)).mp c_9; omega
        refine lv_iconst (v := (-1)) hx hb dX11_song_23 (by decide) ?_
        refine W.widen (k := 0) (n := 0) (Nat.le_of_ble_eq_true rfl) (Nat.le_of_ble_eq_true rfl) ?_
        exact W.iret (v := (-1)) hx hb hr (fun t ht9 hW => ⟨⟨(-1), (I, J, E, B), rfl, ⟨hI, hE, hC_0, trivial⟩, ⟨by rw [ht9]; exact hP, hD⟩⟩, hS.F ht9⟩) hS.2.2 dX11_song_24
set_option maxHeartbeats 4000000 in
set_option maxRecDepth 100000 in
theorem x_silence (l : Launch) (G : va_G) (cy : Nat → ClassId) (sz : Nat) (L : List Nat) (K : Nat → Nat) (R : Nat → Nat → Nat) (T : Int) (I E : Nat → Nat → Int32) (J B : Nat → Nat → Int64) (this : Nat)  (hRT : RT L K R) (hI : IV T L K I) (hE : EV L K E) (hthis1 : this ∈ L) (hthis2 : K this = 0) : Met l yX11_silence (.code yX11_silence cX11_silence 2 (some .int) :: TBg) ({ frames := 5, cells := 0, slots := 0, locals := 320 }) (va_Pc [.ref this] (En G cy (WC cy L K R I J E B) sz)) (va_Qi (fun (r : Int32) (u : (Nat → Nat → Int32) × (Nat → Nat → Int64) × (Nat → Nat → Int32) × (Nat → Nat → Int64)) => IV T L K u.1 ∧ EV L K u.2.2.1 ∧ FI [(3, 2), (4, 4)] K I u.1 ∧ (True)) (fun u t => Ex G (va_A (WC cy L K R I J E B) sz) (WC cy L K R u.1 u.2.1 u.2.2.1 u.2.2.2) t) (va_A (WC cy L K R I J E B) sz)) 0 0 (va_A (WC cy L K R I J E B) sz) := by
  have hthis : this ∈ L ∧ K this = 0 := ⟨hthis1, hthis2⟩
  refine Met.ofW (cc := cX11_silence) (maxL := 2) (ret := (some .int)) (by decide) rfl ?_
  intro p e s m args below meth c s₁ B9 hml hv9
  obtain ⟨rfl, hsz, hP, hK, hD0, hN⟩ := hv9
  have hx := B9.exec
  have hb := B9.bytes
  have hr := B9.returns
  have hts := atoms_spec (ws := .code yX11_silence cX11_silence 2 (some .int) :: TBg) B9.pre
  have ht : ∀ w ∈ TBg, w.before _ s = true := fun w h => hts w (List.mem_cons_of_mem _ h)
  have hown : s.vm.findClass RX11 = some m.cls := findClass_of_methodNamed B9.named
  have hlocks := B9.notSynchronized
  subst hsz
  have hD := hD0.self (sz := s.heap.size)
  generalize hAe : va_A (WC cy L K R I J E B) s.heap.size = A at hD ⊢
  have hA : ∀ q : Nat, s.heap.size ≤ q → A q := fun q h => by rw [← hAe]; exact Or.inr h
  have hS : va_S A s.heap s.heap [] := va_S.rf
  have hl := lv_entry ([.ref this]) (n := 2) (Nat.le_of_ble_eq_true rfl)
  rw [lg_entry_eq]
  generalize (lg_sl ([.ref this]) ++ List.replicate (2 - (lg_sl ([.ref this])).length) Slot.unset).toArray = ls at hl ⊢
  have hl : lv_has ls 2 [(0, .ref this)] := hl
  have z0 : (0 : Int32).toInt = 0 := by decide
  have hC_0 : FI [(3, 2), (4, 4)] K I I := FI.rf
  refine lv_aload_n hx hb dX11_silence_0 rfl (lv_at hl 0 rfl) ?_
  refine cg_0_6_11 hx hb ht hown hK hN hP hthis.1 hthis.2 dX11_silence_1 ?_
  have hm_1 : (R this 6) ∈ L ∧ K (R this 6) = 7 := RT.o hRT hthis.1 hthis.2 6 (by decide)
  refine cg_7_0_11 hx hb ht hown hK hN hP hm_1.1 hm_1.2 dX11_silence_4 ?_
  have hm_2 : (R (R this 6) 0) ∈ L ∧ K (R (R this 6) 0) = 3 := RT.o hRT hm_1.1 hm_1.2 0 (by decide)
  refine cg_3_2_11 hx hb ht hown hK hN hP hm_2.1 hm_2.2 dX11_silence_7 ?_
  have q_3 : 0 ≤ (I (R (R this 6) 0) 2).toInt ∧ (I (R (R this 6) 0) 2).toInt ≤ 40 := IV.rd hI hm_2.1 hm_2.2 2
  refine lv_istore_n (lv' := [(1, .int (I (R (R this 6) 0) 2)), (0, .ref this)]) hx hb dX11_silence_10 rfl hl (by decide) rfl (fun ls hl => ?_)
  refine lv_aload_n hx hb dX11_silence_11 rfl (lv_at hl 1 rfl) ?_
  refine cg_0_6_11 hx hb ht hown hK hN hP hthis.1 hthis.2 dX11_silence_12 ?_
  refine cg_7_0_11 hx hb ht hown hK hN hP hm_1.1 hm_1.2 dX11_silence_15 ?_
  refine lv_iconst (v := 0) hx hb dX11_silence_18 (by decide) ?_
  refine cp_3_2_11 hx hb ht hown hK hN hP hD hS hm_2.1 hm_2.2 dX11_silence_19 (fun H locs hP hD hS => ?_)
  replace hI := IV.up hI hm_2.2 2 (show 0 ≤ (0 : Int32).toInt ∧ (0 : Int32).toInt ≤ 40 from by omega)
  have f_4 : FI [(3, 2)] K I (va_up I (R (R this 6) 0) (va_up (I (R (R this 6) 0)) 2 0)) := FI.up hm_2.2 2 (0 : Int32)
  have e_5 : (va_up I (R (R this 6) 0) (va_up (I (R (R this 6) 0)) 2 0)) (R (R this 6) 0) 2 = 0 := FI.at I (R (R this 6) 0) 2 (0 : Int32)
  replace hC_0 := FI.tr hC_0 f_4 (by decide)
  generalize (va_up I (R (R this 6) 0) (va_up (I (R (R this 6) 0)) 2 0)) = I_6 at hP hD hI f_4 e_5 hC_0
  refine lv_aload_n hx hb dX11_silence_22 rfl (lv_at hl 1 rfl) ?_
  refine cg_0_8_11 hx hb ht hown hK hN hP hthis.1 hthis.2 dX11_silence_23 ?_
  have hm_7 : (R this 8) ∈ L ∧ K (R this 8) = 4 := RT.o hRT hthis.1 hthis.2 8 (by decide)
  refine lv_aload_n hx hb dX11_silence_26 rfl (lv_at hl 1 rfl) ?_
  refine cg_0_6_11 hx hb ht hown hK hN hP hthis.1 hthis.2 dX11_silence_27 ?_
  refine cg_7_0_11 hx hb ht hown hK hN hP hm_1.1 hm_1.2 dX11_silence_30 ?_
  refine lv_aload_n hx hb dX11_silence_33 rfl (lv_at hl 1 rfl) ?_
  refine cg_0_2_11 hx hb ht hown hK hN hP hthis.1 hthis.2 dX11_silence_34 ?_
  have hm_8 : (R this 2) ∈ L ∧ K (R this 2) = 1 := RT.o hRT hthis.1 hthis.2 2 (by decide)
  have hFc := fr_free hD hS hA
  refine va_callv (va_runV (As := [.ref (R (R this 6) 0), .ref (R this 2)]) (rest := []) ⟨hx, hb, hml, hown, ht⟩ (c_hearAll3 l G cy _ L K R T I_6 E J B (R this 8) (R (R this 6) 0) (R this 2) hRT hI hE hm_7.1 hm_7.2 hm_2.1 hm_2.2 hm_8.1 hm_8.2) (cwV 2 ht (gv k_569 k_472 k_473 k_431 k_470) rfl rfl rfl (by decide +kernel) ⟨Nat.le_of_ble_eq_true rfl, Nat.le_of_ble_eq_true rfl⟩) ⟨En.blind, cr_4 hK hP hm_7.1 hm_7.2, fun U hU hW => ⟨rfl, En.of hU hW hP hK hD hN⟩⟩ rfl rfl hl.1 rfl (lv_room (Nat.le_of_ble_eq_true rfl)) dX11_silence_37 ⟨Nat.le_of_ble_eq_true rfl, Nat.le_of_ble_eq_true rfl⟩) hS (fun q _ h => hFc q h) hFc (fun u_9 t9 H locs ht9 hvm hw hB hz1 hk1 hS => ?_)
  obtain ⟨I9, J9, E9, B9⟩ := u_9
  obtain ⟨hP1, hD1⟩ := hB
  rw [ht9] at hP1
  clear hI hE
  obtain ⟨hI, hE, xu_9I, wu_9⟩ := hw
  dsimp only at hI hE xu_9I wu_9
  have hP : va_P G vwCl (WC cy L K R I9 J9 E9 B9) H := hP1
  have hD : va_D A (WC cy L K R I9 J9 E9 B9) := hD1.weaken (fun _ _ _ h => hFc _ h)
  clear hFc hk1 hz1 hP1 hD1
  replace hC_0 := FI.tr hC_0 xu_9I (by decide)
  refine lv_iload_n hx hb dX11_silence_40 rfl (lv_at hl 0 rfl) ?_
  refine W.widen (k := 0) (n := 0) (Nat.le_of_ble_eq_true rfl) (Nat.le_of_ble_eq_true rfl) ?_
  exact W.iret (v := (I (R (R this 6) 0) 2)) hx hb hr (fun t ht9 hW => ⟨⟨(I (R (R this 6) 0) 2), (I9, J9, E9, B9), rfl, ⟨hI, hE, hC_0, trivial⟩, ⟨by rw [ht9]; exact hP, hD⟩⟩, hS.F ht9⟩) hS.2.2 dX11_silence_41
set_option maxHeartbeats 4000000 in
set_option maxRecDepth 100000 in
theorem x_shut (l : Launch) (G : va_G) (cy : Nat → ClassId) (sz : Nat) (L : List Nat) (K : Nat → Nat) (R : Nat → Nat → Nat) (T : Int) (I E : Nat → Nat → Int32) (J B : Nat → Nat → Int64) (this : Nat) (n : Int32) (hRT : RT L K R) (hI : IV T L K I) (hE : EV L K E) (hthis1 : this ∈ L) (hthis2 : K this = 0) : Met l yX11_shut (.code yX11_shut cX11_shut 2 (some .boolean) :: TBg) ({ frames := 2, cells := 0, slots := 0, locals := 128 }) (va_Pc [.ref this, .int n] (En G cy (WC cy L K R I J E B) sz)) (va_Qi (fun (r : Int32) (u : (Nat → Nat → Int32) × (Nat → Nat → Int64) × (Nat → Nat → Int32) × (Nat → Nat → Int64)) => IV T L K u.1 ∧ EV L K u.2.2.1 ∧ FI [(7, 2)] K I u.1 ∧ ((r.toInt = 0 ∨ r.toInt = 1))) (fun u t => Ex G (va_A (WC cy L K R I J E B) sz) (WC cy L K R u.1 u.2.1 u.2.2.1 u.2.2.2) t) (va_A (WC cy L K R I J E B) sz)) 0 0 (va_A (WC cy L K R I J E B) sz) := by
  have hthis : this ∈ L ∧ K this = 0 := ⟨hthis1, hthis2⟩
  refine Met.ofW (cc := cX11_shut) (maxL := 2) (ret := (some .boolean)) (by decide) rfl ?_
  intro p e s m args below meth c s₁ B9 hml hv9
  obtain ⟨rfl, hsz, hP, hK, hD0, hN⟩ := hv9
  have hx := B9.exec
  have hb := B9.bytes
  have hr := B9.returns
  have hts := atoms_spec (ws := .code yX11_shut cX11_shut 2 (some .boolean) :: TBg) B9.pre
  have ht : ∀ w ∈ TBg, w.before _ s = true := fun w h => hts w (List.mem_cons_of_mem _ h)
  have hown : s.vm.findClass RX11 = some m.cls := findClass_of_methodNamed B9.named
  have hlocks := B9.notSynchronized
  subst hsz
  have hD := hD0.self (sz := s.heap.size)
  generalize hAe : va_A (WC cy L K R I J E B) s.heap.size = A at hD ⊢
  have hA : ∀ q : Nat, s.heap.size ≤ q → A q := fun q h => by rw [← hAe]; exact Or.inr h
  have hS : va_S A s.heap s.heap [] := va_S.rf
  have hl := lv_entry ([.ref this, .int n]) (n := 2) (Nat.le_of_ble_eq_true rfl)
  rw [lg_entry_eq]
  generalize (lg_sl ([.ref this, .int n]) ++ List.replicate (2 - (lg_sl ([.ref this, .int n])).length) Slot.unset).toArray = ls at hl ⊢
  have hl : lv_has ls 2 [(0, .ref this), (1, .int n)] := hl
  have z0 : (0 : Int32).toInt = 0 := by decide
  have z1 : (1 : Int32).toInt = 1 := by decide
  have hC_0 : FI [(7, 2)] K I I := FI.rf
  refine lv_aload_n hx hb dX11_shut_0 rfl (lv_at hl 0 rfl) ?_
  refine cg_0_2_11 hx hb ht hown hK hN hP hthis.1 hthis.2 dX11_shut_1 ?_
  have hm_1 : (R this 2) ∈ L ∧ K (R this 2) = 1 := RT.o hRT hthis.1 hthis.2 2 (by decide)
  refine lv_iload_n hx hb dX11_shut_4 rfl (lv_at hl 1 rfl) ?_
  have hFc := fr_new hS hA
  refine va_calli (va_runV (As := [.int n]) (rest := []) ⟨hx, hb, hml, hown, ht⟩ (c_hasLock l G cy _ L K R T I E J B (R this 2) n hRT hI hE hm_1.1 hm_1.2) (cwV 1 ht (gv k_538 k_485 k_486 k_461 k_483) rfl rfl rfl (by decide +kernel) ⟨Nat.le_of_ble_eq_true rfl, Nat.le_of_ble_eq_true rfl⟩) ⟨En.blind, cr_1 hK hP hm_1.1 hm_1.2, fun U hU hW => ⟨rfl, En.of hU hW hP hK hD hN⟩⟩ rfl rfl hl.1 rfl (lv_room (Nat.le_of_ble_eq_true rfl)) dX11_shut_5 ⟨Nat.le_of_ble_eq_true rfl, Nat.le_of_ble_eq_true rfl⟩) hS (fun q _ h => hFc q h) hFc (fun r_u_2 u_2 t9 H locs ht9 hvm hw hB hz1 hk1 hS => ?_)
  have hP := fr_keep hP hk1
  have wu_2 := hw
  clear hFc hk1 hz1 hB hw
  refine lv_if_eq (tgt := 25) hx hb dX11_shut_8 (by decide) (fun c_3 => ?_) (fun c_3 => ?_)
  · have q_4 : r_u_2.toInt = (0 : Int32).toInt := (ow_eq _ _).mp c_3
    refine lv_iconst (v := 0) hx hb dX11_shut_25 (by decide) ?_
    refine W.widen (k := 0) (n := 0) (Nat.le_of_ble_eq_true rfl) (Nat.le_of_ble_eq_true rfl) ?_
    exact W.zret (v := 0) hx hb hr rfl (fun t ht9 hW => ⟨⟨0, (I, J, E, B), rfl, ⟨hI, hE, hC_0, (by omega)⟩, ⟨by rw [ht9]; exact hP, hD⟩⟩, hS.F ht9⟩) hS.2.2 dX11_shut_26
  · have q_5 : ¬ r_u_2.toInt = (0 : Int32).toInt := by have := (not_congr (ow_eq _ _)).mp c_3; omega
    refine lv_aload_n hx hb dX11_shut_11 rfl (lv_at hl 0 rfl) ?_
    refine cg_0_6_11 hx hb ht hown hK hN hP hthis.1 hthis.2 dX11_shut_12 ?_
    have hm_6 : (R this 6) ∈ L ∧ K (R this 6) = 7 := RT.o hRT hthis.1 hthis.2 6 (by decide)
    refine cg_7_2_11 hx hb ht hown hK hN hP hm_6.1 hm_6.2 dX11_shut_15 ?_
    refine lv_iload_n hx hb dX11_shut_18 rfl (lv_at hl 1 rfl) ?_
    refine lv_ishr hx hb dX11_shut_19 ?_
    refine lv_topi (fun v_7 ev_7 => ?_)
    refine lv_iconst (v := 1) hx hb dX11_shut_20 (by decide) ?_
    refine lv_iand hx hb dX11_shut_21 ?_
    refine lv_topi (fun v_8 ev_8 => ?_)
    have q_9 : 0 ≤ v_8.toInt ∧ v_8.toInt ≤ 1 := by rw [ev_8]; exact ow_and1 _
    refine lv_if_ne (tgt := 27) hx hb dX11_shut_22 (by decide) (fun c_10 => ?_) (fun c_10 => ?_)
    · have q_11 : ¬ v_8.toInt = (0 : Int32).toInt := by have := (not_congr (ow_eq _ _)).mp c_10; omega
      refine lv_aload_n hx hb dX11_shut_27 rfl (lv_at hl 0 rfl) ?_
      refine cg_0_6_11 hx hb ht hown hK hN hP hthis.1 hthis.2 dX11_shut_28 ?_
      refine lv_dup hx hb dX11_shut_31 rfl ?_
      refine cg_7_2_11 hx hb ht hown hK hN hP hm_6.1 hm_6.2 dX11_shut_32 ?_
      refine lv_iconst (v := 1) hx hb dX11_shut_35 (by decide) ?_
      refine lv_iload_n hx hb dX11_shut_36 rfl (lv_at hl 1 rfl) ?_
      refine lv_ishl hx hb dX11_shut_37 ?_
      refine lv_topi (fun v_12 ev_12 => ?_)
      refine lv_iconst (v := (-1)) hx hb dX11_shut_38 (by decide) ?_
      refine lv_ixor hx hb dX11_shut_39 ?_
      refine lv_topi (fun v_13 ev_13 => ?_)
      refine lv_iand hx hb dX11_shut_40 ?_
      refine lv_topi (fun v_14 ev_14 => ?_)
      refine cp_7_2_11 hx hb ht hown hK hN hP hD hS hm_6.1 hm_6.2 dX11_shut_41 (fun H locs hP hD hS => ?_)
      replace hI := IV.up hI hm_6.2 2 (ow_any v_14)
      have f_15 : FI [(7, 2)] K I (va_up I (R this 6) (va_up (I (R this 6)) 2 v_14)) := FI.up hm_6.2 2 v_14
      have e_16 : (va_up I (R this 6) (va_up (I (R this 6)) 2 v_14)) (R this 6) 2 = v_14 := FI.at I (R this 6) 2 v_14
      replace hC_0 := FI.tr hC_0 f_15 (by decide)
      generalize (va_up I (R this 6) (va_up (I (R this 6)) 2 v_14)) = I_17 at hP hD hI f_15 e_16 hC_0
      refine lv_iconst (v := 1) hx hb dX11_shut_44 (by decide) ?_
      refine W.widen (k := 0) (n := 0) (Nat.le_of_ble_eq_true rfl) (Nat.le_of_ble_eq_true rfl) ?_
      exact W.zret (v := 1) hx hb hr rfl (fun t ht9 hW => ⟨⟨1, (I_17, J, E, B), rfl, ⟨hI, hE, hC_0, (by omega)⟩, ⟨by rw [ht9]; exact hP, hD⟩⟩, hS.F ht9⟩) hS.2.2 dX11_shut_45
    · have q_18 : v_8.toInt = (0 : Int32).toInt := (ow_eq _ _).mp c_10
      refine lv_iconst (v := 0) hx hb dX11_shut_25 (by decide) ?_
      refine W.widen (k := 0) (n := 0) (Nat.le_of_ble_eq_true rfl) (Nat.le_of_ble_eq_true rfl) ?_
      exact W.zret (v := 0) hx hb hr rfl (fun t ht9 hW => ⟨⟨0, (I, J, E, B), rfl, ⟨hI, hE, hC_0, (by omega)⟩, ⟨by rw [ht9]; exact hP, hD⟩⟩, hS.F ht9⟩) hS.2.2 dX11_shut_26
set_option maxHeartbeats 4000000 in
set_option maxRecDepth 100000 in
theorem x_night (l : Launch) (G : va_G) (cy : Nat → ClassId) (sz : Nat) (L : List Nat) (K : Nat → Nat) (R : Nat → Nat → Nat) (T : Int) (I E : Nat → Nat → Int32) (J B : Nat → Nat → Int64) (this : Nat) (n : Int32) (hRT : RT L K R) (hI : IV T L K I) (hE : EV L K E) (hthis1 : this ∈ L) (hthis2 : K this = 0) (h_n : 0 ≤ n.toInt ∧ n.toInt ≤ 1) : Met l yX11_night (.code yX11_night cX11_night 3 (some .boolean) :: TBg) ({ frames := 1, cells := 0, slots := 0, locals := 64 }) (va_Pc [.ref this, .int n] (En G cy (WC cy L K R I J E B) sz)) (va_Qi (fun (r : Int32) (u : (Nat → Nat → Int32) × (Nat → Nat → Int64) × (Nat → Nat → Int32) × (Nat → Nat → Int64)) => IV T L K u.1 ∧ EV L K u.2.2.1 ∧ FI [(7, 1)] K I u.1 ∧ ((r.toInt = 0 ∨ r.toInt = 1))) (fun u t => Ex G (va_A (WC cy L K R I J E B) sz) (WC cy L K R u.1 u.2.1 u.2.2.1 u.2.2.2) t) (va_A (WC cy L K R I J E B) sz)) 0 0 (va_A (WC cy L K R I J E B) sz) := by
  have hthis : this ∈ L ∧ K this = 0 := ⟨hthis1, hthis2⟩
  refine Met.ofW (cc := cX11_night) (maxL := 3) (ret := (some .boolean)) (by decide) rfl ?_
  intro p e s m args below meth c s₁ B9 hml hv9
  obtain ⟨rfl, hsz, hP, hK, hD0, hN⟩ := hv9
  have hx := B9.exec
  have hb := B9.bytes
  have hr := B9.returns
  have hts := atoms_spec (ws := .code yX11_night cX11_night 3 (some .boolean) :: TBg) B9.pre
  have ht : ∀ w ∈ TBg, w.before _ s = true := fun w h => hts w (List.mem_cons_of_mem _ h)
  have hown : s.vm.findClass RX11 = some m.cls := findClass_of_methodNamed B9.named
  have hlocks := B9.notSynchronized
  subst hsz
  have hD := hD0.self (sz := s.heap.size)
  generalize hAe : va_A (WC cy L K R I J E B) s.heap.size = A at hD ⊢
  have hA : ∀ q : Nat, s.heap.size ≤ q → A q := fun q h => by rw [← hAe]; exact Or.inr h
  have hS : va_S A s.heap s.heap [] := va_S.rf
  have hl := lv_entry ([.ref this, .int n]) (n := 3) (Nat.le_of_ble_eq_true rfl)
  rw [lg_entry_eq]
  generalize (lg_sl ([.ref this, .int n]) ++ List.replicate (3 - (lg_sl ([.ref this, .int n])).length) Slot.unset).toArray = ls at hl ⊢
  have hl : lv_has ls 3 [(0, .ref this), (1, .int n)] := hl
  have z0 : (0 : Int32).toInt = 0 := by decide
  have z1 : (1 : Int32).toInt = 1 := by decide
  have hC_0 : FI [(7, 1)] K I I := FI.rf
  refine lv_aload_n hx hb dX11_night_0 rfl (lv_at hl 0 rfl) ?_
  refine cg_0_6_11 hx hb ht hown hK hN hP hthis.1 hthis.2 dX11_night_1 ?_
  have hm_1 : (R this 6) ∈ L ∧ K (R this 6) = 7 := RT.o hRT hthis.1 hthis.2 6 (by decide)
  refine cg_7_1_11 hx hb ht hown hK hN hP hm_1.1 hm_1.2 dX11_night_4 ?_
  have q_2 : 0 ≤ (I (R this 6) 1).toInt ∧ (I (R this 6) 1).toInt ≤ 1 := IV.rd hI hm_1.1 hm_1.2 1
  refine lv_iload_n hx hb dX11_night_7 rfl (lv_at hl 1 rfl) ?_
  refine lv_icmp_eq (tgt := 15) hx hb dX11_night_8 (by decide) (fun c_3 => ?_) (fun c_3 => ?_)
  · have q_4 : (I (R this 6) 1).toInt = n.toInt := (ow_eq _ _).mp c_3
    refine lv_iconst (v := 0) hx hb dX11_night_15 (by decide) ?_
    refine lv_istore_n (lv' := [(2, .int 0), (0, .ref this), (1, .int n)]) hx hb dX11_night_16 rfl hl (by decide) rfl (fun ls hl => ?_)
    refine lv_aload_n hx hb dX11_night_17 rfl (lv_at hl 1 rfl) ?_
    refine cg_0_6_11 hx hb ht hown hK hN hP hthis.1 hthis.2 dX11_night_18 ?_
    refine lv_iload_n hx hb dX11_night_21 rfl (lv_at hl 2 rfl) ?_
    refine cp_7_1_11 (by omega) hx hb ht hown hK hN hP hD hS hm_1.1 hm_1.2 dX11_night_22 (fun H locs hP hD hS => ?_)
    replace hI := IV.up hI hm_1.2 1 (show 0 ≤ n.toInt ∧ n.toInt ≤ 1 from by omega)
    have f_5 : FI [(7, 1)] K I (va_up I (R this 6) (va_up (I (R this 6)) 1 n)) := FI.up hm_1.2 1 n
    have e_6 : (va_up I (R this 6) (va_up (I (R this 6)) 1 n)) (R this 6) 1 = n := FI.at I (R this 6) 1 n
    replace hC_0 := FI.tr hC_0 f_5 (by decide)
    generalize (va_up I (R this 6) (va_up (I (R this 6)) 1 n)) = I_7 at hP hD hI f_5 e_6 hC_0
    refine lv_iload_n hx hb dX11_night_25 rfl (lv_at hl 0 rfl) ?_
    refine W.widen (k := 0) (n := 0) (Nat.le_of_ble_eq_true rfl) (Nat.le_of_ble_eq_true rfl) ?_
    exact W.zret (v := 0) hx hb hr rfl (fun t ht9 hW => ⟨⟨0, (I_7, J, E, B), rfl, ⟨hI, hE, hC_0, (by omega)⟩, ⟨by rw [ht9]; exact hP, hD⟩⟩, hS.F ht9⟩) hS.2.2 dX11_night_26
  · have q_8 : ¬ (I (R this 6) 1).toInt = n.toInt := by have := (not_congr (ow_eq _ _)).mp c_3; omega
    refine lv_iconst (v := 1) hx hb dX11_night_11 (by decide) ?_
    refine lv_goto (tgt := 16) hx hb dX11_night_12 (by decide) ?_
    refine lv_istore_n (lv' := [(2, .int 1), (0, .ref this), (1, .int n)]) hx hb dX11_night_16 rfl hl (by decide) rfl (fun ls hl => ?_)
    refine lv_aload_n hx hb dX11_night_17 rfl (lv_at hl 1 rfl) ?_
    refine cg_0_6_11 hx hb ht hown hK hN hP hthis.1 hthis.2 dX11_night_18 ?_
    refine lv_iload_n hx hb dX11_night_21 rfl (lv_at hl 2 rfl) ?_
    refine cp_7_1_11 (by omega) hx hb ht hown hK hN hP hD hS hm_1.1 hm_1.2 dX11_night_22 (fun H locs hP hD hS => ?_)
    replace hI := IV.up hI hm_1.2 1 (show 0 ≤ n.toInt ∧ n.toInt ≤ 1 from by omega)
    have f_9 : FI [(7, 1)] K I (va_up I (R this 6) (va_up (I (R this 6)) 1 n)) := FI.up hm_1.2 1 n
    have e_10 : (va_up I (R this 6) (va_up (I (R this 6)) 1 n)) (R this 6) 1 = n := FI.at I (R this 6) 1 n
    replace hC_0 := FI.tr hC_0 f_9 (by decide)
    generalize (va_up I (R this 6) (va_up (I (R this 6)) 1 n)) = I_11 at hP hD hI f_9 e_10 hC_0
    refine lv_iload_n hx hb dX11_night_25 rfl (lv_at hl 0 rfl) ?_
    refine W.widen (k := 0) (n := 0) (Nat.le_of_ble_eq_true rfl) (Nat.le_of_ble_eq_true rfl) ?_
    exact W.zret (v := 1) hx hb hr rfl (fun t ht9 hW => ⟨⟨1, (I_11, J, E, B), rfl, ⟨hI, hE, hC_0, (by omega)⟩, ⟨by rw [ht9]; exact hP, hD⟩⟩, hS.F ht9⟩) hS.2.2 dX11_night_26
set_option maxHeartbeats 4000000 in
set_option maxRecDepth 100000 in
theorem x_lock (l : Launch) (G : va_G) (cy : Nat → ClassId) (sz : Nat) (L : List Nat) (K : Nat → Nat) (R : Nat → Nat → Nat) (T : Int) (I E : Nat → Nat → Int32) (J B : Nat → Nat → Int64) (this : Nat) (n : Int32) (n2 : Int32) (hRT : RT L K R) (hI : IV T L K I) (hE : EV L K E) (hthis1 : this ∈ L) (hthis2 : K this = 0) : Met l yX11_lock (.code yX11_lock cX11_lock 3 (some .int) :: TBg) ({ frames := 3, cells := 0, slots := 0, locals := 192 }) (va_Pc [.ref this, .int n, .int n2] (En G cy (WC cy L K R I J E B) sz)) (va_Qi (fun (r : Int32) (_ : Unit) => True) (fun _ _ => True) (va_A [] sz)) 0 0 (va_A [] sz) := by
  have hthis : this ∈ L ∧ K this = 0 := ⟨hthis1, hthis2⟩
  refine Met.ofW (cc := cX11_lock) (maxL := 3) (ret := (some .int)) (by decide) rfl ?_
  intro p e s m args below meth c s₁ B9 hml hv9
  obtain ⟨rfl, hsz, hP, hK, hD0, hN⟩ := hv9
  have hx := B9.exec
  have hb := B9.bytes
  have hr := B9.returns
  have hts := atoms_spec (ws := .code yX11_lock cX11_lock 3 (some .int) :: TBg) B9.pre
  have ht : ∀ w ∈ TBg, w.before _ s = true := fun w h => hts w (List.mem_cons_of_mem _ h)
  have hown : s.vm.findClass RX11 = some m.cls := findClass_of_methodNamed B9.named
  have hlocks := B9.notSynchronized
  subst hsz
  generalize hAe : va_A [] s.heap.size = A at ⊢
  have hA : ∀ q : Nat, s.heap.size ≤ q → A q := fun q h => by rw [← hAe]; exact Or.inr h
  have hS : va_S A s.heap s.heap [] := va_S.rf
  have hl := lv_entry ([.ref this, .int n, .int n2]) (n := 3) (Nat.le_of_ble_eq_true rfl)
  rw [lg_entry_eq]
  generalize (lg_sl ([.ref this, .int n, .int n2]) ++ List.replicate (3 - (lg_sl ([.ref this, .int n, .int n2])).length) Slot.unset).toArray = ls at hl ⊢
  have hl : lv_has ls 3 [(0, .ref this), (1, .int n), (2, .int n2)] := hl
  have z0 : (-1 : Int32).toInt = -1 := by decide
  have z1 : (0 : Int32).toInt = 0 := by decide
  refine lv_aload_n hx hb dX11_lock_0 rfl (lv_at hl 0 rfl) ?_
  refine cg_0_2_11 hx hb ht hown hK hN hP hthis.1 hthis.2 dX11_lock_1 ?_
  have hm_1 : (R this 2) ∈ L ∧ K (R this 2) = 1 := RT.o hRT hthis.1 hthis.2 2 (by decide)
  refine lv_iload_n hx hb dX11_lock_4 rfl (lv_at hl 1 rfl) ?_
  have hFc := fr_new hS hA
  refine va_calli (va_runV (As := [.int n]) (rest := []) ⟨hx, hb, hml, hown, ht⟩ (c_hasLock l G cy _ L K R T I E J B (R this 2) n hRT hI hE hm_1.1 hm_1.2) (cwV 1 ht (gv k_538 k_485 k_486 k_461 k_483) rfl rfl rfl (by decide +kernel) ⟨Nat.le_of_ble_eq_true rfl, Nat.le_of_ble_eq_true rfl⟩) ⟨En.blind, cr_1 hK hP hm_1.1 hm_1.2, fun U hU hW => ⟨rfl, En.of hU hW hP hK hD0 hN⟩⟩ rfl rfl hl.1 rfl (lv_room (Nat.le_of_ble_eq_true rfl)) dX11_lock_5 ⟨Nat.le_of_ble_eq_true rfl, Nat.le_of_ble_eq_true rfl⟩) hS (fun q _ h => hFc q h) hFc (fun r_u_2 u_2 t9 H locs ht9 hvm hw hB hz1 hk1 hS => ?_)
  have hP := fr_keep hP hk1
  have wu_2 := hw
  clear hFc hk1 hz1 hB hw
  refine lv_if_ne (tgt := 13) hx hb dX11_lock_8 (by decide) (fun c_3 => ?_) (fun c_3 => ?_)
  · have q_4 : ¬ r_u_2.toInt = (0 : Int32).toInt := by have := (not_congr (ow_eq _ _)).mp c_3; omega
    refine lv_iload_n hx hb dX11_lock_13 rfl (lv_at hl 2 rfl) ?_
    by_cases sw_5 : n2.toInt < 0 ∨ 2 < n2.toInt
    · refine lv_tableOut (tgt := 84) hx hb dX11_lock_14 (by omega) (by decide) ?_
      refine lv_iconst (v := (-1)) hx hb dX11_lock_84 (by decide) ?_
      refine W.widen (k := 0) (n := 0) (Nat.le_of_ble_eq_true rfl) (Nat.le_of_ble_eq_true rfl) ?_
      exact W.iret (v := (-1)) hx hb hr (fun t ht9 hW => ⟨⟨(-1), (), rfl, trivial, trivial⟩, hS.F ht9⟩) hS.2.2 dX11_lock_85
    · have h3sw_5 : n2.toInt = 0 ∨ n2.toInt = 1 ∨ n2.toInt = 2 := by omega
      rcases h3sw_5 with h3sw_5 | h3sw_5 | h3sw_5
      · refine ow_top 0 ((ow_eq _ _).mpr (by rw [h3sw_5]; decide)) ?_
        refine lv_tableIn (tgt := 40) hx hb dX11_lock_14 (by decide +kernel) (by decide +kernel) rfl (by decide) ?_
        refine lv_aload_n hx hb dX11_lock_40 rfl (lv_at hl 0 rfl) ?_
        refine cg_0_6_11 hx hb ht hown hK hN hP hthis.1 hthis.2 dX11_lock_41 ?_
        have hm_6 : (R this 6) ∈ L ∧ K (R this 6) = 7 := RT.o hRT hthis.1 hthis.2 6 (by decide)
        refine cg_7_2_11 hx hb ht hown hK hN hP hm_6.1 hm_6.2 dX11_lock_44 ?_
        refine lv_iload_n hx hb dX11_lock_47 rfl (lv_at hl 1 rfl) ?_
        refine lv_ishr hx hb dX11_lock_48 ?_
        refine lv_topi (fun v_7 ev_7 => ?_)
        refine lv_iconst (v := 1) hx hb dX11_lock_49 (by decide) ?_
        refine lv_iand hx hb dX11_lock_50 ?_
        refine lv_topi (fun v_8 ev_8 => ?_)
        have q_9 : 0 ≤ v_8.toInt ∧ v_8.toInt ≤ 1 := by rw [ev_8]; exact ow_and1 _
        refine W.widen (k := 0) (n := 0) (Nat.le_of_ble_eq_true rfl) (Nat.le_of_ble_eq_true rfl) ?_
        exact W.iret (v := v_8) hx hb hr (fun t ht9 hW => ⟨⟨v_8, (), rfl, trivial, trivial⟩, hS.F ht9⟩) hS.2.2 dX11_lock_51
      · refine ow_top 1 ((ow_eq _ _).mpr (by rw [h3sw_5]; decide)) ?_
        refine lv_tableIn (tgt := 52) hx hb dX11_lock_14 (by decide +kernel) (by decide +kernel) rfl (by decide) ?_
        refine lv_aload_n hx hb dX11_lock_52 rfl (lv_at hl 0 rfl) ?_
        refine cg_0_6_11 hx hb ht hown hK hN hP hthis.1 hthis.2 dX11_lock_53 ?_
        have hm_10 : (R this 6) ∈ L ∧ K (R this 6) = 7 := RT.o hRT hthis.1 hthis.2 6 (by decide)
        refine cg_7_3_11 hx hb ht hown hK hN hP hm_10.1 hm_10.2 dX11_lock_56 ?_
        have hm_11 : (R (R this 6) 3) ∈ L ∧ K (R (R this 6) 3) = 34 := RT.o hRT hm_10.1 hm_10.2 3 (by decide)
        refine lv_iload_n hx hb dX11_lock_59 rfl (lv_at hl 1 rfl) ?_
        have q_12 : vp_in n 8 := vp_in_iff.mpr ⟨by omega, by omega⟩
        refine cl_34 hx hb hK hP hm_11.1 hm_11.2 q_12 dX11_lock_60 ?_
        refine lv_topi (fun v_13 ev_13 => ?_)
        refine W.widen (k := 0) (n := 0) (Nat.le_of_ble_eq_true rfl) (Nat.le_of_ble_eq_true rfl) ?_
        exact W.iret (v := v_13) hx hb hr (fun t ht9 hW => ⟨⟨v_13, (), rfl, trivial, trivial⟩, hS.F ht9⟩) hS.2.2 dX11_lock_61
      · refine ow_top 2 ((ow_eq _ _).mpr (by rw [h3sw_5]; decide)) ?_
        refine lv_tableIn (tgt := 62) hx hb dX11_lock_14 (by decide +kernel) (by decide +kernel) rfl (by decide) ?_
        refine lv_aload_n hx hb dX11_lock_62 rfl (lv_at hl 0 rfl) ?_
        refine cg_0_2_11 hx hb ht hown hK hN hP hthis.1 hthis.2 dX11_lock_63 ?_
        refine cg_1_4_11 hx hb ht hown hK hN hP hm_1.1 hm_1.2 dX11_lock_66 ?_
        have hm_14 : (R (R this 2) 4) ∈ L ∧ K (R (R this 2) 4) = 32 := RT.o hRT hm_1.1 hm_1.2 4 (by decide)
        refine lv_iload_n hx hb dX11_lock_69 rfl (lv_at hl 1 rfl) ?_
        have q_15 : vp_in n 8 := vp_in_iff.mpr ⟨by omega, by omega⟩
        refine cl_32 hx hb hK hP hm_14.1 hm_14.2 q_15 dX11_lock_70 ?_
        have hm_16 : (R (R (R this 2) 4) (Int32.toNatClampNeg n)) ∈ L ∧ K (R (R (R this 2) 4) (Int32.toNatClampNeg n)) = 5 := RT.a hRT hm_14.1 hm_14.2 (by decide) q_15
        refine lv_aload_n hx hb dX11_lock_71 rfl (lv_at hl 0 rfl) ?_
        refine cg_0_6_11 hx hb ht hown hK hN hP hthis.1 hthis.2 dX11_lock_72 ?_
        have hm_17 : (R this 6) ∈ L ∧ K (R this 6) = 7 := RT.o hRT hthis.1 hthis.2 6 (by decide)
        refine cg_7_3_11 hx hb ht hown hK hN hP hm_17.1 hm_17.2 dX11_lock_75 ?_
        have hm_18 : (R (R this 6) 3) ∈ L ∧ K (R (R this 6) 3) = 34 := RT.o hRT hm_17.1 hm_17.2 3 (by decide)
        refine lv_iload_n hx hb dX11_lock_78 rfl (lv_at hl 1 rfl) ?_
        have q_19 : vp_in n 8 := vp_in_iff.mpr ⟨by omega, by omega⟩
        refine cl_34 hx hb hK hP hm_18.1 hm_18.2 q_19 dX11_lock_79 ?_
        refine lv_topi (fun v_20 ev_20 => ?_)
        have hFc := fr_new hS hA
        refine va_calli (va_runV (As := [.int v_20]) (rest := []) ⟨hx, hb, hml, hown, ht⟩ (c_nearWorn l G cy _ L K R T I E J B (R (R (R this 2) 4) (Int32.toNatClampNeg n)) v_20 hRT hI hE hm_16.1 hm_16.2) (cwV 1 ht (gv k_570 k_435 k_436 k_437 k_433) rfl rfl rfl (by decide +kernel) ⟨Nat.le_of_ble_eq_true rfl, Nat.le_of_ble_eq_true rfl⟩) ⟨En.blind, cr_5 hK hP hm_16.1 hm_16.2, fun U hU hW => ⟨rfl, En.of hU hW hP hK hD0 hN⟩⟩ rfl rfl hl.1 rfl (lv_room (Nat.le_of_ble_eq_true rfl)) dX11_lock_80 ⟨Nat.le_of_ble_eq_true rfl, Nat.le_of_ble_eq_true rfl⟩) hS (fun q _ h => hFc q h) hFc (fun r_u_21 u_21 t9 H locs ht9 hvm hw hB hz1 hk1 hS => ?_)
        have hP := fr_keep hP hk1
        have wu_21 := hw
        clear hFc hk1 hz1 hB hw
        refine W.widen (k := 0) (n := 0) (Nat.le_of_ble_eq_true rfl) (Nat.le_of_ble_eq_true rfl) ?_
        exact W.iret (v := r_u_21) hx hb hr (fun t ht9 hW => ⟨⟨r_u_21, (), rfl, trivial, trivial⟩, hS.F ht9⟩) hS.2.2 dX11_lock_83
  · have q_22 : r_u_2.toInt = (0 : Int32).toInt := (ow_eq _ _).mp c_3
    refine lv_iconst (v := (-1)) hx hb dX11_lock_11 (by decide) ?_
    refine W.widen (k := 0) (n := 0) (Nat.le_of_ble_eq_true rfl) (Nat.le_of_ble_eq_true rfl) ?_
    exact W.iret (v := (-1)) hx hb hr (fun t ht9 hW => ⟨⟨(-1), (), rfl, trivial, trivial⟩, hS.F ht9⟩) hS.2.2 dX11_lock_12
set_option maxHeartbeats 4000000 in
set_option maxRecDepth 100000 in
theorem x_watch (l : Launch) (G : va_G) (cy : Nat → ClassId) (sz : Nat) (L : List Nat) (K : Nat → Nat) (R : Nat → Nat → Nat) (T : Int) (I E : Nat → Nat → Int32) (J B : Nat → Nat → Int64) (this : Nat) (n : Int32) (n2 : Int32) (n3 : Int32) (hRT : RT L K R) (hI : IV T L K I) (hE : EV L K E) (hthis1 : this ∈ L) (hthis2 : K this = 0) (h_n2 : 0 ≤ n2.toInt ∧ n2.toInt ≤ 1) (h_n3 : 0 ≤ n3.toInt ∧ n3.toInt ≤ 1) : Met l yX11_watch (.code yX11_watch cX11_watch 4 (some .int) :: TBg) ({ frames := 2, cells := 0, slots := 0, locals := 128 }) (va_Pc [.ref this, .int n, .int n2, .int n3] (En G cy (WC cy L K R I J E B) sz)) (va_Qi (fun (r : Int32) (u : (Nat → Nat → Int32) × (Nat → Nat → Int64) × (Nat → Nat → Int32) × (Nat → Nat → Int64)) => IV T L K u.1 ∧ EV L K u.2.2.1 ∧ FI [(8, 5)] K I u.1 ∧ (True)) (fun u t => Ex G (va_A (WC cy L K R I J E B) sz) (WC cy L K R u.1 u.2.1 u.2.2.1 u.2.2.2) t) (va_A (WC cy L K R I J E B) sz)) 0 0 (va_A (WC cy L K R I J E B) sz) := by
  have hthis : this ∈ L ∧ K this = 0 := ⟨hthis1, hthis2⟩
  refine Met.ofW (cc := cX11_watch) (maxL := 4) (ret := (some .int)) (by decide) rfl ?_
  intro p e s m args below meth c s₁ B9 hml hv9
  obtain ⟨rfl, hsz, hP, hK, hD0, hN⟩ := hv9
  have hx := B9.exec
  have hb := B9.bytes
  have hr := B9.returns
  have hts := atoms_spec (ws := .code yX11_watch cX11_watch 4 (some .int) :: TBg) B9.pre
  have ht : ∀ w ∈ TBg, w.before _ s = true := fun w h => hts w (List.mem_cons_of_mem _ h)
  have hown : s.vm.findClass RX11 = some m.cls := findClass_of_methodNamed B9.named
  have hlocks := B9.notSynchronized
  subst hsz
  have hD := hD0.self (sz := s.heap.size)
  generalize hAe : va_A (WC cy L K R I J E B) s.heap.size = A at hD ⊢
  have hA : ∀ q : Nat, s.heap.size ≤ q → A q := fun q h => by rw [← hAe]; exact Or.inr h
  have hS : va_S A s.heap s.heap [] := va_S.rf
  have hl := lv_entry ([.ref this, .int n, .int n2, .int n3]) (n := 4) (Nat.le_of_ble_eq_true rfl)
  rw [lg_entry_eq]
  generalize (lg_sl ([.ref this, .int n, .int n2, .int n3]) ++ List.replicate (4 - (lg_sl ([.ref this, .int n, .int n2, .int n3])).length) Slot.unset).toArray = ls at hl ⊢
  have hl : lv_has ls 4 [(0, .ref this), (1, .int n), (2, .int n2), (3, .int n3)] := hl
  have z0 : (-1 : Int32).toInt = -1 := by decide
  have z1 : (0 : Int32).toInt = 0 := by decide
  have hC_0 : FI [(8, 5)] K I I := FI.rf
  refine lv_aload_n hx hb dX11_watch_0 rfl (lv_at hl 0 rfl) ?_
  refine cg_0_2_11 hx hb ht hown hK hN hP hthis.1 hthis.2 dX11_watch_1 ?_
  have hm_1 : (R this 2) ∈ L ∧ K (R this 2) = 1 := RT.o hRT hthis.1 hthis.2 2 (by decide)
  refine lv_iload_n hx hb dX11_watch_4 rfl (lv_at hl 1 rfl) ?_
  have hFc := fr_new hS hA
  refine va_calli (va_runV (As := [.int n]) (rest := []) ⟨hx, hb, hml, hown, ht⟩ (c_hasLock l G cy _ L K R T I E J B (R this 2) n hRT hI hE hm_1.1 hm_1.2) (cwV 1 ht (gv k_538 k_485 k_486 k_461 k_483) rfl rfl rfl (by decide +kernel) ⟨Nat.le_of_ble_eq_true rfl, Nat.le_of_ble_eq_true rfl⟩) ⟨En.blind, cr_1 hK hP hm_1.1 hm_1.2, fun U hU hW => ⟨rfl, En.of hU hW hP hK hD hN⟩⟩ rfl rfl hl.1 rfl (lv_room (Nat.le_of_ble_eq_true rfl)) dX11_watch_5 ⟨Nat.le_of_ble_eq_true rfl, Nat.le_of_ble_eq_true rfl⟩) hS (fun q _ h => hFc q h) hFc (fun r_u_2 u_2 t9 H locs ht9 hvm hw hB hz1 hk1 hS => ?_)
  have hP := fr_keep hP hk1
  have wu_2 := hw
  clear hFc hk1 hz1 hB hw
  refine lv_if_ne (tgt := 13) hx hb dX11_watch_8 (by decide) (fun c_3 => ?_) (fun c_3 => ?_)
  · have q_4 : ¬ r_u_2.toInt = (0 : Int32).toInt := by have := (not_congr (ow_eq _ _)).mp c_3; omega
    refine lv_aload_n hx hb dX11_watch_13 rfl (lv_at hl 0 rfl) ?_
    refine cg_0_9_11 hx hb ht hown hK hN hP hthis.1 hthis.2 dX11_watch_14 ?_
    have hm_5 : (R this 9) ∈ L ∧ K (R this 9) = 8 := RT.o hRT hthis.1 hthis.2 9 (by decide)
    refine lv_iload_n hx hb dX11_watch_17 rfl (lv_at hl 1 rfl) ?_
    refine lv_iload_n hx hb dX11_watch_18 rfl (lv_at hl 2 rfl) ?_
    refine lv_iload_n hx hb dX11_watch_19 rfl (lv_at hl 3 rfl) ?_
    refine lv_aload_n hx hb dX11_watch_20 rfl (lv_at hl 0 rfl) ?_
    refine cg_0_10_11 hx hb ht hown hK hN hP hthis.1 hthis.2 dX11_watch_21 ?_
    have q_6 : T ≤ (I this 10).toInt ∧ (I this 10).toInt ≤ T := IV.rd hI hthis.1 hthis.2 10
    have hFc := fr_free hD hS hA
    refine va_calli (va_runV (As := [.int n, .int n2, .int n3, .int (I this 10)]) (rest := []) ⟨hx, hb, hml, hown, ht⟩ (c_tell l G cy _ L K R T I E J B (R this 9) n n2 n3 (I this 10) hRT hI hE hm_5.1 hm_5.2 (by omega) (by omega)) (cwV 4 ht (gv k_572 k_573 k_574 k_482 k_571) rfl rfl rfl (by decide +kernel) ⟨Nat.le_of_ble_eq_true rfl, Nat.le_of_ble_eq_true rfl⟩) ⟨En.blind, cr_8 hK hP hm_5.1 hm_5.2, fun U hU hW => ⟨rfl, En.of hU hW hP hK hD hN⟩⟩ rfl rfl hl.1 rfl (lv_room (Nat.le_of_ble_eq_true rfl)) dX11_watch_24 ⟨Nat.le_of_ble_eq_true rfl, Nat.le_of_ble_eq_true rfl⟩) hS (fun q _ h => hFc q h) hFc (fun r_u_7 u_7 t9 H locs ht9 hvm hw hB hz1 hk1 hS => ?_)
    obtain ⟨I7, J7, E7, B7⟩ := u_7
    obtain ⟨hP1, hD1⟩ := hB
    rw [ht9] at hP1
    clear hI hE
    obtain ⟨hI, hE, xu_7I, wu_7⟩ := hw
    dsimp only at hI hE xu_7I wu_7
    have hP : va_P G vwCl (WC cy L K R I7 J7 E7 B7) H := hP1
    have hD : va_D A (WC cy L K R I7 J7 E7 B7) := hD1.weaken (fun _ _ _ h => hFc _ h)
    clear hFc hk1 hz1 hP1 hD1
    replace hC_0 := FI.tr hC_0 xu_7I (by decide)
    refine W.widen (k := 0) (n := 0) (Nat.le_of_ble_eq_true rfl) (Nat.le_of_ble_eq_true rfl) ?_
    exact W.iret (v := r_u_7) hx hb hr (fun t ht9 hW => ⟨⟨r_u_7, (I7, J7, E7, B7), rfl, ⟨hI, hE, hC_0, trivial⟩, ⟨by rw [ht9]; exact hP, hD⟩⟩, hS.F ht9⟩) hS.2.2 dX11_watch_27
  · have q_8 : r_u_2.toInt = (0 : Int32).toInt := (ow_eq _ _).mp c_3
    refine lv_iconst (v := (-1)) hx hb dX11_watch_11 (by decide) ?_
    refine W.widen (k := 0) (n := 0) (Nat.le_of_ble_eq_true rfl) (Nat.le_of_ble_eq_true rfl) ?_
    exact W.iret (v := (-1)) hx hb hr (fun t ht9 hW => ⟨⟨(-1), (I, J, E, B), rfl, ⟨hI, hE, hC_0, trivial⟩, ⟨by rw [ht9]; exact hP, hD⟩⟩, hS.F ht9⟩) hS.2.2 dX11_watch_12
set_option maxHeartbeats 4000000 in
set_option maxRecDepth 100000 in
theorem x_untell (l : Launch) (G : va_G) (cy : Nat → ClassId) (sz : Nat) (L : List Nat) (K : Nat → Nat) (R : Nat → Nat → Nat) (T : Int) (I E : Nat → Nat → Int32) (J B : Nat → Nat → Int64) (this : Nat) (n : Int32) (hRT : RT L K R) (hI : IV T L K I) (hE : EV L K E) (hthis1 : this ∈ L) (hthis2 : K this = 0) : Met l yX11_untell (.code yX11_untell cX11_untell 2 (some .boolean) :: TBg) ({ frames := 2, cells := 0, slots := 0, locals := 128 }) (va_Pc [.ref this, .int n] (En G cy (WC cy L K R I J E B) sz)) (va_Qi (fun (r : Int32) (u : (Nat → Nat → Int32) × (Nat → Nat → Int64) × (Nat → Nat → Int32) × (Nat → Nat → Int64)) => IV T L K u.1 ∧ EV L K u.2.2.1 ∧ FI [] K I u.1 ∧ ((r.toInt = 0 ∨ r.toInt = 1))) (fun u t => Ex G (va_A (WC cy L K R I J E B) sz) (WC cy L K R u.1 u.2.1 u.2.2.1 u.2.2.2) t) (va_A (WC cy L K R I J E B) sz)) 0 0 (va_A (WC cy L K R I J E B) sz) := by
  have hthis : this ∈ L ∧ K this = 0 := ⟨hthis1, hthis2⟩
  refine Met.ofW (cc := cX11_untell) (maxL := 2) (ret := (some .boolean)) (by decide) rfl ?_
  intro p e s m args below meth c s₁ B9 hml hv9
  obtain ⟨rfl, hsz, hP, hK, hD0, hN⟩ := hv9
  have hx := B9.exec
  have hb := B9.bytes
  have hr := B9.returns
  have hts := atoms_spec (ws := .code yX11_untell cX11_untell 2 (some .boolean) :: TBg) B9.pre
  have ht : ∀ w ∈ TBg, w.before _ s = true := fun w h => hts w (List.mem_cons_of_mem _ h)
  have hown : s.vm.findClass RX11 = some m.cls := findClass_of_methodNamed B9.named
  have hlocks := B9.notSynchronized
  subst hsz
  have hD := hD0.self (sz := s.heap.size)
  generalize hAe : va_A (WC cy L K R I J E B) s.heap.size = A at hD ⊢
  have hA : ∀ q : Nat, s.heap.size ≤ q → A q := fun q h => by rw [← hAe]; exact Or.inr h
  have hS : va_S A s.heap s.heap [] := va_S.rf
  have hl := lv_entry ([.ref this, .int n]) (n := 2) (Nat.le_of_ble_eq_true rfl)
  rw [lg_entry_eq]
  generalize (lg_sl ([.ref this, .int n]) ++ List.replicate (2 - (lg_sl ([.ref this, .int n])).length) Slot.unset).toArray = ls at hl ⊢
  have hl : lv_has ls 2 [(0, .ref this), (1, .int n)] := hl
  have hC_0 : FI [] K I I := FI.rf
  refine lv_aload_n hx hb dX11_untell_0 rfl (lv_at hl 0 rfl) ?_
  refine cg_0_9_11 hx hb ht hown hK hN hP hthis.1 hthis.2 dX11_untell_1 ?_
  have hm_1 : (R this 9) ∈ L ∧ K (R this 9) = 8 := RT.o hRT hthis.1 hthis.2 9 (by decide)
  refine lv_iload_n hx hb dX11_untell_4 rfl (lv_at hl 1 rfl) ?_
  refine lv_aload_n hx hb dX11_untell_5 rfl (lv_at hl 0 rfl) ?_
  refine cg_0_10_11 hx hb ht hown hK hN hP hthis.1 hthis.2 dX11_untell_6 ?_
  have q_2 : T ≤ (I this 10).toInt ∧ (I this 10).toInt ≤ T := IV.rd hI hthis.1 hthis.2 10
  have hFc := fr_free hD hS hA
  refine va_calli (va_runV (As := [.int n, .int (I this 10)]) (rest := []) ⟨hx, hb, hml, hown, ht⟩ (c_takeBack l G cy _ L K R T I E J B (R this 9) n (I this 10) hRT hI hE hm_1.1 hm_1.2) (cwV 2 ht (gv k_576 k_577 k_578 k_482 k_575) rfl rfl rfl (by decide +kernel) ⟨Nat.le_of_ble_eq_true rfl, Nat.le_of_ble_eq_true rfl⟩) ⟨En.blind, cr_8 hK hP hm_1.1 hm_1.2, fun U hU hW => ⟨rfl, En.of hU hW hP hK hD hN⟩⟩ rfl rfl hl.1 rfl (lv_room (Nat.le_of_ble_eq_true rfl)) dX11_untell_9 ⟨Nat.le_of_ble_eq_true rfl, Nat.le_of_ble_eq_true rfl⟩) hS (fun q _ h => hFc q h) hFc (fun r_u_3 u_3 t9 H locs ht9 hvm hw hB hz1 hk1 hS => ?_)
  obtain ⟨I3, J3, E3, B3⟩ := u_3
  obtain ⟨hP1, hD1⟩ := hB
  rw [ht9] at hP1
  clear hI hE
  obtain ⟨hI, hE, xu_3I, wu_3⟩ := hw
  dsimp only at hI hE xu_3I wu_3
  have hP : va_P G vwCl (WC cy L K R I3 J3 E3 B3) H := hP1
  have hD : va_D A (WC cy L K R I3 J3 E3 B3) := hD1.weaken (fun _ _ _ h => hFc _ h)
  clear hFc hk1 hz1 hP1 hD1
  replace hC_0 := FI.tr hC_0 xu_3I (by decide)
  refine W.widen (k := 0) (n := 0) (Nat.le_of_ble_eq_true rfl) (Nat.le_of_ble_eq_true rfl) ?_
  exact W.zret (v := r_u_3) hx hb hr (ow_nb (by omega)) (fun t ht9 hW => ⟨⟨r_u_3, (I3, J3, E3, B3), rfl, ⟨hI, hE, hC_0, (by omega)⟩, ⟨by rw [ht9]; exact hP, hD⟩⟩, hS.F ht9⟩) hS.2.2 dX11_untell_12
set_option maxHeartbeats 4000000 in
set_option maxRecDepth 100000 in
theorem x_later (l : Launch) (G : va_G) (cy : Nat → ClassId) (sz : Nat) (L : List Nat) (K : Nat → Nat) (R : Nat → Nat → Nat) (T : Int) (I E : Nat → Nat → Int32) (J B : Nat → Nat → Int64) (this : Nat) (n : Int32) (hRT : RT L K R) (hI : IV T L K I) (hE : EV L K E) (hUX : ∀ z, K z = 0 → z = this) (hT : 0 ≤ T ∧ T ≤ 100000) (hthis1 : this ∈ L) (hthis2 : K this = 0) : Met l yX11_later (.code yX11_later cX11_later 2 (some .int) :: TBg) ({ frames := 1, cells := 0, slots := 0, locals := 64 }) (va_Pc [.ref this, .int n] (En G cy (WC cy L K R I J E B) sz)) (va_Qi (fun (r : Int32) (u : (Nat → Nat → Int32) × (Nat → Nat → Int64) × (Nat → Nat → Int32) × (Nat → Nat → Int64)) => IV (spT T n.toInt) L K u.1 ∧ EV L K u.2.2.1 ∧ FI [(0, 10)] K I u.1 ∧ ((r.toInt = spR T n.toInt))) (fun u t => Ex G (va_A (WC cy L K R I J E B) sz) (WC cy L K R u.1 u.2.1 u.2.2.1 u.2.2.2) t) (va_A (WC cy L K R I J E B) sz)) 0 0 (va_A (WC cy L K R I J E B) sz) := by
  have hthis : this ∈ L ∧ K this = 0 := ⟨hthis1, hthis2⟩
  refine Met.ofW (cc := cX11_later) (maxL := 2) (ret := (some .int)) (by decide) rfl ?_
  intro p e s m args below meth c s₁ B9 hml hv9
  obtain ⟨rfl, hsz, hP, hK, hD0, hN⟩ := hv9
  have hx := B9.exec
  have hb := B9.bytes
  have hr := B9.returns
  have hts := atoms_spec (ws := .code yX11_later cX11_later 2 (some .int) :: TBg) B9.pre
  have ht : ∀ w ∈ TBg, w.before _ s = true := fun w h => hts w (List.mem_cons_of_mem _ h)
  have hown : s.vm.findClass RX11 = some m.cls := findClass_of_methodNamed B9.named
  have hlocks := B9.notSynchronized
  subst hsz
  have hD := hD0.self (sz := s.heap.size)
  generalize hAe : va_A (WC cy L K R I J E B) s.heap.size = A at hD ⊢
  have hA : ∀ q : Nat, s.heap.size ≤ q → A q := fun q h => by rw [← hAe]; exact Or.inr h
  have hS : va_S A s.heap s.heap [] := va_S.rf
  have hl := lv_entry ([.ref this, .int n]) (n := 2) (Nat.le_of_ble_eq_true rfl)
  rw [lg_entry_eq]
  generalize (lg_sl ([.ref this, .int n]) ++ List.replicate (2 - (lg_sl ([.ref this, .int n])).length) Slot.unset).toArray = ls at hl ⊢
  have hl : lv_has ls 2 [(0, .ref this), (1, .int n)] := hl
  have z0 : (-1 : Int32).toInt = -1 := by decide
  have z1 : (0 : Int32).toInt = 0 := by decide
  have z2 : (1000 : Int32).toInt = 1000 := by decide
  have z3 : (100000 : Int32).toInt = 100000 := by decide
  have hC_0 : FI [(0, 10)] K I I := FI.rf
  refine lv_iload_n hx hb dX11_later_0 rfl (lv_at hl 1 rfl) ?_
  refine lv_if_lt (tgt := 23) hx hb dX11_later_1 (by decide) (fun c_1 => ?_) (fun c_1 => ?_)
  · have q_2 : n.toInt < (0 : Int32).toInt := (ow_lt _ _).mp c_1
    refine lv_iconst (v := (-1)) hx hb dX11_later_23 (by decide) ?_
    refine W.widen (k := 0) (n := 0) (Nat.le_of_ble_eq_true rfl) (Nat.le_of_ble_eq_true rfl) ?_
    replace hI : IV (spT T n.toInt) L K I := by rw [show (spT T n.toInt) = T from by unfold spT; split <;> omega]; exact hI
    exact W.iret (v := (-1)) hx hb hr (fun t ht9 hW => ⟨⟨(-1), (I, J, E, B), rfl, ⟨hI, hE, hC_0, (by unfold spR; split <;> omega)⟩, ⟨by rw [ht9]; exact hP, hD⟩⟩, hS.F ht9⟩) hS.2.2 dX11_later_24
  · have q_3 : (0 : Int32).toInt ≤ n.toInt := by have := (not_congr (ow_lt _ _)).mp c_1; omega
    refine lv_iload_n hx hb dX11_later_4 rfl (lv_at hl 1 rfl) ?_
    refine lv_sipush (v := 1000) hx hb dX11_later_5 (by decide) ?_
    refine lv_icmp_gt (tgt := 23) hx hb dX11_later_8 (by decide) (fun c_4 => ?_) (fun c_4 => ?_)
    · have q_5 : (1000 : Int32).toInt < n.toInt := (ow_lt _ _).mp c_4
      refine lv_iconst (v := (-1)) hx hb dX11_later_23 (by decide) ?_
      refine W.widen (k := 0) (n := 0) (Nat.le_of_ble_eq_true rfl) (Nat.le_of_ble_eq_true rfl) ?_
      replace hI : IV (spT T n.toInt) L K I := by rw [show (spT T n.toInt) = T from by unfold spT; split <;> omega]; exact hI
      exact W.iret (v := (-1)) hx hb hr (fun t ht9 hW => ⟨⟨(-1), (I, J, E, B), rfl, ⟨hI, hE, hC_0, (by unfold spR; split <;> omega)⟩, ⟨by rw [ht9]; exact hP, hD⟩⟩, hS.F ht9⟩) hS.2.2 dX11_later_24
    · have q_6 : n.toInt ≤ (1000 : Int32).toInt := by have := (not_congr (ow_lt _ _)).mp c_4; omega
      refine lv_aload_n hx hb dX11_later_11 rfl (lv_at hl 0 rfl) ?_
      refine cg_0_10_11 hx hb ht hown hK hN hP hthis.1 hthis.2 dX11_later_12 ?_
      have q_7 : T ≤ (I this 10).toInt ∧ (I this 10).toInt ≤ T := IV.rd hI hthis.1 hthis.2 10
      refine lv_iload_n hx hb dX11_later_15 rfl (lv_at hl 1 rfl) ?_
      refine lv_iadd hx hb dX11_later_16 ?_
      refine lv_topi (fun v_8 ev_8 => ?_)
      have q_9 : v_8.toInt = (I this 10).toInt + n.toInt := ow_add ev_8 (by omega) (by omega)
      refine lv_ldcw (v := 100000) hx hb hown (ht _ k_579) dX11_later_17 ?_
      refine lv_icmp_le (tgt := 25) hx hb dX11_later_20 (by decide) (fun c_10 => ?_) (fun c_10 => ?_)
      · have q_11 : v_8.toInt ≤ (100000 : Int32).toInt := (ow_le _ _).mp c_10
        refine lv_aload_n hx hb dX11_later_25 rfl (lv_at hl 0 rfl) ?_
        refine lv_dup hx hb dX11_later_26 rfl ?_
        refine cg_0_10_11 hx hb ht hown hK hN hP hthis.1 hthis.2 dX11_later_27 ?_
        refine lv_iload_n hx hb dX11_later_30 rfl (lv_at hl 1 rfl) ?_
        refine lv_iadd hx hb dX11_later_31 ?_
        refine lv_topi (fun v_12 ev_12 => ?_)
        have q_13 : v_12.toInt = (I this 10).toInt + n.toInt := ow_add ev_12 (by omega) (by omega)
        refine cp_0_10_11 hx hb ht hown hK hN hP hD hS hthis.1 hthis.2 dX11_later_32 (fun H locs hP hD hS => ?_)
        replace hI := IV.time hI hUX hthis.2 v_12
        have f_14 : FI [(0, 10)] K I (va_up I this (va_up (I this) 10 v_12)) := FI.up hthis.2 10 v_12
        have e_15 : (va_up I this (va_up (I this) 10 v_12)) this 10 = v_12 := FI.at I this 10 v_12
        replace hC_0 := FI.tr hC_0 f_14 (by decide)
        generalize (va_up I this (va_up (I this) 10 v_12)) = I_16 at hP hD hI f_14 e_15 hC_0
        refine lv_aload_n hx hb dX11_later_35 rfl (lv_at hl 0 rfl) ?_
        refine cg_0_10_11 hx hb ht hown hK hN hP hthis.1 hthis.2 dX11_later_36 ?_
        refine ow_top v_12 e_15 ?_
        refine W.widen (k := 0) (n := 0) (Nat.le_of_ble_eq_true rfl) (Nat.le_of_ble_eq_true rfl) ?_
        replace hI : IV (spT T n.toInt) L K I_16 := by rw [show (spT T n.toInt) = (v_12.toInt) from by unfold spT; split <;> omega]; exact hI
        exact W.iret (v := v_12) hx hb hr (fun t ht9 hW => ⟨⟨v_12, (I_16, J, E, B), rfl, ⟨hI, hE, hC_0, (by unfold spR; split <;> omega)⟩, ⟨by rw [ht9]; exact hP, hD⟩⟩, hS.F ht9⟩) hS.2.2 dX11_later_39
      · have q_17 : (100000 : Int32).toInt < v_8.toInt := by have := (not_congr (ow_le _ _)).mp c_10; omega
        refine lv_iconst (v := (-1)) hx hb dX11_later_23 (by decide) ?_
        refine W.widen (k := 0) (n := 0) (Nat.le_of_ble_eq_true rfl) (Nat.le_of_ble_eq_true rfl) ?_
        replace hI : IV (spT T n.toInt) L K I := by rw [show (spT T n.toInt) = T from by unfold spT; split <;> omega]; exact hI
        exact W.iret (v := (-1)) hx hb hr (fun t ht9 hW => ⟨⟨(-1), (I, J, E, B), rfl, ⟨hI, hE, hC_0, (by unfold spR; split <;> omega)⟩, ⟨by rw [ht9]; exact hP, hD⟩⟩, hS.F ht9⟩) hS.2.2 dX11_later_24
set_option maxHeartbeats 4000000 in
set_option maxRecDepth 100000 in
theorem x_left (l : Launch) (G : va_G) (cy : Nat → ClassId) (sz : Nat) (L : List Nat) (K : Nat → Nat) (R : Nat → Nat → Nat) (T : Int) (I E : Nat → Nat → Int32) (J B : Nat → Nat → Int64) (this : Nat) (n : Int32) (hRT : RT L K R) (hI : IV T L K I) (hE : EV L K E) (hthis1 : this ∈ L) (hthis2 : K this = 0) : Met l yX11_left (.code yX11_left cX11_left 2 (some .int) :: TBg) ({ frames := 3, cells := 0, slots := 0, locals := 192 }) (va_Pc [.ref this, .int n] (En G cy (WC cy L K R I J E B) sz)) (va_Qi (fun (r : Int32) (_ : Unit) => True) (fun _ _ => True) (va_A [] sz)) 0 0 (va_A [] sz) := by
  have hthis : this ∈ L ∧ K this = 0 := ⟨hthis1, hthis2⟩
  refine Met.ofW (cc := cX11_left) (maxL := 2) (ret := (some .int)) (by decide) rfl ?_
  intro p e s m args below meth c s₁ B9 hml hv9
  obtain ⟨rfl, hsz, hP, hK, hD0, hN⟩ := hv9
  have hx := B9.exec
  have hb := B9.bytes
  have hr := B9.returns
  have hts := atoms_spec (ws := .code yX11_left cX11_left 2 (some .int) :: TBg) B9.pre
  have ht : ∀ w ∈ TBg, w.before _ s = true := fun w h => hts w (List.mem_cons_of_mem _ h)
  have hown : s.vm.findClass RX11 = some m.cls := findClass_of_methodNamed B9.named
  have hlocks := B9.notSynchronized
  subst hsz
  generalize hAe : va_A [] s.heap.size = A at ⊢
  have hA : ∀ q : Nat, s.heap.size ≤ q → A q := fun q h => by rw [← hAe]; exact Or.inr h
  have hS : va_S A s.heap s.heap [] := va_S.rf
  have hl := lv_entry ([.ref this, .int n]) (n := 2) (Nat.le_of_ble_eq_true rfl)
  rw [lg_entry_eq]
  generalize (lg_sl ([.ref this, .int n]) ++ List.replicate (2 - (lg_sl ([.ref this, .int n])).length) Slot.unset).toArray = ls at hl ⊢
  have hl : lv_has ls 2 [(0, .ref this), (1, .int n)] := hl
  refine lv_aload_n hx hb dX11_left_0 rfl (lv_at hl 0 rfl) ?_
  refine cg_0_9_11 hx hb ht hown hK hN hP hthis.1 hthis.2 dX11_left_1 ?_
  have hm_1 : (R this 9) ∈ L ∧ K (R this 9) = 8 := RT.o hRT hthis.1 hthis.2 9 (by decide)
  refine lv_iload_n hx hb dX11_left_4 rfl (lv_at hl 1 rfl) ?_
  refine lv_aload_n hx hb dX11_left_5 rfl (lv_at hl 0 rfl) ?_
  refine cg_0_2_11 hx hb ht hown hK hN hP hthis.1 hthis.2 dX11_left_6 ?_
  have hm_2 : (R this 2) ∈ L ∧ K (R this 2) = 1 := RT.o hRT hthis.1 hthis.2 2 (by decide)
  have hFc := fr_new hS hA
  refine va_calli (va_runV (As := [.int n, .ref (R this 2)]) (rest := []) ⟨hx, hb, hml, hown, ht⟩ (c_leftAt l G cy _ L K R T I E J B (R this 9) n (R this 2) hRT hI hE hm_1.1 hm_1.2 hm_2.1 hm_2.2) (cwV 2 ht (gv k_581 k_582 k_583 k_482 k_580) rfl rfl rfl (by decide +kernel) ⟨Nat.le_of_ble_eq_true rfl, Nat.le_of_ble_eq_true rfl⟩) ⟨En.blind, cr_8 hK hP hm_1.1 hm_1.2, fun U hU hW => ⟨rfl, En.of hU hW hP hK hD0 hN⟩⟩ rfl rfl hl.1 rfl (lv_room (Nat.le_of_ble_eq_true rfl)) dX11_left_9 ⟨Nat.le_of_ble_eq_true rfl, Nat.le_of_ble_eq_true rfl⟩) hS (fun q _ h => hFc q h) hFc (fun r_u_3 u_3 t9 H locs ht9 hvm hw hB hz1 hk1 hS => ?_)
  have hP := fr_keep hP hk1
  have wu_3 := hw
  clear hFc hk1 hz1 hB hw
  refine W.widen (k := 0) (n := 0) (Nat.le_of_ble_eq_true rfl) (Nat.le_of_ble_eq_true rfl) ?_
  exact W.iret (v := r_u_3) hx hb hr (fun t ht9 hW => ⟨⟨r_u_3, (), rfl, trivial, trivial⟩, hS.F ht9⟩) hS.2.2 dX11_left_12
set_option maxHeartbeats 4000000 in
set_option maxRecDepth 100000 in
theorem x_next (l : Launch) (G : va_G) (cy : Nat → ClassId) (sz : Nat) (L : List Nat) (K : Nat → Nat) (R : Nat → Nat → Nat) (T : Int) (I E : Nat → Nat → Int32) (J B : Nat → Nat → Int64) (this : Nat) (n : Int32) (n2 : Int32) (hRT : RT L K R) (hI : IV T L K I) (hE : EV L K E) (hthis1 : this ∈ L) (hthis2 : K this = 0) : Met l yX11_next (.code yX11_next cX11_next 12 (some .int) :: TBg) ({ frames := 3, cells := 0, slots := 0, locals := 192 }) (va_Pc [.ref this, .int n, .int n2] (En G cy (WC cy L K R I J E B) sz)) (va_Qi (fun (r : Int32) (_ : Unit) => True) (fun _ _ => True) (va_A [] sz)) 0 0 (va_A [] sz) := by
  have hthis : this ∈ L ∧ K this = 0 := ⟨hthis1, hthis2⟩
  refine Met.ofW (cc := cX11_next) (maxL := 12) (ret := (some .int)) (by decide) rfl ?_
  intro p e s m args below meth c s₁ B9 hml hv9
  obtain ⟨rfl, hsz, hP, hK, hD0, hN⟩ := hv9
  have hx := B9.exec
  have hb := B9.bytes
  have hr := B9.returns
  have hts := atoms_spec (ws := .code yX11_next cX11_next 12 (some .int) :: TBg) B9.pre
  have ht : ∀ w ∈ TBg, w.before _ s = true := fun w h => hts w (List.mem_cons_of_mem _ h)
  have hown : s.vm.findClass RX11 = some m.cls := findClass_of_methodNamed B9.named
  have hlocks := B9.notSynchronized
  subst hsz
  generalize hAe : va_A [] s.heap.size = A at ⊢
  have hA : ∀ q : Nat, s.heap.size ≤ q → A q := fun q h => by rw [← hAe]; exact Or.inr h
  have hS : va_S A s.heap s.heap [] := va_S.rf
  have hl := lv_entry ([.ref this, .int n, .int n2]) (n := 12) (Nat.le_of_ble_eq_true rfl)
  rw [lg_entry_eq]
  generalize (lg_sl ([.ref this, .int n, .int n2]) ++ List.replicate (12 - (lg_sl ([.ref this, .int n, .int n2])).length) Slot.unset).toArray = ls at hl ⊢
  have hl : lv_has ls 12 [(0, .ref this), (1, .int n), (2, .int n2)] := hl
  have z0 : (-1 : Int32).toInt = -1 := by decide
  have z1 : (0 : Int32).toInt = 0 := by decide
  have z2 : (1 : Int32).toInt = 1 := by decide
  have z3 : (2 : Int32).toInt = 2 := by decide
  refine lv_aload_n hx hb dX11_next_0 rfl (lv_at hl 0 rfl) ?_
  refine cg_0_9_11 hx hb ht hown hK hN hP hthis.1 hthis.2 dX11_next_1 ?_
  have hm_1 : (R this 9) ∈ L ∧ K (R this 9) = 8 := RT.o hRT hthis.1 hthis.2 9 (by decide)
  refine lv_iload_n hx hb dX11_next_4 rfl (lv_at hl 2 rfl) ?_
  refine lv_aload_n hx hb dX11_next_5 rfl (lv_at hl 0 rfl) ?_
  refine cg_0_2_11 hx hb ht hown hK hN hP hthis.1 hthis.2 dX11_next_6 ?_
  have hm_2 : (R this 2) ∈ L ∧ K (R this 2) = 1 := RT.o hRT hthis.1 hthis.2 2 (by decide)
  have hFc := fr_new hS hA
  refine va_calli (va_runV (As := [.int n2, .ref (R this 2)]) (rest := []) ⟨hx, hb, hml, hown, ht⟩ (c_leftAt l G cy _ L K R T I E J B (R this 9) n2 (R this 2) hRT hI hE hm_1.1 hm_1.2 hm_2.1 hm_2.2) (cwV 2 ht (gv k_581 k_582 k_583 k_482 k_580) rfl rfl rfl (by decide +kernel) ⟨Nat.le_of_ble_eq_true rfl, Nat.le_of_ble_eq_true rfl⟩) ⟨En.blind, cr_8 hK hP hm_1.1 hm_1.2, fun U hU hW => ⟨rfl, En.of hU hW hP hK hD0 hN⟩⟩ rfl rfl hl.1 rfl (lv_room (Nat.le_of_ble_eq_true rfl)) dX11_next_9 ⟨Nat.le_of_ble_eq_true rfl, Nat.le_of_ble_eq_true rfl⟩) hS (fun q _ h => hFc q h) hFc (fun r_u_3 u_3 t9 H locs ht9 hvm hw hB hz1 hk1 hS => ?_)
  have hP := fr_keep hP hk1
  have wu_3 := hw
  clear hFc hk1 hz1 hB hw
  refine lv_istore_n (lv' := [(3, .int r_u_3), (0, .ref this), (1, .int n), (2, .int n2)]) hx hb dX11_next_12 rfl hl (by decide) rfl (fun ls hl => ?_)
  refine lv_iload_n hx hb dX11_next_13 rfl (lv_at hl 0 rfl) ?_
  refine lv_if_eq (tgt := 26) hx hb dX11_next_14 (by decide) (fun c_4 => ?_) (fun c_4 => ?_)
  · have q_5 : r_u_3.toInt = (0 : Int32).toInt := (ow_eq _ _).mp c_4
    refine lv_iconst (v := (-1)) hx hb dX11_next_26 (by decide) ?_
    refine W.widen (k := 0) (n := 0) (Nat.le_of_ble_eq_true rfl) (Nat.le_of_ble_eq_true rfl) ?_
    exact W.iret (v := (-1)) hx hb hr (fun t ht9 hW => ⟨⟨(-1), (), rfl, trivial, trivial⟩, hS.F ht9⟩) hS.2.2 dX11_next_27
  · have q_6 : ¬ r_u_3.toInt = (0 : Int32).toInt := by have := (not_congr (ow_eq _ _)).mp c_4; omega
    refine lv_iload_n hx hb dX11_next_17 rfl (lv_at hl 2 rfl) ?_
    refine lv_if_lt (tgt := 26) hx hb dX11_next_18 (by decide) (fun c_7 => ?_) (fun c_7 => ?_)
    · have q_8 : n.toInt < (0 : Int32).toInt := (ow_lt _ _).mp c_7
      refine lv_iconst (v := (-1)) hx hb dX11_next_26 (by decide) ?_
      refine W.widen (k := 0) (n := 0) (Nat.le_of_ble_eq_true rfl) (Nat.le_of_ble_eq_true rfl) ?_
      exact W.iret (v := (-1)) hx hb hr (fun t ht9 hW => ⟨⟨(-1), (), rfl, trivial, trivial⟩, hS.F ht9⟩) hS.2.2 dX11_next_27
    · have q_9 : (0 : Int32).toInt ≤ n.toInt := by have := (not_congr (ow_lt _ _)).mp c_7; omega
      refine lv_iload_n hx hb dX11_next_21 rfl (lv_at hl 2 rfl) ?_
      refine lv_iconst (v := 2) hx hb dX11_next_22 (by decide) ?_
      refine lv_icmp_le (tgt := 28) hx hb dX11_next_23 (by decide) (fun c_10 => ?_) (fun c_10 => ?_)
      · have q_11 : n.toInt ≤ (2 : Int32).toInt := (ow_le _ _).mp c_10
        refine lv_iload_n hx hb dX11_next_28 rfl (lv_at hl 0 rfl) ?_
        have hFc := fr_new hS hA
        refine va_calli (va_runS (As := [.int r_u_3]) (rest := []) ⟨hx, hb, hml, hown, ht⟩ (c_bitCount l G cy _  r_u_3  ) (va_cwS 1 ht (gs k_585 k_586 k_587 k_584) rfl rfl rfl (by decide +kernel) ⟨Nat.le_of_ble_eq_true rfl, Nat.le_of_ble_eq_true rfl⟩) ⟨En.blind, fun U hU hW => ⟨rfl, En.of hU hW (va_P0 (H := _)) hK va_D0 hN⟩⟩ rfl rfl hl.1 rfl (lv_room (Nat.le_of_ble_eq_true rfl)) dX11_next_29 ⟨Nat.le_of_ble_eq_true rfl, Nat.le_of_ble_eq_true rfl⟩) hS (fun q _ h => hFc q h) hFc (fun r_u_12 u_12 t9 H locs ht9 hvm hw hB hz1 hk1 hS => ?_)
        have hP := fr_keep hP hk1
        have wu_12 := hw
        clear hFc hk1 hz1 hB hw
        refine lv_istore (lv' := [(4, .int r_u_12), (3, .int r_u_3), (0, .ref this), (1, .int n), (2, .int n2)]) hx hb dX11_next_32 hl (by decide) rfl (fun ls hl => ?_)
        refine lv_iconst (v := (-1)) hx hb dX11_next_34 (by decide) ?_
        refine lv_istore (lv' := [(5, .int (-1)), (4, .int r_u_12), (3, .int r_u_3), (0, .ref this), (1, .int n), (2, .int n2)]) hx hb dX11_next_35 hl (by decide) rfl (fun ls hl => ?_)
        refine lv_iconst (v := 0) hx hb dX11_next_37 (by decide) ?_
        refine lv_istore (lv' := [(6, .int 0), (5, .int (-1)), (4, .int r_u_12), (3, .int r_u_3), (0, .ref this), (1, .int n), (2, .int n2)]) hx hb dX11_next_38 hl (by decide) rfl (fun ls hl => ?_)
        refine lv_iload hx hb dX11_next_40 (lv_at hl 2 rfl) ?_
        refine lv_iconst (v := 1) hx hb dX11_next_42 (by decide) ?_
        refine lv_iadd hx hb dX11_next_43 ?_
        refine lv_topi (fun v_13 ev_13 => ?_)
        refine lv_istore (lv' := [(7, .int v_13), (6, .int 0), (5, .int (-1)), (4, .int r_u_12), (3, .int r_u_3), (0, .ref this), (1, .int n), (2, .int n2)]) hx hb dX11_next_44 hl (by decide) rfl (fun ls hl => ?_)
        refine lv_iconst (v := 0) hx hb dX11_next_46 (by decide) ?_
        refine lv_istore (lv' := [(8, .int 0), (7, .int v_13), (6, .int 0), (5, .int (-1)), (4, .int r_u_12), (3, .int r_u_3), (0, .ref this), (1, .int n), (2, .int n2)]) hx hb dX11_next_47 hl (by decide) rfl (fun ls hl => ?_)
        refine W.widen (k := 0) (n := 0) (Nat.le_of_ble_eq_true rfl) (Nat.le_of_ble_eq_true rfl) ?_
        have lp_14 : ∀ (N_14 : Nat) (x8_14 : Int32) (x7_14 : Int32) (x6_14 : Int32) (x5_14 : Int32) (H : Heap) (locs : List Loc) (ls : Array Slot), (0 ≤ x8_14.toInt ∧ x8_14.toInt ≤ 8) → (8 - x8_14.toInt).toNat < N_14 → va_P G vwCl (WC cy L K R I J E B) H → va_S A s.heap H locs → lv_has ls 12 [(8, .int x8_14), (7, .int x7_14), (6, .int x6_14), (5, .int x5_14), (4, .int r_u_12), (3, .int r_u_3), (0, .ref this), (1, .int n), (2, .int n2)] → W p l e (headSpec (.code yX11_next cX11_next 12 (some .int) :: TBg) ({ frames := 3, cells := 0, slots := 0, locals := 192 })).room s m ([.ref this, .int n, .int n2] : List Value).toArray below meth c H locs 0 0 (MQ below (va_Qi (fun (r : Int32) (_ : Unit) => True) (fun _ _ => True) A) ([.ref this, .int n, .int n2] : List Value).toArray s 0 0 A) (F0 m 49 ls []) := by
          intro N_14
          induction N_14 with
          | zero => intro x8_14 x7_14 x6_14 x5_14 H locs ls qf14_0 hm9 hP hS hl; exact absurd hm9 (Nat.not_lt_zero _)
          | succ N_14 ih_14 =>
            intro x8_14 x7_14 x6_14 x5_14 H locs ls qf14_0 hm9 hP hS hl
            refine lv_iload hx hb dX11_next_49 (lv_at hl 0 rfl) ?_
            refine lv_aload_n hx hb dX11_next_51 rfl (lv_at hl 6 rfl) ?_
            refine cg_0_2_11 hx hb ht hown hK hN hP hthis.1 hthis.2 dX11_next_52 ?_
            refine cg_1_5_11 hx hb ht hown hK hN hP hm_2.1 hm_2.2 dX11_next_55 ?_
            have q_15 : 0 ≤ (I (R this 2) 5).toInt ∧ (I (R this 2) 5).toInt ≤ 8 := IV.rd hI hm_2.1 hm_2.2 5
            refine lv_icmp_ge (tgt := 144) hx hb dX11_next_58 (by decide) (fun c_16 => ?_) (fun c_16 => ?_)
            · have q_17 : (I (R this 2) 5).toInt ≤ x8_14.toInt := (ow_le _ _).mp c_16
              refine lv_iload hx hb dX11_next_144 (lv_at hl 3 rfl) ?_
              refine lv_iconst (v := (-1)) hx hb dX11_next_146 (by decide) ?_
              refine lv_icmp_eq (tgt := 154) hx hb dX11_next_147 (by decide) (fun c_18 => ?_) (fun c_18 => ?_)
              · have q_19 : x5_14.toInt = ((-1) : Int32).toInt := (ow_eq _ _).mp c_18
                refine lv_iload hx hb dX11_next_154 (lv_at hl 3 rfl) ?_
                refine W.widen (k := 0) (n := 0) (Nat.le_of_ble_eq_true rfl) (Nat.le_of_ble_eq_true rfl) ?_
                exact W.iret (v := x5_14) hx hb hr (fun t ht9 hW => ⟨⟨x5_14, (), rfl, trivial, trivial⟩, hS.F ht9⟩) hS.2.2 dX11_next_156
              · have q_20 : ¬ x5_14.toInt = ((-1) : Int32).toInt := by have := (not_congr (ow_eq _ _)).mp c_18; omega
                refine lv_iload_n hx hb dX11_next_150 rfl (lv_at hl 7 rfl) ?_
                refine lv_if_ne (tgt := 157) hx hb dX11_next_151 (by decide) (fun c_21 => ?_) (fun c_21 => ?_)
                · have q_22 : ¬ n.toInt = (0 : Int32).toInt := by have := (not_congr (ow_eq _ _)).mp c_21; omega
                  refine lv_iload_n hx hb dX11_next_157 rfl (lv_at hl 7 rfl) ?_
                  refine lv_iconst (v := 1) hx hb dX11_next_158 (by decide) ?_
                  refine lv_icmp_ne (tgt := 167) hx hb dX11_next_159 (by decide) (fun c_23 => ?_) (fun c_23 => ?_)
                  · have q_24 : ¬ n.toInt = (1 : Int32).toInt := by have := (not_congr (ow_eq _ _)).mp c_23; omega
                    refine lv_iload hx hb dX11_next_167 (lv_at hl 1 rfl) ?_
                    refine W.widen (k := 0) (n := 0) (Nat.le_of_ble_eq_true rfl) (Nat.le_of_ble_eq_true rfl) ?_
                    exact W.iret (v := x7_14) hx hb hr (fun t ht9 hW => ⟨⟨x7_14, (), rfl, trivial, trivial⟩, hS.F ht9⟩) hS.2.2 dX11_next_169
                  · have q_25 : n.toInt = (1 : Int32).toInt := (ow_eq _ _).mp c_23
                    refine lv_iload hx hb dX11_next_162 (lv_at hl 2 rfl) ?_
                    refine lv_goto (tgt := 169) hx hb dX11_next_164 (by decide) ?_
                    refine W.widen (k := 0) (n := 0) (Nat.le_of_ble_eq_true rfl) (Nat.le_of_ble_eq_true rfl) ?_
                    exact W.iret (v := x6_14) hx hb hr (fun t ht9 hW => ⟨⟨x6_14, (), rfl, trivial, trivial⟩, hS.F ht9⟩) hS.2.2 dX11_next_169
                · have q_26 : n.toInt = (0 : Int32).toInt := (ow_eq _ _).mp c_21
                  refine lv_iload hx hb dX11_next_154 (lv_at hl 3 rfl) ?_
                  refine W.widen (k := 0) (n := 0) (Nat.le_of_ble_eq_true rfl) (Nat.le_of_ble_eq_true rfl) ?_
                  exact W.iret (v := x5_14) hx hb hr (fun t ht9 hW => ⟨⟨x5_14, (), rfl, trivial, trivial⟩, hS.F ht9⟩) hS.2.2 dX11_next_156
            · have q_27 : x8_14.toInt < (I (R this 2) 5).toInt := by have := (not_congr (ow_le _ _)).mp c_16; omega
              refine lv_iconst (v := 0) hx hb dX11_next_61 (by decide) ?_
              refine lv_istore (lv' := [(9, .int 0), (8, .int x8_14), (7, .int x7_14), (6, .int x6_14), (5, .int x5_14), (4, .int r_u_12), (3, .int r_u_3), (0, .ref this), (1, .int n), (2, .int n2)]) hx hb dX11_next_62 hl (by decide) rfl (fun ls hl => ?_)
              refine W.widen (k := 0) (n := 0) (Nat.le_of_ble_eq_true rfl) (Nat.le_of_ble_eq_true rfl) ?_
              have lp_28 : ∀ (N_28 : Nat) (x9_28 : Int32) (x7_28 : Int32) (x6_28 : Int32) (x5_28 : Int32) (H : Heap) (locs : List Loc) (ls : Array Slot), (0 ≤ x9_28.toInt ∧ x9_28.toInt ≤ 2) → (2 - x9_28.toInt).toNat < N_28 → va_P G vwCl (WC cy L K R I J E B) H → va_S A s.heap H locs → lv_has ls 12 [(9, .int x9_28), (8, .int x8_14), (7, .int x7_28), (6, .int x6_28), (5, .int x5_28), (4, .int r_u_12), (3, .int r_u_3), (0, .ref this), (1, .int n), (2, .int n2)] → W p l e (headSpec (.code yX11_next cX11_next 12 (some .int) :: TBg) ({ frames := 3, cells := 0, slots := 0, locals := 192 })).room s m ([.ref this, .int n, .int n2] : List Value).toArray below meth c H locs 0 0 (MQ below (va_Qi (fun (r : Int32) (_ : Unit) => True) (fun _ _ => True) A) ([.ref this, .int n, .int n2] : List Value).toArray s 0 0 A) (F0 m 64 ls []) := by
                intro N_28
                induction N_28 with
                | zero => intro x9_28 x7_28 x6_28 x5_28 H locs ls qf28_0 hm9 hP hS hl; exact absurd hm9 (Nat.not_lt_zero _)
                | succ N_28 ih_28 =>
                  intro x9_28 x7_28 x6_28 x5_28 H locs ls qf28_0 hm9 hP hS hl
                  refine lv_iload hx hb dX11_next_64 (lv_at hl 0 rfl) ?_
                  refine lv_iconst (v := 2) hx hb dX11_next_66 (by decide) ?_
                  refine lv_icmp_ge (tgt := 138) hx hb dX11_next_67 (by decide) (fun c_29 => ?_) (fun c_29 => ?_)
                  · have q_30 : (2 : Int32).toInt ≤ x9_28.toInt := (ow_le _ _).mp c_29
                    obtain ⟨v_31, ev_31⟩ : ∃ y : Int32, y = x8_14 + 1 := ⟨_, rfl⟩
                    refine lv_iinc (v := v_31) (lv' := [(8, .int v_31), (9, .int x9_28), (7, .int x7_28), (6, .int x6_28), (5, .int x5_28), (4, .int r_u_12), (3, .int r_u_3), (0, .ref this), (1, .int n), (2, .int n2)]) hx hb dX11_next_138 hl (k := 1) rfl (by rw [ev_31]; rfl) (by decide) rfl (fun ls hl => ?_)
                    have q_32 : v_31.toInt = x8_14.toInt + 1 := by have := ow_add ev_31 (by omega) (by omega); omega
                    refine lv_goto (tgt := 49) hx hb dX11_next_141 (by decide) ?_
                    refine W.widen (k := 0) (n := 0) (Nat.le_of_ble_eq_true rfl) (Nat.le_of_ble_eq_true rfl) ?_
                    exact ih_14 v_31 x7_28 x6_28 x5_28 _ _ _ (by omega) (by omega) hP hS (lv_sub hl [0, 2, 3, 4, 5, 6, 7, 8, 9] rfl)
                  · have q_33 : x9_28.toInt < (2 : Int32).toInt := by have := (not_congr (ow_le _ _)).mp c_29; omega
                    refine lv_iload_n hx hb dX11_next_70 rfl (lv_at hl 6 rfl) ?_
                    refine lv_aload_n hx hb dX11_next_71 rfl (lv_at hl 7 rfl) ?_
                    refine cg_0_2_11 hx hb ht hown hK hN hP hthis.1 hthis.2 dX11_next_72 ?_
                    refine cg_1_4_11 hx hb ht hown hK hN hP hm_2.1 hm_2.2 dX11_next_75 ?_
                    have hm_34 : (R (R this 2) 4) ∈ L ∧ K (R (R this 2) 4) = 32 := RT.o hRT hm_2.1 hm_2.2 4 (by decide)
                    refine lv_iload hx hb dX11_next_78 (lv_at hl 1 rfl) ?_
                    have q_35 : vp_in x8_14 8 := vp_in_iff.mpr ⟨by omega, by omega⟩
                    refine cl_32 hx hb hK hP hm_34.1 hm_34.2 q_35 dX11_next_80 ?_
                    have hm_36 : (R (R (R this 2) 4) (Int32.toNatClampNeg x8_14)) ∈ L ∧ K (R (R (R this 2) 4) (Int32.toNatClampNeg x8_14)) = 5 := RT.a hRT hm_34.1 hm_34.2 (by decide) q_35
                    refine lv_iload hx hb dX11_next_81 (lv_at hl 0 rfl) ?_
                    refine lv_iconst (v := 1) hx hb dX11_next_83 (by decide) ?_
                    refine lv_icmp_ne (tgt := 91) hx hb dX11_next_84 (by decide) (fun c_37 => ?_) (fun c_37 => ?_)
                    · have q_38 : ¬ x9_28.toInt = (1 : Int32).toInt := by have := (not_congr (ow_eq _ _)).mp c_37; omega
                      refine lv_iconst (v := 0) hx hb dX11_next_91 (by decide) ?_
                      have hFc := fr_new hS hA
                      refine va_calli (va_runV (As := [.int 0]) (rest := [.int r_u_3]) ⟨hx, hb, hml, hown, ht⟩ (c_told l G cy _ L K R T I E J B (R (R (R this 2) 4) (Int32.toNatClampNeg x8_14)) (0) hRT hI hE hm_36.1 hm_36.2 (by omega)) (cwV 1 ht (gv k_588 k_489 k_490 k_437 k_487) rfl rfl rfl (by decide +kernel) ⟨Nat.le_of_ble_eq_true rfl, Nat.le_of_ble_eq_true rfl⟩) ⟨En.blind, cr_5 hK hP hm_36.1 hm_36.2, fun U hU hW => ⟨rfl, En.of hU hW hP hK hD0 hN⟩⟩ rfl rfl hl.1 rfl (lv_room (Nat.le_of_ble_eq_true rfl)) dX11_next_92 ⟨Nat.le_of_ble_eq_true rfl, Nat.le_of_ble_eq_true rfl⟩) hS (fun q _ h => hFc q h) hFc (fun r_u_39 u_39 t9 H locs ht9 hvm hw hB hz1 hk1 hS => ?_)
                      have hP := fr_keep hP hk1
                      have wu_39 := hw
                      clear hFc hk1 hz1 hB hw
                      refine lv_iand hx hb dX11_next_95 ?_
                      refine lv_topi (fun v_40 ev_40 => ?_)
                      have hFc := fr_new hS hA
                      refine va_calli (va_runS (As := [.int v_40]) (rest := []) ⟨hx, hb, hml, hown, ht⟩ (c_bitCount l G cy _  v_40  ) (va_cwS 1 ht (gs k_585 k_586 k_587 k_584) rfl rfl rfl (by decide +kernel) ⟨Nat.le_of_ble_eq_true rfl, Nat.le_of_ble_eq_true rfl⟩) ⟨En.blind, fun U hU hW => ⟨rfl, En.of hU hW (va_P0 (H := _)) hK va_D0 hN⟩⟩ rfl rfl hl.1 rfl (lv_room (Nat.le_of_ble_eq_true rfl)) dX11_next_96 ⟨Nat.le_of_ble_eq_true rfl, Nat.le_of_ble_eq_true rfl⟩) hS (fun q _ h => hFc q h) hFc (fun r_u_41 u_41 t9 H locs ht9 hvm hw hB hz1 hk1 hS => ?_)
                      have hP := fr_keep hP hk1
                      have wu_41 := hw
                      clear hFc hk1 hz1 hB hw
                      refine lv_istore (lv' := [(10, .int r_u_41), (9, .int x9_28), (8, .int x8_14), (7, .int x7_28), (6, .int x6_28), (5, .int x5_28), (4, .int r_u_12), (3, .int r_u_3), (0, .ref this), (1, .int n), (2, .int n2)]) hx hb dX11_next_99 hl (by decide) rfl (fun ls hl => ?_)
                      refine lv_iload hx hb dX11_next_101 (lv_at hl 0 rfl) ?_
                      refine lv_iload hx hb dX11_next_103 (lv_at hl 6 rfl) ?_
                      refine lv_iload hx hb dX11_next_105 (lv_at hl 0 rfl) ?_
                      refine lv_isub hx hb dX11_next_107 ?_
                      refine lv_topi (fun v_42 ev_42 => ?_)
                      refine va_mmax hx hb (by rw [hml]; exact hl.1.symm) hown (ht _ k_589) (ht _ k_590) (ht _ k_402) (ht _ k_591) (Nat.le_of_ble_eq_true rfl) (Nat.le_of_ble_eq_true rfl) (Nat.le_of_ble_eq_true rfl) (Nat.le_of_ble_eq_true rfl) dX11_next_108 ?_
                      refine lv_topi (fun v_43 ev_43 => ?_)
                      have q_44 : r_u_41.toInt ≤ v_43.toInt ∧ v_42.toInt ≤ v_43.toInt ∧ (v_43.toInt = r_u_41.toInt ∨ v_43.toInt = v_42.toInt) := ow_mmax ev_43
                      refine lv_istore (lv' := [(11, .int v_43), (10, .int r_u_41), (9, .int x9_28), (8, .int x8_14), (7, .int x7_28), (6, .int x6_28), (5, .int x5_28), (4, .int r_u_12), (3, .int r_u_3), (0, .ref this), (1, .int n), (2, .int n2)]) hx hb dX11_next_111 hl (by decide) rfl (fun ls hl => ?_)
                      refine lv_iload hx hb dX11_next_113 (lv_at hl 0 rfl) ?_
                      refine lv_iload hx hb dX11_next_115 (lv_at hl 4 rfl) ?_
                      refine lv_icmp_ge (tgt := 132) hx hb dX11_next_117 (by decide) (fun c_45 => ?_) (fun c_45 => ?_)
                      · have q_46 : x7_28.toInt ≤ v_43.toInt := (ow_le _ _).mp c_45
                        obtain ⟨v_47, ev_47⟩ : ∃ y : Int32, y = x9_28 + 1 := ⟨_, rfl⟩
                        refine lv_iinc (v := v_47) (lv' := [(9, .int v_47), (11, .int v_43), (10, .int r_u_41), (8, .int x8_14), (7, .int x7_28), (6, .int x6_28), (5, .int x5_28), (4, .int r_u_12), (3, .int r_u_3), (0, .ref this), (1, .int n), (2, .int n2)]) hx hb dX11_next_132 hl (k := 2) rfl (by rw [ev_47]; rfl) (by decide) rfl (fun ls hl => ?_)
                        have q_48 : v_47.toInt = x9_28.toInt + 1 := by have := ow_add ev_47 (by omega) (by omega); omega
                        refine lv_goto (tgt := 64) hx hb dX11_next_135 (by decide) ?_
                        refine W.widen (k := 0) (n := 0) (Nat.le_of_ble_eq_true rfl) (Nat.le_of_ble_eq_true rfl) ?_
                        exact ih_28 v_47 x7_28 x6_28 x5_28 _ _ _ (by omega) (by omega) hP hS (lv_sub hl [0, 3, 4, 5, 6, 7, 8, 9, 10, 11] rfl)
                      · have q_49 : v_43.toInt < x7_28.toInt := by have := (not_congr (ow_le _ _)).mp c_45; omega
                        refine lv_iload hx hb dX11_next_120 (lv_at hl 3 rfl) ?_
                        refine lv_istore (lv' := [(5, .int x8_14), (11, .int v_43), (10, .int r_u_41), (9, .int x9_28), (8, .int x8_14), (7, .int x7_28), (6, .int x6_28), (4, .int r_u_12), (3, .int r_u_3), (0, .ref this), (1, .int n), (2, .int n2)]) hx hb dX11_next_122 hl (by decide) rfl (fun ls hl => ?_)
                        refine lv_iload hx hb dX11_next_124 (lv_at hl 3 rfl) ?_
                        refine lv_istore (lv' := [(6, .int x9_28), (5, .int x8_14), (11, .int v_43), (10, .int r_u_41), (9, .int x9_28), (8, .int x8_14), (7, .int x7_28), (4, .int r_u_12), (3, .int r_u_3), (0, .ref this), (1, .int n), (2, .int n2)]) hx hb dX11_next_126 hl (by decide) rfl (fun ls hl => ?_)
                        refine lv_iload hx hb dX11_next_128 (lv_at hl 2 rfl) ?_
                        refine lv_istore (lv' := [(7, .int v_43), (6, .int x9_28), (5, .int x8_14), (11, .int v_43), (10, .int r_u_41), (9, .int x9_28), (8, .int x8_14), (4, .int r_u_12), (3, .int r_u_3), (0, .ref this), (1, .int n), (2, .int n2)]) hx hb dX11_next_130 hl (by decide) rfl (fun ls hl => ?_)
                        obtain ⟨v_50, ev_50⟩ : ∃ y : Int32, y = x9_28 + 1 := ⟨_, rfl⟩
                        refine lv_iinc (v := v_50) (lv' := [(9, .int v_50), (7, .int v_43), (6, .int x9_28), (5, .int x8_14), (11, .int v_43), (10, .int r_u_41), (8, .int x8_14), (4, .int r_u_12), (3, .int r_u_3), (0, .ref this), (1, .int n), (2, .int n2)]) hx hb dX11_next_132 hl (k := 5) rfl (by rw [ev_50]; rfl) (by decide) rfl (fun ls hl => ?_)
                        have q_51 : v_50.toInt = x9_28.toInt + 1 := by have := ow_add ev_50 (by omega) (by omega); omega
                        refine lv_goto (tgt := 64) hx hb dX11_next_135 (by decide) ?_
                        refine W.widen (k := 0) (n := 0) (Nat.le_of_ble_eq_true rfl) (Nat.le_of_ble_eq_true rfl) ?_
                        exact ih_28 v_50 v_43 x9_28 x8_14 _ _ _ (by omega) (by omega) hP hS (lv_sub hl [0, 6, 1, 2, 3, 7, 8, 9, 10, 11] rfl)
                    · have q_52 : x9_28.toInt = (1 : Int32).toInt := (ow_eq _ _).mp c_37
                      refine lv_iconst (v := 1) hx hb dX11_next_87 (by decide) ?_
                      refine lv_goto (tgt := 92) hx hb dX11_next_88 (by decide) ?_
                      have hFc := fr_new hS hA
                      refine va_calli (va_runV (As := [.int 1]) (rest := [.int r_u_3]) ⟨hx, hb, hml, hown, ht⟩ (c_told l G cy _ L K R T I E J B (R (R (R this 2) 4) (Int32.toNatClampNeg x8_14)) (1) hRT hI hE hm_36.1 hm_36.2 (by omega)) (cwV 1 ht (gv k_588 k_489 k_490 k_437 k_487) rfl rfl rfl (by decide +kernel) ⟨Nat.le_of_ble_eq_true rfl, Nat.le_of_ble_eq_true rfl⟩) ⟨En.blind, cr_5 hK hP hm_36.1 hm_36.2, fun U hU hW => ⟨rfl, En.of hU hW hP hK hD0 hN⟩⟩ rfl rfl hl.1 rfl (lv_room (Nat.le_of_ble_eq_true rfl)) dX11_next_92 ⟨Nat.le_of_ble_eq_true rfl, Nat.le_of_ble_eq_true rfl⟩) hS (fun q _ h => hFc q h) hFc (fun r_u_53 u_53 t9 H locs ht9 hvm hw hB hz1 hk1 hS => ?_)
                      have hP := fr_keep hP hk1
                      have wu_53 := hw
                      clear hFc hk1 hz1 hB hw
                      refine lv_iand hx hb dX11_next_95 ?_
                      refine lv_topi (fun v_54 ev_54 => ?_)
                      have hFc := fr_new hS hA
                      refine va_calli (va_runS (As := [.int v_54]) (rest := []) ⟨hx, hb, hml, hown, ht⟩ (c_bitCount l G cy _  v_54  ) (va_cwS 1 ht (gs k_585 k_586 k_587 k_584) rfl rfl rfl (by decide +kernel) ⟨Nat.le_of_ble_eq_true rfl, Nat.le_of_ble_eq_true rfl⟩) ⟨En.blind, fun U hU hW => ⟨rfl, En.of hU hW (va_P0 (H := _)) hK va_D0 hN⟩⟩ rfl rfl hl.1 rfl (lv_room (Nat.le_of_ble_eq_true rfl)) dX11_next_96 ⟨Nat.le_of_ble_eq_true rfl, Nat.le_of_ble_eq_true rfl⟩) hS (fun q _ h => hFc q h) hFc (fun r_u_55 u_55 t9 H locs ht9 hvm hw hB hz1 hk1 hS => ?_)
                      have hP := fr_keep hP hk1
                      have wu_55 := hw
                      clear hFc hk1 hz1 hB hw
                      refine lv_istore (lv' := [(10, .int r_u_55), (9, .int x9_28), (8, .int x8_14), (7, .int x7_28), (6, .int x6_28), (5, .int x5_28), (4, .int r_u_12), (3, .int r_u_3), (0, .ref this), (1, .int n), (2, .int n2)]) hx hb dX11_next_99 hl (by decide) rfl (fun ls hl => ?_)
                      refine lv_iload hx hb dX11_next_101 (lv_at hl 0 rfl) ?_
                      refine lv_iload hx hb dX11_next_103 (lv_at hl 6 rfl) ?_
                      refine lv_iload hx hb dX11_next_105 (lv_at hl 0 rfl) ?_
                      refine lv_isub hx hb dX11_next_107 ?_
                      refine lv_topi (fun v_56 ev_56 => ?_)
                      refine va_mmax hx hb (by rw [hml]; exact hl.1.symm) hown (ht _ k_589) (ht _ k_590) (ht _ k_402) (ht _ k_591) (Nat.le_of_ble_eq_true rfl) (Nat.le_of_ble_eq_true rfl) (Nat.le_of_ble_eq_true rfl) (Nat.le_of_ble_eq_true rfl) dX11_next_108 ?_
                      refine lv_topi (fun v_57 ev_57 => ?_)
                      have q_58 : r_u_55.toInt ≤ v_57.toInt ∧ v_56.toInt ≤ v_57.toInt ∧ (v_57.toInt = r_u_55.toInt ∨ v_57.toInt = v_56.toInt) := ow_mmax ev_57
                      refine lv_istore (lv' := [(11, .int v_57), (10, .int r_u_55), (9, .int x9_28), (8, .int x8_14), (7, .int x7_28), (6, .int x6_28), (5, .int x5_28), (4, .int r_u_12), (3, .int r_u_3), (0, .ref this), (1, .int n), (2, .int n2)]) hx hb dX11_next_111 hl (by decide) rfl (fun ls hl => ?_)
                      refine lv_iload hx hb dX11_next_113 (lv_at hl 0 rfl) ?_
                      refine lv_iload hx hb dX11_next_115 (lv_at hl 4 rfl) ?_
                      refine lv_icmp_ge (tgt := 132) hx hb dX11_next_117 (by decide) (fun c_59 => ?_) (fun c_59 => ?_)
                      · have q_60 : x7_28.toInt ≤ v_57.toInt := (ow_le _ _).mp c_59
                        obtain ⟨v_61, ev_61⟩ : ∃ y : Int32, y = x9_28 + 1 := ⟨_, rfl⟩
                        refine lv_iinc (v := v_61) (lv' := [(9, .int v_61), (11, .int v_57), (10, .int r_u_55), (8, .int x8_14), (7, .int x7_28), (6, .int x6_28), (5, .int x5_28), (4, .int r_u_12), (3, .int r_u_3), (0, .ref this), (1, .int n), (2, .int n2)]) hx hb dX11_next_132 hl (k := 2) rfl (by rw [ev_61]; rfl) (by decide) rfl (fun ls hl => ?_)
                        have q_62 : v_61.toInt = x9_28.toInt + 1 := by have := ow_add ev_61 (by omega) (by omega); omega
                        refine lv_goto (tgt := 64) hx hb dX11_next_135 (by decide) ?_
                        refine W.widen (k := 0) (n := 0) (Nat.le_of_ble_eq_true rfl) (Nat.le_of_ble_eq_true rfl) ?_
                        exact ih_28 v_61 x7_28 x6_28 x5_28 _ _ _ (by omega) (by omega) hP hS (lv_sub hl [0, 3, 4, 5, 6, 7, 8, 9, 10, 11] rfl)
                      · have q_63 : v_57.toInt < x7_28.toInt := by have := (not_congr (ow_le _ _)).mp c_59; omega
                        refine lv_iload hx hb dX11_next_120 (lv_at hl 3 rfl) ?_
                        refine lv_istore (lv' := [(5, .int x8_14), (11, .int v_57), (10, .int r_u_55), (9, .int x9_28), (8, .int x8_14), (7, .int x7_28), (6, .int x6_28), (4, .int r_u_12), (3, .int r_u_3), (0, .ref this), (1, .int n), (2, .int n2)]) hx hb dX11_next_122 hl (by decide) rfl (fun ls hl => ?_)
                        refine lv_iload hx hb dX11_next_124 (lv_at hl 3 rfl) ?_
                        refine lv_istore (lv' := [(6, .int x9_28), (5, .int x8_14), (11, .int v_57), (10, .int r_u_55), (9, .int x9_28), (8, .int x8_14), (7, .int x7_28), (4, .int r_u_12), (3, .int r_u_3), (0, .ref this), (1, .int n), (2, .int n2)]) hx hb dX11_next_126 hl (by decide) rfl (fun ls hl => ?_)
                        refine lv_iload hx hb dX11_next_128 (lv_at hl 2 rfl) ?_
                        refine lv_istore (lv' := [(7, .int v_57), (6, .int x9_28), (5, .int x8_14), (11, .int v_57), (10, .int r_u_55), (9, .int x9_28), (8, .int x8_14), (4, .int r_u_12), (3, .int r_u_3), (0, .ref this), (1, .int n), (2, .int n2)]) hx hb dX11_next_130 hl (by decide) rfl (fun ls hl => ?_)
                        obtain ⟨v_64, ev_64⟩ : ∃ y : Int32, y = x9_28 + 1 := ⟨_, rfl⟩
                        refine lv_iinc (v := v_64) (lv' := [(9, .int v_64), (7, .int v_57), (6, .int x9_28), (5, .int x8_14), (11, .int v_57), (10, .int r_u_55), (8, .int x8_14), (4, .int r_u_12), (3, .int r_u_3), (0, .ref this), (1, .int n), (2, .int n2)]) hx hb dX11_next_132 hl (k := 5) rfl (by rw [ev_64]; rfl) (by decide) rfl (fun ls hl => ?_)
                        have q_65 : v_64.toInt = x9_28.toInt + 1 := by have := ow_add ev_64 (by omega) (by omega); omega
                        refine lv_goto (tgt := 64) hx hb dX11_next_135 (by decide) ?_
                        refine W.widen (k := 0) (n := 0) (Nat.le_of_ble_eq_true rfl) (Nat.le_of_ble_eq_true rfl) ?_
                        exact ih_28 v_64 v_57 x9_28 x8_14 _ _ _ (by omega) (by omega) hP hS (lv_sub hl [0, 6, 1, 2, 3, 7, 8, 9, 10, 11] rfl)
              exact lp_28 _ (0) x7_14 x6_14 x5_14 _ _ _ (by omega) (Nat.lt_succ_self _) hP hS (lv_sub hl [0, 1, 2, 3, 4, 5, 6, 7, 8, 9] rfl)
        exact lp_14 _ (0) v_13 (0) ((-1)) _ _ _ (by omega) (Nat.lt_succ_self _) hP hS (lv_sub hl [0, 1, 2, 3, 4, 5, 6, 7, 8] rfl)
      · have q_66 : (2 : Int32).toInt < n.toInt := by have := (not_congr (ow_le _ _)).mp c_10; omega
        refine lv_iconst (v := (-1)) hx hb dX11_next_26 (by decide) ?_
        refine W.widen (k := 0) (n := 0) (Nat.le_of_ble_eq_true rfl) (Nat.le_of_ble_eq_true rfl) ?_
        exact W.iret (v := (-1)) hx hb hr (fun t ht9 hW => ⟨⟨(-1), (), rfl, trivial, trivial⟩, hS.F ht9⟩) hS.2.2 dX11_next_27
set_option maxHeartbeats 4000000 in
set_option maxRecDepth 100000 in
theorem x_about (l : Launch) (G : va_G) (cy : Nat → ClassId) (sz : Nat) (L : List Nat) (K : Nat → Nat) (R : Nat → Nat → Nat) (T : Int) (I E : Nat → Nat → Int32) (J B : Nat → Nat → Int64) (this : Nat) (n : Int32) (hRT : RT L K R) (hI : IV T L K I) (hE : EV L K E) (hthis1 : this ∈ L) (hthis2 : K this = 0) : Met l yX11_about (.code yX11_about cX11_about 2 (some .int) :: TBg) ({ frames := 1, cells := 0, slots := 0, locals := 64 }) (va_Pc [.ref this, .int n] (En G cy (WC cy L K R I J E B) sz)) (va_Qi (fun (r : Int32) (_ : Unit) => True) (fun _ _ => True) (va_A [] sz)) 0 0 (va_A [] sz) := by
  have hthis : this ∈ L ∧ K this = 0 := ⟨hthis1, hthis2⟩
  refine Met.ofW (cc := cX11_about) (maxL := 2) (ret := (some .int)) (by decide) rfl ?_
  intro p e s m args below meth c s₁ B9 hml hv9
  obtain ⟨rfl, hsz, hP, hK, hD0, hN⟩ := hv9
  have hx := B9.exec
  have hb := B9.bytes
  have hr := B9.returns
  have hts := atoms_spec (ws := .code yX11_about cX11_about 2 (some .int) :: TBg) B9.pre
  have ht : ∀ w ∈ TBg, w.before _ s = true := fun w h => hts w (List.mem_cons_of_mem _ h)
  have hown : s.vm.findClass RX11 = some m.cls := findClass_of_methodNamed B9.named
  have hlocks := B9.notSynchronized
  subst hsz
  generalize hAe : va_A [] s.heap.size = A at ⊢
  have hA : ∀ q : Nat, s.heap.size ≤ q → A q := fun q h => by rw [← hAe]; exact Or.inr h
  have hS : va_S A s.heap s.heap [] := va_S.rf
  have hl := lv_entry ([.ref this, .int n]) (n := 2) (Nat.le_of_ble_eq_true rfl)
  rw [lg_entry_eq]
  generalize (lg_sl ([.ref this, .int n]) ++ List.replicate (2 - (lg_sl ([.ref this, .int n])).length) Slot.unset).toArray = ls at hl ⊢
  have hl : lv_has ls 2 [(0, .ref this), (1, .int n)] := hl
  have z0 : (-1 : Int32).toInt = -1 := by decide
  have z1 : (0 : Int32).toInt = 0 := by decide
  have z2 : (1 : Int32).toInt = 1 := by decide
  refine lv_iload_n hx hb dX11_about_0 rfl (lv_at hl 1 rfl) ?_
  by_cases sw_1 : n.toInt < 0 ∨ 7 < n.toInt
  · refine lv_tableOut (tgt := 117) hx hb dX11_about_1 (by omega) (by decide) ?_
    refine lv_iconst (v := (-1)) hx hb dX11_about_117 (by decide) ?_
    refine W.widen (k := 0) (n := 0) (Nat.le_of_ble_eq_true rfl) (Nat.le_of_ble_eq_true rfl) ?_
    exact W.iret (v := (-1)) hx hb hr (fun t ht9 hW => ⟨⟨(-1), (), rfl, trivial, trivial⟩, hS.F ht9⟩) hS.2.2 dX11_about_118
  · have h3sw_1 : n.toInt = 0 ∨ n.toInt = 1 ∨ n.toInt = 2 ∨ n.toInt = 3 ∨ n.toInt = 4 ∨ n.toInt = 5 ∨ n.toInt = 6 ∨ n.toInt = 7 := by omega
    rcases h3sw_1 with h3sw_1 | h3sw_1 | h3sw_1 | h3sw_1 | h3sw_1 | h3sw_1 | h3sw_1 | h3sw_1
    · refine ow_top 0 ((ow_eq _ _).mpr (by rw [h3sw_1]; decide)) ?_
      refine lv_tableIn (tgt := 48) hx hb dX11_about_1 (by decide +kernel) (by decide +kernel) rfl (by decide) ?_
      refine lv_aload_n hx hb dX11_about_48 rfl (lv_at hl 0 rfl) ?_
      refine cg_0_2_11 hx hb ht hown hK hN hP hthis.1 hthis.2 dX11_about_49 ?_
      have hm_2 : (R this 2) ∈ L ∧ K (R this 2) = 1 := RT.o hRT hthis.1 hthis.2 2 (by decide)
      refine cg_1_3_11 hx hb ht hown hK hN hP hm_2.1 hm_2.2 dX11_about_52 ?_
      have q_3 : 0 ≤ (I (R this 2) 3).toInt ∧ (I (R this 2) 3).toInt ≤ 14 := IV.rd hI hm_2.1 hm_2.2 3
      refine W.widen (k := 0) (n := 0) (Nat.le_of_ble_eq_true rfl) (Nat.le_of_ble_eq_true rfl) ?_
      exact W.iret (v := (I (R this 2) 3)) hx hb hr (fun t ht9 hW => ⟨⟨(I (R this 2) 3), (), rfl, trivial, trivial⟩, hS.F ht9⟩) hS.2.2 dX11_about_55
    · refine ow_top 1 ((ow_eq _ _).mpr (by rw [h3sw_1]; decide)) ?_
      refine lv_tableIn (tgt := 56) hx hb dX11_about_1 (by decide +kernel) (by decide +kernel) rfl (by decide) ?_
      refine lv_aload_n hx hb dX11_about_56 rfl (lv_at hl 0 rfl) ?_
      refine cg_0_2_11 hx hb ht hown hK hN hP hthis.1 hthis.2 dX11_about_57 ?_
      have hm_4 : (R this 2) ∈ L ∧ K (R this 2) = 1 := RT.o hRT hthis.1 hthis.2 2 (by decide)
      refine cg_1_5_11 hx hb ht hown hK hN hP hm_4.1 hm_4.2 dX11_about_60 ?_
      have q_5 : 0 ≤ (I (R this 2) 5).toInt ∧ (I (R this 2) 5).toInt ≤ 8 := IV.rd hI hm_4.1 hm_4.2 5
      refine W.widen (k := 0) (n := 0) (Nat.le_of_ble_eq_true rfl) (Nat.le_of_ble_eq_true rfl) ?_
      exact W.iret (v := (I (R this 2) 5)) hx hb hr (fun t ht9 hW => ⟨⟨(I (R this 2) 5), (), rfl, trivial, trivial⟩, hS.F ht9⟩) hS.2.2 dX11_about_63
    · refine ow_top 2 ((ow_eq _ _).mpr (by rw [h3sw_1]; decide)) ?_
      refine lv_tableIn (tgt := 64) hx hb dX11_about_1 (by decide +kernel) (by decide +kernel) rfl (by decide) ?_
      refine lv_aload_n hx hb dX11_about_64 rfl (lv_at hl 0 rfl) ?_
      refine cg_0_6_11 hx hb ht hown hK hN hP hthis.1 hthis.2 dX11_about_65 ?_
      have hm_6 : (R this 6) ∈ L ∧ K (R this 6) = 7 := RT.o hRT hthis.1 hthis.2 6 (by decide)
      refine cg_7_0_11 hx hb ht hown hK hN hP hm_6.1 hm_6.2 dX11_about_68 ?_
      have hm_7 : (R (R this 6) 0) ∈ L ∧ K (R (R this 6) 0) = 3 := RT.o hRT hm_6.1 hm_6.2 0 (by decide)
      refine cg_3_2_11 hx hb ht hown hK hN hP hm_7.1 hm_7.2 dX11_about_71 ?_
      have q_8 : 0 ≤ (I (R (R this 6) 0) 2).toInt ∧ (I (R (R this 6) 0) 2).toInt ≤ 40 := IV.rd hI hm_7.1 hm_7.2 2
      refine W.widen (k := 0) (n := 0) (Nat.le_of_ble_eq_true rfl) (Nat.le_of_ble_eq_true rfl) ?_
      exact W.iret (v := (I (R (R this 6) 0) 2)) hx hb hr (fun t ht9 hW => ⟨⟨(I (R (R this 6) 0) 2), (), rfl, trivial, trivial⟩, hS.F ht9⟩) hS.2.2 dX11_about_74
    · refine ow_top 3 ((ow_eq _ _).mpr (by rw [h3sw_1]; decide)) ?_
      refine lv_tableIn (tgt := 75) hx hb dX11_about_1 (by decide +kernel) (by decide +kernel) rfl (by decide) ?_
      refine lv_aload_n hx hb dX11_about_75 rfl (lv_at hl 0 rfl) ?_
      refine cg_0_6_11 hx hb ht hown hK hN hP hthis.1 hthis.2 dX11_about_76 ?_
      have hm_9 : (R this 6) ∈ L ∧ K (R this 6) = 7 := RT.o hRT hthis.1 hthis.2 6 (by decide)
      refine cg_7_1_11 hx hb ht hown hK hN hP hm_9.1 hm_9.2 dX11_about_79 ?_
      have q_10 : 0 ≤ (I (R this 6) 1).toInt ∧ (I (R this 6) 1).toInt ≤ 1 := IV.rd hI hm_9.1 hm_9.2 1
      refine lv_if_eq (tgt := 89) hx hb dX11_about_82 (by decide) (fun c_11 => ?_) (fun c_11 => ?_)
      · have q_12 : (I (R this 6) 1).toInt = (0 : Int32).toInt := (ow_eq _ _).mp c_11
        refine lv_iconst (v := 0) hx hb dX11_about_89 (by decide) ?_
        refine W.widen (k := 0) (n := 0) (Nat.le_of_ble_eq_true rfl) (Nat.le_of_ble_eq_true rfl) ?_
        exact W.iret (v := 0) hx hb hr (fun t ht9 hW => ⟨⟨0, (), rfl, trivial, trivial⟩, hS.F ht9⟩) hS.2.2 dX11_about_90
      · have q_13 : ¬ (I (R this 6) 1).toInt = (0 : Int32).toInt := by have := (not_congr (ow_eq _ _)).mp c_11; omega
        refine lv_iconst (v := 1) hx hb dX11_about_85 (by decide) ?_
        refine lv_goto (tgt := 90) hx hb dX11_about_86 (by decide) ?_
        refine W.widen (k := 0) (n := 0) (Nat.le_of_ble_eq_true rfl) (Nat.le_of_ble_eq_true rfl) ?_
        exact W.iret (v := 1) hx hb hr (fun t ht9 hW => ⟨⟨1, (), rfl, trivial, trivial⟩, hS.F ht9⟩) hS.2.2 dX11_about_90
    · refine ow_top 4 ((ow_eq _ _).mpr (by rw [h3sw_1]; decide)) ?_
      refine lv_tableIn (tgt := 91) hx hb dX11_about_1 (by decide +kernel) (by decide +kernel) rfl (by decide) ?_
      refine lv_aload_n hx hb dX11_about_91 rfl (lv_at hl 0 rfl) ?_
      refine cg_0_9_11 hx hb ht hown hK hN hP hthis.1 hthis.2 dX11_about_92 ?_
      have hm_14 : (R this 9) ∈ L ∧ K (R this 9) = 8 := RT.o hRT hthis.1 hthis.2 9 (by decide)
      refine cg_8_5_11 hx hb ht hown hK hN hP hm_14.1 hm_14.2 dX11_about_95 ?_
      have q_15 : 0 ≤ (I (R this 9) 5).toInt ∧ (I (R this 9) 5).toInt ≤ 30 := IV.rd hI hm_14.1 hm_14.2 5
      refine W.widen (k := 0) (n := 0) (Nat.le_of_ble_eq_true rfl) (Nat.le_of_ble_eq_true rfl) ?_
      exact W.iret (v := (I (R this 9) 5)) hx hb hr (fun t ht9 hW => ⟨⟨(I (R this 9) 5), (), rfl, trivial, trivial⟩, hS.F ht9⟩) hS.2.2 dX11_about_98
    · refine ow_top 5 ((ow_eq _ _).mpr (by rw [h3sw_1]; decide)) ?_
      refine lv_tableIn (tgt := 99) hx hb dX11_about_1 (by decide +kernel) (by decide +kernel) rfl (by decide) ?_
      refine lv_aload_n hx hb dX11_about_99 rfl (lv_at hl 0 rfl) ?_
      refine cg_0_10_11 hx hb ht hown hK hN hP hthis.1 hthis.2 dX11_about_100 ?_
      have q_16 : T ≤ (I this 10).toInt ∧ (I this 10).toInt ≤ T := IV.rd hI hthis.1 hthis.2 10
      refine W.widen (k := 0) (n := 0) (Nat.le_of_ble_eq_true rfl) (Nat.le_of_ble_eq_true rfl) ?_
      exact W.iret (v := (I this 10)) hx hb hr (fun t ht9 hW => ⟨⟨(I this 10), (), rfl, trivial, trivial⟩, hS.F ht9⟩) hS.2.2 dX11_about_103
    · refine ow_top 6 ((ow_eq _ _).mpr (by rw [h3sw_1]; decide)) ?_
      refine lv_tableIn (tgt := 104) hx hb dX11_about_1 (by decide +kernel) (by decide +kernel) rfl (by decide) ?_
      refine lv_aload_n hx hb dX11_about_104 rfl (lv_at hl 0 rfl) ?_
      refine cg_0_1_11 hx hb ht hown hK hN hP hthis.1 hthis.2 dX11_about_105 ?_
      have q_17 : 0 ≤ (I this 1).toInt ∧ (I this 1).toInt ≤ 1700 := IV.rd hI hthis.1 hthis.2 1
      refine W.widen (k := 0) (n := 0) (Nat.le_of_ble_eq_true rfl) (Nat.le_of_ble_eq_true rfl) ?_
      exact W.iret (v := (I this 1)) hx hb hr (fun t ht9 hW => ⟨⟨(I this 1), (), rfl, trivial, trivial⟩, hS.F ht9⟩) hS.2.2 dX11_about_108
    · refine ow_top 7 ((ow_eq _ _).mpr (by rw [h3sw_1]; decide)) ?_
      refine lv_tableIn (tgt := 109) hx hb dX11_about_1 (by decide +kernel) (by decide +kernel) rfl (by decide) ?_
      refine lv_aload_n hx hb dX11_about_109 rfl (lv_at hl 0 rfl) ?_
      refine cg_0_2_11 hx hb ht hown hK hN hP hthis.1 hthis.2 dX11_about_110 ?_
      have hm_18 : (R this 2) ∈ L ∧ K (R this 2) = 1 := RT.o hRT hthis.1 hthis.2 2 (by decide)
      refine cg_1_7_11 hx hb ht hown hK hN hP hm_18.1 hm_18.2 dX11_about_113 ?_
      refine W.widen (k := 0) (n := 0) (Nat.le_of_ble_eq_true rfl) (Nat.le_of_ble_eq_true rfl) ?_
      exact W.iret (v := (I (R this 2) 7)) hx hb hr (fun t ht9 hW => ⟨⟨(I (R this 2) 7), (), rfl, trivial, trivial⟩, hS.F ht9⟩) hS.2.2 dX11_about_116
set_option maxHeartbeats 4000000 in
set_option maxRecDepth 100000 in
theorem x_image (l : Launch) (G : va_G) (cy : Nat → ClassId) (sz : Nat) (L : List Nat) (K : Nat → Nat) (R : Nat → Nat → Nat) (T : Int) (I E : Nat → Nat → Int32) (J B : Nat → Nat → Int64) (this : Nat) (n : Int32) (hRT : RT L K R) (hI : IV T L K I) (hE : EV L K E) (hthis1 : this ∈ L) (hthis2 : K this = 0) : Met l yX11_image (.code yX11_image cX11_image 2 (some .int) :: TBg) ({ frames := 4, cells := 0, slots := 0, locals := 256 }) (va_Pc [.ref this, .int n] (En G cy (WC cy L K R I J E B) sz)) (va_Qi (fun (r : Int32) (u : (Nat → Nat → Int32) × (Nat → Nat → Int64) × (Nat → Nat → Int32) × (Nat → Nat → Int64)) => IV T L K u.1 ∧ EV L K u.2.2.1 ∧ FI [(3, 2), (7, 1), (7, 2), (7, 4)] K I u.1 ∧ (True)) (fun u t => Ex G (va_A (WC cy L K R I J E B) sz) (WC cy L K R u.1 u.2.1 u.2.2.1 u.2.2.2) t) (va_A (WC cy L K R I J E B) sz)) 0 0 (va_A (WC cy L K R I J E B) sz) := by
  have hthis : this ∈ L ∧ K this = 0 := ⟨hthis1, hthis2⟩
  refine Met.ofW (cc := cX11_image) (maxL := 2) (ret := (some .int)) (by decide) rfl ?_
  intro p e s m args below meth c s₁ B9 hml hv9
  obtain ⟨rfl, hsz, hP, hK, hD0, hN⟩ := hv9
  have hx := B9.exec
  have hb := B9.bytes
  have hr := B9.returns
  have hts := atoms_spec (ws := .code yX11_image cX11_image 2 (some .int) :: TBg) B9.pre
  have ht : ∀ w ∈ TBg, w.before _ s = true := fun w h => hts w (List.mem_cons_of_mem _ h)
  have hown : s.vm.findClass RX11 = some m.cls := findClass_of_methodNamed B9.named
  have hlocks := B9.notSynchronized
  subst hsz
  have hD := hD0.self (sz := s.heap.size)
  generalize hAe : va_A (WC cy L K R I J E B) s.heap.size = A at hD ⊢
  have hA : ∀ q : Nat, s.heap.size ≤ q → A q := fun q h => by rw [← hAe]; exact Or.inr h
  have hS : va_S A s.heap s.heap [] := va_S.rf
  have hl := lv_entry ([.ref this, .int n]) (n := 2) (Nat.le_of_ble_eq_true rfl)
  rw [lg_entry_eq]
  generalize (lg_sl ([.ref this, .int n]) ++ List.replicate (2 - (lg_sl ([.ref this, .int n])).length) Slot.unset).toArray = ls at hl ⊢
  have hl : lv_has ls 2 [(0, .ref this), (1, .int n)] := hl
  have z0 : (-1 : Int32).toInt = -1 := by decide
  have z1 : (0 : Int32).toInt = 0 := by decide
  have z2 : (1 : Int32).toInt = 1 := by decide
  have z3 : (3 : Int32).toInt = 3 := by decide
  have hC_0 : FI [(3, 2), (7, 1), (7, 2), (7, 4)] K I I := FI.rf
  refine lv_iload_n hx hb dX11_image_0 rfl (lv_at hl 1 rfl) ?_
  refine lv_if_lt (tgt := 13) hx hb dX11_image_1 (by decide) (fun c_1 => ?_) (fun c_1 => ?_)
  · have q_2 : n.toInt < (0 : Int32).toInt := (ow_lt _ _).mp c_1
    refine lv_iconst (v := (-1)) hx hb dX11_image_13 (by decide) ?_
    refine W.widen (k := 0) (n := 0) (Nat.le_of_ble_eq_true rfl) (Nat.le_of_ble_eq_true rfl) ?_
    exact W.iret (v := (-1)) hx hb hr (fun t ht9 hW => ⟨⟨(-1), (I, J, E, B), rfl, ⟨hI, hE, hC_0, trivial⟩, ⟨by rw [ht9]; exact hP, hD⟩⟩, hS.F ht9⟩) hS.2.2 dX11_image_14
  · have q_3 : (0 : Int32).toInt ≤ n.toInt := by have := (not_congr (ow_lt _ _)).mp c_1; omega
    refine lv_iload_n hx hb dX11_image_4 rfl (lv_at hl 1 rfl) ?_
    refine lv_aload_n hx hb dX11_image_5 rfl (lv_at hl 0 rfl) ?_
    refine cg_0_7_11 hx hb ht hown hK hN hP hthis.1 hthis.2 dX11_image_6 ?_
    have hm_4 : (R this 7) ∈ L ∧ K (R this 7) = 35 := RT.o hRT hthis.1 hthis.2 7 (by decide)
    refine cn_35 hx hb hK hP hm_4.1 hm_4.2 dX11_image_9 ?_
    refine lv_icmp_lt (tgt := 15) hx hb dX11_image_10 (by decide) (fun c_5 => ?_) (fun c_5 => ?_)
    · have q_6 : n.toInt < (3 : Int32).toInt := (ow_lt _ _).mp c_5
      refine lv_aload_n hx hb dX11_image_15 rfl (lv_at hl 0 rfl) ?_
      refine cg_0_7_11 hx hb ht hown hK hN hP hthis.1 hthis.2 dX11_image_16 ?_
      refine lv_iload_n hx hb dX11_image_19 rfl (lv_at hl 1 rfl) ?_
      have q_7 : vp_in n 3 := vp_in_iff.mpr ⟨by omega, by omega⟩
      refine cl_35 hx hb hK hP hm_4.1 hm_4.2 q_7 dX11_image_20 ?_
      have hm_8 : (R (R this 7) (Int32.toNatClampNeg n)) ∈ L ∧ K (R (R this 7) (Int32.toNatClampNeg n)) = 7 := RT.a hRT hm_4.1 hm_4.2 (by decide) q_7
      refine lv_aload_n hx hb dX11_image_21 rfl (lv_at hl 0 rfl) ?_
      refine cg_0_6_11 hx hb ht hown hK hN hP hthis.1 hthis.2 dX11_image_22 ?_
      have hm_9 : (R this 6) ∈ L ∧ K (R this 6) = 7 := RT.o hRT hthis.1 hthis.2 6 (by decide)
      have hFc := fr_free hD hS hA
      refine va_callv (va_runV (As := [.ref (R this 6)]) (rest := []) ⟨hx, hb, hml, hown, ht⟩ (c_slike l G cy _ L K R T I E J B (R (R this 7) (Int32.toNatClampNeg n)) (R this 6) hRT hI hE hm_8.1 hm_8.2 hm_9.1 hm_9.2) (cwV 1 ht (gv k_593 k_594 k_595 k_596 k_592) rfl rfl rfl (by decide +kernel) ⟨Nat.le_of_ble_eq_true rfl, Nat.le_of_ble_eq_true rfl⟩) ⟨En.blind, cr_7 hK hP hm_8.1 hm_8.2, fun U hU hW => ⟨rfl, En.of hU hW hP hK hD hN⟩⟩ rfl rfl hl.1 rfl (lv_room (Nat.le_of_ble_eq_true rfl)) dX11_image_25 ⟨Nat.le_of_ble_eq_true rfl, Nat.le_of_ble_eq_true rfl⟩) hS (fun q _ h => hFc q h) hFc (fun u_10 t9 H locs ht9 hvm hw hB hz1 hk1 hS => ?_)
      obtain ⟨I10, J10, E10, B10⟩ := u_10
      obtain ⟨hP1, hD1⟩ := hB
      rw [ht9] at hP1
      clear hI hE
      obtain ⟨hI, hE, xu_10I, wu_10⟩ := hw
      dsimp only at hI hE xu_10I wu_10
      have hP : va_P G vwCl (WC cy L K R I10 J10 E10 B10) H := hP1
      have hD : va_D A (WC cy L K R I10 J10 E10 B10) := hD1.weaken (fun _ _ _ h => hFc _ h)
      clear hFc hk1 hz1 hP1 hD1
      replace hC_0 := FI.tr hC_0 xu_10I (by decide)
      refine lv_aload_n hx hb dX11_image_28 rfl (lv_at hl 0 rfl) ?_
      refine cg_0_7_11 hx hb ht hown hK hN hP hthis.1 hthis.2 dX11_image_29 ?_
      refine lv_iload_n hx hb dX11_image_32 rfl (lv_at hl 1 rfl) ?_
      have q_11 : vp_in n 3 := vp_in_iff.mpr ⟨by omega, by omega⟩
      refine cl_35 hx hb hK hP hm_4.1 hm_4.2 q_11 dX11_image_33 ?_
      have hm_12 : (R (R this 7) (Int32.toNatClampNeg n)) ∈ L ∧ K (R (R this 7) (Int32.toNatClampNeg n)) = 7 := RT.a hRT hm_4.1 hm_4.2 (by decide) q_11
      refine lv_iconst (v := 1) hx hb dX11_image_34 (by decide) ?_
      refine cp_7_4_11 (by omega) hx hb ht hown hK hN hP hD hS hm_12.1 hm_12.2 dX11_image_35 (fun H locs hP hD hS => ?_)
      replace hI := IV.up hI hm_12.2 4 (show 0 ≤ (1 : Int32).toInt ∧ (1 : Int32).toInt ≤ 1 from by omega)
      have f_13 : FI [(7, 4)] K I10 (va_up I10 (R (R this 7) (Int32.toNatClampNeg n)) (va_up (I10 (R (R this 7) (Int32.toNatClampNeg n))) 4 1)) := FI.up hm_12.2 4 (1 : Int32)
      have e_14 : (va_up I10 (R (R this 7) (Int32.toNatClampNeg n)) (va_up (I10 (R (R this 7) (Int32.toNatClampNeg n))) 4 1)) (R (R this 7) (Int32.toNatClampNeg n)) 4 = 1 := FI.at I10 (R (R this 7) (Int32.toNatClampNeg n)) 4 (1 : Int32)
      replace hC_0 := FI.tr hC_0 f_13 (by decide)
      generalize (va_up I10 (R (R this 7) (Int32.toNatClampNeg n)) (va_up (I10 (R (R this 7) (Int32.toNatClampNeg n))) 4 1)) = I_15 at hP hD hI f_13 e_14 hC_0
      refine lv_aload_n hx hb dX11_image_38 rfl (lv_at hl 0 rfl) ?_
      refine cg_0_6_11 hx hb ht hown hK hN hP hthis.1 hthis.2 dX11_image_39 ?_
      refine cg_7_0_11 hx hb ht hown hK hN hP hm_9.1 hm_9.2 dX11_image_42 ?_
      have hm_16 : (R (R this 6) 0) ∈ L ∧ K (R (R this 6) 0) = 3 := RT.o hRT hm_9.1 hm_9.2 0 (by decide)
      refine cg_3_2_11 hx hb ht hown hK hN hP hm_16.1 hm_16.2 dX11_image_45 ?_
      have q_17 : 0 ≤ (I_15 (R (R this 6) 0) 2).toInt ∧ (I_15 (R (R this 6) 0) 2).toInt ≤ 40 := IV.rd hI hm_16.1 hm_16.2 2
      refine W.widen (k := 0) (n := 0) (Nat.le_of_ble_eq_true rfl) (Nat.le_of_ble_eq_true rfl) ?_
      exact W.iret (v := (I_15 (R (R this 6) 0) 2)) hx hb hr (fun t ht9 hW => ⟨⟨(I_15 (R (R this 6) 0) 2), (I_15, J10, E10, B10), rfl, ⟨hI, hE, hC_0, trivial⟩, ⟨by rw [ht9]; exact hP, hD⟩⟩, hS.F ht9⟩) hS.2.2 dX11_image_48
    · have q_18 : (3 : Int32).toInt ≤ n.toInt := by have := (not_congr (ow_lt _ _)).mp c_5; omega
      refine lv_iconst (v := (-1)) hx hb dX11_image_13 (by decide) ?_
      refine W.widen (k := 0) (n := 0) (Nat.le_of_ble_eq_true rfl) (Nat.le_of_ble_eq_true rfl) ?_
      exact W.iret (v := (-1)) hx hb hr (fun t ht9 hW => ⟨⟨(-1), (I, J, E, B), rfl, ⟨hI, hE, hC_0, trivial⟩, ⟨by rw [ht9]; exact hP, hD⟩⟩, hS.F ht9⟩) hS.2.2 dX11_image_14
set_option maxHeartbeats 4000000 in
set_option maxRecDepth 100000 in
theorem x_back (l : Launch) (G : va_G) (cy : Nat → ClassId) (sz : Nat) (L : List Nat) (K : Nat → Nat) (R : Nat → Nat → Nat) (T : Int) (I E : Nat → Nat → Int32) (J B : Nat → Nat → Int64) (this : Nat) (n : Int32) (hRT : RT L K R) (hI : IV T L K I) (hE : EV L K E) (hthis1 : this ∈ L) (hthis2 : K this = 0) : Met l yX11_back (.code yX11_back cX11_back 2 (some .int) :: TBg) ({ frames := 5, cells := 0, slots := 0, locals := 320 }) (va_Pc [.ref this, .int n] (En G cy (WC cy L K R I J E B) sz)) (va_Qi (fun (r : Int32) (u : (Nat → Nat → Int32) × (Nat → Nat → Int64) × (Nat → Nat → Int32) × (Nat → Nat → Int64)) => IV T L K u.1 ∧ EV L K u.2.2.1 ∧ FI [(3, 2), (4, 4), (7, 1), (7, 2)] K I u.1 ∧ (True)) (fun u t => Ex G (va_A (WC cy L K R I J E B) sz) (WC cy L K R u.1 u.2.1 u.2.2.1 u.2.2.2) t) (va_A (WC cy L K R I J E B) sz)) 0 0 (va_A (WC cy L K R I J E B) sz) := by
  have hthis : this ∈ L ∧ K this = 0 := ⟨hthis1, hthis2⟩
  refine Met.ofW (cc := cX11_back) (maxL := 2) (ret := (some .int)) (by decide) rfl ?_
  intro p e s m args below meth c s₁ B9 hml hv9
  obtain ⟨rfl, hsz, hP, hK, hD0, hN⟩ := hv9
  have hx := B9.exec
  have hb := B9.bytes
  have hr := B9.returns
  have hts := atoms_spec (ws := .code yX11_back cX11_back 2 (some .int) :: TBg) B9.pre
  have ht : ∀ w ∈ TBg, w.before _ s = true := fun w h => hts w (List.mem_cons_of_mem _ h)
  have hown : s.vm.findClass RX11 = some m.cls := findClass_of_methodNamed B9.named
  have hlocks := B9.notSynchronized
  subst hsz
  have hD := hD0.self (sz := s.heap.size)
  generalize hAe : va_A (WC cy L K R I J E B) s.heap.size = A at hD ⊢
  have hA : ∀ q : Nat, s.heap.size ≤ q → A q := fun q h => by rw [← hAe]; exact Or.inr h
  have hS : va_S A s.heap s.heap [] := va_S.rf
  have hl := lv_entry ([.ref this, .int n]) (n := 2) (Nat.le_of_ble_eq_true rfl)
  rw [lg_entry_eq]
  generalize (lg_sl ([.ref this, .int n]) ++ List.replicate (2 - (lg_sl ([.ref this, .int n])).length) Slot.unset).toArray = ls at hl ⊢
  have hl : lv_has ls 2 [(0, .ref this), (1, .int n)] := hl
  have z0 : (-1 : Int32).toInt = -1 := by decide
  have z1 : (0 : Int32).toInt = 0 := by decide
  have z2 : (3 : Int32).toInt = 3 := by decide
  have hC_0 : FI [(3, 2), (4, 4), (7, 1), (7, 2)] K I I := FI.rf
  refine lv_iload_n hx hb dX11_back_0 rfl (lv_at hl 1 rfl) ?_
  refine lv_if_lt (tgt := 25) hx hb dX11_back_1 (by decide) (fun c_1 => ?_) (fun c_1 => ?_)
  · have q_2 : n.toInt < (0 : Int32).toInt := (ow_lt _ _).mp c_1
    refine lv_iconst (v := (-1)) hx hb dX11_back_25 (by decide) ?_
    refine W.widen (k := 0) (n := 0) (Nat.le_of_ble_eq_true rfl) (Nat.le_of_ble_eq_true rfl) ?_
    exact W.iret (v := (-1)) hx hb hr (fun t ht9 hW => ⟨⟨(-1), (I, J, E, B), rfl, ⟨hI, hE, hC_0, trivial⟩, ⟨by rw [ht9]; exact hP, hD⟩⟩, hS.F ht9⟩) hS.2.2 dX11_back_26
  · have q_3 : (0 : Int32).toInt ≤ n.toInt := by have := (not_congr (ow_lt _ _)).mp c_1; omega
    refine lv_iload_n hx hb dX11_back_4 rfl (lv_at hl 1 rfl) ?_
    refine lv_aload_n hx hb dX11_back_5 rfl (lv_at hl 0 rfl) ?_
    refine cg_0_7_11 hx hb ht hown hK hN hP hthis.1 hthis.2 dX11_back_6 ?_
    have hm_4 : (R this 7) ∈ L ∧ K (R this 7) = 35 := RT.o hRT hthis.1 hthis.2 7 (by decide)
    refine cn_35 hx hb hK hP hm_4.1 hm_4.2 dX11_back_9 ?_
    refine lv_icmp_ge (tgt := 25) hx hb dX11_back_10 (by decide) (fun c_5 => ?_) (fun c_5 => ?_)
    · have q_6 : (3 : Int32).toInt ≤ n.toInt := (ow_le _ _).mp c_5
      refine lv_iconst (v := (-1)) hx hb dX11_back_25 (by decide) ?_
      refine W.widen (k := 0) (n := 0) (Nat.le_of_ble_eq_true rfl) (Nat.le_of_ble_eq_true rfl) ?_
      exact W.iret (v := (-1)) hx hb hr (fun t ht9 hW => ⟨⟨(-1), (I, J, E, B), rfl, ⟨hI, hE, hC_0, trivial⟩, ⟨by rw [ht9]; exact hP, hD⟩⟩, hS.F ht9⟩) hS.2.2 dX11_back_26
    · have q_7 : n.toInt < (3 : Int32).toInt := by have := (not_congr (ow_le _ _)).mp c_5; omega
      refine lv_aload_n hx hb dX11_back_13 rfl (lv_at hl 0 rfl) ?_
      refine cg_0_7_11 hx hb ht hown hK hN hP hthis.1 hthis.2 dX11_back_14 ?_
      refine lv_iload_n hx hb dX11_back_17 rfl (lv_at hl 1 rfl) ?_
      have q_8 : vp_in n 3 := vp_in_iff.mpr ⟨by omega, by omega⟩
      refine cl_35 hx hb hK hP hm_4.1 hm_4.2 q_8 dX11_back_18 ?_
      have hm_9 : (R (R this 7) (Int32.toNatClampNeg n)) ∈ L ∧ K (R (R this 7) (Int32.toNatClampNeg n)) = 7 := RT.a hRT hm_4.1 hm_4.2 (by decide) q_8
      refine cg_7_4_11 hx hb ht hown hK hN hP hm_9.1 hm_9.2 dX11_back_19 ?_
      have q_10 : 0 ≤ (I (R (R this 7) (Int32.toNatClampNeg n)) 4).toInt ∧ (I (R (R this 7) (Int32.toNatClampNeg n)) 4).toInt ≤ 1 := IV.rd hI hm_9.1 hm_9.2 4
      refine lv_if_ne (tgt := 27) hx hb dX11_back_22 (by decide) (fun c_11 => ?_) (fun c_11 => ?_)
      · have q_12 : ¬ (I (R (R this 7) (Int32.toNatClampNeg n)) 4).toInt = (0 : Int32).toInt := by have := (not_congr (ow_eq _ _)).mp c_11; omega
        refine lv_aload_n hx hb dX11_back_27 rfl (lv_at hl 0 rfl) ?_
        refine cg_0_6_11 hx hb ht hown hK hN hP hthis.1 hthis.2 dX11_back_28 ?_
        have hm_13 : (R this 6) ∈ L ∧ K (R this 6) = 7 := RT.o hRT hthis.1 hthis.2 6 (by decide)
        refine lv_aload_n hx hb dX11_back_31 rfl (lv_at hl 0 rfl) ?_
        refine cg_0_7_11 hx hb ht hown hK hN hP hthis.1 hthis.2 dX11_back_32 ?_
        refine lv_iload_n hx hb dX11_back_35 rfl (lv_at hl 1 rfl) ?_
        have q_14 : vp_in n 3 := vp_in_iff.mpr ⟨by omega, by omega⟩
        refine cl_35 hx hb hK hP hm_4.1 hm_4.2 q_14 dX11_back_36 ?_
        have hm_15 : (R (R this 7) (Int32.toNatClampNeg n)) ∈ L ∧ K (R (R this 7) (Int32.toNatClampNeg n)) = 7 := RT.a hRT hm_4.1 hm_4.2 (by decide) q_14
        have hFc := fr_free hD hS hA
        refine va_callv (va_runV (As := [.ref (R (R this 7) (Int32.toNatClampNeg n))]) (rest := []) ⟨hx, hb, hml, hown, ht⟩ (c_slike l G cy _ L K R T I E J B (R this 6) (R (R this 7) (Int32.toNatClampNeg n)) hRT hI hE hm_13.1 hm_13.2 hm_15.1 hm_15.2) (cwV 1 ht (gv k_593 k_594 k_595 k_596 k_592) rfl rfl rfl (by decide +kernel) ⟨Nat.le_of_ble_eq_true rfl, Nat.le_of_ble_eq_true rfl⟩) ⟨En.blind, cr_7 hK hP hm_13.1 hm_13.2, fun U hU hW => ⟨rfl, En.of hU hW hP hK hD hN⟩⟩ rfl rfl hl.1 rfl (lv_room (Nat.le_of_ble_eq_true rfl)) dX11_back_37 ⟨Nat.le_of_ble_eq_true rfl, Nat.le_of_ble_eq_true rfl⟩) hS (fun q _ h => hFc q h) hFc (fun u_16 t9 H locs ht9 hvm hw hB hz1 hk1 hS => ?_)
        obtain ⟨I16, J16, E16, B16⟩ := u_16
        obtain ⟨hP1, hD1⟩ := hB
        rw [ht9] at hP1
        clear hI hE
        obtain ⟨hI, hE, xu_16I, wu_16⟩ := hw
        dsimp only at hI hE xu_16I wu_16
        have hP : va_P G vwCl (WC cy L K R I16 J16 E16 B16) H := hP1
        have hD : va_D A (WC cy L K R I16 J16 E16 B16) := hD1.weaken (fun _ _ _ h => hFc _ h)
        clear hFc hk1 hz1 hP1 hD1
        replace hC_0 := FI.tr hC_0 xu_16I (by decide)
        refine lv_aload_n hx hb dX11_back_40 rfl (lv_at hl 0 rfl) ?_
        refine cg_0_8_11 hx hb ht hown hK hN hP hthis.1 hthis.2 dX11_back_41 ?_
        have hm_17 : (R this 8) ∈ L ∧ K (R this 8) = 4 := RT.o hRT hthis.1 hthis.2 8 (by decide)
        refine lv_aload_n hx hb dX11_back_44 rfl (lv_at hl 0 rfl) ?_
        refine cg_0_6_11 hx hb ht hown hK hN hP hthis.1 hthis.2 dX11_back_45 ?_
        refine cg_7_0_11 hx hb ht hown hK hN hP hm_13.1 hm_13.2 dX11_back_48 ?_
        have hm_18 : (R (R this 6) 0) ∈ L ∧ K (R (R this 6) 0) = 3 := RT.o hRT hm_13.1 hm_13.2 0 (by decide)
        refine lv_aload_n hx hb dX11_back_51 rfl (lv_at hl 0 rfl) ?_
        refine cg_0_2_11 hx hb ht hown hK hN hP hthis.1 hthis.2 dX11_back_52 ?_
        have hm_19 : (R this 2) ∈ L ∧ K (R this 2) = 1 := RT.o hRT hthis.1 hthis.2 2 (by decide)
        have hFc := fr_free hD hS hA
        refine va_callv (va_runV (As := [.ref (R (R this 6) 0), .ref (R this 2)]) (rest := []) ⟨hx, hb, hml, hown, ht⟩ (c_hearAll3 l G cy _ L K R T I16 E16 J16 B16 (R this 8) (R (R this 6) 0) (R this 2) hRT hI hE hm_17.1 hm_17.2 hm_18.1 hm_18.2 hm_19.1 hm_19.2) (cwV 2 ht (gv k_569 k_472 k_473 k_431 k_470) rfl rfl rfl (by decide +kernel) ⟨Nat.le_of_ble_eq_true rfl, Nat.le_of_ble_eq_true rfl⟩) ⟨En.blind, cr_4 hK hP hm_17.1 hm_17.2, fun U hU hW => ⟨rfl, En.of hU hW hP hK hD hN⟩⟩ rfl rfl hl.1 rfl (lv_room (Nat.le_of_ble_eq_true rfl)) dX11_back_55 ⟨Nat.le_of_ble_eq_true rfl, Nat.le_of_ble_eq_true rfl⟩) hS (fun q _ h => hFc q h) hFc (fun u_20 t9 H locs ht9 hvm hw hB hz1 hk1 hS => ?_)
        obtain ⟨I20, J20, E20, B20⟩ := u_20
        obtain ⟨hP1, hD1⟩ := hB
        rw [ht9] at hP1
        clear hI hE
        obtain ⟨hI, hE, xu_20I, wu_20⟩ := hw
        dsimp only at hI hE xu_20I wu_20
        have hP : va_P G vwCl (WC cy L K R I20 J20 E20 B20) H := hP1
        have hD : va_D A (WC cy L K R I20 J20 E20 B20) := hD1.weaken (fun _ _ _ h => hFc _ h)
        clear hFc hk1 hz1 hP1 hD1
        replace hC_0 := FI.tr hC_0 xu_20I (by decide)
        refine lv_aload_n hx hb dX11_back_58 rfl (lv_at hl 0 rfl) ?_
        refine cg_0_6_11 hx hb ht hown hK hN hP hthis.1 hthis.2 dX11_back_59 ?_
        refine cg_7_0_11 hx hb ht hown hK hN hP hm_13.1 hm_13.2 dX11_back_62 ?_
        refine cg_3_2_11 hx hb ht hown hK hN hP hm_18.1 hm_18.2 dX11_back_65 ?_
        have q_21 : 0 ≤ (I20 (R (R this 6) 0) 2).toInt ∧ (I20 (R (R this 6) 0) 2).toInt ≤ 40 := IV.rd hI hm_18.1 hm_18.2 2
        refine W.widen (k := 0) (n := 0) (Nat.le_of_ble_eq_true rfl) (Nat.le_of_ble_eq_true rfl) ?_
        exact W.iret (v := (I20 (R (R this 6) 0) 2)) hx hb hr (fun t ht9 hW => ⟨⟨(I20 (R (R this 6) 0) 2), (I20, J20, E20, B20), rfl, ⟨hI, hE, hC_0, trivial⟩, ⟨by rw [ht9]; exact hP, hD⟩⟩, hS.F ht9⟩) hS.2.2 dX11_back_68
      · have q_22 : (I (R (R this 7) (Int32.toNatClampNeg n)) 4).toInt = (0 : Int32).toInt := (ow_eq _ _).mp c_11
        refine lv_iconst (v := (-1)) hx hb dX11_back_25 (by decide) ?_
        refine W.widen (k := 0) (n := 0) (Nat.le_of_ble_eq_true rfl) (Nat.le_of_ble_eq_true rfl) ?_
        exact W.iret (v := (-1)) hx hb hr (fun t ht9 hW => ⟨⟨(-1), (I, J, E, B), rfl, ⟨hI, hE, hC_0, trivial⟩, ⟨by rw [ht9]; exact hP, hD⟩⟩, hS.F ht9⟩) hS.2.2 dX11_back_26
