theorem k_125 : (Cond.constant RX12 426 (100000)) ∈ TBg := tb_mem 1536 (by decide +kernel) (by decide +kernel)
theorem dX12_silence_0 : decode cX12_silence 0 = .ok (.aload_n 0, 1) := by decide +kernel
theorem dX12_silence_1 : decode cX12_silence 1 = .ok (.getfield 236, 3) := by decide +kernel
theorem dX12_silence_4 : decode cX12_silence 4 = .ok (.istore_n 1, 1) := by decide +kernel
theorem dX12_silence_5 : decode cX12_silence 5 = .ok (.aload_n 0, 1) := by decide +kernel
theorem dX12_silence_6 : decode cX12_silence 6 = .ok (.iconst 0, 1) := by decide +kernel
theorem dX12_silence_7 : decode cX12_silence 7 = .ok (.putfield 236, 3) := by decide +kernel
theorem dX12_silence_10 : decode cX12_silence 10 = .ok (.iload_n 1, 1) := by decide +kernel
theorem dX12_silence_11 : decode cX12_silence 11 = .ok (.ireturn, 1) := by decide +kernel
theorem dX12_shut_0 : decode cX12_shut 0 = .ok (.aload_n 0, 1) := by decide +kernel
theorem dX12_shut_1 : decode cX12_shut 1 = .ok (.iload_n 1, 1) := by decide +kernel
theorem dX12_shut_2 : decode cX12_shut 2 = .ok (.invokevirtual 369, 3) := by decide +kernel
theorem dX12_shut_5 : decode cX12_shut 5 = .ok (.ifCond .eq 12, 3) := by decide +kernel
theorem dX12_shut_17 : decode cX12_shut 17 = .ok (.iconst 0, 1) := by decide +kernel
theorem dX12_shut_18 : decode cX12_shut 18 = .ok (.ireturn, 1) := by decide +kernel
theorem dX12_shut_8 : decode cX12_shut 8 = .ok (.aload_n 0, 1) := by decide +kernel
theorem dX12_shut_9 : decode cX12_shut 9 = .ok (.getfield 77, 3) := by decide +kernel
theorem dX12_shut_12 : decode cX12_shut 12 = .ok (.iload_n 1, 1) := by decide +kernel
theorem dX12_shut_13 : decode cX12_shut 13 = .ok (.baload, 1) := by decide +kernel
theorem dX12_shut_14 : decode cX12_shut 14 = .ok (.ifCond .ne 5, 3) := by decide +kernel
theorem dX12_shut_19 : decode cX12_shut 19 = .ok (.aload_n 0, 1) := by decide +kernel
theorem dX12_shut_20 : decode cX12_shut 20 = .ok (.getfield 77, 3) := by decide +kernel
theorem dX12_shut_23 : decode cX12_shut 23 = .ok (.iload_n 1, 1) := by decide +kernel
theorem dX12_shut_24 : decode cX12_shut 24 = .ok (.iconst 0, 1) := by decide +kernel
theorem dX12_shut_25 : decode cX12_shut 25 = .ok (.bastore, 1) := by decide +kernel
theorem dX12_shut_26 : decode cX12_shut 26 = .ok (.iconst 1, 1) := by decide +kernel
theorem dX12_shut_27 : decode cX12_shut 27 = .ok (.ireturn, 1) := by decide +kernel
theorem dX12_night_0 : decode cX12_night 0 = .ok (.aload_n 0, 1) := by decide +kernel
theorem dX12_night_1 : decode cX12_night 1 = .ok (.getfield 239, 3) := by decide +kernel
theorem dX12_night_4 : decode cX12_night 4 = .ok (.istore_n 2, 1) := by decide +kernel
theorem dX12_night_5 : decode cX12_night 5 = .ok (.aload_n 0, 1) := by decide +kernel
theorem dX12_night_6 : decode cX12_night 6 = .ok (.iload_n 1, 1) := by decide +kernel
theorem dX12_night_7 : decode cX12_night 7 = .ok (.putfield 239, 3) := by decide +kernel
theorem dX12_night_10 : decode cX12_night 10 = .ok (.iload_n 2, 1) := by decide +kernel
theorem dX12_night_11 : decode cX12_night 11 = .ok (.iload_n 1, 1) := by decide +kernel
theorem dX12_night_12 : decode cX12_night 12 = .ok (.if_icmp .eq 7, 3) := by decide +kernel
theorem dX12_night_19 : decode cX12_night 19 = .ok (.iconst 0, 1) := by decide +kernel
theorem dX12_night_20 : decode cX12_night 20 = .ok (.ireturn, 1) := by decide +kernel
theorem dX12_night_15 : decode cX12_night 15 = .ok (.iconst 1, 1) := by decide +kernel
theorem dX12_night_16 : decode cX12_night 16 = .ok (.goto 4, 3) := by decide +kernel
theorem dX12_end_0 : decode cX12_end 0 = .ok (.iload_n 1, 1) := by decide +kernel
theorem dX12_end_1 : decode cX12_end 1 = .ok (.ifCond .lt 11, 3) := by decide +kernel
theorem dX12_end_12 : decode cX12_end 12 = .ok (.iconst (-1), 1) := by decide +kernel
theorem dX12_end_13 : decode cX12_end 13 = .ok (.ireturn, 1) := by decide +kernel
theorem dX12_end_4 : decode cX12_end 4 = .ok (.iload_n 1, 1) := by decide +kernel
theorem dX12_end_5 : decode cX12_end 5 = .ok (.aload_n 0, 1) := by decide +kernel
theorem dX12_end_6 : decode cX12_end 6 = .ok (.getfield 224, 3) := by decide +kernel
theorem dX12_end_9 : decode cX12_end 9 = .ok (.if_icmp .le 5, 3) := by decide +kernel
theorem dX12_end_14 : decode cX12_end 14 = .ok (.aload_n 0, 1) := by decide +kernel
theorem dX12_end_15 : decode cX12_end 15 = .ok (.iload_n 1, 1) := by decide +kernel
theorem dX12_end_16 : decode cX12_end 16 = .ok (.putfield 224, 3) := by decide +kernel
theorem dX12_end_19 : decode cX12_end 19 = .ok (.iload_n 1, 1) := by decide +kernel
theorem dX12_end_20 : decode cX12_end 20 = .ok (.ireturn, 1) := by decide +kernel
theorem dX12_watch_0 : decode cX12_watch 0 = .ok (.aload_n 0, 1) := by decide +kernel
theorem dX12_watch_1 : decode cX12_watch 1 = .ok (.iload_n 1, 1) := by decide +kernel
theorem dX12_watch_2 : decode cX12_watch 2 = .ok (.invokevirtual 369, 3) := by decide +kernel
theorem dX12_watch_5 : decode cX12_watch 5 = .ok (.ifCond .eq 12, 3) := by decide +kernel
theorem dX12_watch_17 : decode cX12_watch 17 = .ok (.iconst (-1), 1) := by decide +kernel
theorem dX12_watch_18 : decode cX12_watch 18 = .ok (.ireturn, 1) := by decide +kernel
theorem dX12_watch_8 : decode cX12_watch 8 = .ok (.aload_n 0, 1) := by decide +kernel
theorem dX12_watch_9 : decode cX12_watch 9 = .ok (.getfield 233, 3) := by decide +kernel
theorem dX12_watch_12 : decode cX12_watch 12 = .ok (.bipush 30, 2) := by decide +kernel
theorem dX12_watch_14 : decode cX12_watch 14 = .ok (.if_icmp .ne 5, 3) := by decide +kernel
theorem dX12_watch_19 : decode cX12_watch 19 = .ok (.aload_n 0, 1) := by decide +kernel
theorem dX12_watch_20 : decode cX12_watch 20 = .ok (.getfield 98, 3) := by decide +kernel
theorem dX12_watch_23 : decode cX12_watch 23 = .ok (.aload_n 0, 1) := by decide +kernel
theorem dX12_watch_24 : decode cX12_watch 24 = .ok (.getfield 233, 3) := by decide +kernel
theorem dX12_watch_27 : decode cX12_watch 27 = .ok (.iload_n 1, 1) := by decide +kernel
theorem dX12_watch_28 : decode cX12_watch 28 = .ok (.iastore, 1) := by decide +kernel
theorem dX12_watch_29 : decode cX12_watch 29 = .ok (.aload_n 0, 1) := by decide +kernel
theorem dX12_watch_30 : decode cX12_watch 30 = .ok (.getfield 107, 3) := by decide +kernel
theorem dX12_watch_33 : decode cX12_watch 33 = .ok (.aload_n 0, 1) := by decide +kernel
theorem dX12_watch_34 : decode cX12_watch 34 = .ok (.getfield 233, 3) := by decide +kernel
theorem dX12_watch_37 : decode cX12_watch 37 = .ok (.iload_n 2, 1) := by decide +kernel
theorem dX12_watch_38 : decode cX12_watch 38 = .ok (.bastore, 1) := by decide +kernel
theorem dX12_watch_39 : decode cX12_watch 39 = .ok (.aload_n 0, 1) := by decide +kernel
theorem dX12_watch_40 : decode cX12_watch 40 = .ok (.getfield 110, 3) := by decide +kernel
theorem dX12_watch_43 : decode cX12_watch 43 = .ok (.aload_n 0, 1) := by decide +kernel
theorem dX12_watch_44 : decode cX12_watch 44 = .ok (.getfield 233, 3) := by decide +kernel
theorem dX12_watch_47 : decode cX12_watch 47 = .ok (.iload_n 3, 1) := by decide +kernel
theorem dX12_watch_48 : decode cX12_watch 48 = .ok (.bastore, 1) := by decide +kernel
theorem dX12_watch_49 : decode cX12_watch 49 = .ok (.aload_n 0, 1) := by decide +kernel
theorem dX12_watch_50 : decode cX12_watch 50 = .ok (.getfield 101, 3) := by decide +kernel
theorem dX12_watch_53 : decode cX12_watch 53 = .ok (.aload_n 0, 1) := by decide +kernel
theorem dX12_watch_54 : decode cX12_watch 54 = .ok (.getfield 233, 3) := by decide +kernel
theorem dX12_watch_57 : decode cX12_watch 57 = .ok (.aload_n 0, 1) := by decide +kernel
theorem dX12_watch_58 : decode cX12_watch 58 = .ok (.getfield 423, 3) := by decide +kernel
theorem dX12_watch_61 : decode cX12_watch 61 = .ok (.iastore, 1) := by decide +kernel
theorem dX12_watch_62 : decode cX12_watch 62 = .ok (.aload_n 0, 1) := by decide +kernel
theorem dX12_watch_63 : decode cX12_watch 63 = .ok (.getfield 104, 3) := by decide +kernel
theorem dX12_watch_66 : decode cX12_watch 66 = .ok (.aload_n 0, 1) := by decide +kernel
theorem dX12_watch_67 : decode cX12_watch 67 = .ok (.getfield 233, 3) := by decide +kernel
theorem dX12_watch_70 : decode cX12_watch 70 = .ok (.iconst (-1), 1) := by decide +kernel
theorem dX12_watch_71 : decode cX12_watch 71 = .ok (.iastore, 1) := by decide +kernel
theorem dX12_watch_72 : decode cX12_watch 72 = .ok (.aload_n 0, 1) := by decide +kernel
theorem dX12_watch_73 : decode cX12_watch 73 = .ok (.dup, 1) := by decide +kernel
theorem dX12_watch_74 : decode cX12_watch 74 = .ok (.getfield 233, 3) := by decide +kernel
theorem dX12_watch_77 : decode cX12_watch 77 = .ok (.iconst 1, 1) := by decide +kernel
theorem dX12_watch_78 : decode cX12_watch 78 = .ok (.iadd, 1) := by decide +kernel
theorem dX12_watch_79 : decode cX12_watch 79 = .ok (.putfield 233, 3) := by decide +kernel
theorem dX12_watch_82 : decode cX12_watch 82 = .ok (.aload_n 0, 1) := by decide +kernel
theorem dX12_watch_83 : decode cX12_watch 83 = .ok (.getfield 233, 3) := by decide +kernel
theorem dX12_watch_86 : decode cX12_watch 86 = .ok (.iconst 1, 1) := by decide +kernel
theorem dX12_watch_87 : decode cX12_watch 87 = .ok (.isub, 1) := by decide +kernel
theorem dX12_watch_88 : decode cX12_watch 88 = .ok (.ireturn, 1) := by decide +kernel
theorem dX12_untell_0 : decode cX12_untell 0 = .ok (.iload_n 1, 1) := by decide +kernel
theorem dX12_untell_1 : decode cX12_untell 1 = .ok (.iconst 0, 1) := by decide +kernel
theorem dX12_untell_2 : decode cX12_untell 2 = .ok (.aload_n 0, 1) := by decide +kernel
theorem dX12_untell_3 : decode cX12_untell 3 = .ok (.getfield 233, 3) := by decide +kernel
theorem dX12_untell_6 : decode cX12_untell 6 = .ok (.iconst 1, 1) := by decide +kernel
theorem dX12_untell_7 : decode cX12_untell 7 = .ok (.isub, 1) := by decide +kernel
theorem dX12_untell_8 : decode cX12_untell 8 = .ok (.invokestatic 311, 3) := by decide +kernel
theorem dX12_untell_11 : decode cX12_untell 11 = .ok (.ifCond .eq 12, 3) := by decide +kernel
theorem dX12_untell_23 : decode cX12_untell 23 = .ok (.iconst 0, 1) := by decide +kernel
theorem dX12_untell_24 : decode cX12_untell 24 = .ok (.ireturn, 1) := by decide +kernel
theorem dX12_untell_14 : decode cX12_untell 14 = .ok (.aload_n 0, 1) := by decide +kernel
theorem dX12_untell_15 : decode cX12_untell 15 = .ok (.getfield 104, 3) := by decide +kernel
theorem dX12_untell_18 : decode cX12_untell 18 = .ok (.iload_n 1, 1) := by decide +kernel
theorem dX12_untell_19 : decode cX12_untell 19 = .ok (.iaload, 1) := by decide +kernel
theorem dX12_untell_20 : decode cX12_untell 20 = .ok (.ifCond .lt 5, 3) := by decide +kernel
theorem dX12_untell_25 : decode cX12_untell 25 = .ok (.aload_n 0, 1) := by decide +kernel
theorem dX12_untell_26 : decode cX12_untell 26 = .ok (.getfield 104, 3) := by decide +kernel
theorem dX12_untell_29 : decode cX12_untell 29 = .ok (.iload_n 1, 1) := by decide +kernel
theorem dX12_untell_30 : decode cX12_untell 30 = .ok (.aload_n 0, 1) := by decide +kernel
theorem dX12_untell_31 : decode cX12_untell 31 = .ok (.getfield 423, 3) := by decide +kernel
theorem dX12_untell_34 : decode cX12_untell 34 = .ok (.iastore, 1) := by decide +kernel
theorem dX12_untell_35 : decode cX12_untell 35 = .ok (.iconst 1, 1) := by decide +kernel
theorem dX12_untell_36 : decode cX12_untell 36 = .ok (.ireturn, 1) := by decide +kernel
theorem dX12_later_0 : decode cX12_later 0 = .ok (.iload_n 1, 1) := by decide +kernel
theorem dX12_later_1 : decode cX12_later 1 = .ok (.iconst 0, 1) := by decide +kernel
theorem dX12_later_2 : decode cX12_later 2 = .ok (.sipush 1000, 3) := by decide +kernel
theorem dX12_later_5 : decode cX12_later 5 = .ok (.invokestatic 311, 3) := by decide +kernel
theorem dX12_later_8 : decode cX12_later 8 = .ok (.ifCond .eq 15, 3) := by decide +kernel
theorem dX12_later_23 : decode cX12_later 23 = .ok (.iconst (-1), 1) := by decide +kernel
theorem dX12_later_24 : decode cX12_later 24 = .ok (.ireturn, 1) := by decide +kernel
theorem dX12_later_11 : decode cX12_later 11 = .ok (.aload_n 0, 1) := by decide +kernel
theorem dX12_later_12 : decode cX12_later 12 = .ok (.getfield 423, 3) := by decide +kernel
theorem dX12_later_15 : decode cX12_later 15 = .ok (.iload_n 1, 1) := by decide +kernel
theorem dX12_later_16 : decode cX12_later 16 = .ok (.iadd, 1) := by decide +kernel
theorem dX12_later_17 : decode cX12_later 17 = .ok (.ldc_w 426, 3) := by decide +kernel
theorem dX12_later_20 : decode cX12_later 20 = .ok (.if_icmp .le 5, 3) := by decide +kernel
theorem dX12_later_25 : decode cX12_later 25 = .ok (.aload_n 0, 1) := by decide +kernel
theorem dX12_later_26 : decode cX12_later 26 = .ok (.dup, 1) := by decide +kernel
theorem dX12_later_27 : decode cX12_later 27 = .ok (.getfield 423, 3) := by decide +kernel
theorem dX12_later_30 : decode cX12_later 30 = .ok (.iload_n 1, 1) := by decide +kernel
theorem dX12_later_31 : decode cX12_later 31 = .ok (.iadd, 1) := by decide +kernel
theorem dX12_later_32 : decode cX12_later 32 = .ok (.putfield 423, 3) := by decide +kernel
theorem dX12_later_35 : decode cX12_later 35 = .ok (.aload_n 0, 1) := by decide +kernel
theorem dX12_later_36 : decode cX12_later 36 = .ok (.getfield 423, 3) := by decide +kernel
theorem dX12_later_39 : decode cX12_later 39 = .ok (.ireturn, 1) := by decide +kernel
theorem dX12_feed_0 : decode cX12_feed 0 = .ok (.aload_n 0, 1) := by decide +kernel
theorem dX12_feed_1 : decode cX12_feed 1 = .ok (.getfield 224, 3) := by decide +kernel
theorem dX12_feed_4 : decode cX12_feed 4 = .ok (.bipush 20, 2) := by decide +kernel
theorem dX12_feed_6 : decode cX12_feed 6 = .ok (.iadd, 1) := by decide +kernel
theorem dX12_feed_7 : decode cX12_feed 7 = .ok (.sipush 1700, 3) := by decide +kernel
theorem dX12_feed_10 : decode cX12_feed 10 = .ok (.if_icmp .le 5, 3) := by decide +kernel
theorem dX12_feed_15 : decode cX12_feed 15 = .ok (.iconst 0, 1) := by decide +kernel
theorem dX12_feed_16 : decode cX12_feed 16 = .ok (.istore 6, 2) := by decide +kernel
theorem dX12_feed_18 : decode cX12_feed 18 = .ok (.iload 6, 2) := by decide +kernel
theorem dX12_feed_20 : decode cX12_feed 20 = .ok (.bipush 20, 2) := by decide +kernel
theorem dX12_feed_22 : decode cX12_feed 22 = .ok (.if_icmp .ge 83, 3) := by decide +kernel
theorem dX12_feed_105 : decode cX12_feed 105 = .ok (.aload_n 0, 1) := by decide +kernel
theorem dX12_feed_106 : decode cX12_feed 106 = .ok (.dup, 1) := by decide +kernel
theorem dX12_feed_107 : decode cX12_feed 107 = .ok (.getfield 224, 3) := by decide +kernel
theorem dX12_feed_110 : decode cX12_feed 110 = .ok (.bipush 20, 2) := by decide +kernel
theorem dX12_feed_112 : decode cX12_feed 112 = .ok (.iadd, 1) := by decide +kernel
theorem dX12_feed_113 : decode cX12_feed 113 = .ok (.putfield 224, 3) := by decide +kernel
theorem dX12_feed_116 : decode cX12_feed 116 = .ok (.aload_n 0, 1) := by decide +kernel
theorem dX12_feed_117 : decode cX12_feed 117 = .ok (.getfield 224, 3) := by decide +kernel
theorem dX12_feed_120 : decode cX12_feed 120 = .ok (.ireturn, 1) := by decide +kernel
theorem dX12_feed_25 : decode cX12_feed 25 = .ok (.iload 6, 2) := by decide +kernel
theorem dX12_feed_27 : decode cX12_feed 27 = .ok (.iconst 4, 1) := by decide +kernel
theorem dX12_feed_28 : decode cX12_feed 28 = .ok (.if_icmp .ge 7, 3) := by decide +kernel
theorem dX12_feed_35 : decode cX12_feed 35 = .ok (.iload 6, 2) := by decide +kernel
theorem dX12_feed_37 : decode cX12_feed 37 = .ok (.bipush 8, 2) := by decide +kernel
theorem dX12_feed_39 : decode cX12_feed 39 = .ok (.if_icmp .ge 7, 3) := by decide +kernel
theorem dX12_feed_46 : decode cX12_feed 46 = .ok (.iload 6, 2) := by decide +kernel
theorem dX12_feed_48 : decode cX12_feed 48 = .ok (.bipush 12, 2) := by decide +kernel
theorem dX12_feed_50 : decode cX12_feed 50 = .ok (.if_icmp .ge 7, 3) := by decide +kernel
theorem dX12_feed_57 : decode cX12_feed 57 = .ok (.iload 6, 2) := by decide +kernel
theorem dX12_feed_59 : decode cX12_feed 59 = .ok (.bipush 16, 2) := by decide +kernel
theorem dX12_feed_61 : decode cX12_feed 61 = .ok (.if_icmp .ge 8, 3) := by decide +kernel
theorem dX12_feed_69 : decode cX12_feed 69 = .ok (.iload 5, 2) := by decide +kernel
theorem dX12_feed_71 : decode cX12_feed 71 = .ok (.istore 7, 2) := by decide +kernel
theorem dX12_feed_73 : decode cX12_feed 73 = .ok (.aload_n 0, 1) := by decide +kernel
theorem dX12_feed_74 : decode cX12_feed 74 = .ok (.getfield 7, 3) := by decide +kernel
theorem dX12_feed_77 : decode cX12_feed 77 = .ok (.aload_n 0, 1) := by decide +kernel
theorem dX12_feed_78 : decode cX12_feed 78 = .ok (.getfield 224, 3) := by decide +kernel
theorem dX12_feed_81 : decode cX12_feed 81 = .ok (.iload 6, 2) := by decide +kernel
theorem dX12_feed_83 : decode cX12_feed 83 = .ok (.iadd, 1) := by decide +kernel
theorem dX12_feed_84 : decode cX12_feed 84 = .ok (.iload 7, 2) := by decide +kernel
theorem dX12_feed_86 : decode cX12_feed 86 = .ok (.bipush 24, 2) := by decide +kernel
theorem dX12_feed_88 : decode cX12_feed 88 = .ok (.bipush 8, 2) := by decide +kernel
theorem dX12_feed_90 : decode cX12_feed 90 = .ok (.iload 6, 2) := by decide +kernel
theorem dX12_feed_92 : decode cX12_feed 92 = .ok (.iconst 3, 1) := by decide +kernel
theorem dX12_feed_93 : decode cX12_feed 93 = .ok (.iand, 1) := by decide +kernel
theorem dX12_feed_94 : decode cX12_feed 94 = .ok (.imul, 1) := by decide +kernel
theorem dX12_feed_95 : decode cX12_feed 95 = .ok (.isub, 1) := by decide +kernel
theorem dX12_feed_96 : decode cX12_feed 96 = .ok (.ishr, 1) := by decide +kernel
theorem dX12_feed_97 : decode cX12_feed 97 = .ok (.i2b, 1) := by decide +kernel
theorem dX12_feed_98 : decode cX12_feed 98 = .ok (.bastore, 1) := by decide +kernel
theorem dX12_feed_99 : decode cX12_feed 99 = .ok (.iinc 6 1, 3) := by decide +kernel
theorem dX12_feed_102 : decode cX12_feed 102 = .ok (.goto (-84), 3) := by decide +kernel
theorem dX12_feed_64 : decode cX12_feed 64 = .ok (.iload 4, 2) := by decide +kernel
theorem dX12_feed_66 : decode cX12_feed 66 = .ok (.goto 5, 3) := by decide +kernel
theorem dX12_feed_53 : decode cX12_feed 53 = .ok (.iload_n 3, 1) := by decide +kernel
theorem dX12_feed_54 : decode cX12_feed 54 = .ok (.goto 17, 3) := by decide +kernel
theorem dX12_feed_42 : decode cX12_feed 42 = .ok (.iload_n 2, 1) := by decide +kernel
theorem dX12_feed_43 : decode cX12_feed 43 = .ok (.goto 28, 3) := by decide +kernel
theorem dX12_feed_31 : decode cX12_feed 31 = .ok (.iload_n 1, 1) := by decide +kernel
theorem dX12_feed_32 : decode cX12_feed 32 = .ok (.goto 39, 3) := by decide +kernel
theorem dX12_feed_13 : decode cX12_feed 13 = .ok (.iconst (-1), 1) := by decide +kernel
theorem dX12_feed_14 : decode cX12_feed 14 = .ok (.ireturn, 1) := by decide +kernel
theorem dX12_image_0 : decode cX12_image 0 = .ok (.iload_n 1, 1) := by decide +kernel
theorem dX12_image_1 : decode cX12_image 1 = .ok (.iconst 0, 1) := by decide +kernel
theorem dX12_image_2 : decode cX12_image 2 = .ok (.iconst 2, 1) := by decide +kernel
theorem dX12_image_3 : decode cX12_image 3 = .ok (.invokestatic 311, 3) := by decide +kernel
theorem dX12_image_6 : decode cX12_image 6 = .ok (.ifCond .ne 5, 3) := by decide +kernel
theorem dX12_image_11 : decode cX12_image 11 = .ok (.aload_n 0, 1) := by decide +kernel
theorem dX12_image_12 : decode cX12_image 12 = .ok (.getfield 113, 3) := by decide +kernel
theorem dX12_image_15 : decode cX12_image 15 = .ok (.iload_n 1, 1) := by decide +kernel
theorem dX12_image_16 : decode cX12_image 16 = .ok (.aload_n 0, 1) := by decide +kernel
theorem dX12_image_17 : decode cX12_image 17 = .ok (.getfield 236, 3) := by decide +kernel
theorem dX12_image_20 : decode cX12_image 20 = .ok (.iastore, 1) := by decide +kernel
theorem dX12_image_21 : decode cX12_image 21 = .ok (.aload_n 0, 1) := by decide +kernel
theorem dX12_image_22 : decode cX12_image 22 = .ok (.getfield 128, 3) := by decide +kernel
theorem dX12_image_25 : decode cX12_image 25 = .ok (.iload_n 1, 1) := by decide +kernel
theorem dX12_image_26 : decode cX12_image 26 = .ok (.aload_n 0, 1) := by decide +kernel
theorem dX12_image_27 : decode cX12_image 27 = .ok (.getfield 239, 3) := by decide +kernel
theorem dX12_image_30 : decode cX12_image 30 = .ok (.bastore, 1) := by decide +kernel
theorem dX12_image_31 : decode cX12_image 31 = .ok (.iconst 0, 1) := by decide +kernel
theorem dX12_image_32 : decode cX12_image 32 = .ok (.istore_n 2, 1) := by decide +kernel
theorem dX12_image_33 : decode cX12_image 33 = .ok (.iload_n 2, 1) := by decide +kernel
theorem dX12_image_34 : decode cX12_image 34 = .ok (.bipush 40, 2) := by decide +kernel
theorem dX12_image_36 : decode cX12_image 36 = .ok (.if_icmp .ge 51, 3) := by decide +kernel
theorem dX12_image_87 : decode cX12_image 87 = .ok (.iconst 0, 1) := by decide +kernel
theorem dX12_image_88 : decode cX12_image 88 = .ok (.istore_n 2, 1) := by decide +kernel
theorem dX12_image_89 : decode cX12_image 89 = .ok (.iload_n 2, 1) := by decide +kernel
theorem dX12_image_90 : decode cX12_image 90 = .ok (.bipush 8, 2) := by decide +kernel
theorem dX12_image_92 : decode cX12_image 92 = .ok (.if_icmp .ge 43, 3) := by decide +kernel
theorem dX12_image_135 : decode cX12_image 135 = .ok (.aload_n 0, 1) := by decide +kernel
theorem dX12_image_136 : decode cX12_image 136 = .ok (.getfield 236, 3) := by decide +kernel
theorem dX12_image_139 : decode cX12_image 139 = .ok (.ireturn, 1) := by decide +kernel
theorem dX12_image_95 : decode cX12_image 95 = .ok (.aload_n 0, 1) := by decide +kernel
theorem dX12_image_96 : decode cX12_image 96 = .ok (.getfield 125, 3) := by decide +kernel
theorem dX12_image_99 : decode cX12_image 99 = .ok (.bipush 8, 2) := by decide +kernel
theorem dX12_image_101 : decode cX12_image 101 = .ok (.iload_n 1, 1) := by decide +kernel
theorem dX12_image_102 : decode cX12_image 102 = .ok (.imul, 1) := by decide +kernel
theorem dX12_image_103 : decode cX12_image 103 = .ok (.iload_n 2, 1) := by decide +kernel
theorem dX12_image_104 : decode cX12_image 104 = .ok (.iadd, 1) := by decide +kernel
theorem dX12_image_105 : decode cX12_image 105 = .ok (.aload_n 0, 1) := by decide +kernel
theorem dX12_image_106 : decode cX12_image 106 = .ok (.getfield 77, 3) := by decide +kernel
theorem dX12_image_109 : decode cX12_image 109 = .ok (.iload_n 2, 1) := by decide +kernel
theorem dX12_image_110 : decode cX12_image 110 = .ok (.baload, 1) := by decide +kernel
theorem dX12_image_111 : decode cX12_image 111 = .ok (.bastore, 1) := by decide +kernel
theorem dX12_image_112 : decode cX12_image 112 = .ok (.aload_n 0, 1) := by decide +kernel
theorem dX12_image_113 : decode cX12_image 113 = .ok (.getfield 122, 3) := by decide +kernel
theorem dX12_image_116 : decode cX12_image 116 = .ok (.bipush 8, 2) := by decide +kernel
theorem dX12_image_118 : decode cX12_image 118 = .ok (.iload_n 1, 1) := by decide +kernel
theorem dX12_image_119 : decode cX12_image 119 = .ok (.imul, 1) := by decide +kernel
theorem dX12_image_120 : decode cX12_image 120 = .ok (.iload_n 2, 1) := by decide +kernel
theorem dX12_image_121 : decode cX12_image 121 = .ok (.iadd, 1) := by decide +kernel
theorem dX12_image_122 : decode cX12_image 122 = .ok (.aload_n 0, 1) := by decide +kernel
theorem dX12_image_123 : decode cX12_image 123 = .ok (.getfield 80, 3) := by decide +kernel
theorem dX12_image_126 : decode cX12_image 126 = .ok (.iload_n 2, 1) := by decide +kernel
theorem dX12_image_127 : decode cX12_image 127 = .ok (.iaload, 1) := by decide +kernel
theorem dX12_image_128 : decode cX12_image 128 = .ok (.iastore, 1) := by decide +kernel
theorem dX12_image_129 : decode cX12_image 129 = .ok (.iinc 2 1, 3) := by decide +kernel
theorem dX12_image_132 : decode cX12_image 132 = .ok (.goto (-43), 3) := by decide +kernel
theorem dX12_image_39 : decode cX12_image 39 = .ok (.aload_n 0, 1) := by decide +kernel
theorem dX12_image_40 : decode cX12_image 40 = .ok (.getfield 116, 3) := by decide +kernel
theorem dX12_image_43 : decode cX12_image 43 = .ok (.bipush 40, 2) := by decide +kernel
theorem dX12_image_45 : decode cX12_image 45 = .ok (.iload_n 1, 1) := by decide +kernel
theorem dX12_image_46 : decode cX12_image 46 = .ok (.imul, 1) := by decide +kernel
theorem dX12_image_47 : decode cX12_image 47 = .ok (.iload_n 2, 1) := by decide +kernel
theorem dX12_image_48 : decode cX12_image 48 = .ok (.iadd, 1) := by decide +kernel
theorem dX12_image_49 : decode cX12_image 49 = .ok (.aload_n 0, 1) := by decide +kernel
theorem dX12_image_50 : decode cX12_image 50 = .ok (.getfield 36, 3) := by decide +kernel
theorem dX12_image_53 : decode cX12_image 53 = .ok (.sipush 1120, 3) := by decide +kernel
theorem dX12_image_56 : decode cX12_image 56 = .ok (.iload_n 2, 1) := by decide +kernel
theorem dX12_image_57 : decode cX12_image 57 = .ok (.iadd, 1) := by decide +kernel
theorem dX12_image_58 : decode cX12_image 58 = .ok (.iaload, 1) := by decide +kernel
theorem dX12_image_59 : decode cX12_image 59 = .ok (.iastore, 1) := by decide +kernel
theorem dX12_image_60 : decode cX12_image 60 = .ok (.aload_n 0, 1) := by decide +kernel
theorem dX12_image_61 : decode cX12_image 61 = .ok (.getfield 119, 3) := by decide +kernel
theorem dX12_image_64 : decode cX12_image 64 = .ok (.bipush 40, 2) := by decide +kernel
theorem dX12_image_66 : decode cX12_image 66 = .ok (.iload_n 1, 1) := by decide +kernel
theorem dX12_image_67 : decode cX12_image 67 = .ok (.imul, 1) := by decide +kernel
theorem dX12_image_68 : decode cX12_image 68 = .ok (.iload_n 2, 1) := by decide +kernel
theorem dX12_image_69 : decode cX12_image 69 = .ok (.iadd, 1) := by decide +kernel
theorem dX12_image_70 : decode cX12_image 70 = .ok (.aload_n 0, 1) := by decide +kernel
theorem dX12_image_71 : decode cX12_image 71 = .ok (.getfield 39, 3) := by decide +kernel
theorem dX12_image_74 : decode cX12_image 74 = .ok (.sipush 1120, 3) := by decide +kernel
theorem dX12_image_77 : decode cX12_image 77 = .ok (.iload_n 2, 1) := by decide +kernel
theorem dX12_image_78 : decode cX12_image 78 = .ok (.iadd, 1) := by decide +kernel
theorem dX12_image_79 : decode cX12_image 79 = .ok (.iaload, 1) := by decide +kernel
theorem dX12_image_80 : decode cX12_image 80 = .ok (.iastore, 1) := by decide +kernel
theorem dX12_image_81 : decode cX12_image 81 = .ok (.iinc 2 1, 3) := by decide +kernel
theorem dX12_image_84 : decode cX12_image 84 = .ok (.goto (-51), 3) := by decide +kernel
theorem dX12_image_9 : decode cX12_image 9 = .ok (.iconst (-1), 1) := by decide +kernel
theorem dX12_image_10 : decode cX12_image 10 = .ok (.ireturn, 1) := by decide +kernel
theorem dX12_back_0 : decode cX12_back 0 = .ok (.iload_n 1, 1) := by decide +kernel
theorem dX12_back_1 : decode cX12_back 1 = .ok (.iconst 0, 1) := by decide +kernel
theorem dX12_back_2 : decode cX12_back 2 = .ok (.iconst 2, 1) := by decide +kernel
theorem dX12_back_3 : decode cX12_back 3 = .ok (.invokestatic 311, 3) := by decide +kernel
theorem dX12_back_6 : decode cX12_back 6 = .ok (.ifCond .eq 12, 3) := by decide +kernel
theorem dX12_back_18 : decode cX12_back 18 = .ok (.iconst (-1), 1) := by decide +kernel
theorem dX12_back_19 : decode cX12_back 19 = .ok (.ireturn, 1) := by decide +kernel
theorem dX12_back_9 : decode cX12_back 9 = .ok (.aload_n 0, 1) := by decide +kernel
theorem dX12_back_10 : decode cX12_back 10 = .ok (.getfield 113, 3) := by decide +kernel
theorem dX12_back_13 : decode cX12_back 13 = .ok (.iload_n 1, 1) := by decide +kernel
theorem dX12_back_14 : decode cX12_back 14 = .ok (.iaload, 1) := by decide +kernel
theorem dX12_back_15 : decode cX12_back 15 = .ok (.ifCond .ge 5, 3) := by decide +kernel
theorem dX12_back_20 : decode cX12_back 20 = .ok (.aload_n 0, 1) := by decide +kernel
theorem dX12_back_21 : decode cX12_back 21 = .ok (.aload_n 0, 1) := by decide +kernel
theorem dX12_back_22 : decode cX12_back 22 = .ok (.getfield 113, 3) := by decide +kernel
theorem dX12_back_25 : decode cX12_back 25 = .ok (.iload_n 1, 1) := by decide +kernel
theorem dX12_back_26 : decode cX12_back 26 = .ok (.iaload, 1) := by decide +kernel
theorem dX12_back_27 : decode cX12_back 27 = .ok (.putfield 236, 3) := by decide +kernel
theorem dX12_back_30 : decode cX12_back 30 = .ok (.aload_n 0, 1) := by decide +kernel
theorem dX12_back_31 : decode cX12_back 31 = .ok (.aload_n 0, 1) := by decide +kernel
theorem dX12_back_32 : decode cX12_back 32 = .ok (.getfield 128, 3) := by decide +kernel
theorem dX12_back_35 : decode cX12_back 35 = .ok (.iload_n 1, 1) := by decide +kernel
theorem dX12_back_36 : decode cX12_back 36 = .ok (.baload, 1) := by decide +kernel
theorem dX12_back_37 : decode cX12_back 37 = .ok (.putfield 239, 3) := by decide +kernel
theorem dX12_back_40 : decode cX12_back 40 = .ok (.iconst 0, 1) := by decide +kernel
theorem dX12_back_41 : decode cX12_back 41 = .ok (.istore_n 2, 1) := by decide +kernel
theorem dX12_back_42 : decode cX12_back 42 = .ok (.iload_n 2, 1) := by decide +kernel
theorem dX12_back_43 : decode cX12_back 43 = .ok (.bipush 40, 2) := by decide +kernel
theorem dX12_back_45 : decode cX12_back 45 = .ok (.if_icmp .ge 51, 3) := by decide +kernel
theorem dX12_back_96 : decode cX12_back 96 = .ok (.iconst 0, 1) := by decide +kernel
theorem dX12_back_97 : decode cX12_back 97 = .ok (.istore_n 2, 1) := by decide +kernel
theorem dX12_back_98 : decode cX12_back 98 = .ok (.iload_n 2, 1) := by decide +kernel
theorem dX12_back_99 : decode cX12_back 99 = .ok (.bipush 8, 2) := by decide +kernel
theorem dX12_back_101 : decode cX12_back 101 = .ok (.if_icmp .ge 43, 3) := by decide +kernel
theorem dX12_back_144 : decode cX12_back 144 = .ok (.aload_n 0, 1) := by decide +kernel
theorem dX12_back_145 : decode cX12_back 145 = .ok (.getfield 236, 3) := by decide +kernel
theorem dX12_back_148 : decode cX12_back 148 = .ok (.ireturn, 1) := by decide +kernel
theorem dX12_back_104 : decode cX12_back 104 = .ok (.aload_n 0, 1) := by decide +kernel
theorem dX12_back_105 : decode cX12_back 105 = .ok (.getfield 77, 3) := by decide +kernel
theorem dX12_back_108 : decode cX12_back 108 = .ok (.iload_n 2, 1) := by decide +kernel
theorem dX12_back_109 : decode cX12_back 109 = .ok (.aload_n 0, 1) := by decide +kernel
theorem dX12_back_110 : decode cX12_back 110 = .ok (.getfield 125, 3) := by decide +kernel
theorem dX12_back_113 : decode cX12_back 113 = .ok (.bipush 8, 2) := by decide +kernel
theorem dX12_back_115 : decode cX12_back 115 = .ok (.iload_n 1, 1) := by decide +kernel
theorem dX12_back_116 : decode cX12_back 116 = .ok (.imul, 1) := by decide +kernel
theorem dX12_back_117 : decode cX12_back 117 = .ok (.iload_n 2, 1) := by decide +kernel
theorem dX12_back_118 : decode cX12_back 118 = .ok (.iadd, 1) := by decide +kernel
theorem dX12_back_119 : decode cX12_back 119 = .ok (.baload, 1) := by decide +kernel
theorem dX12_back_120 : decode cX12_back 120 = .ok (.bastore, 1) := by decide +kernel
theorem dX12_back_121 : decode cX12_back 121 = .ok (.aload_n 0, 1) := by decide +kernel
theorem dX12_back_122 : decode cX12_back 122 = .ok (.getfield 80, 3) := by decide +kernel
theorem dX12_back_125 : decode cX12_back 125 = .ok (.iload_n 2, 1) := by decide +kernel
theorem dX12_back_126 : decode cX12_back 126 = .ok (.aload_n 0, 1) := by decide +kernel
theorem dX12_back_127 : decode cX12_back 127 = .ok (.getfield 122, 3) := by decide +kernel
theorem dX12_back_130 : decode cX12_back 130 = .ok (.bipush 8, 2) := by decide +kernel
theorem dX12_back_132 : decode cX12_back 132 = .ok (.iload_n 1, 1) := by decide +kernel
theorem dX12_back_133 : decode cX12_back 133 = .ok (.imul, 1) := by decide +kernel
theorem dX12_back_134 : decode cX12_back 134 = .ok (.iload_n 2, 1) := by decide +kernel
theorem dX12_back_135 : decode cX12_back 135 = .ok (.iadd, 1) := by decide +kernel
theorem dX12_back_136 : decode cX12_back 136 = .ok (.iaload, 1) := by decide +kernel
theorem dX12_back_137 : decode cX12_back 137 = .ok (.iastore, 1) := by decide +kernel
theorem dX12_back_138 : decode cX12_back 138 = .ok (.iinc 2 1, 3) := by decide +kernel
theorem dX12_back_141 : decode cX12_back 141 = .ok (.goto (-43), 3) := by decide +kernel
theorem dX12_back_48 : decode cX12_back 48 = .ok (.aload_n 0, 1) := by decide +kernel
theorem dX12_back_49 : decode cX12_back 49 = .ok (.getfield 36, 3) := by decide +kernel
theorem dX12_back_52 : decode cX12_back 52 = .ok (.sipush 1120, 3) := by decide +kernel
theorem dX12_back_55 : decode cX12_back 55 = .ok (.iload_n 2, 1) := by decide +kernel
theorem dX12_back_56 : decode cX12_back 56 = .ok (.iadd, 1) := by decide +kernel
theorem dX12_back_57 : decode cX12_back 57 = .ok (.aload_n 0, 1) := by decide +kernel
theorem dX12_back_58 : decode cX12_back 58 = .ok (.getfield 116, 3) := by decide +kernel
theorem dX12_back_61 : decode cX12_back 61 = .ok (.bipush 40, 2) := by decide +kernel
theorem dX12_back_63 : decode cX12_back 63 = .ok (.iload_n 1, 1) := by decide +kernel
theorem dX12_back_64 : decode cX12_back 64 = .ok (.imul, 1) := by decide +kernel
theorem dX12_back_65 : decode cX12_back 65 = .ok (.iload_n 2, 1) := by decide +kernel
theorem dX12_back_66 : decode cX12_back 66 = .ok (.iadd, 1) := by decide +kernel
theorem dX12_back_67 : decode cX12_back 67 = .ok (.iaload, 1) := by decide +kernel
theorem dX12_back_68 : decode cX12_back 68 = .ok (.iastore, 1) := by decide +kernel
theorem dX12_back_69 : decode cX12_back 69 = .ok (.aload_n 0, 1) := by decide +kernel
theorem dX12_back_70 : decode cX12_back 70 = .ok (.getfield 39, 3) := by decide +kernel
theorem dX12_back_73 : decode cX12_back 73 = .ok (.sipush 1120, 3) := by decide +kernel
theorem dX12_back_76 : decode cX12_back 76 = .ok (.iload_n 2, 1) := by decide +kernel
theorem dX12_back_77 : decode cX12_back 77 = .ok (.iadd, 1) := by decide +kernel
theorem dX12_back_78 : decode cX12_back 78 = .ok (.aload_n 0, 1) := by decide +kernel
theorem dX12_back_79 : decode cX12_back 79 = .ok (.getfield 119, 3) := by decide +kernel
theorem dX12_back_82 : decode cX12_back 82 = .ok (.bipush 40, 2) := by decide +kernel
theorem dX12_back_84 : decode cX12_back 84 = .ok (.iload_n 1, 1) := by decide +kernel
theorem dX12_back_85 : decode cX12_back 85 = .ok (.imul, 1) := by decide +kernel
theorem dX12_back_86 : decode cX12_back 86 = .ok (.iload_n 2, 1) := by decide +kernel
theorem dX12_back_87 : decode cX12_back 87 = .ok (.iadd, 1) := by decide +kernel
theorem dX12_back_88 : decode cX12_back 88 = .ok (.iaload, 1) := by decide +kernel
theorem dX12_back_89 : decode cX12_back 89 = .ok (.iastore, 1) := by decide +kernel
theorem dX12_back_90 : decode cX12_back 90 = .ok (.iinc 2 1, 3) := by decide +kernel
theorem dX12_back_93 : decode cX12_back 93 = .ok (.goto (-51), 3) := by decide +kernel
set_option maxHeartbeats 4000000 in
set_option maxRecDepth 100000 in
theorem m_silence (l : Launch) (G : va_G) (cy : Nat → ClassId) (sz : Nat) (mo : Nat) (h : Nat → Nat) (T : Int) (v : Nat → Int32) (nm : Int64) (f : Nat → Nat → Int32) (g : Nat → Nat → Int64)   (hv : MIv T v) (hf : MIf f) (hR : RI v f) (hL : WL v f)  : Met l yX12_silence (.code yX12_silence cX12_silence 2 (some .int) :: TBg) ({ frames := 1, cells := 0, slots := 0, locals := 64 }) (va_Pc [.ref mo] (En G cy (WMs cy mo h v nm f g) sz)) (va_Qi (fun (r : Int32) (u : (Nat → Int32) × Int64 × (Nat → Nat → Int32) × (Nat → Nat → Int64)) => MIv T u.1 ∧ MIf u.2.2.1 ∧ RI u.1 u.2.2.1 ∧ WL u.1 u.2.2.1 ∧ ((0 ≤ r.toInt ∧ r.toInt ≤ 40))) (fun u t => Ex G (va_A (WMs cy mo h v nm f g) sz) (WMs cy mo h u.1 u.2.1 u.2.2.1 u.2.2.2) t) (va_A (WMs cy mo h v nm f g) sz)) 0 0 (va_A (WMs cy mo h v nm f g) sz) := by
  refine Met.ofW (cc := cX12_silence) (maxL := 2) (ret := (some .int)) (by decide) rfl ?_
  intro p e s m args below meth c s₁ B hml hv9
  obtain ⟨rfl, hsz, hP, hK, hD0, hN⟩ := hv9
  have hx := B.exec
  have hb := B.bytes
  have hr := B.returns
  have hts := atoms_spec (ws := .code yX12_silence cX12_silence 2 (some .int) :: TBg) B.pre
  have ht : ∀ w ∈ TBg, w.before _ s = true := fun w h => hts w (List.mem_cons_of_mem _ h)
  have hown : s.vm.findClass RX12 = some m.cls := findClass_of_methodNamed B.named
  have hlocks := B.notSynchronized
  subst hsz
  have hD := hD0.self (sz := s.heap.size)
  generalize hAe : va_A (WMs cy mo h v nm f g) s.heap.size = A at hD ⊢
  have hA : ∀ q : Nat, s.heap.size ≤ q → A q := fun q h => by rw [← hAe]; exact Or.inr h
  have hS : va_S A s.heap s.heap [] := va_S.rf
  have hl := lv_entry ([.ref mo]) (n := 2) (Nat.le_of_ble_eq_true rfl)
  rw [lg_entry_eq]
  generalize (lg_sl ([.ref mo]) ++ List.replicate (2 - (lg_sl ([.ref mo])).length) Slot.unset).toArray = ls at hl ⊢
  have hl : lv_has ls 2 [(0, .ref mo)] := hl
  have z0 : (0 : Int32).toInt = 0 := by decide
  refine lv_aload_n hx hb dX12_silence_0 rfl (lv_at hl 0 rfl) ?_
  refine mg_34 hx hb ht hown hK hP dX12_silence_1 ?_
  have q_1 : 0 ≤ (v 34).toInt ∧ (v 34).toInt ≤ 40 := hv 34
  refine lv_istore_n (lv' := [(1, .int (v 34)), (0, .ref mo)]) hx hb dX12_silence_4 rfl hl (by decide) rfl (fun ls hl => ?_)
  refine lv_aload_n hx hb dX12_silence_5 rfl (lv_at hl 1 rfl) ?_
  refine lv_iconst (v := 0) hx hb dX12_silence_6 (by decide) ?_
  refine mp_34 hx hb ht hown hK hP hD hS dX12_silence_7 (fun H locs hP hD hS => ?_)
  have hv := MIv.up 34 hv (show 0 ≤ (0 : Int32).toInt ∧ (0 : Int32).toInt ≤ 40 from by omega)
  have hL : WL (va_up v 34 0) f := WL.upv 34 hL (by decide)
  have hR : RI (va_up v 34 0) f := RI.upv 34 hR (by decide)
  refine lv_iload_n hx hb dX12_silence_10 rfl (lv_at hl 0 rfl) ?_
  refine W.widen (k := 0) (n := 0) (Nat.le_of_ble_eq_true rfl) (Nat.le_of_ble_eq_true rfl) ?_
  exact W.iret (v := (v 34)) hx hb hr (fun t ht9 hW => ⟨⟨(v 34), ((va_up v 34 0), nm, f, g), rfl, ⟨hv, hf, hR, hL, (by omega)⟩, ⟨by rw [ht9]; exact hP, hD⟩⟩, hS.F ht9⟩) hS.2.2 dX12_silence_11
set_option maxHeartbeats 4000000 in
set_option maxRecDepth 100000 in
theorem m_shut (l : Launch) (G : va_G) (cy : Nat → ClassId) (sz : Nat) (mo : Nat) (h : Nat → Nat) (T : Int) (v : Nat → Int32) (nm : Int64) (f : Nat → Nat → Int32) (g : Nat → Nat → Int64) (n : Int32)  (hv : MIv T v) (hf : MIf f) (hR : RI v f) (hL : WL v f)  : Met l yX12_shut (.code yX12_shut cX12_shut 2 (some .boolean) :: TBg) ({ frames := 3, cells := 0, slots := 0, locals := 192 }) (va_Pc [.ref mo, .int n] (En G cy (WMs cy mo h v nm f g) sz)) (va_Qi (fun (r : Int32) (u : (Nat → Int32) × Int64 × (Nat → Nat → Int32) × (Nat → Nat → Int64)) => MIv T u.1 ∧ MIf u.2.2.1 ∧ RI u.1 u.2.2.1 ∧ WL u.1 u.2.2.1 ∧ ((r.toInt = 0 ∨ r.toInt = 1))) (fun u t => Ex G (va_A (WMs cy mo h v nm f g) sz) (WMs cy mo h u.1 u.2.1 u.2.2.1 u.2.2.2) t) (va_A (WMs cy mo h v nm f g) sz)) 0 0 (va_A (WMs cy mo h v nm f g) sz) := by
  refine Met.ofW (cc := cX12_shut) (maxL := 2) (ret := (some .boolean)) (by decide) rfl ?_
  intro p e s m args below meth c s₁ B hml hv9
  obtain ⟨rfl, hsz, hP, hK, hD0, hN⟩ := hv9
  have hx := B.exec
  have hb := B.bytes
  have hr := B.returns
  have hts := atoms_spec (ws := .code yX12_shut cX12_shut 2 (some .boolean) :: TBg) B.pre
  have ht : ∀ w ∈ TBg, w.before _ s = true := fun w h => hts w (List.mem_cons_of_mem _ h)
  have hown : s.vm.findClass RX12 = some m.cls := findClass_of_methodNamed B.named
  have hlocks := B.notSynchronized
  subst hsz
  have hD := hD0.self (sz := s.heap.size)
  generalize hAe : va_A (WMs cy mo h v nm f g) s.heap.size = A at hD ⊢
  have hA : ∀ q : Nat, s.heap.size ≤ q → A q := fun q h => by rw [← hAe]; exact Or.inr h
  have hS : va_S A s.heap s.heap [] := va_S.rf
  have hl := lv_entry ([.ref mo, .int n]) (n := 2) (Nat.le_of_ble_eq_true rfl)
  rw [lg_entry_eq]
  generalize (lg_sl ([.ref mo, .int n]) ++ List.replicate (2 - (lg_sl ([.ref mo, .int n])).length) Slot.unset).toArray = ls at hl ⊢
  have hl : lv_has ls 2 [(0, .ref mo), (1, .int n)] := hl
  have z0 : (0 : Int32).toInt = 0 := by decide
  have z1 : (1 : Int32).toInt = 1 := by decide
  refine lv_aload_n hx hb dX12_shut_0 rfl (lv_at hl 0 rfl) ?_
  refine lv_iload_n hx hb dX12_shut_1 rfl (lv_at hl 1 rfl) ?_
  have hFc := fr_new hS hA
  refine va_calli (va_runV (As := [.int n]) (rest := []) ⟨hx, hb, hml, hown, ht⟩ (m_isLock l G cy _ mo h T v nm f g n  hv hf hR hL) (cwV 1 ht (gv k_118 k_119 k_120 k_61 k_117) rfl rfl rfl (by decide +kernel) ⟨Nat.le_of_ble_eq_true rfl, Nat.le_of_ble_eq_true rfl⟩) ⟨En.blind, va_recv hK hP (ci := 12) (q0 := 0) rfl rfl, fun U hU hW => ⟨rfl, En.of hU hW hP hK hD hN⟩⟩ rfl rfl hl.1 rfl (lv_room (Nat.le_of_ble_eq_true rfl)) dX12_shut_2 ⟨Nat.le_of_ble_eq_true rfl, Nat.le_of_ble_eq_true rfl⟩) hS (fun q _ h => hFc q h) hFc (fun r_u_1 u_1 t9 H locs ht9 hvm hw hB hz1 hk1 hS => ?_)
  have hP := fr_keep hP hk1
  have wu_1 := hw
  clear hFc hk1 hz1 hB hw
  refine lv_if_eq (tgt := 17) hx hb dX12_shut_5 (by decide) (fun c_2 => ?_) (fun c_2 => ?_)
  · have q_3 : r_u_1.toInt = (0 : Int32).toInt := (ow_eq _ _).mp c_2
    refine lv_iconst (v := 0) hx hb dX12_shut_17 (by decide) ?_
    refine W.widen (k := 0) (n := 0) (Nat.le_of_ble_eq_true rfl) (Nat.le_of_ble_eq_true rfl) ?_
    exact W.zret (v := 0) hx hb hr rfl (fun t ht9 hW => ⟨⟨0, (v, nm, f, g), rfl, ⟨hv, hf, hR, hL, (by omega)⟩, ⟨by rw [ht9]; exact hP, hD⟩⟩, hS.F ht9⟩) hS.2.2 dX12_shut_18
  · have q_4 : ¬ r_u_1.toInt = (0 : Int32).toInt := by have := (not_congr (ow_eq _ _)).mp c_2; omega
    refine lv_aload_n hx hb dX12_shut_8 rfl (lv_at hl 0 rfl) ?_
    refine mg_35 hx hb ht hown hK hP dX12_shut_9 ?_
    refine lv_iload_n hx hb dX12_shut_12 rfl (lv_at hl 1 rfl) ?_
    have q_5 : vp_in n 8 := vp_in_iff.mpr ⟨by omega, by omega⟩
    refine ml_35 hx hb hK hP q_5 dX12_shut_13 ?_
    refine lv_topi (fun v_6 ev_6 => ?_)
    have q_7 : 0 ≤ v_6.toInt ∧ v_6.toInt ≤ 1 := by rw [ev_6]; exact MIf.rd 35 hf q_5
    refine lv_if_ne (tgt := 19) hx hb dX12_shut_14 (by decide) (fun c_8 => ?_) (fun c_8 => ?_)
    · have q_9 : ¬ v_6.toInt = (0 : Int32).toInt := by have := (not_congr (ow_eq _ _)).mp c_8; omega
      refine lv_aload_n hx hb dX12_shut_19 rfl (lv_at hl 0 rfl) ?_
      refine mg_35 hx hb ht hown hK hP dX12_shut_20 ?_
      refine lv_iload_n hx hb dX12_shut_23 rfl (lv_at hl 1 rfl) ?_
      refine lv_iconst (v := 0) hx hb dX12_shut_24 (by decide) ?_
      have q_10 : vp_in n 8 := vp_in_iff.mpr ⟨by omega, by omega⟩
      refine ms_35 hx hb hK hP hD hS q_10 dX12_shut_25 (fun H locs hP hD hS => ?_)
      have hf := MIf.up 35 (i := (Int32.toNatClampNeg n)) hf (ow_nz 0)
      have hL : WL v (va_up f 35 (upd (f 35) (Int32.toNatClampNeg n) (vp_nar .boolean 0))) := WL.upf 35 hL (by decide)
      have hR : RI v (va_up f 35 (upd (f 35) (Int32.toNatClampNeg n) (vp_nar .boolean 0))) := RI.up 35 hR (by decide)
      refine lv_iconst (v := 1) hx hb dX12_shut_26 (by decide) ?_
      refine W.widen (k := 0) (n := 0) (Nat.le_of_ble_eq_true rfl) (Nat.le_of_ble_eq_true rfl) ?_
      exact W.zret (v := 1) hx hb hr rfl (fun t ht9 hW => ⟨⟨1, (v, nm, (va_up f 35 (upd (f 35) (Int32.toNatClampNeg n) (vp_nar .boolean 0))), g), rfl, ⟨hv, hf, hR, hL, (by omega)⟩, ⟨by rw [ht9]; exact hP, hD⟩⟩, hS.F ht9⟩) hS.2.2 dX12_shut_27
    · have q_11 : v_6.toInt = (0 : Int32).toInt := (ow_eq _ _).mp c_8
      refine lv_iconst (v := 0) hx hb dX12_shut_17 (by decide) ?_
      refine W.widen (k := 0) (n := 0) (Nat.le_of_ble_eq_true rfl) (Nat.le_of_ble_eq_true rfl) ?_
      exact W.zret (v := 0) hx hb hr rfl (fun t ht9 hW => ⟨⟨0, (v, nm, f, g), rfl, ⟨hv, hf, hR, hL, (by omega)⟩, ⟨by rw [ht9]; exact hP, hD⟩⟩, hS.F ht9⟩) hS.2.2 dX12_shut_18
set_option maxHeartbeats 4000000 in
set_option maxRecDepth 100000 in
theorem m_night (l : Launch) (G : va_G) (cy : Nat → ClassId) (sz : Nat) (mo : Nat) (h : Nat → Nat) (T : Int) (v : Nat → Int32) (nm : Int64) (f : Nat → Nat → Int32) (g : Nat → Nat → Int64) (n : Int32)  (hv : MIv T v) (hf : MIf f) (hR : RI v f) (hL : WL v f) (h_n : 0 ≤ n.toInt ∧ n.toInt ≤ 1) : Met l yX12_night (.code yX12_night cX12_night 3 (some .boolean) :: TBg) ({ frames := 1, cells := 0, slots := 0, locals := 64 }) (va_Pc [.ref mo, .int n] (En G cy (WMs cy mo h v nm f g) sz)) (va_Qi (fun (r : Int32) (u : (Nat → Int32) × Int64 × (Nat → Nat → Int32) × (Nat → Nat → Int64)) => MIv T u.1 ∧ MIf u.2.2.1 ∧ RI u.1 u.2.2.1 ∧ WL u.1 u.2.2.1 ∧ ((r.toInt = 0 ∨ r.toInt = 1))) (fun u t => Ex G (va_A (WMs cy mo h v nm f g) sz) (WMs cy mo h u.1 u.2.1 u.2.2.1 u.2.2.2) t) (va_A (WMs cy mo h v nm f g) sz)) 0 0 (va_A (WMs cy mo h v nm f g) sz) := by
  refine Met.ofW (cc := cX12_night) (maxL := 3) (ret := (some .boolean)) (by decide) rfl ?_
  intro p e s m args below meth c s₁ B hml hv9
  obtain ⟨rfl, hsz, hP, hK, hD0, hN⟩ := hv9
  have hx := B.exec
  have hb := B.bytes
  have hr := B.returns
  have hts := atoms_spec (ws := .code yX12_night cX12_night 3 (some .boolean) :: TBg) B.pre
  have ht : ∀ w ∈ TBg, w.before _ s = true := fun w h => hts w (List.mem_cons_of_mem _ h)
  have hown : s.vm.findClass RX12 = some m.cls := findClass_of_methodNamed B.named
  have hlocks := B.notSynchronized
  subst hsz
  have hD := hD0.self (sz := s.heap.size)
  generalize hAe : va_A (WMs cy mo h v nm f g) s.heap.size = A at hD ⊢
  have hA : ∀ q : Nat, s.heap.size ≤ q → A q := fun q h => by rw [← hAe]; exact Or.inr h
  have hS : va_S A s.heap s.heap [] := va_S.rf
  have hl := lv_entry ([.ref mo, .int n]) (n := 3) (Nat.le_of_ble_eq_true rfl)
  rw [lg_entry_eq]
  generalize (lg_sl ([.ref mo, .int n]) ++ List.replicate (3 - (lg_sl ([.ref mo, .int n])).length) Slot.unset).toArray = ls at hl ⊢
  have hl : lv_has ls 3 [(0, .ref mo), (1, .int n)] := hl
  have z0 : (0 : Int32).toInt = 0 := by decide
  have z1 : (1 : Int32).toInt = 1 := by decide
  refine lv_aload_n hx hb dX12_night_0 rfl (lv_at hl 0 rfl) ?_
  refine mg_37 hx hb ht hown hK hP dX12_night_1 ?_
  have q_1 : 0 ≤ (v 37).toInt ∧ (v 37).toInt ≤ 1 := hv 37
  refine lv_istore_n (lv' := [(2, .int (v 37)), (0, .ref mo), (1, .int n)]) hx hb dX12_night_4 rfl hl (by decide) rfl (fun ls hl => ?_)
  refine lv_aload_n hx hb dX12_night_5 rfl (lv_at hl 1 rfl) ?_
  refine lv_iload_n hx hb dX12_night_6 rfl (lv_at hl 2 rfl) ?_
  refine mp_37 (by omega) hx hb ht hown hK hP hD hS dX12_night_7 (fun H locs hP hD hS => ?_)
  have hv := MIv.up 37 hv (show 0 ≤ n.toInt ∧ n.toInt ≤ 1 from by omega)
  have hL : WL (va_up v 37 n) f := WL.upv 37 hL (by decide)
  have hR : RI (va_up v 37 n) f := RI.upv 37 hR (by decide)
  refine lv_iload_n hx hb dX12_night_10 rfl (lv_at hl 0 rfl) ?_
  refine lv_iload_n hx hb dX12_night_11 rfl (lv_at hl 2 rfl) ?_
  refine lv_icmp_eq (tgt := 19) hx hb dX12_night_12 (by decide) (fun c_2 => ?_) (fun c_2 => ?_)
  · have q_3 : (v 37).toInt = n.toInt := (ow_eq _ _).mp c_2
    refine lv_iconst (v := 0) hx hb dX12_night_19 (by decide) ?_
    refine W.widen (k := 0) (n := 0) (Nat.le_of_ble_eq_true rfl) (Nat.le_of_ble_eq_true rfl) ?_
    exact W.zret (v := 0) hx hb hr rfl (fun t ht9 hW => ⟨⟨0, ((va_up v 37 n), nm, f, g), rfl, ⟨hv, hf, hR, hL, (by omega)⟩, ⟨by rw [ht9]; exact hP, hD⟩⟩, hS.F ht9⟩) hS.2.2 dX12_night_20
  · have q_4 : ¬ (v 37).toInt = n.toInt := by have := (not_congr (ow_eq _ _)).mp c_2; omega
    refine lv_iconst (v := 1) hx hb dX12_night_15 (by decide) ?_
    refine lv_goto (tgt := 20) hx hb dX12_night_16 (by decide) ?_
    refine W.widen (k := 0) (n := 0) (Nat.le_of_ble_eq_true rfl) (Nat.le_of_ble_eq_true rfl) ?_
    exact W.zret (v := 1) hx hb hr rfl (fun t ht9 hW => ⟨⟨1, ((va_up v 37 n), nm, f, g), rfl, ⟨hv, hf, hR, hL, (by omega)⟩, ⟨by rw [ht9]; exact hP, hD⟩⟩, hS.F ht9⟩) hS.2.2 dX12_night_20
set_option maxHeartbeats 4000000 in
set_option maxRecDepth 100000 in
theorem m_end (l : Launch) (G : va_G) (cy : Nat → ClassId) (sz : Nat) (mo : Nat) (h : Nat → Nat) (T : Int) (v : Nat → Int32) (nm : Int64) (f : Nat → Nat → Int32) (g : Nat → Nat → Int64) (n : Int32)  (hv : MIv T v) (hf : MIf f) (hR : RI v f) (hL : WL v f)  : Met l yX12_end (.code yX12_end cX12_end 2 (some .int) :: TBg) ({ frames := 1, cells := 0, slots := 0, locals := 64 }) (va_Pc [.ref mo, .int n] (En G cy (WMs cy mo h v nm f g) sz)) (va_Qi (fun (r : Int32) (u : (Nat → Int32) × Int64 × (Nat → Nat → Int32) × (Nat → Nat → Int64)) => MIv T u.1 ∧ MIf u.2.2.1 ∧ RI u.1 u.2.2.1 ∧ WL u.1 u.2.2.1 ∧ (True)) (fun u t => Ex G (va_A (WMs cy mo h v nm f g) sz) (WMs cy mo h u.1 u.2.1 u.2.2.1 u.2.2.2) t) (va_A (WMs cy mo h v nm f g) sz)) 0 0 (va_A (WMs cy mo h v nm f g) sz) := by
  refine Met.ofW (cc := cX12_end) (maxL := 2) (ret := (some .int)) (by decide) rfl ?_
  intro p e s m args below meth c s₁ B hml hv9
  obtain ⟨rfl, hsz, hP, hK, hD0, hN⟩ := hv9
  have hx := B.exec
  have hb := B.bytes
  have hr := B.returns
  have hts := atoms_spec (ws := .code yX12_end cX12_end 2 (some .int) :: TBg) B.pre
  have ht : ∀ w ∈ TBg, w.before _ s = true := fun w h => hts w (List.mem_cons_of_mem _ h)
  have hown : s.vm.findClass RX12 = some m.cls := findClass_of_methodNamed B.named
  have hlocks := B.notSynchronized
  subst hsz
  have hD := hD0.self (sz := s.heap.size)
  generalize hAe : va_A (WMs cy mo h v nm f g) s.heap.size = A at hD ⊢
  have hA : ∀ q : Nat, s.heap.size ≤ q → A q := fun q h => by rw [← hAe]; exact Or.inr h
  have hS : va_S A s.heap s.heap [] := va_S.rf
  have hl := lv_entry ([.ref mo, .int n]) (n := 2) (Nat.le_of_ble_eq_true rfl)
  rw [lg_entry_eq]
  generalize (lg_sl ([.ref mo, .int n]) ++ List.replicate (2 - (lg_sl ([.ref mo, .int n])).length) Slot.unset).toArray = ls at hl ⊢
  have hl : lv_has ls 2 [(0, .ref mo), (1, .int n)] := hl
  have z0 : (-1 : Int32).toInt = -1 := by decide
  have z1 : (0 : Int32).toInt = 0 := by decide
  refine lv_iload_n hx hb dX12_end_0 rfl (lv_at hl 1 rfl) ?_
  refine lv_if_lt (tgt := 12) hx hb dX12_end_1 (by decide) (fun c_1 => ?_) (fun c_1 => ?_)
  · have q_2 : n.toInt < (0 : Int32).toInt := (ow_lt _ _).mp c_1
    refine lv_iconst (v := (-1)) hx hb dX12_end_12 (by decide) ?_
    refine W.widen (k := 0) (n := 0) (Nat.le_of_ble_eq_true rfl) (Nat.le_of_ble_eq_true rfl) ?_
    exact W.iret (v := (-1)) hx hb hr (fun t ht9 hW => ⟨⟨(-1), (v, nm, f, g), rfl, ⟨hv, hf, hR, hL, trivial⟩, ⟨by rw [ht9]; exact hP, hD⟩⟩, hS.F ht9⟩) hS.2.2 dX12_end_13
  · have q_3 : (0 : Int32).toInt ≤ n.toInt := by have := (not_congr (ow_lt _ _)).mp c_1; omega
    refine lv_iload_n hx hb dX12_end_4 rfl (lv_at hl 1 rfl) ?_
    refine lv_aload_n hx hb dX12_end_5 rfl (lv_at hl 0 rfl) ?_
    refine mg_2 hx hb ht hown hK hP dX12_end_6 ?_
    have q_4 : 0 ≤ (v 2).toInt ∧ (v 2).toInt ≤ 1700 := hv 2
    refine lv_icmp_le (tgt := 14) hx hb dX12_end_9 (by decide) (fun c_5 => ?_) (fun c_5 => ?_)
    · have q_6 : n.toInt ≤ (v 2).toInt := (ow_le _ _).mp c_5
      refine lv_aload_n hx hb dX12_end_14 rfl (lv_at hl 0 rfl) ?_
      refine lv_iload_n hx hb dX12_end_15 rfl (lv_at hl 1 rfl) ?_
      refine mp_2 hx hb ht hown hK hP hD hS dX12_end_16 (fun H locs hP hD hS => ?_)
      have hv := MIv.up 2 hv (show 0 ≤ n.toInt ∧ n.toInt ≤ 1700 from by omega)
      have hL : WL (va_up v 2 n) f := WL.upv 2 hL (by decide)
      have hR : RI (va_up v 2 n) f := RI.upv 2 hR (by decide)
      refine lv_iload_n hx hb dX12_end_19 rfl (lv_at hl 1 rfl) ?_
      refine W.widen (k := 0) (n := 0) (Nat.le_of_ble_eq_true rfl) (Nat.le_of_ble_eq_true rfl) ?_
      exact W.iret (v := n) hx hb hr (fun t ht9 hW => ⟨⟨n, ((va_up v 2 n), nm, f, g), rfl, ⟨hv, hf, hR, hL, trivial⟩, ⟨by rw [ht9]; exact hP, hD⟩⟩, hS.F ht9⟩) hS.2.2 dX12_end_20
    · have q_7 : (v 2).toInt < n.toInt := by have := (not_congr (ow_le _ _)).mp c_5; omega
      refine lv_iconst (v := (-1)) hx hb dX12_end_12 (by decide) ?_
      refine W.widen (k := 0) (n := 0) (Nat.le_of_ble_eq_true rfl) (Nat.le_of_ble_eq_true rfl) ?_
      exact W.iret (v := (-1)) hx hb hr (fun t ht9 hW => ⟨⟨(-1), (v, nm, f, g), rfl, ⟨hv, hf, hR, hL, trivial⟩, ⟨by rw [ht9]; exact hP, hD⟩⟩, hS.F ht9⟩) hS.2.2 dX12_end_13
set_option maxHeartbeats 4000000 in
set_option maxRecDepth 100000 in
theorem m_watch (l : Launch) (G : va_G) (cy : Nat → ClassId) (sz : Nat) (mo : Nat) (h : Nat → Nat) (T : Int) (v : Nat → Int32) (nm : Int64) (f : Nat → Nat → Int32) (g : Nat → Nat → Int64) (n : Int32) (n2 : Int32) (n3 : Int32)  (hv : MIv T v) (hf : MIf f) (hR : RI v f) (hL : WL v f) (h_n2 : 0 ≤ n2.toInt ∧ n2.toInt ≤ 1) (h_n3 : 0 ≤ n3.toInt ∧ n3.toInt ≤ 1) : Met l yX12_watch (.code yX12_watch cX12_watch 4 (some .int) :: TBg) ({ frames := 3, cells := 0, slots := 0, locals := 192 }) (va_Pc [.ref mo, .int n, .int n2, .int n3] (En G cy (WMs cy mo h v nm f g) sz)) (va_Qi (fun (r : Int32) (u : (Nat → Int32) × Int64 × (Nat → Nat → Int32) × (Nat → Nat → Int64)) => MIv T u.1 ∧ MIf u.2.2.1 ∧ RI u.1 u.2.2.1 ∧ WL u.1 u.2.2.1 ∧ (True)) (fun u t => Ex G (va_A (WMs cy mo h v nm f g) sz) (WMs cy mo h u.1 u.2.1 u.2.2.1 u.2.2.2) t) (va_A (WMs cy mo h v nm f g) sz)) 0 0 (va_A (WMs cy mo h v nm f g) sz) := by
  refine Met.ofW (cc := cX12_watch) (maxL := 4) (ret := (some .int)) (by decide) rfl ?_
  intro p e s m args below meth c s₁ B hml hv9
  obtain ⟨rfl, hsz, hP, hK, hD0, hN⟩ := hv9
  have hx := B.exec
  have hb := B.bytes
  have hr := B.returns
  have hts := atoms_spec (ws := .code yX12_watch cX12_watch 4 (some .int) :: TBg) B.pre
  have ht : ∀ w ∈ TBg, w.before _ s = true := fun w h => hts w (List.mem_cons_of_mem _ h)
  have hown : s.vm.findClass RX12 = some m.cls := findClass_of_methodNamed B.named
  have hlocks := B.notSynchronized
  subst hsz
  have hD := hD0.self (sz := s.heap.size)
  generalize hAe : va_A (WMs cy mo h v nm f g) s.heap.size = A at hD ⊢
  have hA : ∀ q : Nat, s.heap.size ≤ q → A q := fun q h => by rw [← hAe]; exact Or.inr h
  have hS : va_S A s.heap s.heap [] := va_S.rf
  have hl := lv_entry ([.ref mo, .int n, .int n2, .int n3]) (n := 4) (Nat.le_of_ble_eq_true rfl)
  rw [lg_entry_eq]
  generalize (lg_sl ([.ref mo, .int n, .int n2, .int n3]) ++ List.replicate (4 - (lg_sl ([.ref mo, .int n, .int n2, .int n3])).length) Slot.unset).toArray = ls at hl ⊢
  have hl : lv_has ls 4 [(0, .ref mo), (1, .int n), (2, .int n2), (3, .int n3)] := hl
  have z0 : (-1 : Int32).toInt = -1 := by decide
  have z1 : (0 : Int32).toInt = 0 := by decide
  have z2 : (1 : Int32).toInt = 1 := by decide
  have z3 : (30 : Int32).toInt = 30 := by decide
  refine lv_aload_n hx hb dX12_watch_0 rfl (lv_at hl 0 rfl) ?_
  refine lv_iload_n hx hb dX12_watch_1 rfl (lv_at hl 1 rfl) ?_
  have hFc := fr_new hS hA
  refine va_calli (va_runV (As := [.int n]) (rest := []) ⟨hx, hb, hml, hown, ht⟩ (m_isLock l G cy _ mo h T v nm f g n  hv hf hR hL) (cwV 1 ht (gv k_118 k_119 k_120 k_61 k_117) rfl rfl rfl (by decide +kernel) ⟨Nat.le_of_ble_eq_true rfl, Nat.le_of_ble_eq_true rfl⟩) ⟨En.blind, va_recv hK hP (ci := 12) (q0 := 0) rfl rfl, fun U hU hW => ⟨rfl, En.of hU hW hP hK hD hN⟩⟩ rfl rfl hl.1 rfl (lv_room (Nat.le_of_ble_eq_true rfl)) dX12_watch_2 ⟨Nat.le_of_ble_eq_true rfl, Nat.le_of_ble_eq_true rfl⟩) hS (fun q _ h => hFc q h) hFc (fun r_u_1 u_1 t9 H locs ht9 hvm hw hB hz1 hk1 hS => ?_)
  have hP := fr_keep hP hk1
  have wu_1 := hw
  clear hFc hk1 hz1 hB hw
  refine lv_if_eq (tgt := 17) hx hb dX12_watch_5 (by decide) (fun c_2 => ?_) (fun c_2 => ?_)
  · have q_3 : r_u_1.toInt = (0 : Int32).toInt := (ow_eq _ _).mp c_2
    refine lv_iconst (v := (-1)) hx hb dX12_watch_17 (by decide) ?_
    refine W.widen (k := 0) (n := 0) (Nat.le_of_ble_eq_true rfl) (Nat.le_of_ble_eq_true rfl) ?_
    exact W.iret (v := (-1)) hx hb hr (fun t ht9 hW => ⟨⟨(-1), (v, nm, f, g), rfl, ⟨hv, hf, hR, hL, trivial⟩, ⟨by rw [ht9]; exact hP, hD⟩⟩, hS.F ht9⟩) hS.2.2 dX12_watch_18
  · have q_4 : ¬ r_u_1.toInt = (0 : Int32).toInt := by have := (not_congr (ow_eq _ _)).mp c_2; omega
    refine lv_aload_n hx hb dX12_watch_8 rfl (lv_at hl 0 rfl) ?_
    refine mg_50 hx hb ht hown hK hP dX12_watch_9 ?_
    have q_5 : 0 ≤ (v 50).toInt ∧ (v 50).toInt ≤ 30 := hv 50
    refine lv_bipush (v := 30) hx hb dX12_watch_12 (by decide) ?_
    refine lv_icmp_ne (tgt := 19) hx hb dX12_watch_14 (by decide) (fun c_6 => ?_) (fun c_6 => ?_)
    · have q_7 : ¬ (v 50).toInt = (30 : Int32).toInt := by have := (not_congr (ow_eq _ _)).mp c_6; omega
      refine lv_aload_n hx hb dX12_watch_19 rfl (lv_at hl 0 rfl) ?_
      refine mg_45 hx hb ht hown hK hP dX12_watch_20 ?_
      refine lv_aload_n hx hb dX12_watch_23 rfl (lv_at hl 0 rfl) ?_
      refine mg_50 hx hb ht hown hK hP dX12_watch_24 ?_
      refine lv_iload_n hx hb dX12_watch_27 rfl (lv_at hl 1 rfl) ?_
      have q_8 : vp_in (v 50) 30 := vp_in_iff.mpr ⟨by omega, by omega⟩
      refine ms_45 hx hb hK hP hD hS q_8 dX12_watch_28 (fun H locs hP hD hS => ?_)
      have hf := MIf.up 45 (i := (Int32.toNatClampNeg (v 50))) hf (show 0 ≤ n.toInt ∧ n.toInt ≤ 7 from by omega)
      have hL : WL v (va_up f 45 (upd (f 45) (Int32.toNatClampNeg (v 50)) n)) := fun k hk => by
        have e9 : upd (f 45) (Int32.toNatClampNeg (v 50)) n k = f 45 k := pk_un (by rw [ow_tn]; omega)
        show 0 ≤ (upd (f 45) (Int32.toNatClampNeg (v 50)) n k).toInt ∧ (upd (f 45) (Int32.toNatClampNeg (v 50)) n k).toInt < _
        rw [e9]
        exact hL k hk
      have hR : RI v (va_up f 45 (upd (f 45) (Int32.toNatClampNeg (v 50)) n)) := RI.up 45 hR (by decide)
      refine lv_aload_n hx hb dX12_watch_29 rfl (lv_at hl 0 rfl) ?_
      refine mg_48 hx hb ht hown hK hP dX12_watch_30 ?_
      refine lv_aload_n hx hb dX12_watch_33 rfl (lv_at hl 0 rfl) ?_
      refine mg_50 hx hb ht hown hK hP dX12_watch_34 ?_
      refine lv_iload_n hx hb dX12_watch_37 rfl (lv_at hl 2 rfl) ?_
      have q_9 : vp_in (v 50) 30 := vp_in_iff.mpr ⟨by omega, by omega⟩
      refine ms_48 hx hb hK hP hD hS q_9 dX12_watch_38 (fun H locs hP hD hS => ?_)
      have hf := MIf.up 48 (i := (Int32.toNatClampNeg (v 50))) hf (ow_nz n2)
      have hL : WL v (va_up (va_up f 45 (upd (f 45) (Int32.toNatClampNeg (v 50)) n)) 48 (upd ((va_up f 45 (upd (f 45) (Int32.toNatClampNeg (v 50)) n)) 48) (Int32.toNatClampNeg (v 50)) (vp_nar .boolean n2))) := WL.upf 48 hL (by decide)
      have hR : RI v (va_up (va_up f 45 (upd (f 45) (Int32.toNatClampNeg (v 50)) n)) 48 (upd ((va_up f 45 (upd (f 45) (Int32.toNatClampNeg (v 50)) n)) 48) (Int32.toNatClampNeg (v 50)) (vp_nar .boolean n2))) := RI.up 48 hR (by decide)
      refine lv_aload_n hx hb dX12_watch_39 rfl (lv_at hl 0 rfl) ?_
      refine mg_49 hx hb ht hown hK hP dX12_watch_40 ?_
      refine lv_aload_n hx hb dX12_watch_43 rfl (lv_at hl 0 rfl) ?_
      refine mg_50 hx hb ht hown hK hP dX12_watch_44 ?_
      refine lv_iload_n hx hb dX12_watch_47 rfl (lv_at hl 3 rfl) ?_
      have q_10 : vp_in (v 50) 30 := vp_in_iff.mpr ⟨by omega, by omega⟩
      refine ms_49 hx hb hK hP hD hS q_10 dX12_watch_48 (fun H locs hP hD hS => ?_)
      have hf := MIf.up 49 (i := (Int32.toNatClampNeg (v 50))) hf (ow_nz n3)
      have hL : WL v (va_up (va_up (va_up f 45 (upd (f 45) (Int32.toNatClampNeg (v 50)) n)) 48 (upd ((va_up f 45 (upd (f 45) (Int32.toNatClampNeg (v 50)) n)) 48) (Int32.toNatClampNeg (v 50)) (vp_nar .boolean n2))) 49 (upd ((va_up (va_up f 45 (upd (f 45) (Int32.toNatClampNeg (v 50)) n)) 48 (upd ((va_up f 45 (upd (f 45) (Int32.toNatClampNeg (v 50)) n)) 48) (Int32.toNatClampNeg (v 50)) (vp_nar .boolean n2))) 49) (Int32.toNatClampNeg (v 50)) (vp_nar .boolean n3))) := WL.upf 49 hL (by decide)
      have hR : RI v (va_up (va_up (va_up f 45 (upd (f 45) (Int32.toNatClampNeg (v 50)) n)) 48 (upd ((va_up f 45 (upd (f 45) (Int32.toNatClampNeg (v 50)) n)) 48) (Int32.toNatClampNeg (v 50)) (vp_nar .boolean n2))) 49 (upd ((va_up (va_up f 45 (upd (f 45) (Int32.toNatClampNeg (v 50)) n)) 48 (upd ((va_up f 45 (upd (f 45) (Int32.toNatClampNeg (v 50)) n)) 48) (Int32.toNatClampNeg (v 50)) (vp_nar .boolean n2))) 49) (Int32.toNatClampNeg (v 50)) (vp_nar .boolean n3))) := RI.up 49 hR (by decide)
      refine lv_aload_n hx hb dX12_watch_49 rfl (lv_at hl 0 rfl) ?_
      refine mg_46 hx hb ht hown hK hP dX12_watch_50 ?_
      refine lv_aload_n hx hb dX12_watch_53 rfl (lv_at hl 0 rfl) ?_
      refine mg_50 hx hb ht hown hK hP dX12_watch_54 ?_
      refine lv_aload_n hx hb dX12_watch_57 rfl (lv_at hl 0 rfl) ?_
      refine mg_51 hx hb ht hown hK hP dX12_watch_58 ?_
      have q_11 : T ≤ (v 51).toInt ∧ (v 51).toInt ≤ T := hv 51
      have q_12 : vp_in (v 50) 30 := vp_in_iff.mpr ⟨by omega, by omega⟩
      refine ms_46 hx hb hK hP hD hS q_12 dX12_watch_61 (fun H locs hP hD hS => ?_)
      have hf := MIf.up 46 (i := (Int32.toNatClampNeg (v 50))) hf (ow_any (v 51))
      have hL : WL v (va_up (va_up (va_up (va_up f 45 (upd (f 45) (Int32.toNatClampNeg (v 50)) n)) 48 (upd ((va_up f 45 (upd (f 45) (Int32.toNatClampNeg (v 50)) n)) 48) (Int32.toNatClampNeg (v 50)) (vp_nar .boolean n2))) 49 (upd ((va_up (va_up f 45 (upd (f 45) (Int32.toNatClampNeg (v 50)) n)) 48 (upd ((va_up f 45 (upd (f 45) (Int32.toNatClampNeg (v 50)) n)) 48) (Int32.toNatClampNeg (v 50)) (vp_nar .boolean n2))) 49) (Int32.toNatClampNeg (v 50)) (vp_nar .boolean n3))) 46 (upd ((va_up (va_up (va_up f 45 (upd (f 45) (Int32.toNatClampNeg (v 50)) n)) 48 (upd ((va_up f 45 (upd (f 45) (Int32.toNatClampNeg (v 50)) n)) 48) (Int32.toNatClampNeg (v 50)) (vp_nar .boolean n2))) 49 (upd ((va_up (va_up f 45 (upd (f 45) (Int32.toNatClampNeg (v 50)) n)) 48 (upd ((va_up f 45 (upd (f 45) (Int32.toNatClampNeg (v 50)) n)) 48) (Int32.toNatClampNeg (v 50)) (vp_nar .boolean n2))) 49) (Int32.toNatClampNeg (v 50)) (vp_nar .boolean n3))) 46) (Int32.toNatClampNeg (v 50)) (v 51))) := WL.upf 46 hL (by decide)
      have hR : RI v (va_up (va_up (va_up (va_up f 45 (upd (f 45) (Int32.toNatClampNeg (v 50)) n)) 48 (upd ((va_up f 45 (upd (f 45) (Int32.toNatClampNeg (v 50)) n)) 48) (Int32.toNatClampNeg (v 50)) (vp_nar .boolean n2))) 49 (upd ((va_up (va_up f 45 (upd (f 45) (Int32.toNatClampNeg (v 50)) n)) 48 (upd ((va_up f 45 (upd (f 45) (Int32.toNatClampNeg (v 50)) n)) 48) (Int32.toNatClampNeg (v 50)) (vp_nar .boolean n2))) 49) (Int32.toNatClampNeg (v 50)) (vp_nar .boolean n3))) 46 (upd ((va_up (va_up (va_up f 45 (upd (f 45) (Int32.toNatClampNeg (v 50)) n)) 48 (upd ((va_up f 45 (upd (f 45) (Int32.toNatClampNeg (v 50)) n)) 48) (Int32.toNatClampNeg (v 50)) (vp_nar .boolean n2))) 49 (upd ((va_up (va_up f 45 (upd (f 45) (Int32.toNatClampNeg (v 50)) n)) 48 (upd ((va_up f 45 (upd (f 45) (Int32.toNatClampNeg (v 50)) n)) 48) (Int32.toNatClampNeg (v 50)) (vp_nar .boolean n2))) 49) (Int32.toNatClampNeg (v 50)) (vp_nar .boolean n3))) 46) (Int32.toNatClampNeg (v 50)) (v 51))) := RI.up 46 hR (by decide)
      refine lv_aload_n hx hb dX12_watch_62 rfl (lv_at hl 0 rfl) ?_
      refine mg_47 hx hb ht hown hK hP dX12_watch_63 ?_
      refine lv_aload_n hx hb dX12_watch_66 rfl (lv_at hl 0 rfl) ?_
      refine mg_50 hx hb ht hown hK hP dX12_watch_67 ?_
      refine lv_iconst (v := (-1)) hx hb dX12_watch_70 (by decide) ?_
      have q_13 : vp_in (v 50) 30 := vp_in_iff.mpr ⟨by omega, by omega⟩
      refine ms_47 hx hb hK hP hD hS q_13 dX12_watch_71 (fun H locs hP hD hS => ?_)
      have hf := MIf.up 47 (i := (Int32.toNatClampNeg (v 50))) hf (ow_any ((-1) : Int32))
      have hL : WL v (va_up (va_up (va_up (va_up (va_up f 45 (upd (f 45) (Int32.toNatClampNeg (v 50)) n)) 48 (upd ((va_up f 45 (upd (f 45) (Int32.toNatClampNeg (v 50)) n)) 48) (Int32.toNatClampNeg (v 50)) (vp_nar .boolean n2))) 49 (upd ((va_up (va_up f 45 (upd (f 45) (Int32.toNatClampNeg (v 50)) n)) 48 (upd ((va_up f 45 (upd (f 45) (Int32.toNatClampNeg (v 50)) n)) 48) (Int32.toNatClampNeg (v 50)) (vp_nar .boolean n2))) 49) (Int32.toNatClampNeg (v 50)) (vp_nar .boolean n3))) 46 (upd ((va_up (va_up (va_up f 45 (upd (f 45) (Int32.toNatClampNeg (v 50)) n)) 48 (upd ((va_up f 45 (upd (f 45) (Int32.toNatClampNeg (v 50)) n)) 48) (Int32.toNatClampNeg (v 50)) (vp_nar .boolean n2))) 49 (upd ((va_up (va_up f 45 (upd (f 45) (Int32.toNatClampNeg (v 50)) n)) 48 (upd ((va_up f 45 (upd (f 45) (Int32.toNatClampNeg (v 50)) n)) 48) (Int32.toNatClampNeg (v 50)) (vp_nar .boolean n2))) 49) (Int32.toNatClampNeg (v 50)) (vp_nar .boolean n3))) 46) (Int32.toNatClampNeg (v 50)) (v 51))) 47 (upd ((va_up (va_up (va_up (va_up f 45 (upd (f 45) (Int32.toNatClampNeg (v 50)) n)) 48 (upd ((va_up f 45 (upd (f 45) (Int32.toNatClampNeg (v 50)) n)) 48) (Int32.toNatClampNeg (v 50)) (vp_nar .boolean n2))) 49 (upd ((va_up (va_up f 45 (upd (f 45) (Int32.toNatClampNeg (v 50)) n)) 48 (upd ((va_up f 45 (upd (f 45) (Int32.toNatClampNeg (v 50)) n)) 48) (Int32.toNatClampNeg (v 50)) (vp_nar .boolean n2))) 49) (Int32.toNatClampNeg (v 50)) (vp_nar .boolean n3))) 46 (upd ((va_up (va_up (va_up f 45 (upd (f 45) (Int32.toNatClampNeg (v 50)) n)) 48 (upd ((va_up f 45 (upd (f 45) (Int32.toNatClampNeg (v 50)) n)) 48) (Int32.toNatClampNeg (v 50)) (vp_nar .boolean n2))) 49 (upd ((va_up (va_up f 45 (upd (f 45) (Int32.toNatClampNeg (v 50)) n)) 48 (upd ((va_up f 45 (upd (f 45) (Int32.toNatClampNeg (v 50)) n)) 48) (Int32.toNatClampNeg (v 50)) (vp_nar .boolean n2))) 49) (Int32.toNatClampNeg (v 50)) (vp_nar .boolean n3))) 46) (Int32.toNatClampNeg (v 50)) (v 51))) 47) (Int32.toNatClampNeg (v 50)) (-1))) := WL.upf 47 hL (by decide)
      have hR : RI v (va_up (va_up (va_up (va_up (va_up f 45 (upd (f 45) (Int32.toNatClampNeg (v 50)) n)) 48 (upd ((va_up f 45 (upd (f 45) (Int32.toNatClampNeg (v 50)) n)) 48) (Int32.toNatClampNeg (v 50)) (vp_nar .boolean n2))) 49 (upd ((va_up (va_up f 45 (upd (f 45) (Int32.toNatClampNeg (v 50)) n)) 48 (upd ((va_up f 45 (upd (f 45) (Int32.toNatClampNeg (v 50)) n)) 48) (Int32.toNatClampNeg (v 50)) (vp_nar .boolean n2))) 49) (Int32.toNatClampNeg (v 50)) (vp_nar .boolean n3))) 46 (upd ((va_up (va_up (va_up f 45 (upd (f 45) (Int32.toNatClampNeg (v 50)) n)) 48 (upd ((va_up f 45 (upd (f 45) (Int32.toNatClampNeg (v 50)) n)) 48) (Int32.toNatClampNeg (v 50)) (vp_nar .boolean n2))) 49 (upd ((va_up (va_up f 45 (upd (f 45) (Int32.toNatClampNeg (v 50)) n)) 48 (upd ((va_up f 45 (upd (f 45) (Int32.toNatClampNeg (v 50)) n)) 48) (Int32.toNatClampNeg (v 50)) (vp_nar .boolean n2))) 49) (Int32.toNatClampNeg (v 50)) (vp_nar .boolean n3))) 46) (Int32.toNatClampNeg (v 50)) (v 51))) 47 (upd ((va_up (va_up (va_up (va_up f 45 (upd (f 45) (Int32.toNatClampNeg (v 50)) n)) 48 (upd ((va_up f 45 (upd (f 45) (Int32.toNatClampNeg (v 50)) n)) 48) (Int32.toNatClampNeg (v 50)) (vp_nar .boolean n2))) 49 (upd ((va_up (va_up f 45 (upd (f 45) (Int32.toNatClampNeg (v 50)) n)) 48 (upd ((va_up f 45 (upd (f 45) (Int32.toNatClampNeg (v 50)) n)) 48) (Int32.toNatClampNeg (v 50)) (vp_nar .boolean n2))) 49) (Int32.toNatClampNeg (v 50)) (vp_nar .boolean n3))) 46 (upd ((va_up (va_up (va_up f 45 (upd (f 45) (Int32.toNatClampNeg (v 50)) n)) 48 (upd ((va_up f 45 (upd (f 45) (Int32.toNatClampNeg (v 50)) n)) 48) (Int32.toNatClampNeg (v 50)) (vp_nar .boolean n2))) 49 (upd ((va_up (va_up f 45 (upd (f 45) (Int32.toNatClampNeg (v 50)) n)) 48 (upd ((va_up f 45 (upd (f 45) (Int32.toNatClampNeg (v 50)) n)) 48) (Int32.toNatClampNeg (v 50)) (vp_nar .boolean n2))) 49) (Int32.toNatClampNeg (v 50)) (vp_nar .boolean n3))) 46) (Int32.toNatClampNeg (v 50)) (v 51))) 47) (Int32.toNatClampNeg (v 50)) (-1))) := RI.up 47 hR (by decide)
      refine lv_aload_n hx hb dX12_watch_72 rfl (lv_at hl 0 rfl) ?_
      refine lv_dup hx hb dX12_watch_73 rfl ?_
      refine mg_50 hx hb ht hown hK hP dX12_watch_74 ?_
      refine lv_iconst (v := 1) hx hb dX12_watch_77 (by decide) ?_
      refine lv_iadd hx hb dX12_watch_78 ?_
      refine lv_topi (fun v_14 ev_14 => ?_)
      have q_15 : v_14.toInt = (v 50).toInt + (1 : Int32).toInt := ow_add ev_14 (by omega) (by omega)
      refine mp_50 hx hb ht hown hK hP hD hS dX12_watch_79 (fun H locs hP hD hS => ?_)
      have hv := MIv.up 50 hv (show 0 ≤ v_14.toInt ∧ v_14.toInt ≤ 30 from by omega)
      have hL : WL (va_up v 50 v_14) (va_up (va_up (va_up (va_up (va_up f 45 (upd (f 45) (Int32.toNatClampNeg (v 50)) n)) 48 (upd ((va_up f 45 (upd (f 45) (Int32.toNatClampNeg (v 50)) n)) 48) (Int32.toNatClampNeg (v 50)) (vp_nar .boolean n2))) 49 (upd ((va_up (va_up f 45 (upd (f 45) (Int32.toNatClampNeg (v 50)) n)) 48 (upd ((va_up f 45 (upd (f 45) (Int32.toNatClampNeg (v 50)) n)) 48) (Int32.toNatClampNeg (v 50)) (vp_nar .boolean n2))) 49) (Int32.toNatClampNeg (v 50)) (vp_nar .boolean n3))) 46 (upd ((va_up (va_up (va_up f 45 (upd (f 45) (Int32.toNatClampNeg (v 50)) n)) 48 (upd ((va_up f 45 (upd (f 45) (Int32.toNatClampNeg (v 50)) n)) 48) (Int32.toNatClampNeg (v 50)) (vp_nar .boolean n2))) 49 (upd ((va_up (va_up f 45 (upd (f 45) (Int32.toNatClampNeg (v 50)) n)) 48 (upd ((va_up f 45 (upd (f 45) (Int32.toNatClampNeg (v 50)) n)) 48) (Int32.toNatClampNeg (v 50)) (vp_nar .boolean n2))) 49) (Int32.toNatClampNeg (v 50)) (vp_nar .boolean n3))) 46) (Int32.toNatClampNeg (v 50)) (v 51))) 47 (upd ((va_up (va_up (va_up (va_up f 45 (upd (f 45) (Int32.toNatClampNeg (v 50)) n)) 48 (upd ((va_up f 45 (upd (f 45) (Int32.toNatClampNeg (v 50)) n)) 48) (Int32.toNatClampNeg (v 50)) (vp_nar .boolean n2))) 49 (upd ((va_up (va_up f 45 (upd (f 45) (Int32.toNatClampNeg (v 50)) n)) 48 (upd ((va_up f 45 (upd (f 45) (Int32.toNatClampNeg (v 50)) n)) 48) (Int32.toNatClampNeg (v 50)) (vp_nar .boolean n2))) 49) (Int32.toNatClampNeg (v 50)) (vp_nar .boolean n3))) 46 (upd ((va_up (va_up (va_up f 45 (upd (f 45) (Int32.toNatClampNeg (v 50)) n)) 48 (upd ((va_up f 45 (upd (f 45) (Int32.toNatClampNeg (v 50)) n)) 48) (Int32.toNatClampNeg (v 50)) (vp_nar .boolean n2))) 49 (upd ((va_up (va_up f 45 (upd (f 45) (Int32.toNatClampNeg (v 50)) n)) 48 (upd ((va_up f 45 (upd (f 45) (Int32.toNatClampNeg (v 50)) n)) 48) (Int32.toNatClampNeg (v 50)) (vp_nar .boolean n2))) 49) (Int32.toNatClampNeg (v 50)) (vp_nar .boolean n3))) 46) (Int32.toNatClampNeg (v 50)) (v 51))) 47) (Int32.toNatClampNeg (v 50)) (-1))) := fun k hk => by
        replace hk : (k : Int) < v_14.toInt := hk
        by_cases e9 : (k : Int) < (v 50).toInt
        · exact hL k e9
        · have e2 : k = Int32.toNatClampNeg (v 50) := by rw [ow_tn]; omega
          subst e2
          show 0 ≤ (upd (f 45) (Int32.toNatClampNeg (v 50)) n (Int32.toNatClampNeg (v 50))).toInt ∧ (upd (f 45) (Int32.toNatClampNeg (v 50)) n (Int32.toNatClampNeg (v 50))).toInt < (f 12 (Int32.toNatClampNeg (v 29))).toInt
          rw [pk_us]
          omega
      have hR : RI (va_up v 50 v_14) (va_up (va_up (va_up (va_up (va_up f 45 (upd (f 45) (Int32.toNatClampNeg (v 50)) n)) 48 (upd ((va_up f 45 (upd (f 45) (Int32.toNatClampNeg (v 50)) n)) 48) (Int32.toNatClampNeg (v 50)) (vp_nar .boolean n2))) 49 (upd ((va_up (va_up f 45 (upd (f 45) (Int32.toNatClampNeg (v 50)) n)) 48 (upd ((va_up f 45 (upd (f 45) (Int32.toNatClampNeg (v 50)) n)) 48) (Int32.toNatClampNeg (v 50)) (vp_nar .boolean n2))) 49) (Int32.toNatClampNeg (v 50)) (vp_nar .boolean n3))) 46 (upd ((va_up (va_up (va_up f 45 (upd (f 45) (Int32.toNatClampNeg (v 50)) n)) 48 (upd ((va_up f 45 (upd (f 45) (Int32.toNatClampNeg (v 50)) n)) 48) (Int32.toNatClampNeg (v 50)) (vp_nar .boolean n2))) 49 (upd ((va_up (va_up f 45 (upd (f 45) (Int32.toNatClampNeg (v 50)) n)) 48 (upd ((va_up f 45 (upd (f 45) (Int32.toNatClampNeg (v 50)) n)) 48) (Int32.toNatClampNeg (v 50)) (vp_nar .boolean n2))) 49) (Int32.toNatClampNeg (v 50)) (vp_nar .boolean n3))) 46) (Int32.toNatClampNeg (v 50)) (v 51))) 47 (upd ((va_up (va_up (va_up (va_up f 45 (upd (f 45) (Int32.toNatClampNeg (v 50)) n)) 48 (upd ((va_up f 45 (upd (f 45) (Int32.toNatClampNeg (v 50)) n)) 48) (Int32.toNatClampNeg (v 50)) (vp_nar .boolean n2))) 49 (upd ((va_up (va_up f 45 (upd (f 45) (Int32.toNatClampNeg (v 50)) n)) 48 (upd ((va_up f 45 (upd (f 45) (Int32.toNatClampNeg (v 50)) n)) 48) (Int32.toNatClampNeg (v 50)) (vp_nar .boolean n2))) 49) (Int32.toNatClampNeg (v 50)) (vp_nar .boolean n3))) 46 (upd ((va_up (va_up (va_up f 45 (upd (f 45) (Int32.toNatClampNeg (v 50)) n)) 48 (upd ((va_up f 45 (upd (f 45) (Int32.toNatClampNeg (v 50)) n)) 48) (Int32.toNatClampNeg (v 50)) (vp_nar .boolean n2))) 49 (upd ((va_up (va_up f 45 (upd (f 45) (Int32.toNatClampNeg (v 50)) n)) 48 (upd ((va_up f 45 (upd (f 45) (Int32.toNatClampNeg (v 50)) n)) 48) (Int32.toNatClampNeg (v 50)) (vp_nar .boolean n2))) 49) (Int32.toNatClampNeg (v 50)) (vp_nar .boolean n3))) 46) (Int32.toNatClampNeg (v 50)) (v 51))) 47) (Int32.toNatClampNeg (v 50)) (-1))) := RI.upv 50 hR (by decide)
      refine lv_aload_n hx hb dX12_watch_82 rfl (lv_at hl 0 rfl) ?_
      refine mg_50 hx hb ht hown hK hP dX12_watch_83 ?_
      refine ow_top v_14 rfl ?_
      refine lv_iconst (v := 1) hx hb dX12_watch_86 (by decide) ?_
      refine lv_isub hx hb dX12_watch_87 ?_
      refine lv_topi (fun v_16 ev_16 => ?_)
      have q_17 : v_16.toInt = v_14.toInt - (1 : Int32).toInt := ow_sub ev_16 (by omega) (by omega)
      refine W.widen (k := 0) (n := 0) (Nat.le_of_ble_eq_true rfl) (Nat.le_of_ble_eq_true rfl) ?_
      exact W.iret (v := v_16) hx hb hr (fun t ht9 hW => ⟨⟨v_16, ((va_up v 50 v_14), nm, (va_up (va_up (va_up (va_up (va_up f 45 (upd (f 45) (Int32.toNatClampNeg (v 50)) n)) 48 (upd ((va_up f 45 (upd (f 45) (Int32.toNatClampNeg (v 50)) n)) 48) (Int32.toNatClampNeg (v 50)) (vp_nar .boolean n2))) 49 (upd ((va_up (va_up f 45 (upd (f 45) (Int32.toNatClampNeg (v 50)) n)) 48 (upd ((va_up f 45 (upd (f 45) (Int32.toNatClampNeg (v 50)) n)) 48) (Int32.toNatClampNeg (v 50)) (vp_nar .boolean n2))) 49) (Int32.toNatClampNeg (v 50)) (vp_nar .boolean n3))) 46 (upd ((va_up (va_up (va_up f 45 (upd (f 45) (Int32.toNatClampNeg (v 50)) n)) 48 (upd ((va_up f 45 (upd (f 45) (Int32.toNatClampNeg (v 50)) n)) 48) (Int32.toNatClampNeg (v 50)) (vp_nar .boolean n2))) 49 (upd ((va_up (va_up f 45 (upd (f 45) (Int32.toNatClampNeg (v 50)) n)) 48 (upd ((va_up f 45 (upd (f 45) (Int32.toNatClampNeg (v 50)) n)) 48) (Int32.toNatClampNeg (v 50)) (vp_nar .boolean n2))) 49) (Int32.toNatClampNeg (v 50)) (vp_nar .boolean n3))) 46) (Int32.toNatClampNeg (v 50)) (v 51))) 47 (upd ((va_up (va_up (va_up (va_up f 45 (upd (f 45) (Int32.toNatClampNeg (v 50)) n)) 48 (upd ((va_up f 45 (upd (f 45) (Int32.toNatClampNeg (v 50)) n)) 48) (Int32.toNatClampNeg (v 50)) (vp_nar .boolean n2))) 49 (upd ((va_up (va_up f 45 (upd (f 45) (Int32.toNatClampNeg (v 50)) n)) 48 (upd ((va_up f 45 (upd (f 45) (Int32.toNatClampNeg (v 50)) n)) 48) (Int32.toNatClampNeg (v 50)) (vp_nar .boolean n2))) 49) (Int32.toNatClampNeg (v 50)) (vp_nar .boolean n3))) 46 (upd ((va_up (va_up (va_up f 45 (upd (f 45) (Int32.toNatClampNeg (v 50)) n)) 48 (upd ((va_up f 45 (upd (f 45) (Int32.toNatClampNeg (v 50)) n)) 48) (Int32.toNatClampNeg (v 50)) (vp_nar .boolean n2))) 49 (upd ((va_up (va_up f 45 (upd (f 45) (Int32.toNatClampNeg (v 50)) n)) 48 (upd ((va_up f 45 (upd (f 45) (Int32.toNatClampNeg (v 50)) n)) 48) (Int32.toNatClampNeg (v 50)) (vp_nar .boolean n2))) 49) (Int32.toNatClampNeg (v 50)) (vp_nar .boolean n3))) 46) (Int32.toNatClampNeg (v 50)) (v 51))) 47) (Int32.toNatClampNeg (v 50)) (-1))), g), rfl, ⟨hv, hf, hR, hL, trivial⟩, ⟨by rw [ht9]; exact hP, hD⟩⟩, hS.F ht9⟩) hS.2.2 dX12_watch_88
    · have q_18 : (v 50).toInt = (30 : Int32).toInt := (ow_eq _ _).mp c_6
      refine lv_iconst (v := (-1)) hx hb dX12_watch_17 (by decide) ?_
      refine W.widen (k := 0) (n := 0) (Nat.le_of_ble_eq_true rfl) (Nat.le_of_ble_eq_true rfl) ?_
      exact W.iret (v := (-1)) hx hb hr (fun t ht9 hW => ⟨⟨(-1), (v, nm, f, g), rfl, ⟨hv, hf, hR, hL, trivial⟩, ⟨by rw [ht9]; exact hP, hD⟩⟩, hS.F ht9⟩) hS.2.2 dX12_watch_18
set_option maxHeartbeats 4000000 in
set_option maxRecDepth 100000 in
theorem m_untell (l : Launch) (G : va_G) (cy : Nat → ClassId) (sz : Nat) (mo : Nat) (h : Nat → Nat) (T : Int) (v : Nat → Int32) (nm : Int64) (f : Nat → Nat → Int32) (g : Nat → Nat → Int64) (n : Int32)  (hv : MIv T v) (hf : MIf f) (hR : RI v f) (hL : WL v f)  : Met l yX12_untell (.code yX12_untell cX12_untell 2 (some .boolean) :: TBg) ({ frames := 2, cells := 0, slots := 0, locals := 128 }) (va_Pc [.ref mo, .int n] (En G cy (WMs cy mo h v nm f g) sz)) (va_Qi (fun (r : Int32) (u : (Nat → Int32) × Int64 × (Nat → Nat → Int32) × (Nat → Nat → Int64)) => MIv T u.1 ∧ MIf u.2.2.1 ∧ RI u.1 u.2.2.1 ∧ WL u.1 u.2.2.1 ∧ ((r.toInt = 0 ∨ r.toInt = 1))) (fun u t => Ex G (va_A (WMs cy mo h v nm f g) sz) (WMs cy mo h u.1 u.2.1 u.2.2.1 u.2.2.2) t) (va_A (WMs cy mo h v nm f g) sz)) 0 0 (va_A (WMs cy mo h v nm f g) sz) := by
  refine Met.ofW (cc := cX12_untell) (maxL := 2) (ret := (some .boolean)) (by decide) rfl ?_
  intro p e s m args below meth c s₁ B hml hv9
  obtain ⟨rfl, hsz, hP, hK, hD0, hN⟩ := hv9
  have hx := B.exec
  have hb := B.bytes
  have hr := B.returns
  have hts := atoms_spec (ws := .code yX12_untell cX12_untell 2 (some .boolean) :: TBg) B.pre
  have ht : ∀ w ∈ TBg, w.before _ s = true := fun w h => hts w (List.mem_cons_of_mem _ h)
  have hown : s.vm.findClass RX12 = some m.cls := findClass_of_methodNamed B.named
  have hlocks := B.notSynchronized
  subst hsz
  have hD := hD0.self (sz := s.heap.size)
  generalize hAe : va_A (WMs cy mo h v nm f g) s.heap.size = A at hD ⊢
  have hA : ∀ q : Nat, s.heap.size ≤ q → A q := fun q h => by rw [← hAe]; exact Or.inr h
  have hS : va_S A s.heap s.heap [] := va_S.rf
  have hl := lv_entry ([.ref mo, .int n]) (n := 2) (Nat.le_of_ble_eq_true rfl)
  rw [lg_entry_eq]
  generalize (lg_sl ([.ref mo, .int n]) ++ List.replicate (2 - (lg_sl ([.ref mo, .int n])).length) Slot.unset).toArray = ls at hl ⊢
  have hl : lv_has ls 2 [(0, .ref mo), (1, .int n)] := hl
  have z0 : (0 : Int32).toInt = 0 := by decide
  have z1 : (1 : Int32).toInt = 1 := by decide
  refine lv_iload_n hx hb dX12_untell_0 rfl (lv_at hl 1 rfl) ?_
  refine lv_iconst (v := 0) hx hb dX12_untell_1 (by decide) ?_
  refine lv_aload_n hx hb dX12_untell_2 rfl (lv_at hl 0 rfl) ?_
  refine mg_50 hx hb ht hown hK hP dX12_untell_3 ?_
  have q_1 : 0 ≤ (v 50).toInt ∧ (v 50).toInt ≤ 30 := hv 50
  refine lv_iconst (v := 1) hx hb dX12_untell_6 (by decide) ?_
  refine lv_isub hx hb dX12_untell_7 ?_
  refine lv_topi (fun v_2 ev_2 => ?_)
  have q_3 : v_2.toInt = (v 50).toInt - (1 : Int32).toInt := ow_sub ev_2 (by omega) (by omega)
  have hFc := fr_new hS hA
  refine va_calli (va_runS (As := [.int n, .int 0, .int v_2]) (rest := []) ⟨hx, hb, hml, hown, ht⟩ (m_isIn l G cy _  n (0) v_2  ) (va_cwS 3 ht (gs k_59 k_60 k_61 k_58) rfl rfl rfl (by decide +kernel) ⟨Nat.le_of_ble_eq_true rfl, Nat.le_of_ble_eq_true rfl⟩) ⟨En.blind, fun U hU hW => ⟨rfl, En.of hU hW (va_P0 (H := _)) hK va_D0 hN⟩⟩ rfl rfl hl.1 rfl (lv_room (Nat.le_of_ble_eq_true rfl)) dX12_untell_8 ⟨Nat.le_of_ble_eq_true rfl, Nat.le_of_ble_eq_true rfl⟩) hS (fun q _ h => hFc q h) hFc (fun r_u_4 u_4 t9 H locs ht9 hvm hw hB hz1 hk1 hS => ?_)
  have hP := fr_keep hP hk1
  have wu_4 := hw
  clear hFc hk1 hz1 hB hw
  refine lv_if_eq (tgt := 23) hx hb dX12_untell_11 (by decide) (fun c_5 => ?_) (fun c_5 => ?_)
  · have q_6 : r_u_4.toInt = (0 : Int32).toInt := (ow_eq _ _).mp c_5
    refine lv_iconst (v := 0) hx hb dX12_untell_23 (by decide) ?_
    refine W.widen (k := 0) (n := 0) (Nat.le_of_ble_eq_true rfl) (Nat.le_of_ble_eq_true rfl) ?_
    exact W.zret (v := 0) hx hb hr rfl (fun t ht9 hW => ⟨⟨0, (v, nm, f, g), rfl, ⟨hv, hf, hR, hL, (by omega)⟩, ⟨by rw [ht9]; exact hP, hD⟩⟩, hS.F ht9⟩) hS.2.2 dX12_untell_24
  · have q_7 : ¬ r_u_4.toInt = (0 : Int32).toInt := by have := (not_congr (ow_eq _ _)).mp c_5; omega
    refine lv_aload_n hx hb dX12_untell_14 rfl (lv_at hl 0 rfl) ?_
    refine mg_47 hx hb ht hown hK hP dX12_untell_15 ?_
    refine lv_iload_n hx hb dX12_untell_18 rfl (lv_at hl 1 rfl) ?_
    have q_8 : vp_in n 30 := vp_in_iff.mpr ⟨by omega, by omega⟩
    refine ml_47 hx hb hK hP q_8 dX12_untell_19 ?_
    refine lv_topi (fun v_9 ev_9 => ?_)
    refine lv_if_lt (tgt := 25) hx hb dX12_untell_20 (by decide) (fun c_10 => ?_) (fun c_10 => ?_)
    · have q_11 : v_9.toInt < (0 : Int32).toInt := (ow_lt _ _).mp c_10
      refine lv_aload_n hx hb dX12_untell_25 rfl (lv_at hl 0 rfl) ?_
      refine mg_47 hx hb ht hown hK hP dX12_untell_26 ?_
      refine lv_iload_n hx hb dX12_untell_29 rfl (lv_at hl 1 rfl) ?_
      refine lv_aload_n hx hb dX12_untell_30 rfl (lv_at hl 0 rfl) ?_
      refine mg_51 hx hb ht hown hK hP dX12_untell_31 ?_
      have q_12 : T ≤ (v 51).toInt ∧ (v 51).toInt ≤ T := hv 51
      have q_13 : vp_in n 30 := vp_in_iff.mpr ⟨by omega, by omega⟩
      refine ms_47 hx hb hK hP hD hS q_13 dX12_untell_34 (fun H locs hP hD hS => ?_)
      have hf := MIf.up 47 (i := (Int32.toNatClampNeg n)) hf (ow_any (v 51))
      have hL : WL v (va_up f 47 (upd (f 47) (Int32.toNatClampNeg n) (v 51))) := WL.upf 47 hL (by decide)
      have hR : RI v (va_up f 47 (upd (f 47) (Int32.toNatClampNeg n) (v 51))) := RI.up 47 hR (by decide)
      refine lv_iconst (v := 1) hx hb dX12_untell_35 (by decide) ?_
      refine W.widen (k := 0) (n := 0) (Nat.le_of_ble_eq_true rfl) (Nat.le_of_ble_eq_true rfl) ?_
      exact W.zret (v := 1) hx hb hr rfl (fun t ht9 hW => ⟨⟨1, (v, nm, (va_up f 47 (upd (f 47) (Int32.toNatClampNeg n) (v 51))), g), rfl, ⟨hv, hf, hR, hL, (by omega)⟩, ⟨by rw [ht9]; exact hP, hD⟩⟩, hS.F ht9⟩) hS.2.2 dX12_untell_36
    · have q_14 : (0 : Int32).toInt ≤ v_9.toInt := by have := (not_congr (ow_lt _ _)).mp c_10; omega
      refine lv_iconst (v := 0) hx hb dX12_untell_23 (by decide) ?_
      refine W.widen (k := 0) (n := 0) (Nat.le_of_ble_eq_true rfl) (Nat.le_of_ble_eq_true rfl) ?_
      exact W.zret (v := 0) hx hb hr rfl (fun t ht9 hW => ⟨⟨0, (v, nm, f, g), rfl, ⟨hv, hf, hR, hL, (by omega)⟩, ⟨by rw [ht9]; exact hP, hD⟩⟩, hS.F ht9⟩) hS.2.2 dX12_untell_24
set_option maxHeartbeats 4000000 in
set_option maxRecDepth 100000 in
theorem m_later (l : Launch) (G : va_G) (cy : Nat → ClassId) (sz : Nat) (mo : Nat) (h : Nat → Nat) (T : Int) (v : Nat → Int32) (nm : Int64) (f : Nat → Nat → Int32) (g : Nat → Nat → Int64) (n : Int32)  (hv : MIv T v) (hf : MIf f) (hR : RI v f) (hL : WL v f) (hT : 0 ≤ T ∧ T ≤ 100000) : Met l yX12_later (.code yX12_later cX12_later 2 (some .int) :: TBg) ({ frames := 2, cells := 0, slots := 0, locals := 128 }) (va_Pc [.ref mo, .int n] (En G cy (WMs cy mo h v nm f g) sz)) (va_Qi (fun (r : Int32) (u : (Nat → Int32) × Int64 × (Nat → Nat → Int32) × (Nat → Nat → Int64)) => MIv (spT T n.toInt) u.1 ∧ MIf u.2.2.1 ∧ RI u.1 u.2.2.1 ∧ WL u.1 u.2.2.1 ∧ (r.toInt = spR T n.toInt)) (fun u t => Ex G (va_A (WMs cy mo h v nm f g) sz) (WMs cy mo h u.1 u.2.1 u.2.2.1 u.2.2.2) t) (va_A (WMs cy mo h v nm f g) sz)) 0 0 (va_A (WMs cy mo h v nm f g) sz) := by
  refine Met.ofW (cc := cX12_later) (maxL := 2) (ret := (some .int)) (by decide) rfl ?_
  intro p e s m args below meth c s₁ B hml hv9
  obtain ⟨rfl, hsz, hP, hK, hD0, hN⟩ := hv9
  have hx := B.exec
  have hb := B.bytes
  have hr := B.returns
  have hts := atoms_spec (ws := .code yX12_later cX12_later 2 (some .int) :: TBg) B.pre
  have ht : ∀ w ∈ TBg, w.before _ s = true := fun w h => hts w (List.mem_cons_of_mem _ h)
  have hown : s.vm.findClass RX12 = some m.cls := findClass_of_methodNamed B.named
  have hlocks := B.notSynchronized
  subst hsz
  have hD := hD0.self (sz := s.heap.size)
  generalize hAe : va_A (WMs cy mo h v nm f g) s.heap.size = A at hD ⊢
  have hA : ∀ q : Nat, s.heap.size ≤ q → A q := fun q h => by rw [← hAe]; exact Or.inr h
  have hS : va_S A s.heap s.heap [] := va_S.rf
  have hl := lv_entry ([.ref mo, .int n]) (n := 2) (Nat.le_of_ble_eq_true rfl)
  rw [lg_entry_eq]
  generalize (lg_sl ([.ref mo, .int n]) ++ List.replicate (2 - (lg_sl ([.ref mo, .int n])).length) Slot.unset).toArray = ls at hl ⊢
  have hl : lv_has ls 2 [(0, .ref mo), (1, .int n)] := hl
  have z0 : (-1 : Int32).toInt = -1 := by decide
  have z1 : (0 : Int32).toInt = 0 := by decide
  have z2 : (1000 : Int32).toInt = 1000 := by decide
  have z3 : (100000 : Int32).toInt = 100000 := by decide
  refine lv_iload_n hx hb dX12_later_0 rfl (lv_at hl 1 rfl) ?_
  refine lv_iconst (v := 0) hx hb dX12_later_1 (by decide) ?_
  refine lv_sipush (v := 1000) hx hb dX12_later_2 (by decide) ?_
  have hFc := fr_new hS hA
  refine va_calli (va_runS (As := [.int n, .int 0, .int 1000]) (rest := []) ⟨hx, hb, hml, hown, ht⟩ (m_isIn l G cy _  n (0) (1000)  ) (va_cwS 3 ht (gs k_59 k_60 k_61 k_58) rfl rfl rfl (by decide +kernel) ⟨Nat.le_of_ble_eq_true rfl, Nat.le_of_ble_eq_true rfl⟩) ⟨En.blind, fun U hU hW => ⟨rfl, En.of hU hW (va_P0 (H := _)) hK va_D0 hN⟩⟩ rfl rfl hl.1 rfl (lv_room (Nat.le_of_ble_eq_true rfl)) dX12_later_5 ⟨Nat.le_of_ble_eq_true rfl, Nat.le_of_ble_eq_true rfl⟩) hS (fun q _ h => hFc q h) hFc (fun r_u_1 u_1 t9 H locs ht9 hvm hw hB hz1 hk1 hS => ?_)
  have hP := fr_keep hP hk1
  have wu_1 := hw
  clear hFc hk1 hz1 hB hw
  refine lv_if_eq (tgt := 23) hx hb dX12_later_8 (by decide) (fun c_2 => ?_) (fun c_2 => ?_)
  · have q_3 : r_u_1.toInt = (0 : Int32).toInt := (ow_eq _ _).mp c_2
    refine lv_iconst (v := (-1)) hx hb dX12_later_23 (by decide) ?_
    refine W.widen (k := 0) (n := 0) (Nat.le_of_ble_eq_true rfl) (Nat.le_of_ble_eq_true rfl) ?_
    have hv : MIv (spT T n.toInt) v := by rw [show (spT T n.toInt) = T from by unfold spT; split <;> omega]; exact hv
    exact W.iret (v := (-1)) hx hb hr (fun t ht9 hW => ⟨⟨(-1), (v, nm, f, g), rfl, ⟨hv, hf, hR, hL, (by unfold spR; split <;> omega)⟩, ⟨by rw [ht9]; exact hP, hD⟩⟩, hS.F ht9⟩) hS.2.2 dX12_later_24
  · have q_4 : ¬ r_u_1.toInt = (0 : Int32).toInt := by have := (not_congr (ow_eq _ _)).mp c_2; omega
    refine lv_aload_n hx hb dX12_later_11 rfl (lv_at hl 0 rfl) ?_
    refine mg_51 hx hb ht hown hK hP dX12_later_12 ?_
    have q_5 : T ≤ (v 51).toInt ∧ (v 51).toInt ≤ T := hv 51
    refine lv_iload_n hx hb dX12_later_15 rfl (lv_at hl 1 rfl) ?_
    refine lv_iadd hx hb dX12_later_16 ?_
    refine lv_topi (fun v_6 ev_6 => ?_)
    have q_7 : v_6.toInt = (v 51).toInt + n.toInt := ow_add ev_6 (by omega) (by omega)
    refine lv_ldcw (v := 100000) hx hb hown (ht _ k_125) dX12_later_17 ?_
    refine lv_icmp_le (tgt := 25) hx hb dX12_later_20 (by decide) (fun c_8 => ?_) (fun c_8 => ?_)
    · have q_9 : v_6.toInt ≤ (100000 : Int32).toInt := (ow_le _ _).mp c_8
      refine lv_aload_n hx hb dX12_later_25 rfl (lv_at hl 0 rfl) ?_
      refine lv_dup hx hb dX12_later_26 rfl ?_
      refine mg_51 hx hb ht hown hK hP dX12_later_27 ?_
      refine lv_iload_n hx hb dX12_later_30 rfl (lv_at hl 1 rfl) ?_
      refine lv_iadd hx hb dX12_later_31 ?_
      refine lv_topi (fun v_10 ev_10 => ?_)
      have q_11 : v_10.toInt = (v 51).toInt + n.toInt := ow_add ev_10 (by omega) (by omega)
      refine mp_51 hx hb ht hown hK hP hD hS dX12_later_32 (fun H locs hP hD hS => ?_)
      have hv := MIv.time hv v_10
      have hL : WL (va_up v 51 v_10) f := WL.upv 51 hL (by decide)
      have hR : RI (va_up v 51 v_10) f := RI.upv 51 hR (by decide)
      refine lv_aload_n hx hb dX12_later_35 rfl (lv_at hl 0 rfl) ?_
      refine mg_51 hx hb ht hown hK hP dX12_later_36 ?_
      refine ow_top v_10 rfl ?_
      refine W.widen (k := 0) (n := 0) (Nat.le_of_ble_eq_true rfl) (Nat.le_of_ble_eq_true rfl) ?_
      have hv : MIv (spT T n.toInt) (va_up v 51 v_10) := by rw [show (spT T n.toInt) = (v_10.toInt) from by unfold spT; split <;> omega]; exact hv
      exact W.iret (v := v_10) hx hb hr (fun t ht9 hW => ⟨⟨v_10, ((va_up v 51 v_10), nm, f, g), rfl, ⟨hv, hf, hR, hL, (by unfold spR; split <;> omega)⟩, ⟨by rw [ht9]; exact hP, hD⟩⟩, hS.F ht9⟩) hS.2.2 dX12_later_39
    · have q_12 : (100000 : Int32).toInt < v_6.toInt := by have := (not_congr (ow_le _ _)).mp c_8; omega
      refine lv_iconst (v := (-1)) hx hb dX12_later_23 (by decide) ?_
      refine W.widen (k := 0) (n := 0) (Nat.le_of_ble_eq_true rfl) (Nat.le_of_ble_eq_true rfl) ?_
      have hv : MIv (spT T n.toInt) v := by rw [show (spT T n.toInt) = T from by unfold spT; split <;> omega]; exact hv
      exact W.iret (v := (-1)) hx hb hr (fun t ht9 hW => ⟨⟨(-1), (v, nm, f, g), rfl, ⟨hv, hf, hR, hL, (by unfold spR; split <;> omega)⟩, ⟨by rw [ht9]; exact hP, hD⟩⟩, hS.F ht9⟩) hS.2.2 dX12_later_24
set_option maxHeartbeats 4000000 in
set_option maxRecDepth 100000 in
theorem m_feed (l : Launch) (G : va_G) (cy : Nat → ClassId) (sz : Nat) (mo : Nat) (h : Nat → Nat) (T : Int) (v : Nat → Int32) (nm : Int64) (f : Nat → Nat → Int32) (g : Nat → Nat → Int64) (a1 : Int32) (a2 : Int32) (a3 : Int32) (a4 : Int32) (a5 : Int32)  (hv : MIv T v) (hf : MIf f) (hR : RI v f) (hL : WL v f)  : Met l yX12_feed (.code yX12_feed cX12_feed 8 (some .int) :: TBg) ({ frames := 1, cells := 0, slots := 0, locals := 64 }) (va_Pc [.ref mo, .int a1, .int a2, .int a3, .int a4, .int a5] (En G cy (WMs cy mo h v nm f g) sz)) (va_Qi (fun (r : Int32) (u : (Nat → Int32) × Int64 × (Nat → Nat → Int32) × (Nat → Nat → Int64)) => MIv T u.1 ∧ MIf u.2.2.1 ∧ RI u.1 u.2.2.1 ∧ WL u.1 u.2.2.1 ∧ (True)) (fun u t => Ex G (va_A (WMs cy mo h v nm f g) sz) (WMs cy mo h u.1 u.2.1 u.2.2.1 u.2.2.2) t) (va_A (WMs cy mo h v nm f g) sz)) 0 0 (va_A (WMs cy mo h v nm f g) sz) := by
  refine Met.ofW (cc := cX12_feed) (maxL := 8) (ret := (some .int)) (by decide) rfl ?_
  intro p e s m args below meth c s₁ B hml hv9
  obtain ⟨rfl, hsz, hP, hK, hD0, hN⟩ := hv9
  have hx := B.exec
  have hb := B.bytes
  have hr := B.returns
  have hts := atoms_spec (ws := .code yX12_feed cX12_feed 8 (some .int) :: TBg) B.pre
  have ht : ∀ w ∈ TBg, w.before _ s = true := fun w h => hts w (List.mem_cons_of_mem _ h)
  have hown : s.vm.findClass RX12 = some m.cls := findClass_of_methodNamed B.named
  have hlocks := B.notSynchronized
  subst hsz
  have hD := hD0.self (sz := s.heap.size)
  generalize hAe : va_A (WMs cy mo h v nm f g) s.heap.size = A at hD ⊢
  have hA : ∀ q : Nat, s.heap.size ≤ q → A q := fun q h => by rw [← hAe]; exact Or.inr h
  have hS : va_S A s.heap s.heap [] := va_S.rf
  have hl := lv_entry ([.ref mo, .int a1, .int a2, .int a3, .int a4, .int a5]) (n := 8) (Nat.le_of_ble_eq_true rfl)
  rw [lg_entry_eq]
  generalize (lg_sl ([.ref mo, .int a1, .int a2, .int a3, .int a4, .int a5]) ++ List.replicate (8 - (lg_sl ([.ref mo, .int a1, .int a2, .int a3, .int a4, .int a5])).length) Slot.unset).toArray = ls at hl ⊢
  have hl : lv_has ls 8 [(0, .ref mo), (1, .int a1), (2, .int a2), (3, .int a3), (4, .int a4), (5, .int a5)] := hl
  have z0 : (-1 : Int32).toInt = -1 := by decide
  have z1 : (0 : Int32).toInt = 0 := by decide
  have z2 : (1 : Int32).toInt = 1 := by decide
  have z3 : (4 : Int32).toInt = 4 := by decide
  have z4 : (8 : Int32).toInt = 8 := by decide
  have z5 : (12 : Int32).toInt = 12 := by decide
  have z6 : (16 : Int32).toInt = 16 := by decide
  have z7 : (20 : Int32).toInt = 20 := by decide
  have z8 : (1700 : Int32).toInt = 1700 := by decide
  refine lv_aload_n hx hb dX12_feed_0 rfl (lv_at hl 0 rfl) ?_
  refine mg_2 hx hb ht hown hK hP dX12_feed_1 ?_
  have q_1 : 0 ≤ (v 2).toInt ∧ (v 2).toInt ≤ 1700 := hv 2
  refine lv_bipush (v := 20) hx hb dX12_feed_4 (by decide) ?_
  refine lv_iadd hx hb dX12_feed_6 ?_
  refine lv_topi (fun v_2 ev_2 => ?_)
  have q_3 : v_2.toInt = (v 2).toInt + (20 : Int32).toInt := ow_add ev_2 (by omega) (by omega)
  refine lv_sipush (v := 1700) hx hb dX12_feed_7 (by decide) ?_
  refine lv_icmp_le (tgt := 15) hx hb dX12_feed_10 (by decide) (fun c_4 => ?_) (fun c_4 => ?_)
  · have q_5 : v_2.toInt ≤ (1700 : Int32).toInt := (ow_le _ _).mp c_4
    refine lv_iconst (v := 0) hx hb dX12_feed_15 (by decide) ?_
    refine lv_istore (lv' := [(6, .int 0), (0, .ref mo), (1, .int a1), (2, .int a2), (3, .int a3), (4, .int a4), (5, .int a5)]) hx hb dX12_feed_16 hl (by decide) rfl (fun ls hl => ?_)
    refine W.widen (k := 0) (n := 0) (Nat.le_of_ble_eq_true rfl) (Nat.le_of_ble_eq_true rfl) ?_
    have lp_6 : ∀ (N : Nat) (x6_6 : Int32) (v6 : Nat → Int32) (nm6 : Int64) (f6 : Nat → Nat → Int32) (g6 : Nat → Nat → Int64) (H : Heap) (locs : List Loc) (ls : Array Slot), MIv T v6 → MIf f6 → RI v6 f6 → WL v6 f6 → (0 ≤ x6_6.toInt ∧ x6_6.toInt ≤ 20) → (v6 2).toInt ≤ 1680 → (20 - x6_6.toInt).toNat < N → va_P G vwCl (WMs cy mo h v6 nm6 f6 g6) H → va_D A (WMs cy mo h v6 nm6 f6 g6) → va_S A s.heap H locs → lv_has ls 8 [(6, .int x6_6), (0, .ref mo), (1, .int a1), (2, .int a2), (3, .int a3), (4, .int a4), (5, .int a5)] → W p l e (headSpec (.code yX12_feed cX12_feed 8 (some .int) :: TBg) ({ frames := 1, cells := 0, slots := 0, locals := 64 })).room s m ([.ref mo, .int a1, .int a2, .int a3, .int a4, .int a5] : List Value).toArray below meth c H locs 0 0 (MQ below (va_Qi (fun (r : Int32) (u : (Nat → Int32) × Int64 × (Nat → Nat → Int32) × (Nat → Nat → Int64)) => MIv T u.1 ∧ MIf u.2.2.1 ∧ RI u.1 u.2.2.1 ∧ WL u.1 u.2.2.1 ∧ (True)) (fun u t => Ex G A (WMs cy mo h u.1 u.2.1 u.2.2.1 u.2.2.2) t) A) ([.ref mo, .int a1, .int a2, .int a3, .int a4, .int a5] : List Value).toArray s 0 0 A) (F0 m 18 ls []) := by
      intro N
      induction N with
      | zero => intro x6_6 v6 nm6 f6 g6 H locs ls hv hf hR hL qf6_0 qf6_1 hm hP hD hS hl; exact absurd hm (Nat.not_lt_zero _)
      | succ N ih_6 =>
        intro x6_6 v6 nm6 f6 g6 H locs ls hv hf hR hL qf6_0 qf6_1 hm hP hD hS hl
        refine lv_iload hx hb dX12_feed_18 (lv_at hl 0 rfl) ?_
        refine lv_bipush (v := 20) hx hb dX12_feed_20 (by decide) ?_
        refine lv_icmp_ge (tgt := 105) hx hb dX12_feed_22 (by decide) (fun c_7 => ?_) (fun c_7 => ?_)
        · have q_8 : (20 : Int32).toInt ≤ x6_6.toInt := (ow_le _ _).mp c_7
          refine lv_aload_n hx hb dX12_feed_105 rfl (lv_at hl 1 rfl) ?_
          refine lv_dup hx hb dX12_feed_106 rfl ?_
          refine mg_2 hx hb ht hown hK hP dX12_feed_107 ?_
          have q_9 : 0 ≤ (v6 2).toInt ∧ (v6 2).toInt ≤ 1700 := hv 2
          refine lv_bipush (v := 20) hx hb dX12_feed_110 (by decide) ?_
          refine lv_iadd hx hb dX12_feed_112 ?_
          refine lv_topi (fun v_10 ev_10 => ?_)
          have q_11 : v_10.toInt = (v6 2).toInt + (20 : Int32).toInt := ow_add ev_10 (by omega) (by omega)
          refine mp_2 hx hb ht hown hK hP hD hS dX12_feed_113 (fun H locs hP hD hS => ?_)
          have hv := MIv.up 2 hv (show 0 ≤ v_10.toInt ∧ v_10.toInt ≤ 1700 from by omega)
          have hL : WL (va_up v6 2 v_10) f6 := WL.upv 2 hL (by decide)
          have hR : RI (va_up v6 2 v_10) f6 := RI.upv 2 hR (by decide)
          refine lv_aload_n hx hb dX12_feed_116 rfl (lv_at hl 1 rfl) ?_
          refine mg_2 hx hb ht hown hK hP dX12_feed_117 ?_
          refine ow_top v_10 rfl ?_
          refine W.widen (k := 0) (n := 0) (Nat.le_of_ble_eq_true rfl) (Nat.le_of_ble_eq_true rfl) ?_
          exact W.iret (v := v_10) hx hb hr (fun t ht9 hW => ⟨⟨v_10, ((va_up v6 2 v_10), nm6, f6, g6), rfl, ⟨hv, hf, hR, hL, trivial⟩, ⟨by rw [ht9]; exact hP, hD⟩⟩, hS.F ht9⟩) hS.2.2 dX12_feed_120
        · have q_12 : x6_6.toInt < (20 : Int32).toInt := by have := (not_congr (ow_le _ _)).mp c_7; omega
          refine lv_iload hx hb dX12_feed_25 (lv_at hl 0 rfl) ?_
          refine lv_iconst (v := 4) hx hb dX12_feed_27 (by decide) ?_
          refine lv_icmp_ge (tgt := 35) hx hb dX12_feed_28 (by decide) (fun c_13 => ?_) (fun c_13 => ?_)
          · have q_14 : (4 : Int32).toInt ≤ x6_6.toInt := (ow_le _ _).mp c_13
            refine lv_iload hx hb dX12_feed_35 (lv_at hl 0 rfl) ?_
            refine lv_bipush (v := 8) hx hb dX12_feed_37 (by decide) ?_
            refine lv_icmp_ge (tgt := 46) hx hb dX12_feed_39 (by decide) (fun c_15 => ?_) (fun c_15 => ?_)
            · have q_16 : (8 : Int32).toInt ≤ x6_6.toInt := (ow_le _ _).mp c_15
              refine lv_iload hx hb dX12_feed_46 (lv_at hl 0 rfl) ?_
              refine lv_bipush (v := 12) hx hb dX12_feed_48 (by decide) ?_
              refine lv_icmp_ge (tgt := 57) hx hb dX12_feed_50 (by decide) (fun c_17 => ?_) (fun c_17 => ?_)
              · have q_18 : (12 : Int32).toInt ≤ x6_6.toInt := (ow_le _ _).mp c_17
                refine lv_iload hx hb dX12_feed_57 (lv_at hl 0 rfl) ?_
                refine lv_bipush (v := 16) hx hb dX12_feed_59 (by decide) ?_
                refine lv_icmp_ge (tgt := 69) hx hb dX12_feed_61 (by decide) (fun c_19 => ?_) (fun c_19 => ?_)
                · have q_20 : (16 : Int32).toInt ≤ x6_6.toInt := (ow_le _ _).mp c_19
                  refine lv_iload hx hb dX12_feed_69 (lv_at hl 6 rfl) ?_
                  refine lv_istore (lv' := [(7, .int a5), (6, .int x6_6), (0, .ref mo), (1, .int a1), (2, .int a2), (3, .int a3), (4, .int a4), (5, .int a5)]) hx hb dX12_feed_71 hl (by decide) rfl (fun ls hl => ?_)
                  refine lv_aload_n hx hb dX12_feed_73 rfl (lv_at hl 2 rfl) ?_
                  refine mg_0 hx hb ht hown hK hP dX12_feed_74 ?_
                  refine lv_aload_n hx hb dX12_feed_77 rfl (lv_at hl 2 rfl) ?_
                  refine mg_2 hx hb ht hown hK hP dX12_feed_78 ?_
                  have q_21 : 0 ≤ (v6 2).toInt ∧ (v6 2).toInt ≤ 1700 := hv 2
                  refine lv_iload hx hb dX12_feed_81 (lv_at hl 1 rfl) ?_
                  refine lv_iadd hx hb dX12_feed_83 ?_
                  refine lv_topi (fun v_22 ev_22 => ?_)
                  have q_23 : v_22.toInt = (v6 2).toInt + x6_6.toInt := ow_add ev_22 (by omega) (by omega)
                  refine lv_iload hx hb dX12_feed_84 (lv_at hl 0 rfl) ?_
                  refine lv_bipush (v := 24) hx hb dX12_feed_86 (by decide) ?_
                  refine lv_bipush (v := 8) hx hb dX12_feed_88 (by decide) ?_
                  refine lv_iload hx hb dX12_feed_90 (lv_at hl 1 rfl) ?_
                  refine lv_iconst (v := 3) hx hb dX12_feed_92 (by decide) ?_
                  refine lv_iand hx hb dX12_feed_93 ?_
                  refine lv_topi (fun v_24 ev_24 => ?_)
                  refine lv_imul hx hb dX12_feed_94 ?_
                  refine lv_topi (fun v_25 ev_25 => ?_)
                  refine lv_isub hx hb dX12_feed_95 ?_
                  refine lv_topi (fun v_26 ev_26 => ?_)
                  refine lv_ishr hx hb dX12_feed_96 ?_
                  refine lv_topi (fun v_27 ev_27 => ?_)
                  refine lv_i2b hx hb dX12_feed_97 rfl ?_
                  refine lv_topi (fun v_28 ev_28 => ?_)
                  have q_29 : vp_in v_22 1720 := vp_in_iff.mpr ⟨by omega, by omega⟩
                  refine ms_0 hx hb hK hP hD hS q_29 dX12_feed_98 (fun H locs hP hD hS => ?_)
                  have hf := MIf.up 0 (i := (Int32.toNatClampNeg v_22)) hf (ow_any (vp_nar .byte v_28))
                  have hL : WL v6 (va_up f6 0 (upd (f6 0) (Int32.toNatClampNeg v_22) (vp_nar .byte v_28))) := WL.upf 0 hL (by decide)
                  have hR : RI v6 (va_up f6 0 (upd (f6 0) (Int32.toNatClampNeg v_22) (vp_nar .byte v_28))) := RI.up 0 hR (by decide)
                  obtain ⟨v_30, ev_30⟩ : ∃ y : Int32, y = x6_6 + 1 := ⟨_, rfl⟩
                  refine lv_iinc (v := v_30) (lv' := [(6, .int v_30), (7, .int a5), (0, .ref mo), (1, .int a1), (2, .int a2), (3, .int a3), (4, .int a4), (5, .int a5)]) hx hb dX12_feed_99 hl (k := 1) rfl (by rw [ev_30]; rfl) (by decide) rfl (fun ls hl => ?_)
                  have q_31 : v_30.toInt = x6_6.toInt + 1 := by have := ow_add ev_30 (by omega) (by omega); omega
                  refine lv_goto (tgt := 18) hx hb dX12_feed_102 (by decide) ?_
                  refine W.widen (k := 0) (n := 0) (Nat.le_of_ble_eq_true rfl) (Nat.le_of_ble_eq_true rfl) ?_
                  exact ih_6 v_30 v6 nm6 (va_up f6 0 (upd (f6 0) (Int32.toNatClampNeg v_22) (vp_nar .byte v_28))) g6 _ _ _ hv hf hR hL (by omega) (by omega) (by omega) hP hD hS (lv_sub hl [0, 2, 3, 4, 5, 6, 7] rfl)
                · have q_32 : x6_6.toInt < (16 : Int32).toInt := by have := (not_congr (ow_le _ _)).mp c_19; omega
                  refine lv_iload hx hb dX12_feed_64 (lv_at hl 5 rfl) ?_
                  refine lv_goto (tgt := 71) hx hb dX12_feed_66 (by decide) ?_
                  refine lv_istore (lv' := [(7, .int a4), (6, .int x6_6), (0, .ref mo), (1, .int a1), (2, .int a2), (3, .int a3), (4, .int a4), (5, .int a5)]) hx hb dX12_feed_71 hl (by decide) rfl (fun ls hl => ?_)
                  refine lv_aload_n hx hb dX12_feed_73 rfl (lv_at hl 2 rfl) ?_
                  refine mg_0 hx hb ht hown hK hP dX12_feed_74 ?_
                  refine lv_aload_n hx hb dX12_feed_77 rfl (lv_at hl 2 rfl) ?_
                  refine mg_2 hx hb ht hown hK hP dX12_feed_78 ?_
                  have q_33 : 0 ≤ (v6 2).toInt ∧ (v6 2).toInt ≤ 1700 := hv 2
                  refine lv_iload hx hb dX12_feed_81 (lv_at hl 1 rfl) ?_
                  refine lv_iadd hx hb dX12_feed_83 ?_
                  refine lv_topi (fun v_34 ev_34 => ?_)
                  have q_35 : v_34.toInt = (v6 2).toInt + x6_6.toInt := ow_add ev_34 (by omega) (by omega)
                  refine lv_iload hx hb dX12_feed_84 (lv_at hl 0 rfl) ?_
                  refine lv_bipush (v := 24) hx hb dX12_feed_86 (by decide) ?_
                  refine lv_bipush (v := 8) hx hb dX12_feed_88 (by decide) ?_
                  refine lv_iload hx hb dX12_feed_90 (lv_at hl 1 rfl) ?_
                  refine lv_iconst (v := 3) hx hb dX12_feed_92 (by decide) ?_
                  refine lv_iand hx hb dX12_feed_93 ?_
                  refine lv_topi (fun v_36 ev_36 => ?_)
                  refine lv_imul hx hb dX12_feed_94 ?_
                  refine lv_topi (fun v_37 ev_37 => ?_)
                  refine lv_isub hx hb dX12_feed_95 ?_
                  refine lv_topi (fun v_38 ev_38 => ?_)
                  refine lv_ishr hx hb dX12_feed_96 ?_
                  refine lv_topi (fun v_39 ev_39 => ?_)
                  refine lv_i2b hx hb dX12_feed_97 rfl ?_
                  refine lv_topi (fun v_40 ev_40 => ?_)
                  have q_41 : vp_in v_34 1720 := vp_in_iff.mpr ⟨by omega, by omega⟩
                  refine ms_0 hx hb hK hP hD hS q_41 dX12_feed_98 (fun H locs hP hD hS => ?_)
                  have hf := MIf.up 0 (i := (Int32.toNatClampNeg v_34)) hf (ow_any (vp_nar .byte v_40))
                  have hL : WL v6 (va_up f6 0 (upd (f6 0) (Int32.toNatClampNeg v_34) (vp_nar .byte v_40))) := WL.upf 0 hL (by decide)
                  have hR : RI v6 (va_up f6 0 (upd (f6 0) (Int32.toNatClampNeg v_34) (vp_nar .byte v_40))) := RI.up 0 hR (by decide)
                  obtain ⟨v_42, ev_42⟩ : ∃ y : Int32, y = x6_6 + 1 := ⟨_, rfl⟩
                  refine lv_iinc (v := v_42) (lv' := [(6, .int v_42), (7, .int a4), (0, .ref mo), (1, .int a1), (2, .int a2), (3, .int a3), (4, .int a4), (5, .int a5)]) hx hb dX12_feed_99 hl (k := 1) rfl (by rw [ev_42]; rfl) (by decide) rfl (fun ls hl => ?_)
                  have q_43 : v_42.toInt = x6_6.toInt + 1 := by have := ow_add ev_42 (by omega) (by omega); omega
                  refine lv_goto (tgt := 18) hx hb dX12_feed_102 (by decide) ?_
                  refine W.widen (k := 0) (n := 0) (Nat.le_of_ble_eq_true rfl) (Nat.le_of_ble_eq_true rfl) ?_
                  exact ih_6 v_42 v6 nm6 (va_up f6 0 (upd (f6 0) (Int32.toNatClampNeg v_34) (vp_nar .byte v_40))) g6 _ _ _ hv hf hR hL (by omega) (by omega) (by omega) hP hD hS (lv_sub hl [0, 2, 3, 4, 5, 6, 7] rfl)
              · have q_44 : x6_6.toInt < (12 : Int32).toInt := by have := (not_congr (ow_le _ _)).mp c_17; omega
                refine lv_iload_n hx hb dX12_feed_53 rfl (lv_at hl 4 rfl) ?_
                refine lv_goto (tgt := 71) hx hb dX12_feed_54 (by decide) ?_
                refine lv_istore (lv' := [(7, .int a3), (6, .int x6_6), (0, .ref mo), (1, .int a1), (2, .int a2), (3, .int a3), (4, .int a4), (5, .int a5)]) hx hb dX12_feed_71 hl (by decide) rfl (fun ls hl => ?_)
                refine lv_aload_n hx hb dX12_feed_73 rfl (lv_at hl 2 rfl) ?_
                refine mg_0 hx hb ht hown hK hP dX12_feed_74 ?_
                refine lv_aload_n hx hb dX12_feed_77 rfl (lv_at hl 2 rfl) ?_
                refine mg_2 hx hb ht hown hK hP dX12_feed_78 ?_
                have q_45 : 0 ≤ (v6 2).toInt ∧ (v6 2).toInt ≤ 1700 := hv 2
                refine lv_iload hx hb dX12_feed_81 (lv_at hl 1 rfl) ?_
                refine lv_iadd hx hb dX12_feed_83 ?_
                refine lv_topi (fun v_46 ev_46 => ?_)
                have q_47 : v_46.toInt = (v6 2).toInt + x6_6.toInt := ow_add ev_46 (by omega) (by omega)
                refine lv_iload hx hb dX12_feed_84 (lv_at hl 0 rfl) ?_
                refine lv_bipush (v := 24) hx hb dX12_feed_86 (by decide) ?_
                refine lv_bipush (v := 8) hx hb dX12_feed_88 (by decide) ?_
                refine lv_iload hx hb dX12_feed_90 (lv_at hl 1 rfl) ?_
                refine lv_iconst (v := 3) hx hb dX12_feed_92 (by decide) ?_
                refine lv_iand hx hb dX12_feed_93 ?_
                refine lv_topi (fun v_48 ev_48 => ?_)
                refine lv_imul hx hb dX12_feed_94 ?_
                refine lv_topi (fun v_49 ev_49 => ?_)
                refine lv_isub hx hb dX12_feed_95 ?_
                refine lv_topi (fun v_50 ev_50 => ?_)
                refine lv_ishr hx hb dX12_feed_96 ?_
                refine lv_topi (fun v_51 ev_51 => ?_)
                refine lv_i2b hx hb dX12_feed_97 rfl ?_
                refine lv_topi (fun v_52 ev_52 => ?_)
                have q_53 : vp_in v_46 1720 := vp_in_iff.mpr ⟨by omega, by omega⟩
                refine ms_0 hx hb hK hP hD hS q_53 dX12_feed_98 (fun H locs hP hD hS => ?_)
                have hf := MIf.up 0 (i := (Int32.toNatClampNeg v_46)) hf (ow_any (vp_nar .byte v_52))
                have hL : WL v6 (va_up f6 0 (upd (f6 0) (Int32.toNatClampNeg v_46) (vp_nar .byte v_52))) := WL.upf 0 hL (by decide)
                have hR : RI v6 (va_up f6 0 (upd (f6 0) (Int32.toNatClampNeg v_46) (vp_nar .byte v_52))) := RI.up 0 hR (by decide)
                obtain ⟨v_54, ev_54⟩ : ∃ y : Int32, y = x6_6 + 1 := ⟨_, rfl⟩
                refine lv_iinc (v := v_54) (lv' := [(6, .int v_54), (7, .int a3), (0, .ref mo), (1, .int a1), (2, .int a2), (3, .int a3), (4, .int a4), (5, .int a5)]) hx hb dX12_feed_99 hl (k := 1) rfl (by rw [ev_54]; rfl) (by decide) rfl (fun ls hl => ?_)
                have q_55 : v_54.toInt = x6_6.toInt + 1 := by have := ow_add ev_54 (by omega) (by omega); omega
                refine lv_goto (tgt := 18) hx hb dX12_feed_102 (by decide) ?_
                refine W.widen (k := 0) (n := 0) (Nat.le_of_ble_eq_true rfl) (Nat.le_of_ble_eq_true rfl) ?_
                exact ih_6 v_54 v6 nm6 (va_up f6 0 (upd (f6 0) (Int32.toNatClampNeg v_46) (vp_nar .byte v_52))) g6 _ _ _ hv hf hR hL (by omega) (by omega) (by omega) hP hD hS (lv_sub hl [0, 2, 3, 4, 5, 6, 7] rfl)
            · have q_56 : x6_6.toInt < (8 : Int32).toInt := by have := (not_congr (ow_le _ _)).mp c_15; omega
              refine lv_iload_n hx hb dX12_feed_42 rfl (lv_at hl 3 rfl) ?_
              refine lv_goto (tgt := 71) hx hb dX12_feed_43 (by decide) ?_
              refine lv_istore (lv' := [(7, .int a2), (6, .int x6_6), (0, .ref mo), (1, .int a1), (2, .int a2), (3, .int a3), (4, .int a4), (5, .int a5)]) hx hb dX12_feed_71 hl (by decide) rfl (fun ls hl => ?_)
              refine lv_aload_n hx hb dX12_feed_73 rfl (lv_at hl 2 rfl) ?_
              refine mg_0 hx hb ht hown hK hP dX12_feed_74 ?_
              refine lv_aload_n hx hb dX12_feed_77 rfl (lv_at hl 2 rfl) ?_
              refine mg_2 hx hb ht hown hK hP dX12_feed_78 ?_
              have q_57 : 0 ≤ (v6 2).toInt ∧ (v6 2).toInt ≤ 1700 := hv 2
              refine lv_iload hx hb dX12_feed_81 (lv_at hl 1 rfl) ?_
              refine lv_iadd hx hb dX12_feed_83 ?_
              refine lv_topi (fun v_58 ev_58 => ?_)
              have q_59 : v_58.toInt = (v6 2).toInt + x6_6.toInt := ow_add ev_58 (by omega) (by omega)
              refine lv_iload hx hb dX12_feed_84 (lv_at hl 0 rfl) ?_
              refine lv_bipush (v := 24) hx hb dX12_feed_86 (by decide) ?_
              refine lv_bipush (v := 8) hx hb dX12_feed_88 (by decide) ?_
              refine lv_iload hx hb dX12_feed_90 (lv_at hl 1 rfl) ?_
              refine lv_iconst (v := 3) hx hb dX12_feed_92 (by decide) ?_
              refine lv_iand hx hb dX12_feed_93 ?_
              refine lv_topi (fun v_60 ev_60 => ?_)
              refine lv_imul hx hb dX12_feed_94 ?_
              refine lv_topi (fun v_61 ev_61 => ?_)
              refine lv_isub hx hb dX12_feed_95 ?_
              refine lv_topi (fun v_62 ev_62 => ?_)
              refine lv_ishr hx hb dX12_feed_96 ?_
              refine lv_topi (fun v_63 ev_63 => ?_)
              refine lv_i2b hx hb dX12_feed_97 rfl ?_
              refine lv_topi (fun v_64 ev_64 => ?_)
              have q_65 : vp_in v_58 1720 := vp_in_iff.mpr ⟨by omega, by omega⟩
              refine ms_0 hx hb hK hP hD hS q_65 dX12_feed_98 (fun H locs hP hD hS => ?_)
              have hf := MIf.up 0 (i := (Int32.toNatClampNeg v_58)) hf (ow_any (vp_nar .byte v_64))
              have hL : WL v6 (va_up f6 0 (upd (f6 0) (Int32.toNatClampNeg v_58) (vp_nar .byte v_64))) := WL.upf 0 hL (by decide)
              have hR : RI v6 (va_up f6 0 (upd (f6 0) (Int32.toNatClampNeg v_58) (vp_nar .byte v_64))) := RI.up 0 hR (by decide)
              obtain ⟨v_66, ev_66⟩ : ∃ y : Int32, y = x6_6 + 1 := ⟨_, rfl⟩
              refine lv_iinc (v := v_66) (lv' := [(6, .int v_66), (7, .int a2), (0, .ref mo), (1, .int a1), (2, .int a2), (3, .int a3), (4, .int a4), (5, .int a5)]) hx hb dX12_feed_99 hl (k := 1) rfl (by rw [ev_66]; rfl) (by decide) rfl (fun ls hl => ?_)
              have q_67 : v_66.toInt = x6_6.toInt + 1 := by have := ow_add ev_66 (by omega) (by omega); omega
              refine lv_goto (tgt := 18) hx hb dX12_feed_102 (by decide) ?_
              refine W.widen (k := 0) (n := 0) (Nat.le_of_ble_eq_true rfl) (Nat.le_of_ble_eq_true rfl) ?_
              exact ih_6 v_66 v6 nm6 (va_up f6 0 (upd (f6 0) (Int32.toNatClampNeg v_58) (vp_nar .byte v_64))) g6 _ _ _ hv hf hR hL (by omega) (by omega) (by omega) hP hD hS (lv_sub hl [0, 2, 3, 4, 5, 6, 7] rfl)
          · have q_68 : x6_6.toInt < (4 : Int32).toInt := by have := (not_congr (ow_le _ _)).mp c_13; omega
            refine lv_iload_n hx hb dX12_feed_31 rfl (lv_at hl 2 rfl) ?_
            refine lv_goto (tgt := 71) hx hb dX12_feed_32 (by decide) ?_
            refine lv_istore (lv' := [(7, .int a1), (6, .int x6_6), (0, .ref mo), (1, .int a1), (2, .int a2), (3, .int a3), (4, .int a4), (5, .int a5)]) hx hb dX12_feed_71 hl (by decide) rfl (fun ls hl => ?_)
            refine lv_aload_n hx hb dX12_feed_73 rfl (lv_at hl 2 rfl) ?_
            refine mg_0 hx hb ht hown hK hP dX12_feed_74 ?_
            refine lv_aload_n hx hb dX12_feed_77 rfl (lv_at hl 2 rfl) ?_
            refine mg_2 hx hb ht hown hK hP dX12_feed_78 ?_
            have q_69 : 0 ≤ (v6 2).toInt ∧ (v6 2).toInt ≤ 1700 := hv 2
            refine lv_iload hx hb dX12_feed_81 (lv_at hl 1 rfl) ?_
            refine lv_iadd hx hb dX12_feed_83 ?_
            refine lv_topi (fun v_70 ev_70 => ?_)
            have q_71 : v_70.toInt = (v6 2).toInt + x6_6.toInt := ow_add ev_70 (by omega) (by omega)
            refine lv_iload hx hb dX12_feed_84 (lv_at hl 0 rfl) ?_
            refine lv_bipush (v := 24) hx hb dX12_feed_86 (by decide) ?_
            refine lv_bipush (v := 8) hx hb dX12_feed_88 (by decide) ?_
            refine lv_iload hx hb dX12_feed_90 (lv_at hl 1 rfl) ?_
            refine lv_iconst (v := 3) hx hb dX12_feed_92 (by decide) ?_
            refine lv_iand hx hb dX12_feed_93 ?_
            refine lv_topi (fun v_72 ev_72 => ?_)
            refine lv_imul hx hb dX12_feed_94 ?_
            refine lv_topi (fun v_73 ev_73 => ?_)
            refine lv_isub hx hb dX12_feed_95 ?_
            refine lv_topi (fun v_74 ev_74 => ?_)
            refine lv_ishr hx hb dX12_feed_96 ?_
            refine lv_topi (fun v_75 ev_75 => ?_)
            refine lv_i2b hx hb dX12_feed_97 rfl ?_
            refine lv_topi (fun v_76 ev_76 => ?_)
            have q_77 : vp_in v_70 1720 := vp_in_iff.mpr ⟨by omega, by omega⟩
            refine ms_0 hx hb hK hP hD hS q_77 dX12_feed_98 (fun H locs hP hD hS => ?_)
            have hf := MIf.up 0 (i := (Int32.toNatClampNeg v_70)) hf (ow_any (vp_nar .byte v_76))
            have hL : WL v6 (va_up f6 0 (upd (f6 0) (Int32.toNatClampNeg v_70) (vp_nar .byte v_76))) := WL.upf 0 hL (by decide)
            have hR : RI v6 (va_up f6 0 (upd (f6 0) (Int32.toNatClampNeg v_70) (vp_nar .byte v_76))) := RI.up 0 hR (by decide)
            obtain ⟨v_78, ev_78⟩ : ∃ y : Int32, y = x6_6 + 1 := ⟨_, rfl⟩
            refine lv_iinc (v := v_78) (lv' := [(6, .int v_78), (7, .int a1), (0, .ref mo), (1, .int a1), (2, .int a2), (3, .int a3), (4, .int a4), (5, .int a5)]) hx hb dX12_feed_99 hl (k := 1) rfl (by rw [ev_78]; rfl) (by decide) rfl (fun ls hl => ?_)
            have q_79 : v_78.toInt = x6_6.toInt + 1 := by have := ow_add ev_78 (by omega) (by omega); omega
            refine lv_goto (tgt := 18) hx hb dX12_feed_102 (by decide) ?_
            refine W.widen (k := 0) (n := 0) (Nat.le_of_ble_eq_true rfl) (Nat.le_of_ble_eq_true rfl) ?_
            exact ih_6 v_78 v6 nm6 (va_up f6 0 (upd (f6 0) (Int32.toNatClampNeg v_70) (vp_nar .byte v_76))) g6 _ _ _ hv hf hR hL (by omega) (by omega) (by omega) hP hD hS (lv_sub hl [0, 2, 3, 4, 5, 6, 7] rfl)
    exact lp_6 _ (0) v nm f g _ _ _ hv hf hR hL (by omega) (by omega) (Nat.lt_succ_self _) hP hD hS (lv_sub hl [0, 1, 2, 3, 4, 5, 6] rfl)
  · have q_80 : (1700 : Int32).toInt < v_2.toInt := by have := (not_congr (ow_le _ _)).mp c_4; omega
    refine lv_iconst (v := (-1)) hx hb dX12_feed_13 (by decide) ?_
    refine W.widen (k := 0) (n := 0) (Nat.le_of_ble_eq_true rfl) (Nat.le_of_ble_eq_true rfl) ?_
    exact W.iret (v := (-1)) hx hb hr (fun t ht9 hW => ⟨⟨(-1), (v, nm, f, g), rfl, ⟨hv, hf, hR, hL, trivial⟩, ⟨by rw [ht9]; exact hP, hD⟩⟩, hS.F ht9⟩) hS.2.2 dX12_feed_14
set_option maxHeartbeats 4000000 in
set_option maxRecDepth 100000 in
theorem m_image (l : Launch) (G : va_G) (cy : Nat → ClassId) (sz : Nat) (mo : Nat) (h : Nat → Nat) (T : Int) (v : Nat → Int32) (nm : Int64) (f : Nat → Nat → Int32) (g : Nat → Nat → Int64) (n : Int32)  (hv : MIv T v) (hf : MIf f) (hR : RI v f) (hL : WL v f)  : Met l yX12_image (.code yX12_image cX12_image 3 (some .int) :: TBg) ({ frames := 2, cells := 0, slots := 0, locals := 128 }) (va_Pc [.ref mo, .int n] (En G cy (WMs cy mo h v nm f g) sz)) (va_Qi (fun (r : Int32) (u : (Nat → Int32) × Int64 × (Nat → Nat → Int32) × (Nat → Nat → Int64)) => MIv T u.1 ∧ MIf u.2.2.1 ∧ RI u.1 u.2.2.1 ∧ WL u.1 u.2.2.1 ∧ (True)) (fun u t => Ex G (va_A (WMs cy mo h v nm f g) sz) (WMs cy mo h u.1 u.2.1 u.2.2.1 u.2.2.2) t) (va_A (WMs cy mo h v nm f g) sz)) 0 0 (va_A (WMs cy mo h v nm f g) sz) := by
  refine Met.ofW (cc := cX12_image) (maxL := 3) (ret := (some .int)) (by decide) rfl ?_
  intro p e s m args below meth c s₁ B hml hv9
  obtain ⟨rfl, hsz, hP, hK, hD0, hN⟩ := hv9
  have hx := B.exec
  have hb := B.bytes
  have hr := B.returns
  have hts := atoms_spec (ws := .code yX12_image cX12_image 3 (some .int) :: TBg) B.pre
  have ht : ∀ w ∈ TBg, w.before _ s = true := fun w h => hts w (List.mem_cons_of_mem _ h)
  have hown : s.vm.findClass RX12 = some m.cls := findClass_of_methodNamed B.named
  have hlocks := B.notSynchronized
  subst hsz
  have hD := hD0.self (sz := s.heap.size)
  generalize hAe : va_A (WMs cy mo h v nm f g) s.heap.size = A at hD ⊢
  have hA : ∀ q : Nat, s.heap.size ≤ q → A q := fun q h => by rw [← hAe]; exact Or.inr h
  have hS : va_S A s.heap s.heap [] := va_S.rf
  have hl := lv_entry ([.ref mo, .int n]) (n := 3) (Nat.le_of_ble_eq_true rfl)
  rw [lg_entry_eq]
  generalize (lg_sl ([.ref mo, .int n]) ++ List.replicate (3 - (lg_sl ([.ref mo, .int n])).length) Slot.unset).toArray = ls at hl ⊢
  have hl : lv_has ls 3 [(0, .ref mo), (1, .int n)] := hl
  have z0 : (-1 : Int32).toInt = -1 := by decide
  have z1 : (0 : Int32).toInt = 0 := by decide
  have z2 : (1 : Int32).toInt = 1 := by decide
  have z3 : (2 : Int32).toInt = 2 := by decide
  have z4 : (8 : Int32).toInt = 8 := by decide
  have z5 : (40 : Int32).toInt = 40 := by decide
  have z6 : (1120 : Int32).toInt = 1120 := by decide
  refine lv_iload_n hx hb dX12_image_0 rfl (lv_at hl 1 rfl) ?_
  refine lv_iconst (v := 0) hx hb dX12_image_1 (by decide) ?_
  refine lv_iconst (v := 2) hx hb dX12_image_2 (by decide) ?_
  have hFc := fr_new hS hA
  refine va_calli (va_runS (As := [.int n, .int 0, .int 2]) (rest := []) ⟨hx, hb, hml, hown, ht⟩ (m_isIn l G cy _  n (0) (2)  ) (va_cwS 3 ht (gs k_59 k_60 k_61 k_58) rfl rfl rfl (by decide +kernel) ⟨Nat.le_of_ble_eq_true rfl, Nat.le_of_ble_eq_true rfl⟩) ⟨En.blind, fun U hU hW => ⟨rfl, En.of hU hW (va_P0 (H := _)) hK va_D0 hN⟩⟩ rfl rfl hl.1 rfl (lv_room (Nat.le_of_ble_eq_true rfl)) dX12_image_3 ⟨Nat.le_of_ble_eq_true rfl, Nat.le_of_ble_eq_true rfl⟩) hS (fun q _ h => hFc q h) hFc (fun r_u_1 u_1 t9 H locs ht9 hvm hw hB hz1 hk1 hS => ?_)
  have hP := fr_keep hP hk1
  have wu_1 := hw
  clear hFc hk1 hz1 hB hw
  refine lv_if_ne (tgt := 11) hx hb dX12_image_6 (by decide) (fun c_2 => ?_) (fun c_2 => ?_)
  · have q_3 : ¬ r_u_1.toInt = (0 : Int32).toInt := by have := (not_congr (ow_eq _ _)).mp c_2; omega
    refine lv_aload_n hx hb dX12_image_11 rfl (lv_at hl 0 rfl) ?_
    refine mg_52 hx hb ht hown hK hP dX12_image_12 ?_
    refine lv_iload_n hx hb dX12_image_15 rfl (lv_at hl 1 rfl) ?_
    refine lv_aload_n hx hb dX12_image_16 rfl (lv_at hl 0 rfl) ?_
    refine mg_34 hx hb ht hown hK hP dX12_image_17 ?_
    have q_4 : 0 ≤ (v 34).toInt ∧ (v 34).toInt ≤ 40 := hv 34
    have q_5 : vp_in n 3 := vp_in_iff.mpr ⟨by omega, by omega⟩
    refine ms_52 hx hb hK hP hD hS q_5 dX12_image_20 (fun H locs hP hD hS => ?_)
    have hf := MIf.up 52 (i := (Int32.toNatClampNeg n)) hf (show (-1) ≤ (v 34).toInt ∧ (v 34).toInt ≤ 40 from by omega)
    have hL : WL v (va_up f 52 (upd (f 52) (Int32.toNatClampNeg n) (v 34))) := WL.upf 52 hL (by decide)
    have hR : RI v (va_up f 52 (upd (f 52) (Int32.toNatClampNeg n) (v 34))) := RI.up 52 hR (by decide)
    refine lv_aload_n hx hb dX12_image_21 rfl (lv_at hl 0 rfl) ?_
    refine mg_57 hx hb ht hown hK hP dX12_image_22 ?_
    refine lv_iload_n hx hb dX12_image_25 rfl (lv_at hl 1 rfl) ?_
    refine lv_aload_n hx hb dX12_image_26 rfl (lv_at hl 0 rfl) ?_
    refine mg_37 hx hb ht hown hK hP dX12_image_27 ?_
    have q_6 : 0 ≤ (v 37).toInt ∧ (v 37).toInt ≤ 1 := hv 37
    have q_7 : vp_in n 3 := vp_in_iff.mpr ⟨by omega, by omega⟩
    refine ms_57 hx hb hK hP hD hS q_7 dX12_image_30 (fun H locs hP hD hS => ?_)
    have hf := MIf.up 57 (i := (Int32.toNatClampNeg n)) hf (ow_nz (v 37))
    have hL : WL v (va_up (va_up f 52 (upd (f 52) (Int32.toNatClampNeg n) (v 34))) 57 (upd ((va_up f 52 (upd (f 52) (Int32.toNatClampNeg n) (v 34))) 57) (Int32.toNatClampNeg n) (vp_nar .boolean (v 37)))) := WL.upf 57 hL (by decide)
    have hR : RI v (va_up (va_up f 52 (upd (f 52) (Int32.toNatClampNeg n) (v 34))) 57 (upd ((va_up f 52 (upd (f 52) (Int32.toNatClampNeg n) (v 34))) 57) (Int32.toNatClampNeg n) (vp_nar .boolean (v 37)))) := RI.up 57 hR (by decide)
    refine lv_iconst (v := 0) hx hb dX12_image_31 (by decide) ?_
    refine lv_istore_n (lv' := [(2, .int 0), (0, .ref mo), (1, .int n)]) hx hb dX12_image_32 rfl hl (by decide) rfl (fun ls hl => ?_)
    refine W.widen (k := 0) (n := 0) (Nat.le_of_ble_eq_true rfl) (Nat.le_of_ble_eq_true rfl) ?_
    have lp_8 : ∀ (N : Nat) (x2_8 : Int32) (v8 : Nat → Int32) (nm8 : Int64) (f8 : Nat → Nat → Int32) (g8 : Nat → Nat → Int64) (H : Heap) (locs : List Loc) (ls : Array Slot), MIv T v8 → MIf f8 → RI v8 f8 → WL v8 f8 → (0 ≤ x2_8.toInt ∧ x2_8.toInt ≤ 40) → (40 - x2_8.toInt).toNat < N → va_P G vwCl (WMs cy mo h v8 nm8 f8 g8) H → va_D A (WMs cy mo h v8 nm8 f8 g8) → va_S A s.heap H locs → lv_has ls 3 [(2, .int x2_8), (0, .ref mo), (1, .int n)] → W p l e (headSpec (.code yX12_image cX12_image 3 (some .int) :: TBg) ({ frames := 2, cells := 0, slots := 0, locals := 128 })).room s m ([.ref mo, .int n] : List Value).toArray below meth c H locs 0 0 (MQ below (va_Qi (fun (r : Int32) (u : (Nat → Int32) × Int64 × (Nat → Nat → Int32) × (Nat → Nat → Int64)) => MIv T u.1 ∧ MIf u.2.2.1 ∧ RI u.1 u.2.2.1 ∧ WL u.1 u.2.2.1 ∧ (True)) (fun u t => Ex G A (WMs cy mo h u.1 u.2.1 u.2.2.1 u.2.2.2) t) A) ([.ref mo, .int n] : List Value).toArray s 0 0 A) (F0 m 33 ls []) := by
      intro N
      induction N with
      | zero => intro x2_8 v8 nm8 f8 g8 H locs ls hv hf hR hL qf8_0 hm hP hD hS hl; exact absurd hm (Nat.not_lt_zero _)
      | succ N ih_8 =>
        intro x2_8 v8 nm8 f8 g8 H locs ls hv hf hR hL qf8_0 hm hP hD hS hl
        refine lv_iload_n hx hb dX12_image_33 rfl (lv_at hl 0 rfl) ?_
        refine lv_bipush (v := 40) hx hb dX12_image_34 (by decide) ?_
        refine lv_icmp_ge (tgt := 87) hx hb dX12_image_36 (by decide) (fun c_9 => ?_) (fun c_9 => ?_)
        · have q_10 : (40 : Int32).toInt ≤ x2_8.toInt := (ow_le _ _).mp c_9
          refine lv_iconst (v := 0) hx hb dX12_image_87 (by decide) ?_
          refine lv_istore_n (lv' := [(2, .int 0), (0, .ref mo), (1, .int n)]) hx hb dX12_image_88 rfl hl (by decide) rfl (fun ls hl => ?_)
          refine W.widen (k := 0) (n := 0) (Nat.le_of_ble_eq_true rfl) (Nat.le_of_ble_eq_true rfl) ?_
          have lp_11 : ∀ (N : Nat) (x2_11 : Int32) (v11 : Nat → Int32) (nm11 : Int64) (f11 : Nat → Nat → Int32) (g11 : Nat → Nat → Int64) (H : Heap) (locs : List Loc) (ls : Array Slot), MIv T v11 → MIf f11 → RI v11 f11 → WL v11 f11 → (0 ≤ x2_11.toInt ∧ x2_11.toInt ≤ 8) → (8 - x2_11.toInt).toNat < N → va_P G vwCl (WMs cy mo h v11 nm11 f11 g11) H → va_D A (WMs cy mo h v11 nm11 f11 g11) → va_S A s.heap H locs → lv_has ls 3 [(2, .int x2_11), (0, .ref mo), (1, .int n)] → W p l e (headSpec (.code yX12_image cX12_image 3 (some .int) :: TBg) ({ frames := 2, cells := 0, slots := 0, locals := 128 })).room s m ([.ref mo, .int n] : List Value).toArray below meth c H locs 0 0 (MQ below (va_Qi (fun (r : Int32) (u : (Nat → Int32) × Int64 × (Nat → Nat → Int32) × (Nat → Nat → Int64)) => MIv T u.1 ∧ MIf u.2.2.1 ∧ RI u.1 u.2.2.1 ∧ WL u.1 u.2.2.1 ∧ (True)) (fun u t => Ex G A (WMs cy mo h u.1 u.2.1 u.2.2.1 u.2.2.2) t) A) ([.ref mo, .int n] : List Value).toArray s 0 0 A) (F0 m 89 ls []) := by
            intro N
            induction N with
            | zero => intro x2_11 v11 nm11 f11 g11 H locs ls hv hf hR hL qf11_0 hm hP hD hS hl; exact absurd hm (Nat.not_lt_zero _)
            | succ N ih_11 =>
              intro x2_11 v11 nm11 f11 g11 H locs ls hv hf hR hL qf11_0 hm hP hD hS hl
              refine lv_iload_n hx hb dX12_image_89 rfl (lv_at hl 0 rfl) ?_
              refine lv_bipush (v := 8) hx hb dX12_image_90 (by decide) ?_
              refine lv_icmp_ge (tgt := 135) hx hb dX12_image_92 (by decide) (fun c_12 => ?_) (fun c_12 => ?_)
              · have q_13 : (8 : Int32).toInt ≤ x2_11.toInt := (ow_le _ _).mp c_12
                refine lv_aload_n hx hb dX12_image_135 rfl (lv_at hl 1 rfl) ?_
                refine mg_34 hx hb ht hown hK hP dX12_image_136 ?_
                have q_14 : 0 ≤ (v11 34).toInt ∧ (v11 34).toInt ≤ 40 := hv 34
                refine W.widen (k := 0) (n := 0) (Nat.le_of_ble_eq_true rfl) (Nat.le_of_ble_eq_true rfl) ?_
                exact W.iret (v := (v11 34)) hx hb hr (fun t ht9 hW => ⟨⟨(v11 34), (v11, nm11, f11, g11), rfl, ⟨hv, hf, hR, hL, trivial⟩, ⟨by rw [ht9]; exact hP, hD⟩⟩, hS.F ht9⟩) hS.2.2 dX12_image_139
              · have q_15 : x2_11.toInt < (8 : Int32).toInt := by have := (not_congr (ow_le _ _)).mp c_12; omega
                refine lv_aload_n hx hb dX12_image_95 rfl (lv_at hl 1 rfl) ?_
                refine mg_56 hx hb ht hown hK hP dX12_image_96 ?_
                refine lv_bipush (v := 8) hx hb dX12_image_99 (by decide) ?_
                refine lv_iload_n hx hb dX12_image_101 rfl (lv_at hl 2 rfl) ?_
                refine lv_imul hx hb dX12_image_102 ?_
                refine lv_topi (fun v_16 ev_16 => ?_)
                have q_17 : v_16.toInt = 8 * n.toInt := ow_mul ev_16 (by decide) (by omega) (by omega)
                refine lv_iload_n hx hb dX12_image_103 rfl (lv_at hl 0 rfl) ?_
                refine lv_iadd hx hb dX12_image_104 ?_
                refine lv_topi (fun v_18 ev_18 => ?_)
                have q_19 : v_18.toInt = v_16.toInt + x2_11.toInt := ow_add ev_18 (by omega) (by omega)
                refine lv_aload_n hx hb dX12_image_105 rfl (lv_at hl 1 rfl) ?_
                refine mg_35 hx hb ht hown hK hP dX12_image_106 ?_
                refine lv_iload_n hx hb dX12_image_109 rfl (lv_at hl 0 rfl) ?_
                have q_20 : vp_in x2_11 8 := vp_in_iff.mpr ⟨by omega, by omega⟩
                refine ml_35 hx hb hK hP q_20 dX12_image_110 ?_
                refine lv_topi (fun v_21 ev_21 => ?_)
                have q_22 : 0 ≤ v_21.toInt ∧ v_21.toInt ≤ 1 := by rw [ev_21]; exact MIf.rd 35 hf q_20
                have q_23 : vp_in v_18 24 := vp_in_iff.mpr ⟨by omega, by omega⟩
                refine ms_56 hx hb hK hP hD hS q_23 dX12_image_111 (fun H locs hP hD hS => ?_)
                have hf := MIf.up 56 (i := (Int32.toNatClampNeg v_18)) hf (ow_nz v_21)
                have hL : WL v11 (va_up f11 56 (upd (f11 56) (Int32.toNatClampNeg v_18) (vp_nar .boolean v_21))) := WL.upf 56 hL (by decide)
                have hR : RI v11 (va_up f11 56 (upd (f11 56) (Int32.toNatClampNeg v_18) (vp_nar .boolean v_21))) := RI.up 56 hR (by decide)
                refine lv_aload_n hx hb dX12_image_112 rfl (lv_at hl 1 rfl) ?_
                refine mg_55 hx hb ht hown hK hP dX12_image_113 ?_
                refine lv_bipush (v := 8) hx hb dX12_image_116 (by decide) ?_
                refine lv_iload_n hx hb dX12_image_118 rfl (lv_at hl 2 rfl) ?_
                refine lv_imul hx hb dX12_image_119 ?_
                refine lv_topi (fun v_24 ev_24 => ?_)
                have q_25 : v_24.toInt = 8 * n.toInt := ow_mul ev_24 (by decide) (by omega) (by omega)
                refine lv_iload_n hx hb dX12_image_120 rfl (lv_at hl 0 rfl) ?_
                refine lv_iadd hx hb dX12_image_121 ?_
                refine lv_topi (fun v_26 ev_26 => ?_)
                have q_27 : v_26.toInt = v_24.toInt + x2_11.toInt := ow_add ev_26 (by omega) (by omega)
                refine lv_aload_n hx hb dX12_image_122 rfl (lv_at hl 1 rfl) ?_
                refine mg_36 hx hb ht hown hK hP dX12_image_123 ?_
                refine lv_iload_n hx hb dX12_image_126 rfl (lv_at hl 0 rfl) ?_
                have q_28 : vp_in x2_11 8 := vp_in_iff.mpr ⟨by omega, by omega⟩
                refine ml_36 hx hb hK hP q_28 dX12_image_127 ?_
                refine lv_topi (fun v_29 ev_29 => ?_)
                have q_30 : vp_in v_26 24 := vp_in_iff.mpr ⟨by omega, by omega⟩
                refine ms_55 hx hb hK hP hD hS q_30 dX12_image_128 (fun H locs hP hD hS => ?_)
                have hf := MIf.up 55 (i := (Int32.toNatClampNeg v_26)) hf (ow_any v_29)
                have hL : WL v11 (va_up (va_up f11 56 (upd (f11 56) (Int32.toNatClampNeg v_18) (vp_nar .boolean v_21))) 55 (upd ((va_up f11 56 (upd (f11 56) (Int32.toNatClampNeg v_18) (vp_nar .boolean v_21))) 55) (Int32.toNatClampNeg v_26) v_29)) := WL.upf 55 hL (by decide)
                have hR : RI v11 (va_up (va_up f11 56 (upd (f11 56) (Int32.toNatClampNeg v_18) (vp_nar .boolean v_21))) 55 (upd ((va_up f11 56 (upd (f11 56) (Int32.toNatClampNeg v_18) (vp_nar .boolean v_21))) 55) (Int32.toNatClampNeg v_26) v_29)) := RI.up 55 hR (by decide)
                obtain ⟨v_31, ev_31⟩ : ∃ y : Int32, y = x2_11 + 1 := ⟨_, rfl⟩
                refine lv_iinc (v := v_31) (lv' := [(2, .int v_31), (0, .ref mo), (1, .int n)]) hx hb dX12_image_129 hl (k := 0) rfl (by rw [ev_31]; rfl) (by decide) rfl (fun ls hl => ?_)
                have q_32 : v_31.toInt = x2_11.toInt + 1 := by have := ow_add ev_31 (by omega) (by omega); omega
                refine lv_goto (tgt := 89) hx hb dX12_image_132 (by decide) ?_
                refine W.widen (k := 0) (n := 0) (Nat.le_of_ble_eq_true rfl) (Nat.le_of_ble_eq_true rfl) ?_
                exact ih_11 v_31 v11 nm11 (va_up (va_up f11 56 (upd (f11 56) (Int32.toNatClampNeg v_18) (vp_nar .boolean v_21))) 55 (upd ((va_up f11 56 (upd (f11 56) (Int32.toNatClampNeg v_18) (vp_nar .boolean v_21))) 55) (Int32.toNatClampNeg v_26) v_29)) g11 _ _ _ hv hf hR hL (by omega) (by omega) hP hD hS (lv_sub hl [0, 1, 2] rfl)
          exact lp_11 _ (0) v8 nm8 f8 g8 _ _ _ hv hf hR hL (by omega) (Nat.lt_succ_self _) hP hD hS (lv_sub hl [0, 1, 2] rfl)
        · have q_33 : x2_8.toInt < (40 : Int32).toInt := by have := (not_congr (ow_le _ _)).mp c_9; omega
          refine lv_aload_n hx hb dX12_image_39 rfl (lv_at hl 1 rfl) ?_
          refine mg_53 hx hb ht hown hK hP dX12_image_40 ?_
          refine lv_bipush (v := 40) hx hb dX12_image_43 (by decide) ?_
          refine lv_iload_n hx hb dX12_image_45 rfl (lv_at hl 2 rfl) ?_
          refine lv_imul hx hb dX12_image_46 ?_
          refine lv_topi (fun v_34 ev_34 => ?_)
          have q_35 : v_34.toInt = 40 * n.toInt := ow_mul ev_34 (by decide) (by omega) (by omega)
          refine lv_iload_n hx hb dX12_image_47 rfl (lv_at hl 0 rfl) ?_
          refine lv_iadd hx hb dX12_image_48 ?_
          refine lv_topi (fun v_36 ev_36 => ?_)
          have q_37 : v_36.toInt = v_34.toInt + x2_8.toInt := ow_add ev_36 (by omega) (by omega)
          refine lv_aload_n hx hb dX12_image_49 rfl (lv_at hl 1 rfl) ?_
          refine mg_16 hx hb ht hown hK hP dX12_image_50 ?_
          refine lv_sipush (v := 1120) hx hb dX12_image_53 (by decide) ?_
          refine lv_iload_n hx hb dX12_image_56 rfl (lv_at hl 0 rfl) ?_
          refine lv_iadd hx hb dX12_image_57 ?_
          refine lv_topi (fun v_38 ev_38 => ?_)
          have q_39 : v_38.toInt = (1120 : Int32).toInt + x2_8.toInt := ow_add ev_38 (by omega) (by omega)
          have q_40 : vp_in v_38 1200 := vp_in_iff.mpr ⟨by omega, by omega⟩
          refine ml_16 hx hb hK hP q_40 dX12_image_58 ?_
          refine lv_topi (fun v_41 ev_41 => ?_)
          have q_42 : vp_in v_36 120 := vp_in_iff.mpr ⟨by omega, by omega⟩
          refine ms_53 hx hb hK hP hD hS q_42 dX12_image_59 (fun H locs hP hD hS => ?_)
          have hf := MIf.up 53 (i := (Int32.toNatClampNeg v_36)) hf (ow_any v_41)
          have hL : WL v8 (va_up f8 53 (upd (f8 53) (Int32.toNatClampNeg v_36) v_41)) := WL.upf 53 hL (by decide)
          have hR : RI v8 (va_up f8 53 (upd (f8 53) (Int32.toNatClampNeg v_36) v_41)) := RI.up 53 hR (by decide)
          refine lv_aload_n hx hb dX12_image_60 rfl (lv_at hl 1 rfl) ?_
          refine mg_54 hx hb ht hown hK hP dX12_image_61 ?_
          refine lv_bipush (v := 40) hx hb dX12_image_64 (by decide) ?_
          refine lv_iload_n hx hb dX12_image_66 rfl (lv_at hl 2 rfl) ?_
          refine lv_imul hx hb dX12_image_67 ?_
          refine lv_topi (fun v_43 ev_43 => ?_)
          have q_44 : v_43.toInt = 40 * n.toInt := ow_mul ev_43 (by decide) (by omega) (by omega)
          refine lv_iload_n hx hb dX12_image_68 rfl (lv_at hl 0 rfl) ?_
          refine lv_iadd hx hb dX12_image_69 ?_
          refine lv_topi (fun v_45 ev_45 => ?_)
          have q_46 : v_45.toInt = v_43.toInt + x2_8.toInt := ow_add ev_45 (by omega) (by omega)
          refine lv_aload_n hx hb dX12_image_70 rfl (lv_at hl 1 rfl) ?_
          refine mg_17 hx hb ht hown hK hP dX12_image_71 ?_
          refine lv_sipush (v := 1120) hx hb dX12_image_74 (by decide) ?_
          refine lv_iload_n hx hb dX12_image_77 rfl (lv_at hl 0 rfl) ?_
          refine lv_iadd hx hb dX12_image_78 ?_
          refine lv_topi (fun v_47 ev_47 => ?_)
          have q_48 : v_47.toInt = (1120 : Int32).toInt + x2_8.toInt := ow_add ev_47 (by omega) (by omega)
          have q_49 : vp_in v_47 1200 := vp_in_iff.mpr ⟨by omega, by omega⟩
          refine ml_17 hx hb hK hP q_49 dX12_image_79 ?_
          refine lv_topi (fun v_50 ev_50 => ?_)
          have q_51 : 0 ≤ v_50.toInt ∧ v_50.toInt ≤ 9 := by rw [ev_50]; exact MIf.rd 17 hf q_49
          have q_52 : v_50.toInt = ((f8 17) (Int32.toNatClampNeg v_47)).toInt := (congrArg Int32.toInt ev_50).trans (congrArg (fun z : Nat → Int32 => (z (Int32.toNatClampNeg v_47)).toInt) (show (va_up f8 53 (upd (f8 53) (Int32.toNatClampNeg v_36) v_41)) 17 = (f8 17) from rfl))
          have q_53 : vp_in v_45 120 := vp_in_iff.mpr ⟨by omega, by omega⟩
          refine ms_54 hx hb hK hP hD hS q_53 dX12_image_80 (fun H locs hP hD hS => ?_)
          have hf := MIf.up 54 (i := (Int32.toNatClampNeg v_45)) hf (show 0 ≤ v_50.toInt ∧ v_50.toInt ≤ 9 from by omega)
          have hL : WL v8 (va_up (va_up f8 53 (upd (f8 53) (Int32.toNatClampNeg v_36) v_41)) 54 (upd ((va_up f8 53 (upd (f8 53) (Int32.toNatClampNeg v_36) v_41)) 54) (Int32.toNatClampNeg v_45) v_50)) := WL.upf 54 hL (by decide)
          have hR : RI v8 (va_up (va_up f8 53 (upd (f8 53) (Int32.toNatClampNeg v_36) v_41)) 54 (upd ((va_up f8 53 (upd (f8 53) (Int32.toNatClampNeg v_36) v_41)) 54) (Int32.toNatClampNeg v_45) v_50)) := RI.up 54 hR (by decide)
          obtain ⟨v_54, ev_54⟩ : ∃ y : Int32, y = x2_8 + 1 := ⟨_, rfl⟩
          refine lv_iinc (v := v_54) (lv' := [(2, .int v_54), (0, .ref mo), (1, .int n)]) hx hb dX12_image_81 hl (k := 0) rfl (by rw [ev_54]; rfl) (by decide) rfl (fun ls hl => ?_)
          have q_55 : v_54.toInt = x2_8.toInt + 1 := by have := ow_add ev_54 (by omega) (by omega); omega
          refine lv_goto (tgt := 33) hx hb dX12_image_84 (by decide) ?_
          refine W.widen (k := 0) (n := 0) (Nat.le_of_ble_eq_true rfl) (Nat.le_of_ble_eq_true rfl) ?_
          exact ih_8 v_54 v8 nm8 (va_up (va_up f8 53 (upd (f8 53) (Int32.toNatClampNeg v_36) v_41)) 54 (upd ((va_up f8 53 (upd (f8 53) (Int32.toNatClampNeg v_36) v_41)) 54) (Int32.toNatClampNeg v_45) v_50)) g8 _ _ _ hv hf hR hL (by omega) (by omega) hP hD hS (lv_sub hl [0, 1, 2] rfl)
    exact lp_8 _ (0) v nm (va_up (va_up f 52 (upd (f 52) (Int32.toNatClampNeg n) (v 34))) 57 (upd ((va_up f 52 (upd (f 52) (Int32.toNatClampNeg n) (v 34))) 57) (Int32.toNatClampNeg n) (vp_nar .boolean (v 37)))) g _ _ _ hv hf hR hL (by omega) (Nat.lt_succ_self _) hP hD hS (lv_sub hl [0, 1, 2] rfl)
  · have q_56 : r_u_1.toInt = (0 : Int32).toInt := (ow_eq _ _).mp c_2
    refine lv_iconst (v := (-1)) hx hb dX12_image_9 (by decide) ?_
    refine W.widen (k := 0) (n := 0) (Nat.le_of_ble_eq_true rfl) (Nat.le_of_ble_eq_true rfl) ?_
    exact W.iret (v := (-1)) hx hb hr (fun t ht9 hW => ⟨⟨(-1), (v, nm, f, g), rfl, ⟨hv, hf, hR, hL, trivial⟩, ⟨by rw [ht9]; exact hP, hD⟩⟩, hS.F ht9⟩) hS.2.2 dX12_image_10
set_option maxHeartbeats 4000000 in
set_option maxRecDepth 100000 in
theorem m_back (l : Launch) (G : va_G) (cy : Nat → ClassId) (sz : Nat) (mo : Nat) (h : Nat → Nat) (T : Int) (v : Nat → Int32) (nm : Int64) (f : Nat → Nat → Int32) (g : Nat → Nat → Int64) (n : Int32)  (hv : MIv T v) (hf : MIf f) (hR : RI v f) (hL : WL v f)  : Met l yX12_back (.code yX12_back cX12_back 3 (some .int) :: TBg) ({ frames := 2, cells := 0, slots := 0, locals := 128 }) (va_Pc [.ref mo, .int n] (En G cy (WMs cy mo h v nm f g) sz)) (va_Qi (fun (r : Int32) (u : (Nat → Int32) × Int64 × (Nat → Nat → Int32) × (Nat → Nat → Int64)) => MIv T u.1 ∧ MIf u.2.2.1 ∧ RI u.1 u.2.2.1 ∧ WL u.1 u.2.2.1 ∧ (True)) (fun u t => Ex G (va_A (WMs cy mo h v nm f g) sz) (WMs cy mo h u.1 u.2.1 u.2.2.1 u.2.2.2) t) (va_A (WMs cy mo h v nm f g) sz)) 0 0 (va_A (WMs cy mo h v nm f g) sz) := by
  refine Met.ofW (cc := cX12_back) (maxL := 3) (ret := (some .int)) (by decide) rfl ?_
  intro p e s m args below meth c s₁ B hml hv9
  obtain ⟨rfl, hsz, hP, hK, hD0, hN⟩ := hv9
  have hx := B.exec
  have hb := B.bytes
  have hr := B.returns
  have hts := atoms_spec (ws := .code yX12_back cX12_back 3 (some .int) :: TBg) B.pre
  have ht : ∀ w ∈ TBg, w.before _ s = true := fun w h => hts w (List.mem_cons_of_mem _ h)
  have hown : s.vm.findClass RX12 = some m.cls := findClass_of_methodNamed B.named
  have hlocks := B.notSynchronized
  subst hsz
  have hD := hD0.self (sz := s.heap.size)
  generalize hAe : va_A (WMs cy mo h v nm f g) s.heap.size = A at hD ⊢
  have hA : ∀ q : Nat, s.heap.size ≤ q → A q := fun q h => by rw [← hAe]; exact Or.inr h
  have hS : va_S A s.heap s.heap [] := va_S.rf
  have hl := lv_entry ([.ref mo, .int n]) (n := 3) (Nat.le_of_ble_eq_true rfl)
  rw [lg_entry_eq]
  generalize (lg_sl ([.ref mo, .int n]) ++ List.replicate (3 - (lg_sl ([.ref mo, .int n])).length) Slot.unset).toArray = ls at hl ⊢
  have hl : lv_has ls 3 [(0, .ref mo), (1, .int n)] := hl
  have z0 : (-1 : Int32).toInt = -1 := by decide
  have z1 : (0 : Int32).toInt = 0 := by decide
  have z2 : (1 : Int32).toInt = 1 := by decide
  have z3 : (2 : Int32).toInt = 2 := by decide
  have z4 : (8 : Int32).toInt = 8 := by decide
  have z5 : (40 : Int32).toInt = 40 := by decide
  have z6 : (1120 : Int32).toInt = 1120 := by decide
  refine lv_iload_n hx hb dX12_back_0 rfl (lv_at hl 1 rfl) ?_
  refine lv_iconst (v := 0) hx hb dX12_back_1 (by decide) ?_
  refine lv_iconst (v := 2) hx hb dX12_back_2 (by decide) ?_
  have hFc := fr_new hS hA
  refine va_calli (va_runS (As := [.int n, .int 0, .int 2]) (rest := []) ⟨hx, hb, hml, hown, ht⟩ (m_isIn l G cy _  n (0) (2)  ) (va_cwS 3 ht (gs k_59 k_60 k_61 k_58) rfl rfl rfl (by decide +kernel) ⟨Nat.le_of_ble_eq_true rfl, Nat.le_of_ble_eq_true rfl⟩) ⟨En.blind, fun U hU hW => ⟨rfl, En.of hU hW (va_P0 (H := _)) hK va_D0 hN⟩⟩ rfl rfl hl.1 rfl (lv_room (Nat.le_of_ble_eq_true rfl)) dX12_back_3 ⟨Nat.le_of_ble_eq_true rfl, Nat.le_of_ble_eq_true rfl⟩) hS (fun q _ h => hFc q h) hFc (fun r_u_1 u_1 t9 H locs ht9 hvm hw hB hz1 hk1 hS => ?_)
  have hP := fr_keep hP hk1
  have wu_1 := hw
  clear hFc hk1 hz1 hB hw
  refine lv_if_eq (tgt := 18) hx hb dX12_back_6 (by decide) (fun c_2 => ?_) (fun c_2 => ?_)
  · have q_3 : r_u_1.toInt = (0 : Int32).toInt := (ow_eq _ _).mp c_2
    refine lv_iconst (v := (-1)) hx hb dX12_back_18 (by decide) ?_
    refine W.widen (k := 0) (n := 0) (Nat.le_of_ble_eq_true rfl) (Nat.le_of_ble_eq_true rfl) ?_
    exact W.iret (v := (-1)) hx hb hr (fun t ht9 hW => ⟨⟨(-1), (v, nm, f, g), rfl, ⟨hv, hf, hR, hL, trivial⟩, ⟨by rw [ht9]; exact hP, hD⟩⟩, hS.F ht9⟩) hS.2.2 dX12_back_19
  · have q_4 : ¬ r_u_1.toInt = (0 : Int32).toInt := by have := (not_congr (ow_eq _ _)).mp c_2; omega
    refine lv_aload_n hx hb dX12_back_9 rfl (lv_at hl 0 rfl) ?_
    refine mg_52 hx hb ht hown hK hP dX12_back_10 ?_
    refine lv_iload_n hx hb dX12_back_13 rfl (lv_at hl 1 rfl) ?_
    have q_5 : vp_in n 3 := vp_in_iff.mpr ⟨by omega, by omega⟩
    refine ml_52 hx hb hK hP q_5 dX12_back_14 ?_
    refine lv_topi (fun v_6 ev_6 => ?_)
    have q_7 : -1 ≤ v_6.toInt ∧ v_6.toInt ≤ 40 := by rw [ev_6]; exact MIf.rd 52 hf q_5
    refine lv_if_ge (tgt := 20) hx hb dX12_back_15 (by decide) (fun c_8 => ?_) (fun c_8 => ?_)
    · have q_9 : (0 : Int32).toInt ≤ v_6.toInt := (ow_le _ _).mp c_8
      refine lv_aload_n hx hb dX12_back_20 rfl (lv_at hl 0 rfl) ?_
      refine lv_aload_n hx hb dX12_back_21 rfl (lv_at hl 0 rfl) ?_
      refine mg_52 hx hb ht hown hK hP dX12_back_22 ?_
      refine lv_iload_n hx hb dX12_back_25 rfl (lv_at hl 1 rfl) ?_
      refine ml_52 hx hb hK hP q_5 dX12_back_26 ?_
      refine ow_top v_6 ev_6.symm ?_
      refine mp_34 hx hb ht hown hK hP hD hS dX12_back_27 (fun H locs hP hD hS => ?_)
      have hv := MIv.up 34 hv (show 0 ≤ v_6.toInt ∧ v_6.toInt ≤ 40 from by omega)
      have hL : WL (va_up v 34 v_6) f := WL.upv 34 hL (by decide)
      have hR : RI (va_up v 34 v_6) f := RI.upv 34 hR (by decide)
      refine lv_aload_n hx hb dX12_back_30 rfl (lv_at hl 0 rfl) ?_
      refine lv_aload_n hx hb dX12_back_31 rfl (lv_at hl 0 rfl) ?_
      refine mg_57 hx hb ht hown hK hP dX12_back_32 ?_
      refine lv_iload_n hx hb dX12_back_35 rfl (lv_at hl 1 rfl) ?_
      have q_10 : vp_in n 3 := vp_in_iff.mpr ⟨by omega, by omega⟩
      refine ml_57 hx hb hK hP q_10 dX12_back_36 ?_
      refine lv_topi (fun v_11 ev_11 => ?_)
      have q_12 : 0 ≤ v_11.toInt ∧ v_11.toInt ≤ 1 := by rw [ev_11]; exact MIf.rd 57 hf q_10
      refine mp_37 (by omega) hx hb ht hown hK hP hD hS dX12_back_37 (fun H locs hP hD hS => ?_)
      have hv := MIv.up 37 hv (show 0 ≤ v_11.toInt ∧ v_11.toInt ≤ 1 from by omega)
      have hL : WL (va_up (va_up v 34 v_6) 37 v_11) f := WL.upv 37 hL (by decide)
      have hR : RI (va_up (va_up v 34 v_6) 37 v_11) f := RI.upv 37 hR (by decide)
      refine lv_iconst (v := 0) hx hb dX12_back_40 (by decide) ?_
      refine lv_istore_n (lv' := [(2, .int 0), (0, .ref mo), (1, .int n)]) hx hb dX12_back_41 rfl hl (by decide) rfl (fun ls hl => ?_)
      refine W.widen (k := 0) (n := 0) (Nat.le_of_ble_eq_true rfl) (Nat.le_of_ble_eq_true rfl) ?_
      have lp_13 : ∀ (N : Nat) (x2_13 : Int32) (v13 : Nat → Int32) (nm13 : Int64) (f13 : Nat → Nat → Int32) (g13 : Nat → Nat → Int64) (H : Heap) (locs : List Loc) (ls : Array Slot), MIv T v13 → MIf f13 → RI v13 f13 → WL v13 f13 → (0 ≤ x2_13.toInt ∧ x2_13.toInt ≤ 40) → (40 - x2_13.toInt).toNat < N → va_P G vwCl (WMs cy mo h v13 nm13 f13 g13) H → va_D A (WMs cy mo h v13 nm13 f13 g13) → va_S A s.heap H locs → lv_has ls 3 [(2, .int x2_13), (0, .ref mo), (1, .int n)] → W p l e (headSpec (.code yX12_back cX12_back 3 (some .int) :: TBg) ({ frames := 2, cells := 0, slots := 0, locals := 128 })).room s m ([.ref mo, .int n] : List Value).toArray below meth c H locs 0 0 (MQ below (va_Qi (fun (r : Int32) (u : (Nat → Int32) × Int64 × (Nat → Nat → Int32) × (Nat → Nat → Int64)) => MIv T u.1 ∧ MIf u.2.2.1 ∧ RI u.1 u.2.2.1 ∧ WL u.1 u.2.2.1 ∧ (True)) (fun u t => Ex G A (WMs cy mo h u.1 u.2.1 u.2.2.1 u.2.2.2) t) A) ([.ref mo, .int n] : List Value).toArray s 0 0 A) (F0 m 42 ls []) := by
        intro N
        induction N with
        | zero => intro x2_13 v13 nm13 f13 g13 H locs ls hv hf hR hL qf13_0 hm hP hD hS hl; exact absurd hm (Nat.not_lt_zero _)
        | succ N ih_13 =>
          intro x2_13 v13 nm13 f13 g13 H locs ls hv hf hR hL qf13_0 hm hP hD hS hl
          refine lv_iload_n hx hb dX12_back_42 rfl (lv_at hl 0 rfl) ?_
          refine lv_bipush (v := 40) hx hb dX12_back_43 (by decide) ?_
          refine lv_icmp_ge (tgt := 96) hx hb dX12_back_45 (by decide) (fun c_14 => ?_) (fun c_14 => ?_)
          · have q_15 : (40 : Int32).toInt ≤ x2_13.toInt := (ow_le _ _).mp c_14
            refine lv_iconst (v := 0) hx hb dX12_back_96 (by decide) ?_
            refine lv_istore_n (lv' := [(2, .int 0), (0, .ref mo), (1, .int n)]) hx hb dX12_back_97 rfl hl (by decide) rfl (fun ls hl => ?_)
            refine W.widen (k := 0) (n := 0) (Nat.le_of_ble_eq_true rfl) (Nat.le_of_ble_eq_true rfl) ?_
            have lp_16 : ∀ (N : Nat) (x2_16 : Int32) (v16 : Nat → Int32) (nm16 : Int64) (f16 : Nat → Nat → Int32) (g16 : Nat → Nat → Int64) (H : Heap) (locs : List Loc) (ls : Array Slot), MIv T v16 → MIf f16 → RI v16 f16 → WL v16 f16 → (0 ≤ x2_16.toInt ∧ x2_16.toInt ≤ 8) → (8 - x2_16.toInt).toNat < N → va_P G vwCl (WMs cy mo h v16 nm16 f16 g16) H → va_D A (WMs cy mo h v16 nm16 f16 g16) → va_S A s.heap H locs → lv_has ls 3 [(2, .int x2_16), (0, .ref mo), (1, .int n)] → W p l e (headSpec (.code yX12_back cX12_back 3 (some .int) :: TBg) ({ frames := 2, cells := 0, slots := 0, locals := 128 })).room s m ([.ref mo, .int n] : List Value).toArray below meth c H locs 0 0 (MQ below (va_Qi (fun (r : Int32) (u : (Nat → Int32) × Int64 × (Nat → Nat → Int32) × (Nat → Nat → Int64)) => MIv T u.1 ∧ MIf u.2.2.1 ∧ RI u.1 u.2.2.1 ∧ WL u.1 u.2.2.1 ∧ (True)) (fun u t => Ex G A (WMs cy mo h u.1 u.2.1 u.2.2.1 u.2.2.2) t) A) ([.ref mo, .int n] : List Value).toArray s 0 0 A) (F0 m 98 ls []) := by
              intro N
              induction N with
              | zero => intro x2_16 v16 nm16 f16 g16 H locs ls hv hf hR hL qf16_0 hm hP hD hS hl; exact absurd hm (Nat.not_lt_zero _)
              | succ N ih_16 =>
                intro x2_16 v16 nm16 f16 g16 H locs ls hv hf hR hL qf16_0 hm hP hD hS hl
                refine lv_iload_n hx hb dX12_back_98 rfl (lv_at hl 0 rfl) ?_
                refine lv_bipush (v := 8) hx hb dX12_back_99 (by decide) ?_
                refine lv_icmp_ge (tgt := 144) hx hb dX12_back_101 (by decide) (fun c_17 => ?_) (fun c_17 => ?_)
                · have q_18 : (8 : Int32).toInt ≤ x2_16.toInt := (ow_le _ _).mp c_17
                  refine lv_aload_n hx hb dX12_back_144 rfl (lv_at hl 1 rfl) ?_
                  refine mg_34 hx hb ht hown hK hP dX12_back_145 ?_
                  have q_19 : 0 ≤ (v16 34).toInt ∧ (v16 34).toInt ≤ 40 := hv 34
                  refine W.widen (k := 0) (n := 0) (Nat.le_of_ble_eq_true rfl) (Nat.le_of_ble_eq_true rfl) ?_
                  exact W.iret (v := (v16 34)) hx hb hr (fun t ht9 hW => ⟨⟨(v16 34), (v16, nm16, f16, g16), rfl, ⟨hv, hf, hR, hL, trivial⟩, ⟨by rw [ht9]; exact hP, hD⟩⟩, hS.F ht9⟩) hS.2.2 dX12_back_148
                · have q_20 : x2_16.toInt < (8 : Int32).toInt := by have := (not_congr (ow_le _ _)).mp c_17; omega
                  refine lv_aload_n hx hb dX12_back_104 rfl (lv_at hl 1 rfl) ?_
                  refine mg_35 hx hb ht hown hK hP dX12_back_105 ?_
                  refine lv_iload_n hx hb dX12_back_108 rfl (lv_at hl 0 rfl) ?_
                  refine lv_aload_n hx hb dX12_back_109 rfl (lv_at hl 1 rfl) ?_
                  refine mg_56 hx hb ht hown hK hP dX12_back_110 ?_
                  refine lv_bipush (v := 8) hx hb dX12_back_113 (by decide) ?_
                  refine lv_iload_n hx hb dX12_back_115 rfl (lv_at hl 2 rfl) ?_
                  refine lv_imul hx hb dX12_back_116 ?_
                  refine lv_topi (fun v_21 ev_21 => ?_)
                  have q_22 : v_21.toInt = 8 * n.toInt := ow_mul ev_21 (by decide) (by omega) (by omega)
                  refine lv_iload_n hx hb dX12_back_117 rfl (lv_at hl 0 rfl) ?_
                  refine lv_iadd hx hb dX12_back_118 ?_
                  refine lv_topi (fun v_23 ev_23 => ?_)
                  have q_24 : v_23.toInt = v_21.toInt + x2_16.toInt := ow_add ev_23 (by omega) (by omega)
                  have q_25 : vp_in v_23 24 := vp_in_iff.mpr ⟨by omega, by omega⟩
                  refine ml_56 hx hb hK hP q_25 dX12_back_119 ?_
                  refine lv_topi (fun v_26 ev_26 => ?_)
                  have q_27 : 0 ≤ v_26.toInt ∧ v_26.toInt ≤ 1 := by rw [ev_26]; exact MIf.rd 56 hf q_25
                  have q_28 : vp_in x2_16 8 := vp_in_iff.mpr ⟨by omega, by omega⟩
                  refine ms_35 hx hb hK hP hD hS q_28 dX12_back_120 (fun H locs hP hD hS => ?_)
                  have hf := MIf.up 35 (i := (Int32.toNatClampNeg x2_16)) hf (ow_nz v_26)
                  have hL : WL v16 (va_up f16 35 (upd (f16 35) (Int32.toNatClampNeg x2_16) (vp_nar .boolean v_26))) := WL.upf 35 hL (by decide)
                  have hR : RI v16 (va_up f16 35 (upd (f16 35) (Int32.toNatClampNeg x2_16) (vp_nar .boolean v_26))) := RI.up 35 hR (by decide)
                  refine lv_aload_n hx hb dX12_back_121 rfl (lv_at hl 1 rfl) ?_
                  refine mg_36 hx hb ht hown hK hP dX12_back_122 ?_
                  refine lv_iload_n hx hb dX12_back_125 rfl (lv_at hl 0 rfl) ?_
                  refine lv_aload_n hx hb dX12_back_126 rfl (lv_at hl 1 rfl) ?_
                  refine mg_55 hx hb ht hown hK hP dX12_back_127 ?_
                  refine lv_bipush (v := 8) hx hb dX12_back_130 (by decide) ?_
                  refine lv_iload_n hx hb dX12_back_132 rfl (lv_at hl 2 rfl) ?_
                  refine lv_imul hx hb dX12_back_133 ?_
                  refine lv_topi (fun v_29 ev_29 => ?_)
                  have q_30 : v_29.toInt = 8 * n.toInt := ow_mul ev_29 (by decide) (by omega) (by omega)
                  refine lv_iload_n hx hb dX12_back_134 rfl (lv_at hl 0 rfl) ?_
                  refine lv_iadd hx hb dX12_back_135 ?_
                  refine lv_topi (fun v_31 ev_31 => ?_)
                  have q_32 : v_31.toInt = v_29.toInt + x2_16.toInt := ow_add ev_31 (by omega) (by omega)
                  have q_33 : vp_in v_31 24 := vp_in_iff.mpr ⟨by omega, by omega⟩
                  refine ml_55 hx hb hK hP q_33 dX12_back_136 ?_
                  refine lv_topi (fun v_34 ev_34 => ?_)
                  have q_35 : vp_in x2_16 8 := vp_in_iff.mpr ⟨by omega, by omega⟩
                  refine ms_36 hx hb hK hP hD hS q_35 dX12_back_137 (fun H locs hP hD hS => ?_)
                  have hf := MIf.up 36 (i := (Int32.toNatClampNeg x2_16)) hf (ow_any v_34)
                  have hL : WL v16 (va_up (va_up f16 35 (upd (f16 35) (Int32.toNatClampNeg x2_16) (vp_nar .boolean v_26))) 36 (upd ((va_up f16 35 (upd (f16 35) (Int32.toNatClampNeg x2_16) (vp_nar .boolean v_26))) 36) (Int32.toNatClampNeg x2_16) v_34)) := WL.upf 36 hL (by decide)
                  have hR : RI v16 (va_up (va_up f16 35 (upd (f16 35) (Int32.toNatClampNeg x2_16) (vp_nar .boolean v_26))) 36 (upd ((va_up f16 35 (upd (f16 35) (Int32.toNatClampNeg x2_16) (vp_nar .boolean v_26))) 36) (Int32.toNatClampNeg x2_16) v_34)) := RI.up 36 hR (by decide)
                  obtain ⟨v_36, ev_36⟩ : ∃ y : Int32, y = x2_16 + 1 := ⟨_, rfl⟩
                  refine lv_iinc (v := v_36) (lv' := [(2, .int v_36), (0, .ref mo), (1, .int n)]) hx hb dX12_back_138 hl (k := 0) rfl (by rw [ev_36]; rfl) (by decide) rfl (fun ls hl => ?_)
                  have q_37 : v_36.toInt = x2_16.toInt + 1 := by have := ow_add ev_36 (by omega) (by omega); omega
                  refine lv_goto (tgt := 98) hx hb dX12_back_141 (by decide) ?_
                  refine W.widen (k := 0) (n := 0) (Nat.le_of_ble_eq_true rfl) (Nat.le_of_ble_eq_true rfl) ?_
                  exact ih_16 v_36 v16 nm16 (va_up (va_up f16 35 (upd (f16 35) (Int32.toNatClampNeg x2_16) (vp_nar .boolean v_26))) 36 (upd ((va_up f16 35 (upd (f16 35) (Int32.toNatClampNeg x2_16) (vp_nar .boolean v_26))) 36) (Int32.toNatClampNeg x2_16) v_34)) g16 _ _ _ hv hf hR hL (by omega) (by omega) hP hD hS (lv_sub hl [0, 1, 2] rfl)
            exact lp_16 _ (0) v13 nm13 f13 g13 _ _ _ hv hf hR hL (by omega) (Nat.lt_succ_self _) hP hD hS (lv_sub hl [0, 1, 2] rfl)
          · have q_38 : x2_13.toInt < (40 : Int32).toInt := by have := (not_congr (ow_le _ _)).mp c_14; omega
            refine lv_aload_n hx hb dX12_back_48 rfl (lv_at hl 1 rfl) ?_
            refine mg_16 hx hb ht hown hK hP dX12_back_49 ?_
            refine lv_sipush (v := 1120) hx hb dX12_back_52 (by decide) ?_
            refine lv_iload_n hx hb dX12_back_55 rfl (lv_at hl 0 rfl) ?_
            refine lv_iadd hx hb dX12_back_56 ?_
            refine lv_topi (fun v_39 ev_39 => ?_)
            have q_40 : v_39.toInt = (1120 : Int32).toInt + x2_13.toInt := ow_add ev_39 (by omega) (by omega)
            refine lv_aload_n hx hb dX12_back_57 rfl (lv_at hl 1 rfl) ?_
            refine mg_53 hx hb ht hown hK hP dX12_back_58 ?_
            refine lv_bipush (v := 40) hx hb dX12_back_61 (by decide) ?_
            refine lv_iload_n hx hb dX12_back_63 rfl (lv_at hl 2 rfl) ?_
            refine lv_imul hx hb dX12_back_64 ?_
            refine lv_topi (fun v_41 ev_41 => ?_)
            have q_42 : v_41.toInt = 40 * n.toInt := ow_mul ev_41 (by decide) (by omega) (by omega)
            refine lv_iload_n hx hb dX12_back_65 rfl (lv_at hl 0 rfl) ?_
            refine lv_iadd hx hb dX12_back_66 ?_
            refine lv_topi (fun v_43 ev_43 => ?_)
            have q_44 : v_43.toInt = v_41.toInt + x2_13.toInt := ow_add ev_43 (by omega) (by omega)
            have q_45 : vp_in v_43 120 := vp_in_iff.mpr ⟨by omega, by omega⟩
            refine ml_53 hx hb hK hP q_45 dX12_back_67 ?_
            refine lv_topi (fun v_46 ev_46 => ?_)
            have q_47 : vp_in v_39 1200 := vp_in_iff.mpr ⟨by omega, by omega⟩
            refine ms_16 hx hb hK hP hD hS q_47 dX12_back_68 (fun H locs hP hD hS => ?_)
            have hf := MIf.up 16 (i := (Int32.toNatClampNeg v_39)) hf (ow_any v_46)
            have hL : WL v13 (va_up f13 16 (upd (f13 16) (Int32.toNatClampNeg v_39) v_46)) := WL.upf 16 hL (by decide)
            have hR : RI v13 (va_up f13 16 (upd (f13 16) (Int32.toNatClampNeg v_39) v_46)) := RI.up 16 hR (by decide)
            refine lv_aload_n hx hb dX12_back_69 rfl (lv_at hl 1 rfl) ?_
            refine mg_17 hx hb ht hown hK hP dX12_back_70 ?_
            refine lv_sipush (v := 1120) hx hb dX12_back_73 (by decide) ?_
            refine lv_iload_n hx hb dX12_back_76 rfl (lv_at hl 0 rfl) ?_
            refine lv_iadd hx hb dX12_back_77 ?_
            refine lv_topi (fun v_48 ev_48 => ?_)
            have q_49 : v_48.toInt = (1120 : Int32).toInt + x2_13.toInt := ow_add ev_48 (by omega) (by omega)
            refine lv_aload_n hx hb dX12_back_78 rfl (lv_at hl 1 rfl) ?_
            refine mg_54 hx hb ht hown hK hP dX12_back_79 ?_
            refine lv_bipush (v := 40) hx hb dX12_back_82 (by decide) ?_
            refine lv_iload_n hx hb dX12_back_84 rfl (lv_at hl 2 rfl) ?_
            refine lv_imul hx hb dX12_back_85 ?_
            refine lv_topi (fun v_50 ev_50 => ?_)
            have q_51 : v_50.toInt = 40 * n.toInt := ow_mul ev_50 (by decide) (by omega) (by omega)
            refine lv_iload_n hx hb dX12_back_86 rfl (lv_at hl 0 rfl) ?_
            refine lv_iadd hx hb dX12_back_87 ?_
            refine lv_topi (fun v_52 ev_52 => ?_)
            have q_53 : v_52.toInt = v_50.toInt + x2_13.toInt := ow_add ev_52 (by omega) (by omega)
            have q_54 : vp_in v_52 120 := vp_in_iff.mpr ⟨by omega, by omega⟩
            refine ml_54 hx hb hK hP q_54 dX12_back_88 ?_
            refine lv_topi (fun v_55 ev_55 => ?_)
            have q_56 : 0 ≤ v_55.toInt ∧ v_55.toInt ≤ 9 := by rw [ev_55]; exact MIf.rd 54 hf q_54
            have q_57 : vp_in v_48 1200 := vp_in_iff.mpr ⟨by omega, by omega⟩
            refine ms_17 hx hb hK hP hD hS q_57 dX12_back_89 (fun H locs hP hD hS => ?_)
            have hf := MIf.up 17 (i := (Int32.toNatClampNeg v_48)) hf (show 0 ≤ v_55.toInt ∧ v_55.toInt ≤ 9 from by omega)
            have hL : WL v13 (va_up (va_up f13 16 (upd (f13 16) (Int32.toNatClampNeg v_39) v_46)) 17 (upd ((va_up f13 16 (upd (f13 16) (Int32.toNatClampNeg v_39) v_46)) 17) (Int32.toNatClampNeg v_48) v_55)) := WL.upf 17 hL (by decide)
            have hR : RI v13 (va_up (va_up f13 16 (upd (f13 16) (Int32.toNatClampNeg v_39) v_46)) 17 (upd ((va_up f13 16 (upd (f13 16) (Int32.toNatClampNeg v_39) v_46)) 17) (Int32.toNatClampNeg v_48) v_55)) := RI.up 17 hR (by decide)
            obtain ⟨v_58, ev_58⟩ : ∃ y : Int32, y = x2_13 + 1 := ⟨_, rfl⟩
            refine lv_iinc (v := v_58) (lv' := [(2, .int v_58), (0, .ref mo), (1, .int n)]) hx hb dX12_back_90 hl (k := 0) rfl (by rw [ev_58]; rfl) (by decide) rfl (fun ls hl => ?_)
            have q_59 : v_58.toInt = x2_13.toInt + 1 := by have := ow_add ev_58 (by omega) (by omega); omega
            refine lv_goto (tgt := 42) hx hb dX12_back_93 (by decide) ?_
            refine W.widen (k := 0) (n := 0) (Nat.le_of_ble_eq_true rfl) (Nat.le_of_ble_eq_true rfl) ?_
            exact ih_13 v_58 v13 nm13 (va_up (va_up f13 16 (upd (f13 16) (Int32.toNatClampNeg v_39) v_46)) 17 (upd ((va_up f13 16 (upd (f13 16) (Int32.toNatClampNeg v_39) v_46)) 17) (Int32.toNatClampNeg v_48) v_55)) g13 _ _ _ hv hf hR hL (by omega) (by omega) hP hD hS (lv_sub hl [0, 1, 2] rfl)
      exact lp_13 _ (0) (va_up (va_up v 34 v_6) 37 v_11) nm f g _ _ _ hv hf hR hL (by omega) (Nat.lt_succ_self _) hP hD hS (lv_sub hl [0, 1, 2] rfl)
    · have q_60 : v_6.toInt < (0 : Int32).toInt := by have := (not_congr (ow_le _ _)).mp c_8; omega
      refine lv_iconst (v := (-1)) hx hb dX12_back_18 (by decide) ?_
      refine W.widen (k := 0) (n := 0) (Nat.le_of_ble_eq_true rfl) (Nat.le_of_ble_eq_true rfl) ?_
      exact W.iret (v := (-1)) hx hb hr (fun t ht9 hW => ⟨⟨(-1), (v, nm, f, g), rfl, ⟨hv, hf, hR, hL, trivial⟩, ⟨by rw [ht9]; exact hP, hD⟩⟩, hS.F ht9⟩) hS.2.2 dX12_back_19
