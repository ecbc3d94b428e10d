theorem k_315 : (Cond.fieldLink RX12 227 "TuneLocksModel" "bank" "I") ∈ TBg := tb_mem 1046 (by decide +kernel) (by decide +kernel)
theorem k_316 : (Cond.code yX12_isIn cX12_isIn 3 (some .boolean)) ∈ TBg := tb_mem 1337 (by decide +kernel) (by decide +kernel)
theorem k_317 : (Cond.methodLink RX12 311 yX12_isIn) ∈ TBg := tb_mem 1335 (by decide +kernel) (by decide +kernel)
theorem k_318 : (Cond.static yX12_isIn) ∈ TBg := tb_mem 1336 (by decide +kernel) (by decide +kernel)
theorem k_319 : (Cond.fieldLink RX12 137 "TuneLocksModel" "faultKind" "I") ∈ TBg := tb_mem 1021 (by decide +kernel) (by decide +kernel)
theorem k_320 : (Cond.fieldLink RX12 134 "TuneLocksModel" "size" "I") ∈ TBg := tb_mem 1020 (by decide +kernel) (by decide +kernel)
theorem k_321 : (Cond.fieldLink RX12 170 "TuneLocksModel" "end" "I") ∈ TBg := tb_mem 1024 (by decide +kernel) (by decide +kernel)
theorem k_322 : (Cond.fieldLink RX12 173 "TuneLocksModel" "at" "I") ∈ TBg := tb_mem 1023 (by decide +kernel) (by decide +kernel)
theorem k_323 : (Cond.code yX12_sign cX12_sign 2 (some .int)) ∈ TBg := tb_mem 1203 (by decide +kernel) (by decide +kernel)
theorem k_324 : (Cond.methodLink RX12 176 yX12_sign) ∈ TBg := tb_mem 1200 (by decide +kernel) (by decide +kernel)
theorem k_325 : (Cond.instanceMethod yX12_sign) ∈ TBg := tb_mem 1202 (by decide +kernel) (by decide +kernel)
theorem k_326 : (Cond.selects RX12 yX12_sign yX12_sign) ∈ TBg := tb_mem 33 (by decide +kernel) (by decide +kernel)
theorem k_327 : (Cond.fieldLink RX12 180 "TuneLocksModel" "token" "I") ∈ TBg := tb_mem 1025 (by decide +kernel) (by decide +kernel)
theorem k_328 : (Cond.fieldLink RX12 378 "TuneLocksModel" "keptMany" "I") ∈ TBg := tb_mem 1060 (by decide +kernel) (by decide +kernel)
theorem k_329 : (Cond.fieldLink RX12 388 "TuneLocksModel" "fewNotes" "I") ∈ TBg := tb_mem 1061 (by decide +kernel) (by decide +kernel)
theorem k_330 : (Cond.code yX12_nextRow cX12_nextRow 6 (some .boolean)) ∈ TBg := tb_mem 1455 (by decide +kernel) (by decide +kernel)
theorem k_331 : (Cond.methodLink RX12 391 yX12_nextRow) ∈ TBg := tb_mem 1452 (by decide +kernel) (by decide +kernel)
theorem k_332 : (Cond.instanceMethod yX12_nextRow) ∈ TBg := tb_mem 1454 (by decide +kernel) (by decide +kernel)
theorem k_333 : (Cond.selects RX12 yX12_nextRow yX12_nextRow) ∈ TBg := tb_mem 77 (by decide +kernel) (by decide +kernel)
theorem dX12_isIn_0 : decode cX12_isIn 0 = .ok (.iload_n 0, 1) := by decide +kernel
theorem dX12_isIn_1 : decode cX12_isIn 1 = .ok (.iload_n 1, 1) := by decide +kernel
theorem dX12_isIn_2 : decode cX12_isIn 2 = .ok (.if_icmp .lt 12, 3) := by decide +kernel
theorem dX12_isIn_14 : decode cX12_isIn 14 = .ok (.iconst 0, 1) := by decide +kernel
theorem dX12_isIn_15 : decode cX12_isIn 15 = .ok (.ireturn, 1) := by decide +kernel
theorem dX12_isIn_5 : decode cX12_isIn 5 = .ok (.iload_n 0, 1) := by decide +kernel
theorem dX12_isIn_6 : decode cX12_isIn 6 = .ok (.iload_n 2, 1) := by decide +kernel
theorem dX12_isIn_7 : decode cX12_isIn 7 = .ok (.if_icmp .gt 7, 3) := by decide +kernel
theorem dX12_isIn_10 : decode cX12_isIn 10 = .ok (.iconst 1, 1) := by decide +kernel
theorem dX12_isIn_11 : decode cX12_isIn 11 = .ok (.goto 4, 3) := by decide +kernel
theorem dX12_isTune_0 : decode cX12_isTune 0 = .ok (.iload_n 1, 1) := by decide +kernel
theorem dX12_isTune_1 : decode cX12_isTune 1 = .ok (.iconst 0, 1) := by decide +kernel
theorem dX12_isTune_2 : decode cX12_isTune 2 = .ok (.aload_n 0, 1) := by decide +kernel
theorem dX12_isTune_3 : decode cX12_isTune 3 = .ok (.getfield 20, 3) := by decide +kernel
theorem dX12_isTune_6 : decode cX12_isTune 6 = .ok (.aload_n 0, 1) := by decide +kernel
theorem dX12_isTune_7 : decode cX12_isTune 7 = .ok (.getfield 227, 3) := by decide +kernel
theorem dX12_isTune_10 : decode cX12_isTune 10 = .ok (.iaload, 1) := by decide +kernel
theorem dX12_isTune_11 : decode cX12_isTune 11 = .ok (.iconst 1, 1) := by decide +kernel
theorem dX12_isTune_12 : decode cX12_isTune 12 = .ok (.isub, 1) := by decide +kernel
theorem dX12_isTune_13 : decode cX12_isTune 13 = .ok (.invokestatic 311, 3) := by decide +kernel
theorem dX12_isTune_16 : decode cX12_isTune 16 = .ok (.ireturn, 1) := by decide +kernel
theorem dX12_isLock_0 : decode cX12_isLock 0 = .ok (.iload_n 1, 1) := by decide +kernel
theorem dX12_isLock_1 : decode cX12_isLock 1 = .ok (.iconst 0, 1) := by decide +kernel
theorem dX12_isLock_2 : decode cX12_isLock 2 = .ok (.aload_n 0, 1) := by decide +kernel
theorem dX12_isLock_3 : decode cX12_isLock 3 = .ok (.getfield 24, 3) := by decide +kernel
theorem dX12_isLock_6 : decode cX12_isLock 6 = .ok (.aload_n 0, 1) := by decide +kernel
theorem dX12_isLock_7 : decode cX12_isLock 7 = .ok (.getfield 227, 3) := by decide +kernel
theorem dX12_isLock_10 : decode cX12_isLock 10 = .ok (.iaload, 1) := by decide +kernel
theorem dX12_isLock_11 : decode cX12_isLock 11 = .ok (.iconst 1, 1) := by decide +kernel
theorem dX12_isLock_12 : decode cX12_isLock 12 = .ok (.isub, 1) := by decide +kernel
theorem dX12_isLock_13 : decode cX12_isLock 13 = .ok (.invokestatic 311, 3) := by decide +kernel
theorem dX12_isLock_16 : decode cX12_isLock 16 = .ok (.ireturn, 1) := by decide +kernel
theorem dX12_isGood_0 : decode cX12_isGood 0 = .ok (.aload_n 0, 1) := by decide +kernel
theorem dX12_isGood_1 : decode cX12_isGood 1 = .ok (.getfield 137, 3) := by decide +kernel
theorem dX12_isGood_4 : decode cX12_isGood 4 = .ok (.ifCond .ne 7, 3) := by decide +kernel
theorem dX12_isGood_7 : decode cX12_isGood 7 = .ok (.iconst 1, 1) := by decide +kernel
theorem dX12_isGood_8 : decode cX12_isGood 8 = .ok (.goto 4, 3) := by decide +kernel
theorem dX12_isGood_12 : decode cX12_isGood 12 = .ok (.ireturn, 1) := by decide +kernel
theorem dX12_sign_0 : decode cX12_sign 0 = .ok (.iload_n 1, 1) := by decide +kernel
theorem dX12_sign_1 : decode cX12_sign 1 = .ok (.aload_n 0, 1) := by decide +kernel
theorem dX12_sign_2 : decode cX12_sign 2 = .ok (.getfield 134, 3) := by decide +kernel
theorem dX12_sign_5 : decode cX12_sign 5 = .ok (.if_icmp .ge 16, 3) := by decide +kernel
theorem dX12_sign_21 : decode cX12_sign 21 = .ok (.iconst 0, 1) := by decide +kernel
theorem dX12_sign_22 : decode cX12_sign 22 = .ok (.ireturn, 1) := by decide +kernel
theorem dX12_goOn_0 : decode cX12_goOn 0 = .ok (.aload_n 0, 1) := by decide +kernel
theorem dX12_goOn_1 : decode cX12_goOn 1 = .ok (.aload_n 0, 1) := by decide +kernel
theorem dX12_goOn_2 : decode cX12_goOn 2 = .ok (.getfield 170, 3) := by decide +kernel
theorem dX12_goOn_5 : decode cX12_goOn 5 = .ok (.putfield 173, 3) := by decide +kernel
theorem dX12_goOn_8 : decode cX12_goOn 8 = .ok (.aload_n 0, 1) := by decide +kernel
theorem dX12_goOn_9 : decode cX12_goOn 9 = .ok (.getfield 173, 3) := by decide +kernel
theorem dX12_goOn_12 : decode cX12_goOn 12 = .ok (.aload_n 0, 1) := by decide +kernel
theorem dX12_goOn_13 : decode cX12_goOn 13 = .ok (.getfield 134, 3) := by decide +kernel
theorem dX12_goOn_16 : decode cX12_goOn 16 = .ok (.if_icmp .ge 42, 3) := by decide +kernel
theorem dX12_goOn_58 : decode cX12_goOn 58 = .ok (.aload_n 0, 1) := by decide +kernel
theorem dX12_goOn_59 : decode cX12_goOn 59 = .ok (.aload_n 0, 1) := by decide +kernel
theorem dX12_goOn_60 : decode cX12_goOn 60 = .ok (.getfield 173, 3) := by decide +kernel
theorem dX12_goOn_63 : decode cX12_goOn 63 = .ok (.invokevirtual 176, 3) := by decide +kernel
theorem dX12_goOn_66 : decode cX12_goOn 66 = .ok (.istore_n 1, 1) := by decide +kernel
theorem dX12_goOn_67 : decode cX12_goOn 67 = .ok (.aload_n 0, 1) := by decide +kernel
theorem dX12_goOn_68 : decode cX12_goOn 68 = .ok (.aload_n 0, 1) := by decide +kernel
theorem dX12_goOn_69 : decode cX12_goOn 69 = .ok (.getfield 173, 3) := by decide +kernel
theorem dX12_goOn_72 : decode cX12_goOn 72 = .ok (.iconst 1, 1) := by decide +kernel
theorem dX12_goOn_73 : decode cX12_goOn 73 = .ok (.iadd, 1) := by decide +kernel
theorem dX12_goOn_74 : decode cX12_goOn 74 = .ok (.putfield 170, 3) := by decide +kernel
theorem dX12_goOn_77 : decode cX12_goOn 77 = .ok (.aload_n 0, 1) := by decide +kernel
theorem dX12_goOn_78 : decode cX12_goOn 78 = .ok (.getfield 173, 3) := by decide +kernel
theorem dX12_goOn_81 : decode cX12_goOn 81 = .ok (.aload_n 0, 1) := by decide +kernel
theorem dX12_goOn_82 : decode cX12_goOn 82 = .ok (.getfield 134, 3) := by decide +kernel
theorem dX12_goOn_85 : decode cX12_goOn 85 = .ok (.if_icmp .lt 27, 3) := by decide +kernel
theorem dX12_goOn_88 : decode cX12_goOn 88 = .ok (.aload_n 0, 1) := by decide +kernel
theorem dX12_goOn_89 : decode cX12_goOn 89 = .ok (.iconst 0, 1) := by decide +kernel
theorem dX12_goOn_90 : decode cX12_goOn 90 = .ok (.putfield 180, 3) := by decide +kernel
theorem dX12_goOn_93 : decode cX12_goOn 93 = .ok (.aload_n 0, 1) := by decide +kernel
theorem dX12_goOn_94 : decode cX12_goOn 94 = .ok (.aload_n 0, 1) := by decide +kernel
theorem dX12_goOn_95 : decode cX12_goOn 95 = .ok (.getfield 134, 3) := by decide +kernel
theorem dX12_goOn_98 : decode cX12_goOn 98 = .ok (.putfield 173, 3) := by decide +kernel
theorem dX12_goOn_101 : decode cX12_goOn 101 = .ok (.aload_n 0, 1) := by decide +kernel
theorem dX12_goOn_102 : decode cX12_goOn 102 = .ok (.aload_n 0, 1) := by decide +kernel
theorem dX12_goOn_103 : decode cX12_goOn 103 = .ok (.getfield 134, 3) := by decide +kernel
theorem dX12_goOn_106 : decode cX12_goOn 106 = .ok (.putfield 170, 3) := by decide +kernel
theorem dX12_goOn_109 : decode cX12_goOn 109 = .ok (.goto 268, 3) := by decide +kernel
theorem dX12_goOn_377 : decode cX12_goOn 377 = .ok (.return_, 1) := by decide +kernel
theorem dX12_bitsOf_0 : decode cX12_bitsOf 0 = .ok (.iconst 0, 1) := by decide +kernel
theorem dX12_bitsOf_1 : decode cX12_bitsOf 1 = .ok (.istore_n 1, 1) := by decide +kernel
theorem dX12_bitsOf_2 : decode cX12_bitsOf 2 = .ok (.iconst 0, 1) := by decide +kernel
theorem dX12_bitsOf_3 : decode cX12_bitsOf 3 = .ok (.istore_n 2, 1) := by decide +kernel
theorem dX12_bitsOf_4 : decode cX12_bitsOf 4 = .ok (.iload_n 2, 1) := by decide +kernel
theorem dX12_bitsOf_5 : decode cX12_bitsOf 5 = .ok (.bipush 31, 2) := by decide +kernel
theorem dX12_bitsOf_7 : decode cX12_bitsOf 7 = .ok (.if_icmp .ge 17, 3) := by decide +kernel
theorem dX12_bitsOf_10 : decode cX12_bitsOf 10 = .ok (.iload_n 1, 1) := by decide +kernel
theorem dX12_bitsOf_11 : decode cX12_bitsOf 11 = .ok (.iload_n 0, 1) := by decide +kernel
theorem dX12_bitsOf_12 : decode cX12_bitsOf 12 = .ok (.iload_n 2, 1) := by decide +kernel
theorem dX12_bitsOf_13 : decode cX12_bitsOf 13 = .ok (.ishr, 1) := by decide +kernel
theorem dX12_bitsOf_14 : decode cX12_bitsOf 14 = .ok (.iconst 1, 1) := by decide +kernel
theorem dX12_bitsOf_15 : decode cX12_bitsOf 15 = .ok (.iand, 1) := by decide +kernel
theorem dX12_bitsOf_16 : decode cX12_bitsOf 16 = .ok (.iadd, 1) := by decide +kernel
theorem dX12_bitsOf_17 : decode cX12_bitsOf 17 = .ok (.istore_n 1, 1) := by decide +kernel
theorem dX12_bitsOf_18 : decode cX12_bitsOf 18 = .ok (.iinc 2 1, 3) := by decide +kernel
theorem dX12_bitsOf_21 : decode cX12_bitsOf 21 = .ok (.goto (-17), 3) := by decide +kernel
theorem dX12_bitsOf_24 : decode cX12_bitsOf 24 = .ok (.iload_n 1, 1) := by decide +kernel
theorem dX12_bitsOf_25 : decode cX12_bitsOf 25 = .ok (.ireturn, 1) := by decide +kernel
theorem dX12_keepTunes_0 : decode cX12_keepTunes 0 = .ok (.aload_n 0, 1) := by decide +kernel
theorem dX12_keepTunes_1 : decode cX12_keepTunes 1 = .ok (.iconst 0, 1) := by decide +kernel
theorem dX12_keepTunes_2 : decode cX12_keepTunes 2 = .ok (.putfield 378, 3) := by decide +kernel
theorem dX12_keepTunes_5 : decode cX12_keepTunes 5 = .ok (.iconst 0, 1) := by decide +kernel
theorem dX12_keepTunes_6 : decode cX12_keepTunes 6 = .ok (.istore_n 2, 1) := by decide +kernel
theorem dX12_keepTunes_7 : decode cX12_keepTunes 7 = .ok (.iload_n 2, 1) := by decide +kernel
theorem dX12_keepTunes_8 : decode cX12_keepTunes 8 = .ok (.aload_n 0, 1) := by decide +kernel
theorem dX12_keepTunes_9 : decode cX12_keepTunes 9 = .ok (.getfield 20, 3) := by decide +kernel
theorem dX12_keepTunes_12 : decode cX12_keepTunes 12 = .ok (.aload_n 0, 1) := by decide +kernel
theorem dX12_keepTunes_13 : decode cX12_keepTunes 13 = .ok (.getfield 227, 3) := by decide +kernel
theorem dX12_keepTunes_16 : decode cX12_keepTunes 16 = .ok (.iaload, 1) := by decide +kernel
theorem dX12_keepTunes_17 : decode cX12_keepTunes 17 = .ok (.if_icmp .ge 118, 3) := by decide +kernel
theorem dX12_keepTunes_135 : decode cX12_keepTunes 135 = .ok (.iconst 0, 1) := by decide +kernel
theorem dX12_keepTunes_136 : decode cX12_keepTunes 136 = .ok (.istore_n 2, 1) := by decide +kernel
theorem dX12_keepTunes_137 : decode cX12_keepTunes 137 = .ok (.iload_n 2, 1) := by decide +kernel
theorem dX12_keepTunes_138 : decode cX12_keepTunes 138 = .ok (.aload_n 0, 1) := by decide +kernel
theorem dX12_keepTunes_139 : decode cX12_keepTunes 139 = .ok (.getfield 378, 3) := by decide +kernel
theorem dX12_keepTunes_142 : decode cX12_keepTunes 142 = .ok (.if_icmp .ge 61, 3) := by decide +kernel
theorem dX12_keepTunes_203 : decode cX12_keepTunes 203 = .ok (.return_, 1) := by decide +kernel
theorem dX12_nextRow_0 : decode cX12_nextRow 0 = .ok (.aload_n 0, 1) := by decide +kernel
theorem dX12_nextRow_1 : decode cX12_nextRow 1 = .ok (.getfield 378, 3) := by decide +kernel
theorem dX12_nextRow_4 : decode cX12_nextRow 4 = .ok (.iconst 2, 1) := by decide +kernel
theorem dX12_nextRow_5 : decode cX12_nextRow 5 = .ok (.isub, 1) := by decide +kernel
theorem dX12_nextRow_6 : decode cX12_nextRow 6 = .ok (.istore_n 1, 1) := by decide +kernel
theorem dX12_nextRow_7 : decode cX12_nextRow 7 = .ok (.iload_n 1, 1) := by decide +kernel
theorem dX12_nextRow_8 : decode cX12_nextRow 8 = .ok (.ifCond .lt 26, 3) := by decide +kernel
theorem dX12_nextRow_34 : decode cX12_nextRow 34 = .ok (.iload_n 1, 1) := by decide +kernel
theorem dX12_nextRow_35 : decode cX12_nextRow 35 = .ok (.ifCond .ge 5, 3) := by decide +kernel
theorem dX12_nextRow_38 : decode cX12_nextRow 38 = .ok (.iconst 0, 1) := by decide +kernel
theorem dX12_nextRow_39 : decode cX12_nextRow 39 = .ok (.ireturn, 1) := by decide +kernel
theorem dX12_layMaster_0 : decode cX12_layMaster 0 = .ok (.aload_n 0, 1) := by decide +kernel
theorem dX12_layMaster_1 : decode cX12_layMaster 1 = .ok (.iconst (-1), 1) := by decide +kernel
theorem dX12_layMaster_2 : decode cX12_layMaster 2 = .ok (.putfield 388, 3) := by decide +kernel
theorem dX12_layMaster_5 : decode cX12_layMaster 5 = .ok (.iconst 0, 1) := by decide +kernel
theorem dX12_layMaster_6 : decode cX12_layMaster 6 = .ok (.istore_n 1, 1) := by decide +kernel
theorem dX12_layMaster_7 : decode cX12_layMaster 7 = .ok (.iload_n 1, 1) := by decide +kernel
theorem dX12_layMaster_8 : decode cX12_layMaster 8 = .ok (.aload_n 0, 1) := by decide +kernel
theorem dX12_layMaster_9 : decode cX12_layMaster 9 = .ok (.getfield 378, 3) := by decide +kernel
theorem dX12_layMaster_12 : decode cX12_layMaster 12 = .ok (.if_icmp .ge 16, 3) := by decide +kernel
theorem dX12_layMaster_28 : decode cX12_layMaster 28 = .ok (.iconst 1, 1) := by decide +kernel
theorem dX12_layMaster_29 : decode cX12_layMaster 29 = .ok (.istore_n 1, 1) := by decide +kernel
theorem dX12_layMaster_30 : decode cX12_layMaster 30 = .ok (.iload_n 1, 1) := by decide +kernel
theorem dX12_layMaster_31 : decode cX12_layMaster 31 = .ok (.ifCond .eq 136, 3) := by decide +kernel
theorem dX12_layMaster_34 : decode cX12_layMaster 34 = .ok (.iconst 0, 1) := by decide +kernel
theorem dX12_layMaster_35 : decode cX12_layMaster 35 = .ok (.istore_n 2, 1) := by decide +kernel
theorem dX12_layMaster_36 : decode cX12_layMaster 36 = .ok (.iconst 0, 1) := by decide +kernel
theorem dX12_layMaster_37 : decode cX12_layMaster 37 = .ok (.istore_n 3, 1) := by decide +kernel
theorem dX12_layMaster_38 : decode cX12_layMaster 38 = .ok (.iload_n 3, 1) := by decide +kernel
theorem dX12_layMaster_39 : decode cX12_layMaster 39 = .ok (.aload_n 0, 1) := by decide +kernel
theorem dX12_layMaster_40 : decode cX12_layMaster 40 = .ok (.getfield 378, 3) := by decide +kernel
theorem dX12_layMaster_43 : decode cX12_layMaster 43 = .ok (.if_icmp .ge 63, 3) := by decide +kernel
theorem dX12_layMaster_106 : decode cX12_layMaster 106 = .ok (.aload_n 0, 1) := by decide +kernel
theorem dX12_layMaster_107 : decode cX12_layMaster 107 = .ok (.getfield 388, 3) := by decide +kernel
theorem dX12_layMaster_110 : decode cX12_layMaster 110 = .ok (.ifCond .lt 11, 3) := by decide +kernel
theorem dX12_layMaster_121 : decode cX12_layMaster 121 = .ok (.aload_n 0, 1) := by decide +kernel
theorem dX12_layMaster_122 : decode cX12_layMaster 122 = .ok (.iload_n 2, 1) := by decide +kernel
theorem dX12_layMaster_123 : decode cX12_layMaster 123 = .ok (.putfield 388, 3) := by decide +kernel
theorem dX12_layMaster_126 : decode cX12_layMaster 126 = .ok (.iconst 0, 1) := by decide +kernel
theorem dX12_layMaster_127 : decode cX12_layMaster 127 = .ok (.istore_n 3, 1) := by decide +kernel
theorem dX12_layMaster_128 : decode cX12_layMaster 128 = .ok (.iload_n 3, 1) := by decide +kernel
theorem dX12_layMaster_129 : decode cX12_layMaster 129 = .ok (.aload_n 0, 1) := by decide +kernel
theorem dX12_layMaster_130 : decode cX12_layMaster 130 = .ok (.getfield 378, 3) := by decide +kernel
theorem dX12_layMaster_133 : decode cX12_layMaster 133 = .ok (.if_icmp .ge 26, 3) := by decide +kernel
theorem dX12_layMaster_159 : decode cX12_layMaster 159 = .ok (.aload_n 0, 1) := by decide +kernel
theorem dX12_layMaster_160 : decode cX12_layMaster 160 = .ok (.invokevirtual 391, 3) := by decide +kernel
theorem dX12_layMaster_163 : decode cX12_layMaster 163 = .ok (.istore_n 1, 1) := by decide +kernel
theorem dX12_layMaster_164 : decode cX12_layMaster 164 = .ok (.goto (-134), 3) := by decide +kernel
theorem dX12_layMaster_167 : decode cX12_layMaster 167 = .ok (.return_, 1) := by decide +kernel
theorem dX12_left_0 : decode cX12_left 0 = .ok (.iconst 0, 1) := by decide +kernel
theorem dX12_left_1 : decode cX12_left 1 = .ok (.istore_n 2, 1) := by decide +kernel
theorem dX12_left_2 : decode cX12_left 2 = .ok (.iconst 0, 1) := by decide +kernel
theorem dX12_left_3 : decode cX12_left 3 = .ok (.istore_n 3, 1) := by decide +kernel
theorem dX12_left_4 : decode cX12_left 4 = .ok (.iload_n 3, 1) := by decide +kernel
theorem dX12_left_5 : decode cX12_left 5 = .ok (.aload_n 0, 1) := by decide +kernel
theorem dX12_left_6 : decode cX12_left 6 = .ok (.getfield 20, 3) := by decide +kernel
theorem dX12_left_9 : decode cX12_left 9 = .ok (.aload_n 0, 1) := by decide +kernel
theorem dX12_left_10 : decode cX12_left 10 = .ok (.getfield 227, 3) := by decide +kernel
theorem dX12_left_13 : decode cX12_left 13 = .ok (.iaload, 1) := by decide +kernel
theorem dX12_left_14 : decode cX12_left 14 = .ok (.if_icmp .ge 123, 3) := by decide +kernel
theorem dX12_left_137 : decode cX12_left 137 = .ok (.iload_n 2, 1) := by decide +kernel
theorem dX12_left_138 : decode cX12_left 138 = .ok (.ireturn, 1) := by decide +kernel
set_option maxHeartbeats 4000000 in
set_option maxRecDepth 100000 in
theorem m_isIn (l : Launch) (G : va_G) (cy : Nat → ClassId) (sz : Nat) (n : Int32) (lo : Int32) (hi : Int32)  : Met l yX12_isIn (.code yX12_isIn cX12_isIn 3 (some .boolean) :: TBg) ({ frames := 1, cells := 0, slots := 0, locals := 64 }) (va_Pc [.int n, .int lo, .int hi] (En G cy [] sz)) (va_Qi (fun (r : Int32) (_ : Unit) => r = (if lo ≤ n ∧ n ≤ hi then 1 else 0) ∧ True) (fun _ _ => True) (va_A [] sz)) 0 0 (va_A [] sz) := by
  refine Met.ofW (cc := cX12_isIn) (maxL := 3) (ret := (some .boolean)) (by decide) rfl ?_
  intro p e s m args below meth c s₁ B hml hv
  obtain ⟨rfl, hsz, hP, hK, hD0, hN⟩ := hv
  have hx := B.exec
  have hb := B.bytes
  have hr := B.returns
  have hts := atoms_spec (ws := .code yX12_isIn cX12_isIn 3 (some .boolean) :: TBg) B.pre
  have ht : ∀ w ∈ TBg, w.before _ s = true := fun w h => hts w (List.mem_cons_of_mem _ h)
  have hown : s.vm.findClass RX12 = some m.cls := findClass_of_methodNamed B.named
  have hlocks := B.notSynchronized
  subst hsz
  generalize hAe : va_A [] s.heap.size = A at ⊢
  have hA : ∀ q : Nat, s.heap.size ≤ q → A q := fun q h => by rw [← hAe]; exact Or.inr h
  have hS : va_S A s.heap s.heap [] := va_S.rf
  have hl := lv_entry ([.int n, .int lo, .int hi]) (n := 3) (Nat.le_of_ble_eq_true rfl)
  rw [lg_entry_eq]
  generalize (lg_sl ([.int n, .int lo, .int hi]) ++ List.replicate (3 - (lg_sl ([.int n, .int lo, .int hi])).length) Slot.unset).toArray = ls at hl ⊢
  have hl : lv_has ls 3 [(0, .int n), (1, .int lo), (2, .int hi)] := hl
  refine lv_iload_n hx hb dX12_isIn_0 rfl (lv_at hl 0 rfl) ?_
  refine lv_iload_n hx hb dX12_isIn_1 rfl (lv_at hl 1 rfl) ?_
  refine lv_icmp_lt (tgt := 14) hx hb dX12_isIn_2 (by decide) (fun c_1 => ?_) (fun c_1 => ?_)
  · skip
    refine lv_iconst (v := 0) hx hb dX12_isIn_14 (by decide) ?_
    refine W.widen (k := 0) (n := 0) (Nat.le_of_ble_eq_true rfl) (Nat.le_of_ble_eq_true rfl) ?_
    exact W.zret (v := 0) hx hb hr (by first | rfl | decide) (fun t ht9 hW => ⟨⟨0, (), rfl, ⟨(by split <;> first | rfl | (exfalso; rename_i hc9; (try simp only [ow_lt, ow_le, ow_eq] at hc9  c_1); omega)), trivial⟩, trivial⟩, hS.F ht9⟩) hS.2.2 dX12_isIn_15
  · skip
    refine lv_iload_n hx hb dX12_isIn_5 rfl (lv_at hl 0 rfl) ?_
    refine lv_iload_n hx hb dX12_isIn_6 rfl (lv_at hl 2 rfl) ?_
    refine lv_icmp_gt (tgt := 14) hx hb dX12_isIn_7 (by decide) (fun c_2 => ?_) (fun c_2 => ?_)
    · skip
      refine lv_iconst (v := 0) hx hb dX12_isIn_14 (by decide) ?_
      refine W.widen (k := 0) (n := 0) (Nat.le_of_ble_eq_true rfl) (Nat.le_of_ble_eq_true rfl) ?_
      exact W.zret (v := 0) hx hb hr (by first | rfl | decide) (fun t ht9 hW => ⟨⟨0, (), rfl, ⟨(by split <;> first | rfl | (exfalso; rename_i hc9; (try simp only [ow_lt, ow_le, ow_eq] at hc9  c_1 c_2); omega)), trivial⟩, trivial⟩, hS.F ht9⟩) hS.2.2 dX12_isIn_15
    · skip
      refine lv_iconst (v := 1) hx hb dX12_isIn_10 (by decide) ?_
      refine lv_goto (tgt := 15) hx hb dX12_isIn_11 (by decide) ?_
      refine W.widen (k := 0) (n := 0) (Nat.le_of_ble_eq_true rfl) (Nat.le_of_ble_eq_true rfl) ?_
      exact W.zret (v := 1) hx hb hr (by first | rfl | decide) (fun t ht9 hW => ⟨⟨1, (), rfl, ⟨(by split <;> first | rfl | (exfalso; rename_i hc9; (try simp only [ow_lt, ow_le, ow_eq] at hc9  c_1 c_2); omega)), trivial⟩, trivial⟩, hS.F ht9⟩) hS.2.2 dX12_isIn_15
set_option maxHeartbeats 4000000 in
set_option maxRecDepth 100000 in
theorem m_isTune (l : Launch) (G : va_G) (cy : Nat → ClassId) (sz : Nat) (mo : Nat) (n : Int32) (q : Nat) (w0 : Value) (w1 : Value) (w2 : Value) (w3 : Value) (w4 : Value) (w5 : Value) (w6 : Value) (w7 : Value) (w8 : Value) (w9 : Value) (w10 : Value) (w12 : Value) (w13 : Value) (w14 : Value) (w15 : Value) (w16 : Value) (w17 : Value) (w18 : Value) (w19 : Value) (w20 : Value) (w21 : Value) (w22 : Value) (w23 : Value) (w24 : Value) (w25 : Value) (w26 : Value) (w27 : Value) (w28 : Value) (w30 : Value) (w31 : Value) (w32 : Value) (w33 : Value) (w34 : Value) (w35 : Value) (w36 : Value) (w37 : Value) (w38 : Value) (w39 : Value) (w40 : Value) (w41 : Value) (w42 : Value) (w43 : Value) (w44 : Value) (w45 : Value) (w46 : Value) (w47 : Value) (w48 : Value) (w49 : Value) (w50 : Value) (w51 : Value) (w52 : Value) (w53 : Value) (w54 : Value) (w55 : Value) (w56 : Value) (w57 : Value)  : Met l yX12_isTune (.code yX12_isTune cX12_isTune 2 (some .boolean) :: TBg) ({ frames := 2, cells := 0, slots := 0, locals := 128 }) (va_Pc [.ref mo, .int n] (En G cy [(mo, .inr (12, [w0, w1, w2, w3, w4, w5, w6, w7, w8, w9, w10, .ref q, w12, w13, w14, w15, w16, w17, w18, w19, w20, w21, w22, w23, w24, w25, w26, w27, w28, .int 0, w30, w31, w32, w33, w34, w35, w36, w37, w38, w39, w40, w41, w42, w43, w44, w45, w46, w47, w48, w49, w50, w51, w52, w53, w54, w55, w56, w57])), (q, .inl (cy 0, 2, .inl (fun _ => 0)))] sz)) (va_Qi (fun (r : Int32) (_ : Unit) => r = 0 ∧ True) (fun _ _ => True) (va_A [] sz)) 0 0 (va_A [] sz) := by
  refine Met.ofW (cc := cX12_isTune) (maxL := 2) (ret := (some .boolean)) (by decide) rfl ?_
  intro p e s m args below meth c s₁ B hml hv
  obtain ⟨rfl, hsz, hP, hK, hD0, hN⟩ := hv
  have hx := B.exec
  have hb := B.bytes
  have hr := B.returns
  have hts := atoms_spec (ws := .code yX12_isTune cX12_isTune 2 (some .boolean) :: TBg) B.pre
  have ht : ∀ w ∈ TBg, w.before _ s = true := fun w h => hts w (List.mem_cons_of_mem _ h)
  have hown : s.vm.findClass RX12 = some m.cls := findClass_of_methodNamed B.named
  have hlocks := B.notSynchronized
  subst hsz
  generalize hAe : va_A [] s.heap.size = A at ⊢
  have hA : ∀ q : Nat, s.heap.size ≤ q → A q := fun q h => by rw [← hAe]; exact Or.inr h
  have hS : va_S A s.heap s.heap [] := va_S.rf
  have hl := lv_entry ([.ref mo, .int n]) (n := 2) (Nat.le_of_ble_eq_true rfl)
  rw [lg_entry_eq]
  generalize (lg_sl ([.ref mo, .int n]) ++ List.replicate (2 - (lg_sl ([.ref mo, .int n])).length) Slot.unset).toArray = ls at hl ⊢
  have hl : lv_has ls 2 [(0, .ref mo), (1, .int n)] := hl
  refine lv_iload_n hx hb dX12_isTune_0 rfl (lv_at hl 1 rfl) ?_
  refine lv_iconst (v := 0) hx hb dX12_isTune_1 (by decide) ?_
  refine lv_aload_n hx hb dX12_isTune_2 rfl (lv_at hl 0 rfl) ?_
  refine va_get (ci := 12) (v := .ref q) (C := RX12) (T := TX12) (N := 58) hx hb ht iX12 hown hK hP 0 rfl rfl 11 (by decide) (ht _ k_268) (fun _ h9 => h9) rfl dX12_isTune_3 ?_
  refine lv_aload_n hx hb dX12_isTune_6 rfl (lv_at hl 0 rfl) ?_
  refine va_get (ci := 12) (v := .int 0) (C := RX12) (T := TX12) (N := 58) hx hb ht iX12 hown hK hP 0 rfl rfl 29 (by decide) (ht _ k_315) (fun _ h9 => h9) rfl dX12_isTune_7 ?_
  refine va_iald hx hb hK hP 1 0 rfl rfl (in_lit (by decide +kernel)) dX12_isTune_10 ?_
  refine ow_top 0 rfl ?_
  refine lv_iconst (v := 1) hx hb dX12_isTune_11 (by decide) ?_
  refine lv_isub hx hb dX12_isTune_12 ?_
  refine ow_top (-1) (by decide +kernel) ?_
  have hFc := fr_new hS hA
  have hPc := hP.sub (ws' := []) [] rfl
  have hDc := hD0.sub (ws' := []) [] (by decide) rfl
  refine va_calli (va_runS (As := [.int n, .int 0, .int (-1)]) (rest := []) ⟨hx, hb, hml, hown, ht⟩ (m_isIn l G cy _ n 0 (-1) ) (va_cwS 3 ht (gs k_317 k_318 k_314 k_316) rfl rfl rfl (by decide +kernel) ⟨Nat.le_of_ble_eq_true rfl, Nat.le_of_ble_eq_true rfl⟩) ⟨En.blind, fun U hU hW => ⟨rfl, En.of hU hW hPc hK hDc hN⟩⟩ rfl rfl hl.1 rfl (lv_room (Nat.le_of_ble_eq_true rfl)) dX12_isTune_13 ⟨Nat.le_of_ble_eq_true rfl, Nat.le_of_ble_eq_true rfl⟩) hS (fun q _ h => hFc q h) hFc (fun r_2 u_1 t H locs ht9 hvm hw hB hz1 hk1 hS => ?_)
  have hP := fr_keep hP hk1
  have e_3 := hw.1
  obtain rfl : r_2 = 0 := e_3.trans (if_neg (fun hc9 => by have z0 : (0 : Int32).toInt = 0 := (by decide); have z1 : (-1 : Int32).toInt = -1 := (by decide); simp only [ow_le] at hc9; omega))
  refine W.widen (k := 0) (n := 0) (Nat.le_of_ble_eq_true rfl) (Nat.le_of_ble_eq_true rfl) ?_
  exact W.zret (v := 0) hx hb hr (by first | rfl | decide) (fun t ht9 hW => ⟨⟨0, (), rfl, ⟨rfl, trivial⟩, trivial⟩, hS.F ht9⟩) hS.2.2 dX12_isTune_16
set_option maxHeartbeats 4000000 in
set_option maxRecDepth 100000 in
theorem m_isLock (l : Launch) (G : va_G) (cy : Nat → ClassId) (sz : Nat) (mo : Nat) (n : Int32) (q : Nat) (w0 : Value) (w1 : Value) (w2 : Value) (w3 : Value) (w4 : Value) (w5 : Value) (w6 : Value) (w7 : Value) (w8 : Value) (w9 : Value) (w10 : Value) (w11 : Value) (w13 : Value) (w14 : Value) (w15 : Value) (w16 : Value) (w17 : Value) (w18 : Value) (w19 : Value) (w20 : Value) (w21 : Value) (w22 : Value) (w23 : Value) (w24 : Value) (w25 : Value) (w26 : Value) (w27 : Value) (w28 : Value) (w30 : Value) (w31 : Value) (w32 : Value) (w33 : Value) (w34 : Value) (w35 : Value) (w36 : Value) (w37 : Value) (w38 : Value) (w39 : Value) (w40 : Value) (w41 : Value) (w42 : Value) (w43 : Value) (w44 : Value) (w45 : Value) (w46 : Value) (w47 : Value) (w48 : Value) (w49 : Value) (w50 : Value) (w51 : Value) (w52 : Value) (w53 : Value) (w54 : Value) (w55 : Value) (w56 : Value) (w57 : Value)  : Met l yX12_isLock (.code yX12_isLock cX12_isLock 2 (some .boolean) :: TBg) ({ frames := 2, cells := 0, slots := 0, locals := 128 }) (va_Pc [.ref mo, .int n] (En G cy [(mo, .inr (12, [w0, w1, w2, w3, w4, w5, w6, w7, w8, w9, w10, w11, .ref q, w13, w14, w15, w16, w17, w18, w19, w20, w21, w22, w23, w24, w25, w26, w27, w28, .int 0, w30, w31, w32, w33, w34, w35, w36, w37, w38, w39, w40, w41, w42, w43, w44, w45, w46, w47, w48, w49, w50, w51, w52, w53, w54, w55, w56, w57])), (q, .inl (cy 0, 2, .inl (fun _ => 0)))] sz)) (va_Qi (fun (r : Int32) (_ : Unit) => r = 0 ∧ True) (fun _ _ => True) (va_A [] sz)) 0 0 (va_A [] sz) := by
  refine Met.ofW (cc := cX12_isLock) (maxL := 2) (ret := (some .boolean)) (by decide) rfl ?_
  intro p e s m args below meth c s₁ B hml hv
  obtain ⟨rfl, hsz, hP, hK, hD0, hN⟩ := hv
  have hx := B.exec
  have hb := B.bytes
  have hr := B.returns
  have hts := atoms_spec (ws := .code yX12_isLock cX12_isLock 2 (some .boolean) :: TBg) B.pre
  have ht : ∀ w ∈ TBg, w.before _ s = true := fun w h => hts w (List.mem_cons_of_mem _ h)
  have hown : s.vm.findClass RX12 = some m.cls := findClass_of_methodNamed B.named
  have hlocks := B.notSynchronized
  subst hsz
  generalize hAe : va_A [] s.heap.size = A at ⊢
  have hA : ∀ q : Nat, s.heap.size ≤ q → A q := fun q h => by rw [← hAe]; exact Or.inr h
  have hS : va_S A s.heap s.heap [] := va_S.rf
  have hl := lv_entry ([.ref mo, .int n]) (n := 2) (Nat.le_of_ble_eq_true rfl)
  rw [lg_entry_eq]
  generalize (lg_sl ([.ref mo, .int n]) ++ List.replicate (2 - (lg_sl ([.ref mo, .int n])).length) Slot.unset).toArray = ls at hl ⊢
  have hl : lv_has ls 2 [(0, .ref mo), (1, .int n)] := hl
  refine lv_iload_n hx hb dX12_isLock_0 rfl (lv_at hl 1 rfl) ?_
  refine lv_iconst (v := 0) hx hb dX12_isLock_1 (by decide) ?_
  refine lv_aload_n hx hb dX12_isLock_2 rfl (lv_at hl 0 rfl) ?_
  refine va_get (ci := 12) (v := .ref q) (C := RX12) (T := TX12) (N := 58) hx hb ht iX12 hown hK hP 0 rfl rfl 12 (by decide) (ht _ k_270) (fun _ h9 => h9) rfl dX12_isLock_3 ?_
  refine lv_aload_n hx hb dX12_isLock_6 rfl (lv_at hl 0 rfl) ?_
  refine va_get (ci := 12) (v := .int 0) (C := RX12) (T := TX12) (N := 58) hx hb ht iX12 hown hK hP 0 rfl rfl 29 (by decide) (ht _ k_315) (fun _ h9 => h9) rfl dX12_isLock_7 ?_
  refine va_iald hx hb hK hP 1 0 rfl rfl (in_lit (by decide +kernel)) dX12_isLock_10 ?_
  refine ow_top 0 rfl ?_
  refine lv_iconst (v := 1) hx hb dX12_isLock_11 (by decide) ?_
  refine lv_isub hx hb dX12_isLock_12 ?_
  refine ow_top (-1) (by decide +kernel) ?_
  have hFc := fr_new hS hA
  have hPc := hP.sub (ws' := []) [] rfl
  have hDc := hD0.sub (ws' := []) [] (by decide) rfl
  refine va_calli (va_runS (As := [.int n, .int 0, .int (-1)]) (rest := []) ⟨hx, hb, hml, hown, ht⟩ (m_isIn l G cy _ n 0 (-1) ) (va_cwS 3 ht (gs k_317 k_318 k_314 k_316) rfl rfl rfl (by decide +kernel) ⟨Nat.le_of_ble_eq_true rfl, Nat.le_of_ble_eq_true rfl⟩) ⟨En.blind, fun U hU hW => ⟨rfl, En.of hU hW hPc hK hDc hN⟩⟩ rfl rfl hl.1 rfl (lv_room (Nat.le_of_ble_eq_true rfl)) dX12_isLock_13 ⟨Nat.le_of_ble_eq_true rfl, Nat.le_of_ble_eq_true rfl⟩) hS (fun q _ h => hFc q h) hFc (fun r_2 u_1 t H locs ht9 hvm hw hB hz1 hk1 hS => ?_)
  have hP := fr_keep hP hk1
  have e_3 := hw.1
  obtain rfl : r_2 = 0 := e_3.trans (if_neg (fun hc9 => by have z0 : (0 : Int32).toInt = 0 := (by decide); have z1 : (-1 : Int32).toInt = -1 := (by decide); simp only [ow_le] at hc9; omega))
  refine W.widen (k := 0) (n := 0) (Nat.le_of_ble_eq_true rfl) (Nat.le_of_ble_eq_true rfl) ?_
  exact W.zret (v := 0) hx hb hr (by first | rfl | decide) (fun t ht9 hW => ⟨⟨0, (), rfl, ⟨rfl, trivial⟩, trivial⟩, hS.F ht9⟩) hS.2.2 dX12_isLock_16
set_option maxHeartbeats 4000000 in
set_option maxRecDepth 100000 in
theorem m_isGood (l : Launch) (G : va_G) (cy : Nat → ClassId) (sz : Nat) (mo : Nat) (w0 : Value) (w1 : Value) (w2 : Value) (w3 : Value) (w5 : Value) (w6 : Value) (w7 : Value) (w8 : Value) (w9 : Value) (w10 : Value) (w11 : Value) (w12 : Value) (w13 : Value) (w14 : Value) (w15 : Value) (w16 : Value) (w17 : Value) (w18 : Value) (w19 : Value) (w20 : Value) (w21 : Value) (w22 : Value) (w23 : Value) (w24 : Value) (w25 : Value) (w26 : Value) (w27 : Value) (w28 : Value) (w29 : Value) (w30 : Value) (w31 : Value) (w32 : Value) (w33 : Value) (w34 : Value) (w35 : Value) (w36 : Value) (w37 : Value) (w38 : Value) (w39 : Value) (w40 : Value) (w41 : Value) (w42 : Value) (w43 : Value) (w44 : Value) (w45 : Value) (w46 : Value) (w47 : Value) (w48 : Value) (w49 : Value) (w50 : Value) (w51 : Value) (w52 : Value) (w53 : Value) (w54 : Value) (w55 : Value) (w56 : Value) (w57 : Value)  : Met l yX12_isGood (.code yX12_isGood cX12_isGood 1 (some .boolean) :: TBg) ({ frames := 1, cells := 0, slots := 0, locals := 64 }) (va_Pc [.ref mo] (En G cy [(mo, .inr (12, [w0, w1, w2, w3, .int 0, w5, w6, w7, w8, w9, w10, w11, w12, w13, w14, w15, w16, w17, w18, w19, w20, w21, w22, w23, w24, w25, w26, w27, w28, w29, w30, w31, w32, w33, w34, w35, w36, w37, w38, w39, w40, w41, w42, w43, w44, w45, w46, w47, w48, w49, w50, w51, w52, w53, w54, w55, w56, w57]))] sz)) (va_Qi (fun (r : Int32) (_ : Unit) => r = 1 ∧ True) (fun _ _ => True) (va_A [] sz)) 0 0 (va_A [] sz) := by
  refine Met.ofW (cc := cX12_isGood) (maxL := 1) (ret := (some .boolean)) (by decide) rfl ?_
  intro p e s m args below meth c s₁ B hml hv
  obtain ⟨rfl, hsz, hP, hK, hD0, hN⟩ := hv
  have hx := B.exec
  have hb := B.bytes
  have hr := B.returns
  have hts := atoms_spec (ws := .code yX12_isGood cX12_isGood 1 (some .boolean) :: TBg) B.pre
  have ht : ∀ w ∈ TBg, w.before _ s = true := fun w h => hts w (List.mem_cons_of_mem _ h)
  have hown : s.vm.findClass RX12 = some m.cls := findClass_of_methodNamed B.named
  have hlocks := B.notSynchronized
  subst hsz
  generalize hAe : va_A [] s.heap.size = A at ⊢
  have hA : ∀ q : Nat, s.heap.size ≤ q → A q := fun q h => by rw [← hAe]; exact Or.inr h
  have hS : va_S A s.heap s.heap [] := va_S.rf
  have hl := lv_entry ([.ref mo]) (n := 1) (Nat.le_of_ble_eq_true rfl)
  rw [lg_entry_eq]
  generalize (lg_sl ([.ref mo]) ++ List.replicate (1 - (lg_sl ([.ref mo])).length) Slot.unset).toArray = ls at hl ⊢
  have hl : lv_has ls 1 [(0, .ref mo)] := hl
  refine lv_aload_n hx hb dX12_isGood_0 rfl (lv_at hl 0 rfl) ?_
  refine va_get (ci := 12) (v := .int 0) (C := RX12) (T := TX12) (N := 58) hx hb ht iX12 hown hK hP 0 rfl rfl 4 (by decide) (ht _ k_319) (fun _ h9 => h9) rfl dX12_isGood_1 ?_
  refine lv_if_ne (tgt := 11) hx hb dX12_isGood_4 (by decide) (fun c9 => absurd (by decide) c9) (fun _ => ?_)
  refine lv_iconst (v := 1) hx hb dX12_isGood_7 (by decide) ?_
  refine lv_goto (tgt := 12) hx hb dX12_isGood_8 (by decide) ?_
  refine W.widen (k := 0) (n := 0) (Nat.le_of_ble_eq_true rfl) (Nat.le_of_ble_eq_true rfl) ?_
  exact W.zret (v := 1) hx hb hr (by first | rfl | decide) (fun t ht9 hW => ⟨⟨1, (), rfl, ⟨rfl, trivial⟩, trivial⟩, hS.F ht9⟩) hS.2.2 dX12_isGood_12
set_option maxHeartbeats 4000000 in
set_option maxRecDepth 100000 in
theorem m_sign (l : Launch) (G : va_G) (cy : Nat → ClassId) (sz : Nat) (mo : Nat) (w0 : Value) (w1 : Value) (w2 : Value) (w4 : Value) (w5 : Value) (w6 : Value) (w7 : Value) (w8 : Value) (w9 : Value) (w10 : Value) (w11 : Value) (w12 : Value) (w13 : Value) (w14 : Value) (w15 : Value) (w16 : Value) (w17 : Value) (w18 : Value) (w19 : Value) (w20 : Value) (w21 : Value) (w22 : Value) (w23 : Value) (w24 : Value) (w25 : Value) (w26 : Value) (w27 : Value) (w28 : Value) (w29 : Value) (w30 : Value) (w31 : Value) (w32 : Value) (w33 : Value) (w34 : Value) (w35 : Value) (w36 : Value) (w37 : Value) (w38 : Value) (w39 : Value) (w40 : Value) (w41 : Value) (w42 : Value) (w43 : Value) (w44 : Value) (w45 : Value) (w46 : Value) (w47 : Value) (w48 : Value) (w49 : Value) (w50 : Value) (w51 : Value) (w52 : Value) (w53 : Value) (w54 : Value) (w55 : Value) (w56 : Value) (w57 : Value)  : Met l yX12_sign (.code yX12_sign cX12_sign 2 (some .int) :: TBg) ({ frames := 1, cells := 0, slots := 0, locals := 64 }) (va_Pc [.ref mo, .int 0] (En G cy [(mo, .inr (12, [w0, w1, w2, .int 0, w4, w5, w6, w7, w8, w9, w10, w11, w12, w13, w14, w15, w16, w17, w18, w19, w20, w21, w22, w23, w24, w25, w26, w27, w28, w29, w30, w31, w32, w33, w34, w35, w36, w37, w38, w39, w40, w41, w42, w43, w44, w45, w46, w47, w48, w49, w50, w51, w52, w53, w54, w55, w56, w57]))] sz)) (va_Qi (fun (r : Int32) (_ : Unit) => r = 0 ∧ True) (fun _ _ => True) (va_A [] sz)) 0 0 (va_A [] sz) := by
  refine Met.ofW (cc := cX12_sign) (maxL := 2) (ret := (some .int)) (by decide) rfl ?_
  intro p e s m args below meth c s₁ B hml hv
  obtain ⟨rfl, hsz, hP, hK, hD0, hN⟩ := hv
  have hx := B.exec
  have hb := B.bytes
  have hr := B.returns
  have hts := atoms_spec (ws := .code yX12_sign cX12_sign 2 (some .int) :: TBg) B.pre
  have ht : ∀ w ∈ TBg, w.before _ s = true := fun w h => hts w (List.mem_cons_of_mem _ h)
  have hown : s.vm.findClass RX12 = some m.cls := findClass_of_methodNamed B.named
  have hlocks := B.notSynchronized
  subst hsz
  generalize hAe : va_A [] s.heap.size = A at ⊢
  have hA : ∀ q : Nat, s.heap.size ≤ q → A q := fun q h => by rw [← hAe]; exact Or.inr h
  have hS : va_S A s.heap s.heap [] := va_S.rf
  have hl := lv_entry ([.ref mo, .int 0]) (n := 2) (Nat.le_of_ble_eq_true rfl)
  rw [lg_entry_eq]
  generalize (lg_sl ([.ref mo, .int 0]) ++ List.replicate (2 - (lg_sl ([.ref mo, .int 0])).length) Slot.unset).toArray = ls at hl ⊢
  have hl : lv_has ls 2 [(0, .ref mo), (1, .int 0)] := hl
  refine lv_iload_n hx hb dX12_sign_0 rfl (lv_at hl 1 rfl) ?_
  refine lv_aload_n hx hb dX12_sign_1 rfl (lv_at hl 0 rfl) ?_
  refine va_get (ci := 12) (v := .int 0) (C := RX12) (T := TX12) (N := 58) hx hb ht iX12 hown hK hP 0 rfl rfl 3 (by decide) (ht _ k_320) (fun _ h9 => h9) rfl dX12_sign_2 ?_
  refine lv_icmp_ge (tgt := 21) hx hb dX12_sign_5 (by decide) (fun _ => ?_) (fun c9 => absurd (by decide) c9)
  refine lv_iconst (v := 0) hx hb dX12_sign_21 (by decide) ?_
  refine W.widen (k := 0) (n := 0) (Nat.le_of_ble_eq_true rfl) (Nat.le_of_ble_eq_true rfl) ?_
  exact W.iret (v := 0) hx hb hr (fun t ht9 hW => ⟨⟨0, (), rfl, ⟨rfl, trivial⟩, trivial⟩, hS.F ht9⟩) hS.2.2 dX12_sign_22
set_option maxHeartbeats 4000000 in
set_option maxRecDepth 100000 in
theorem m_goOn (l : Launch) (G : va_G) (cy : Nat → ClassId) (sz : Nat) (mo : Nat) (w0 : Value) (w1 : Value) (w2 : Value) (w4 : Value) (w5 : Value) (w9 : Value) (w10 : Value) (w11 : Value) (w12 : Value) (w13 : Value) (w14 : Value) (w15 : Value) (w16 : Value) (w17 : Value) (w18 : Value) (w19 : Value) (w20 : Value) (w21 : Value) (w22 : Value) (w23 : Value) (w24 : Value) (w25 : Value) (w26 : Value) (w27 : Value) (w28 : Value) (w29 : Value) (w30 : Value) (w31 : Value) (w32 : Value) (w33 : Value) (w34 : Value) (w35 : Value) (w36 : Value) (w37 : Value) (w38 : Value) (w39 : Value) (w40 : Value) (w41 : Value) (w42 : Value) (w43 : Value) (w44 : Value) (w45 : Value) (w46 : Value) (w47 : Value) (w48 : Value) (w49 : Value) (w50 : Value) (w51 : Value) (w52 : Value) (w53 : Value) (w54 : Value) (w55 : Value) (w56 : Value) (w57 : Value)  : Met l yX12_goOn (.code yX12_goOn cX12_goOn 3 none :: TBg) ({ frames := 2, cells := 0, slots := 0, locals := 128 }) (va_Pc [.ref mo] (En G cy [(mo, .inr (12, [w0, w1, w2, .int 0, w4, w5, .int 0, .int 0, .int 0, w9, w10, w11, w12, w13, w14, w15, w16, w17, w18, w19, w20, w21, w22, w23, w24, w25, w26, w27, w28, w29, w30, w31, w32, w33, w34, w35, w36, w37, w38, w39, w40, w41, w42, w43, w44, w45, w46, w47, w48, w49, w50, w51, w52, w53, w54, w55, w56, w57]))] sz)) (va_Qv (fun u : Unit => True) (fun u t => Ex G (va_A [(mo, .inr (12, [w0, w1, w2, .int 0, w4, w5, .int 0, .int 0, .int 0, w9, w10, w11, w12, w13, w14, w15, w16, w17, w18, w19, w20, w21, w22, w23, w24, w25, w26, w27, w28, w29, w30, w31, w32, w33, w34, w35, w36, w37, w38, w39, w40, w41, w42, w43, w44, w45, w46, w47, w48, w49, w50, w51, w52, w53, w54, w55, w56, w57]))] sz) [(mo, .inr (12, [w0, w1, w2, .int 0, w4, w5, .int 0, .int 0, .int 0, w9, w10, w11, w12, w13, w14, w15, w16, w17, w18, w19, w20, w21, w22, w23, w24, w25, w26, w27, w28, w29, w30, w31, w32, w33, w34, w35, w36, w37, w38, w39, w40, w41, w42, w43, w44, w45, w46, w47, w48, w49, w50, w51, w52, w53, w54, w55, w56, w57]))] t) (va_A [(mo, .inr (12, [w0, w1, w2, .int 0, w4, w5, .int 0, .int 0, .int 0, w9, w10, w11, w12, w13, w14, w15, w16, w17, w18, w19, w20, w21, w22, w23, w24, w25, w26, w27, w28, w29, w30, w31, w32, w33, w34, w35, w36, w37, w38, w39, w40, w41, w42, w43, w44, w45, w46, w47, w48, w49, w50, w51, w52, w53, w54, w55, w56, w57]))] sz)) 0 0 (va_A [(mo, .inr (12, [w0, w1, w2, .int 0, w4, w5, .int 0, .int 0, .int 0, w9, w10, w11, w12, w13, w14, w15, w16, w17, w18, w19, w20, w21, w22, w23, w24, w25, w26, w27, w28, w29, w30, w31, w32, w33, w34, w35, w36, w37, w38, w39, w40, w41, w42, w43, w44, w45, w46, w47, w48, w49, w50, w51, w52, w53, w54, w55, w56, w57]))] sz) := by
  refine Met.ofW (cc := cX12_goOn) (maxL := 3) (ret := none) (by decide) rfl ?_
  intro p e s m args below meth c s₁ B hml hv
  obtain ⟨rfl, hsz, hP, hK, hD0, hN⟩ := hv
  have hx := B.exec
  have hb := B.bytes
  have hr := B.returns
  have hts := atoms_spec (ws := .code yX12_goOn cX12_goOn 3 none :: TBg) B.pre
  have ht : ∀ w ∈ TBg, w.before _ s = true := fun w h => hts w (List.mem_cons_of_mem _ h)
  have hown : s.vm.findClass RX12 = some m.cls := findClass_of_methodNamed B.named
  have hlocks := B.notSynchronized
  subst hsz
  have hD := hD0.self (sz := s.heap.size)
  generalize hAe : va_A [(mo, .inr (12, [w0, w1, w2, .int 0, w4, w5, .int 0, .int 0, .int 0, w9, w10, w11, w12, w13, w14, w15, w16, w17, w18, w19, w20, w21, w22, w23, w24, w25, w26, w27, w28, w29, w30, w31, w32, w33, w34, w35, w36, w37, w38, w39, w40, w41, w42, w43, w44, w45, w46, w47, w48, w49, w50, w51, w52, w53, w54, w55, w56, w57]))] s.heap.size = A at hD ⊢
  have hA : ∀ q : Nat, s.heap.size ≤ q → A q := fun q h => by rw [← hAe]; exact Or.inr h
  have hS : va_S A s.heap s.heap [] := va_S.rf
  have hl := lv_entry ([.ref mo]) (n := 3) (Nat.le_of_ble_eq_true rfl)
  rw [lg_entry_eq]
  generalize (lg_sl ([.ref mo]) ++ List.replicate (3 - (lg_sl ([.ref mo])).length) Slot.unset).toArray = ls at hl ⊢
  have hl : lv_has ls 3 [(0, .ref mo)] := hl
  refine lv_aload_n hx hb dX12_goOn_0 rfl (lv_at hl 0 rfl) ?_
  refine lv_aload_n hx hb dX12_goOn_1 rfl (lv_at hl 0 rfl) ?_
  refine va_get (ci := 12) (v := .int 0) (C := RX12) (T := TX12) (N := 58) hx hb ht iX12 hown hK hP 0 rfl rfl 7 (by decide) (ht _ k_321) (fun _ h9 => h9) rfl dX12_goOn_2 ?_
  refine va_put (ci := 12) (v := .int 0) (ty := .int) (C := RX12) (T := TX12) (N := 58) hx hb ht iX12 tyX12 tyX12_ok nmX12 hown hK hP hD hS 0 rfl rfl 6 (by decide) (ht _ k_322) (fun _ h9 => h9) rfl (by decide +kernel) rfl rfl (Nat.le_of_ble_eq_true rfl) dX12_goOn_5 (fun H locs hP hD hS => ?_)
  have hP : va_P G vwCl [(mo, .inr (12, [w0, w1, w2, .int 0, w4, w5, .int 0, .int 0, .int 0, w9, w10, w11, w12, w13, w14, w15, w16, w17, w18, w19, w20, w21, w22, w23, w24, w25, w26, w27, w28, w29, w30, w31, w32, w33, w34, w35, w36, w37, w38, w39, w40, w41, w42, w43, w44, w45, w46, w47, w48, w49, w50, w51, w52, w53, w54, w55, w56, w57]))] H := hP
  have hD : va_D A [(mo, .inr (12, [w0, w1, w2, .int 0, w4, w5, .int 0, .int 0, .int 0, w9, w10, w11, w12, w13, w14, w15, w16, w17, w18, w19, w20, w21, w22, w23, w24, w25, w26, w27, w28, w29, w30, w31, w32, w33, w34, w35, w36, w37, w38, w39, w40, w41, w42, w43, w44, w45, w46, w47, w48, w49, w50, w51, w52, w53, w54, w55, w56, w57]))] := hD
  refine lv_aload_n hx hb dX12_goOn_8 rfl (lv_at hl 0 rfl) ?_
  refine va_get (ci := 12) (v := .int 0) (C := RX12) (T := TX12) (N := 58) hx hb ht iX12 hown hK hP 0 rfl rfl 6 (by decide) (ht _ k_322) (fun _ h9 => h9) rfl dX12_goOn_9 ?_
  refine lv_aload_n hx hb dX12_goOn_12 rfl (lv_at hl 0 rfl) ?_
  refine va_get (ci := 12) (v := .int 0) (C := RX12) (T := TX12) (N := 58) hx hb ht iX12 hown hK hP 0 rfl rfl 3 (by decide) (ht _ k_320) (fun _ h9 => h9) rfl dX12_goOn_13 ?_
  refine lv_icmp_ge (tgt := 58) hx hb dX12_goOn_16 (by decide) (fun _ => ?_) (fun c9 => absurd (by decide) c9)
  refine lv_aload_n hx hb dX12_goOn_58 rfl (lv_at hl 0 rfl) ?_
  refine lv_aload_n hx hb dX12_goOn_59 rfl (lv_at hl 0 rfl) ?_
  refine va_get (ci := 12) (v := .int 0) (C := RX12) (T := TX12) (N := 58) hx hb ht iX12 hown hK hP 0 rfl rfl 6 (by decide) (ht _ k_322) (fun _ h9 => h9) rfl dX12_goOn_60 ?_
  have hFc := fr_new hS hA
  have hPc := hP.sub (ws' := [(mo, .inr (12, [w0, w1, w2, .int 0, w4, w5, .int 0, .int 0, .int 0, w9, w10, w11, w12, w13, w14, w15, w16, w17, w18, w19, w20, w21, w22, w23, w24, w25, w26, w27, w28, w29, w30, w31, w32, w33, w34, w35, w36, w37, w38, w39, w40, w41, w42, w43, w44, w45, w46, w47, w48, w49, w50, w51, w52, w53, w54, w55, w56, w57]))]) [0] rfl
  have hDc := hD.sub (ws' := [(mo, .inr (12, [w0, w1, w2, .int 0, w4, w5, .int 0, .int 0, .int 0, w9, w10, w11, w12, w13, w14, w15, w16, w17, w18, w19, w20, w21, w22, w23, w24, w25, w26, w27, w28, w29, w30, w31, w32, w33, w34, w35, w36, w37, w38, w39, w40, w41, w42, w43, w44, w45, w46, w47, w48, w49, w50, w51, w52, w53, w54, w55, w56, w57]))]) [0] (by decide) rfl
  refine va_calli (va_runV (As := [.int 0]) (rest := []) ⟨hx, hb, hml, hown, ht⟩ (m_sign l G cy _ mo (w0) (w1) (w2) (w4) (w5) (.int 0) (.int 0) (.int 0) (w9) (w10) (w11) (w12) (w13) (w14) (w15) (w16) (w17) (w18) (w19) (w20) (w21) (w22) (w23) (w24) (w25) (w26) (w27) (w28) (w29) (w30) (w31) (w32) (w33) (w34) (w35) (w36) (w37) (w38) (w39) (w40) (w41) (w42) (w43) (w44) (w45) (w46) (w47) (w48) (w49) (w50) (w51) (w52) (w53) (w54) (w55) (w56) (w57) ) (cwV 1 ht (gv k_324 k_325 k_326 k_314 k_323) rfl rfl rfl (by decide +kernel) ⟨Nat.le_of_ble_eq_true rfl, Nat.le_of_ble_eq_true rfl⟩) ⟨En.blind, va_recv hK hP (ci := 12) (q0 := 0) rfl rfl, fun U hU hW => ⟨rfl, En.of hU hW hPc hK hDc hN⟩⟩ rfl rfl hl.1 rfl (lv_room (Nat.le_of_ble_eq_true rfl)) dX12_goOn_63 ⟨Nat.le_of_ble_eq_true rfl, Nat.le_of_ble_eq_true rfl⟩) hS (fun q _ h => hFc q h) hFc (fun r_2 u_1 t H locs ht9 hvm hw hB hz1 hk1 hS => ?_)
  have hP := fr_keep hP hk1
  obtain rfl : r_2 = 0 := hw.1
  refine lv_istore_n (lv' := [(1, .int 0), (0, .ref mo)]) hx hb dX12_goOn_66 rfl hl (by decide) rfl (fun ls hl => ?_)
  refine lv_aload_n hx hb dX12_goOn_67 rfl (lv_at hl 1 rfl) ?_
  refine lv_aload_n hx hb dX12_goOn_68 rfl (lv_at hl 1 rfl) ?_
  refine va_get (ci := 12) (v := .int 0) (C := RX12) (T := TX12) (N := 58) hx hb ht iX12 hown hK hP 0 rfl rfl 6 (by decide) (ht _ k_322) (fun _ h9 => h9) rfl dX12_goOn_69 ?_
  refine lv_iconst (v := 1) hx hb dX12_goOn_72 (by decide) ?_
  refine lv_iadd hx hb dX12_goOn_73 ?_
  refine ow_top 1 (by decide +kernel) ?_
  refine va_put (ci := 12) (v := .int 1) (ty := .int) (C := RX12) (T := TX12) (N := 58) hx hb ht iX12 tyX12 tyX12_ok nmX12 hown hK hP hD hS 0 rfl rfl 7 (by decide) (ht _ k_321) (fun _ h9 => h9) rfl (by decide +kernel) rfl rfl (Nat.le_of_ble_eq_true rfl) dX12_goOn_74 (fun H locs hP hD hS => ?_)
  have hP : va_P G vwCl [(mo, .inr (12, [w0, w1, w2, .int 0, w4, w5, .int 0, .int 1, .int 0, w9, w10, w11, w12, w13, w14, w15, w16, w17, w18, w19, w20, w21, w22, w23, w24, w25, w26, w27, w28, w29, w30, w31, w32, w33, w34, w35, w36, w37, w38, w39, w40, w41, w42, w43, w44, w45, w46, w47, w48, w49, w50, w51, w52, w53, w54, w55, w56, w57]))] H := hP
  have hD : va_D A [(mo, .inr (12, [w0, w1, w2, .int 0, w4, w5, .int 0, .int 1, .int 0, w9, w10, w11, w12, w13, w14, w15, w16, w17, w18, w19, w20, w21, w22, w23, w24, w25, w26, w27, w28, w29, w30, w31, w32, w33, w34, w35, w36, w37, w38, w39, w40, w41, w42, w43, w44, w45, w46, w47, w48, w49, w50, w51, w52, w53, w54, w55, w56, w57]))] := hD
  refine lv_aload_n hx hb dX12_goOn_77 rfl (lv_at hl 1 rfl) ?_
  refine va_get (ci := 12) (v := .int 0) (C := RX12) (T := TX12) (N := 58) hx hb ht iX12 hown hK hP 0 rfl rfl 6 (by decide) (ht _ k_322) (fun _ h9 => h9) rfl dX12_goOn_78 ?_
  refine lv_aload_n hx hb dX12_goOn_81 rfl (lv_at hl 1 rfl) ?_
  refine va_get (ci := 12) (v := .int 0) (C := RX12) (T := TX12) (N := 58) hx hb ht iX12 hown hK hP 0 rfl rfl 3 (by decide) (ht _ k_320) (fun _ h9 => h9) rfl dX12_goOn_82 ?_
  refine lv_icmp_lt (tgt := 112) hx hb dX12_goOn_85 (by decide) (fun c9 => absurd c9 (by decide)) (fun _ => ?_)
  refine lv_aload_n hx hb dX12_goOn_88 rfl (lv_at hl 1 rfl) ?_
  refine lv_iconst (v := 0) hx hb dX12_goOn_89 (by decide) ?_
  refine va_put (ci := 12) (v := .int 0) (ty := .int) (C := RX12) (T := TX12) (N := 58) hx hb ht iX12 tyX12 tyX12_ok nmX12 hown hK hP hD hS 0 rfl rfl 8 (by decide) (ht _ k_327) (fun _ h9 => h9) rfl (by decide +kernel) rfl rfl (Nat.le_of_ble_eq_true rfl) dX12_goOn_90 (fun H locs hP hD hS => ?_)
  have hP : va_P G vwCl [(mo, .inr (12, [w0, w1, w2, .int 0, w4, w5, .int 0, .int 1, .int 0, w9, w10, w11, w12, w13, w14, w15, w16, w17, w18, w19, w20, w21, w22, w23, w24, w25, w26, w27, w28, w29, w30, w31, w32, w33, w34, w35, w36, w37, w38, w39, w40, w41, w42, w43, w44, w45, w46, w47, w48, w49, w50, w51, w52, w53, w54, w55, w56, w57]))] H := hP
  have hD : va_D A [(mo, .inr (12, [w0, w1, w2, .int 0, w4, w5, .int 0, .int 1, .int 0, w9, w10, w11, w12, w13, w14, w15, w16, w17, w18, w19, w20, w21, w22, w23, w24, w25, w26, w27, w28, w29, w30, w31, w32, w33, w34, w35, w36, w37, w38, w39, w40, w41, w42, w43, w44, w45, w46, w47, w48, w49, w50, w51, w52, w53, w54, w55, w56, w57]))] := hD
  refine lv_aload_n hx hb dX12_goOn_93 rfl (lv_at hl 1 rfl) ?_
  refine lv_aload_n hx hb dX12_goOn_94 rfl (lv_at hl 1 rfl) ?_
  refine va_get (ci := 12) (v := .int 0) (C := RX12) (T := TX12) (N := 58) hx hb ht iX12 hown hK hP 0 rfl rfl 3 (by decide) (ht _ k_320) (fun _ h9 => h9) rfl dX12_goOn_95 ?_
  refine va_put (ci := 12) (v := .int 0) (ty := .int) (C := RX12) (T := TX12) (N := 58) hx hb ht iX12 tyX12 tyX12_ok nmX12 hown hK hP hD hS 0 rfl rfl 6 (by decide) (ht _ k_322) (fun _ h9 => h9) rfl (by decide +kernel) rfl rfl (Nat.le_of_ble_eq_true rfl) dX12_goOn_98 (fun H locs hP hD hS => ?_)
  have hP : va_P G vwCl [(mo, .inr (12, [w0, w1, w2, .int 0, w4, w5, .int 0, .int 1, .int 0, w9, w10, w11, w12, w13, w14, w15, w16, w17, w18, w19, w20, w21, w22, w23, w24, w25, w26, w27, w28, w29, w30, w31, w32, w33, w34, w35, w36, w37, w38, w39, w40, w41, w42, w43, w44, w45, w46, w47, w48, w49, w50, w51, w52, w53, w54, w55, w56, w57]))] H := hP
  have hD : va_D A [(mo, .inr (12, [w0, w1, w2, .int 0, w4, w5, .int 0, .int 1, .int 0, w9, w10, w11, w12, w13, w14, w15, w16, w17, w18, w19, w20, w21, w22, w23, w24, w25, w26, w27, w28, w29, w30, w31, w32, w33, w34, w35, w36, w37, w38, w39, w40, w41, w42, w43, w44, w45, w46, w47, w48, w49, w50, w51, w52, w53, w54, w55, w56, w57]))] := hD
  refine lv_aload_n hx hb dX12_goOn_101 rfl (lv_at hl 1 rfl) ?_
  refine lv_aload_n hx hb dX12_goOn_102 rfl (lv_at hl 1 rfl) ?_
  refine va_get (ci := 12) (v := .int 0) (C := RX12) (T := TX12) (N := 58) hx hb ht iX12 hown hK hP 0 rfl rfl 3 (by decide) (ht _ k_320) (fun _ h9 => h9) rfl dX12_goOn_103 ?_
  refine va_put (ci := 12) (v := .int 0) (ty := .int) (C := RX12) (T := TX12) (N := 58) hx hb ht iX12 tyX12 tyX12_ok nmX12 hown hK hP hD hS 0 rfl rfl 7 (by decide) (ht _ k_321) (fun _ h9 => h9) rfl (by decide +kernel) rfl rfl (Nat.le_of_ble_eq_true rfl) dX12_goOn_106 (fun H locs hP hD hS => ?_)
  have hP : va_P G vwCl [(mo, .inr (12, [w0, w1, w2, .int 0, w4, w5, .int 0, .int 0, .int 0, w9, w10, w11, w12, w13, w14, w15, w16, w17, w18, w19, w20, w21, w22, w23, w24, w25, w26, w27, w28, w29, w30, w31, w32, w33, w34, w35, w36, w37, w38, w39, w40, w41, w42, w43, w44, w45, w46, w47, w48, w49, w50, w51, w52, w53, w54, w55, w56, w57]))] H := hP
  have hD : va_D A [(mo, .inr (12, [w0, w1, w2, .int 0, w4, w5, .int 0, .int 0, .int 0, w9, w10, w11, w12, w13, w14, w15, w16, w17, w18, w19, w20, w21, w22, w23, w24, w25, w26, w27, w28, w29, w30, w31, w32, w33, w34, w35, w36, w37, w38, w39, w40, w41, w42, w43, w44, w45, w46, w47, w48, w49, w50, w51, w52, w53, w54, w55, w56, w57]))] := hD
  refine lv_goto (tgt := 377) hx hb dX12_goOn_109 (by decide) ?_
  refine W.widen (k := 0) (n := 0) (Nat.le_of_ble_eq_true rfl) (Nat.le_of_ble_eq_true rfl) ?_
  have hP9 : va_P G vwCl [(mo, .inr (12, [w0, w1, w2, .int 0, w4, w5, .int 0, .int 0, .int 0, w9, w10, w11, w12, w13, w14, w15, w16, w17, w18, w19, w20, w21, w22, w23, w24, w25, w26, w27, w28, w29, w30, w31, w32, w33, w34, w35, w36, w37, w38, w39, w40, w41, w42, w43, w44, w45, w46, w47, w48, w49, w50, w51, w52, w53, w54, w55, w56, w57]))] _ := hP.sub [0] rfl
  have hD9 : va_D A [(mo, .inr (12, [w0, w1, w2, .int 0, w4, w5, .int 0, .int 0, .int 0, w9, w10, w11, w12, w13, w14, w15, w16, w17, w18, w19, w20, w21, w22, w23, w24, w25, w26, w27, w28, w29, w30, w31, w32, w33, w34, w35, w36, w37, w38, w39, w40, w41, w42, w43, w44, w45, w46, w47, w48, w49, w50, w51, w52, w53, w54, w55, w56, w57]))] := hD.sub [0] (by decide) rfl
  exact W.vret hx hb hr (fun t ht9 hW => ⟨⟨(), rfl, trivial, ⟨by rw [ht9]; exact hP9, hD9⟩⟩, hS.F ht9⟩) hS.2.2 dX12_goOn_377
set_option maxHeartbeats 4000000 in
set_option maxRecDepth 100000 in
theorem m_bits (l : Launch) (G : va_G) (cy : Nat → ClassId) (sz : Nat)   : Met l yX12_bitsOf (.code yX12_bitsOf cX12_bitsOf 3 (some .int) :: TBg) ({ frames := 1, cells := 0, slots := 0, locals := 64 }) (va_Pc [.int 0] (En G cy [] sz)) (va_Qi (fun (r : Int32) (_ : Unit) => r = 0 ∧ True) (fun _ _ => True) (va_A [] sz)) 0 0 (va_A [] sz) := by
  refine Met.ofW (cc := cX12_bitsOf) (maxL := 3) (ret := (some .int)) (by decide) rfl ?_
  intro p e s m args below meth c s₁ B hml hv
  obtain ⟨rfl, hsz, hP, hK, hD0, hN⟩ := hv
  have hx := B.exec
  have hb := B.bytes
  have hr := B.returns
  have hts := atoms_spec (ws := .code yX12_bitsOf cX12_bitsOf 3 (some .int) :: TBg) B.pre
  have ht : ∀ w ∈ TBg, w.before _ s = true := fun w h => hts w (List.mem_cons_of_mem _ h)
  have hown : s.vm.findClass RX12 = some m.cls := findClass_of_methodNamed B.named
  have hlocks := B.notSynchronized
  subst hsz
  generalize hAe : va_A [] s.heap.size = A at ⊢
  have hA : ∀ q : Nat, s.heap.size ≤ q → A q := fun q h => by rw [← hAe]; exact Or.inr h
  have hS : va_S A s.heap s.heap [] := va_S.rf
  have hl := lv_entry ([.int 0]) (n := 3) (Nat.le_of_ble_eq_true rfl)
  rw [lg_entry_eq]
  generalize (lg_sl ([.int 0]) ++ List.replicate (3 - (lg_sl ([.int 0])).length) Slot.unset).toArray = ls at hl ⊢
  have hl : lv_has ls 3 [(0, .int 0)] := hl
  refine lv_iconst (v := 0) hx hb dX12_bitsOf_0 (by decide) ?_
  refine lv_istore_n (lv' := [(1, .int 0), (0, .int 0)]) hx hb dX12_bitsOf_1 rfl hl (by decide) rfl (fun ls hl => ?_)
  refine lv_iconst (v := 0) hx hb dX12_bitsOf_2 (by decide) ?_
  refine lv_istore_n (lv' := [(2, .int 0), (1, .int 0), (0, .int 0)]) hx hb dX12_bitsOf_3 rfl hl (by decide) rfl (fun ls hl => ?_)
  refine lv_iload_n hx hb dX12_bitsOf_4 rfl (lv_at hl 0 rfl) ?_
  refine lv_bipush (v := 31) hx hb dX12_bitsOf_5 (by decide) ?_
  refine lv_icmp_ge (tgt := 24) hx hb dX12_bitsOf_7 (by decide) (fun c9 => absurd c9 (by decide)) (fun _ => ?_)
  refine lv_iload_n hx hb dX12_bitsOf_10 rfl (lv_at hl 1 rfl) ?_
  refine lv_iload_n hx hb dX12_bitsOf_11 rfl (lv_at hl 2 rfl) ?_
  refine lv_iload_n hx hb dX12_bitsOf_12 rfl (lv_at hl 0 rfl) ?_
  refine lv_ishr hx hb dX12_bitsOf_13 ?_
  refine ow_top 0 (by decide +kernel) ?_
  refine lv_iconst (v := 1) hx hb dX12_bitsOf_14 (by decide) ?_
  refine lv_iand hx hb dX12_bitsOf_15 ?_
  refine ow_top 0 (by decide +kernel) ?_
  refine lv_iadd hx hb dX12_bitsOf_16 ?_
  refine ow_top 0 (by decide +kernel) ?_
  refine lv_istore_n (lv' := [(1, .int 0), (2, .int 0), (0, .int 0)]) hx hb dX12_bitsOf_17 rfl hl (by decide) rfl (fun ls hl => ?_)
  refine lv_iinc (v := 1) (lv' := [(2, .int 1), (1, .int 0), (0, .int 0)]) hx hb dX12_bitsOf_18 hl (k := 1) rfl (by decide) (by decide) rfl (fun ls hl => ?_)
  refine lv_goto (tgt := 4) hx hb dX12_bitsOf_21 (by decide) ?_
  refine lv_iload_n hx hb dX12_bitsOf_4 rfl (lv_at hl 0 rfl) ?_
  refine lv_bipush (v := 31) hx hb dX12_bitsOf_5 (by decide) ?_
  refine lv_icmp_ge (tgt := 24) hx hb dX12_bitsOf_7 (by decide) (fun c9 => absurd c9 (by decide)) (fun _ => ?_)
  refine lv_iload_n hx hb dX12_bitsOf_10 rfl (lv_at hl 1 rfl) ?_
  refine lv_iload_n hx hb dX12_bitsOf_11 rfl (lv_at hl 2 rfl) ?_
  refine lv_iload_n hx hb dX12_bitsOf_12 rfl (lv_at hl 0 rfl) ?_
  refine lv_ishr hx hb dX12_bitsOf_13 ?_
  refine ow_top 0 (by decide +kernel) ?_
  refine lv_iconst (v := 1) hx hb dX12_bitsOf_14 (by decide) ?_
  refine lv_iand hx hb dX12_bitsOf_15 ?_
  refine ow_top 0 (by decide +kernel) ?_
  refine lv_iadd hx hb dX12_bitsOf_16 ?_
  refine ow_top 0 (by decide +kernel) ?_
  refine lv_istore_n (lv' := [(1, .int 0), (2, .int 1), (0, .int 0)]) hx hb dX12_bitsOf_17 rfl hl (by decide) rfl (fun ls hl => ?_)
  refine lv_iinc (v := 2) (lv' := [(2, .int 2), (1, .int 0), (0, .int 0)]) hx hb dX12_bitsOf_18 hl (k := 1) rfl (by decide) (by decide) rfl (fun ls hl => ?_)
  refine lv_goto (tgt := 4) hx hb dX12_bitsOf_21 (by decide) ?_
  refine lv_iload_n hx hb dX12_bitsOf_4 rfl (lv_at hl 0 rfl) ?_
  refine lv_bipush (v := 31) hx hb dX12_bitsOf_5 (by decide) ?_
  refine lv_icmp_ge (tgt := 24) hx hb dX12_bitsOf_7 (by decide) (fun c9 => absurd c9 (by decide)) (fun _ => ?_)
  refine lv_iload_n hx hb dX12_bitsOf_10 rfl (lv_at hl 1 rfl) ?_
  refine lv_iload_n hx hb dX12_bitsOf_11 rfl (lv_at hl 2 rfl) ?_
  refine lv_iload_n hx hb dX12_bitsOf_12 rfl (lv_at hl 0 rfl) ?_
  refine lv_ishr hx hb dX12_bitsOf_13 ?_
  refine ow_top 0 (by decide +kernel) ?_
  refine lv_iconst (v := 1) hx hb dX12_bitsOf_14 (by decide) ?_
  refine lv_iand hx hb dX12_bitsOf_15 ?_
  refine ow_top 0 (by decide +kernel) ?_
  refine lv_iadd hx hb dX12_bitsOf_16 ?_
  refine ow_top 0 (by decide +kernel) ?_
  refine lv_istore_n (lv' := [(1, .int 0), (2, .int 2), (0, .int 0)]) hx hb dX12_bitsOf_17 rfl hl (by decide) rfl (fun ls hl => ?_)
  refine lv_iinc (v := 3) (lv' := [(2, .int 3), (1, .int 0), (0, .int 0)]) hx hb dX12_bitsOf_18 hl (k := 1) rfl (by decide) (by decide) rfl (fun ls hl => ?_)
  refine lv_goto (tgt := 4) hx hb dX12_bitsOf_21 (by decide) ?_
  refine lv_iload_n hx hb dX12_bitsOf_4 rfl (lv_at hl 0 rfl) ?_
  refine lv_bipush (v := 31) hx hb dX12_bitsOf_5 (by decide) ?_
  refine lv_icmp_ge (tgt := 24) hx hb dX12_bitsOf_7 (by decide) (fun c9 => absurd c9 (by decide)) (fun _ => ?_)
  refine lv_iload_n hx hb dX12_bitsOf_10 rfl (lv_at hl 1 rfl) ?_
  refine lv_iload_n hx hb dX12_bitsOf_11 rfl (lv_at hl 2 rfl) ?_
  refine lv_iload_n hx hb dX12_bitsOf_12 rfl (lv_at hl 0 rfl) ?_
  refine lv_ishr hx hb dX12_bitsOf_13 ?_
  refine ow_top 0 (by decide +kernel) ?_
  refine lv_iconst (v := 1) hx hb dX12_bitsOf_14 (by decide) ?_
  refine lv_iand hx hb dX12_bitsOf_15 ?_
  refine ow_top 0 (by decide +kernel) ?_
  refine lv_iadd hx hb dX12_bitsOf_16 ?_
  refine ow_top 0 (by decide +kernel) ?_
  refine lv_istore_n (lv' := [(1, .int 0), (2, .int 3), (0, .int 0)]) hx hb dX12_bitsOf_17 rfl hl (by decide) rfl (fun ls hl => ?_)
  refine lv_iinc (v := 4) (lv' := [(2, .int 4), (1, .int 0), (0, .int 0)]) hx hb dX12_bitsOf_18 hl (k := 1) rfl (by decide) (by decide) rfl (fun ls hl => ?_)
  refine lv_goto (tgt := 4) hx hb dX12_bitsOf_21 (by decide) ?_
  refine lv_iload_n hx hb dX12_bitsOf_4 rfl (lv_at hl 0 rfl) ?_
  refine lv_bipush (v := 31) hx hb dX12_bitsOf_5 (by decide) ?_
  refine lv_icmp_ge (tgt := 24) hx hb dX12_bitsOf_7 (by decide) (fun c9 => absurd c9 (by decide)) (fun _ => ?_)
  refine lv_iload_n hx hb dX12_bitsOf_10 rfl (lv_at hl 1 rfl) ?_
  refine lv_iload_n hx hb dX12_bitsOf_11 rfl (lv_at hl 2 rfl) ?_
  refine lv_iload_n hx hb dX12_bitsOf_12 rfl (lv_at hl 0 rfl) ?_
  refine lv_ishr hx hb dX12_bitsOf_13 ?_
  refine ow_top 0 (by decide +kernel) ?_
  refine lv_iconst (v := 1) hx hb dX12_bitsOf_14 (by decide) ?_
  refine lv_iand hx hb dX12_bitsOf_15 ?_
  refine ow_top 0 (by decide +kernel) ?_
  refine lv_iadd hx hb dX12_bitsOf_16 ?_
  refine ow_top 0 (by decide +kernel) ?_
  refine lv_istore_n (lv' := [(1, .int 0), (2, .int 4), (0, .int 0)]) hx hb dX12_bitsOf_17 rfl hl (by decide) rfl (fun ls hl => ?_)
  refine lv_iinc (v := 5) (lv' := [(2, .int 5), (1, .int 0), (0, .int 0)]) hx hb dX12_bitsOf_18 hl (k := 1) rfl (by decide) (by decide) rfl (fun ls hl => ?_)
  refine lv_goto (tgt := 4) hx hb dX12_bitsOf_21 (by decide) ?_
  refine lv_iload_n hx hb dX12_bitsOf_4 rfl (lv_at hl 0 rfl) ?_
  refine lv_bipush (v := 31) hx hb dX12_bitsOf_5 (by decide) ?_
  refine lv_icmp_ge (tgt := 24) hx hb dX12_bitsOf_7 (by decide) (fun c9 => absurd c9 (by decide)) (fun _ => ?_)
  refine lv_iload_n hx hb dX12_bitsOf_10 rfl (lv_at hl 1 rfl) ?_
  refine lv_iload_n hx hb dX12_bitsOf_11 rfl (lv_at hl 2 rfl) ?_
  refine lv_iload_n hx hb dX12_bitsOf_12 rfl (lv_at hl 0 rfl) ?_
  refine lv_ishr hx hb dX12_bitsOf_13 ?_
  refine ow_top 0 (by decide +kernel) ?_
  refine lv_iconst (v := 1) hx hb dX12_bitsOf_14 (by decide) ?_
  refine lv_iand hx hb dX12_bitsOf_15 ?_
  refine ow_top 0 (by decide +kernel) ?_
  refine lv_iadd hx hb dX12_bitsOf_16 ?_
  refine ow_top 0 (by decide +kernel) ?_
  refine lv_istore_n (lv' := [(1, .int 0), (2, .int 5), (0, .int 0)]) hx hb dX12_bitsOf_17 rfl hl (by decide) rfl (fun ls hl => ?_)
  refine lv_iinc (v := 6) (lv' := [(2, .int 6), (1, .int 0), (0, .int 0)]) hx hb dX12_bitsOf_18 hl (k := 1) rfl (by decide) (by decide) rfl (fun ls hl => ?_)
  refine lv_goto (tgt := 4) hx hb dX12_bitsOf_21 (by decide) ?_
  refine lv_iload_n hx hb dX12_bitsOf_4 rfl (lv_at hl 0 rfl) ?_
  refine lv_bipush (v := 31) hx hb dX12_bitsOf_5 (by decide) ?_
  refine lv_icmp_ge (tgt := 24) hx hb dX12_bitsOf_7 (by decide) (fun c9 => absurd c9 (by decide)) (fun _ => ?_)
  refine lv_iload_n hx hb dX12_bitsOf_10 rfl (lv_at hl 1 rfl) ?_
  refine lv_iload_n hx hb dX12_bitsOf_11 rfl (lv_at hl 2 rfl) ?_
  refine lv_iload_n hx hb dX12_bitsOf_12 rfl (lv_at hl 0 rfl) ?_
  refine lv_ishr hx hb dX12_bitsOf_13 ?_
  refine ow_top 0 (by decide +kernel) ?_
  refine lv_iconst (v := 1) hx hb dX12_bitsOf_14 (by decide) ?_
  refine lv_iand hx hb dX12_bitsOf_15 ?_
  refine ow_top 0 (by decide +kernel) ?_
  refine lv_iadd hx hb dX12_bitsOf_16 ?_
  refine ow_top 0 (by decide +kernel) ?_
  refine lv_istore_n (lv' := [(1, .int 0), (2, .int 6), (0, .int 0)]) hx hb dX12_bitsOf_17 rfl hl (by decide) rfl (fun ls hl => ?_)
  refine lv_iinc (v := 7) (lv' := [(2, .int 7), (1, .int 0), (0, .int 0)]) hx hb dX12_bitsOf_18 hl (k := 1) rfl (by decide) (by decide) rfl (fun ls hl => ?_)
  refine lv_goto (tgt := 4) hx hb dX12_bitsOf_21 (by decide) ?_
  refine lv_iload_n hx hb dX12_bitsOf_4 rfl (lv_at hl 0 rfl) ?_
  refine lv_bipush (v := 31) hx hb dX12_bitsOf_5 (by decide) ?_
  refine lv_icmp_ge (tgt := 24) hx hb dX12_bitsOf_7 (by decide) (fun c9 => absurd c9 (by decide)) (fun _ => ?_)
  refine lv_iload_n hx hb dX12_bitsOf_10 rfl (lv_at hl 1 rfl) ?_
  refine lv_iload_n hx hb dX12_bitsOf_11 rfl (lv_at hl 2 rfl) ?_
  refine lv_iload_n hx hb dX12_bitsOf_12 rfl (lv_at hl 0 rfl) ?_
  refine lv_ishr hx hb dX12_bitsOf_13 ?_
  refine ow_top 0 (by decide +kernel) ?_
  refine lv_iconst (v := 1) hx hb dX12_bitsOf_14 (by decide) ?_
  refine lv_iand hx hb dX12_bitsOf_15 ?_
  refine ow_top 0 (by decide +kernel) ?_
  refine lv_iadd hx hb dX12_bitsOf_16 ?_
  refine ow_top 0 (by decide +kernel) ?_
  refine lv_istore_n (lv' := [(1, .int 0), (2, .int 7), (0, .int 0)]) hx hb dX12_bitsOf_17 rfl hl (by decide) rfl (fun ls hl => ?_)
  refine lv_iinc (v := 8) (lv' := [(2, .int 8), (1, .int 0), (0, .int 0)]) hx hb dX12_bitsOf_18 hl (k := 1) rfl (by decide) (by decide) rfl (fun ls hl => ?_)
  refine lv_goto (tgt := 4) hx hb dX12_bitsOf_21 (by decide) ?_
  refine lv_iload_n hx hb dX12_bitsOf_4 rfl (lv_at hl 0 rfl) ?_
  refine lv_bipush (v := 31) hx hb dX12_bitsOf_5 (by decide) ?_
  refine lv_icmp_ge (tgt := 24) hx hb dX12_bitsOf_7 (by decide) (fun c9 => absurd c9 (by decide)) (fun _ => ?_)
  refine lv_iload_n hx hb dX12_bitsOf_10 rfl (lv_at hl 1 rfl) ?_
  refine lv_iload_n hx hb dX12_bitsOf_11 rfl (lv_at hl 2 rfl) ?_
  refine lv_iload_n hx hb dX12_bitsOf_12 rfl (lv_at hl 0 rfl) ?_
  refine lv_ishr hx hb dX12_bitsOf_13 ?_
  refine ow_top 0 (by decide +kernel) ?_
  refine lv_iconst (v := 1) hx hb dX12_bitsOf_14 (by decide) ?_
  refine lv_iand hx hb dX12_bitsOf_15 ?_
  refine ow_top 0 (by decide +kernel) ?_
  refine lv_iadd hx hb dX12_bitsOf_16 ?_
  refine ow_top 0 (by decide +kernel) ?_
  refine lv_istore_n (lv' := [(1, .int 0), (2, .int 8), (0, .int 0)]) hx hb dX12_bitsOf_17 rfl hl (by decide) rfl (fun ls hl => ?_)
  refine lv_iinc (v := 9) (lv' := [(2, .int 9), (1, .int 0), (0, .int 0)]) hx hb dX12_bitsOf_18 hl (k := 1) rfl (by decide) (by decide) rfl (fun ls hl => ?_)
  refine lv_goto (tgt := 4) hx hb dX12_bitsOf_21 (by decide) ?_
  refine lv_iload_n hx hb dX12_bitsOf_4 rfl (lv_at hl 0 rfl) ?_
  refine lv_bipush (v := 31) hx hb dX12_bitsOf_5 (by decide) ?_
  refine lv_icmp_ge (tgt := 24) hx hb dX12_bitsOf_7 (by decide) (fun c9 => absurd c9 (by decide)) (fun _ => ?_)
  refine lv_iload_n hx hb dX12_bitsOf_10 rfl (lv_at hl 1 rfl) ?_
  refine lv_iload_n hx hb dX12_bitsOf_11 rfl (lv_at hl 2 rfl) ?_
  refine lv_iload_n hx hb dX12_bitsOf_12 rfl (lv_at hl 0 rfl) ?_
  refine lv_ishr hx hb dX12_bitsOf_13 ?_
  refine ow_top 0 (by decide +kernel) ?_
  refine lv_iconst (v := 1) hx hb dX12_bitsOf_14 (by decide) ?_
  refine lv_iand hx hb dX12_bitsOf_15 ?_
  refine ow_top 0 (by decide +kernel) ?_
  refine lv_iadd hx hb dX12_bitsOf_16 ?_
  refine ow_top 0 (by decide +kernel) ?_
  refine lv_istore_n (lv' := [(1, .int 0), (2, .int 9), (0, .int 0)]) hx hb dX12_bitsOf_17 rfl hl (by decide) rfl (fun ls hl => ?_)
  refine lv_iinc (v := 10) (lv' := [(2, .int 10), (1, .int 0), (0, .int 0)]) hx hb dX12_bitsOf_18 hl (k := 1) rfl (by decide) (by decide) rfl (fun ls hl => ?_)
  refine lv_goto (tgt := 4) hx hb dX12_bitsOf_21 (by decide) ?_
  refine lv_iload_n hx hb dX12_bitsOf_4 rfl (lv_at hl 0 rfl) ?_
  refine lv_bipush (v := 31) hx hb dX12_bitsOf_5 (by decide) ?_
  refine lv_icmp_ge (tgt := 24) hx hb dX12_bitsOf_7 (by decide) (fun c9 => absurd c9 (by decide)) (fun _ => ?_)
  refine lv_iload_n hx hb dX12_bitsOf_10 rfl (lv_at hl 1 rfl) ?_
  refine lv_iload_n hx hb dX12_bitsOf_11 rfl (lv_at hl 2 rfl) ?_
  refine lv_iload_n hx hb dX12_bitsOf_12 rfl (lv_at hl 0 rfl) ?_
  refine lv_ishr hx hb dX12_bitsOf_13 ?_
  refine ow_top 0 (by decide +kernel) ?_
  refine lv_iconst (v := 1) hx hb dX12_bitsOf_14 (by decide) ?_
  refine lv_iand hx hb dX12_bitsOf_15 ?_
  refine ow_top 0 (by decide +kernel) ?_
  refine lv_iadd hx hb dX12_bitsOf_16 ?_
  refine ow_top 0 (by decide +kernel) ?_
  refine lv_istore_n (lv' := [(1, .int 0), (2, .int 10), (0, .int 0)]) hx hb dX12_bitsOf_17 rfl hl (by decide) rfl (fun ls hl => ?_)
  refine lv_iinc (v := 11) (lv' := [(2, .int 11), (1, .int 0), (0, .int 0)]) hx hb dX12_bitsOf_18 hl (k := 1) rfl (by decide) (by decide) rfl (fun ls hl => ?_)
  refine lv_goto (tgt := 4) hx hb dX12_bitsOf_21 (by decide) ?_
  refine lv_iload_n hx hb dX12_bitsOf_4 rfl (lv_at hl 0 rfl) ?_
  refine lv_bipush (v := 31) hx hb dX12_bitsOf_5 (by decide) ?_
  refine lv_icmp_ge (tgt := 24) hx hb dX12_bitsOf_7 (by decide) (fun c9 => absurd c9 (by decide)) (fun _ => ?_)
  refine lv_iload_n hx hb dX12_bitsOf_10 rfl (lv_at hl 1 rfl) ?_
  refine lv_iload_n hx hb dX12_bitsOf_11 rfl (lv_at hl 2 rfl) ?_
  refine lv_iload_n hx hb dX12_bitsOf_12 rfl (lv_at hl 0 rfl) ?_
  refine lv_ishr hx hb dX12_bitsOf_13 ?_
  refine ow_top 0 (by decide +kernel) ?_
  refine lv_iconst (v := 1) hx hb dX12_bitsOf_14 (by decide) ?_
  refine lv_iand hx hb dX12_bitsOf_15 ?_
  refine ow_top 0 (by decide +kernel) ?_
  refine lv_iadd hx hb dX12_bitsOf_16 ?_
  refine ow_top 0 (by decide +kernel) ?_
  refine lv_istore_n (lv' := [(1, .int 0), (2, .int 11), (0, .int 0)]) hx hb dX12_bitsOf_17 rfl hl (by decide) rfl (fun ls hl => ?_)
  refine lv_iinc (v := 12) (lv' := [(2, .int 12), (1, .int 0), (0, .int 0)]) hx hb dX12_bitsOf_18 hl (k := 1) rfl (by decide) (by decide) rfl (fun ls hl => ?_)
  refine lv_goto (tgt := 4) hx hb dX12_bitsOf_21 (by decide) ?_
  refine lv_iload_n hx hb dX12_bitsOf_4 rfl (lv_at hl 0 rfl) ?_
  refine lv_bipush (v := 31) hx hb dX12_bitsOf_5 (by decide) ?_
  refine lv_icmp_ge (tgt := 24) hx hb dX12_bitsOf_7 (by decide) (fun c9 => absurd c9 (by decide)) (fun _ => ?_)
  refine lv_iload_n hx hb dX12_bitsOf_10 rfl (lv_at hl 1 rfl) ?_
  refine lv_iload_n hx hb dX12_bitsOf_11 rfl (lv_at hl 2 rfl) ?_
  refine lv_iload_n hx hb dX12_bitsOf_12 rfl (lv_at hl 0 rfl) ?_
  refine lv_ishr hx hb dX12_bitsOf_13 ?_
  refine ow_top 0 (by decide +kernel) ?_
  refine lv_iconst (v := 1) hx hb dX12_bitsOf_14 (by decide) ?_
  refine lv_iand hx hb dX12_bitsOf_15 ?_
  refine ow_top 0 (by decide +kernel) ?_
  refine lv_iadd hx hb dX12_bitsOf_16 ?_
  refine ow_top 0 (by decide +kernel) ?_
  refine lv_istore_n (lv' := [(1, .int 0), (2, .int 12), (0, .int 0)]) hx hb dX12_bitsOf_17 rfl hl (by decide) rfl (fun ls hl => ?_)
  refine lv_iinc (v := 13) (lv' := [(2, .int 13), (1, .int 0), (0, .int 0)]) hx hb dX12_bitsOf_18 hl (k := 1) rfl (by decide) (by decide) rfl (fun ls hl => ?_)
  refine lv_goto (tgt := 4) hx hb dX12_bitsOf_21 (by decide) ?_
  refine lv_iload_n hx hb dX12_bitsOf_4 rfl (lv_at hl 0 rfl) ?_
  refine lv_bipush (v := 31) hx hb dX12_bitsOf_5 (by decide) ?_
  refine lv_icmp_ge (tgt := 24) hx hb dX12_bitsOf_7 (by decide) (fun c9 => absurd c9 (by decide)) (fun _ => ?_)
  refine lv_iload_n hx hb dX12_bitsOf_10 rfl (lv_at hl 1 rfl) ?_
  refine lv_iload_n hx hb dX12_bitsOf_11 rfl (lv_at hl 2 rfl) ?_
  refine lv_iload_n hx hb dX12_bitsOf_12 rfl (lv_at hl 0 rfl) ?_
  refine lv_ishr hx hb dX12_bitsOf_13 ?_
  refine ow_top 0 (by decide +kernel) ?_
  refine lv_iconst (v := 1) hx hb dX12_bitsOf_14 (by decide) ?_
  refine lv_iand hx hb dX12_bitsOf_15 ?_
  refine ow_top 0 (by decide +kernel) ?_
  refine lv_iadd hx hb dX12_bitsOf_16 ?_
  refine ow_top 0 (by decide +kernel) ?_
  refine lv_istore_n (lv' := [(1, .int 0), (2, .int 13), (0, .int 0)]) hx hb dX12_bitsOf_17 rfl hl (by decide) rfl (fun ls hl => ?_)
  refine lv_iinc (v := 14) (lv' := [(2, .int 14), (1, .int 0), (0, .int 0)]) hx hb dX12_bitsOf_18 hl (k := 1) rfl (by decide) (by decide) rfl (fun ls hl => ?_)
  refine lv_goto (tgt := 4) hx hb dX12_bitsOf_21 (by decide) ?_
  refine lv_iload_n hx hb dX12_bitsOf_4 rfl (lv_at hl 0 rfl) ?_
  refine lv_bipush (v := 31) hx hb dX12_bitsOf_5 (by decide) ?_
  refine lv_icmp_ge (tgt := 24) hx hb dX12_bitsOf_7 (by decide) (fun c9 => absurd c9 (by decide)) (fun _ => ?_)
  refine lv_iload_n hx hb dX12_bitsOf_10 rfl (lv_at hl 1 rfl) ?_
  refine lv_iload_n hx hb dX12_bitsOf_11 rfl (lv_at hl 2 rfl) ?_
  refine lv_iload_n hx hb dX12_bitsOf_12 rfl (lv_at hl 0 rfl) ?_
  refine lv_ishr hx hb dX12_bitsOf_13 ?_
  refine ow_top 0 (by decide +kernel) ?_
  refine lv_iconst (v := 1) hx hb dX12_bitsOf_14 (by decide) ?_
  refine lv_iand hx hb dX12_bitsOf_15 ?_
  refine ow_top 0 (by decide +kernel) ?_
  refine lv_iadd hx hb dX12_bitsOf_16 ?_
  refine ow_top 0 (by decide +kernel) ?_
  refine lv_istore_n (lv' := [(1, .int 0), (2, .int 14), (0, .int 0)]) hx hb dX12_bitsOf_17 rfl hl (by decide) rfl (fun ls hl => ?_)
  refine lv_iinc (v := 15) (lv' := [(2, .int 15), (1, .int 0), (0, .int 0)]) hx hb dX12_bitsOf_18 hl (k := 1) rfl (by decide) (by decide) rfl (fun ls hl => ?_)
  refine lv_goto (tgt := 4) hx hb dX12_bitsOf_21 (by decide) ?_
  refine lv_iload_n hx hb dX12_bitsOf_4 rfl (lv_at hl 0 rfl) ?_
  refine lv_bipush (v := 31) hx hb dX12_bitsOf_5 (by decide) ?_
  refine lv_icmp_ge (tgt := 24) hx hb dX12_bitsOf_7 (by decide) (fun c9 => absurd c9 (by decide)) (fun _ => ?_)
  refine lv_iload_n hx hb dX12_bitsOf_10 rfl (lv_at hl 1 rfl) ?_
  refine lv_iload_n hx hb dX12_bitsOf_11 rfl (lv_at hl 2 rfl) ?_
  refine lv_iload_n hx hb dX12_bitsOf_12 rfl (lv_at hl 0 rfl) ?_
  refine lv_ishr hx hb dX12_bitsOf_13 ?_
  refine ow_top 0 (by decide +kernel) ?_
  refine lv_iconst (v := 1) hx hb dX12_bitsOf_14 (by decide) ?_
  refine lv_iand hx hb dX12_bitsOf_15 ?_
  refine ow_top 0 (by decide +kernel) ?_
  refine lv_iadd hx hb dX12_bitsOf_16 ?_
  refine ow_top 0 (by decide +kernel) ?_
  refine lv_istore_n (lv' := [(1, .int 0), (2, .int 15), (0, .int 0)]) hx hb dX12_bitsOf_17 rfl hl (by decide) rfl (fun ls hl => ?_)
  refine lv_iinc (v := 16) (lv' := [(2, .int 16), (1, .int 0), (0, .int 0)]) hx hb dX12_bitsOf_18 hl (k := 1) rfl (by decide) (by decide) rfl (fun ls hl => ?_)
  refine lv_goto (tgt := 4) hx hb dX12_bitsOf_21 (by decide) ?_
  refine lv_iload_n hx hb dX12_bitsOf_4 rfl (lv_at hl 0 rfl) ?_
  refine lv_bipush (v := 31) hx hb dX12_bitsOf_5 (by decide) ?_
  refine lv_icmp_ge (tgt := 24) hx hb dX12_bitsOf_7 (by decide) (fun c9 => absurd c9 (by decide)) (fun _ => ?_)
  refine lv_iload_n hx hb dX12_bitsOf_10 rfl (lv_at hl 1 rfl) ?_
  refine lv_iload_n hx hb dX12_bitsOf_11 rfl (lv_at hl 2 rfl) ?_
  refine lv_iload_n hx hb dX12_bitsOf_12 rfl (lv_at hl 0 rfl) ?_
  refine lv_ishr hx hb dX12_bitsOf_13 ?_
  refine ow_top 0 (by decide +kernel) ?_
  refine lv_iconst (v := 1) hx hb dX12_bitsOf_14 (by decide) ?_
  refine lv_iand hx hb dX12_bitsOf_15 ?_
  refine ow_top 0 (by decide +kernel) ?_
  refine lv_iadd hx hb dX12_bitsOf_16 ?_
  refine ow_top 0 (by decide +kernel) ?_
  refine lv_istore_n (lv' := [(1, .int 0), (2, .int 16), (0, .int 0)]) hx hb dX12_bitsOf_17 rfl hl (by decide) rfl (fun ls hl => ?_)
  refine lv_iinc (v := 17) (lv' := [(2, .int 17), (1, .int 0), (0, .int 0)]) hx hb dX12_bitsOf_18 hl (k := 1) rfl (by decide) (by decide) rfl (fun ls hl => ?_)
  refine lv_goto (tgt := 4) hx hb dX12_bitsOf_21 (by decide) ?_
  refine lv_iload_n hx hb dX12_bitsOf_4 rfl (lv_at hl 0 rfl) ?_
  refine lv_bipush (v := 31) hx hb dX12_bitsOf_5 (by decide) ?_
  refine lv_icmp_ge (tgt := 24) hx hb dX12_bitsOf_7 (by decide) (fun c9 => absurd c9 (by decide)) (fun _ => ?_)
  refine lv_iload_n hx hb dX12_bitsOf_10 rfl (lv_at hl 1 rfl) ?_
  refine lv_iload_n hx hb dX12_bitsOf_11 rfl (lv_at hl 2 rfl) ?_
  refine lv_iload_n hx hb dX12_bitsOf_12 rfl (lv_at hl 0 rfl) ?_
  refine lv_ishr hx hb dX12_bitsOf_13 ?_
  refine ow_top 0 (by decide +kernel) ?_
  refine lv_iconst (v := 1) hx hb dX12_bitsOf_14 (by decide) ?_
  refine lv_iand hx hb dX12_bitsOf_15 ?_
  refine ow_top 0 (by decide +kernel) ?_
  refine lv_iadd hx hb dX12_bitsOf_16 ?_
  refine ow_top 0 (by decide +kernel) ?_
  refine lv_istore_n (lv' := [(1, .int 0), (2, .int 17), (0, .int 0)]) hx hb dX12_bitsOf_17 rfl hl (by decide) rfl (fun ls hl => ?_)
  refine lv_iinc (v := 18) (lv' := [(2, .int 18), (1, .int 0), (0, .int 0)]) hx hb dX12_bitsOf_18 hl (k := 1) rfl (by decide) (by decide) rfl (fun ls hl => ?_)
  refine lv_goto (tgt := 4) hx hb dX12_bitsOf_21 (by decide) ?_
  refine lv_iload_n hx hb dX12_bitsOf_4 rfl (lv_at hl 0 rfl) ?_
  refine lv_bipush (v := 31) hx hb dX12_bitsOf_5 (by decide) ?_
  refine lv_icmp_ge (tgt := 24) hx hb dX12_bitsOf_7 (by decide) (fun c9 => absurd c9 (by decide)) (fun _ => ?_)
  refine lv_iload_n hx hb dX12_bitsOf_10 rfl (lv_at hl 1 rfl) ?_
  refine lv_iload_n hx hb dX12_bitsOf_11 rfl (lv_at hl 2 rfl) ?_
  refine lv_iload_n hx hb dX12_bitsOf_12 rfl (lv_at hl 0 rfl) ?_
  refine lv_ishr hx hb dX12_bitsOf_13 ?_
  refine ow_top 0 (by decide +kernel) ?_
  refine lv_iconst (v := 1) hx hb dX12_bitsOf_14 (by decide) ?_
  refine lv_iand hx hb dX12_bitsOf_15 ?_
  refine ow_top 0 (by decide +kernel) ?_
  refine lv_iadd hx hb dX12_bitsOf_16 ?_
  refine ow_top 0 (by decide +kernel) ?_
  refine lv_istore_n (lv' := [(1, .int 0), (2, .int 18), (0, .int 0)]) hx hb dX12_bitsOf_17 rfl hl (by decide) rfl (fun ls hl => ?_)
  refine lv_iinc (v := 19) (lv' := [(2, .int 19), (1, .int 0), (0, .int 0)]) hx hb dX12_bitsOf_18 hl (k := 1) rfl (by decide) (by decide) rfl (fun ls hl => ?_)
  refine lv_goto (tgt := 4) hx hb dX12_bitsOf_21 (by decide) ?_
  refine lv_iload_n hx hb dX12_bitsOf_4 rfl (lv_at hl 0 rfl) ?_
  refine lv_bipush (v := 31) hx hb dX12_bitsOf_5 (by decide) ?_
  refine lv_icmp_ge (tgt := 24) hx hb dX12_bitsOf_7 (by decide) (fun c9 => absurd c9 (by decide)) (fun _ => ?_)
  refine lv_iload_n hx hb dX12_bitsOf_10 rfl (lv_at hl 1 rfl) ?_
  refine lv_iload_n hx hb dX12_bitsOf_11 rfl (lv_at hl 2 rfl) ?_
  refine lv_iload_n hx hb dX12_bitsOf_12 rfl (lv_at hl 0 rfl) ?_
  refine lv_ishr hx hb dX12_bitsOf_13 ?_
  refine ow_top 0 (by decide +kernel) ?_
  refine lv_iconst (v := 1) hx hb dX12_bitsOf_14 (by decide) ?_
  refine lv_iand hx hb dX12_bitsOf_15 ?_
  refine ow_top 0 (by decide +kernel) ?_
  refine lv_iadd hx hb dX12_bitsOf_16 ?_
  refine ow_top 0 (by decide +kernel) ?_
  refine lv_istore_n (lv' := [(1, .int 0), (2, .int 19), (0, .int 0)]) hx hb dX12_bitsOf_17 rfl hl (by decide) rfl (fun ls hl => ?_)
  refine lv_iinc (v := 20) (lv' := [(2, .int 20), (1, .int 0), (0, .int 0)]) hx hb dX12_bitsOf_18 hl (k := 1) rfl (by decide) (by decide) rfl (fun ls hl => ?_)
  refine lv_goto (tgt := 4) hx hb dX12_bitsOf_21 (by decide) ?_
  refine lv_iload_n hx hb dX12_bitsOf_4 rfl (lv_at hl 0 rfl) ?_
  refine lv_bipush (v := 31) hx hb dX12_bitsOf_5 (by decide) ?_
  refine lv_icmp_ge (tgt := 24) hx hb dX12_bitsOf_7 (by decide) (fun c9 => absurd c9 (by decide)) (fun _ => ?_)
  refine lv_iload_n hx hb dX12_bitsOf_10 rfl (lv_at hl 1 rfl) ?_
  refine lv_iload_n hx hb dX12_bitsOf_11 rfl (lv_at hl 2 rfl) ?_
  refine lv_iload_n hx hb dX12_bitsOf_12 rfl (lv_at hl 0 rfl) ?_
  refine lv_ishr hx hb dX12_bitsOf_13 ?_
  refine ow_top 0 (by decide +kernel) ?_
  refine lv_iconst (v := 1) hx hb dX12_bitsOf_14 (by decide) ?_
  refine lv_iand hx hb dX12_bitsOf_15 ?_
  refine ow_top 0 (by decide +kernel) ?_
  refine lv_iadd hx hb dX12_bitsOf_16 ?_
  refine ow_top 0 (by decide +kernel) ?_
  refine lv_istore_n (lv' := [(1, .int 0), (2, .int 20), (0, .int 0)]) hx hb dX12_bitsOf_17 rfl hl (by decide) rfl (fun ls hl => ?_)
  refine lv_iinc (v := 21) (lv' := [(2, .int 21), (1, .int 0), (0, .int 0)]) hx hb dX12_bitsOf_18 hl (k := 1) rfl (by decide) (by decide) rfl (fun ls hl => ?_)
  refine lv_goto (tgt := 4) hx hb dX12_bitsOf_21 (by decide) ?_
  refine lv_iload_n hx hb dX12_bitsOf_4 rfl (lv_at hl 0 rfl) ?_
  refine lv_bipush (v := 31) hx hb dX12_bitsOf_5 (by decide) ?_
  refine lv_icmp_ge (tgt := 24) hx hb dX12_bitsOf_7 (by decide) (fun c9 => absurd c9 (by decide)) (fun _ => ?_)
  refine lv_iload_n hx hb dX12_bitsOf_10 rfl (lv_at hl 1 rfl) ?_
  refine lv_iload_n hx hb dX12_bitsOf_11 rfl (lv_at hl 2 rfl) ?_
  refine lv_iload_n hx hb dX12_bitsOf_12 rfl (lv_at hl 0 rfl) ?_
  refine lv_ishr hx hb dX12_bitsOf_13 ?_
  refine ow_top 0 (by decide +kernel) ?_
  refine lv_iconst (v := 1) hx hb dX12_bitsOf_14 (by decide) ?_
  refine lv_iand hx hb dX12_bitsOf_15 ?_
  refine ow_top 0 (by decide +kernel) ?_
  refine lv_iadd hx hb dX12_bitsOf_16 ?_
  refine ow_top 0 (by decide +kernel) ?_
  refine lv_istore_n (lv' := [(1, .int 0), (2, .int 21), (0, .int 0)]) hx hb dX12_bitsOf_17 rfl hl (by decide) rfl (fun ls hl => ?_)
  refine lv_iinc (v := 22) (lv' := [(2, .int 22), (1, .int 0), (0, .int 0)]) hx hb dX12_bitsOf_18 hl (k := 1) rfl (by decide) (by decide) rfl (fun ls hl => ?_)
  refine lv_goto (tgt := 4) hx hb dX12_bitsOf_21 (by decide) ?_
  refine lv_iload_n hx hb dX12_bitsOf_4 rfl (lv_at hl 0 rfl) ?_
  refine lv_bipush (v := 31) hx hb dX12_bitsOf_5 (by decide) ?_
  refine lv_icmp_ge (tgt := 24) hx hb dX12_bitsOf_7 (by decide) (fun c9 => absurd c9 (by decide)) (fun _ => ?_)
  refine lv_iload_n hx hb dX12_bitsOf_10 rfl (lv_at hl 1 rfl) ?_
  refine lv_iload_n hx hb dX12_bitsOf_11 rfl (lv_at hl 2 rfl) ?_
  refine lv_iload_n hx hb dX12_bitsOf_12 rfl (lv_at hl 0 rfl) ?_
  refine lv_ishr hx hb dX12_bitsOf_13 ?_
  refine ow_top 0 (by decide +kernel) ?_
  refine lv_iconst (v := 1) hx hb dX12_bitsOf_14 (by decide) ?_
  refine lv_iand hx hb dX12_bitsOf_15 ?_
  refine ow_top 0 (by decide +kernel) ?_
  refine lv_iadd hx hb dX12_bitsOf_16 ?_
  refine ow_top 0 (by decide +kernel) ?_
  refine lv_istore_n (lv' := [(1, .int 0), (2, .int 22), (0, .int 0)]) hx hb dX12_bitsOf_17 rfl hl (by decide) rfl (fun ls hl => ?_)
  refine lv_iinc (v := 23) (lv' := [(2, .int 23), (1, .int 0), (0, .int 0)]) hx hb dX12_bitsOf_18 hl (k := 1) rfl (by decide) (by decide) rfl (fun ls hl => ?_)
  refine lv_goto (tgt := 4) hx hb dX12_bitsOf_21 (by decide) ?_
  refine lv_iload_n hx hb dX12_bitsOf_4 rfl (lv_at hl 0 rfl) ?_
  refine lv_bipush (v := 31) hx hb dX12_bitsOf_5 (by decide) ?_
  refine lv_icmp_ge (tgt := 24) hx hb dX12_bitsOf_7 (by decide) (fun c9 => absurd c9 (by decide)) (fun _ => ?_)
  refine lv_iload_n hx hb dX12_bitsOf_10 rfl (lv_at hl 1 rfl) ?_
  refine lv_iload_n hx hb dX12_bitsOf_11 rfl (lv_at hl 2 rfl) ?_
  refine lv_iload_n hx hb dX12_bitsOf_12 rfl (lv_at hl 0 rfl) ?_
  refine lv_ishr hx hb dX12_bitsOf_13 ?_
  refine ow_top 0 (by decide +kernel) ?_
  refine lv_iconst (v := 1) hx hb dX12_bitsOf_14 (by decide) ?_
  refine lv_iand hx hb dX12_bitsOf_15 ?_
  refine ow_top 0 (by decide +kernel) ?_
  refine lv_iadd hx hb dX12_bitsOf_16 ?_
  refine ow_top 0 (by decide +kernel) ?_
  refine lv_istore_n (lv' := [(1, .int 0), (2, .int 23), (0, .int 0)]) hx hb dX12_bitsOf_17 rfl hl (by decide) rfl (fun ls hl => ?_)
  refine lv_iinc (v := 24) (lv' := [(2, .int 24), (1, .int 0), (0, .int 0)]) hx hb dX12_bitsOf_18 hl (k := 1) rfl (by decide) (by decide) rfl (fun ls hl => ?_)
  refine lv_goto (tgt := 4) hx hb dX12_bitsOf_21 (by decide) ?_
  refine lv_iload_n hx hb dX12_bitsOf_4 rfl (lv_at hl 0 rfl) ?_
  refine lv_bipush (v := 31) hx hb dX12_bitsOf_5 (by decide) ?_
  refine lv_icmp_ge (tgt := 24) hx hb dX12_bitsOf_7 (by decide) (fun c9 => absurd c9 (by decide)) (fun _ => ?_)
  refine lv_iload_n hx hb dX12_bitsOf_10 rfl (lv_at hl 1 rfl) ?_
  refine lv_iload_n hx hb dX12_bitsOf_11 rfl (lv_at hl 2 rfl) ?_
  refine lv_iload_n hx hb dX12_bitsOf_12 rfl (lv_at hl 0 rfl) ?_
  refine lv_ishr hx hb dX12_bitsOf_13 ?_
  refine ow_top 0 (by decide +kernel) ?_
  refine lv_iconst (v := 1) hx hb dX12_bitsOf_14 (by decide) ?_
  refine lv_iand hx hb dX12_bitsOf_15 ?_
  refine ow_top 0 (by decide +kernel) ?_
  refine lv_iadd hx hb dX12_bitsOf_16 ?_
  refine ow_top 0 (by decide +kernel) ?_
  refine lv_istore_n (lv' := [(1, .int 0), (2, .int 24), (0, .int 0)]) hx hb dX12_bitsOf_17 rfl hl (by decide) rfl (fun ls hl => ?_)
  refine lv_iinc (v := 25) (lv' := [(2, .int 25), (1, .int 0), (0, .int 0)]) hx hb dX12_bitsOf_18 hl (k := 1) rfl (by decide) (by decide) rfl (fun ls hl => ?_)
  refine lv_goto (tgt := 4) hx hb dX12_bitsOf_21 (by decide) ?_
  refine lv_iload_n hx hb dX12_bitsOf_4 rfl (lv_at hl 0 rfl) ?_
  refine lv_bipush (v := 31) hx hb dX12_bitsOf_5 (by decide) ?_
  refine lv_icmp_ge (tgt := 24) hx hb dX12_bitsOf_7 (by decide) (fun c9 => absurd c9 (by decide)) (fun _ => ?_)
  refine lv_iload_n hx hb dX12_bitsOf_10 rfl (lv_at hl 1 rfl) ?_
  refine lv_iload_n hx hb dX12_bitsOf_11 rfl (lv_at hl 2 rfl) ?_
  refine lv_iload_n hx hb dX12_bitsOf_12 rfl (lv_at hl 0 rfl) ?_
  refine lv_ishr hx hb dX12_bitsOf_13 ?_
  refine ow_top 0 (by decide +kernel) ?_
  refine lv_iconst (v := 1) hx hb dX12_bitsOf_14 (by decide) ?_
  refine lv_iand hx hb dX12_bitsOf_15 ?_
  refine ow_top 0 (by decide +kernel) ?_
  refine lv_iadd hx hb dX12_bitsOf_16 ?_
  refine ow_top 0 (by decide +kernel) ?_
  refine lv_istore_n (lv' := [(1, .int 0), (2, .int 25), (0, .int 0)]) hx hb dX12_bitsOf_17 rfl hl (by decide) rfl (fun ls hl => ?_)
  refine lv_iinc (v := 26) (lv' := [(2, .int 26), (1, .int 0), (0, .int 0)]) hx hb dX12_bitsOf_18 hl (k := 1) rfl (by decide) (by decide) rfl (fun ls hl => ?_)
  refine lv_goto (tgt := 4) hx hb dX12_bitsOf_21 (by decide) ?_
  refine lv_iload_n hx hb dX12_bitsOf_4 rfl (lv_at hl 0 rfl) ?_
  refine lv_bipush (v := 31) hx hb dX12_bitsOf_5 (by decide) ?_
  refine lv_icmp_ge (tgt := 24) hx hb dX12_bitsOf_7 (by decide) (fun c9 => absurd c9 (by decide)) (fun _ => ?_)
  refine lv_iload_n hx hb dX12_bitsOf_10 rfl (lv_at hl 1 rfl) ?_
  refine lv_iload_n hx hb dX12_bitsOf_11 rfl (lv_at hl 2 rfl) ?_
  refine lv_iload_n hx hb dX12_bitsOf_12 rfl (lv_at hl 0 rfl) ?_
  refine lv_ishr hx hb dX12_bitsOf_13 ?_
  refine ow_top 0 (by decide +kernel) ?_
  refine lv_iconst (v := 1) hx hb dX12_bitsOf_14 (by decide) ?_
  refine lv_iand hx hb dX12_bitsOf_15 ?_
  refine ow_top 0 (by decide +kernel) ?_
  refine lv_iadd hx hb dX12_bitsOf_16 ?_
  refine ow_top 0 (by decide +kernel) ?_
  refine lv_istore_n (lv' := [(1, .int 0), (2, .int 26), (0, .int 0)]) hx hb dX12_bitsOf_17 rfl hl (by decide) rfl (fun ls hl => ?_)
  refine lv_iinc (v := 27) (lv' := [(2, .int 27), (1, .int 0), (0, .int 0)]) hx hb dX12_bitsOf_18 hl (k := 1) rfl (by decide) (by decide) rfl (fun ls hl => ?_)
  refine lv_goto (tgt := 4) hx hb dX12_bitsOf_21 (by decide) ?_
  refine lv_iload_n hx hb dX12_bitsOf_4 rfl (lv_at hl 0 rfl) ?_
  refine lv_bipush (v := 31) hx hb dX12_bitsOf_5 (by decide) ?_
  refine lv_icmp_ge (tgt := 24) hx hb dX12_bitsOf_7 (by decide) (fun c9 => absurd c9 (by decide)) (fun _ => ?_)
  refine lv_iload_n hx hb dX12_bitsOf_10 rfl (lv_at hl 1 rfl) ?_
  refine lv_iload_n hx hb dX12_bitsOf_11 rfl (lv_at hl 2 rfl) ?_
  refine lv_iload_n hx hb dX12_bitsOf_12 rfl (lv_at hl 0 rfl) ?_
  refine lv_ishr hx hb dX12_bitsOf_13 ?_
  refine ow_top 0 (by decide +kernel) ?_
  refine lv_iconst (v := 1) hx hb dX12_bitsOf_14 (by decide) ?_
  refine lv_iand hx hb dX12_bitsOf_15 ?_
  refine ow_top 0 (by decide +kernel) ?_
  refine lv_iadd hx hb dX12_bitsOf_16 ?_
  refine ow_top 0 (by decide +kernel) ?_
  refine lv_istore_n (lv' := [(1, .int 0), (2, .int 27), (0, .int 0)]) hx hb dX12_bitsOf_17 rfl hl (by decide) rfl (fun ls hl => ?_)
  refine lv_iinc (v := 28) (lv' := [(2, .int 28), (1, .int 0), (0, .int 0)]) hx hb dX12_bitsOf_18 hl (k := 1) rfl (by decide) (by decide) rfl (fun ls hl => ?_)
  refine lv_goto (tgt := 4) hx hb dX12_bitsOf_21 (by decide) ?_
  refine lv_iload_n hx hb dX12_bitsOf_4 rfl (lv_at hl 0 rfl) ?_
  refine lv_bipush (v := 31) hx hb dX12_bitsOf_5 (by decide) ?_
  refine lv_icmp_ge (tgt := 24) hx hb dX12_bitsOf_7 (by decide) (fun c9 => absurd c9 (by decide)) (fun _ => ?_)
  refine lv_iload_n hx hb dX12_bitsOf_10 rfl (lv_at hl 1 rfl) ?_
  refine lv_iload_n hx hb dX12_bitsOf_11 rfl (lv_at hl 2 rfl) ?_
  refine lv_iload_n hx hb dX12_bitsOf_12 rfl (lv_at hl 0 rfl) ?_
  refine lv_ishr hx hb dX12_bitsOf_13 ?_
  refine ow_top 0 (by decide +kernel) ?_
  refine lv_iconst (v := 1) hx hb dX12_bitsOf_14 (by decide) ?_
  refine lv_iand hx hb dX12_bitsOf_15 ?_
  refine ow_top 0 (by decide +kernel) ?_
  refine lv_iadd hx hb dX12_bitsOf_16 ?_
  refine ow_top 0 (by decide +kernel) ?_
  refine lv_istore_n (lv' := [(1, .int 0), (2, .int 28), (0, .int 0)]) hx hb dX12_bitsOf_17 rfl hl (by decide) rfl (fun ls hl => ?_)
  refine lv_iinc (v := 29) (lv' := [(2, .int 29), (1, .int 0), (0, .int 0)]) hx hb dX12_bitsOf_18 hl (k := 1) rfl (by decide) (by decide) rfl (fun ls hl => ?_)
  refine lv_goto (tgt := 4) hx hb dX12_bitsOf_21 (by decide) ?_
  refine lv_iload_n hx hb dX12_bitsOf_4 rfl (lv_at hl 0 rfl) ?_
  refine lv_bipush (v := 31) hx hb dX12_bitsOf_5 (by decide) ?_
  refine lv_icmp_ge (tgt := 24) hx hb dX12_bitsOf_7 (by decide) (fun c9 => absurd c9 (by decide)) (fun _ => ?_)
  refine lv_iload_n hx hb dX12_bitsOf_10 rfl (lv_at hl 1 rfl) ?_
  refine lv_iload_n hx hb dX12_bitsOf_11 rfl (lv_at hl 2 rfl) ?_
  refine lv_iload_n hx hb dX12_bitsOf_12 rfl (lv_at hl 0 rfl) ?_
  refine lv_ishr hx hb dX12_bitsOf_13 ?_
  refine ow_top 0 (by decide +kernel) ?_
  refine lv_iconst (v := 1) hx hb dX12_bitsOf_14 (by decide) ?_
  refine lv_iand hx hb dX12_bitsOf_15 ?_
  refine ow_top 0 (by decide +kernel) ?_
  refine lv_iadd hx hb dX12_bitsOf_16 ?_
  refine ow_top 0 (by decide +kernel) ?_
  refine lv_istore_n (lv' := [(1, .int 0), (2, .int 29), (0, .int 0)]) hx hb dX12_bitsOf_17 rfl hl (by decide) rfl (fun ls hl => ?_)
  refine lv_iinc (v := 30) (lv' := [(2, .int 30), (1, .int 0), (0, .int 0)]) hx hb dX12_bitsOf_18 hl (k := 1) rfl (by decide) (by decide) rfl (fun ls hl => ?_)
  refine lv_goto (tgt := 4) hx hb dX12_bitsOf_21 (by decide) ?_
  refine lv_iload_n hx hb dX12_bitsOf_4 rfl (lv_at hl 0 rfl) ?_
  refine lv_bipush (v := 31) hx hb dX12_bitsOf_5 (by decide) ?_
  refine lv_icmp_ge (tgt := 24) hx hb dX12_bitsOf_7 (by decide) (fun c9 => absurd c9 (by decide)) (fun _ => ?_)
  refine lv_iload_n hx hb dX12_bitsOf_10 rfl (lv_at hl 1 rfl) ?_
  refine lv_iload_n hx hb dX12_bitsOf_11 rfl (lv_at hl 2 rfl) ?_
  refine lv_iload_n hx hb dX12_bitsOf_12 rfl (lv_at hl 0 rfl) ?_
  refine lv_ishr hx hb dX12_bitsOf_13 ?_
  refine ow_top 0 (by decide +kernel) ?_
  refine lv_iconst (v := 1) hx hb dX12_bitsOf_14 (by decide) ?_
  refine lv_iand hx hb dX12_bitsOf_15 ?_
  refine ow_top 0 (by decide +kernel) ?_
  refine lv_iadd hx hb dX12_bitsOf_16 ?_
  refine ow_top 0 (by decide +kernel) ?_
  refine lv_istore_n (lv' := [(1, .int 0), (2, .int 30), (0, .int 0)]) hx hb dX12_bitsOf_17 rfl hl (by decide) rfl (fun ls hl => ?_)
  refine lv_iinc (v := 31) (lv' := [(2, .int 31), (1, .int 0), (0, .int 0)]) hx hb dX12_bitsOf_18 hl (k := 1) rfl (by decide) (by decide) rfl (fun ls hl => ?_)
  refine lv_goto (tgt := 4) hx hb dX12_bitsOf_21 (by decide) ?_
  refine lv_iload_n hx hb dX12_bitsOf_4 rfl (lv_at hl 0 rfl) ?_
  refine lv_bipush (v := 31) hx hb dX12_bitsOf_5 (by decide) ?_
  refine lv_icmp_ge (tgt := 24) hx hb dX12_bitsOf_7 (by decide) (fun _ => ?_) (fun c9 => absurd (by decide) c9)
  refine lv_iload_n hx hb dX12_bitsOf_24 rfl (lv_at hl 1 rfl) ?_
  refine W.widen (k := 0) (n := 0) (Nat.le_of_ble_eq_true rfl) (Nat.le_of_ble_eq_true rfl) ?_
  exact W.iret (v := 0) hx hb hr (fun t ht9 hW => ⟨⟨0, (), rfl, ⟨rfl, trivial⟩, trivial⟩, hS.F ht9⟩) hS.2.2 dX12_bitsOf_25
set_option maxHeartbeats 4000000 in
set_option maxRecDepth 100000 in
theorem m_keep (l : Launch) (G : va_G) (cy : Nat → ClassId) (sz : Nat) (mo : Nat) (q : Nat) (w0 : Value) (w1 : Value) (w2 : Value) (w3 : Value) (w4 : Value) (w5 : Value) (w6 : Value) (w7 : Value) (w8 : Value) (w9 : Value) (w10 : Value) (w12 : Value) (w13 : Value) (w14 : Value) (w15 : Value) (w16 : Value) (w17 : Value) (w18 : Value) (w19 : Value) (w20 : Value) (w21 : Value) (w22 : Value) (w23 : Value) (w24 : Value) (w25 : Value) (w26 : Value) (w27 : Value) (w28 : Value) (w30 : Value) (w31 : Value) (w32 : Value) (w33 : Value) (w34 : Value) (w35 : Value) (w36 : Value) (w37 : Value) (w38 : Value) (w39 : Value) (w40 : Value) (w41 : Value) (w42 : Value) (w43 : Value) (w44 : Value) (w45 : Value) (w46 : Value) (w47 : Value) (w48 : Value) (w49 : Value) (w50 : Value) (w51 : Value) (w52 : Value) (w53 : Value) (w54 : Value) (w55 : Value) (w56 : Value) (w57 : Value)  : Met l yX12_keepTunes (.code yX12_keepTunes cX12_keepTunes 5 none :: TBg) ({ frames := 1, cells := 0, slots := 0, locals := 64 }) (va_Pc [.ref mo, .int 0] (En G cy [(mo, .inr (12, [w0, w1, w2, w3, w4, w5, w6, w7, w8, w9, w10, .ref q, w12, w13, w14, w15, w16, w17, w18, w19, w20, w21, w22, w23, w24, w25, w26, w27, w28, .int 0, w30, w31, w32, w33, w34, w35, w36, w37, w38, w39, w40, w41, w42, w43, w44, w45, w46, w47, w48, w49, w50, w51, w52, w53, w54, w55, w56, w57])), (q, .inl (cy 0, 2, .inl (fun _ => 0)))] sz)) (va_Qv (fun u : Unit => True) (fun u t => Ex G (va_A [(mo, .inr (12, [w0, w1, w2, w3, w4, w5, w6, w7, w8, w9, w10, .ref q, w12, w13, w14, w15, w16, w17, w18, w19, w20, w21, w22, w23, w24, w25, w26, w27, w28, .int 0, w30, w31, w32, w33, w34, w35, w36, w37, w38, w39, w40, w41, w42, w43, w44, w45, w46, w47, w48, w49, w50, w51, w52, w53, w54, w55, w56, w57])), (q, .inl (cy 0, 2, .inl (fun _ => 0)))] sz) [(mo, .inr (12, [w0, w1, w2, w3, w4, w5, w6, w7, w8, w9, w10, .ref q, w12, w13, w14, w15, w16, w17, w18, w19, w20, w21, w22, w23, w24, w25, w26, w27, w28, .int 0, w30, w31, w32, w33, w34, w35, w36, w37, w38, w39, w40, w41, w42, .int 0, w44, w45, w46, w47, w48, w49, w50, w51, w52, w53, w54, w55, w56, w57])), (q, .inl (cy 0, 2, .inl (fun _ => 0)))] t) (va_A [(mo, .inr (12, [w0, w1, w2, w3, w4, w5, w6, w7, w8, w9, w10, .ref q, w12, w13, w14, w15, w16, w17, w18, w19, w20, w21, w22, w23, w24, w25, w26, w27, w28, .int 0, w30, w31, w32, w33, w34, w35, w36, w37, w38, w39, w40, w41, w42, w43, w44, w45, w46, w47, w48, w49, w50, w51, w52, w53, w54, w55, w56, w57])), (q, .inl (cy 0, 2, .inl (fun _ => 0)))] sz)) 0 0 (va_A [(mo, .inr (12, [w0, w1, w2, w3, w4, w5, w6, w7, w8, w9, w10, .ref q, w12, w13, w14, w15, w16, w17, w18, w19, w20, w21, w22, w23, w24, w25, w26, w27, w28, .int 0, w30, w31, w32, w33, w34, w35, w36, w37, w38, w39, w40, w41, w42, w43, w44, w45, w46, w47, w48, w49, w50, w51, w52, w53, w54, w55, w56, w57])), (q, .inl (cy 0, 2, .inl (fun _ => 0)))] sz) := by
  refine Met.ofW (cc := cX12_keepTunes) (maxL := 5) (ret := none) (by decide) rfl ?_
  intro p e s m args below meth c s₁ B hml hv
  obtain ⟨rfl, hsz, hP, hK, hD0, hN⟩ := hv
  have hx := B.exec
  have hb := B.bytes
  have hr := B.returns
  have hts := atoms_spec (ws := .code yX12_keepTunes cX12_keepTunes 5 none :: TBg) B.pre
  have ht : ∀ w ∈ TBg, w.before _ s = true := fun w h => hts w (List.mem_cons_of_mem _ h)
  have hown : s.vm.findClass RX12 = some m.cls := findClass_of_methodNamed B.named
  have hlocks := B.notSynchronized
  subst hsz
  have hD := hD0.self (sz := s.heap.size)
  generalize hAe : va_A [(mo, .inr (12, [w0, w1, w2, w3, w4, w5, w6, w7, w8, w9, w10, .ref q, w12, w13, w14, w15, w16, w17, w18, w19, w20, w21, w22, w23, w24, w25, w26, w27, w28, .int 0, w30, w31, w32, w33, w34, w35, w36, w37, w38, w39, w40, w41, w42, w43, w44, w45, w46, w47, w48, w49, w50, w51, w52, w53, w54, w55, w56, w57])), (q, .inl (cy 0, 2, .inl (fun _ => 0)))] s.heap.size = A at hD ⊢
  have hA : ∀ q : Nat, s.heap.size ≤ q → A q := fun q h => by rw [← hAe]; exact Or.inr h
  have hS : va_S A s.heap s.heap [] := va_S.rf
  have hl := lv_entry ([.ref mo, .int 0]) (n := 5) (Nat.le_of_ble_eq_true rfl)
  rw [lg_entry_eq]
  generalize (lg_sl ([.ref mo, .int 0]) ++ List.replicate (5 - (lg_sl ([.ref mo, .int 0])).length) Slot.unset).toArray = ls at hl ⊢
  have hl : lv_has ls 5 [(0, .ref mo), (1, .int 0)] := hl
  refine lv_aload_n hx hb dX12_keepTunes_0 rfl (lv_at hl 0 rfl) ?_
  refine lv_iconst (v := 0) hx hb dX12_keepTunes_1 (by decide) ?_
  refine va_put (ci := 12) (v := .int 0) (ty := .int) (C := RX12) (T := TX12) (N := 58) hx hb ht iX12 tyX12 tyX12_ok nmX12 hown hK hP hD hS 0 rfl rfl 43 (by decide) (ht _ k_328) (fun _ h9 => h9) rfl (by decide +kernel) rfl rfl (Nat.le_of_ble_eq_true rfl) dX12_keepTunes_2 (fun H locs hP hD hS => ?_)
  have hP : va_P G vwCl [(mo, .inr (12, [w0, w1, w2, w3, w4, w5, w6, w7, w8, w9, w10, .ref q, w12, w13, w14, w15, w16, w17, w18, w19, w20, w21, w22, w23, w24, w25, w26, w27, w28, .int 0, w30, w31, w32, w33, w34, w35, w36, w37, w38, w39, w40, w41, w42, .int 0, w44, w45, w46, w47, w48, w49, w50, w51, w52, w53, w54, w55, w56, w57])), (q, .inl (cy 0, 2, .inl (fun _ => 0)))] H := hP
  have hD : va_D A [(mo, .inr (12, [w0, w1, w2, w3, w4, w5, w6, w7, w8, w9, w10, .ref q, w12, w13, w14, w15, w16, w17, w18, w19, w20, w21, w22, w23, w24, w25, w26, w27, w28, .int 0, w30, w31, w32, w33, w34, w35, w36, w37, w38, w39, w40, w41, w42, .int 0, w44, w45, w46, w47, w48, w49, w50, w51, w52, w53, w54, w55, w56, w57])), (q, .inl (cy 0, 2, .inl (fun _ => 0)))] := hD
  refine lv_iconst (v := 0) hx hb dX12_keepTunes_5 (by decide) ?_
  refine lv_istore_n (lv' := [(2, .int 0), (0, .ref mo), (1, .int 0)]) hx hb dX12_keepTunes_6 rfl hl (by decide) rfl (fun ls hl => ?_)
  refine lv_iload_n hx hb dX12_keepTunes_7 rfl (lv_at hl 0 rfl) ?_
  refine lv_aload_n hx hb dX12_keepTunes_8 rfl (lv_at hl 1 rfl) ?_
  refine va_get (ci := 12) (v := .ref q) (C := RX12) (T := TX12) (N := 58) hx hb ht iX12 hown hK hP 0 rfl rfl 11 (by decide) (ht _ k_268) (fun _ h9 => h9) rfl dX12_keepTunes_9 ?_
  refine lv_aload_n hx hb dX12_keepTunes_12 rfl (lv_at hl 1 rfl) ?_
  refine va_get (ci := 12) (v := .int 0) (C := RX12) (T := TX12) (N := 58) hx hb ht iX12 hown hK hP 0 rfl rfl 29 (by decide) (ht _ k_315) (fun _ h9 => h9) rfl dX12_keepTunes_13 ?_
  refine va_iald hx hb hK hP 1 0 rfl rfl (in_lit (by decide +kernel)) dX12_keepTunes_16 ?_
  refine ow_top 0 rfl ?_
  refine lv_icmp_ge (tgt := 135) hx hb dX12_keepTunes_17 (by decide) (fun _ => ?_) (fun c9 => absurd (by decide) c9)
  refine lv_iconst (v := 0) hx hb dX12_keepTunes_135 (by decide) ?_
  refine lv_istore_n (lv' := [(2, .int 0), (0, .ref mo), (1, .int 0)]) hx hb dX12_keepTunes_136 rfl hl (by decide) rfl (fun ls hl => ?_)
  refine lv_iload_n hx hb dX12_keepTunes_137 rfl (lv_at hl 0 rfl) ?_
  refine lv_aload_n hx hb dX12_keepTunes_138 rfl (lv_at hl 1 rfl) ?_
  refine va_get (ci := 12) (v := .int 0) (C := RX12) (T := TX12) (N := 58) hx hb ht iX12 hown hK hP 0 rfl rfl 43 (by decide) (ht _ k_328) (fun _ h9 => h9) rfl dX12_keepTunes_139 ?_
  refine lv_icmp_ge (tgt := 203) hx hb dX12_keepTunes_142 (by decide) (fun _ => ?_) (fun c9 => absurd (by decide) c9)
  refine W.widen (k := 0) (n := 0) (Nat.le_of_ble_eq_true rfl) (Nat.le_of_ble_eq_true rfl) ?_
  have hP9 : va_P G vwCl [(mo, .inr (12, [w0, w1, w2, w3, w4, w5, w6, w7, w8, w9, w10, .ref q, w12, w13, w14, w15, w16, w17, w18, w19, w20, w21, w22, w23, w24, w25, w26, w27, w28, .int 0, w30, w31, w32, w33, w34, w35, w36, w37, w38, w39, w40, w41, w42, .int 0, w44, w45, w46, w47, w48, w49, w50, w51, w52, w53, w54, w55, w56, w57])), (q, .inl (cy 0, 2, .inl (fun _ => 0)))] _ := hP.sub [0, 1] rfl
  have hD9 : va_D A [(mo, .inr (12, [w0, w1, w2, w3, w4, w5, w6, w7, w8, w9, w10, .ref q, w12, w13, w14, w15, w16, w17, w18, w19, w20, w21, w22, w23, w24, w25, w26, w27, w28, .int 0, w30, w31, w32, w33, w34, w35, w36, w37, w38, w39, w40, w41, w42, .int 0, w44, w45, w46, w47, w48, w49, w50, w51, w52, w53, w54, w55, w56, w57])), (q, .inl (cy 0, 2, .inl (fun _ => 0)))] := hD.sub [0, 1] (by decide) rfl
  exact W.vret hx hb hr (fun t ht9 hW => ⟨⟨(), rfl, trivial, ⟨by rw [ht9]; exact hP9, hD9⟩⟩, hS.F ht9⟩) hS.2.2 dX12_keepTunes_203
set_option maxHeartbeats 4000000 in
set_option maxRecDepth 100000 in
theorem m_nextRow (l : Launch) (G : va_G) (cy : Nat → ClassId) (sz : Nat) (mo : Nat) (w0 : Value) (w1 : Value) (w2 : Value) (w3 : Value) (w4 : Value) (w5 : Value) (w6 : Value) (w7 : Value) (w8 : Value) (w9 : Value) (w10 : Value) (w11 : Value) (w12 : Value) (w13 : Value) (w14 : Value) (w15 : Value) (w16 : Value) (w17 : Value) (w18 : Value) (w19 : Value) (w20 : Value) (w21 : Value) (w22 : Value) (w23 : Value) (w24 : Value) (w25 : Value) (w26 : Value) (w27 : Value) (w28 : Value) (w29 : Value) (w30 : Value) (w31 : Value) (w32 : Value) (w33 : Value) (w34 : Value) (w35 : Value) (w36 : Value) (w37 : Value) (w38 : Value) (w39 : Value) (w40 : Value) (w41 : Value) (w42 : Value) (w44 : Value) (w45 : Value) (w46 : Value) (w47 : Value) (w48 : Value) (w49 : Value) (w50 : Value) (w51 : Value) (w52 : Value) (w53 : Value) (w54 : Value) (w55 : Value) (w56 : Value) (w57 : Value)  : Met l yX12_nextRow (.code yX12_nextRow cX12_nextRow 6 (some .boolean) :: TBg) ({ frames := 1, cells := 0, slots := 0, locals := 64 }) (va_Pc [.ref mo] (En G cy [(mo, .inr (12, [w0, w1, w2, w3, w4, w5, w6, w7, w8, w9, w10, w11, w12, w13, w14, w15, w16, w17, w18, w19, w20, w21, w22, w23, w24, w25, w26, w27, w28, w29, w30, w31, w32, w33, w34, w35, w36, w37, w38, w39, w40, w41, w42, .int 0, w44, w45, w46, w47, w48, w49, w50, w51, w52, w53, w54, w55, w56, w57]))] sz)) (va_Qi (fun (r : Int32) (_ : Unit) => r = 0 ∧ True) (fun _ _ => True) (va_A [] sz)) 0 0 (va_A [] sz) := by
  refine Met.ofW (cc := cX12_nextRow) (maxL := 6) (ret := (some .boolean)) (by decide) rfl ?_
  intro p e s m args below meth c s₁ B hml hv
  obtain ⟨rfl, hsz, hP, hK, hD0, hN⟩ := hv
  have hx := B.exec
  have hb := B.bytes
  have hr := B.returns
  have hts := atoms_spec (ws := .code yX12_nextRow cX12_nextRow 6 (some .boolean) :: TBg) B.pre
  have ht : ∀ w ∈ TBg, w.before _ s = true := fun w h => hts w (List.mem_cons_of_mem _ h)
  have hown : s.vm.findClass RX12 = some m.cls := findClass_of_methodNamed B.named
  have hlocks := B.notSynchronized
  subst hsz
  generalize hAe : va_A [] s.heap.size = A at ⊢
  have hA : ∀ q : Nat, s.heap.size ≤ q → A q := fun q h => by rw [← hAe]; exact Or.inr h
  have hS : va_S A s.heap s.heap [] := va_S.rf
  have hl := lv_entry ([.ref mo]) (n := 6) (Nat.le_of_ble_eq_true rfl)
  rw [lg_entry_eq]
  generalize (lg_sl ([.ref mo]) ++ List.replicate (6 - (lg_sl ([.ref mo])).length) Slot.unset).toArray = ls at hl ⊢
  have hl : lv_has ls 6 [(0, .ref mo)] := hl
  refine lv_aload_n hx hb dX12_nextRow_0 rfl (lv_at hl 0 rfl) ?_
  refine va_get (ci := 12) (v := .int 0) (C := RX12) (T := TX12) (N := 58) hx hb ht iX12 hown hK hP 0 rfl rfl 43 (by decide) (ht _ k_328) (fun _ h9 => h9) rfl dX12_nextRow_1 ?_
  refine lv_iconst (v := 2) hx hb dX12_nextRow_4 (by decide) ?_
  refine lv_isub hx hb dX12_nextRow_5 ?_
  refine ow_top (-2) (by decide +kernel) ?_
  refine lv_istore_n (lv' := [(1, .int (-2)), (0, .ref mo)]) hx hb dX12_nextRow_6 rfl hl (by decide) rfl (fun ls hl => ?_)
  refine lv_iload_n hx hb dX12_nextRow_7 rfl (lv_at hl 0 rfl) ?_
  refine lv_if_lt (tgt := 34) hx hb dX12_nextRow_8 (by decide) (fun _ => ?_) (fun c9 => absurd (by decide) c9)
  refine lv_iload_n hx hb dX12_nextRow_34 rfl (lv_at hl 0 rfl) ?_
  refine lv_if_ge (tgt := 40) hx hb dX12_nextRow_35 (by decide) (fun c9 => absurd c9 (by decide)) (fun _ => ?_)
  refine lv_iconst (v := 0) hx hb dX12_nextRow_38 (by decide) ?_
  refine W.widen (k := 0) (n := 0) (Nat.le_of_ble_eq_true rfl) (Nat.le_of_ble_eq_true rfl) ?_
  exact W.zret (v := 0) hx hb hr (by first | rfl | decide) (fun t ht9 hW => ⟨⟨0, (), rfl, ⟨rfl, trivial⟩, trivial⟩, hS.F ht9⟩) hS.2.2 dX12_nextRow_39
set_option maxHeartbeats 4000000 in
set_option maxRecDepth 100000 in
theorem m_layM (l : Launch) (G : va_G) (cy : Nat → ClassId) (sz : Nat) (mo : Nat) (w0 : Value) (w1 : Value) (w2 : Value) (w3 : Value) (w4 : Value) (w5 : Value) (w6 : Value) (w7 : Value) (w8 : Value) (w9 : Value) (w10 : Value) (w11 : Value) (w12 : Value) (w13 : Value) (w14 : Value) (w15 : Value) (w16 : Value) (w17 : Value) (w18 : Value) (w19 : Value) (w20 : Value) (w21 : Value) (w22 : Value) (w23 : Value) (w24 : Value) (w25 : Value) (w26 : Value) (w27 : Value) (w28 : Value) (w29 : Value) (w30 : Value) (w31 : Value) (w32 : Value) (w33 : Value) (w34 : Value) (w35 : Value) (w36 : Value) (w37 : Value) (w38 : Value) (w39 : Value) (w40 : Value) (w41 : Value) (w42 : Value) (w44 : Value) (w45 : Value) (w46 : Value) (w47 : Value) (w48 : Value) (w49 : Value) (w50 : Value) (w51 : Value) (w52 : Value) (w53 : Value) (w54 : Value) (w55 : Value) (w56 : Value) (w57 : Value)  : Met l yX12_layMaster (.code yX12_layMaster cX12_layMaster 4 none :: TBg) ({ frames := 2, cells := 0, slots := 0, locals := 128 }) (va_Pc [.ref mo] (En G cy [(mo, .inr (12, [w0, w1, w2, w3, w4, w5, w6, w7, w8, w9, w10, w11, w12, w13, w14, w15, w16, w17, w18, w19, w20, w21, w22, w23, w24, w25, w26, w27, w28, w29, w30, w31, w32, w33, w34, w35, w36, w37, w38, w39, w40, w41, w42, .int 0, w44, w45, w46, w47, w48, w49, w50, w51, w52, w53, w54, w55, w56, w57]))] sz)) (va_Qv (fun u : Unit => True) (fun u t => Ex G (va_A [(mo, .inr (12, [w0, w1, w2, w3, w4, w5, w6, w7, w8, w9, w10, w11, w12, w13, w14, w15, w16, w17, w18, w19, w20, w21, w22, w23, w24, w25, w26, w27, w28, w29, w30, w31, w32, w33, w34, w35, w36, w37, w38, w39, w40, w41, w42, .int 0, w44, w45, w46, w47, w48, w49, w50, w51, w52, w53, w54, w55, w56, w57]))] sz) [(mo, .inr (12, [w0, w1, w2, w3, w4, w5, w6, w7, w8, w9, w10, w11, w12, w13, w14, w15, w16, w17, w18, w19, w20, w21, w22, w23, w24, w25, w26, w27, w28, w29, w30, w31, w32, w33, w34, w35, w36, w37, w38, w39, w40, w41, w42, .int 0, .int 0, w45, w46, w47, w48, w49, w50, w51, w52, w53, w54, w55, w56, w57]))] t) (va_A [(mo, .inr (12, [w0, w1, w2, w3, w4, w5, w6, w7, w8, w9, w10, w11, w12, w13, w14, w15, w16, w17, w18, w19, w20, w21, w22, w23, w24, w25, w26, w27, w28, w29, w30, w31, w32, w33, w34, w35, w36, w37, w38, w39, w40, w41, w42, .int 0, w44, w45, w46, w47, w48, w49, w50, w51, w52, w53, w54, w55, w56, w57]))] sz)) 0 0 (va_A [(mo, .inr (12, [w0, w1, w2, w3, w4, w5, w6, w7, w8, w9, w10, w11, w12, w13, w14, w15, w16, w17, w18, w19, w20, w21, w22, w23, w24, w25, w26, w27, w28, w29, w30, w31, w32, w33, w34, w35, w36, w37, w38, w39, w40, w41, w42, .int 0, w44, w45, w46, w47, w48, w49, w50, w51, w52, w53, w54, w55, w56, w57]))] sz) := by
  refine Met.ofW (cc := cX12_layMaster) (maxL := 4) (ret := none) (by decide) rfl ?_
  intro p e s m args below meth c s₁ B hml hv
  obtain ⟨rfl, hsz, hP, hK, hD0, hN⟩ := hv
  have hx := B.exec
  have hb := B.bytes
  have hr := B.returns
  have hts := atoms_spec (ws := .code yX12_layMaster cX12_layMaster 4 none :: TBg) B.pre
  have ht : ∀ w ∈ TBg, w.before _ s = true := fun w h => hts w (List.mem_cons_of_mem _ h)
  have hown : s.vm.findClass RX12 = some m.cls := findClass_of_methodNamed B.named
  have hlocks := B.notSynchronized
  subst hsz
  have hD := hD0.self (sz := s.heap.size)
  generalize hAe : va_A [(mo, .inr (12, [w0, w1, w2, w3, w4, w5, w6, w7, w8, w9, w10, w11, w12, w13, w14, w15, w16, w17, w18, w19, w20, w21, w22, w23, w24, w25, w26, w27, w28, w29, w30, w31, w32, w33, w34, w35, w36, w37, w38, w39, w40, w41, w42, .int 0, w44, w45, w46, w47, w48, w49, w50, w51, w52, w53, w54, w55, w56, w57]))] s.heap.size = A at hD ⊢
  have hA : ∀ q : Nat, s.heap.size ≤ q → A q := fun q h => by rw [← hAe]; exact Or.inr h
  have hS : va_S A s.heap s.heap [] := va_S.rf
  have hl := lv_entry ([.ref mo]) (n := 4) (Nat.le_of_ble_eq_true rfl)
  rw [lg_entry_eq]
  generalize (lg_sl ([.ref mo]) ++ List.replicate (4 - (lg_sl ([.ref mo])).length) Slot.unset).toArray = ls at hl ⊢
  have hl : lv_has ls 4 [(0, .ref mo)] := hl
  refine lv_aload_n hx hb dX12_layMaster_0 rfl (lv_at hl 0 rfl) ?_
  refine lv_iconst (v := (-1)) hx hb dX12_layMaster_1 (by decide) ?_
  refine va_put (ci := 12) (v := .int (-1)) (ty := .int) (C := RX12) (T := TX12) (N := 58) hx hb ht iX12 tyX12 tyX12_ok nmX12 hown hK hP hD hS 0 rfl rfl 44 (by decide) (ht _ k_329) (fun _ h9 => h9) rfl (by decide +kernel) rfl rfl (Nat.le_of_ble_eq_true rfl) dX12_layMaster_2 (fun H locs hP hD hS => ?_)
  have hP : va_P G vwCl [(mo, .inr (12, [w0, w1, w2, w3, w4, w5, w6, w7, w8, w9, w10, w11, w12, w13, w14, w15, w16, w17, w18, w19, w20, w21, w22, w23, w24, w25, w26, w27, w28, w29, w30, w31, w32, w33, w34, w35, w36, w37, w38, w39, w40, w41, w42, .int 0, .int (-1), w45, w46, w47, w48, w49, w50, w51, w52, w53, w54, w55, w56, w57]))] H := hP
  have hD : va_D A [(mo, .inr (12, [w0, w1, w2, w3, w4, w5, w6, w7, w8, w9, w10, w11, w12, w13, w14, w15, w16, w17, w18, w19, w20, w21, w22, w23, w24, w25, w26, w27, w28, w29, w30, w31, w32, w33, w34, w35, w36, w37, w38, w39, w40, w41, w42, .int 0, .int (-1), w45, w46, w47, w48, w49, w50, w51, w52, w53, w54, w55, w56, w57]))] := hD
  refine lv_iconst (v := 0) hx hb dX12_layMaster_5 (by decide) ?_
  refine lv_istore_n (lv' := [(1, .int 0), (0, .ref mo)]) hx hb dX12_layMaster_6 rfl hl (by decide) rfl (fun ls hl => ?_)
  refine lv_iload_n hx hb dX12_layMaster_7 rfl (lv_at hl 0 rfl) ?_
  refine lv_aload_n hx hb dX12_layMaster_8 rfl (lv_at hl 1 rfl) ?_
  refine va_get (ci := 12) (v := .int 0) (C := RX12) (T := TX12) (N := 58) hx hb ht iX12 hown hK hP 0 rfl rfl 43 (by decide) (ht _ k_328) (fun _ h9 => h9) rfl dX12_layMaster_9 ?_
  refine lv_icmp_ge (tgt := 28) hx hb dX12_layMaster_12 (by decide) (fun _ => ?_) (fun c9 => absurd (by decide) c9)
  refine lv_iconst (v := 1) hx hb dX12_layMaster_28 (by decide) ?_
  refine lv_istore_n (lv' := [(1, .int 1), (0, .ref mo)]) hx hb dX12_layMaster_29 rfl hl (by decide) rfl (fun ls hl => ?_)
  refine lv_iload_n hx hb dX12_layMaster_30 rfl (lv_at hl 0 rfl) ?_
  refine lv_if_eq (tgt := 167) hx hb dX12_layMaster_31 (by decide) (fun c9 => absurd c9 (by decide)) (fun _ => ?_)
  refine lv_iconst (v := 0) hx hb dX12_layMaster_34 (by decide) ?_
  refine lv_istore_n (lv' := [(2, .int 0), (1, .int 1), (0, .ref mo)]) hx hb dX12_layMaster_35 rfl hl (by decide) rfl (fun ls hl => ?_)
  refine lv_iconst (v := 0) hx hb dX12_layMaster_36 (by decide) ?_
  refine lv_istore_n (lv' := [(3, .int 0), (2, .int 0), (1, .int 1), (0, .ref mo)]) hx hb dX12_layMaster_37 rfl hl (by decide) rfl (fun ls hl => ?_)
  refine lv_iload_n hx hb dX12_layMaster_38 rfl (lv_at hl 0 rfl) ?_
  refine lv_aload_n hx hb dX12_layMaster_39 rfl (lv_at hl 3 rfl) ?_
  refine va_get (ci := 12) (v := .int 0) (C := RX12) (T := TX12) (N := 58) hx hb ht iX12 hown hK hP 0 rfl rfl 43 (by decide) (ht _ k_328) (fun _ h9 => h9) rfl dX12_layMaster_40 ?_
  refine lv_icmp_ge (tgt := 106) hx hb dX12_layMaster_43 (by decide) (fun _ => ?_) (fun c9 => absurd (by decide) c9)
  refine lv_aload_n hx hb dX12_layMaster_106 rfl (lv_at hl 3 rfl) ?_
  refine va_get (ci := 12) (v := .int (-1)) (C := RX12) (T := TX12) (N := 58) hx hb ht iX12 hown hK hP 0 rfl rfl 44 (by decide) (ht _ k_329) (fun _ h9 => h9) rfl dX12_layMaster_107 ?_
  refine lv_if_lt (tgt := 121) hx hb dX12_layMaster_110 (by decide) (fun _ => ?_) (fun c9 => absurd (by decide) c9)
  refine lv_aload_n hx hb dX12_layMaster_121 rfl (lv_at hl 3 rfl) ?_
  refine lv_iload_n hx hb dX12_layMaster_122 rfl (lv_at hl 1 rfl) ?_
  refine va_put (ci := 12) (v := .int 0) (ty := .int) (C := RX12) (T := TX12) (N := 58) hx hb ht iX12 tyX12 tyX12_ok nmX12 hown hK hP hD hS 0 rfl rfl 44 (by decide) (ht _ k_329) (fun _ h9 => h9) rfl (by decide +kernel) rfl rfl (Nat.le_of_ble_eq_true rfl) dX12_layMaster_123 (fun H locs hP hD hS => ?_)
  have hP : va_P G vwCl [(mo, .inr (12, [w0, w1, w2, w3, w4, w5, w6, w7, w8, w9, w10, w11, w12, w13, w14, w15, w16, w17, w18, w19, w20, w21, w22, w23, w24, w25, w26, w27, w28, w29, w30, w31, w32, w33, w34, w35, w36, w37, w38, w39, w40, w41, w42, .int 0, .int 0, w45, w46, w47, w48, w49, w50, w51, w52, w53, w54, w55, w56, w57]))] H := hP
  have hD : va_D A [(mo, .inr (12, [w0, w1, w2, w3, w4, w5, w6, w7, w8, w9, w10, w11, w12, w13, w14, w15, w16, w17, w18, w19, w20, w21, w22, w23, w24, w25, w26, w27, w28, w29, w30, w31, w32, w33, w34, w35, w36, w37, w38, w39, w40, w41, w42, .int 0, .int 0, w45, w46, w47, w48, w49, w50, w51, w52, w53, w54, w55, w56, w57]))] := hD
  refine lv_iconst (v := 0) hx hb dX12_layMaster_126 (by decide) ?_
  refine lv_istore_n (lv' := [(3, .int 0), (2, .int 0), (1, .int 1), (0, .ref mo)]) hx hb dX12_layMaster_127 rfl hl (by decide) rfl (fun ls hl => ?_)
  refine lv_iload_n hx hb dX12_layMaster_128 rfl (lv_at hl 0 rfl) ?_
  refine lv_aload_n hx hb dX12_layMaster_129 rfl (lv_at hl 3 rfl) ?_
  refine va_get (ci := 12) (v := .int 0) (C := RX12) (T := TX12) (N := 58) hx hb ht iX12 hown hK hP 0 rfl rfl 43 (by decide) (ht _ k_328) (fun _ h9 => h9) rfl dX12_layMaster_130 ?_
  refine lv_icmp_ge (tgt := 159) hx hb dX12_layMaster_133 (by decide) (fun _ => ?_) (fun c9 => absurd (by decide) c9)
  refine lv_aload_n hx hb dX12_layMaster_159 rfl (lv_at hl 3 rfl) ?_
  have hFc := fr_new hS hA
  have hPc := hP.sub (ws' := [(mo, .inr (12, [w0, w1, w2, w3, w4, w5, w6, w7, w8, w9, w10, w11, w12, w13, w14, w15, w16, w17, w18, w19, w20, w21, w22, w23, w24, w25, w26, w27, w28, w29, w30, w31, w32, w33, w34, w35, w36, w37, w38, w39, w40, w41, w42, .int 0, .int 0, w45, w46, w47, w48, w49, w50, w51, w52, w53, w54, w55, w56, w57]))]) [0] rfl
  have hDc := hD.sub (ws' := [(mo, .inr (12, [w0, w1, w2, w3, w4, w5, w6, w7, w8, w9, w10, w11, w12, w13, w14, w15, w16, w17, w18, w19, w20, w21, w22, w23, w24, w25, w26, w27, w28, w29, w30, w31, w32, w33, w34, w35, w36, w37, w38, w39, w40, w41, w42, .int 0, .int 0, w45, w46, w47, w48, w49, w50, w51, w52, w53, w54, w55, w56, w57]))]) [0] (by decide) rfl
  refine va_calli (va_runV (As := []) (rest := []) ⟨hx, hb, hml, hown, ht⟩ (m_nextRow l G cy _ mo (w0) (w1) (w2) (w3) (w4) (w5) (w6) (w7) (w8) (w9) (w10) (w11) (w12) (w13) (w14) (w15) (w16) (w17) (w18) (w19) (w20) (w21) (w22) (w23) (w24) (w25) (w26) (w27) (w28) (w29) (w30) (w31) (w32) (w33) (w34) (w35) (w36) (w37) (w38) (w39) (w40) (w41) (w42) (.int 0) (w45) (w46) (w47) (w48) (w49) (w50) (w51) (w52) (w53) (w54) (w55) (w56) (w57) ) (cwV 0 ht (gv k_331 k_332 k_333 k_314 k_330) rfl rfl rfl (by decide +kernel) ⟨Nat.le_of_ble_eq_true rfl, Nat.le_of_ble_eq_true rfl⟩) ⟨En.blind, va_recv hK hP (ci := 12) (q0 := 0) rfl rfl, fun U hU hW => ⟨rfl, En.of hU hW hPc hK hDc hN⟩⟩ rfl rfl hl.1 rfl (lv_room (Nat.le_of_ble_eq_true rfl)) dX12_layMaster_160 ⟨Nat.le_of_ble_eq_true rfl, Nat.le_of_ble_eq_true rfl⟩) hS (fun q _ h => hFc q h) hFc (fun r_2 u_1 t H locs ht9 hvm hw hB hz1 hk1 hS => ?_)
  have hP := fr_keep hP hk1
  obtain rfl : r_2 = 0 := hw.1
  refine lv_istore_n (lv' := [(1, .int 0), (3, .int 0), (2, .int 0), (0, .ref mo)]) hx hb dX12_layMaster_163 rfl hl (by decide) rfl (fun ls hl => ?_)
  refine lv_goto (tgt := 30) hx hb dX12_layMaster_164 (by decide) ?_
  refine lv_iload_n hx hb dX12_layMaster_30 rfl (lv_at hl 0 rfl) ?_
  refine lv_if_eq (tgt := 167) hx hb dX12_layMaster_31 (by decide) (fun _ => ?_) (fun c9 => absurd (by decide) c9)
  refine W.widen (k := 0) (n := 0) (Nat.le_of_ble_eq_true rfl) (Nat.le_of_ble_eq_true rfl) ?_
  have hP9 : va_P G vwCl [(mo, .inr (12, [w0, w1, w2, w3, w4, w5, w6, w7, w8, w9, w10, w11, w12, w13, w14, w15, w16, w17, w18, w19, w20, w21, w22, w23, w24, w25, w26, w27, w28, w29, w30, w31, w32, w33, w34, w35, w36, w37, w38, w39, w40, w41, w42, .int 0, .int 0, w45, w46, w47, w48, w49, w50, w51, w52, w53, w54, w55, w56, w57]))] _ := hP.sub [0] rfl
  have hD9 : va_D A [(mo, .inr (12, [w0, w1, w2, w3, w4, w5, w6, w7, w8, w9, w10, w11, w12, w13, w14, w15, w16, w17, w18, w19, w20, w21, w22, w23, w24, w25, w26, w27, w28, w29, w30, w31, w32, w33, w34, w35, w36, w37, w38, w39, w40, w41, w42, .int 0, .int 0, w45, w46, w47, w48, w49, w50, w51, w52, w53, w54, w55, w56, w57]))] := hD.sub [0] (by decide) rfl
  exact W.vret hx hb hr (fun t ht9 hW => ⟨⟨(), rfl, trivial, ⟨by rw [ht9]; exact hP9, hD9⟩⟩, hS.F ht9⟩) hS.2.2 dX12_layMaster_167
set_option maxHeartbeats 4000000 in
set_option maxRecDepth 100000 in
theorem m_leftI (l : Launch) (G : va_G) (cy : Nat → ClassId) (sz : Nat) (mo : Nat) (n : Int32) (q : Nat) (w0 : Value) (w1 : Value) (w2 : Value) (w3 : Value) (w4 : Value) (w5 : Value) (w6 : Value) (w7 : Value) (w8 : Value) (w9 : Value) (w10 : Value) (w12 : Value) (w13 : Value) (w14 : Value) (w15 : Value) (w16 : Value) (w17 : Value) (w18 : Value) (w19 : Value) (w20 : Value) (w21 : Value) (w22 : Value) (w23 : Value) (w24 : Value) (w25 : Value) (w26 : Value) (w27 : Value) (w28 : Value) (w30 : Value) (w31 : Value) (w32 : Value) (w33 : Value) (w34 : Value) (w35 : Value) (w36 : Value) (w37 : Value) (w38 : Value) (w39 : Value) (w40 : Value) (w41 : Value) (w42 : Value) (w43 : Value) (w44 : Value) (w45 : Value) (w46 : Value) (w47 : Value) (w48 : Value) (w49 : Value) (w50 : Value) (w51 : Value) (w52 : Value) (w53 : Value) (w54 : Value) (w55 : Value) (w56 : Value) (w57 : Value)  : Met l yX12_left (.code yX12_left cX12_left 6 (some .int) :: TBg) ({ frames := 1, cells := 0, slots := 0, locals := 64 }) (va_Pc [.ref mo, .int n] (En G cy [(mo, .inr (12, [w0, w1, w2, w3, w4, w5, w6, w7, w8, w9, w10, .ref q, w12, w13, w14, w15, w16, w17, w18, w19, w20, w21, w22, w23, w24, w25, w26, w27, w28, .int 0, w30, w31, w32, w33, w34, w35, w36, w37, w38, w39, w40, w41, w42, w43, w44, w45, w46, w47, w48, w49, w50, w51, w52, w53, w54, w55, w56, w57])), (q, .inl (cy 0, 2, .inl (fun _ => 0)))] sz)) (va_Qi (fun (r : Int32) (_ : Unit) => r = 0 ∧ True) (fun _ _ => True) (va_A [] sz)) 0 0 (va_A [] sz) := by
  refine Met.ofW (cc := cX12_left) (maxL := 6) (ret := (some .int)) (by decide) rfl ?_
  intro p e s m args below meth c s₁ B hml hv
  obtain ⟨rfl, hsz, hP, hK, hD0, hN⟩ := hv
  have hx := B.exec
  have hb := B.bytes
  have hr := B.returns
  have hts := atoms_spec (ws := .code yX12_left cX12_left 6 (some .int) :: TBg) B.pre
  have ht : ∀ w ∈ TBg, w.before _ s = true := fun w h => hts w (List.mem_cons_of_mem _ h)
  have hown : s.vm.findClass RX12 = some m.cls := findClass_of_methodNamed B.named
  have hlocks := B.notSynchronized
  subst hsz
  generalize hAe : va_A [] s.heap.size = A at ⊢
  have hA : ∀ q : Nat, s.heap.size ≤ q → A q := fun q h => by rw [← hAe]; exact Or.inr h
  have hS : va_S A s.heap s.heap [] := va_S.rf
  have hl := lv_entry ([.ref mo, .int n]) (n := 6) (Nat.le_of_ble_eq_true rfl)
  rw [lg_entry_eq]
  generalize (lg_sl ([.ref mo, .int n]) ++ List.replicate (6 - (lg_sl ([.ref mo, .int n])).length) Slot.unset).toArray = ls at hl ⊢
  have hl : lv_has ls 6 [(0, .ref mo), (1, .int n)] := hl
  refine lv_iconst (v := 0) hx hb dX12_left_0 (by decide) ?_
  refine lv_istore_n (lv' := [(2, .int 0), (0, .ref mo), (1, .int n)]) hx hb dX12_left_1 rfl hl (by decide) rfl (fun ls hl => ?_)
  refine lv_iconst (v := 0) hx hb dX12_left_2 (by decide) ?_
  refine lv_istore_n (lv' := [(3, .int 0), (2, .int 0), (0, .ref mo), (1, .int n)]) hx hb dX12_left_3 rfl hl (by decide) rfl (fun ls hl => ?_)
  refine lv_iload_n hx hb dX12_left_4 rfl (lv_at hl 0 rfl) ?_
  refine lv_aload_n hx hb dX12_left_5 rfl (lv_at hl 2 rfl) ?_
  refine va_get (ci := 12) (v := .ref q) (C := RX12) (T := TX12) (N := 58) hx hb ht iX12 hown hK hP 0 rfl rfl 11 (by decide) (ht _ k_268) (fun _ h9 => h9) rfl dX12_left_6 ?_
  refine lv_aload_n hx hb dX12_left_9 rfl (lv_at hl 2 rfl) ?_
  refine va_get (ci := 12) (v := .int 0) (C := RX12) (T := TX12) (N := 58) hx hb ht iX12 hown hK hP 0 rfl rfl 29 (by decide) (ht _ k_315) (fun _ h9 => h9) rfl dX12_left_10 ?_
  refine va_iald hx hb hK hP 1 0 rfl rfl (in_lit (by decide +kernel)) dX12_left_13 ?_
  refine ow_top 0 rfl ?_
  refine lv_icmp_ge (tgt := 137) hx hb dX12_left_14 (by decide) (fun _ => ?_) (fun c9 => absurd (by decide) c9)
  refine lv_iload_n hx hb dX12_left_137 rfl (lv_at hl 1 rfl) ?_
  refine W.widen (k := 0) (n := 0) (Nat.le_of_ble_eq_true rfl) (Nat.le_of_ble_eq_true rfl) ?_
  exact W.iret (v := 0) hx hb hr (fun t ht9 hW => ⟨⟨0, (), rfl, ⟨rfl, trivial⟩, trivial⟩, hS.F ht9⟩) hS.2.2 dX12_left_138
