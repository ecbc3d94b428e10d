theorem k_505 : (Cond.code yJ7_fill_53178 cJ7_fill_53178 4 none) ∈ TBg := tb_mem 750 (by decide +kernel) (by decide +kernel)
theorem k_506 : (Cond.methodLink RX7 35 yJ7_fill_53178) ∈ TBg := tb_mem 748 (by decide +kernel) (by decide +kernel)
theorem k_507 : (Cond.static yJ7_fill_53178) ∈ TBg := tb_mem 749 (by decide +kernel) (by decide +kernel)
theorem k_508 : (Cond.initialized RJ7) ∈ TBg := tb_mem 102 (by decide +kernel) (by decide +kernel)
theorem k_509 : (Cond.code yX8_becomeLike cX8_becomeLike 3 none) ∈ TBg := tb_mem 996 (by decide +kernel) (by decide +kernel)
theorem k_510 : (Cond.methodLink RX7 44 yX8_becomeLike) ∈ TBg := tb_mem 993 (by decide +kernel) (by decide +kernel)
theorem k_511 : (Cond.instanceMethod yX8_becomeLike) ∈ TBg := tb_mem 994 (by decide +kernel) (by decide +kernel)
theorem k_512 : (Cond.selects RX8 yX8_becomeLike yX8_becomeLike) ∈ TBg := tb_mem 995 (by decide +kernel) (by decide +kernel)
theorem k_513 : (Cond.methodLink RX7 48 arraycopyName) ∈ TBg := tb_mem 998 (by decide +kernel) (by decide +kernel)
theorem k_514 : (Cond.native arraycopyName) ∈ TBg := tb_mem 856 (by decide +kernel) (by decide +kernel)
theorem k_515 : (Cond.static arraycopyName) ∈ TBg := tb_mem 855 (by decide +kernel) (by decide +kernel)
theorem k_516 : (Cond.initialized "java/lang/System") ∈ TBg := tb_mem 104 (by decide +kernel) (by decide +kernel)
theorem k_517 : (Cond.code yX11_putNumber cX11_putNumber 3 none) ∈ TBg := tb_mem 457 (by decide +kernel) (by decide +kernel)
theorem k_518 : (Cond.methodLink RX11 76 yX11_putNumber) ∈ TBg := tb_mem 454 (by decide +kernel) (by decide +kernel)
theorem k_519 : (Cond.instanceMethod yX11_putNumber) ∈ TBg := tb_mem 456 (by decide +kernel) (by decide +kernel)
theorem k_520 : (Cond.selects RX11 yX11_putNumber yX11_putNumber) ∈ TBg := tb_mem 0 (by decide +kernel) (by decide +kernel)
theorem k_521 : (Cond.initialized RX11) ∈ TBg := tb_mem 84 (by decide +kernel) (by decide +kernel)
theorem k_522 : (Cond.code yX9_hasTune cX9_hasTune 2 (some .boolean)) ∈ TBg := tb_mem 767 (by decide +kernel) (by decide +kernel)
theorem k_523 : (Cond.methodLink RX11 116 yX9_hasTune) ∈ TBg := tb_mem 764 (by decide +kernel) (by decide +kernel)
theorem k_524 : (Cond.instanceMethod yX9_hasTune) ∈ TBg := tb_mem 765 (by decide +kernel) (by decide +kernel)
theorem k_525 : (Cond.selects RX9 yX9_hasTune yX9_hasTune) ∈ TBg := tb_mem 766 (by decide +kernel) (by decide +kernel)
theorem k_526 : (Cond.constant RX11 129 (-1000000)) ∈ TBg := tb_mem 772 (by decide +kernel) (by decide +kernel)
theorem k_527 : (Cond.methodLink RX11 130 yX8_riseTo) ∈ TBg := tb_mem 773 (by decide +kernel) (by decide +kernel)
theorem k_528 : (Cond.methodLink RX11 134 yX8_offAt) ∈ TBg := tb_mem 778 (by decide +kernel) (by decide +kernel)
theorem k_529 : (Cond.code yX8_firstOffAt cX8_firstOffAt 4 (some .int)) ∈ TBg := tb_mem 790 (by decide +kernel) (by decide +kernel)
theorem k_530 : (Cond.methodLink RX11 153 yX8_firstOffAt) ∈ TBg := tb_mem 787 (by decide +kernel) (by decide +kernel)
theorem k_531 : (Cond.instanceMethod yX8_firstOffAt) ∈ TBg := tb_mem 788 (by decide +kernel) (by decide +kernel)
theorem k_532 : (Cond.selects RX8 yX8_firstOffAt yX8_firstOffAt) ∈ TBg := tb_mem 789 (by decide +kernel) (by decide +kernel)
theorem k_533 : (Cond.code yX11_tellIn cX11_tellIn 6 (some .int)) ∈ TBg := tb_mem 786 (by decide +kernel) (by decide +kernel)
theorem k_534 : (Cond.methodLink RX11 142 yX11_tellIn) ∈ TBg := tb_mem 783 (by decide +kernel) (by decide +kernel)
theorem k_535 : (Cond.instanceMethod yX11_tellIn) ∈ TBg := tb_mem 785 (by decide +kernel) (by decide +kernel)
theorem k_536 : (Cond.selects RX11 yX11_tellIn yX11_tellIn) ∈ TBg := tb_mem 27 (by decide +kernel) (by decide +kernel)
theorem k_537 : (Cond.methodLink RX11 159 yX9_opensTo) ∈ TBg := tb_mem 795 (by decide +kernel) (by decide +kernel)
theorem k_538 : (Cond.methodLink RX11 163 yX9_hasLock) ∈ TBg := tb_mem 800 (by decide +kernel) (by decide +kernel)
theorem k_539 : (Cond.methodLink RX11 166 yX9_ask) ∈ TBg := tb_mem 804 (by decide +kernel) (by decide +kernel)
theorem k_540 : (Cond.code yX1_choose cX1_choose 5 (some .int)) ∈ TBg := tb_mem 816 (by decide +kernel) (by decide +kernel)
theorem k_541 : (Cond.methodLink RX11 173 yX1_choose) ∈ TBg := tb_mem 813 (by decide +kernel) (by decide +kernel)
theorem k_542 : (Cond.instanceMethod yX1_choose) ∈ TBg := tb_mem 814 (by decide +kernel) (by decide +kernel)
theorem k_543 : (Cond.selects RX1 yX1_choose yX1_choose) ∈ TBg := tb_mem 815 (by decide +kernel) (by decide +kernel)
theorem k_544 : (Cond.code yX0_take cX0_take 4 none) ∈ TBg := tb_mem 872 (by decide +kernel) (by decide +kernel)
theorem k_545 : (Cond.methodLink RX11 193 yX0_take) ∈ TBg := tb_mem 869 (by decide +kernel) (by decide +kernel)
theorem k_546 : (Cond.instanceMethod yX0_take) ∈ TBg := tb_mem 870 (by decide +kernel) (by decide +kernel)
theorem k_547 : (Cond.selects RX0 yX0_take yX0_take) ∈ TBg := tb_mem 871 (by decide +kernel) (by decide +kernel)
theorem k_548 : (Cond.methodLink RX11 201 yX0_notSweet) ∈ TBg := tb_mem 873 (by decide +kernel) (by decide +kernel)
theorem k_549 : (Cond.code yX0_bestLater cX0_bestLater 6 (some .int)) ∈ TBg := tb_mem 885 (by decide +kernel) (by decide +kernel)
theorem k_550 : (Cond.methodLink RX11 205 yX0_bestLater) ∈ TBg := tb_mem 882 (by decide +kernel) (by decide +kernel)
theorem k_551 : (Cond.instanceMethod yX0_bestLater) ∈ TBg := tb_mem 883 (by decide +kernel) (by decide +kernel)
theorem k_552 : (Cond.selects RX0 yX0_bestLater yX0_bestLater) ∈ TBg := tb_mem 884 (by decide +kernel) (by decide +kernel)
theorem k_553 : (Cond.code yX8_deafOffAt cX8_deafOffAt 13 (some .int)) ∈ TBg := tb_mem 894 (by decide +kernel) (by decide +kernel)
theorem k_554 : (Cond.methodLink RX11 209 yX8_deafOffAt) ∈ TBg := tb_mem 891 (by decide +kernel) (by decide +kernel)
theorem k_555 : (Cond.instanceMethod yX8_deafOffAt) ∈ TBg := tb_mem 892 (by decide +kernel) (by decide +kernel)
theorem k_556 : (Cond.selects RX8 yX8_deafOffAt yX8_deafOffAt) ∈ TBg := tb_mem 893 (by decide +kernel) (by decide +kernel)
theorem dJ7_fill_53178_0 : decode cJ7_fill_53178 0 = .ok (.iconst 0, 1) := by decide +kernel
theorem dJ7_fill_53178_1 : decode cJ7_fill_53178 1 = .ok (.istore_n 2, 1) := by decide +kernel
theorem dJ7_fill_53178_2 : decode cJ7_fill_53178 2 = .ok (.aload_n 0, 1) := by decide +kernel
theorem dJ7_fill_53178_3 : decode cJ7_fill_53178 3 = .ok (.arraylength, 1) := by decide +kernel
theorem dJ7_fill_53178_4 : decode cJ7_fill_53178 4 = .ok (.istore_n 3, 1) := by decide +kernel
theorem dJ7_fill_53178_5 : decode cJ7_fill_53178 5 = .ok (.iload_n 2, 1) := by decide +kernel
theorem dJ7_fill_53178_6 : decode cJ7_fill_53178 6 = .ok (.iload_n 3, 1) := by decide +kernel
theorem dJ7_fill_53178_7 : decode cJ7_fill_53178 7 = .ok (.if_icmp .ge 13, 3) := by decide +kernel
theorem dJ7_fill_53178_20 : decode cJ7_fill_53178 20 = .ok (.return_, 1) := by decide +kernel
theorem dJ7_fill_53178_10 : decode cJ7_fill_53178 10 = .ok (.aload_n 0, 1) := by decide +kernel
theorem dJ7_fill_53178_11 : decode cJ7_fill_53178 11 = .ok (.iload_n 2, 1) := by decide +kernel
theorem dJ7_fill_53178_12 : decode cJ7_fill_53178 12 = .ok (.iload_n 1, 1) := by decide +kernel
theorem dJ7_fill_53178_13 : decode cJ7_fill_53178 13 = .ok (.iastore, 1) := by decide +kernel
theorem dJ7_fill_53178_14 : decode cJ7_fill_53178 14 = .ok (.iinc 2 1, 3) := by decide +kernel
theorem dJ7_fill_53178_17 : decode cJ7_fill_53178 17 = .ok (.goto (-12), 3) := by decide +kernel
theorem dX7_clear_0 : decode cX7_clear 0 = .ok (.aload_n 0, 1) := by decide +kernel
theorem dX7_clear_1 : decode cX7_clear 1 = .ok (.getfield 14, 3) := by decide +kernel
theorem dX7_clear_4 : decode cX7_clear 4 = .ok (.iconst 0, 1) := by decide +kernel
theorem dX7_clear_5 : decode cX7_clear 5 = .ok (.putfield 24, 3) := by decide +kernel
theorem dX7_clear_8 : decode cX7_clear 8 = .ok (.aload_n 0, 1) := by decide +kernel
theorem dX7_clear_9 : decode cX7_clear 9 = .ok (.iconst 0, 1) := by decide +kernel
theorem dX7_clear_10 : decode cX7_clear 10 = .ok (.putfield 28, 3) := by decide +kernel
theorem dX7_clear_13 : decode cX7_clear 13 = .ok (.aload_n 0, 1) := by decide +kernel
theorem dX7_clear_14 : decode cX7_clear 14 = .ok (.iconst 0, 1) := by decide +kernel
theorem dX7_clear_15 : decode cX7_clear 15 = .ok (.putfield 32, 3) := by decide +kernel
theorem dX7_clear_18 : decode cX7_clear 18 = .ok (.aload_n 0, 1) := by decide +kernel
theorem dX7_clear_19 : decode cX7_clear 19 = .ok (.getfield 20, 3) := by decide +kernel
theorem dX7_clear_22 : decode cX7_clear 22 = .ok (.iconst 0, 1) := by decide +kernel
theorem dX7_clear_23 : decode cX7_clear 23 = .ok (.invokestatic 35, 3) := by decide +kernel
theorem dX7_clear_26 : decode cX7_clear 26 = .ok (.aload_n 0, 1) := by decide +kernel
theorem dX7_clear_27 : decode cX7_clear 27 = .ok (.iconst 0, 1) := by decide +kernel
theorem dX7_clear_28 : decode cX7_clear 28 = .ok (.putfield 41, 3) := by decide +kernel
theorem dX7_clear_31 : decode cX7_clear 31 = .ok (.return_, 1) := by decide +kernel
theorem dX7_becomeLike_0 : decode cX7_becomeLike 0 = .ok (.aload_n 0, 1) := by decide +kernel
theorem dX7_becomeLike_1 : decode cX7_becomeLike 1 = .ok (.getfield 14, 3) := by decide +kernel
theorem dX7_becomeLike_4 : decode cX7_becomeLike 4 = .ok (.aload_n 1, 1) := by decide +kernel
theorem dX7_becomeLike_5 : decode cX7_becomeLike 5 = .ok (.getfield 14, 3) := by decide +kernel
theorem dX7_becomeLike_8 : decode cX7_becomeLike 8 = .ok (.invokevirtual 44, 3) := by decide +kernel
theorem dX7_becomeLike_11 : decode cX7_becomeLike 11 = .ok (.aload_n 0, 1) := by decide +kernel
theorem dX7_becomeLike_12 : decode cX7_becomeLike 12 = .ok (.aload_n 1, 1) := by decide +kernel
theorem dX7_becomeLike_13 : decode cX7_becomeLike 13 = .ok (.getfield 28, 3) := by decide +kernel
theorem dX7_becomeLike_16 : decode cX7_becomeLike 16 = .ok (.putfield 28, 3) := by decide +kernel
theorem dX7_becomeLike_19 : decode cX7_becomeLike 19 = .ok (.aload_n 0, 1) := by decide +kernel
theorem dX7_becomeLike_20 : decode cX7_becomeLike 20 = .ok (.aload_n 1, 1) := by decide +kernel
theorem dX7_becomeLike_21 : decode cX7_becomeLike 21 = .ok (.getfield 32, 3) := by decide +kernel
theorem dX7_becomeLike_24 : decode cX7_becomeLike 24 = .ok (.putfield 32, 3) := by decide +kernel
theorem dX7_becomeLike_27 : decode cX7_becomeLike 27 = .ok (.aload_n 1, 1) := by decide +kernel
theorem dX7_becomeLike_28 : decode cX7_becomeLike 28 = .ok (.getfield 20, 3) := by decide +kernel
theorem dX7_becomeLike_31 : decode cX7_becomeLike 31 = .ok (.iconst 0, 1) := by decide +kernel
theorem dX7_becomeLike_32 : decode cX7_becomeLike 32 = .ok (.aload_n 0, 1) := by decide +kernel
theorem dX7_becomeLike_33 : decode cX7_becomeLike 33 = .ok (.getfield 20, 3) := by decide +kernel
theorem dX7_becomeLike_36 : decode cX7_becomeLike 36 = .ok (.iconst 0, 1) := by decide +kernel
theorem dX7_becomeLike_37 : decode cX7_becomeLike 37 = .ok (.bipush 8, 2) := by decide +kernel
theorem dX7_becomeLike_39 : decode cX7_becomeLike 39 = .ok (.invokestatic 48, 3) := by decide +kernel
theorem dX7_becomeLike_42 : decode cX7_becomeLike 42 = .ok (.return_, 1) := by decide +kernel
theorem dX11_putNumber_0 : decode cX11_putNumber 0 = .ok (.bipush 24, 2) := by decide +kernel
theorem dX11_putNumber_2 : decode cX11_putNumber 2 = .ok (.istore_n 2, 1) := by decide +kernel
theorem dX11_putNumber_3 : decode cX11_putNumber 3 = .ok (.iload_n 2, 1) := by decide +kernel
theorem dX11_putNumber_4 : decode cX11_putNumber 4 = .ok (.ifCond .lt 44, 3) := by decide +kernel
theorem dX11_putNumber_48 : decode cX11_putNumber 48 = .ok (.return_, 1) := by decide +kernel
theorem dX11_putNumber_7 : decode cX11_putNumber 7 = .ok (.aload_n 0, 1) := by decide +kernel
theorem dX11_putNumber_8 : decode cX11_putNumber 8 = .ok (.getfield 73, 3) := by decide +kernel
theorem dX11_putNumber_11 : decode cX11_putNumber 11 = .ok (.aload_n 0, 1) := by decide +kernel
theorem dX11_putNumber_12 : decode cX11_putNumber 12 = .ok (.getfield 9, 3) := by decide +kernel
theorem dX11_putNumber_15 : decode cX11_putNumber 15 = .ok (.arraylength, 1) := by decide +kernel
theorem dX11_putNumber_16 : decode cX11_putNumber 16 = .ok (.if_icmp .ge 26, 3) := by decide +kernel
theorem dX11_putNumber_42 : decode cX11_putNumber 42 = .ok (.iinc 2 (-8), 3) := by decide +kernel
theorem dX11_putNumber_45 : decode cX11_putNumber 45 = .ok (.goto (-42), 3) := by decide +kernel
theorem dX11_putNumber_19 : decode cX11_putNumber 19 = .ok (.aload_n 0, 1) := by decide +kernel
theorem dX11_putNumber_20 : decode cX11_putNumber 20 = .ok (.getfield 9, 3) := by decide +kernel
theorem dX11_putNumber_23 : decode cX11_putNumber 23 = .ok (.aload_n 0, 1) := by decide +kernel
theorem dX11_putNumber_24 : decode cX11_putNumber 24 = .ok (.getfield 73, 3) := by decide +kernel
theorem dX11_putNumber_27 : decode cX11_putNumber 27 = .ok (.iload_n 1, 1) := by decide +kernel
theorem dX11_putNumber_28 : decode cX11_putNumber 28 = .ok (.iload_n 2, 1) := by decide +kernel
theorem dX11_putNumber_29 : decode cX11_putNumber 29 = .ok (.ishr, 1) := by decide +kernel
theorem dX11_putNumber_30 : decode cX11_putNumber 30 = .ok (.i2b, 1) := by decide +kernel
theorem dX11_putNumber_31 : decode cX11_putNumber 31 = .ok (.bastore, 1) := by decide +kernel
theorem dX11_putNumber_32 : decode cX11_putNumber 32 = .ok (.aload_n 0, 1) := by decide +kernel
theorem dX11_putNumber_33 : decode cX11_putNumber 33 = .ok (.dup, 1) := by decide +kernel
theorem dX11_putNumber_34 : decode cX11_putNumber 34 = .ok (.getfield 73, 3) := by decide +kernel
theorem dX11_putNumber_37 : decode cX11_putNumber 37 = .ok (.iconst 1, 1) := by decide +kernel
theorem dX11_putNumber_38 : decode cX11_putNumber 38 = .ok (.iadd, 1) := by decide +kernel
theorem dX11_putNumber_39 : decode cX11_putNumber 39 = .ok (.putfield 73, 3) := by decide +kernel
theorem dX11_feed_0 : decode cX11_feed 0 = .ok (.aload_n 0, 1) := by decide +kernel
theorem dX11_feed_1 : decode cX11_feed 1 = .ok (.getfield 73, 3) := by decide +kernel
theorem dX11_feed_4 : decode cX11_feed 4 = .ok (.sipush 1680, 3) := by decide +kernel
theorem dX11_feed_7 : decode cX11_feed 7 = .ok (.if_icmp .le 5, 3) := by decide +kernel
theorem dX11_feed_12 : decode cX11_feed 12 = .ok (.aload_n 0, 1) := by decide +kernel
theorem dX11_feed_13 : decode cX11_feed 13 = .ok (.iload_n 1, 1) := by decide +kernel
theorem dX11_feed_14 : decode cX11_feed 14 = .ok (.invokevirtual 76, 3) := by decide +kernel
theorem dX11_feed_17 : decode cX11_feed 17 = .ok (.aload_n 0, 1) := by decide +kernel
theorem dX11_feed_18 : decode cX11_feed 18 = .ok (.iload_n 2, 1) := by decide +kernel
theorem dX11_feed_19 : decode cX11_feed 19 = .ok (.invokevirtual 76, 3) := by decide +kernel
theorem dX11_feed_22 : decode cX11_feed 22 = .ok (.aload_n 0, 1) := by decide +kernel
theorem dX11_feed_23 : decode cX11_feed 23 = .ok (.iload_n 3, 1) := by decide +kernel
theorem dX11_feed_24 : decode cX11_feed 24 = .ok (.invokevirtual 76, 3) := by decide +kernel
theorem dX11_feed_27 : decode cX11_feed 27 = .ok (.aload_n 0, 1) := by decide +kernel
theorem dX11_feed_28 : decode cX11_feed 28 = .ok (.iload 4, 2) := by decide +kernel
theorem dX11_feed_30 : decode cX11_feed 30 = .ok (.invokevirtual 76, 3) := by decide +kernel
theorem dX11_feed_33 : decode cX11_feed 33 = .ok (.aload_n 0, 1) := by decide +kernel
theorem dX11_feed_34 : decode cX11_feed 34 = .ok (.iload 5, 2) := by decide +kernel
theorem dX11_feed_36 : decode cX11_feed 36 = .ok (.invokevirtual 76, 3) := by decide +kernel
theorem dX11_feed_39 : decode cX11_feed 39 = .ok (.aload_n 0, 1) := by decide +kernel
theorem dX11_feed_40 : decode cX11_feed 40 = .ok (.getfield 73, 3) := by decide +kernel
theorem dX11_feed_43 : decode cX11_feed 43 = .ok (.ireturn, 1) := by decide +kernel
theorem dX11_feed_10 : decode cX11_feed 10 = .ok (.iconst (-1), 1) := by decide +kernel
theorem dX11_feed_11 : decode cX11_feed 11 = .ok (.ireturn, 1) := by decide +kernel
theorem dX11_end_0 : decode cX11_end 0 = .ok (.iload_n 1, 1) := by decide +kernel
theorem dX11_end_1 : decode cX11_end 1 = .ok (.ifCond .lt 11, 3) := by decide +kernel
theorem dX11_end_12 : decode cX11_end 12 = .ok (.iconst (-1), 1) := by decide +kernel
theorem dX11_end_13 : decode cX11_end 13 = .ok (.ireturn, 1) := by decide +kernel
theorem dX11_end_4 : decode cX11_end 4 = .ok (.iload_n 1, 1) := by decide +kernel
theorem dX11_end_5 : decode cX11_end 5 = .ok (.aload_n 0, 1) := by decide +kernel
theorem dX11_end_6 : decode cX11_end 6 = .ok (.getfield 73, 3) := by decide +kernel
theorem dX11_end_9 : decode cX11_end 9 = .ok (.if_icmp .le 5, 3) := by decide +kernel
theorem dX11_end_14 : decode cX11_end 14 = .ok (.aload_n 0, 1) := by decide +kernel
theorem dX11_end_15 : decode cX11_end 15 = .ok (.iload_n 1, 1) := by decide +kernel
theorem dX11_end_16 : decode cX11_end 16 = .ok (.putfield 73, 3) := by decide +kernel
theorem dX11_end_19 : decode cX11_end 19 = .ok (.iload_n 1, 1) := by decide +kernel
theorem dX11_end_20 : decode cX11_end 20 = .ok (.ireturn, 1) := by decide +kernel
theorem dX11_fault_0 : decode cX11_fault 0 = .ok (.iload_n 1, 1) := by decide +kernel
theorem dX11_fault_1 : decode cX11_fault 1 = .ok (.ifCond .ne 8, 3) := by decide +kernel
theorem dX11_fault_9 : decode cX11_fault 9 = .ok (.iload_n 1, 1) := by decide +kernel
theorem dX11_fault_10 : decode cX11_fault 10 = .ok (.iconst 1, 1) := by decide +kernel
theorem dX11_fault_11 : decode cX11_fault 11 = .ok (.if_icmp .ne 10, 3) := by decide +kernel
theorem dX11_fault_21 : decode cX11_fault 21 = .ok (.iconst (-1), 1) := by decide +kernel
theorem dX11_fault_22 : decode cX11_fault 22 = .ok (.ireturn, 1) := by decide +kernel
theorem dX11_fault_14 : decode cX11_fault 14 = .ok (.aload_n 0, 1) := by decide +kernel
theorem dX11_fault_15 : decode cX11_fault 15 = .ok (.getfield 23, 3) := by decide +kernel
theorem dX11_fault_18 : decode cX11_fault 18 = .ok (.goto 4, 3) := by decide +kernel
theorem dX11_fault_4 : decode cX11_fault 4 = .ok (.aload_n 0, 1) := by decide +kernel
theorem dX11_fault_5 : decode cX11_fault 5 = .ok (.getfield 92, 3) := by decide +kernel
theorem dX11_fault_8 : decode cX11_fault 8 = .ok (.ireturn, 1) := by decide +kernel
theorem dX11_notes_0 : decode cX11_notes 0 = .ok (.aload_n 0, 1) := by decide +kernel
theorem dX11_notes_1 : decode cX11_notes 1 = .ok (.getfield 16, 3) := by decide +kernel
theorem dX11_notes_4 : decode cX11_notes 4 = .ok (.iload_n 1, 1) := by decide +kernel
theorem dX11_notes_5 : decode cX11_notes 5 = .ok (.invokevirtual 116, 3) := by decide +kernel
theorem dX11_notes_8 : decode cX11_notes 8 = .ok (.ifCond .eq 18, 3) := by decide +kernel
theorem dX11_notes_26 : decode cX11_notes 26 = .ok (.iconst (-1), 1) := by decide +kernel
theorem dX11_notes_27 : decode cX11_notes 27 = .ok (.ireturn, 1) := by decide +kernel
theorem dX11_notes_11 : decode cX11_notes 11 = .ok (.aload_n 0, 1) := by decide +kernel
theorem dX11_notes_12 : decode cX11_notes 12 = .ok (.getfield 16, 3) := by decide +kernel
theorem dX11_notes_15 : decode cX11_notes 15 = .ok (.getfield 120, 3) := by decide +kernel
theorem dX11_notes_18 : decode cX11_notes 18 = .ok (.iload_n 1, 1) := by decide +kernel
theorem dX11_notes_19 : decode cX11_notes 19 = .ok (.aaload, 1) := by decide +kernel
theorem dX11_notes_20 : decode cX11_notes 20 = .ok (.getfield 124, 3) := by decide +kernel
theorem dX11_notes_23 : decode cX11_notes 23 = .ok (.goto 4, 3) := by decide +kernel
theorem dX11_step_0 : decode cX11_step 0 = .ok (.aload_n 0, 1) := by decide +kernel
theorem dX11_step_1 : decode cX11_step 1 = .ok (.getfield 16, 3) := by decide +kernel
theorem dX11_step_4 : decode cX11_step 4 = .ok (.iload_n 1, 1) := by decide +kernel
theorem dX11_step_5 : decode cX11_step 5 = .ok (.invokevirtual 116, 3) := by decide +kernel
theorem dX11_step_8 : decode cX11_step 8 = .ok (.ifCond .eq 25, 3) := by decide +kernel
theorem dX11_step_33 : decode cX11_step 33 = .ok (.ldc 129, 2) := by decide +kernel
theorem dX11_step_35 : decode cX11_step 35 = .ok (.ireturn, 1) := by decide +kernel
theorem dX11_step_11 : decode cX11_step 11 = .ok (.iload_n 2, 1) := by decide +kernel
theorem dX11_step_12 : decode cX11_step 12 = .ok (.ifCond .lt 21, 3) := by decide +kernel
theorem dX11_step_15 : decode cX11_step 15 = .ok (.iload_n 2, 1) := by decide +kernel
theorem dX11_step_16 : decode cX11_step 16 = .ok (.aload_n 0, 1) := by decide +kernel
theorem dX11_step_17 : decode cX11_step 17 = .ok (.getfield 16, 3) := by decide +kernel
theorem dX11_step_20 : decode cX11_step 20 = .ok (.getfield 120, 3) := by decide +kernel
theorem dX11_step_23 : decode cX11_step 23 = .ok (.iload_n 1, 1) := by decide +kernel
theorem dX11_step_24 : decode cX11_step 24 = .ok (.aaload, 1) := by decide +kernel
theorem dX11_step_25 : decode cX11_step 25 = .ok (.getfield 124, 3) := by decide +kernel
theorem dX11_step_28 : decode cX11_step 28 = .ok (.iconst 1, 1) := by decide +kernel
theorem dX11_step_29 : decode cX11_step 29 = .ok (.isub, 1) := by decide +kernel
theorem dX11_step_30 : decode cX11_step 30 = .ok (.if_icmp .lt 6, 3) := by decide +kernel
theorem dX11_step_36 : decode cX11_step 36 = .ok (.aload_n 0, 1) := by decide +kernel
theorem dX11_step_37 : decode cX11_step 37 = .ok (.getfield 16, 3) := by decide +kernel
theorem dX11_step_40 : decode cX11_step 40 = .ok (.getfield 120, 3) := by decide +kernel
theorem dX11_step_43 : decode cX11_step 43 = .ok (.iload_n 1, 1) := by decide +kernel
theorem dX11_step_44 : decode cX11_step 44 = .ok (.aaload, 1) := by decide +kernel
theorem dX11_step_45 : decode cX11_step 45 = .ok (.iload_n 2, 1) := by decide +kernel
theorem dX11_step_46 : decode cX11_step 46 = .ok (.iconst 1, 1) := by decide +kernel
theorem dX11_step_47 : decode cX11_step 47 = .ok (.iadd, 1) := by decide +kernel
theorem dX11_step_48 : decode cX11_step 48 = .ok (.invokevirtual 130, 3) := by decide +kernel
theorem dX11_step_51 : decode cX11_step 51 = .ok (.ireturn, 1) := by decide +kernel
theorem dX11_off_0 : decode cX11_off 0 = .ok (.aload_n 0, 1) := by decide +kernel
theorem dX11_off_1 : decode cX11_off 1 = .ok (.getfield 16, 3) := by decide +kernel
theorem dX11_off_4 : decode cX11_off 4 = .ok (.iload_n 1, 1) := by decide +kernel
theorem dX11_off_5 : decode cX11_off 5 = .ok (.invokevirtual 116, 3) := by decide +kernel
theorem dX11_off_8 : decode cX11_off 8 = .ok (.ifCond .eq 14, 3) := by decide +kernel
theorem dX11_off_22 : decode cX11_off 22 = .ok (.iconst (-1), 1) := by decide +kernel
theorem dX11_off_23 : decode cX11_off 23 = .ok (.ireturn, 1) := by decide +kernel
theorem dX11_off_11 : decode cX11_off 11 = .ok (.aload_n 0, 1) := by decide +kernel
theorem dX11_off_12 : decode cX11_off 12 = .ok (.getfield 16, 3) := by decide +kernel
theorem dX11_off_15 : decode cX11_off 15 = .ok (.iload_n 2, 1) := by decide +kernel
theorem dX11_off_16 : decode cX11_off 16 = .ok (.invokevirtual 116, 3) := by decide +kernel
theorem dX11_off_19 : decode cX11_off 19 = .ok (.ifCond .ne 5, 3) := by decide +kernel
theorem dX11_off_24 : decode cX11_off 24 = .ok (.aload_n 0, 1) := by decide +kernel
theorem dX11_off_25 : decode cX11_off 25 = .ok (.getfield 16, 3) := by decide +kernel
theorem dX11_off_28 : decode cX11_off 28 = .ok (.getfield 120, 3) := by decide +kernel
theorem dX11_off_31 : decode cX11_off 31 = .ok (.iload_n 1, 1) := by decide +kernel
theorem dX11_off_32 : decode cX11_off 32 = .ok (.aaload, 1) := by decide +kernel
theorem dX11_off_33 : decode cX11_off 33 = .ok (.aload_n 0, 1) := by decide +kernel
theorem dX11_off_34 : decode cX11_off 34 = .ok (.getfield 16, 3) := by decide +kernel
theorem dX11_off_37 : decode cX11_off 37 = .ok (.getfield 120, 3) := by decide +kernel
theorem dX11_off_40 : decode cX11_off 40 = .ok (.iload_n 2, 1) := by decide +kernel
theorem dX11_off_41 : decode cX11_off 41 = .ok (.aaload, 1) := by decide +kernel
theorem dX11_off_42 : decode cX11_off 42 = .ok (.iload_n 3, 1) := by decide +kernel
theorem dX11_off_43 : decode cX11_off 43 = .ok (.invokevirtual 134, 3) := by decide +kernel
theorem dX11_off_46 : decode cX11_off 46 = .ok (.ireturn, 1) := by decide +kernel
theorem dX11_tellIn_0 : decode cX11_tellIn 0 = .ok (.aload_n 1, 1) := by decide +kernel
theorem dX11_tellIn_1 : decode cX11_tellIn 1 = .ok (.getfield 146, 3) := by decide +kernel
theorem dX11_tellIn_4 : decode cX11_tellIn 4 = .ok (.iload_n 2, 1) := by decide +kernel
theorem dX11_tellIn_5 : decode cX11_tellIn 5 = .ok (.iaload, 1) := by decide +kernel
theorem dX11_tellIn_6 : decode cX11_tellIn 6 = .ok (.istore 5, 2) := by decide +kernel
theorem dX11_tellIn_8 : decode cX11_tellIn 8 = .ok (.iload 5, 2) := by decide +kernel
theorem dX11_tellIn_10 : decode cX11_tellIn 10 = .ok (.iconst (-1), 1) := by decide +kernel
theorem dX11_tellIn_11 : decode cX11_tellIn 11 = .ok (.if_icmp .ne 5, 3) := by decide +kernel
theorem dX11_tellIn_16 : decode cX11_tellIn 16 = .ok (.iload 4, 2) := by decide +kernel
theorem dX11_tellIn_18 : decode cX11_tellIn 18 = .ok (.tableswitch 52 0 2 #[26, 29, 36], 26) := by decide +kernel
theorem dX11_tellIn_70 : decode cX11_tellIn 70 = .ok (.iconst (-1), 1) := by decide +kernel
theorem dX11_tellIn_71 : decode cX11_tellIn 71 = .ok (.ireturn, 1) := by decide +kernel
theorem dX11_tellIn_44 : decode cX11_tellIn 44 = .ok (.iload 5, 2) := by decide +kernel
theorem dX11_tellIn_46 : decode cX11_tellIn 46 = .ok (.ireturn, 1) := by decide +kernel
theorem dX11_tellIn_47 : decode cX11_tellIn 47 = .ok (.aload_n 1, 1) := by decide +kernel
theorem dX11_tellIn_48 : decode cX11_tellIn 48 = .ok (.getfield 150, 3) := by decide +kernel
theorem dX11_tellIn_51 : decode cX11_tellIn 51 = .ok (.iload_n 2, 1) := by decide +kernel
theorem dX11_tellIn_52 : decode cX11_tellIn 52 = .ok (.iaload, 1) := by decide +kernel
theorem dX11_tellIn_53 : decode cX11_tellIn 53 = .ok (.ireturn, 1) := by decide +kernel
theorem dX11_tellIn_54 : decode cX11_tellIn 54 = .ok (.aload_n 0, 1) := by decide +kernel
theorem dX11_tellIn_55 : decode cX11_tellIn 55 = .ok (.getfield 16, 3) := by decide +kernel
theorem dX11_tellIn_58 : decode cX11_tellIn 58 = .ok (.getfield 120, 3) := by decide +kernel
theorem dX11_tellIn_61 : decode cX11_tellIn 61 = .ok (.iload_n 2, 1) := by decide +kernel
theorem dX11_tellIn_62 : decode cX11_tellIn 62 = .ok (.aaload, 1) := by decide +kernel
theorem dX11_tellIn_63 : decode cX11_tellIn 63 = .ok (.aload_n 3, 1) := by decide +kernel
theorem dX11_tellIn_64 : decode cX11_tellIn 64 = .ok (.iload 5, 2) := by decide +kernel
theorem dX11_tellIn_66 : decode cX11_tellIn 66 = .ok (.invokevirtual 153, 3) := by decide +kernel
theorem dX11_tellIn_69 : decode cX11_tellIn 69 = .ok (.ireturn, 1) := by decide +kernel
theorem dX11_tellIn_14 : decode cX11_tellIn 14 = .ok (.iconst (-1), 1) := by decide +kernel
theorem dX11_tellIn_15 : decode cX11_tellIn 15 = .ok (.ireturn, 1) := by decide +kernel
theorem dX11_in_0 : decode cX11_in 0 = .ok (.aload_n 0, 1) := by decide +kernel
theorem dX11_in_1 : decode cX11_in 1 = .ok (.getfield 16, 3) := by decide +kernel
theorem dX11_in_4 : decode cX11_in 4 = .ok (.iload_n 1, 1) := by decide +kernel
theorem dX11_in_5 : decode cX11_in 5 = .ok (.invokevirtual 116, 3) := by decide +kernel
theorem dX11_in_8 : decode cX11_in 8 = .ok (.ifCond .eq 14, 3) := by decide +kernel
theorem dX11_in_22 : decode cX11_in 22 = .ok (.iconst (-1), 1) := by decide +kernel
theorem dX11_in_23 : decode cX11_in 23 = .ok (.ireturn, 1) := by decide +kernel
theorem dX11_in_11 : decode cX11_in 11 = .ok (.aload_n 0, 1) := by decide +kernel
theorem dX11_in_12 : decode cX11_in 12 = .ok (.getfield 16, 3) := by decide +kernel
theorem dX11_in_15 : decode cX11_in 15 = .ok (.iload_n 2, 1) := by decide +kernel
theorem dX11_in_16 : decode cX11_in 16 = .ok (.invokevirtual 116, 3) := by decide +kernel
theorem dX11_in_19 : decode cX11_in 19 = .ok (.ifCond .ne 5, 3) := by decide +kernel
theorem dX11_in_24 : decode cX11_in 24 = .ok (.aload_n 0, 1) := by decide +kernel
theorem dX11_in_25 : decode cX11_in 25 = .ok (.aload_n 0, 1) := by decide +kernel
theorem dX11_in_26 : decode cX11_in 26 = .ok (.getfield 16, 3) := by decide +kernel
theorem dX11_in_29 : decode cX11_in 29 = .ok (.getfield 138, 3) := by decide +kernel
theorem dX11_in_32 : decode cX11_in 32 = .ok (.iload_n 2, 1) := by decide +kernel
theorem dX11_in_33 : decode cX11_in 33 = .ok (.aaload, 1) := by decide +kernel
theorem dX11_in_34 : decode cX11_in 34 = .ok (.iload_n 1, 1) := by decide +kernel
theorem dX11_in_35 : decode cX11_in 35 = .ok (.aload_n 0, 1) := by decide +kernel
theorem dX11_in_36 : decode cX11_in 36 = .ok (.getfield 16, 3) := by decide +kernel
theorem dX11_in_39 : decode cX11_in 39 = .ok (.getfield 120, 3) := by decide +kernel
theorem dX11_in_42 : decode cX11_in 42 = .ok (.iload_n 2, 1) := by decide +kernel
theorem dX11_in_43 : decode cX11_in 43 = .ok (.aaload, 1) := by decide +kernel
theorem dX11_in_44 : decode cX11_in 44 = .ok (.iload_n 3, 1) := by decide +kernel
theorem dX11_in_45 : decode cX11_in 45 = .ok (.invokevirtual 142, 3) := by decide +kernel
theorem dX11_in_48 : decode cX11_in 48 = .ok (.ireturn, 1) := by decide +kernel
theorem dX11_heard_0 : decode cX11_heard 0 = .ok (.aload_n 0, 1) := by decide +kernel
theorem dX11_heard_1 : decode cX11_heard 1 = .ok (.getfield 16, 3) := by decide +kernel
theorem dX11_heard_4 : decode cX11_heard 4 = .ok (.iload_n 1, 1) := by decide +kernel
theorem dX11_heard_5 : decode cX11_heard 5 = .ok (.invokevirtual 116, 3) := by decide +kernel
theorem dX11_heard_8 : decode cX11_heard 8 = .ok (.ifCond .ne 5, 3) := by decide +kernel
theorem dX11_heard_13 : decode cX11_heard 13 = .ok (.aload_n 0, 1) := by decide +kernel
theorem dX11_heard_14 : decode cX11_heard 14 = .ok (.aload_n 0, 1) := by decide +kernel
theorem dX11_heard_15 : decode cX11_heard 15 = .ok (.getfield 41, 3) := by decide +kernel
theorem dX11_heard_18 : decode cX11_heard 18 = .ok (.iload_n 1, 1) := by decide +kernel
theorem dX11_heard_19 : decode cX11_heard 19 = .ok (.aload_n 0, 1) := by decide +kernel
theorem dX11_heard_20 : decode cX11_heard 20 = .ok (.getfield 30, 3) := by decide +kernel
theorem dX11_heard_23 : decode cX11_heard 23 = .ok (.getfield 104, 3) := by decide +kernel
theorem dX11_heard_26 : decode cX11_heard 26 = .ok (.iload_n 2, 1) := by decide +kernel
theorem dX11_heard_27 : decode cX11_heard 27 = .ok (.invokevirtual 142, 3) := by decide +kernel
theorem dX11_heard_30 : decode cX11_heard 30 = .ok (.ireturn, 1) := by decide +kernel
theorem dX11_heard_11 : decode cX11_heard 11 = .ok (.iconst (-1), 1) := by decide +kernel
theorem dX11_heard_12 : decode cX11_heard 12 = .ok (.ireturn, 1) := by decide +kernel
theorem dX11_doors_0 : decode cX11_doors 0 = .ok (.aload_n 0, 1) := by decide +kernel
theorem dX11_doors_1 : decode cX11_doors 1 = .ok (.getfield 16, 3) := by decide +kernel
theorem dX11_doors_4 : decode cX11_doors 4 = .ok (.iload_n 1, 1) := by decide +kernel
theorem dX11_doors_5 : decode cX11_doors 5 = .ok (.invokevirtual 116, 3) := by decide +kernel
theorem dX11_doors_8 : decode cX11_doors 8 = .ok (.ifCond .ne 5, 3) := by decide +kernel
theorem dX11_doors_13 : decode cX11_doors 13 = .ok (.iconst 0, 1) := by decide +kernel
theorem dX11_doors_14 : decode cX11_doors 14 = .ok (.istore_n 3, 1) := by decide +kernel
theorem dX11_doors_15 : decode cX11_doors 15 = .ok (.iconst 0, 1) := by decide +kernel
theorem dX11_doors_16 : decode cX11_doors 16 = .ok (.istore 4, 2) := by decide +kernel
theorem dX11_doors_18 : decode cX11_doors 18 = .ok (.iload 4, 2) := by decide +kernel
theorem dX11_doors_20 : decode cX11_doors 20 = .ok (.aload_n 0, 1) := by decide +kernel
theorem dX11_doors_21 : decode cX11_doors 21 = .ok (.getfield 16, 3) := by decide +kernel
theorem dX11_doors_24 : decode cX11_doors 24 = .ok (.getfield 113, 3) := by decide +kernel
theorem dX11_doors_27 : decode cX11_doors 27 = .ok (.if_icmp .ge 48, 3) := by decide +kernel
theorem dX11_doors_75 : decode cX11_doors 75 = .ok (.iload_n 3, 1) := by decide +kernel
theorem dX11_doors_76 : decode cX11_doors 76 = .ok (.ireturn, 1) := by decide +kernel
theorem dX11_doors_30 : decode cX11_doors 30 = .ok (.aload_n 0, 1) := by decide +kernel
theorem dX11_doors_31 : decode cX11_doors 31 = .ok (.getfield 16, 3) := by decide +kernel
theorem dX11_doors_34 : decode cX11_doors 34 = .ok (.iload 4, 2) := by decide +kernel
theorem dX11_doors_36 : decode cX11_doors 36 = .ok (.aload_n 0, 1) := by decide +kernel
theorem dX11_doors_37 : decode cX11_doors 37 = .ok (.getfield 16, 3) := by decide +kernel
theorem dX11_doors_40 : decode cX11_doors 40 = .ok (.getfield 138, 3) := by decide +kernel
theorem dX11_doors_43 : decode cX11_doors 43 = .ok (.iload_n 1, 1) := by decide +kernel
theorem dX11_doors_44 : decode cX11_doors 44 = .ok (.aaload, 1) := by decide +kernel
theorem dX11_doors_45 : decode cX11_doors 45 = .ok (.iload_n 2, 1) := by decide +kernel
theorem dX11_doors_46 : decode cX11_doors 46 = .ok (.aload_n 0, 1) := by decide +kernel
theorem dX11_doors_47 : decode cX11_doors 47 = .ok (.getfield 30, 3) := by decide +kernel
theorem dX11_doors_50 : decode cX11_doors 50 = .ok (.getfield 156, 3) := by decide +kernel
theorem dX11_doors_53 : decode cX11_doors 53 = .ok (.iload 4, 2) := by decide +kernel
theorem dX11_doors_55 : decode cX11_doors 55 = .ok (.iaload, 1) := by decide +kernel
theorem dX11_doors_56 : decode cX11_doors 56 = .ok (.invokevirtual 159, 3) := by decide +kernel
theorem dX11_doors_59 : decode cX11_doors 59 = .ok (.ifCond .eq 10, 3) := by decide +kernel
theorem dX11_doors_69 : decode cX11_doors 69 = .ok (.iinc 4 1, 3) := by decide +kernel
theorem dX11_doors_72 : decode cX11_doors 72 = .ok (.goto (-54), 3) := by decide +kernel
theorem dX11_doors_62 : decode cX11_doors 62 = .ok (.iload_n 3, 1) := by decide +kernel
theorem dX11_doors_63 : decode cX11_doors 63 = .ok (.iconst 1, 1) := by decide +kernel
theorem dX11_doors_64 : decode cX11_doors 64 = .ok (.iload 4, 2) := by decide +kernel
theorem dX11_doors_66 : decode cX11_doors 66 = .ok (.ishl, 1) := by decide +kernel
theorem dX11_doors_67 : decode cX11_doors 67 = .ok (.ior, 1) := by decide +kernel
theorem dX11_doors_68 : decode cX11_doors 68 = .ok (.istore_n 3, 1) := by decide +kernel
theorem dX11_doors_11 : decode cX11_doors 11 = .ok (.iconst (-1), 1) := by decide +kernel
theorem dX11_doors_12 : decode cX11_doors 12 = .ok (.ireturn, 1) := by decide +kernel
theorem dX11_asked_0 : decode cX11_asked 0 = .ok (.aload_n 0, 1) := by decide +kernel
theorem dX11_asked_1 : decode cX11_asked 1 = .ok (.getfield 16, 3) := by decide +kernel
theorem dX11_asked_4 : decode cX11_asked 4 = .ok (.iload_n 1, 1) := by decide +kernel
theorem dX11_asked_5 : decode cX11_asked 5 = .ok (.invokevirtual 163, 3) := by decide +kernel
theorem dX11_asked_8 : decode cX11_asked 8 = .ok (.ifCond .eq 14, 3) := by decide +kernel
theorem dX11_asked_22 : decode cX11_asked 22 = .ok (.ldc 129, 2) := by decide +kernel
theorem dX11_asked_24 : decode cX11_asked 24 = .ok (.ireturn, 1) := by decide +kernel
theorem dX11_asked_11 : decode cX11_asked 11 = .ok (.aload_n 0, 1) := by decide +kernel
theorem dX11_asked_12 : decode cX11_asked 12 = .ok (.getfield 16, 3) := by decide +kernel
theorem dX11_asked_15 : decode cX11_asked 15 = .ok (.iload_n 2, 1) := by decide +kernel
theorem dX11_asked_16 : decode cX11_asked 16 = .ok (.invokevirtual 116, 3) := by decide +kernel
theorem dX11_asked_19 : decode cX11_asked 19 = .ok (.ifCond .ne 6, 3) := by decide +kernel
theorem dX11_asked_25 : decode cX11_asked 25 = .ok (.aload_n 0, 1) := by decide +kernel
theorem dX11_asked_26 : decode cX11_asked 26 = .ok (.getfield 16, 3) := by decide +kernel
theorem dX11_asked_29 : decode cX11_asked 29 = .ok (.iload_n 1, 1) := by decide +kernel
theorem dX11_asked_30 : decode cX11_asked 30 = .ok (.aload_n 0, 1) := by decide +kernel
theorem dX11_asked_31 : decode cX11_asked 31 = .ok (.getfield 16, 3) := by decide +kernel
theorem dX11_asked_34 : decode cX11_asked 34 = .ok (.getfield 138, 3) := by decide +kernel
theorem dX11_asked_37 : decode cX11_asked 37 = .ok (.iload_n 2, 1) := by decide +kernel
theorem dX11_asked_38 : decode cX11_asked 38 = .ok (.aaload, 1) := by decide +kernel
theorem dX11_asked_39 : decode cX11_asked 39 = .ok (.iload_n 3, 1) := by decide +kernel
theorem dX11_asked_40 : decode cX11_asked 40 = .ok (.aload_n 0, 1) := by decide +kernel
theorem dX11_asked_41 : decode cX11_asked 41 = .ok (.getfield 30, 3) := by decide +kernel
theorem dX11_asked_44 : decode cX11_asked 44 = .ok (.getfield 156, 3) := by decide +kernel
theorem dX11_asked_47 : decode cX11_asked 47 = .ok (.iload_n 1, 1) := by decide +kernel
theorem dX11_asked_48 : decode cX11_asked 48 = .ok (.iaload, 1) := by decide +kernel
theorem dX11_asked_49 : decode cX11_asked 49 = .ok (.invokevirtual 166, 3) := by decide +kernel
theorem dX11_asked_52 : decode cX11_asked 52 = .ok (.ireturn, 1) := by decide +kernel
theorem dX11_least_0 : decode cX11_least 0 = .ok (.aload_n 0, 1) := by decide +kernel
theorem dX11_least_1 : decode cX11_least 1 = .ok (.getfield 16, 3) := by decide +kernel
theorem dX11_least_4 : decode cX11_least 4 = .ok (.iload_n 1, 1) := by decide +kernel
theorem dX11_least_5 : decode cX11_least 5 = .ok (.invokevirtual 163, 3) := by decide +kernel
theorem dX11_least_8 : decode cX11_least 8 = .ok (.ifCond .ne 5, 3) := by decide +kernel
theorem dX11_least_13 : decode cX11_least 13 = .ok (.iconst (-1), 1) := by decide +kernel
theorem dX11_least_14 : decode cX11_least 14 = .ok (.istore_n 3, 1) := by decide +kernel
theorem dX11_least_15 : decode cX11_least 15 = .ok (.iconst 0, 1) := by decide +kernel
theorem dX11_least_16 : decode cX11_least 16 = .ok (.istore 4, 2) := by decide +kernel
theorem dX11_least_18 : decode cX11_least 18 = .ok (.iload 4, 2) := by decide +kernel
theorem dX11_least_20 : decode cX11_least 20 = .ok (.aload_n 0, 1) := by decide +kernel
theorem dX11_least_21 : decode cX11_least 21 = .ok (.getfield 16, 3) := by decide +kernel
theorem dX11_least_24 : decode cX11_least 24 = .ok (.getfield 170, 3) := by decide +kernel
theorem dX11_least_27 : decode cX11_least 27 = .ok (.if_icmp .ge 88, 3) := by decide +kernel
theorem dX11_least_115 : decode cX11_least 115 = .ok (.iload_n 3, 1) := by decide +kernel
theorem dX11_least_116 : decode cX11_least 116 = .ok (.ireturn, 1) := by decide +kernel
theorem dX11_least_68 : decode cX11_least 68 = .ok (.istore 5, 2) := by decide +kernel
theorem dX11_least_70 : decode cX11_least 70 = .ok (.iload 5, 2) := by decide +kernel
theorem dX11_least_72 : decode cX11_least 72 = .ok (.ifCond .eq 37, 3) := by decide +kernel
theorem dX11_least_109 : decode cX11_least 109 = .ok (.iinc 4 1, 3) := by decide +kernel
theorem dX11_least_112 : decode cX11_least 112 = .ok (.goto (-94), 3) := by decide +kernel
theorem dX11_least_75 : decode cX11_least 75 = .ok (.aload_n 0, 1) := by decide +kernel
theorem dX11_least_76 : decode cX11_least 76 = .ok (.getfield 16, 3) := by decide +kernel
theorem dX11_least_79 : decode cX11_least 79 = .ok (.iload_n 1, 1) := by decide +kernel
theorem dX11_least_80 : decode cX11_least 80 = .ok (.aload_n 0, 1) := by decide +kernel
theorem dX11_least_81 : decode cX11_least 81 = .ok (.getfield 16, 3) := by decide +kernel
theorem dX11_least_84 : decode cX11_least 84 = .ok (.getfield 138, 3) := by decide +kernel
theorem dX11_least_87 : decode cX11_least 87 = .ok (.iload 4, 2) := by decide +kernel
theorem dX11_least_89 : decode cX11_least 89 = .ok (.aaload, 1) := by decide +kernel
theorem dX11_least_90 : decode cX11_least 90 = .ok (.iload_n 2, 1) := by decide +kernel
theorem dX11_least_91 : decode cX11_least 91 = .ok (.aload_n 0, 1) := by decide +kernel
theorem dX11_least_92 : decode cX11_least 92 = .ok (.getfield 30, 3) := by decide +kernel
theorem dX11_least_95 : decode cX11_least 95 = .ok (.getfield 156, 3) := by decide +kernel
theorem dX11_least_98 : decode cX11_least 98 = .ok (.iload_n 1, 1) := by decide +kernel
theorem dX11_least_99 : decode cX11_least 99 = .ok (.iaload, 1) := by decide +kernel
theorem dX11_least_100 : decode cX11_least 100 = .ok (.invokevirtual 159, 3) := by decide +kernel
theorem dX11_least_103 : decode cX11_least 103 = .ok (.ifCond .eq 6, 3) := by decide +kernel
theorem dX11_least_106 : decode cX11_least 106 = .ok (.iload 4, 2) := by decide +kernel
theorem dX11_least_108 : decode cX11_least 108 = .ok (.istore_n 3, 1) := by decide +kernel
theorem dX11_least_30 : decode cX11_least 30 = .ok (.iload_n 3, 1) := by decide +kernel
theorem dX11_least_31 : decode cX11_least 31 = .ok (.iconst (-1), 1) := by decide +kernel
theorem dX11_least_32 : decode cX11_least 32 = .ok (.if_icmp .eq 31, 3) := by decide +kernel
theorem dX11_least_63 : decode cX11_least 63 = .ok (.iconst 1, 1) := by decide +kernel
theorem dX11_least_64 : decode cX11_least 64 = .ok (.goto 4, 3) := by decide +kernel
theorem dX11_least_35 : decode cX11_least 35 = .ok (.aload_n 0, 1) := by decide +kernel
theorem dX11_least_36 : decode cX11_least 36 = .ok (.getfield 16, 3) := by decide +kernel
theorem dX11_least_39 : decode cX11_least 39 = .ok (.getfield 120, 3) := by decide +kernel
theorem dX11_least_42 : decode cX11_least 42 = .ok (.iload 4, 2) := by decide +kernel
theorem dX11_least_44 : decode cX11_least 44 = .ok (.aaload, 1) := by decide +kernel
theorem dX11_least_45 : decode cX11_least 45 = .ok (.getfield 124, 3) := by decide +kernel
theorem dX11_least_48 : decode cX11_least 48 = .ok (.aload_n 0, 1) := by decide +kernel
theorem dX11_least_49 : decode cX11_least 49 = .ok (.getfield 16, 3) := by decide +kernel
theorem dX11_least_52 : decode cX11_least 52 = .ok (.getfield 120, 3) := by decide +kernel
theorem dX11_least_55 : decode cX11_least 55 = .ok (.iload_n 3, 1) := by decide +kernel
theorem dX11_least_56 : decode cX11_least 56 = .ok (.aaload, 1) := by decide +kernel
theorem dX11_least_57 : decode cX11_least 57 = .ok (.getfield 124, 3) := by decide +kernel
theorem dX11_least_60 : decode cX11_least 60 = .ok (.if_icmp .ge 7, 3) := by decide +kernel
theorem dX11_least_67 : decode cX11_least 67 = .ok (.iconst 0, 1) := by decide +kernel
theorem dX11_least_11 : decode cX11_least 11 = .ok (.iconst (-1), 1) := by decide +kernel
theorem dX11_least_12 : decode cX11_least 12 = .ok (.ireturn, 1) := by decide +kernel
theorem dX11_dealt_0 : decode cX11_dealt 0 = .ok (.iload_n 1, 1) := by decide +kernel
theorem dX11_dealt_1 : decode cX11_dealt 1 = .ok (.ifCond .lt 9, 3) := by decide +kernel
theorem dX11_dealt_10 : decode cX11_dealt 10 = .ok (.iconst (-1), 1) := by decide +kernel
theorem dX11_dealt_11 : decode cX11_dealt 11 = .ok (.ireturn, 1) := by decide +kernel
theorem dX11_dealt_4 : decode cX11_dealt 4 = .ok (.iload_n 1, 1) := by decide +kernel
theorem dX11_dealt_5 : decode cX11_dealt 5 = .ok (.bipush 99, 2) := by decide +kernel
theorem dX11_dealt_7 : decode cX11_dealt 7 = .ok (.if_icmp .le 5, 3) := by decide +kernel
theorem dX11_dealt_12 : decode cX11_dealt 12 = .ok (.aload_n 0, 1) := by decide +kernel
theorem dX11_dealt_13 : decode cX11_dealt 13 = .ok (.getfield 55, 3) := by decide +kernel
theorem dX11_dealt_16 : decode cX11_dealt 16 = .ok (.aload_n 0, 1) := by decide +kernel
theorem dX11_dealt_17 : decode cX11_dealt 17 = .ok (.getfield 16, 3) := by decide +kernel
theorem dX11_dealt_20 : decode cX11_dealt 20 = .ok (.iload_n 1, 1) := by decide +kernel
theorem dX11_dealt_21 : decode cX11_dealt 21 = .ok (.invokevirtual 173, 3) := by decide +kernel
theorem dX11_dealt_24 : decode cX11_dealt 24 = .ok (.ireturn, 1) := by decide +kernel
theorem dX11_round_0 : decode cX11_round 0 = .ok (.aload_n 0, 1) := by decide +kernel
theorem dX11_round_1 : decode cX11_round 1 = .ok (.getfield 16, 3) := by decide +kernel
theorem dX11_round_4 : decode cX11_round 4 = .ok (.iload_n 1, 1) := by decide +kernel
theorem dX11_round_5 : decode cX11_round 5 = .ok (.invokevirtual 116, 3) := by decide +kernel
theorem dX11_round_8 : decode cX11_round 8 = .ok (.ifCond .eq 14, 3) := by decide +kernel
theorem dX11_round_22 : decode cX11_round 22 = .ok (.iconst (-1), 1) := by decide +kernel
theorem dX11_round_23 : decode cX11_round 23 = .ok (.ireturn, 1) := by decide +kernel
theorem dX11_round_11 : decode cX11_round 11 = .ok (.iload_n 2, 1) := by decide +kernel
theorem dX11_round_12 : decode cX11_round 12 = .ok (.iconst 1, 1) := by decide +kernel
theorem dX11_round_13 : decode cX11_round 13 = .ok (.if_icmp .lt 9, 3) := by decide +kernel
theorem dX11_round_16 : decode cX11_round 16 = .ok (.iload_n 2, 1) := by decide +kernel
theorem dX11_round_17 : decode cX11_round 17 = .ok (.bipush 99, 2) := by decide +kernel
theorem dX11_round_19 : decode cX11_round 19 = .ok (.if_icmp .le 5, 3) := by decide +kernel
theorem dX11_round_24 : decode cX11_round 24 = .ok (.aload_n 0, 1) := by decide +kernel
theorem dX11_round_25 : decode cX11_round 25 = .ok (.getfield 69, 3) := by decide +kernel
theorem dX11_round_28 : decode cX11_round 28 = .ok (.aload_n 0, 1) := by decide +kernel
theorem dX11_round_29 : decode cX11_round 29 = .ok (.getfield 16, 3) := by decide +kernel
theorem dX11_round_32 : decode cX11_round 32 = .ok (.getfield 120, 3) := by decide +kernel
theorem dX11_round_35 : decode cX11_round 35 = .ok (.iload_n 1, 1) := by decide +kernel
theorem dX11_round_36 : decode cX11_round 36 = .ok (.aaload, 1) := by decide +kernel
theorem dX11_round_37 : decode cX11_round 37 = .ok (.invokevirtual 193, 3) := by decide +kernel
theorem dX11_round_40 : decode cX11_round 40 = .ok (.aload_n 0, 1) := by decide +kernel
theorem dX11_round_41 : decode cX11_round 41 = .ok (.getfield 69, 3) := by decide +kernel
theorem dX11_round_44 : decode cX11_round 44 = .ok (.iload_n 2, 1) := by decide +kernel
theorem dX11_round_45 : decode cX11_round 45 = .ok (.aload_n 0, 1) := by decide +kernel
theorem dX11_round_46 : decode cX11_round 46 = .ok (.getfield 16, 3) := by decide +kernel
theorem dX11_round_49 : decode cX11_round 49 = .ok (.getfield 197, 3) := by decide +kernel
theorem dX11_round_52 : decode cX11_round 52 = .ok (.invokevirtual 201, 3) := by decide +kernel
theorem dX11_round_55 : decode cX11_round 55 = .ok (.ireturn, 1) := by decide +kernel
theorem dX11_good_0 : decode cX11_good 0 = .ok (.aload_n 0, 1) := by decide +kernel
theorem dX11_good_1 : decode cX11_good 1 = .ok (.getfield 16, 3) := by decide +kernel
theorem dX11_good_4 : decode cX11_good 4 = .ok (.iload_n 1, 1) := by decide +kernel
theorem dX11_good_5 : decode cX11_good 5 = .ok (.invokevirtual 116, 3) := by decide +kernel
theorem dX11_good_8 : decode cX11_good 8 = .ok (.ifCond .eq 12, 3) := by decide +kernel
theorem dX11_good_20 : decode cX11_good 20 = .ok (.iconst (-1), 1) := by decide +kernel
theorem dX11_good_21 : decode cX11_good 21 = .ok (.ireturn, 1) := by decide +kernel
theorem dX11_good_11 : decode cX11_good 11 = .ok (.iload_n 2, 1) := by decide +kernel
theorem dX11_good_12 : decode cX11_good 12 = .ok (.ifCond .lt 8, 3) := by decide +kernel
theorem dX11_good_15 : decode cX11_good 15 = .ok (.iload_n 2, 1) := by decide +kernel
theorem dX11_good_16 : decode cX11_good 16 = .ok (.iconst 1, 1) := by decide +kernel
theorem dX11_good_17 : decode cX11_good 17 = .ok (.if_icmp .le 5, 3) := by decide +kernel
theorem dX11_good_22 : decode cX11_good 22 = .ok (.aload_n 0, 1) := by decide +kernel
theorem dX11_good_23 : decode cX11_good 23 = .ok (.getfield 69, 3) := by decide +kernel
theorem dX11_good_26 : decode cX11_good 26 = .ok (.aload_n 0, 1) := by decide +kernel
theorem dX11_good_27 : decode cX11_good 27 = .ok (.getfield 16, 3) := by decide +kernel
theorem dX11_good_30 : decode cX11_good 30 = .ok (.getfield 120, 3) := by decide +kernel
theorem dX11_good_33 : decode cX11_good 33 = .ok (.iload_n 1, 1) := by decide +kernel
theorem dX11_good_34 : decode cX11_good 34 = .ok (.aaload, 1) := by decide +kernel
theorem dX11_good_35 : decode cX11_good 35 = .ok (.invokevirtual 193, 3) := by decide +kernel
theorem dX11_good_38 : decode cX11_good 38 = .ok (.aload_n 0, 1) := by decide +kernel
theorem dX11_good_39 : decode cX11_good 39 = .ok (.getfield 69, 3) := by decide +kernel
theorem dX11_good_42 : decode cX11_good 42 = .ok (.aload_n 0, 1) := by decide +kernel
theorem dX11_good_43 : decode cX11_good 43 = .ok (.getfield 16, 3) := by decide +kernel
theorem dX11_good_46 : decode cX11_good 46 = .ok (.getfield 197, 3) := by decide +kernel
theorem dX11_good_49 : decode cX11_good 49 = .ok (.invokevirtual 205, 3) := by decide +kernel
theorem dX11_good_52 : decode cX11_good 52 = .ok (.istore_n 3, 1) := by decide +kernel
theorem dX11_good_53 : decode cX11_good 53 = .ok (.iload_n 3, 1) := by decide +kernel
theorem dX11_good_54 : decode cX11_good 54 = .ok (.iconst (-1), 1) := by decide +kernel
theorem dX11_good_55 : decode cX11_good 55 = .ok (.if_icmp .eq 7, 3) := by decide +kernel
theorem dX11_good_62 : decode cX11_good 62 = .ok (.iload_n 3, 1) := by decide +kernel
theorem dX11_good_63 : decode cX11_good 63 = .ok (.ireturn, 1) := by decide +kernel
theorem dX11_good_58 : decode cX11_good 58 = .ok (.iload_n 2, 1) := by decide +kernel
theorem dX11_good_59 : decode cX11_good 59 = .ok (.ifCond .ne 5, 3) := by decide +kernel
theorem dX11_good_64 : decode cX11_good 64 = .ok (.aload_n 0, 1) := by decide +kernel
theorem dX11_good_65 : decode cX11_good 65 = .ok (.getfield 69, 3) := by decide +kernel
theorem dX11_good_68 : decode cX11_good 68 = .ok (.iload_n 3, 1) := by decide +kernel
theorem dX11_good_69 : decode cX11_good 69 = .ok (.aload_n 0, 1) := by decide +kernel
theorem dX11_good_70 : decode cX11_good 70 = .ok (.getfield 16, 3) := by decide +kernel
theorem dX11_good_73 : decode cX11_good 73 = .ok (.getfield 197, 3) := by decide +kernel
theorem dX11_good_76 : decode cX11_good 76 = .ok (.invokevirtual 201, 3) := by decide +kernel
theorem dX11_good_79 : decode cX11_good 79 = .ok (.ireturn, 1) := by decide +kernel
theorem dX11_deaf_0 : decode cX11_deaf 0 = .ok (.aload_n 0, 1) := by decide +kernel
theorem dX11_deaf_1 : decode cX11_deaf 1 = .ok (.getfield 16, 3) := by decide +kernel
theorem dX11_deaf_4 : decode cX11_deaf 4 = .ok (.iload_n 1, 1) := by decide +kernel
theorem dX11_deaf_5 : decode cX11_deaf 5 = .ok (.invokevirtual 116, 3) := by decide +kernel
theorem dX11_deaf_8 : decode cX11_deaf 8 = .ok (.ifCond .eq 24, 3) := by decide +kernel
theorem dX11_deaf_32 : decode cX11_deaf 32 = .ok (.iconst (-1), 1) := by decide +kernel
theorem dX11_deaf_33 : decode cX11_deaf 33 = .ok (.ireturn, 1) := by decide +kernel
theorem dX11_deaf_11 : decode cX11_deaf 11 = .ok (.aload_n 0, 1) := by decide +kernel
theorem dX11_deaf_12 : decode cX11_deaf 12 = .ok (.getfield 16, 3) := by decide +kernel
theorem dX11_deaf_15 : decode cX11_deaf 15 = .ok (.iload_n 2, 1) := by decide +kernel
theorem dX11_deaf_16 : decode cX11_deaf 16 = .ok (.invokevirtual 116, 3) := by decide +kernel
theorem dX11_deaf_19 : decode cX11_deaf 19 = .ok (.ifCond .eq 13, 3) := by decide +kernel
theorem dX11_deaf_22 : decode cX11_deaf 22 = .ok (.iload_n 3, 1) := by decide +kernel
theorem dX11_deaf_23 : decode cX11_deaf 23 = .ok (.ifCond .lt 9, 3) := by decide +kernel
theorem dX11_deaf_26 : decode cX11_deaf 26 = .ok (.iload_n 3, 1) := by decide +kernel
theorem dX11_deaf_27 : decode cX11_deaf 27 = .ok (.bipush 12, 2) := by decide +kernel
theorem dX11_deaf_29 : decode cX11_deaf 29 = .ok (.if_icmp .lt 5, 3) := by decide +kernel
theorem dX11_deaf_34 : decode cX11_deaf 34 = .ok (.iconst (-1), 1) := by decide +kernel
theorem dX11_deaf_35 : decode cX11_deaf 35 = .ok (.istore 4, 2) := by decide +kernel
theorem dX11_deaf_37 : decode cX11_deaf 37 = .ok (.aload_n 0, 1) := by decide +kernel
theorem dX11_deaf_38 : decode cX11_deaf 38 = .ok (.getfield 16, 3) := by decide +kernel
theorem dX11_deaf_41 : decode cX11_deaf 41 = .ok (.getfield 120, 3) := by decide +kernel
theorem dX11_deaf_44 : decode cX11_deaf 44 = .ok (.iload_n 2, 1) := by decide +kernel
theorem dX11_deaf_45 : decode cX11_deaf 45 = .ok (.aaload, 1) := by decide +kernel
theorem dX11_deaf_46 : decode cX11_deaf 46 = .ok (.getfield 124, 3) := by decide +kernel
theorem dX11_deaf_49 : decode cX11_deaf 49 = .ok (.aload_n 0, 1) := by decide +kernel
theorem dX11_deaf_50 : decode cX11_deaf 50 = .ok (.getfield 16, 3) := by decide +kernel
theorem dX11_deaf_53 : decode cX11_deaf 53 = .ok (.getfield 120, 3) := by decide +kernel
theorem dX11_deaf_56 : decode cX11_deaf 56 = .ok (.iload_n 1, 1) := by decide +kernel
theorem dX11_deaf_57 : decode cX11_deaf 57 = .ok (.aaload, 1) := by decide +kernel
theorem dX11_deaf_58 : decode cX11_deaf 58 = .ok (.getfield 124, 3) := by decide +kernel
theorem dX11_deaf_61 : decode cX11_deaf 61 = .ok (.isub, 1) := by decide +kernel
theorem dX11_deaf_62 : decode cX11_deaf 62 = .ok (.iconst 1, 1) := by decide +kernel
theorem dX11_deaf_63 : decode cX11_deaf 63 = .ok (.iadd, 1) := by decide +kernel
theorem dX11_deaf_64 : decode cX11_deaf 64 = .ok (.istore 5, 2) := by decide +kernel
theorem dX11_deaf_66 : decode cX11_deaf 66 = .ok (.iconst 0, 1) := by decide +kernel
theorem dX11_deaf_67 : decode cX11_deaf 67 = .ok (.istore 6, 2) := by decide +kernel
theorem dX11_deaf_69 : decode cX11_deaf 69 = .ok (.iload 6, 2) := by decide +kernel
theorem dX11_deaf_71 : decode cX11_deaf 71 = .ok (.iload 5, 2) := by decide +kernel
theorem dX11_deaf_73 : decode cX11_deaf 73 = .ok (.if_icmp .ge 52, 3) := by decide +kernel
theorem dX11_deaf_125 : decode cX11_deaf 125 = .ok (.iload 4, 2) := by decide +kernel
theorem dX11_deaf_127 : decode cX11_deaf 127 = .ok (.ireturn, 1) := by decide +kernel
theorem dX11_deaf_76 : decode cX11_deaf 76 = .ok (.aload_n 0, 1) := by decide +kernel
theorem dX11_deaf_77 : decode cX11_deaf 77 = .ok (.getfield 16, 3) := by decide +kernel
theorem dX11_deaf_80 : decode cX11_deaf 80 = .ok (.getfield 120, 3) := by decide +kernel
theorem dX11_deaf_83 : decode cX11_deaf 83 = .ok (.iload_n 1, 1) := by decide +kernel
theorem dX11_deaf_84 : decode cX11_deaf 84 = .ok (.aaload, 1) := by decide +kernel
theorem dX11_deaf_85 : decode cX11_deaf 85 = .ok (.aload_n 0, 1) := by decide +kernel
theorem dX11_deaf_86 : decode cX11_deaf 86 = .ok (.getfield 16, 3) := by decide +kernel
theorem dX11_deaf_89 : decode cX11_deaf 89 = .ok (.getfield 120, 3) := by decide +kernel
theorem dX11_deaf_92 : decode cX11_deaf 92 = .ok (.iload_n 2, 1) := by decide +kernel
theorem dX11_deaf_93 : decode cX11_deaf 93 = .ok (.aaload, 1) := by decide +kernel
theorem dX11_deaf_94 : decode cX11_deaf 94 = .ok (.iload 6, 2) := by decide +kernel
theorem dX11_deaf_96 : decode cX11_deaf 96 = .ok (.iload_n 3, 1) := by decide +kernel
theorem dX11_deaf_97 : decode cX11_deaf 97 = .ok (.invokevirtual 209, 3) := by decide +kernel
theorem dX11_deaf_100 : decode cX11_deaf 100 = .ok (.istore 7, 2) := by decide +kernel
theorem dX11_deaf_102 : decode cX11_deaf 102 = .ok (.iload 4, 2) := by decide +kernel
theorem dX11_deaf_104 : decode cX11_deaf 104 = .ok (.iconst (-1), 1) := by decide +kernel
theorem dX11_deaf_105 : decode cX11_deaf 105 = .ok (.if_icmp .eq 10, 3) := by decide +kernel
theorem dX11_deaf_115 : decode cX11_deaf 115 = .ok (.iload 7, 2) := by decide +kernel
theorem dX11_deaf_117 : decode cX11_deaf 117 = .ok (.istore 4, 2) := by decide +kernel
theorem dX11_deaf_119 : decode cX11_deaf 119 = .ok (.iinc 6 1, 3) := by decide +kernel
theorem dX11_deaf_122 : decode cX11_deaf 122 = .ok (.goto (-53), 3) := by decide +kernel
theorem dX11_deaf_108 : decode cX11_deaf 108 = .ok (.iload 7, 2) := by decide +kernel
theorem dX11_deaf_110 : decode cX11_deaf 110 = .ok (.iload 4, 2) := by decide +kernel
theorem dX11_deaf_112 : decode cX11_deaf 112 = .ok (.if_icmp .ge 7, 3) := by decide +kernel
set_option maxHeartbeats 4000000 in
set_option maxRecDepth 100000 in
theorem c_fill (l : Launch) (G : va_G) (cy : Nat → ClassId) (sz : Nat) (L : List Nat) (K : Nat → Nat) (R : Nat → Nat → Nat) (T : Int) (I E : Nat → Nat → Int32) (J B : Nat → Nat → Int64) (arr : Nat) (n : Int32) (hRT : RT L K R) (hI : IV T L K I) (hE : EV L K E) (h_arr1 : arr ∈ L) (h_arr2 : K arr = 34) : Met l yJ7_fill_53178 (.code yJ7_fill_53178 cJ7_fill_53178 4 none :: TBg) ({ frames := 1, cells := 0, slots := 0, locals := 64 }) (va_Pc [.ref arr, .int n] (En G cy (WC cy L K R I J E B) sz)) (va_Qv (fun (u : (Nat → Nat → Int32) × (Nat → Nat → Int64) × (Nat → Nat → Int32) × (Nat → Nat → Int64)) => IV T L K u.1 ∧ EV L K u.2.2.1 ∧ FI [] K I u.1 ∧ (True)) (fun u t => Ex G (va_A (WC cy L K R I J E B) sz) (WC cy L K R u.1 u.2.1 u.2.2.1 u.2.2.2) t) (va_A (WC cy L K R I J E B) sz)) 0 0 (va_A (WC cy L K R I J E B) sz) := by
  have h_arr : arr ∈ L ∧ K arr = 34 := ⟨h_arr1, h_arr2⟩
  refine Met.ofW (cc := cJ7_fill_53178) (maxL := 4) (ret := none) (by decide) rfl ?_
  intro p e s m args below meth c s₁ B9 hml hv9
  obtain ⟨rfl, hsz, hP, hK, hD0, hN⟩ := hv9
  have hx := B9.exec
  have hb := B9.bytes
  have hr := B9.returns
  have hts := atoms_spec (ws := .code yJ7_fill_53178 cJ7_fill_53178 4 none :: TBg) B9.pre
  have ht : ∀ w ∈ TBg, w.before _ s = true := fun w h => hts w (List.mem_cons_of_mem _ h)
  have hown : s.vm.findClass RJ7 = some m.cls := findClass_of_methodNamed B9.named
  have hlocks := B9.notSynchronized
  subst hsz
  have hD := hD0.self (sz := s.heap.size)
  generalize hAe : va_A (WC cy L K R I J E B) s.heap.size = A at hD ⊢
  have hA : ∀ q : Nat, s.heap.size ≤ q → A q := fun q h => by rw [← hAe]; exact Or.inr h
  have hS : va_S A s.heap s.heap [] := va_S.rf
  have hl := lv_entry ([.ref arr, .int n]) (n := 4) (Nat.le_of_ble_eq_true rfl)
  rw [lg_entry_eq]
  generalize (lg_sl ([.ref arr, .int n]) ++ List.replicate (4 - (lg_sl ([.ref arr, .int n])).length) Slot.unset).toArray = ls at hl ⊢
  have hl : lv_has ls 4 [(0, .ref arr), (1, .int n)] := hl
  have z0 : (0 : Int32).toInt = 0 := by decide
  have z1 : (1 : Int32).toInt = 1 := by decide
  have z2 : (8 : Int32).toInt = 8 := by decide
  have hC_0 : FI [] K I I := FI.rf
  refine lv_iconst (v := 0) hx hb dJ7_fill_53178_0 (by decide) ?_
  refine lv_istore_n (lv' := [(2, .int 0), (0, .ref arr), (1, .int n)]) hx hb dJ7_fill_53178_1 rfl hl (by decide) rfl (fun ls hl => ?_)
  refine lv_aload_n hx hb dJ7_fill_53178_2 rfl (lv_at hl 1 rfl) ?_
  refine cn_34 hx hb hK hP h_arr.1 h_arr.2 dJ7_fill_53178_3 ?_
  refine lv_istore_n (lv' := [(3, .int 8), (2, .int 0), (0, .ref arr), (1, .int n)]) hx hb dJ7_fill_53178_4 rfl hl (by decide) rfl (fun ls hl => ?_)
  refine W.widen (k := 0) (n := 0) (Nat.le_of_ble_eq_true rfl) (Nat.le_of_ble_eq_true rfl) ?_
  have lp_1 : ∀ (N_1 : Nat) (x2_1 : Int32) (I1 : Nat → Nat → Int32) (J1 : Nat → Nat → Int64) (E1 : Nat → Nat → Int32) (B1 : Nat → Nat → Int64) (H : Heap) (locs : List Loc) (ls : Array Slot), IV T L K I1 → EV L K E1 → FI [] K I I1 → (0 ≤ x2_1.toInt ∧ x2_1.toInt ≤ 8) → (8 - x2_1.toInt).toNat < N_1 → va_P G vwCl (WC cy L K R I1 J1 E1 B1) H → va_D A (WC cy L K R I1 J1 E1 B1) → va_S A s.heap H locs → lv_has ls 4 [(3, .int 8), (2, .int x2_1), (0, .ref arr), (1, .int n)] → W p l e (headSpec (.code yJ7_fill_53178 cJ7_fill_53178 4 none :: TBg) ({ frames := 1, cells := 0, slots := 0, locals := 64 })).room s m ([.ref arr, .int n] : List Value).toArray below meth c H locs 0 0 (MQ below (va_Qv (fun (u : (Nat → Nat → Int32) × (Nat → Nat → Int64) × (Nat → Nat → Int32) × (Nat → Nat → Int64)) => IV T L K u.1 ∧ EV L K u.2.2.1 ∧ FI [] K I u.1 ∧ (True)) (fun u t => Ex G A (WC cy L K R u.1 u.2.1 u.2.2.1 u.2.2.2) t) A) ([.ref arr, .int n] : List Value).toArray s 0 0 A) (F0 m 5 ls []) := by
    intro N_1
    induction N_1 with
    | zero => intro x2_1 I1 J1 E1 B1 H locs ls hI hE hC_1 qf1_0 hm9 hP hD hS hl; exact absurd hm9 (Nat.not_lt_zero _)
    | succ N_1 ih_1 =>
      intro x2_1 I1 J1 E1 B1 H locs ls hI hE hC_1 qf1_0 hm9 hP hD hS hl
      replace hC_0 := FI.tr hC_0 hC_1 (by decide)
      have hX_1 := hC_1
      refine lv_iload_n hx hb dJ7_fill_53178_5 rfl (lv_at hl 1 rfl) ?_
      refine lv_iload_n hx hb dJ7_fill_53178_6 rfl (lv_at hl 0 rfl) ?_
      refine lv_icmp_ge (tgt := 20) hx hb dJ7_fill_53178_7 (by decide) (fun c_2 => ?_) (fun c_2 => ?_)
      · have q_3 : (8 : Int32).toInt ≤ x2_1.toInt := (ow_le _ _).mp c_2
        refine W.widen (k := 0) (n := 0) (Nat.le_of_ble_eq_true rfl) (Nat.le_of_ble_eq_true rfl) ?_
        exact W.vret hx hb hr (fun t ht9 hW => ⟨⟨(I1, J1, E1, B1), rfl, ⟨hI, hE, hC_0, trivial⟩, ⟨by rw [ht9]; exact hP, hD⟩⟩, hS.F ht9⟩) hS.2.2 dJ7_fill_53178_20
      · have q_4 : x2_1.toInt < (8 : Int32).toInt := by have := (not_congr (ow_le _ _)).mp c_2; omega
        refine lv_aload_n hx hb dJ7_fill_53178_10 rfl (lv_at hl 2 rfl) ?_
        refine lv_iload_n hx hb dJ7_fill_53178_11 rfl (lv_at hl 1 rfl) ?_
        refine lv_iload_n hx hb dJ7_fill_53178_12 rfl (lv_at hl 3 rfl) ?_
        have q_5 : vp_in x2_1 8 := vp_in_iff.mpr ⟨by omega, by omega⟩
        refine cs_34 hx hb hK hP hD hS h_arr.1 h_arr.2 q_5 dJ7_fill_53178_13 (fun H locs hP hD hS => ?_)
        replace hE := EV.up hE h_arr.2 (i := (Int32.toNatClampNeg x2_1)) (ow_any n)
        generalize (va_up E1 arr (upd (E1 arr) (Int32.toNatClampNeg x2_1) n)) = E_6 at hP hD hE
        obtain ⟨v_7, ev_7⟩ : ∃ y : Int32, y = x2_1 + 1 := ⟨_, rfl⟩
        refine lv_iinc (v := v_7) (lv' := [(2, .int v_7), (3, .int 8), (0, .ref arr), (1, .int n)]) hx hb dJ7_fill_53178_14 hl (k := 1) rfl (by rw [ev_7]; rfl) (by decide) rfl (fun ls hl => ?_)
        have q_8 : v_7.toInt = x2_1.toInt + 1 := by have := ow_add ev_7 (by omega) (by omega); omega
        refine lv_goto (tgt := 5) hx hb dJ7_fill_53178_17 (by decide) ?_
        refine W.widen (k := 0) (n := 0) (Nat.le_of_ble_eq_true rfl) (Nat.le_of_ble_eq_true rfl) ?_
        exact ih_1 v_7 I1 J1 E_6 B1 _ _ _ hI hE hX_1 (by omega) (by omega) hP hD hS (lv_sub hl [1, 0, 2, 3] rfl)
  exact lp_1 _ (0) I J E B _ _ _ hI hE FI.rf (by omega) (Nat.lt_succ_self _) hP hD hS (lv_sub hl [0, 1, 2, 3] rfl)
set_option maxHeartbeats 4000000 in
set_option maxRecDepth 100000 in
theorem c_sclear (l : Launch) (G : va_G) (cy : Nat → ClassId) (sz : Nat) (L : List Nat) (K : Nat → Nat) (R : Nat → Nat → Nat) (T : Int) (I E : Nat → Nat → Int32) (J B : Nat → Nat → Int64) (this : Nat)  (hRT : RT L K R) (hI : IV T L K I) (hE : EV L K E) (hthis1 : this ∈ L) (hthis2 : K this = 7) : Met l yX7_clear (.code yX7_clear cX7_clear 1 none :: TBg) ({ frames := 2, cells := 0, slots := 0, locals := 128 }) (va_Pc [.ref this] (En G cy (WC cy L K R I J E B) sz)) (va_Qv (fun (u : (Nat → Nat → Int32) × (Nat → Nat → Int64) × (Nat → Nat → Int32) × (Nat → Nat → Int64)) => IV T L K u.1 ∧ EV L K u.2.2.1 ∧ FI [(3, 2), (7, 1), (7, 2), (7, 4)] K I u.1 ∧ (True)) (fun u t => Ex G (va_A (WC cy L K R I J E B) sz) (WC cy L K R u.1 u.2.1 u.2.2.1 u.2.2.2) t) (va_A (WC cy L K R I J E B) sz)) 0 0 (va_A (WC cy L K R I J E B) sz) := by
  have hthis : this ∈ L ∧ K this = 7 := ⟨hthis1, hthis2⟩
  refine Met.ofW (cc := cX7_clear) (maxL := 1) (ret := none) (by decide) rfl ?_
  intro p e s m args below meth c s₁ B9 hml hv9
  obtain ⟨rfl, hsz, hP, hK, hD0, hN⟩ := hv9
  have hx := B9.exec
  have hb := B9.bytes
  have hr := B9.returns
  have hts := atoms_spec (ws := .code yX7_clear cX7_clear 1 none :: TBg) B9.pre
  have ht : ∀ w ∈ TBg, w.before _ s = true := fun w h => hts w (List.mem_cons_of_mem _ h)
  have hown : s.vm.findClass RX7 = some m.cls := findClass_of_methodNamed B9.named
  have hlocks := B9.notSynchronized
  subst hsz
  have hD := hD0.self (sz := s.heap.size)
  generalize hAe : va_A (WC cy L K R I J E B) s.heap.size = A at hD ⊢
  have hA : ∀ q : Nat, s.heap.size ≤ q → A q := fun q h => by rw [← hAe]; exact Or.inr h
  have hS : va_S A s.heap s.heap [] := va_S.rf
  have hl := lv_entry ([.ref this]) (n := 1) (Nat.le_of_ble_eq_true rfl)
  rw [lg_entry_eq]
  generalize (lg_sl ([.ref this]) ++ List.replicate (1 - (lg_sl ([.ref this])).length) Slot.unset).toArray = ls at hl ⊢
  have hl : lv_has ls 1 [(0, .ref this)] := hl
  have z0 : (0 : Int32).toInt = 0 := by decide
  have hC_0 : FI [(3, 2), (7, 1), (7, 2), (7, 4)] K I I := FI.rf
  refine lv_aload_n hx hb dX7_clear_0 rfl (lv_at hl 0 rfl) ?_
  refine cg_7_0_7 hx hb ht hown hK hN hP hthis.1 hthis.2 dX7_clear_1 ?_
  have hm_1 : (R this 0) ∈ L ∧ K (R this 0) = 3 := RT.o hRT hthis.1 hthis.2 0 (by decide)
  refine lv_iconst (v := 0) hx hb dX7_clear_4 (by decide) ?_
  refine cp_3_2_7 hx hb ht hown hK hN hP hD hS hm_1.1 hm_1.2 dX7_clear_5 (fun H locs hP hD hS => ?_)
  replace hI := IV.up hI hm_1.2 2 (show 0 ≤ (0 : Int32).toInt ∧ (0 : Int32).toInt ≤ 40 from by omega)
  have f_2 : FI [(3, 2)] K I (va_up I (R this 0) (va_up (I (R this 0)) 2 0)) := FI.up hm_1.2 2 (0 : Int32)
  have e_3 : (va_up I (R this 0) (va_up (I (R this 0)) 2 0)) (R this 0) 2 = 0 := FI.at I (R this 0) 2 (0 : Int32)
  replace hC_0 := FI.tr hC_0 f_2 (by decide)
  generalize (va_up I (R this 0) (va_up (I (R this 0)) 2 0)) = I_4 at hP hD hI f_2 e_3 hC_0
  refine lv_aload_n hx hb dX7_clear_8 rfl (lv_at hl 0 rfl) ?_
  refine lv_iconst (v := 0) hx hb dX7_clear_9 (by decide) ?_
  refine cp_7_1_7 (by omega) hx hb ht hown hK hN hP hD hS hthis.1 hthis.2 dX7_clear_10 (fun H locs hP hD hS => ?_)
  replace hI := IV.up hI hthis.2 1 (show 0 ≤ (0 : Int32).toInt ∧ (0 : Int32).toInt ≤ 1 from by omega)
  have f_5 : FI [(7, 1)] K I_4 (va_up I_4 this (va_up (I_4 this) 1 0)) := FI.up hthis.2 1 (0 : Int32)
  have e_6 : (va_up I_4 this (va_up (I_4 this) 1 0)) this 1 = 0 := FI.at I_4 this 1 (0 : Int32)
  replace hC_0 := FI.tr hC_0 f_5 (by decide)
  generalize (va_up I_4 this (va_up (I_4 this) 1 0)) = I_7 at hP hD hI f_5 e_6 hC_0
  refine lv_aload_n hx hb dX7_clear_13 rfl (lv_at hl 0 rfl) ?_
  refine lv_iconst (v := 0) hx hb dX7_clear_14 (by decide) ?_
  refine cp_7_2_7 hx hb ht hown hK hN hP hD hS hthis.1 hthis.2 dX7_clear_15 (fun H locs hP hD hS => ?_)
  replace hI := IV.up hI hthis.2 2 (ow_any (0 : Int32))
  have f_8 : FI [(7, 2)] K I_7 (va_up I_7 this (va_up (I_7 this) 2 0)) := FI.up hthis.2 2 (0 : Int32)
  have e_9 : (va_up I_7 this (va_up (I_7 this) 2 0)) this 2 = 0 := FI.at I_7 this 2 (0 : Int32)
  replace hC_0 := FI.tr hC_0 f_8 (by decide)
  generalize (va_up I_7 this (va_up (I_7 this) 2 0)) = I_10 at hP hD hI f_8 e_9 hC_0
  refine lv_aload_n hx hb dX7_clear_18 rfl (lv_at hl 0 rfl) ?_
  refine cg_7_3_7 hx hb ht hown hK hN hP hthis.1 hthis.2 dX7_clear_19 ?_
  have hm_11 : (R this 3) ∈ L ∧ K (R this 3) = 34 := RT.o hRT hthis.1 hthis.2 3 (by decide)
  refine lv_iconst (v := 0) hx hb dX7_clear_22 (by decide) ?_
  have hFc := fr_free hD hS hA
  refine va_callv (va_runS (As := [.ref (R this 3), .int 0]) (rest := []) ⟨hx, hb, hml, hown, ht⟩ (c_fill l G cy _ L K R T I_10 E J B (R this 3) (0) hRT hI hE hm_11.1 hm_11.2) (va_cwS 2 ht (gs k_506 k_507 k_508 k_505) rfl rfl rfl (by decide +kernel) ⟨Nat.le_of_ble_eq_true rfl, Nat.le_of_ble_eq_true rfl⟩) ⟨En.blind, fun U hU hW => ⟨rfl, En.of hU hW hP hK hD hN⟩⟩ rfl rfl hl.1 rfl (lv_room (Nat.le_of_ble_eq_true rfl)) dX7_clear_23 ⟨Nat.le_of_ble_eq_true rfl, Nat.le_of_ble_eq_true rfl⟩) hS (fun q _ h => hFc q h) hFc (fun u_12 t9 H locs ht9 hvm hw hB hz1 hk1 hS => ?_)
  obtain ⟨I12, J12, E12, B12⟩ := u_12
  obtain ⟨hP1, hD1⟩ := hB
  rw [ht9] at hP1
  clear hI hE
  obtain ⟨hI, hE, xu_12I, wu_12⟩ := hw
  dsimp only at hI hE xu_12I wu_12
  have hP : va_P G vwCl (WC cy L K R I12 J12 E12 B12) H := hP1
  have hD : va_D A (WC cy L K R I12 J12 E12 B12) := hD1.weaken (fun _ _ _ h => hFc _ h)
  clear hFc hk1 hz1 hP1 hD1
  replace hC_0 := FI.tr hC_0 xu_12I (by decide)
  refine lv_aload_n hx hb dX7_clear_26 rfl (lv_at hl 0 rfl) ?_
  refine lv_iconst (v := 0) hx hb dX7_clear_27 (by decide) ?_
  refine cp_7_4_7 (by omega) hx hb ht hown hK hN hP hD hS hthis.1 hthis.2 dX7_clear_28 (fun H locs hP hD hS => ?_)
  replace hI := IV.up hI hthis.2 4 (show 0 ≤ (0 : Int32).toInt ∧ (0 : Int32).toInt ≤ 1 from by omega)
  have f_13 : FI [(7, 4)] K I12 (va_up I12 this (va_up (I12 this) 4 0)) := FI.up hthis.2 4 (0 : Int32)
  have e_14 : (va_up I12 this (va_up (I12 this) 4 0)) this 4 = 0 := FI.at I12 this 4 (0 : Int32)
  replace hC_0 := FI.tr hC_0 f_13 (by decide)
  generalize (va_up I12 this (va_up (I12 this) 4 0)) = I_15 at hP hD hI f_13 e_14 hC_0
  refine W.widen (k := 0) (n := 0) (Nat.le_of_ble_eq_true rfl) (Nat.le_of_ble_eq_true rfl) ?_
  exact W.vret hx hb hr (fun t ht9 hW => ⟨⟨(I_15, J12, E12, B12), rfl, ⟨hI, hE, hC_0, trivial⟩, ⟨by rw [ht9]; exact hP, hD⟩⟩, hS.F ht9⟩) hS.2.2 dX7_clear_31
set_option maxHeartbeats 4000000 in
set_option maxRecDepth 100000 in
theorem c_slike (l : Launch) (G : va_G) (cy : Nat → ClassId) (sz : Nat) (L : List Nat) (K : Nat → Nat) (R : Nat → Nat → Nat) (T : Int) (I E : Nat → Nat → Int32) (J B : Nat → Nat → Int64) (this : Nat) (other : Nat) (hRT : RT L K R) (hI : IV T L K I) (hE : EV L K E) (hthis1 : this ∈ L) (hthis2 : K this = 7) (h_other1 : other ∈ L) (h_other2 : K other = 7) : Met l yX7_becomeLike (.code yX7_becomeLike cX7_becomeLike 2 none :: TBg) ({ frames := 3, cells := 0, slots := 0, locals := 192 }) (va_Pc [.ref this, .ref other] (En G cy (WC cy L K R I J E B) sz)) (va_Qv (fun (u : (Nat → Nat → Int32) × (Nat → Nat → Int64) × (Nat → Nat → Int32) × (Nat → Nat → Int64)) => IV T L K u.1 ∧ EV L K u.2.2.1 ∧ FI [(3, 2), (7, 1), (7, 2)] K I u.1 ∧ (True)) (fun u t => Ex G (va_A (WC cy L K R I J E B) sz) (WC cy L K R u.1 u.2.1 u.2.2.1 u.2.2.2) t) (va_A (WC cy L K R I J E B) sz)) 0 0 (va_A (WC cy L K R I J E B) sz) := by
  have hthis : this ∈ L ∧ K this = 7 := ⟨hthis1, hthis2⟩
  have h_other : other ∈ L ∧ K other = 7 := ⟨h_other1, h_other2⟩
  refine Met.ofW (cc := cX7_becomeLike) (maxL := 2) (ret := none) (by decide) rfl ?_
  intro p e s m args below meth c s₁ B9 hml hv9
  obtain ⟨rfl, hsz, hP, hK, hD0, hN⟩ := hv9
  have hx := B9.exec
  have hb := B9.bytes
  have hr := B9.returns
  have hts := atoms_spec (ws := .code yX7_becomeLike cX7_becomeLike 2 none :: TBg) B9.pre
  have ht : ∀ w ∈ TBg, w.before _ s = true := fun w h => hts w (List.mem_cons_of_mem _ h)
  have hown : s.vm.findClass RX7 = some m.cls := findClass_of_methodNamed B9.named
  have hlocks := B9.notSynchronized
  subst hsz
  have hD := hD0.self (sz := s.heap.size)
  generalize hAe : va_A (WC cy L K R I J E B) s.heap.size = A at hD ⊢
  have hA : ∀ q : Nat, s.heap.size ≤ q → A q := fun q h => by rw [← hAe]; exact Or.inr h
  have hS : va_S A s.heap s.heap [] := va_S.rf
  have hl := lv_entry ([.ref this, .ref other]) (n := 2) (Nat.le_of_ble_eq_true rfl)
  rw [lg_entry_eq]
  generalize (lg_sl ([.ref this, .ref other]) ++ List.replicate (2 - (lg_sl ([.ref this, .ref other])).length) Slot.unset).toArray = ls at hl ⊢
  have hl : lv_has ls 2 [(0, .ref this), (1, .ref other)] := hl
  have hC_0 : FI [(3, 2), (7, 1), (7, 2)] K I I := FI.rf
  refine lv_aload_n hx hb dX7_becomeLike_0 rfl (lv_at hl 0 rfl) ?_
  refine cg_7_0_7 hx hb ht hown hK hN hP hthis.1 hthis.2 dX7_becomeLike_1 ?_
  have hm_1 : (R this 0) ∈ L ∧ K (R this 0) = 3 := RT.o hRT hthis.1 hthis.2 0 (by decide)
  refine lv_aload_n hx hb dX7_becomeLike_4 rfl (lv_at hl 1 rfl) ?_
  refine cg_7_0_7 hx hb ht hown hK hN hP h_other.1 h_other.2 dX7_becomeLike_5 ?_
  have hm_2 : (R other 0) ∈ L ∧ K (R other 0) = 3 := RT.o hRT h_other.1 h_other.2 0 (by decide)
  have hFc := fr_free hD hS hA
  refine va_callv (va_runV (As := [.ref (R other 0)]) (rest := []) ⟨hx, hb, hml, hown, ht⟩ (c_like l G cy _ L K R T I E J B (R this 0) (R other 0) hRT hI hE hm_1.1 hm_1.2 hm_2.1 hm_2.2) (cwV 1 ht (gv k_510 k_511 k_512 k_399 k_509) rfl rfl rfl (by decide +kernel) ⟨Nat.le_of_ble_eq_true rfl, Nat.le_of_ble_eq_true rfl⟩) ⟨En.blind, cr_3 hK hP hm_1.1 hm_1.2, fun U hU hW => ⟨rfl, En.of hU hW hP hK hD hN⟩⟩ rfl rfl hl.1 rfl (lv_room (Nat.le_of_ble_eq_true rfl)) dX7_becomeLike_8 ⟨Nat.le_of_ble_eq_true rfl, Nat.le_of_ble_eq_true rfl⟩) hS (fun q _ h => hFc q h) hFc (fun u_3 t9 H locs ht9 hvm hw hB hz1 hk1 hS => ?_)
  obtain ⟨I3, J3, E3, B3⟩ := u_3
  obtain ⟨hP1, hD1⟩ := hB
  rw [ht9] at hP1
  clear hI hE
  obtain ⟨hI, hE, xu_3I, wu_3⟩ := hw
  dsimp only at hI hE xu_3I wu_3
  have hP : va_P G vwCl (WC cy L K R I3 J3 E3 B3) H := hP1
  have hD : va_D A (WC cy L K R I3 J3 E3 B3) := hD1.weaken (fun _ _ _ h => hFc _ h)
  clear hFc hk1 hz1 hP1 hD1
  replace hC_0 := FI.tr hC_0 xu_3I (by decide)
  refine lv_aload_n hx hb dX7_becomeLike_11 rfl (lv_at hl 0 rfl) ?_
  refine lv_aload_n hx hb dX7_becomeLike_12 rfl (lv_at hl 1 rfl) ?_
  refine cg_7_1_7 hx hb ht hown hK hN hP h_other.1 h_other.2 dX7_becomeLike_13 ?_
  refine ow_top (I other 1) (xu_3I other 1 (by rw [h_other.2]; decide)) ?_
  have q_4 : 0 ≤ (I other 1).toInt ∧ (I other 1).toInt ≤ 1 := by have h9 : I3 other 1 = (I other 1) := (xu_3I other 1 (by rw [h_other.2]; decide)); rw [← h9]; exact IV.rd hI h_other.1 h_other.2 1
  refine cp_7_1_7 (by omega) hx hb ht hown hK hN hP hD hS hthis.1 hthis.2 dX7_becomeLike_16 (fun H locs hP hD hS => ?_)
  replace hI := IV.up hI hthis.2 1 (show 0 ≤ (I other 1).toInt ∧ (I other 1).toInt ≤ 1 from by omega)
  have f_5 : FI [(7, 1)] K I3 (va_up I3 this (va_up (I3 this) 1 (I other 1))) := FI.up hthis.2 1 (I other 1)
  have e_6 : (va_up I3 this (va_up (I3 this) 1 (I other 1))) this 1 = (I other 1) := FI.at I3 this 1 (I other 1)
  replace hC_0 := FI.tr hC_0 f_5 (by decide)
  generalize (va_up I3 this (va_up (I3 this) 1 (I other 1))) = I_7 at hP hD hI f_5 e_6 hC_0
  refine lv_aload_n hx hb dX7_becomeLike_19 rfl (lv_at hl 0 rfl) ?_
  refine lv_aload_n hx hb dX7_becomeLike_20 rfl (lv_at hl 1 rfl) ?_
  refine cg_7_2_7 hx hb ht hown hK hN hP h_other.1 h_other.2 dX7_becomeLike_21 ?_
  refine ow_top (I other 2) ((f_5 other 2 (by rw [h_other.2]; decide)).trans (xu_3I other 2 (by rw [h_other.2]; decide))) ?_
  refine cp_7_2_7 hx hb ht hown hK hN hP hD hS hthis.1 hthis.2 dX7_becomeLike_24 (fun H locs hP hD hS => ?_)
  replace hI := IV.up hI hthis.2 2 (ow_any (I other 2))
  have f_8 : FI [(7, 2)] K I_7 (va_up I_7 this (va_up (I_7 this) 2 (I other 2))) := FI.up hthis.2 2 (I other 2)
  have e_9 : (va_up I_7 this (va_up (I_7 this) 2 (I other 2))) this 2 = (I other 2) := FI.at I_7 this 2 (I other 2)
  replace hC_0 := FI.tr hC_0 f_8 (by decide)
  generalize (va_up I_7 this (va_up (I_7 this) 2 (I other 2))) = I_10 at hP hD hI f_8 e_9 hC_0
  refine lv_aload_n hx hb dX7_becomeLike_27 rfl (lv_at hl 1 rfl) ?_
  refine cg_7_3_7 hx hb ht hown hK hN hP h_other.1 h_other.2 dX7_becomeLike_28 ?_
  have hm_11 : (R other 3) ∈ L ∧ K (R other 3) = 34 := RT.o hRT h_other.1 h_other.2 3 (by decide)
  refine lv_iconst (v := 0) hx hb dX7_becomeLike_31 (by decide) ?_
  refine lv_aload_n hx hb dX7_becomeLike_32 rfl (lv_at hl 0 rfl) ?_
  refine cg_7_3_7 hx hb ht hown hK hN hP hthis.1 hthis.2 dX7_becomeLike_33 ?_
  have hm_12 : (R this 3) ∈ L ∧ K (R this 3) = 34 := RT.o hRT hthis.1 hthis.2 3 (by decide)
  refine lv_iconst (v := 0) hx hb dX7_becomeLike_36 (by decide) ?_
  refine lv_bipush (v := 8) hx hb dX7_becomeLike_37 (by decide) ?_
  refine cc_34_34 hx hb (by rw [hml]; exact hl.1.symm) hown (ht _ k_513) (ht _ k_514) (ht _ k_515) (ht _ k_516) hK hP hD hS hm_11.1 hm_11.2 hm_12.1 hm_12.2 (Nat.le_of_ble_eq_true rfl) (Nat.le_of_ble_eq_true rfl) dX7_becomeLike_39 (fun g9 hg9 H locs hP hD hS => ?_)
  replace hE := EV.set hE hm_12.2 (g := g9) (fun j _ => ow_any _)
  generalize (va_up E3 (R this 3) g9) = E_13 at hP hD hE
  refine W.widen (k := 0) (n := 0) (Nat.le_of_ble_eq_true rfl) (Nat.le_of_ble_eq_true rfl) ?_
  exact W.vret hx hb hr (fun t ht9 hW => ⟨⟨(I_10, J3, E_13, B3), rfl, ⟨hI, hE, hC_0, trivial⟩, ⟨by rw [ht9]; exact hP, hD⟩⟩, hS.F ht9⟩) hS.2.2 dX7_becomeLike_42
set_option maxHeartbeats 4000000 in
set_option maxRecDepth 100000 in
theorem x_put (l : Launch) (G : va_G) (cy : Nat → ClassId) (sz : Nat) (L : List Nat) (K : Nat → Nat) (R : Nat → Nat → Nat) (T : Int) (I E : Nat → Nat → Int32) (J B : Nat → Nat → Int64) (this : Nat) (n : Int32) (hRT : RT L K R) (hI : IV T L K I) (hE : EV L K E) (hthis1 : this ∈ L) (hthis2 : K this = 0) : Met l yX11_putNumber (.code yX11_putNumber cX11_putNumber 3 none :: TBg) ({ frames := 1, cells := 0, slots := 0, locals := 64 }) (va_Pc [.ref this, .int n] (En G cy (WC cy L K R I J E B) sz)) (va_Qv (fun (u : (Nat → Nat → Int32) × (Nat → Nat → Int64) × (Nat → Nat → Int32) × (Nat → Nat → Int64)) => IV T L K u.1 ∧ EV L K u.2.2.1 ∧ FI [(0, 1)] K I u.1 ∧ (True)) (fun u t => Ex G (va_A (WC cy L K R I J E B) sz) (WC cy L K R u.1 u.2.1 u.2.2.1 u.2.2.2) t) (va_A (WC cy L K R I J E B) sz)) 0 0 (va_A (WC cy L K R I J E B) sz) := by
  have hthis : this ∈ L ∧ K this = 0 := ⟨hthis1, hthis2⟩
  refine Met.ofW (cc := cX11_putNumber) (maxL := 3) (ret := none) (by decide) rfl ?_
  intro p e s m args below meth c s₁ B9 hml hv9
  obtain ⟨rfl, hsz, hP, hK, hD0, hN⟩ := hv9
  have hx := B9.exec
  have hb := B9.bytes
  have hr := B9.returns
  have hts := atoms_spec (ws := .code yX11_putNumber cX11_putNumber 3 none :: TBg) B9.pre
  have ht : ∀ w ∈ TBg, w.before _ s = true := fun w h => hts w (List.mem_cons_of_mem _ h)
  have hown : s.vm.findClass RX11 = some m.cls := findClass_of_methodNamed B9.named
  have hlocks := B9.notSynchronized
  subst hsz
  have hD := hD0.self (sz := s.heap.size)
  generalize hAe : va_A (WC cy L K R I J E B) s.heap.size = A at hD ⊢
  have hA : ∀ q : Nat, s.heap.size ≤ q → A q := fun q h => by rw [← hAe]; exact Or.inr h
  have hS : va_S A s.heap s.heap [] := va_S.rf
  have hl := lv_entry ([.ref this, .int n]) (n := 3) (Nat.le_of_ble_eq_true rfl)
  rw [lg_entry_eq]
  generalize (lg_sl ([.ref this, .int n]) ++ List.replicate (3 - (lg_sl ([.ref this, .int n])).length) Slot.unset).toArray = ls at hl ⊢
  have hl : lv_has ls 3 [(0, .ref this), (1, .int n)] := hl
  have z0 : (-8 : Int32).toInt = -8 := by decide
  have z1 : (0 : Int32).toInt = 0 := by decide
  have z2 : (1 : Int32).toInt = 1 := by decide
  have z3 : (24 : Int32).toInt = 24 := by decide
  have z4 : (1700 : Int32).toInt = 1700 := by decide
  have hC_0 : FI [(0, 1)] K I I := FI.rf
  refine lv_bipush (v := 24) hx hb dX11_putNumber_0 (by decide) ?_
  refine lv_istore_n (lv' := [(2, .int 24), (0, .ref this), (1, .int n)]) hx hb dX11_putNumber_2 rfl hl (by decide) rfl (fun ls hl => ?_)
  refine W.widen (k := 0) (n := 0) (Nat.le_of_ble_eq_true rfl) (Nat.le_of_ble_eq_true rfl) ?_
  have lp_1 : ∀ (N_1 : Nat) (x2_1 : Int32) (I1 : Nat → Nat → Int32) (J1 : Nat → Nat → Int64) (E1 : Nat → Nat → Int32) (B1 : Nat → Nat → Int64) (H : Heap) (locs : List Loc) (ls : Array Slot), IV T L K I1 → EV L K E1 → FI [(0, 1)] K I I1 → (-8 ≤ x2_1.toInt ∧ x2_1.toInt ≤ 24) → (x2_1.toInt + 8).toNat < N_1 → va_P G vwCl (WC cy L K R I1 J1 E1 B1) H → va_D A (WC cy L K R I1 J1 E1 B1) → va_S A s.heap H locs → lv_has ls 3 [(2, .int x2_1), (0, .ref this), (1, .int n)] → W p l e (headSpec (.code yX11_putNumber cX11_putNumber 3 none :: TBg) ({ frames := 1, cells := 0, slots := 0, locals := 64 })).room s m ([.ref this, .int n] : List Value).toArray below meth c H locs 0 0 (MQ below (va_Qv (fun (u : (Nat → Nat → Int32) × (Nat → Nat → Int64) × (Nat → Nat → Int32) × (Nat → Nat → Int64)) => IV T L K u.1 ∧ EV L K u.2.2.1 ∧ FI [(0, 1)] K I u.1 ∧ (True)) (fun u t => Ex G A (WC cy L K R u.1 u.2.1 u.2.2.1 u.2.2.2) t) A) ([.ref this, .int n] : List Value).toArray s 0 0 A) (F0 m 3 ls []) := by
    intro N_1
    induction N_1 with
    | zero => intro x2_1 I1 J1 E1 B1 H locs ls hI hE hC_1 qf1_0 hm9 hP hD hS hl; exact absurd hm9 (Nat.not_lt_zero _)
    | succ N_1 ih_1 =>
      intro x2_1 I1 J1 E1 B1 H locs ls hI hE hC_1 qf1_0 hm9 hP hD hS hl
      replace hC_0 := FI.tr hC_0 hC_1 (by decide)
      have hX_1 := hC_1
      refine lv_iload_n hx hb dX11_putNumber_3 rfl (lv_at hl 0 rfl) ?_
      refine lv_if_lt (tgt := 48) hx hb dX11_putNumber_4 (by decide) (fun c_2 => ?_) (fun c_2 => ?_)
      · have q_3 : x2_1.toInt < (0 : Int32).toInt := (ow_lt _ _).mp c_2
        refine W.widen (k := 0) (n := 0) (Nat.le_of_ble_eq_true rfl) (Nat.le_of_ble_eq_true rfl) ?_
        exact W.vret hx hb hr (fun t ht9 hW => ⟨⟨(I1, J1, E1, B1), rfl, ⟨hI, hE, hC_0, trivial⟩, ⟨by rw [ht9]; exact hP, hD⟩⟩, hS.F ht9⟩) hS.2.2 dX11_putNumber_48
      · have q_4 : (0 : Int32).toInt ≤ x2_1.toInt := by have := (not_congr (ow_lt _ _)).mp c_2; omega
        refine lv_aload_n hx hb dX11_putNumber_7 rfl (lv_at hl 1 rfl) ?_
        refine cg_0_1_11 hx hb ht hown hK hN hP hthis.1 hthis.2 dX11_putNumber_8 ?_
        have q_5 : 0 ≤ (I1 this 1).toInt ∧ (I1 this 1).toInt ≤ 1700 := IV.rd hI hthis.1 hthis.2 1
        refine lv_aload_n hx hb dX11_putNumber_11 rfl (lv_at hl 1 rfl) ?_
        refine cg_0_0_11 hx hb ht hown hK hN hP hthis.1 hthis.2 dX11_putNumber_12 ?_
        have hm_6 : (R this 0) ∈ L ∧ K (R this 0) = 20 := RT.o hRT hthis.1 hthis.2 0 (by decide)
        refine cn_20 hx hb hK hP hm_6.1 hm_6.2 dX11_putNumber_15 ?_
        refine lv_icmp_ge (tgt := 42) hx hb dX11_putNumber_16 (by decide) (fun c_7 => ?_) (fun c_7 => ?_)
        · have q_8 : (1700 : Int32).toInt ≤ (I1 this 1).toInt := (ow_le _ _).mp c_7
          obtain ⟨v_9, ev_9⟩ : ∃ y : Int32, y = x2_1 + (-8) := ⟨_, rfl⟩
          refine lv_iinc (v := v_9) (lv' := [(2, .int v_9), (0, .ref this), (1, .int n)]) hx hb dX11_putNumber_42 hl (k := 0) rfl (by rw [ev_9]; rfl) (by decide) rfl (fun ls hl => ?_)
          have q_10 : v_9.toInt = x2_1.toInt + -8 := by have := ow_add ev_9 (by omega) (by omega); omega
          refine lv_goto (tgt := 3) hx hb dX11_putNumber_45 (by decide) ?_
          refine W.widen (k := 0) (n := 0) (Nat.le_of_ble_eq_true rfl) (Nat.le_of_ble_eq_true rfl) ?_
          exact ih_1 v_9 I1 J1 E1 B1 _ _ _ hI hE hX_1 (by omega) (by omega) hP hD hS (lv_sub hl [0, 1, 2] rfl)
        · have q_11 : (I1 this 1).toInt < (1700 : Int32).toInt := by have := (not_congr (ow_le _ _)).mp c_7; omega
          refine lv_aload_n hx hb dX11_putNumber_19 rfl (lv_at hl 1 rfl) ?_
          refine cg_0_0_11 hx hb ht hown hK hN hP hthis.1 hthis.2 dX11_putNumber_20 ?_
          refine lv_aload_n hx hb dX11_putNumber_23 rfl (lv_at hl 1 rfl) ?_
          refine cg_0_1_11 hx hb ht hown hK hN hP hthis.1 hthis.2 dX11_putNumber_24 ?_
          refine lv_iload_n hx hb dX11_putNumber_27 rfl (lv_at hl 2 rfl) ?_
          refine lv_iload_n hx hb dX11_putNumber_28 rfl (lv_at hl 0 rfl) ?_
          refine lv_ishr hx hb dX11_putNumber_29 ?_
          refine lv_topi (fun v_12 ev_12 => ?_)
          refine lv_i2b hx hb dX11_putNumber_30 rfl ?_
          refine lv_topi (fun v_13 ev_13 => ?_)
          have q_14 : vp_in (I1 this 1) 1700 := vp_in_iff.mpr ⟨by omega, by omega⟩
          refine cs_20 hx hb hK hP hD hS hm_6.1 hm_6.2 q_14 dX11_putNumber_31 (fun H locs hP hD hS => ?_)
          replace hE := EV.up hE hm_6.2 (i := (Int32.toNatClampNeg (I1 this 1))) (ow_any (vp_nar .byte v_13))
          generalize (va_up E1 (R this 0) (upd (E1 (R this 0)) (Int32.toNatClampNeg (I1 this 1)) (vp_nar .byte v_13))) = E_15 at hP hD hE
          refine lv_aload_n hx hb dX11_putNumber_32 rfl (lv_at hl 1 rfl) ?_
          refine lv_dup hx hb dX11_putNumber_33 rfl ?_
          refine cg_0_1_11 hx hb ht hown hK hN hP hthis.1 hthis.2 dX11_putNumber_34 ?_
          refine lv_iconst (v := 1) hx hb dX11_putNumber_37 (by decide) ?_
          refine lv_iadd hx hb dX11_putNumber_38 ?_
          refine lv_topi (fun v_16 ev_16 => ?_)
          have q_17 : v_16.toInt = (I1 this 1).toInt + (1 : Int32).toInt := ow_add ev_16 (by omega) (by omega)
          refine cp_0_1_11 hx hb ht hown hK hN hP hD hS hthis.1 hthis.2 dX11_putNumber_39 (fun H locs hP hD hS => ?_)
          replace hI := IV.up hI hthis.2 1 (show 0 ≤ v_16.toInt ∧ v_16.toInt ≤ 1700 from by omega)
          have f_18 : FI [(0, 1)] K I1 (va_up I1 this (va_up (I1 this) 1 v_16)) := FI.up hthis.2 1 v_16
          have e_19 : (va_up I1 this (va_up (I1 this) 1 v_16)) this 1 = v_16 := FI.at I1 this 1 v_16
          replace hC_0 := FI.tr hC_0 f_18 (by decide)
          replace hX_1 := FI.tr hX_1 f_18 (by decide)
          generalize (va_up I1 this (va_up (I1 this) 1 v_16)) = I_20 at hP hD hI f_18 e_19 hC_0 hX_1
          obtain ⟨v_21, ev_21⟩ : ∃ y : Int32, y = x2_1 + (-8) := ⟨_, rfl⟩
          refine lv_iinc (v := v_21) (lv' := [(2, .int v_21), (0, .ref this), (1, .int n)]) hx hb dX11_putNumber_42 hl (k := 0) rfl (by rw [ev_21]; rfl) (by decide) rfl (fun ls hl => ?_)
          have q_22 : v_21.toInt = x2_1.toInt + -8 := by have := ow_add ev_21 (by omega) (by omega); omega
          refine lv_goto (tgt := 3) hx hb dX11_putNumber_45 (by decide) ?_
          refine W.widen (k := 0) (n := 0) (Nat.le_of_ble_eq_true rfl) (Nat.le_of_ble_eq_true rfl) ?_
          exact ih_1 v_21 I_20 J1 E_15 B1 _ _ _ hI hE hX_1 (by omega) (by omega) hP hD hS (lv_sub hl [0, 1, 2] rfl)
  exact lp_1 _ (24) I J E B _ _ _ hI hE FI.rf (by omega) (Nat.lt_succ_self _) hP hD hS (lv_sub hl [0, 1, 2] rfl)
set_option maxHeartbeats 4000000 in
set_option maxRecDepth 100000 in
theorem x_feed (l : Launch) (G : va_G) (cy : Nat → ClassId) (sz : Nat) (L : List Nat) (K : Nat → Nat) (R : Nat → Nat → Nat) (T : Int) (I E : Nat → Nat → Int32) (J B : Nat → Nat → Int64) (this : Nat) (a1 : Int32) (a2 : Int32) (a3 : Int32) (a4 : Int32) (a5 : Int32) (hRT : RT L K R) (hI : IV T L K I) (hE : EV L K E) (hthis1 : this ∈ L) (hthis2 : K this = 0) : Met l yX11_feed (.code yX11_feed cX11_feed 6 (some .int) :: TBg) ({ frames := 2, cells := 0, slots := 0, locals := 128 }) (va_Pc [.ref this, .int a1, .int a2, .int a3, .int a4, .int a5] (En G cy (WC cy L K R I J E B) sz)) (va_Qi (fun (r : Int32) (u : (Nat → Nat → Int32) × (Nat → Nat → Int64) × (Nat → Nat → Int32) × (Nat → Nat → Int64)) => IV T L K u.1 ∧ EV L K u.2.2.1 ∧ FI [(0, 1)] K I u.1 ∧ (True)) (fun u t => Ex G (va_A (WC cy L K R I J E B) sz) (WC cy L K R u.1 u.2.1 u.2.2.1 u.2.2.2) t) (va_A (WC cy L K R I J E B) sz)) 0 0 (va_A (WC cy L K R I J E B) sz) := by
  have hthis : this ∈ L ∧ K this = 0 := ⟨hthis1, hthis2⟩
  refine Met.ofW (cc := cX11_feed) (maxL := 6) (ret := (some .int)) (by decide) rfl ?_
  intro p e s m args below meth c s₁ B9 hml hv9
  obtain ⟨rfl, hsz, hP, hK, hD0, hN⟩ := hv9
  have hx := B9.exec
  have hb := B9.bytes
  have hr := B9.returns
  have hts := atoms_spec (ws := .code yX11_feed cX11_feed 6 (some .int) :: TBg) B9.pre
  have ht : ∀ w ∈ TBg, w.before _ s = true := fun w h => hts w (List.mem_cons_of_mem _ h)
  have hown : s.vm.findClass RX11 = some m.cls := findClass_of_methodNamed B9.named
  have hlocks := B9.notSynchronized
  subst hsz
  have hD := hD0.self (sz := s.heap.size)
  generalize hAe : va_A (WC cy L K R I J E B) s.heap.size = A at hD ⊢
  have hA : ∀ q : Nat, s.heap.size ≤ q → A q := fun q h => by rw [← hAe]; exact Or.inr h
  have hS : va_S A s.heap s.heap [] := va_S.rf
  have hl := lv_entry ([.ref this, .int a1, .int a2, .int a3, .int a4, .int a5]) (n := 6) (Nat.le_of_ble_eq_true rfl)
  rw [lg_entry_eq]
  generalize (lg_sl ([.ref this, .int a1, .int a2, .int a3, .int a4, .int a5]) ++ List.replicate (6 - (lg_sl ([.ref this, .int a1, .int a2, .int a3, .int a4, .int a5])).length) Slot.unset).toArray = ls at hl ⊢
  have hl : lv_has ls 6 [(0, .ref this), (1, .int a1), (2, .int a2), (3, .int a3), (4, .int a4), (5, .int a5)] := hl
  have z0 : (-1 : Int32).toInt = -1 := by decide
  have z1 : (1680 : Int32).toInt = 1680 := by decide
  have hC_0 : FI [(0, 1)] K I I := FI.rf
  refine lv_aload_n hx hb dX11_feed_0 rfl (lv_at hl 0 rfl) ?_
  refine cg_0_1_11 hx hb ht hown hK hN hP hthis.1 hthis.2 dX11_feed_1 ?_
  have q_1 : 0 ≤ (I this 1).toInt ∧ (I this 1).toInt ≤ 1700 := IV.rd hI hthis.1 hthis.2 1
  refine lv_sipush (v := 1680) hx hb dX11_feed_4 (by decide) ?_
  refine lv_icmp_le (tgt := 12) hx hb dX11_feed_7 (by decide) (fun c_2 => ?_) (fun c_2 => ?_)
  · have q_3 : (I this 1).toInt ≤ (1680 : Int32).toInt := (ow_le _ _).mp c_2
    refine lv_aload_n hx hb dX11_feed_12 rfl (lv_at hl 0 rfl) ?_
    refine lv_iload_n hx hb dX11_feed_13 rfl (lv_at hl 1 rfl) ?_
    have hFc := fr_free hD hS hA
    refine va_callv (va_runV (As := [.int a1]) (rest := []) ⟨hx, hb, hml, hown, ht⟩ (x_put l G cy _ L K R T I E J B this a1 hRT hI hE hthis.1 hthis.2) (cwV 1 ht (gv k_518 k_519 k_520 k_521 k_517) rfl rfl rfl (by decide +kernel) ⟨Nat.le_of_ble_eq_true rfl, Nat.le_of_ble_eq_true rfl⟩) ⟨En.blind, cr_0 hK hP hthis.1 hthis.2, fun U hU hW => ⟨rfl, En.of hU hW hP hK hD hN⟩⟩ rfl rfl hl.1 rfl (lv_room (Nat.le_of_ble_eq_true rfl)) dX11_feed_14 ⟨Nat.le_of_ble_eq_true rfl, Nat.le_of_ble_eq_true rfl⟩) hS (fun q _ h => hFc q h) hFc (fun u_4 t9 H locs ht9 hvm hw hB hz1 hk1 hS => ?_)
    obtain ⟨I4, J4, E4, B4⟩ := u_4
    obtain ⟨hP1, hD1⟩ := hB
    rw [ht9] at hP1
    clear hI hE
    obtain ⟨hI, hE, xu_4I, wu_4⟩ := hw
    dsimp only at hI hE xu_4I wu_4
    have hP : va_P G vwCl (WC cy L K R I4 J4 E4 B4) H := hP1
    have hD : va_D A (WC cy L K R I4 J4 E4 B4) := hD1.weaken (fun _ _ _ h => hFc _ h)
    clear hFc hk1 hz1 hP1 hD1
    replace hC_0 := FI.tr hC_0 xu_4I (by decide)
    refine lv_aload_n hx hb dX11_feed_17 rfl (lv_at hl 0 rfl) ?_
    refine lv_iload_n hx hb dX11_feed_18 rfl (lv_at hl 2 rfl) ?_
    have hFc := fr_free hD hS hA
    refine va_callv (va_runV (As := [.int a2]) (rest := []) ⟨hx, hb, hml, hown, ht⟩ (x_put l G cy _ L K R T I4 E4 J4 B4 this a2 hRT hI hE hthis.1 hthis.2) (cwV 1 ht (gv k_518 k_519 k_520 k_521 k_517) rfl rfl rfl (by decide +kernel) ⟨Nat.le_of_ble_eq_true rfl, Nat.le_of_ble_eq_true rfl⟩) ⟨En.blind, cr_0 hK hP hthis.1 hthis.2, fun U hU hW => ⟨rfl, En.of hU hW hP hK hD hN⟩⟩ rfl rfl hl.1 rfl (lv_room (Nat.le_of_ble_eq_true rfl)) dX11_feed_19 ⟨Nat.le_of_ble_eq_true rfl, Nat.le_of_ble_eq_true rfl⟩) hS (fun q _ h => hFc q h) hFc (fun u_5 t9 H locs ht9 hvm hw hB hz1 hk1 hS => ?_)
    obtain ⟨I5, J5, E5, B5⟩ := u_5
    obtain ⟨hP1, hD1⟩ := hB
    rw [ht9] at hP1
    clear hI hE
    obtain ⟨hI, hE, xu_5I, wu_5⟩ := hw
    dsimp only at hI hE xu_5I wu_5
    have hP : va_P G vwCl (WC cy L K R I5 J5 E5 B5) H := hP1
    have hD : va_D A (WC cy L K R I5 J5 E5 B5) := hD1.weaken (fun _ _ _ h => hFc _ h)
    clear hFc hk1 hz1 hP1 hD1
    replace hC_0 := FI.tr hC_0 xu_5I (by decide)
    refine lv_aload_n hx hb dX11_feed_22 rfl (lv_at hl 0 rfl) ?_
    refine lv_iload_n hx hb dX11_feed_23 rfl (lv_at hl 3 rfl) ?_
    have hFc := fr_free hD hS hA
    refine va_callv (va_runV (As := [.int a3]) (rest := []) ⟨hx, hb, hml, hown, ht⟩ (x_put l G cy _ L K R T I5 E5 J5 B5 this a3 hRT hI hE hthis.1 hthis.2) (cwV 1 ht (gv k_518 k_519 k_520 k_521 k_517) rfl rfl rfl (by decide +kernel) ⟨Nat.le_of_ble_eq_true rfl, Nat.le_of_ble_eq_true rfl⟩) ⟨En.blind, cr_0 hK hP hthis.1 hthis.2, fun U hU hW => ⟨rfl, En.of hU hW hP hK hD hN⟩⟩ rfl rfl hl.1 rfl (lv_room (Nat.le_of_ble_eq_true rfl)) dX11_feed_24 ⟨Nat.le_of_ble_eq_true rfl, Nat.le_of_ble_eq_true rfl⟩) hS (fun q _ h => hFc q h) hFc (fun u_6 t9 H locs ht9 hvm hw hB hz1 hk1 hS => ?_)
    obtain ⟨I6, J6, E6, B6⟩ := u_6
    obtain ⟨hP1, hD1⟩ := hB
    rw [ht9] at hP1
    clear hI hE
    obtain ⟨hI, hE, xu_6I, wu_6⟩ := hw
    dsimp only at hI hE xu_6I wu_6
    have hP : va_P G vwCl (WC cy L K R I6 J6 E6 B6) H := hP1
    have hD : va_D A (WC cy L K R I6 J6 E6 B6) := hD1.weaken (fun _ _ _ h => hFc _ h)
    clear hFc hk1 hz1 hP1 hD1
    replace hC_0 := FI.tr hC_0 xu_6I (by decide)
    refine lv_aload_n hx hb dX11_feed_27 rfl (lv_at hl 0 rfl) ?_
    refine lv_iload hx hb dX11_feed_28 (lv_at hl 4 rfl) ?_
    have hFc := fr_free hD hS hA
    refine va_callv (va_runV (As := [.int a4]) (rest := []) ⟨hx, hb, hml, hown, ht⟩ (x_put l G cy _ L K R T I6 E6 J6 B6 this a4 hRT hI hE hthis.1 hthis.2) (cwV 1 ht (gv k_518 k_519 k_520 k_521 k_517) rfl rfl rfl (by decide +kernel) ⟨Nat.le_of_ble_eq_true rfl, Nat.le_of_ble_eq_true rfl⟩) ⟨En.blind, cr_0 hK hP hthis.1 hthis.2, fun U hU hW => ⟨rfl, En.of hU hW hP hK hD hN⟩⟩ rfl rfl hl.1 rfl (lv_room (Nat.le_of_ble_eq_true rfl)) dX11_feed_30 ⟨Nat.le_of_ble_eq_true rfl, Nat.le_of_ble_eq_true rfl⟩) hS (fun q _ h => hFc q h) hFc (fun u_7 t9 H locs ht9 hvm hw hB hz1 hk1 hS => ?_)
    obtain ⟨I7, J7, E7, B7⟩ := u_7
    obtain ⟨hP1, hD1⟩ := hB
    rw [ht9] at hP1
    clear hI hE
    obtain ⟨hI, hE, xu_7I, wu_7⟩ := hw
    dsimp only at hI hE xu_7I wu_7
    have hP : va_P G vwCl (WC cy L K R I7 J7 E7 B7) H := hP1
    have hD : va_D A (WC cy L K R I7 J7 E7 B7) := hD1.weaken (fun _ _ _ h => hFc _ h)
    clear hFc hk1 hz1 hP1 hD1
    replace hC_0 := FI.tr hC_0 xu_7I (by decide)
    refine lv_aload_n hx hb dX11_feed_33 rfl (lv_at hl 0 rfl) ?_
    refine lv_iload hx hb dX11_feed_34 (lv_at hl 5 rfl) ?_
    have hFc := fr_free hD hS hA
    refine va_callv (va_runV (As := [.int a5]) (rest := []) ⟨hx, hb, hml, hown, ht⟩ (x_put l G cy _ L K R T I7 E7 J7 B7 this a5 hRT hI hE hthis.1 hthis.2) (cwV 1 ht (gv k_518 k_519 k_520 k_521 k_517) rfl rfl rfl (by decide +kernel) ⟨Nat.le_of_ble_eq_true rfl, Nat.le_of_ble_eq_true rfl⟩) ⟨En.blind, cr_0 hK hP hthis.1 hthis.2, fun U hU hW => ⟨rfl, En.of hU hW hP hK hD hN⟩⟩ rfl rfl hl.1 rfl (lv_room (Nat.le_of_ble_eq_true rfl)) dX11_feed_36 ⟨Nat.le_of_ble_eq_true rfl, Nat.le_of_ble_eq_true rfl⟩) hS (fun q _ h => hFc q h) hFc (fun u_8 t9 H locs ht9 hvm hw hB hz1 hk1 hS => ?_)
    obtain ⟨I8, J8, E8, B8⟩ := u_8
    obtain ⟨hP1, hD1⟩ := hB
    rw [ht9] at hP1
    clear hI hE
    obtain ⟨hI, hE, xu_8I, wu_8⟩ := hw
    dsimp only at hI hE xu_8I wu_8
    have hP : va_P G vwCl (WC cy L K R I8 J8 E8 B8) H := hP1
    have hD : va_D A (WC cy L K R I8 J8 E8 B8) := hD1.weaken (fun _ _ _ h => hFc _ h)
    clear hFc hk1 hz1 hP1 hD1
    replace hC_0 := FI.tr hC_0 xu_8I (by decide)
    refine lv_aload_n hx hb dX11_feed_39 rfl (lv_at hl 0 rfl) ?_
    refine cg_0_1_11 hx hb ht hown hK hN hP hthis.1 hthis.2 dX11_feed_40 ?_
    have q_9 : 0 ≤ (I8 this 1).toInt ∧ (I8 this 1).toInt ≤ 1700 := IV.rd hI hthis.1 hthis.2 1
    refine W.widen (k := 0) (n := 0) (Nat.le_of_ble_eq_true rfl) (Nat.le_of_ble_eq_true rfl) ?_
    exact W.iret (v := (I8 this 1)) hx hb hr (fun t ht9 hW => ⟨⟨(I8 this 1), (I8, J8, E8, B8), rfl, ⟨hI, hE, hC_0, trivial⟩, ⟨by rw [ht9]; exact hP, hD⟩⟩, hS.F ht9⟩) hS.2.2 dX11_feed_43
  · have q_10 : (1680 : Int32).toInt < (I this 1).toInt := by have := (not_congr (ow_le _ _)).mp c_2; omega
    refine lv_iconst (v := (-1)) hx hb dX11_feed_10 (by decide) ?_
    refine W.widen (k := 0) (n := 0) (Nat.le_of_ble_eq_true rfl) (Nat.le_of_ble_eq_true rfl) ?_
    exact W.iret (v := (-1)) hx hb hr (fun t ht9 hW => ⟨⟨(-1), (I, J, E, B), rfl, ⟨hI, hE, hC_0, trivial⟩, ⟨by rw [ht9]; exact hP, hD⟩⟩, hS.F ht9⟩) hS.2.2 dX11_feed_11
set_option maxHeartbeats 4000000 in
set_option maxRecDepth 100000 in
theorem x_end (l : Launch) (G : va_G) (cy : Nat → ClassId) (sz : Nat) (L : List Nat) (K : Nat → Nat) (R : Nat → Nat → Nat) (T : Int) (I E : Nat → Nat → Int32) (J B : Nat → Nat → Int64) (this : Nat) (n : Int32) (hRT : RT L K R) (hI : IV T L K I) (hE : EV L K E) (hthis1 : this ∈ L) (hthis2 : K this = 0) : Met l yX11_end (.code yX11_end cX11_end 2 (some .int) :: TBg) ({ frames := 1, cells := 0, slots := 0, locals := 64 }) (va_Pc [.ref this, .int n] (En G cy (WC cy L K R I J E B) sz)) (va_Qi (fun (r : Int32) (u : (Nat → Nat → Int32) × (Nat → Nat → Int64) × (Nat → Nat → Int32) × (Nat → Nat → Int64)) => IV T L K u.1 ∧ EV L K u.2.2.1 ∧ FI [(0, 1)] K I u.1 ∧ (True)) (fun u t => Ex G (va_A (WC cy L K R I J E B) sz) (WC cy L K R u.1 u.2.1 u.2.2.1 u.2.2.2) t) (va_A (WC cy L K R I J E B) sz)) 0 0 (va_A (WC cy L K R I J E B) sz) := by
  have hthis : this ∈ L ∧ K this = 0 := ⟨hthis1, hthis2⟩
  refine Met.ofW (cc := cX11_end) (maxL := 2) (ret := (some .int)) (by decide) rfl ?_
  intro p e s m args below meth c s₁ B9 hml hv9
  obtain ⟨rfl, hsz, hP, hK, hD0, hN⟩ := hv9
  have hx := B9.exec
  have hb := B9.bytes
  have hr := B9.returns
  have hts := atoms_spec (ws := .code yX11_end cX11_end 2 (some .int) :: TBg) B9.pre
  have ht : ∀ w ∈ TBg, w.before _ s = true := fun w h => hts w (List.mem_cons_of_mem _ h)
  have hown : s.vm.findClass RX11 = some m.cls := findClass_of_methodNamed B9.named
  have hlocks := B9.notSynchronized
  subst hsz
  have hD := hD0.self (sz := s.heap.size)
  generalize hAe : va_A (WC cy L K R I J E B) s.heap.size = A at hD ⊢
  have hA : ∀ q : Nat, s.heap.size ≤ q → A q := fun q h => by rw [← hAe]; exact Or.inr h
  have hS : va_S A s.heap s.heap [] := va_S.rf
  have hl := lv_entry ([.ref this, .int n]) (n := 2) (Nat.le_of_ble_eq_true rfl)
  rw [lg_entry_eq]
  generalize (lg_sl ([.ref this, .int n]) ++ List.replicate (2 - (lg_sl ([.ref this, .int n])).length) Slot.unset).toArray = ls at hl ⊢
  have hl : lv_has ls 2 [(0, .ref this), (1, .int n)] := hl
  have z0 : (-1 : Int32).toInt = -1 := by decide
  have z1 : (0 : Int32).toInt = 0 := by decide
  have hC_0 : FI [(0, 1)] K I I := FI.rf
  refine lv_iload_n hx hb dX11_end_0 rfl (lv_at hl 1 rfl) ?_
  refine lv_if_lt (tgt := 12) hx hb dX11_end_1 (by decide) (fun c_1 => ?_) (fun c_1 => ?_)
  · have q_2 : n.toInt < (0 : Int32).toInt := (ow_lt _ _).mp c_1
    refine lv_iconst (v := (-1)) hx hb dX11_end_12 (by decide) ?_
    refine W.widen (k := 0) (n := 0) (Nat.le_of_ble_eq_true rfl) (Nat.le_of_ble_eq_true rfl) ?_
    exact W.iret (v := (-1)) hx hb hr (fun t ht9 hW => ⟨⟨(-1), (I, J, E, B), rfl, ⟨hI, hE, hC_0, trivial⟩, ⟨by rw [ht9]; exact hP, hD⟩⟩, hS.F ht9⟩) hS.2.2 dX11_end_13
  · have q_3 : (0 : Int32).toInt ≤ n.toInt := by have := (not_congr (ow_lt _ _)).mp c_1; omega
    refine lv_iload_n hx hb dX11_end_4 rfl (lv_at hl 1 rfl) ?_
    refine lv_aload_n hx hb dX11_end_5 rfl (lv_at hl 0 rfl) ?_
    refine cg_0_1_11 hx hb ht hown hK hN hP hthis.1 hthis.2 dX11_end_6 ?_
    have q_4 : 0 ≤ (I this 1).toInt ∧ (I this 1).toInt ≤ 1700 := IV.rd hI hthis.1 hthis.2 1
    refine lv_icmp_le (tgt := 14) hx hb dX11_end_9 (by decide) (fun c_5 => ?_) (fun c_5 => ?_)
    · have q_6 : n.toInt ≤ (I this 1).toInt := (ow_le _ _).mp c_5
      refine lv_aload_n hx hb dX11_end_14 rfl (lv_at hl 0 rfl) ?_
      refine lv_iload_n hx hb dX11_end_15 rfl (lv_at hl 1 rfl) ?_
      refine cp_0_1_11 hx hb ht hown hK hN hP hD hS hthis.1 hthis.2 dX11_end_16 (fun H locs hP hD hS => ?_)
      replace hI := IV.up hI hthis.2 1 (show 0 ≤ n.toInt ∧ n.toInt ≤ 1700 from by omega)
      have f_7 : FI [(0, 1)] K I (va_up I this (va_up (I this) 1 n)) := FI.up hthis.2 1 n
      have e_8 : (va_up I this (va_up (I this) 1 n)) this 1 = n := FI.at I this 1 n
      replace hC_0 := FI.tr hC_0 f_7 (by decide)
      generalize (va_up I this (va_up (I this) 1 n)) = I_9 at hP hD hI f_7 e_8 hC_0
      refine lv_iload_n hx hb dX11_end_19 rfl (lv_at hl 1 rfl) ?_
      refine W.widen (k := 0) (n := 0) (Nat.le_of_ble_eq_true rfl) (Nat.le_of_ble_eq_true rfl) ?_
      exact W.iret (v := n) hx hb hr (fun t ht9 hW => ⟨⟨n, (I_9, J, E, B), rfl, ⟨hI, hE, hC_0, trivial⟩, ⟨by rw [ht9]; exact hP, hD⟩⟩, hS.F ht9⟩) hS.2.2 dX11_end_20
    · have q_10 : (I this 1).toInt < n.toInt := by have := (not_congr (ow_le _ _)).mp c_5; omega
      refine lv_iconst (v := (-1)) hx hb dX11_end_12 (by decide) ?_
      refine W.widen (k := 0) (n := 0) (Nat.le_of_ble_eq_true rfl) (Nat.le_of_ble_eq_true rfl) ?_
      exact W.iret (v := (-1)) hx hb hr (fun t ht9 hW => ⟨⟨(-1), (I, J, E, B), rfl, ⟨hI, hE, hC_0, trivial⟩, ⟨by rw [ht9]; exact hP, hD⟩⟩, hS.F ht9⟩) hS.2.2 dX11_end_13
set_option maxHeartbeats 4000000 in
set_option maxRecDepth 100000 in
theorem x_fault (l : Launch) (G : va_G) (cy : Nat → ClassId) (sz : Nat) (L : List Nat) (K : Nat → Nat) (R : Nat → Nat → Nat) (T : Int) (I E : Nat → Nat → Int32) (J B : Nat → Nat → Int64) (this : Nat) (n : Int32) (hRT : RT L K R) (hI : IV T L K I) (hE : EV L K E) (hthis1 : this ∈ L) (hthis2 : K this = 0) : Met l yX11_fault (.code yX11_fault cX11_fault 2 (some .int) :: TBg) ({ frames := 1, cells := 0, slots := 0, locals := 64 }) (va_Pc [.ref this, .int n] (En G cy (WC cy L K R I J E B) sz)) (va_Qi (fun (r : Int32) (_ : Unit) => True) (fun _ _ => True) (va_A [] sz)) 0 0 (va_A [] sz) := by
  have hthis : this ∈ L ∧ K this = 0 := ⟨hthis1, hthis2⟩
  refine Met.ofW (cc := cX11_fault) (maxL := 2) (ret := (some .int)) (by decide) rfl ?_
  intro p e s m args below meth c s₁ B9 hml hv9
  obtain ⟨rfl, hsz, hP, hK, hD0, hN⟩ := hv9
  have hx := B9.exec
  have hb := B9.bytes
  have hr := B9.returns
  have hts := atoms_spec (ws := .code yX11_fault cX11_fault 2 (some .int) :: TBg) B9.pre
  have ht : ∀ w ∈ TBg, w.before _ s = true := fun w h => hts w (List.mem_cons_of_mem _ h)
  have hown : s.vm.findClass RX11 = some m.cls := findClass_of_methodNamed B9.named
  have hlocks := B9.notSynchronized
  subst hsz
  generalize hAe : va_A [] s.heap.size = A at ⊢
  have hA : ∀ q : Nat, s.heap.size ≤ q → A q := fun q h => by rw [← hAe]; exact Or.inr h
  have hS : va_S A s.heap s.heap [] := va_S.rf
  have hl := lv_entry ([.ref this, .int n]) (n := 2) (Nat.le_of_ble_eq_true rfl)
  rw [lg_entry_eq]
  generalize (lg_sl ([.ref this, .int n]) ++ List.replicate (2 - (lg_sl ([.ref this, .int n])).length) Slot.unset).toArray = ls at hl ⊢
  have hl : lv_has ls 2 [(0, .ref this), (1, .int n)] := hl
  have z0 : (-1 : Int32).toInt = -1 := by decide
  have z1 : (0 : Int32).toInt = 0 := by decide
  have z2 : (1 : Int32).toInt = 1 := by decide
  refine lv_iload_n hx hb dX11_fault_0 rfl (lv_at hl 1 rfl) ?_
  refine lv_if_ne (tgt := 9) hx hb dX11_fault_1 (by decide) (fun c_1 => ?_) (fun c_1 => ?_)
  · have q_2 : ¬ n.toInt = (0 : Int32).toInt := by have := (not_congr (ow_eq _ _)).mp c_1; omega
    refine lv_iload_n hx hb dX11_fault_9 rfl (lv_at hl 1 rfl) ?_
    refine lv_iconst (v := 1) hx hb dX11_fault_10 (by decide) ?_
    refine lv_icmp_ne (tgt := 21) hx hb dX11_fault_11 (by decide) (fun c_3 => ?_) (fun c_3 => ?_)
    · have q_4 : ¬ n.toInt = (1 : Int32).toInt := by have := (not_congr (ow_eq _ _)).mp c_3; omega
      refine lv_iconst (v := (-1)) hx hb dX11_fault_21 (by decide) ?_
      refine W.widen (k := 0) (n := 0) (Nat.le_of_ble_eq_true rfl) (Nat.le_of_ble_eq_true rfl) ?_
      exact W.iret (v := (-1)) hx hb hr (fun t ht9 hW => ⟨⟨(-1), (), rfl, trivial, trivial⟩, hS.F ht9⟩) hS.2.2 dX11_fault_22
    · have q_5 : n.toInt = (1 : Int32).toInt := (ow_eq _ _).mp c_3
      refine lv_aload_n hx hb dX11_fault_14 rfl (lv_at hl 0 rfl) ?_
      refine cg_0_5_11 hx hb ht hown hK hN hP hthis.1 hthis.2 dX11_fault_15 ?_
      refine lv_goto (tgt := 22) hx hb dX11_fault_18 (by decide) ?_
      refine W.widen (k := 0) (n := 0) (Nat.le_of_ble_eq_true rfl) (Nat.le_of_ble_eq_true rfl) ?_
      exact W.iret (v := (I this 5)) hx hb hr (fun t ht9 hW => ⟨⟨(I this 5), (), rfl, trivial, trivial⟩, hS.F ht9⟩) hS.2.2 dX11_fault_22
  · have q_6 : n.toInt = (0 : Int32).toInt := (ow_eq _ _).mp c_1
    refine lv_aload_n hx hb dX11_fault_4 rfl (lv_at hl 0 rfl) ?_
    refine cg_0_4_11 hx hb ht hown hK hN hP hthis.1 hthis.2 dX11_fault_5 ?_
    refine W.widen (k := 0) (n := 0) (Nat.le_of_ble_eq_true rfl) (Nat.le_of_ble_eq_true rfl) ?_
    exact W.iret (v := (I this 4)) hx hb hr (fun t ht9 hW => ⟨⟨(I this 4), (), rfl, trivial, trivial⟩, hS.F ht9⟩) hS.2.2 dX11_fault_8
set_option maxHeartbeats 4000000 in
set_option maxRecDepth 100000 in
theorem x_notes (l : Launch) (G : va_G) (cy : Nat → ClassId) (sz : Nat) (L : List Nat) (K : Nat → Nat) (R : Nat → Nat → Nat) (T : Int) (I E : Nat → Nat → Int32) (J B : Nat → Nat → Int64) (this : Nat) (n : Int32) (hRT : RT L K R) (hI : IV T L K I) (hE : EV L K E) (hthis1 : this ∈ L) (hthis2 : K this = 0) : Met l yX11_notes (.code yX11_notes cX11_notes 2 (some .int) :: TBg) ({ frames := 2, cells := 0, slots := 0, locals := 128 }) (va_Pc [.ref this, .int n] (En G cy (WC cy L K R I J E B) sz)) (va_Qi (fun (r : Int32) (_ : Unit) => True) (fun _ _ => True) (va_A [] sz)) 0 0 (va_A [] sz) := by
  have hthis : this ∈ L ∧ K this = 0 := ⟨hthis1, hthis2⟩
  refine Met.ofW (cc := cX11_notes) (maxL := 2) (ret := (some .int)) (by decide) rfl ?_
  intro p e s m args below meth c s₁ B9 hml hv9
  obtain ⟨rfl, hsz, hP, hK, hD0, hN⟩ := hv9
  have hx := B9.exec
  have hb := B9.bytes
  have hr := B9.returns
  have hts := atoms_spec (ws := .code yX11_notes cX11_notes 2 (some .int) :: TBg) B9.pre
  have ht : ∀ w ∈ TBg, w.before _ s = true := fun w h => hts w (List.mem_cons_of_mem _ h)
  have hown : s.vm.findClass RX11 = some m.cls := findClass_of_methodNamed B9.named
  have hlocks := B9.notSynchronized
  subst hsz
  generalize hAe : va_A [] s.heap.size = A at ⊢
  have hA : ∀ q : Nat, s.heap.size ≤ q → A q := fun q h => by rw [← hAe]; exact Or.inr h
  have hS : va_S A s.heap s.heap [] := va_S.rf
  have hl := lv_entry ([.ref this, .int n]) (n := 2) (Nat.le_of_ble_eq_true rfl)
  rw [lg_entry_eq]
  generalize (lg_sl ([.ref this, .int n]) ++ List.replicate (2 - (lg_sl ([.ref this, .int n])).length) Slot.unset).toArray = ls at hl ⊢
  have hl : lv_has ls 2 [(0, .ref this), (1, .int n)] := hl
  have z0 : (-1 : Int32).toInt = -1 := by decide
  have z1 : (0 : Int32).toInt = 0 := by decide
  refine lv_aload_n hx hb dX11_notes_0 rfl (lv_at hl 0 rfl) ?_
  refine cg_0_2_11 hx hb ht hown hK hN hP hthis.1 hthis.2 dX11_notes_1 ?_
  have hm_1 : (R this 2) ∈ L ∧ K (R this 2) = 1 := RT.o hRT hthis.1 hthis.2 2 (by decide)
  refine lv_iload_n hx hb dX11_notes_4 rfl (lv_at hl 1 rfl) ?_
  have hFc := fr_new hS hA
  refine va_calli (va_runV (As := [.int n]) (rest := []) ⟨hx, hb, hml, hown, ht⟩ (c_hasTune l G cy _ L K R T I E J B (R this 2) n hRT hI hE hm_1.1 hm_1.2) (cwV 1 ht (gv k_523 k_524 k_525 k_461 k_522) rfl rfl rfl (by decide +kernel) ⟨Nat.le_of_ble_eq_true rfl, Nat.le_of_ble_eq_true rfl⟩) ⟨En.blind, cr_1 hK hP hm_1.1 hm_1.2, fun U hU hW => ⟨rfl, En.of hU hW hP hK hD0 hN⟩⟩ rfl rfl hl.1 rfl (lv_room (Nat.le_of_ble_eq_true rfl)) dX11_notes_5 ⟨Nat.le_of_ble_eq_true rfl, Nat.le_of_ble_eq_true rfl⟩) hS (fun q _ h => hFc q h) hFc (fun r_u_2 u_2 t9 H locs ht9 hvm hw hB hz1 hk1 hS => ?_)
  have hP := fr_keep hP hk1
  have wu_2 := hw
  clear hFc hk1 hz1 hB hw
  refine lv_if_eq (tgt := 26) hx hb dX11_notes_8 (by decide) (fun c_3 => ?_) (fun c_3 => ?_)
  · have q_4 : r_u_2.toInt = (0 : Int32).toInt := (ow_eq _ _).mp c_3
    refine lv_iconst (v := (-1)) hx hb dX11_notes_26 (by decide) ?_
    refine W.widen (k := 0) (n := 0) (Nat.le_of_ble_eq_true rfl) (Nat.le_of_ble_eq_true rfl) ?_
    exact W.iret (v := (-1)) hx hb hr (fun t ht9 hW => ⟨⟨(-1), (), rfl, trivial, trivial⟩, hS.F ht9⟩) hS.2.2 dX11_notes_27
  · have q_5 : ¬ r_u_2.toInt = (0 : Int32).toInt := by have := (not_congr (ow_eq _ _)).mp c_3; omega
    refine lv_aload_n hx hb dX11_notes_11 rfl (lv_at hl 0 rfl) ?_
    refine cg_0_2_11 hx hb ht hown hK hN hP hthis.1 hthis.2 dX11_notes_12 ?_
    refine cg_1_0_11 hx hb ht hown hK hN hP hm_1.1 hm_1.2 dX11_notes_15 ?_
    have hm_6 : (R (R this 2) 0) ∈ L ∧ K (R (R this 2) 0) = 29 := RT.o hRT hm_1.1 hm_1.2 0 (by decide)
    refine lv_iload_n hx hb dX11_notes_18 rfl (lv_at hl 1 rfl) ?_
    have q_7 : vp_in n 14 := vp_in_iff.mpr ⟨by omega, by omega⟩
    refine cl_29 hx hb hK hP hm_6.1 hm_6.2 q_7 dX11_notes_19 ?_
    have hm_8 : (R (R (R this 2) 0) (Int32.toNatClampNeg n)) ∈ L ∧ K (R (R (R this 2) 0) (Int32.toNatClampNeg n)) = 2 := RT.a hRT hm_6.1 hm_6.2 (by decide) q_7
    refine cg_2_2_11 hx hb ht hown hK hN hP hm_8.1 hm_8.2 dX11_notes_20 ?_
    have q_9 : 0 ≤ (I (R (R (R this 2) 0) (Int32.toNatClampNeg n)) 2).toInt ∧ (I (R (R (R this 2) 0) (Int32.toNatClampNeg n)) 2).toInt ≤ 12 := IV.rd hI hm_8.1 hm_8.2 2
    refine lv_goto (tgt := 27) hx hb dX11_notes_23 (by decide) ?_
    refine W.widen (k := 0) (n := 0) (Nat.le_of_ble_eq_true rfl) (Nat.le_of_ble_eq_true rfl) ?_
    exact W.iret (v := (I (R (R (R this 2) 0) (Int32.toNatClampNeg n)) 2)) hx hb hr (fun t ht9 hW => ⟨⟨(I (R (R (R this 2) 0) (Int32.toNatClampNeg n)) 2), (), rfl, trivial, trivial⟩, hS.F ht9⟩) hS.2.2 dX11_notes_27
set_option maxHeartbeats 4000000 in
set_option maxRecDepth 100000 in
theorem x_step (l : Launch) (G : va_G) (cy : Nat → ClassId) (sz : Nat) (L : List Nat) (K : Nat → Nat) (R : Nat → Nat → Nat) (T : Int) (I E : Nat → Nat → Int32) (J B : Nat → Nat → Int64) (this : Nat) (n : Int32) (n2 : Int32) (hRT : RT L K R) (hI : IV T L K I) (hE : EV L K E) (hthis1 : this ∈ L) (hthis2 : K this = 0) : Met l yX11_step (.code yX11_step cX11_step 3 (some .int) :: TBg) ({ frames := 2, cells := 0, slots := 0, locals := 128 }) (va_Pc [.ref this, .int n, .int n2] (En G cy (WC cy L K R I J E B) sz)) (va_Qi (fun (r : Int32) (_ : Unit) => True) (fun _ _ => True) (va_A [] sz)) 0 0 (va_A [] sz) := by
  have hthis : this ∈ L ∧ K this = 0 := ⟨hthis1, hthis2⟩
  refine Met.ofW (cc := cX11_step) (maxL := 3) (ret := (some .int)) (by decide) rfl ?_
  intro p e s m args below meth c s₁ B9 hml hv9
  obtain ⟨rfl, hsz, hP, hK, hD0, hN⟩ := hv9
  have hx := B9.exec
  have hb := B9.bytes
  have hr := B9.returns
  have hts := atoms_spec (ws := .code yX11_step cX11_step 3 (some .int) :: TBg) B9.pre
  have ht : ∀ w ∈ TBg, w.before _ s = true := fun w h => hts w (List.mem_cons_of_mem _ h)
  have hown : s.vm.findClass RX11 = some m.cls := findClass_of_methodNamed B9.named
  have hlocks := B9.notSynchronized
  subst hsz
  generalize hAe : va_A [] s.heap.size = A at ⊢
  have hA : ∀ q : Nat, s.heap.size ≤ q → A q := fun q h => by rw [← hAe]; exact Or.inr h
  have hS : va_S A s.heap s.heap [] := va_S.rf
  have hl := lv_entry ([.ref this, .int n, .int n2]) (n := 3) (Nat.le_of_ble_eq_true rfl)
  rw [lg_entry_eq]
  generalize (lg_sl ([.ref this, .int n, .int n2]) ++ List.replicate (3 - (lg_sl ([.ref this, .int n, .int n2])).length) Slot.unset).toArray = ls at hl ⊢
  have hl : lv_has ls 3 [(0, .ref this), (1, .int n), (2, .int n2)] := hl
  have z0 : (-1000000 : Int32).toInt = -1000000 := by decide
  have z1 : (0 : Int32).toInt = 0 := by decide
  have z2 : (1 : Int32).toInt = 1 := by decide
  refine lv_aload_n hx hb dX11_step_0 rfl (lv_at hl 0 rfl) ?_
  refine cg_0_2_11 hx hb ht hown hK hN hP hthis.1 hthis.2 dX11_step_1 ?_
  have hm_1 : (R this 2) ∈ L ∧ K (R this 2) = 1 := RT.o hRT hthis.1 hthis.2 2 (by decide)
  refine lv_iload_n hx hb dX11_step_4 rfl (lv_at hl 1 rfl) ?_
  have hFc := fr_new hS hA
  refine va_calli (va_runV (As := [.int n]) (rest := []) ⟨hx, hb, hml, hown, ht⟩ (c_hasTune l G cy _ L K R T I E J B (R this 2) n hRT hI hE hm_1.1 hm_1.2) (cwV 1 ht (gv k_523 k_524 k_525 k_461 k_522) rfl rfl rfl (by decide +kernel) ⟨Nat.le_of_ble_eq_true rfl, Nat.le_of_ble_eq_true rfl⟩) ⟨En.blind, cr_1 hK hP hm_1.1 hm_1.2, fun U hU hW => ⟨rfl, En.of hU hW hP hK hD0 hN⟩⟩ rfl rfl hl.1 rfl (lv_room (Nat.le_of_ble_eq_true rfl)) dX11_step_5 ⟨Nat.le_of_ble_eq_true rfl, Nat.le_of_ble_eq_true rfl⟩) hS (fun q _ h => hFc q h) hFc (fun r_u_2 u_2 t9 H locs ht9 hvm hw hB hz1 hk1 hS => ?_)
  have hP := fr_keep hP hk1
  have wu_2 := hw
  clear hFc hk1 hz1 hB hw
  refine lv_if_eq (tgt := 33) hx hb dX11_step_8 (by decide) (fun c_3 => ?_) (fun c_3 => ?_)
  · have q_4 : r_u_2.toInt = (0 : Int32).toInt := (ow_eq _ _).mp c_3
    refine lv_ldc (v := (-1000000)) hx hb hown (ht _ k_526) dX11_step_33 ?_
    refine W.widen (k := 0) (n := 0) (Nat.le_of_ble_eq_true rfl) (Nat.le_of_ble_eq_true rfl) ?_
    exact W.iret (v := (-1000000)) hx hb hr (fun t ht9 hW => ⟨⟨(-1000000), (), rfl, trivial, trivial⟩, hS.F ht9⟩) hS.2.2 dX11_step_35
  · have q_5 : ¬ r_u_2.toInt = (0 : Int32).toInt := by have := (not_congr (ow_eq _ _)).mp c_3; omega
    refine lv_iload_n hx hb dX11_step_11 rfl (lv_at hl 2 rfl) ?_
    refine lv_if_lt (tgt := 33) hx hb dX11_step_12 (by decide) (fun c_6 => ?_) (fun c_6 => ?_)
    · have q_7 : n2.toInt < (0 : Int32).toInt := (ow_lt _ _).mp c_6
      refine lv_ldc (v := (-1000000)) hx hb hown (ht _ k_526) dX11_step_33 ?_
      refine W.widen (k := 0) (n := 0) (Nat.le_of_ble_eq_true rfl) (Nat.le_of_ble_eq_true rfl) ?_
      exact W.iret (v := (-1000000)) hx hb hr (fun t ht9 hW => ⟨⟨(-1000000), (), rfl, trivial, trivial⟩, hS.F ht9⟩) hS.2.2 dX11_step_35
    · have q_8 : (0 : Int32).toInt ≤ n2.toInt := by have := (not_congr (ow_lt _ _)).mp c_6; omega
      refine lv_iload_n hx hb dX11_step_15 rfl (lv_at hl 2 rfl) ?_
      refine lv_aload_n hx hb dX11_step_16 rfl (lv_at hl 0 rfl) ?_
      refine cg_0_2_11 hx hb ht hown hK hN hP hthis.1 hthis.2 dX11_step_17 ?_
      refine cg_1_0_11 hx hb ht hown hK hN hP hm_1.1 hm_1.2 dX11_step_20 ?_
      have hm_9 : (R (R this 2) 0) ∈ L ∧ K (R (R this 2) 0) = 29 := RT.o hRT hm_1.1 hm_1.2 0 (by decide)
      refine lv_iload_n hx hb dX11_step_23 rfl (lv_at hl 1 rfl) ?_
      have q_10 : vp_in n 14 := vp_in_iff.mpr ⟨by omega, by omega⟩
      refine cl_29 hx hb hK hP hm_9.1 hm_9.2 q_10 dX11_step_24 ?_
      have hm_11 : (R (R (R this 2) 0) (Int32.toNatClampNeg n)) ∈ L ∧ K (R (R (R this 2) 0) (Int32.toNatClampNeg n)) = 2 := RT.a hRT hm_9.1 hm_9.2 (by decide) q_10
      refine cg_2_2_11 hx hb ht hown hK hN hP hm_11.1 hm_11.2 dX11_step_25 ?_
      have q_12 : 0 ≤ (I (R (R (R this 2) 0) (Int32.toNatClampNeg n)) 2).toInt ∧ (I (R (R (R this 2) 0) (Int32.toNatClampNeg n)) 2).toInt ≤ 12 := IV.rd hI hm_11.1 hm_11.2 2
      refine lv_iconst (v := 1) hx hb dX11_step_28 (by decide) ?_
      refine lv_isub hx hb dX11_step_29 ?_
      refine lv_topi (fun v_13 ev_13 => ?_)
      have q_14 : v_13.toInt = (I (R (R (R this 2) 0) (Int32.toNatClampNeg n)) 2).toInt - (1 : Int32).toInt := ow_sub ev_13 (by omega) (by omega)
      refine lv_icmp_lt (tgt := 36) hx hb dX11_step_30 (by decide) (fun c_15 => ?_) (fun c_15 => ?_)
      · have q_16 : n2.toInt < v_13.toInt := (ow_lt _ _).mp c_15
        refine lv_aload_n hx hb dX11_step_36 rfl (lv_at hl 0 rfl) ?_
        refine cg_0_2_11 hx hb ht hown hK hN hP hthis.1 hthis.2 dX11_step_37 ?_
        refine cg_1_0_11 hx hb ht hown hK hN hP hm_1.1 hm_1.2 dX11_step_40 ?_
        refine lv_iload_n hx hb dX11_step_43 rfl (lv_at hl 1 rfl) ?_
        have q_17 : vp_in n 14 := vp_in_iff.mpr ⟨by omega, by omega⟩
        refine cl_29 hx hb hK hP hm_9.1 hm_9.2 q_17 dX11_step_44 ?_
        have hm_18 : (R (R (R this 2) 0) (Int32.toNatClampNeg n)) ∈ L ∧ K (R (R (R this 2) 0) (Int32.toNatClampNeg n)) = 2 := RT.a hRT hm_9.1 hm_9.2 (by decide) q_17
        refine lv_iload_n hx hb dX11_step_45 rfl (lv_at hl 2 rfl) ?_
        refine lv_iconst (v := 1) hx hb dX11_step_46 (by decide) ?_
        refine lv_iadd hx hb dX11_step_47 ?_
        refine lv_topi (fun v_19 ev_19 => ?_)
        have q_20 : v_19.toInt = n2.toInt + (1 : Int32).toInt := ow_add ev_19 (by omega) (by omega)
        have hFc := fr_new hS hA
        refine va_calli (va_runV (As := [.int v_19]) (rest := []) ⟨hx, hb, hml, hown, ht⟩ (c_rise2 l G cy _ L K R T I E J B (R (R (R this 2) 0) (Int32.toNatClampNeg n)) v_19 hRT hI hE hm_18.1 hm_18.2) (cwV 1 ht (gv k_527 k_397 k_398 k_399 k_395) rfl rfl rfl (by decide +kernel) ⟨Nat.le_of_ble_eq_true rfl, Nat.le_of_ble_eq_true rfl⟩) ⟨En.blind, cr_2 hK hP hm_18.1 hm_18.2, fun U hU hW => ⟨rfl, En.of hU hW hP hK hD0 hN⟩⟩ rfl rfl hl.1 rfl (lv_room (Nat.le_of_ble_eq_true rfl)) dX11_step_48 ⟨Nat.le_of_ble_eq_true rfl, Nat.le_of_ble_eq_true rfl⟩) hS (fun q _ h => hFc q h) hFc (fun r_u_21 u_21 t9 H locs ht9 hvm hw hB hz1 hk1 hS => ?_)
        have hP := fr_keep hP hk1
        have wu_21 := hw
        clear hFc hk1 hz1 hB hw
        refine W.widen (k := 0) (n := 0) (Nat.le_of_ble_eq_true rfl) (Nat.le_of_ble_eq_true rfl) ?_
        exact W.iret (v := r_u_21) hx hb hr (fun t ht9 hW => ⟨⟨r_u_21, (), rfl, trivial, trivial⟩, hS.F ht9⟩) hS.2.2 dX11_step_51
      · have q_22 : v_13.toInt ≤ n2.toInt := by have := (not_congr (ow_lt _ _)).mp c_15; omega
        refine lv_ldc (v := (-1000000)) hx hb hown (ht _ k_526) dX11_step_33 ?_
        refine W.widen (k := 0) (n := 0) (Nat.le_of_ble_eq_true rfl) (Nat.le_of_ble_eq_true rfl) ?_
        exact W.iret (v := (-1000000)) hx hb hr (fun t ht9 hW => ⟨⟨(-1000000), (), rfl, trivial, trivial⟩, hS.F ht9⟩) hS.2.2 dX11_step_35
set_option maxHeartbeats 4000000 in
set_option maxRecDepth 100000 in
theorem x_off (l : Launch) (G : va_G) (cy : Nat → ClassId) (sz : Nat) (L : List Nat) (K : Nat → Nat) (R : Nat → Nat → Nat) (T : Int) (I E : Nat → Nat → Int32) (J B : Nat → Nat → Int64) (this : Nat) (n : Int32) (n2 : Int32) (n3 : Int32) (hRT : RT L K R) (hI : IV T L K I) (hE : EV L K E) (hthis1 : this ∈ L) (hthis2 : K this = 0) : Met l yX11_off (.code yX11_off cX11_off 4 (some .int) :: TBg) ({ frames := 4, cells := 0, slots := 0, locals := 256 }) (va_Pc [.ref this, .int n, .int n2, .int n3] (En G cy (WC cy L K R I J E B) sz)) (va_Qi (fun (r : Int32) (_ : Unit) => True) (fun _ _ => True) (va_A [] sz)) 0 0 (va_A [] sz) := by
  have hthis : this ∈ L ∧ K this = 0 := ⟨hthis1, hthis2⟩
  refine Met.ofW (cc := cX11_off) (maxL := 4) (ret := (some .int)) (by decide) rfl ?_
  intro p e s m args below meth c s₁ B9 hml hv9
  obtain ⟨rfl, hsz, hP, hK, hD0, hN⟩ := hv9
  have hx := B9.exec
  have hb := B9.bytes
  have hr := B9.returns
  have hts := atoms_spec (ws := .code yX11_off cX11_off 4 (some .int) :: TBg) B9.pre
  have ht : ∀ w ∈ TBg, w.before _ s = true := fun w h => hts w (List.mem_cons_of_mem _ h)
  have hown : s.vm.findClass RX11 = some m.cls := findClass_of_methodNamed B9.named
  have hlocks := B9.notSynchronized
  subst hsz
  generalize hAe : va_A [] s.heap.size = A at ⊢
  have hA : ∀ q : Nat, s.heap.size ≤ q → A q := fun q h => by rw [← hAe]; exact Or.inr h
  have hS : va_S A s.heap s.heap [] := va_S.rf
  have hl := lv_entry ([.ref this, .int n, .int n2, .int n3]) (n := 4) (Nat.le_of_ble_eq_true rfl)
  rw [lg_entry_eq]
  generalize (lg_sl ([.ref this, .int n, .int n2, .int n3]) ++ List.replicate (4 - (lg_sl ([.ref this, .int n, .int n2, .int n3])).length) Slot.unset).toArray = ls at hl ⊢
  have hl : lv_has ls 4 [(0, .ref this), (1, .int n), (2, .int n2), (3, .int n3)] := hl
  have z0 : (-1 : Int32).toInt = -1 := by decide
  have z1 : (0 : Int32).toInt = 0 := by decide
  refine lv_aload_n hx hb dX11_off_0 rfl (lv_at hl 0 rfl) ?_
  refine cg_0_2_11 hx hb ht hown hK hN hP hthis.1 hthis.2 dX11_off_1 ?_
  have hm_1 : (R this 2) ∈ L ∧ K (R this 2) = 1 := RT.o hRT hthis.1 hthis.2 2 (by decide)
  refine lv_iload_n hx hb dX11_off_4 rfl (lv_at hl 1 rfl) ?_
  have hFc := fr_new hS hA
  refine va_calli (va_runV (As := [.int n]) (rest := []) ⟨hx, hb, hml, hown, ht⟩ (c_hasTune l G cy _ L K R T I E J B (R this 2) n hRT hI hE hm_1.1 hm_1.2) (cwV 1 ht (gv k_523 k_524 k_525 k_461 k_522) rfl rfl rfl (by decide +kernel) ⟨Nat.le_of_ble_eq_true rfl, Nat.le_of_ble_eq_true rfl⟩) ⟨En.blind, cr_1 hK hP hm_1.1 hm_1.2, fun U hU hW => ⟨rfl, En.of hU hW hP hK hD0 hN⟩⟩ rfl rfl hl.1 rfl (lv_room (Nat.le_of_ble_eq_true rfl)) dX11_off_5 ⟨Nat.le_of_ble_eq_true rfl, Nat.le_of_ble_eq_true rfl⟩) hS (fun q _ h => hFc q h) hFc (fun r_u_2 u_2 t9 H locs ht9 hvm hw hB hz1 hk1 hS => ?_)
  have hP := fr_keep hP hk1
  have wu_2 := hw
  clear hFc hk1 hz1 hB hw
  refine lv_if_eq (tgt := 22) hx hb dX11_off_8 (by decide) (fun c_3 => ?_) (fun c_3 => ?_)
  · have q_4 : r_u_2.toInt = (0 : Int32).toInt := (ow_eq _ _).mp c_3
    refine lv_iconst (v := (-1)) hx hb dX11_off_22 (by decide) ?_
    refine W.widen (k := 0) (n := 0) (Nat.le_of_ble_eq_true rfl) (Nat.le_of_ble_eq_true rfl) ?_
    exact W.iret (v := (-1)) hx hb hr (fun t ht9 hW => ⟨⟨(-1), (), rfl, trivial, trivial⟩, hS.F ht9⟩) hS.2.2 dX11_off_23
  · have q_5 : ¬ r_u_2.toInt = (0 : Int32).toInt := by have := (not_congr (ow_eq _ _)).mp c_3; omega
    refine lv_aload_n hx hb dX11_off_11 rfl (lv_at hl 0 rfl) ?_
    refine cg_0_2_11 hx hb ht hown hK hN hP hthis.1 hthis.2 dX11_off_12 ?_
    refine lv_iload_n hx hb dX11_off_15 rfl (lv_at hl 2 rfl) ?_
    have hFc := fr_new hS hA
    refine va_calli (va_runV (As := [.int n2]) (rest := []) ⟨hx, hb, hml, hown, ht⟩ (c_hasTune l G cy _ L K R T I E J B (R this 2) n2 hRT hI hE hm_1.1 hm_1.2) (cwV 1 ht (gv k_523 k_524 k_525 k_461 k_522) rfl rfl rfl (by decide +kernel) ⟨Nat.le_of_ble_eq_true rfl, Nat.le_of_ble_eq_true rfl⟩) ⟨En.blind, cr_1 hK hP hm_1.1 hm_1.2, fun U hU hW => ⟨rfl, En.of hU hW hP hK hD0 hN⟩⟩ rfl rfl hl.1 rfl (lv_room (Nat.le_of_ble_eq_true rfl)) dX11_off_16 ⟨Nat.le_of_ble_eq_true rfl, Nat.le_of_ble_eq_true rfl⟩) hS (fun q _ h => hFc q h) hFc (fun r_u_6 u_6 t9 H locs ht9 hvm hw hB hz1 hk1 hS => ?_)
    have hP := fr_keep hP hk1
    have wu_6 := hw
    clear hFc hk1 hz1 hB hw
    refine lv_if_ne (tgt := 24) hx hb dX11_off_19 (by decide) (fun c_7 => ?_) (fun c_7 => ?_)
    · have q_8 : ¬ r_u_6.toInt = (0 : Int32).toInt := by have := (not_congr (ow_eq _ _)).mp c_7; omega
      refine lv_aload_n hx hb dX11_off_24 rfl (lv_at hl 0 rfl) ?_
      refine cg_0_2_11 hx hb ht hown hK hN hP hthis.1 hthis.2 dX11_off_25 ?_
      refine cg_1_0_11 hx hb ht hown hK hN hP hm_1.1 hm_1.2 dX11_off_28 ?_
      have hm_9 : (R (R this 2) 0) ∈ L ∧ K (R (R this 2) 0) = 29 := RT.o hRT hm_1.1 hm_1.2 0 (by decide)
      refine lv_iload_n hx hb dX11_off_31 rfl (lv_at hl 1 rfl) ?_
      have q_10 : vp_in n 14 := vp_in_iff.mpr ⟨by omega, by omega⟩
      refine cl_29 hx hb hK hP hm_9.1 hm_9.2 q_10 dX11_off_32 ?_
      have hm_11 : (R (R (R this 2) 0) (Int32.toNatClampNeg n)) ∈ L ∧ K (R (R (R this 2) 0) (Int32.toNatClampNeg n)) = 2 := RT.a hRT hm_9.1 hm_9.2 (by decide) q_10
      refine lv_aload_n hx hb dX11_off_33 rfl (lv_at hl 0 rfl) ?_
      refine cg_0_2_11 hx hb ht hown hK hN hP hthis.1 hthis.2 dX11_off_34 ?_
      refine cg_1_0_11 hx hb ht hown hK hN hP hm_1.1 hm_1.2 dX11_off_37 ?_
      refine lv_iload_n hx hb dX11_off_40 rfl (lv_at hl 2 rfl) ?_
      have q_12 : vp_in n2 14 := vp_in_iff.mpr ⟨by omega, by omega⟩
      refine cl_29 hx hb hK hP hm_9.1 hm_9.2 q_12 dX11_off_41 ?_
      have hm_13 : (R (R (R this 2) 0) (Int32.toNatClampNeg n2)) ∈ L ∧ K (R (R (R this 2) 0) (Int32.toNatClampNeg n2)) = 2 := RT.a hRT hm_9.1 hm_9.2 (by decide) q_12
      refine lv_iload_n hx hb dX11_off_42 rfl (lv_at hl 3 rfl) ?_
      have hFc := fr_new hS hA
      refine va_calli (va_runV (As := [.ref (R (R (R this 2) 0) (Int32.toNatClampNeg n2)), .int n3]) (rest := []) ⟨hx, hb, hml, hown, ht⟩ (c_offAt2 l G cy _ L K R T I E J B (R (R (R this 2) 0) (Int32.toNatClampNeg n)) (R (R (R this 2) 0) (Int32.toNatClampNeg n2)) n3 hRT hI hE hm_11.1 hm_11.2 hm_13.1 hm_13.2) (cwV 2 ht (gv k_528 k_425 k_426 k_399 k_423) rfl rfl rfl (by decide +kernel) ⟨Nat.le_of_ble_eq_true rfl, Nat.le_of_ble_eq_true rfl⟩) ⟨En.blind, cr_2 hK hP hm_11.1 hm_11.2, fun U hU hW => ⟨rfl, En.of hU hW hP hK hD0 hN⟩⟩ rfl rfl hl.1 rfl (lv_room (Nat.le_of_ble_eq_true rfl)) dX11_off_43 ⟨Nat.le_of_ble_eq_true rfl, Nat.le_of_ble_eq_true rfl⟩) hS (fun q _ h => hFc q h) hFc (fun r_u_14 u_14 t9 H locs ht9 hvm hw hB hz1 hk1 hS => ?_)
      have hP := fr_keep hP hk1
      have wu_14 := hw
      clear hFc hk1 hz1 hB hw
      refine W.widen (k := 0) (n := 0) (Nat.le_of_ble_eq_true rfl) (Nat.le_of_ble_eq_true rfl) ?_
      exact W.iret (v := r_u_14) hx hb hr (fun t ht9 hW => ⟨⟨r_u_14, (), rfl, trivial, trivial⟩, hS.F ht9⟩) hS.2.2 dX11_off_46
    · have q_15 : r_u_6.toInt = (0 : Int32).toInt := (ow_eq _ _).mp c_7
      refine lv_iconst (v := (-1)) hx hb dX11_off_22 (by decide) ?_
      refine W.widen (k := 0) (n := 0) (Nat.le_of_ble_eq_true rfl) (Nat.le_of_ble_eq_true rfl) ?_
      exact W.iret (v := (-1)) hx hb hr (fun t ht9 hW => ⟨⟨(-1), (), rfl, trivial, trivial⟩, hS.F ht9⟩) hS.2.2 dX11_off_23
set_option maxHeartbeats 4000000 in
set_option maxRecDepth 100000 in
theorem x_tellIn2 (l : Launch) (G : va_G) (cy : Nat → ClassId) (sz : Nat) (L : List Nat) (K : Nat → Nat) (R : Nat → Nat → Nat) (T : Int) (I E : Nat → Nat → Int32) (J B : Nat → Nat → Int64) (this : Nat) (hearing : Nat) (n : Int32) (song : Nat) (n4 : Int32) (hRT : RT L K R) (hI : IV T L K I) (hE : EV L K E) (hthis1 : this ∈ L) (hthis2 : K this = 0) (h_hearing1 : hearing ∈ L) (h_hearing2 : K hearing = 4) (h_n : 0 ≤ n.toInt ∧ n.toInt ≤ 13) (h_song1 : song ∈ L) (h_song2 : K song = 2) : Met l yX11_tellIn (.code yX11_tellIn cX11_tellIn 6 (some .int) :: TBg) ({ frames := 3, cells := 0, slots := 0, locals := 192 }) (va_Pc [.ref this, .ref hearing, .int n, .ref song, .int n4] (En G cy (WC cy L K R I J E B) sz)) (va_Qi (fun (r : Int32) (_ : Unit) => True) (fun _ _ => True) (va_A [] sz)) 0 0 (va_A [] sz) := by
  have hthis : this ∈ L ∧ K this = 0 := ⟨hthis1, hthis2⟩
  have h_hearing : hearing ∈ L ∧ K hearing = 4 := ⟨h_hearing1, h_hearing2⟩
  have h_song : song ∈ L ∧ K song = 2 := ⟨h_song1, h_song2⟩
  refine Met.ofW (cc := cX11_tellIn) (maxL := 6) (ret := (some .int)) (by decide) rfl ?_
  intro p e s m args below meth c s₁ B9 hml hv9
  obtain ⟨rfl, hsz, hP, hK, hD0, hN⟩ := hv9
  have hx := B9.exec
  have hb := B9.bytes
  have hr := B9.returns
  have hts := atoms_spec (ws := .code yX11_tellIn cX11_tellIn 6 (some .int) :: TBg) B9.pre
  have ht : ∀ w ∈ TBg, w.before _ s = true := fun w h => hts w (List.mem_cons_of_mem _ h)
  have hown : s.vm.findClass RX11 = some m.cls := findClass_of_methodNamed B9.named
  have hlocks := B9.notSynchronized
  subst hsz
  generalize hAe : va_A [] s.heap.size = A at ⊢
  have hA : ∀ q : Nat, s.heap.size ≤ q → A q := fun q h => by rw [← hAe]; exact Or.inr h
  have hS : va_S A s.heap s.heap [] := va_S.rf
  have hl := lv_entry ([.ref this, .ref hearing, .int n, .ref song, .int n4]) (n := 6) (Nat.le_of_ble_eq_true rfl)
  rw [lg_entry_eq]
  generalize (lg_sl ([.ref this, .ref hearing, .int n, .ref song, .int n4]) ++ List.replicate (6 - (lg_sl ([.ref this, .ref hearing, .int n, .ref song, .int n4])).length) Slot.unset).toArray = ls at hl ⊢
  have hl : lv_has ls 6 [(0, .ref this), (1, .ref hearing), (2, .int n), (3, .ref song), (4, .int n4)] := hl
  have z0 : (-1 : Int32).toInt = -1 := by decide
  refine lv_aload_n hx hb dX11_tellIn_0 rfl (lv_at hl 1 rfl) ?_
  refine cg_4_0_11 hx hb ht hown hK hN hP h_hearing.1 h_hearing.2 dX11_tellIn_1 ?_
  have hm_1 : (R hearing 0) ∈ L ∧ K (R hearing 0) = 25 := RT.o hRT h_hearing.1 h_hearing.2 0 (by decide)
  refine lv_iload_n hx hb dX11_tellIn_4 rfl (lv_at hl 2 rfl) ?_
  have q_2 : vp_in n 14 := vp_in_iff.mpr ⟨by omega, by omega⟩
  refine cl_25 hx hb hK hP hm_1.1 hm_1.2 q_2 dX11_tellIn_5 ?_
  refine lv_topi (fun v_3 ev_3 => ?_)
  refine lv_istore (lv' := [(5, .int v_3), (0, .ref this), (1, .ref hearing), (2, .int n), (3, .ref song), (4, .int n4)]) hx hb dX11_tellIn_6 hl (by decide) rfl (fun ls hl => ?_)
  refine lv_iload hx hb dX11_tellIn_8 (lv_at hl 0 rfl) ?_
  refine lv_iconst (v := (-1)) hx hb dX11_tellIn_10 (by decide) ?_
  refine lv_icmp_ne (tgt := 16) hx hb dX11_tellIn_11 (by decide) (fun c_4 => ?_) (fun c_4 => ?_)
  · have q_5 : ¬ v_3.toInt = ((-1) : Int32).toInt := by have := (not_congr (ow_eq _ _)).mp c_4; omega
    refine lv_iload hx hb dX11_tellIn_16 (lv_at hl 5 rfl) ?_
    by_cases sw_6 : n4.toInt < 0 ∨ 2 < n4.toInt
    · refine lv_tableOut (tgt := 70) hx hb dX11_tellIn_18 (by omega) (by decide) ?_
      refine lv_iconst (v := (-1)) hx hb dX11_tellIn_70 (by decide) ?_
      refine W.widen (k := 0) (n := 0) (Nat.le_of_ble_eq_true rfl) (Nat.le_of_ble_eq_true rfl) ?_
      exact W.iret (v := (-1)) hx hb hr (fun t ht9 hW => ⟨⟨(-1), (), rfl, trivial, trivial⟩, hS.F ht9⟩) hS.2.2 dX11_tellIn_71
    · have h3sw_6 : n4.toInt = 0 ∨ n4.toInt = 1 ∨ n4.toInt = 2 := by omega
      rcases h3sw_6 with h3sw_6 | h3sw_6 | h3sw_6
      · refine ow_top 0 ((ow_eq _ _).mpr (by rw [h3sw_6]; decide)) ?_
        refine lv_tableIn (tgt := 44) hx hb dX11_tellIn_18 (by decide +kernel) (by decide +kernel) rfl (by decide) ?_
        refine lv_iload hx hb dX11_tellIn_44 (lv_at hl 0 rfl) ?_
        refine W.widen (k := 0) (n := 0) (Nat.le_of_ble_eq_true rfl) (Nat.le_of_ble_eq_true rfl) ?_
        exact W.iret (v := v_3) hx hb hr (fun t ht9 hW => ⟨⟨v_3, (), rfl, trivial, trivial⟩, hS.F ht9⟩) hS.2.2 dX11_tellIn_46
      · refine ow_top 1 ((ow_eq _ _).mpr (by rw [h3sw_6]; decide)) ?_
        refine lv_tableIn (tgt := 47) hx hb dX11_tellIn_18 (by decide +kernel) (by decide +kernel) rfl (by decide) ?_
        refine lv_aload_n hx hb dX11_tellIn_47 rfl (lv_at hl 2 rfl) ?_
        refine cg_4_1_11 hx hb ht hown hK hN hP h_hearing.1 h_hearing.2 dX11_tellIn_48 ?_
        have hm_7 : (R hearing 1) ∈ L ∧ K (R hearing 1) = 25 := RT.o hRT h_hearing.1 h_hearing.2 1 (by decide)
        refine lv_iload_n hx hb dX11_tellIn_51 rfl (lv_at hl 3 rfl) ?_
        have q_8 : vp_in n 14 := vp_in_iff.mpr ⟨by omega, by omega⟩
        refine cl_25 hx hb hK hP hm_7.1 hm_7.2 q_8 dX11_tellIn_52 ?_
        refine lv_topi (fun v_9 ev_9 => ?_)
        refine W.widen (k := 0) (n := 0) (Nat.le_of_ble_eq_true rfl) (Nat.le_of_ble_eq_true rfl) ?_
        exact W.iret (v := v_9) hx hb hr (fun t ht9 hW => ⟨⟨v_9, (), rfl, trivial, trivial⟩, hS.F ht9⟩) hS.2.2 dX11_tellIn_53
      · refine ow_top 2 ((ow_eq _ _).mpr (by rw [h3sw_6]; decide)) ?_
        refine lv_tableIn (tgt := 54) hx hb dX11_tellIn_18 (by decide +kernel) (by decide +kernel) rfl (by decide) ?_
        refine lv_aload_n hx hb dX11_tellIn_54 rfl (lv_at hl 1 rfl) ?_
        refine cg_0_2_11 hx hb ht hown hK hN hP hthis.1 hthis.2 dX11_tellIn_55 ?_
        have hm_10 : (R this 2) ∈ L ∧ K (R this 2) = 1 := RT.o hRT hthis.1 hthis.2 2 (by decide)
        refine cg_1_0_11 hx hb ht hown hK hN hP hm_10.1 hm_10.2 dX11_tellIn_58 ?_
        have hm_11 : (R (R this 2) 0) ∈ L ∧ K (R (R this 2) 0) = 29 := RT.o hRT hm_10.1 hm_10.2 0 (by decide)
        refine lv_iload_n hx hb dX11_tellIn_61 rfl (lv_at hl 3 rfl) ?_
        have q_12 : vp_in n 14 := vp_in_iff.mpr ⟨by omega, by omega⟩
        refine cl_29 hx hb hK hP hm_11.1 hm_11.2 q_12 dX11_tellIn_62 ?_
        have hm_13 : (R (R (R this 2) 0) (Int32.toNatClampNeg n)) ∈ L ∧ K (R (R (R this 2) 0) (Int32.toNatClampNeg n)) = 2 := RT.a hRT hm_11.1 hm_11.2 (by decide) q_12
        refine lv_aload_n hx hb dX11_tellIn_63 rfl (lv_at hl 4 rfl) ?_
        refine lv_iload hx hb dX11_tellIn_64 (lv_at hl 0 rfl) ?_
        have hFc := fr_new hS hA
        refine va_calli (va_runV (As := [.ref song, .int v_3]) (rest := []) ⟨hx, hb, hml, hown, ht⟩ (c_first2 l G cy _ L K R T I E J B (R (R (R this 2) 0) (Int32.toNatClampNeg n)) song v_3 hRT hI hE hm_13.1 hm_13.2 h_song.1 h_song.2) (cwV 2 ht (gv k_530 k_531 k_532 k_399 k_529) rfl rfl rfl (by decide +kernel) ⟨Nat.le_of_ble_eq_true rfl, Nat.le_of_ble_eq_true rfl⟩) ⟨En.blind, cr_2 hK hP hm_13.1 hm_13.2, fun U hU hW => ⟨rfl, En.of hU hW hP hK hD0 hN⟩⟩ rfl rfl hl.1 rfl (lv_room (Nat.le_of_ble_eq_true rfl)) dX11_tellIn_66 ⟨Nat.le_of_ble_eq_true rfl, Nat.le_of_ble_eq_true rfl⟩) hS (fun q _ h => hFc q h) hFc (fun r_u_14 u_14 t9 H locs ht9 hvm hw hB hz1 hk1 hS => ?_)
        have hP := fr_keep hP hk1
        have wu_14 := hw
        clear hFc hk1 hz1 hB hw
        refine W.widen (k := 0) (n := 0) (Nat.le_of_ble_eq_true rfl) (Nat.le_of_ble_eq_true rfl) ?_
        exact W.iret (v := r_u_14) hx hb hr (fun t ht9 hW => ⟨⟨r_u_14, (), rfl, trivial, trivial⟩, hS.F ht9⟩) hS.2.2 dX11_tellIn_69
  · have q_15 : v_3.toInt = ((-1) : Int32).toInt := (ow_eq _ _).mp c_4
    refine lv_iconst (v := (-1)) hx hb dX11_tellIn_14 (by decide) ?_
    refine W.widen (k := 0) (n := 0) (Nat.le_of_ble_eq_true rfl) (Nat.le_of_ble_eq_true rfl) ?_
    exact W.iret (v := (-1)) hx hb hr (fun t ht9 hW => ⟨⟨(-1), (), rfl, trivial, trivial⟩, hS.F ht9⟩) hS.2.2 dX11_tellIn_15
set_option maxHeartbeats 4000000 in
set_option maxRecDepth 100000 in
theorem x_tellIn3 (l : Launch) (G : va_G) (cy : Nat → ClassId) (sz : Nat) (L : List Nat) (K : Nat → Nat) (R : Nat → Nat → Nat) (T : Int) (I E : Nat → Nat → Int32) (J B : Nat → Nat → Int64) (this : Nat) (hearing : Nat) (n : Int32) (song : Nat) (n4 : Int32) (hRT : RT L K R) (hI : IV T L K I) (hE : EV L K E) (hthis1 : this ∈ L) (hthis2 : K this = 0) (h_hearing1 : hearing ∈ L) (h_hearing2 : K hearing = 4) (h_n : 0 ≤ n.toInt ∧ n.toInt ≤ 13) (h_song1 : song ∈ L) (h_song2 : K song = 3) : Met l yX11_tellIn (.code yX11_tellIn cX11_tellIn 6 (some .int) :: TBg) ({ frames := 3, cells := 0, slots := 0, locals := 192 }) (va_Pc [.ref this, .ref hearing, .int n, .ref song, .int n4] (En G cy (WC cy L K R I J E B) sz)) (va_Qi (fun (r : Int32) (_ : Unit) => True) (fun _ _ => True) (va_A [] sz)) 0 0 (va_A [] sz) := by
  have hthis : this ∈ L ∧ K this = 0 := ⟨hthis1, hthis2⟩
  have h_hearing : hearing ∈ L ∧ K hearing = 4 := ⟨h_hearing1, h_hearing2⟩
  have h_song : song ∈ L ∧ K song = 3 := ⟨h_song1, h_song2⟩
  refine Met.ofW (cc := cX11_tellIn) (maxL := 6) (ret := (some .int)) (by decide) rfl ?_
  intro p e s m args below meth c s₁ B9 hml hv9
  obtain ⟨rfl, hsz, hP, hK, hD0, hN⟩ := hv9
  have hx := B9.exec
  have hb := B9.bytes
  have hr := B9.returns
  have hts := atoms_spec (ws := .code yX11_tellIn cX11_tellIn 6 (some .int) :: TBg) B9.pre
  have ht : ∀ w ∈ TBg, w.before _ s = true := fun w h => hts w (List.mem_cons_of_mem _ h)
  have hown : s.vm.findClass RX11 = some m.cls := findClass_of_methodNamed B9.named
  have hlocks := B9.notSynchronized
  subst hsz
  generalize hAe : va_A [] s.heap.size = A at ⊢
  have hA : ∀ q : Nat, s.heap.size ≤ q → A q := fun q h => by rw [← hAe]; exact Or.inr h
  have hS : va_S A s.heap s.heap [] := va_S.rf
  have hl := lv_entry ([.ref this, .ref hearing, .int n, .ref song, .int n4]) (n := 6) (Nat.le_of_ble_eq_true rfl)
  rw [lg_entry_eq]
  generalize (lg_sl ([.ref this, .ref hearing, .int n, .ref song, .int n4]) ++ List.replicate (6 - (lg_sl ([.ref this, .ref hearing, .int n, .ref song, .int n4])).length) Slot.unset).toArray = ls at hl ⊢
  have hl : lv_has ls 6 [(0, .ref this), (1, .ref hearing), (2, .int n), (3, .ref song), (4, .int n4)] := hl
  have z0 : (-1 : Int32).toInt = -1 := by decide
  refine lv_aload_n hx hb dX11_tellIn_0 rfl (lv_at hl 1 rfl) ?_
  refine cg_4_0_11 hx hb ht hown hK hN hP h_hearing.1 h_hearing.2 dX11_tellIn_1 ?_
  have hm_1 : (R hearing 0) ∈ L ∧ K (R hearing 0) = 25 := RT.o hRT h_hearing.1 h_hearing.2 0 (by decide)
  refine lv_iload_n hx hb dX11_tellIn_4 rfl (lv_at hl 2 rfl) ?_
  have q_2 : vp_in n 14 := vp_in_iff.mpr ⟨by omega, by omega⟩
  refine cl_25 hx hb hK hP hm_1.1 hm_1.2 q_2 dX11_tellIn_5 ?_
  refine lv_topi (fun v_3 ev_3 => ?_)
  refine lv_istore (lv' := [(5, .int v_3), (0, .ref this), (1, .ref hearing), (2, .int n), (3, .ref song), (4, .int n4)]) hx hb dX11_tellIn_6 hl (by decide) rfl (fun ls hl => ?_)
  refine lv_iload hx hb dX11_tellIn_8 (lv_at hl 0 rfl) ?_
  refine lv_iconst (v := (-1)) hx hb dX11_tellIn_10 (by decide) ?_
  refine lv_icmp_ne (tgt := 16) hx hb dX11_tellIn_11 (by decide) (fun c_4 => ?_) (fun c_4 => ?_)
  · have q_5 : ¬ v_3.toInt = ((-1) : Int32).toInt := by have := (not_congr (ow_eq _ _)).mp c_4; omega
    refine lv_iload hx hb dX11_tellIn_16 (lv_at hl 5 rfl) ?_
    by_cases sw_6 : n4.toInt < 0 ∨ 2 < n4.toInt
    · refine lv_tableOut (tgt := 70) hx hb dX11_tellIn_18 (by omega) (by decide) ?_
      refine lv_iconst (v := (-1)) hx hb dX11_tellIn_70 (by decide) ?_
      refine W.widen (k := 0) (n := 0) (Nat.le_of_ble_eq_true rfl) (Nat.le_of_ble_eq_true rfl) ?_
      exact W.iret (v := (-1)) hx hb hr (fun t ht9 hW => ⟨⟨(-1), (), rfl, trivial, trivial⟩, hS.F ht9⟩) hS.2.2 dX11_tellIn_71
    · have h3sw_6 : n4.toInt = 0 ∨ n4.toInt = 1 ∨ n4.toInt = 2 := by omega
      rcases h3sw_6 with h3sw_6 | h3sw_6 | h3sw_6
      · refine ow_top 0 ((ow_eq _ _).mpr (by rw [h3sw_6]; decide)) ?_
        refine lv_tableIn (tgt := 44) hx hb dX11_tellIn_18 (by decide +kernel) (by decide +kernel) rfl (by decide) ?_
        refine lv_iload hx hb dX11_tellIn_44 (lv_at hl 0 rfl) ?_
        refine W.widen (k := 0) (n := 0) (Nat.le_of_ble_eq_true rfl) (Nat.le_of_ble_eq_true rfl) ?_
        exact W.iret (v := v_3) hx hb hr (fun t ht9 hW => ⟨⟨v_3, (), rfl, trivial, trivial⟩, hS.F ht9⟩) hS.2.2 dX11_tellIn_46
      · refine ow_top 1 ((ow_eq _ _).mpr (by rw [h3sw_6]; decide)) ?_
        refine lv_tableIn (tgt := 47) hx hb dX11_tellIn_18 (by decide +kernel) (by decide +kernel) rfl (by decide) ?_
        refine lv_aload_n hx hb dX11_tellIn_47 rfl (lv_at hl 2 rfl) ?_
        refine cg_4_1_11 hx hb ht hown hK hN hP h_hearing.1 h_hearing.2 dX11_tellIn_48 ?_
        have hm_7 : (R hearing 1) ∈ L ∧ K (R hearing 1) = 25 := RT.o hRT h_hearing.1 h_hearing.2 1 (by decide)
        refine lv_iload_n hx hb dX11_tellIn_51 rfl (lv_at hl 3 rfl) ?_
        have q_8 : vp_in n 14 := vp_in_iff.mpr ⟨by omega, by omega⟩
        refine cl_25 hx hb hK hP hm_7.1 hm_7.2 q_8 dX11_tellIn_52 ?_
        refine lv_topi (fun v_9 ev_9 => ?_)
        refine W.widen (k := 0) (n := 0) (Nat.le_of_ble_eq_true rfl) (Nat.le_of_ble_eq_true rfl) ?_
        exact W.iret (v := v_9) hx hb hr (fun t ht9 hW => ⟨⟨v_9, (), rfl, trivial, trivial⟩, hS.F ht9⟩) hS.2.2 dX11_tellIn_53
      · refine ow_top 2 ((ow_eq _ _).mpr (by rw [h3sw_6]; decide)) ?_
        refine lv_tableIn (tgt := 54) hx hb dX11_tellIn_18 (by decide +kernel) (by decide +kernel) rfl (by decide) ?_
        refine lv_aload_n hx hb dX11_tellIn_54 rfl (lv_at hl 1 rfl) ?_
        refine cg_0_2_11 hx hb ht hown hK hN hP hthis.1 hthis.2 dX11_tellIn_55 ?_
        have hm_10 : (R this 2) ∈ L ∧ K (R this 2) = 1 := RT.o hRT hthis.1 hthis.2 2 (by decide)
        refine cg_1_0_11 hx hb ht hown hK hN hP hm_10.1 hm_10.2 dX11_tellIn_58 ?_
        have hm_11 : (R (R this 2) 0) ∈ L ∧ K (R (R this 2) 0) = 29 := RT.o hRT hm_10.1 hm_10.2 0 (by decide)
        refine lv_iload_n hx hb dX11_tellIn_61 rfl (lv_at hl 3 rfl) ?_
        have q_12 : vp_in n 14 := vp_in_iff.mpr ⟨by omega, by omega⟩
        refine cl_29 hx hb hK hP hm_11.1 hm_11.2 q_12 dX11_tellIn_62 ?_
        have hm_13 : (R (R (R this 2) 0) (Int32.toNatClampNeg n)) ∈ L ∧ K (R (R (R this 2) 0) (Int32.toNatClampNeg n)) = 2 := RT.a hRT hm_11.1 hm_11.2 (by decide) q_12
        refine lv_aload_n hx hb dX11_tellIn_63 rfl (lv_at hl 4 rfl) ?_
        refine lv_iload hx hb dX11_tellIn_64 (lv_at hl 0 rfl) ?_
        have hFc := fr_new hS hA
        refine va_calli (va_runV (As := [.ref song, .int v_3]) (rest := []) ⟨hx, hb, hml, hown, ht⟩ (c_first3 l G cy _ L K R T I E J B (R (R (R this 2) 0) (Int32.toNatClampNeg n)) song v_3 hRT hI hE hm_13.1 hm_13.2 h_song.1 h_song.2) (cwV 2 ht (gv k_530 k_531 k_532 k_399 k_529) rfl rfl rfl (by decide +kernel) ⟨Nat.le_of_ble_eq_true rfl, Nat.le_of_ble_eq_true rfl⟩) ⟨En.blind, cr_2 hK hP hm_13.1 hm_13.2, fun U hU hW => ⟨rfl, En.of hU hW hP hK hD0 hN⟩⟩ rfl rfl hl.1 rfl (lv_room (Nat.le_of_ble_eq_true rfl)) dX11_tellIn_66 ⟨Nat.le_of_ble_eq_true rfl, Nat.le_of_ble_eq_true rfl⟩) hS (fun q _ h => hFc q h) hFc (fun r_u_14 u_14 t9 H locs ht9 hvm hw hB hz1 hk1 hS => ?_)
        have hP := fr_keep hP hk1
        have wu_14 := hw
        clear hFc hk1 hz1 hB hw
        refine W.widen (k := 0) (n := 0) (Nat.le_of_ble_eq_true rfl) (Nat.le_of_ble_eq_true rfl) ?_
        exact W.iret (v := r_u_14) hx hb hr (fun t ht9 hW => ⟨⟨r_u_14, (), rfl, trivial, trivial⟩, hS.F ht9⟩) hS.2.2 dX11_tellIn_69
  · have q_15 : v_3.toInt = ((-1) : Int32).toInt := (ow_eq _ _).mp c_4
    refine lv_iconst (v := (-1)) hx hb dX11_tellIn_14 (by decide) ?_
    refine W.widen (k := 0) (n := 0) (Nat.le_of_ble_eq_true rfl) (Nat.le_of_ble_eq_true rfl) ?_
    exact W.iret (v := (-1)) hx hb hr (fun t ht9 hW => ⟨⟨(-1), (), rfl, trivial, trivial⟩, hS.F ht9⟩) hS.2.2 dX11_tellIn_15
set_option maxHeartbeats 4000000 in
set_option maxRecDepth 100000 in
theorem x_in (l : Launch) (G : va_G) (cy : Nat → ClassId) (sz : Nat) (L : List Nat) (K : Nat → Nat) (R : Nat → Nat → Nat) (T : Int) (I E : Nat → Nat → Int32) (J B : Nat → Nat → Int64) (this : Nat) (n : Int32) (n2 : Int32) (n3 : Int32) (hRT : RT L K R) (hI : IV T L K I) (hE : EV L K E) (hthis1 : this ∈ L) (hthis2 : K this = 0) : Met l yX11_in (.code yX11_in cX11_in 4 (some .int) :: TBg) ({ frames := 4, cells := 0, slots := 0, locals := 256 }) (va_Pc [.ref this, .int n, .int n2, .int n3] (En G cy (WC cy L K R I J E B) sz)) (va_Qi (fun (r : Int32) (_ : Unit) => True) (fun _ _ => True) (va_A [] sz)) 0 0 (va_A [] sz) := by
  have hthis : this ∈ L ∧ K this = 0 := ⟨hthis1, hthis2⟩
  refine Met.ofW (cc := cX11_in) (maxL := 4) (ret := (some .int)) (by decide) rfl ?_
  intro p e s m args below meth c s₁ B9 hml hv9
  obtain ⟨rfl, hsz, hP, hK, hD0, hN⟩ := hv9
  have hx := B9.exec
  have hb := B9.bytes
  have hr := B9.returns
  have hts := atoms_spec (ws := .code yX11_in cX11_in 4 (some .int) :: TBg) B9.pre
  have ht : ∀ w ∈ TBg, w.before _ s = true := fun w h => hts w (List.mem_cons_of_mem _ h)
  have hown : s.vm.findClass RX11 = some m.cls := findClass_of_methodNamed B9.named
  have hlocks := B9.notSynchronized
  subst hsz
  generalize hAe : va_A [] s.heap.size = A at ⊢
  have hA : ∀ q : Nat, s.heap.size ≤ q → A q := fun q h => by rw [← hAe]; exact Or.inr h
  have hS : va_S A s.heap s.heap [] := va_S.rf
  have hl := lv_entry ([.ref this, .int n, .int n2, .int n3]) (n := 4) (Nat.le_of_ble_eq_true rfl)
  rw [lg_entry_eq]
  generalize (lg_sl ([.ref this, .int n, .int n2, .int n3]) ++ List.replicate (4 - (lg_sl ([.ref this, .int n, .int n2, .int n3])).length) Slot.unset).toArray = ls at hl ⊢
  have hl : lv_has ls 4 [(0, .ref this), (1, .int n), (2, .int n2), (3, .int n3)] := hl
  have z0 : (-1 : Int32).toInt = -1 := by decide
  have z1 : (0 : Int32).toInt = 0 := by decide
  refine lv_aload_n hx hb dX11_in_0 rfl (lv_at hl 0 rfl) ?_
  refine cg_0_2_11 hx hb ht hown hK hN hP hthis.1 hthis.2 dX11_in_1 ?_
  have hm_1 : (R this 2) ∈ L ∧ K (R this 2) = 1 := RT.o hRT hthis.1 hthis.2 2 (by decide)
  refine lv_iload_n hx hb dX11_in_4 rfl (lv_at hl 1 rfl) ?_
  have hFc := fr_new hS hA
  refine va_calli (va_runV (As := [.int n]) (rest := []) ⟨hx, hb, hml, hown, ht⟩ (c_hasTune l G cy _ L K R T I E J B (R this 2) n hRT hI hE hm_1.1 hm_1.2) (cwV 1 ht (gv k_523 k_524 k_525 k_461 k_522) rfl rfl rfl (by decide +kernel) ⟨Nat.le_of_ble_eq_true rfl, Nat.le_of_ble_eq_true rfl⟩) ⟨En.blind, cr_1 hK hP hm_1.1 hm_1.2, fun U hU hW => ⟨rfl, En.of hU hW hP hK hD0 hN⟩⟩ rfl rfl hl.1 rfl (lv_room (Nat.le_of_ble_eq_true rfl)) dX11_in_5 ⟨Nat.le_of_ble_eq_true rfl, Nat.le_of_ble_eq_true rfl⟩) hS (fun q _ h => hFc q h) hFc (fun r_u_2 u_2 t9 H locs ht9 hvm hw hB hz1 hk1 hS => ?_)
  have hP := fr_keep hP hk1
  have wu_2 := hw
  clear hFc hk1 hz1 hB hw
  refine lv_if_eq (tgt := 22) hx hb dX11_in_8 (by decide) (fun c_3 => ?_) (fun c_3 => ?_)
  · have q_4 : r_u_2.toInt = (0 : Int32).toInt := (ow_eq _ _).mp c_3
    refine lv_iconst (v := (-1)) hx hb dX11_in_22 (by decide) ?_
    refine W.widen (k := 0) (n := 0) (Nat.le_of_ble_eq_true rfl) (Nat.le_of_ble_eq_true rfl) ?_
    exact W.iret (v := (-1)) hx hb hr (fun t ht9 hW => ⟨⟨(-1), (), rfl, trivial, trivial⟩, hS.F ht9⟩) hS.2.2 dX11_in_23
  · have q_5 : ¬ r_u_2.toInt = (0 : Int32).toInt := by have := (not_congr (ow_eq _ _)).mp c_3; omega
    refine lv_aload_n hx hb dX11_in_11 rfl (lv_at hl 0 rfl) ?_
    refine cg_0_2_11 hx hb ht hown hK hN hP hthis.1 hthis.2 dX11_in_12 ?_
    refine lv_iload_n hx hb dX11_in_15 rfl (lv_at hl 2 rfl) ?_
    have hFc := fr_new hS hA
    refine va_calli (va_runV (As := [.int n2]) (rest := []) ⟨hx, hb, hml, hown, ht⟩ (c_hasTune l G cy _ L K R T I E J B (R this 2) n2 hRT hI hE hm_1.1 hm_1.2) (cwV 1 ht (gv k_523 k_524 k_525 k_461 k_522) rfl rfl rfl (by decide +kernel) ⟨Nat.le_of_ble_eq_true rfl, Nat.le_of_ble_eq_true rfl⟩) ⟨En.blind, cr_1 hK hP hm_1.1 hm_1.2, fun U hU hW => ⟨rfl, En.of hU hW hP hK hD0 hN⟩⟩ rfl rfl hl.1 rfl (lv_room (Nat.le_of_ble_eq_true rfl)) dX11_in_16 ⟨Nat.le_of_ble_eq_true rfl, Nat.le_of_ble_eq_true rfl⟩) hS (fun q _ h => hFc q h) hFc (fun r_u_6 u_6 t9 H locs ht9 hvm hw hB hz1 hk1 hS => ?_)
    have hP := fr_keep hP hk1
    have wu_6 := hw
    clear hFc hk1 hz1 hB hw
    refine lv_if_ne (tgt := 24) hx hb dX11_in_19 (by decide) (fun c_7 => ?_) (fun c_7 => ?_)
    · have q_8 : ¬ r_u_6.toInt = (0 : Int32).toInt := by have := (not_congr (ow_eq _ _)).mp c_7; omega
      refine lv_aload_n hx hb dX11_in_24 rfl (lv_at hl 0 rfl) ?_
      refine lv_aload_n hx hb dX11_in_25 rfl (lv_at hl 0 rfl) ?_
      refine cg_0_2_11 hx hb ht hown hK hN hP hthis.1 hthis.2 dX11_in_26 ?_
      refine cg_1_2_11 hx hb ht hown hK hN hP hm_1.1 hm_1.2 dX11_in_29 ?_
      have hm_9 : (R (R this 2) 2) ∈ L ∧ K (R (R this 2) 2) = 31 := RT.o hRT hm_1.1 hm_1.2 2 (by decide)
      refine lv_iload_n hx hb dX11_in_32 rfl (lv_at hl 2 rfl) ?_
      have q_10 : vp_in n2 14 := vp_in_iff.mpr ⟨by omega, by omega⟩
      refine cl_31 hx hb hK hP hm_9.1 hm_9.2 q_10 dX11_in_33 ?_
      have hm_11 : (R (R (R this 2) 2) (Int32.toNatClampNeg n2)) ∈ L ∧ K (R (R (R this 2) 2) (Int32.toNatClampNeg n2)) = 4 := RT.a hRT hm_9.1 hm_9.2 (by decide) q_10
      refine lv_iload_n hx hb dX11_in_34 rfl (lv_at hl 1 rfl) ?_
      refine lv_aload_n hx hb dX11_in_35 rfl (lv_at hl 0 rfl) ?_
      refine cg_0_2_11 hx hb ht hown hK hN hP hthis.1 hthis.2 dX11_in_36 ?_
      refine cg_1_0_11 hx hb ht hown hK hN hP hm_1.1 hm_1.2 dX11_in_39 ?_
      have hm_12 : (R (R this 2) 0) ∈ L ∧ K (R (R this 2) 0) = 29 := RT.o hRT hm_1.1 hm_1.2 0 (by decide)
      refine lv_iload_n hx hb dX11_in_42 rfl (lv_at hl 2 rfl) ?_
      have q_13 : vp_in n2 14 := vp_in_iff.mpr ⟨by omega, by omega⟩
      refine cl_29 hx hb hK hP hm_12.1 hm_12.2 q_13 dX11_in_43 ?_
      have hm_14 : (R (R (R this 2) 0) (Int32.toNatClampNeg n2)) ∈ L ∧ K (R (R (R this 2) 0) (Int32.toNatClampNeg n2)) = 2 := RT.a hRT hm_12.1 hm_12.2 (by decide) q_13
      refine lv_iload_n hx hb dX11_in_44 rfl (lv_at hl 3 rfl) ?_
      have hFc := fr_new hS hA
      refine va_calli (va_runV (As := [.ref (R (R (R this 2) 2) (Int32.toNatClampNeg n2)), .int n, .ref (R (R (R this 2) 0) (Int32.toNatClampNeg n2)), .int n3]) (rest := []) ⟨hx, hb, hml, hown, ht⟩ (x_tellIn2 l G cy _ L K R T I E J B this (R (R (R this 2) 2) (Int32.toNatClampNeg n2)) n (R (R (R this 2) 0) (Int32.toNatClampNeg n2)) n3 hRT hI hE hthis.1 hthis.2 hm_11.1 hm_11.2 (by omega) hm_14.1 hm_14.2) (cwV 4 ht (gv k_534 k_535 k_536 k_521 k_533) rfl rfl rfl (by decide +kernel) ⟨Nat.le_of_ble_eq_true rfl, Nat.le_of_ble_eq_true rfl⟩) ⟨En.blind, cr_0 hK hP hthis.1 hthis.2, fun U hU hW => ⟨rfl, En.of hU hW hP hK hD0 hN⟩⟩ rfl rfl hl.1 rfl (lv_room (Nat.le_of_ble_eq_true rfl)) dX11_in_45 ⟨Nat.le_of_ble_eq_true rfl, Nat.le_of_ble_eq_true rfl⟩) hS (fun q _ h => hFc q h) hFc (fun r_u_15 u_15 t9 H locs ht9 hvm hw hB hz1 hk1 hS => ?_)
      have hP := fr_keep hP hk1
      have wu_15 := hw
      clear hFc hk1 hz1 hB hw
      refine W.widen (k := 0) (n := 0) (Nat.le_of_ble_eq_true rfl) (Nat.le_of_ble_eq_true rfl) ?_
      exact W.iret (v := r_u_15) hx hb hr (fun t ht9 hW => ⟨⟨r_u_15, (), rfl, trivial, trivial⟩, hS.F ht9⟩) hS.2.2 dX11_in_48
    · have q_16 : r_u_6.toInt = (0 : Int32).toInt := (ow_eq _ _).mp c_7
      refine lv_iconst (v := (-1)) hx hb dX11_in_22 (by decide) ?_
      refine W.widen (k := 0) (n := 0) (Nat.le_of_ble_eq_true rfl) (Nat.le_of_ble_eq_true rfl) ?_
      exact W.iret (v := (-1)) hx hb hr (fun t ht9 hW => ⟨⟨(-1), (), rfl, trivial, trivial⟩, hS.F ht9⟩) hS.2.2 dX11_in_23
set_option maxHeartbeats 4000000 in
set_option maxRecDepth 100000 in
theorem x_heard (l : Launch) (G : va_G) (cy : Nat → ClassId) (sz : Nat) (L : List Nat) (K : Nat → Nat) (R : Nat → Nat → Nat) (T : Int) (I E : Nat → Nat → Int32) (J B : Nat → Nat → Int64) (this : Nat) (n : Int32) (n2 : Int32) (hRT : RT L K R) (hI : IV T L K I) (hE : EV L K E) (hthis1 : this ∈ L) (hthis2 : K this = 0) : Met l yX11_heard (.code yX11_heard cX11_heard 3 (some .int) :: TBg) ({ frames := 4, cells := 0, slots := 0, locals := 256 }) (va_Pc [.ref this, .int n, .int n2] (En G cy (WC cy L K R I J E B) sz)) (va_Qi (fun (r : Int32) (_ : Unit) => True) (fun _ _ => True) (va_A [] sz)) 0 0 (va_A [] sz) := by
  have hthis : this ∈ L ∧ K this = 0 := ⟨hthis1, hthis2⟩
  refine Met.ofW (cc := cX11_heard) (maxL := 3) (ret := (some .int)) (by decide) rfl ?_
  intro p e s m args below meth c s₁ B9 hml hv9
  obtain ⟨rfl, hsz, hP, hK, hD0, hN⟩ := hv9
  have hx := B9.exec
  have hb := B9.bytes
  have hr := B9.returns
  have hts := atoms_spec (ws := .code yX11_heard cX11_heard 3 (some .int) :: TBg) B9.pre
  have ht : ∀ w ∈ TBg, w.before _ s = true := fun w h => hts w (List.mem_cons_of_mem _ h)
  have hown : s.vm.findClass RX11 = some m.cls := findClass_of_methodNamed B9.named
  have hlocks := B9.notSynchronized
  subst hsz
  generalize hAe : va_A [] s.heap.size = A at ⊢
  have hA : ∀ q : Nat, s.heap.size ≤ q → A q := fun q h => by rw [← hAe]; exact Or.inr h
  have hS : va_S A s.heap s.heap [] := va_S.rf
  have hl := lv_entry ([.ref this, .int n, .int n2]) (n := 3) (Nat.le_of_ble_eq_true rfl)
  rw [lg_entry_eq]
  generalize (lg_sl ([.ref this, .int n, .int n2]) ++ List.replicate (3 - (lg_sl ([.ref this, .int n, .int n2])).length) Slot.unset).toArray = ls at hl ⊢
  have hl : lv_has ls 3 [(0, .ref this), (1, .int n), (2, .int n2)] := hl
  have z0 : (-1 : Int32).toInt = -1 := by decide
  have z1 : (0 : Int32).toInt = 0 := by decide
  refine lv_aload_n hx hb dX11_heard_0 rfl (lv_at hl 0 rfl) ?_
  refine cg_0_2_11 hx hb ht hown hK hN hP hthis.1 hthis.2 dX11_heard_1 ?_
  have hm_1 : (R this 2) ∈ L ∧ K (R this 2) = 1 := RT.o hRT hthis.1 hthis.2 2 (by decide)
  refine lv_iload_n hx hb dX11_heard_4 rfl (lv_at hl 1 rfl) ?_
  have hFc := fr_new hS hA
  refine va_calli (va_runV (As := [.int n]) (rest := []) ⟨hx, hb, hml, hown, ht⟩ (c_hasTune l G cy _ L K R T I E J B (R this 2) n hRT hI hE hm_1.1 hm_1.2) (cwV 1 ht (gv k_523 k_524 k_525 k_461 k_522) rfl rfl rfl (by decide +kernel) ⟨Nat.le_of_ble_eq_true rfl, Nat.le_of_ble_eq_true rfl⟩) ⟨En.blind, cr_1 hK hP hm_1.1 hm_1.2, fun U hU hW => ⟨rfl, En.of hU hW hP hK hD0 hN⟩⟩ rfl rfl hl.1 rfl (lv_room (Nat.le_of_ble_eq_true rfl)) dX11_heard_5 ⟨Nat.le_of_ble_eq_true rfl, Nat.le_of_ble_eq_true rfl⟩) hS (fun q _ h => hFc q h) hFc (fun r_u_2 u_2 t9 H locs ht9 hvm hw hB hz1 hk1 hS => ?_)
  have hP := fr_keep hP hk1
  have wu_2 := hw
  clear hFc hk1 hz1 hB hw
  refine lv_if_ne (tgt := 13) hx hb dX11_heard_8 (by decide) (fun c_3 => ?_) (fun c_3 => ?_)
  · have q_4 : ¬ r_u_2.toInt = (0 : Int32).toInt := by have := (not_congr (ow_eq _ _)).mp c_3; omega
    refine lv_aload_n hx hb dX11_heard_13 rfl (lv_at hl 0 rfl) ?_
    refine lv_aload_n hx hb dX11_heard_14 rfl (lv_at hl 0 rfl) ?_
    refine cg_0_8_11 hx hb ht hown hK hN hP hthis.1 hthis.2 dX11_heard_15 ?_
    have hm_5 : (R this 8) ∈ L ∧ K (R this 8) = 4 := RT.o hRT hthis.1 hthis.2 8 (by decide)
    refine lv_iload_n hx hb dX11_heard_18 rfl (lv_at hl 1 rfl) ?_
    refine lv_aload_n hx hb dX11_heard_19 rfl (lv_at hl 0 rfl) ?_
    refine cg_0_6_11 hx hb ht hown hK hN hP hthis.1 hthis.2 dX11_heard_20 ?_
    have hm_6 : (R this 6) ∈ L ∧ K (R this 6) = 7 := RT.o hRT hthis.1 hthis.2 6 (by decide)
    refine cg_7_0_11 hx hb ht hown hK hN hP hm_6.1 hm_6.2 dX11_heard_23 ?_
    have hm_7 : (R (R this 6) 0) ∈ L ∧ K (R (R this 6) 0) = 3 := RT.o hRT hm_6.1 hm_6.2 0 (by decide)
    refine lv_iload_n hx hb dX11_heard_26 rfl (lv_at hl 2 rfl) ?_
    have hFc := fr_new hS hA
    refine va_calli (va_runV (As := [.ref (R this 8), .int n, .ref (R (R this 6) 0), .int n2]) (rest := []) ⟨hx, hb, hml, hown, ht⟩ (x_tellIn3 l G cy _ L K R T I E J B this (R this 8) n (R (R this 6) 0) n2 hRT hI hE hthis.1 hthis.2 hm_5.1 hm_5.2 (by omega) hm_7.1 hm_7.2) (cwV 4 ht (gv k_534 k_535 k_536 k_521 k_533) rfl rfl rfl (by decide +kernel) ⟨Nat.le_of_ble_eq_true rfl, Nat.le_of_ble_eq_true rfl⟩) ⟨En.blind, cr_0 hK hP hthis.1 hthis.2, fun U hU hW => ⟨rfl, En.of hU hW hP hK hD0 hN⟩⟩ rfl rfl hl.1 rfl (lv_room (Nat.le_of_ble_eq_true rfl)) dX11_heard_27 ⟨Nat.le_of_ble_eq_true rfl, Nat.le_of_ble_eq_true rfl⟩) hS (fun q _ h => hFc q h) hFc (fun r_u_8 u_8 t9 H locs ht9 hvm hw hB hz1 hk1 hS => ?_)
    have hP := fr_keep hP hk1
    have wu_8 := hw
    clear hFc hk1 hz1 hB hw
    refine W.widen (k := 0) (n := 0) (Nat.le_of_ble_eq_true rfl) (Nat.le_of_ble_eq_true rfl) ?_
    exact W.iret (v := r_u_8) hx hb hr (fun t ht9 hW => ⟨⟨r_u_8, (), rfl, trivial, trivial⟩, hS.F ht9⟩) hS.2.2 dX11_heard_30
  · have q_9 : r_u_2.toInt = (0 : Int32).toInt := (ow_eq _ _).mp c_3
    refine lv_iconst (v := (-1)) hx hb dX11_heard_11 (by decide) ?_
    refine W.widen (k := 0) (n := 0) (Nat.le_of_ble_eq_true rfl) (Nat.le_of_ble_eq_true rfl) ?_
    exact W.iret (v := (-1)) hx hb hr (fun t ht9 hW => ⟨⟨(-1), (), rfl, trivial, trivial⟩, hS.F ht9⟩) hS.2.2 dX11_heard_12
set_option maxHeartbeats 4000000 in
set_option maxRecDepth 100000 in
theorem x_doors (l : Launch) (G : va_G) (cy : Nat → ClassId) (sz : Nat) (L : List Nat) (K : Nat → Nat) (R : Nat → Nat → Nat) (T : Int) (I E : Nat → Nat → Int32) (J B : Nat → Nat → Int64) (this : Nat) (n : Int32) (n2 : Int32) (hRT : RT L K R) (hI : IV T L K I) (hE : EV L K E) (hthis1 : this ∈ L) (hthis2 : K this = 0) (h_n2 : 0 ≤ n2.toInt ∧ n2.toInt ≤ 1) : Met l yX11_doors (.code yX11_doors cX11_doors 5 (some .int) :: TBg) ({ frames := 6, cells := 0, slots := 0, locals := 384 }) (va_Pc [.ref this, .int n, .int n2] (En G cy (WC cy L K R I J E B) sz)) (va_Qi (fun (r : Int32) (u : (Nat → Nat → Int32) × (Nat → Nat → Int64) × (Nat → Nat → Int32) × (Nat → Nat → Int64)) => IV T L K u.1 ∧ EV L K u.2.2.1 ∧ FI [(6, 4)] K I u.1 ∧ (True)) (fun u t => Ex G (va_A (WC cy L K R I J E B) sz) (WC cy L K R u.1 u.2.1 u.2.2.1 u.2.2.2) t) (va_A (WC cy L K R I J E B) sz)) 0 0 (va_A (WC cy L K R I J E B) sz) := by
  have hthis : this ∈ L ∧ K this = 0 := ⟨hthis1, hthis2⟩
  refine Met.ofW (cc := cX11_doors) (maxL := 5) (ret := (some .int)) (by decide) rfl ?_
  intro p e s m args below meth c s₁ B9 hml hv9
  obtain ⟨rfl, hsz, hP, hK, hD0, hN⟩ := hv9
  have hx := B9.exec
  have hb := B9.bytes
  have hr := B9.returns
  have hts := atoms_spec (ws := .code yX11_doors cX11_doors 5 (some .int) :: TBg) B9.pre
  have ht : ∀ w ∈ TBg, w.before _ s = true := fun w h => hts w (List.mem_cons_of_mem _ h)
  have hown : s.vm.findClass RX11 = some m.cls := findClass_of_methodNamed B9.named
  have hlocks := B9.notSynchronized
  subst hsz
  have hD := hD0.self (sz := s.heap.size)
  generalize hAe : va_A (WC cy L K R I J E B) s.heap.size = A at hD ⊢
  have hA : ∀ q : Nat, s.heap.size ≤ q → A q := fun q h => by rw [← hAe]; exact Or.inr h
  have hS : va_S A s.heap s.heap [] := va_S.rf
  have hl := lv_entry ([.ref this, .int n, .int n2]) (n := 5) (Nat.le_of_ble_eq_true rfl)
  rw [lg_entry_eq]
  generalize (lg_sl ([.ref this, .int n, .int n2]) ++ List.replicate (5 - (lg_sl ([.ref this, .int n, .int n2])).length) Slot.unset).toArray = ls at hl ⊢
  have hl : lv_has ls 5 [(0, .ref this), (1, .int n), (2, .int n2)] := hl
  have z0 : (-1 : Int32).toInt = -1 := by decide
  have z1 : (0 : Int32).toInt = 0 := by decide
  have z2 : (1 : Int32).toInt = 1 := by decide
  have hC_0 : FI [(6, 4)] K I I := FI.rf
  refine lv_aload_n hx hb dX11_doors_0 rfl (lv_at hl 0 rfl) ?_
  refine cg_0_2_11 hx hb ht hown hK hN hP hthis.1 hthis.2 dX11_doors_1 ?_
  have hm_1 : (R this 2) ∈ L ∧ K (R this 2) = 1 := RT.o hRT hthis.1 hthis.2 2 (by decide)
  refine lv_iload_n hx hb dX11_doors_4 rfl (lv_at hl 1 rfl) ?_
  have hFc := fr_new hS hA
  refine va_calli (va_runV (As := [.int n]) (rest := []) ⟨hx, hb, hml, hown, ht⟩ (c_hasTune l G cy _ L K R T I E J B (R this 2) n hRT hI hE hm_1.1 hm_1.2) (cwV 1 ht (gv k_523 k_524 k_525 k_461 k_522) rfl rfl rfl (by decide +kernel) ⟨Nat.le_of_ble_eq_true rfl, Nat.le_of_ble_eq_true rfl⟩) ⟨En.blind, cr_1 hK hP hm_1.1 hm_1.2, fun U hU hW => ⟨rfl, En.of hU hW hP hK hD hN⟩⟩ rfl rfl hl.1 rfl (lv_room (Nat.le_of_ble_eq_true rfl)) dX11_doors_5 ⟨Nat.le_of_ble_eq_true rfl, Nat.le_of_ble_eq_true rfl⟩) hS (fun q _ h => hFc q h) hFc (fun r_u_2 u_2 t9 H locs ht9 hvm hw hB hz1 hk1 hS => ?_)
  have hP := fr_keep hP hk1
  have wu_2 := hw
  clear hFc hk1 hz1 hB hw
  refine lv_if_ne (tgt := 13) hx hb dX11_doors_8 (by decide) (fun c_3 => ?_) (fun c_3 => ?_)
  · have q_4 : ¬ r_u_2.toInt = (0 : Int32).toInt := by have := (not_congr (ow_eq _ _)).mp c_3; omega
    refine lv_iconst (v := 0) hx hb dX11_doors_13 (by decide) ?_
    refine lv_istore_n (lv' := [(3, .int 0), (0, .ref this), (1, .int n), (2, .int n2)]) hx hb dX11_doors_14 rfl hl (by decide) rfl (fun ls hl => ?_)
    refine lv_iconst (v := 0) hx hb dX11_doors_15 (by decide) ?_
    refine lv_istore (lv' := [(4, .int 0), (3, .int 0), (0, .ref this), (1, .int n), (2, .int n2)]) hx hb dX11_doors_16 hl (by decide) rfl (fun ls hl => ?_)
    refine W.widen (k := 0) (n := 0) (Nat.le_of_ble_eq_true rfl) (Nat.le_of_ble_eq_true rfl) ?_
    have lp_5 : ∀ (N_5 : Nat) (x4_5 : Int32) (x3_5 : Int32) (I5 : Nat → Nat → Int32) (J5 : Nat → Nat → Int64) (E5 : Nat → Nat → Int32) (B5 : Nat → Nat → Int64) (H : Heap) (locs : List Loc) (ls : Array Slot), IV T L K I5 → EV L K E5 → FI [(6, 4)] K I I5 → (0 ≤ x4_5.toInt ∧ x4_5.toInt ≤ 8) → (8 - x4_5.toInt).toNat < N_5 → va_P G vwCl (WC cy L K R I5 J5 E5 B5) H → va_D A (WC cy L K R I5 J5 E5 B5) → va_S A s.heap H locs → lv_has ls 5 [(4, .int x4_5), (3, .int x3_5), (0, .ref this), (1, .int n), (2, .int n2)] → W p l e (headSpec (.code yX11_doors cX11_doors 5 (some .int) :: TBg) ({ frames := 6, cells := 0, slots := 0, locals := 384 })).room s m ([.ref this, .int n, .int n2] : List Value).toArray below meth c H locs 0 0 (MQ below (va_Qi (fun (r : Int32) (u : (Nat → Nat → Int32) × (Nat → Nat → Int64) × (Nat → Nat → Int32) × (Nat → Nat → Int64)) => IV T L K u.1 ∧ EV L K u.2.2.1 ∧ FI [(6, 4)] K I u.1 ∧ (True)) (fun u t => Ex G A (WC cy L K R u.1 u.2.1 u.2.2.1 u.2.2.2) t) A) ([.ref this, .int n, .int n2] : List Value).toArray s 0 0 A) (F0 m 18 ls []) := by
      intro N_5
      induction N_5 with
      | zero => intro x4_5 x3_5 I5 J5 E5 B5 H locs ls hI hE hC_5 qf5_0 hm9 hP hD hS hl; exact absurd hm9 (Nat.not_lt_zero _)
      | succ N_5 ih_5 =>
        intro x4_5 x3_5 I5 J5 E5 B5 H locs ls hI hE hC_5 qf5_0 hm9 hP hD hS hl
        replace hC_0 := FI.tr hC_0 hC_5 (by decide)
        have hX_5 := hC_5
        refine lv_iload hx hb dX11_doors_18 (lv_at hl 0 rfl) ?_
        refine lv_aload_n hx hb dX11_doors_20 rfl (lv_at hl 2 rfl) ?_
        refine cg_0_2_11 hx hb ht hown hK hN hP hthis.1 hthis.2 dX11_doors_21 ?_
        refine cg_1_5_11 hx hb ht hown hK hN hP hm_1.1 hm_1.2 dX11_doors_24 ?_
        have q_6 : 0 ≤ (I5 (R this 2) 5).toInt ∧ (I5 (R this 2) 5).toInt ≤ 8 := IV.rd hI hm_1.1 hm_1.2 5
        refine lv_icmp_ge (tgt := 75) hx hb dX11_doors_27 (by decide) (fun c_7 => ?_) (fun c_7 => ?_)
        · have q_8 : (I5 (R this 2) 5).toInt ≤ x4_5.toInt := (ow_le _ _).mp c_7
          refine lv_iload_n hx hb dX11_doors_75 rfl (lv_at hl 1 rfl) ?_
          refine W.widen (k := 0) (n := 0) (Nat.le_of_ble_eq_true rfl) (Nat.le_of_ble_eq_true rfl) ?_
          exact W.iret (v := x3_5) hx hb hr (fun t ht9 hW => ⟨⟨x3_5, (I5, J5, E5, B5), rfl, ⟨hI, hE, hC_0, trivial⟩, ⟨by rw [ht9]; exact hP, hD⟩⟩, hS.F ht9⟩) hS.2.2 dX11_doors_76
        · have q_9 : x4_5.toInt < (I5 (R this 2) 5).toInt := by have := (not_congr (ow_le _ _)).mp c_7; omega
          refine lv_aload_n hx hb dX11_doors_30 rfl (lv_at hl 2 rfl) ?_
          refine cg_0_2_11 hx hb ht hown hK hN hP hthis.1 hthis.2 dX11_doors_31 ?_
          refine lv_iload hx hb dX11_doors_34 (lv_at hl 0 rfl) ?_
          refine lv_aload_n hx hb dX11_doors_36 rfl (lv_at hl 2 rfl) ?_
          refine cg_0_2_11 hx hb ht hown hK hN hP hthis.1 hthis.2 dX11_doors_37 ?_
          refine cg_1_2_11 hx hb ht hown hK hN hP hm_1.1 hm_1.2 dX11_doors_40 ?_
          have hm_10 : (R (R this 2) 2) ∈ L ∧ K (R (R this 2) 2) = 31 := RT.o hRT hm_1.1 hm_1.2 2 (by decide)
          refine lv_iload_n hx hb dX11_doors_43 rfl (lv_at hl 3 rfl) ?_
          have q_11 : vp_in n 14 := vp_in_iff.mpr ⟨by omega, by omega⟩
          refine cl_31 hx hb hK hP hm_10.1 hm_10.2 q_11 dX11_doors_44 ?_
          have hm_12 : (R (R (R this 2) 2) (Int32.toNatClampNeg n)) ∈ L ∧ K (R (R (R this 2) 2) (Int32.toNatClampNeg n)) = 4 := RT.a hRT hm_10.1 hm_10.2 (by decide) q_11
          refine lv_iload_n hx hb dX11_doors_45 rfl (lv_at hl 4 rfl) ?_
          refine lv_aload_n hx hb dX11_doors_46 rfl (lv_at hl 2 rfl) ?_
          refine cg_0_6_11 hx hb ht hown hK hN hP hthis.1 hthis.2 dX11_doors_47 ?_
          have hm_13 : (R this 6) ∈ L ∧ K (R this 6) = 7 := RT.o hRT hthis.1 hthis.2 6 (by decide)
          refine cg_7_3_11 hx hb ht hown hK hN hP hm_13.1 hm_13.2 dX11_doors_50 ?_
          have hm_14 : (R (R this 6) 3) ∈ L ∧ K (R (R this 6) 3) = 34 := RT.o hRT hm_13.1 hm_13.2 3 (by decide)
          refine lv_iload hx hb dX11_doors_53 (lv_at hl 0 rfl) ?_
          have q_15 : vp_in x4_5 8 := vp_in_iff.mpr ⟨by omega, by omega⟩
          refine cl_34 hx hb hK hP hm_14.1 hm_14.2 q_15 dX11_doors_55 ?_
          refine lv_topi (fun v_16 ev_16 => ?_)
          have hFc := fr_free hD hS hA
          refine va_calli (va_runV (As := [.int x4_5, .ref (R (R (R this 2) 2) (Int32.toNatClampNeg n)), .int n2, .int v_16]) (rest := []) ⟨hx, hb, hml, hown, ht⟩ (c_opensTo l G cy _ L K R T I5 E5 J5 B5 (R this 2) x4_5 (R (R (R this 2) 2) (Int32.toNatClampNeg n)) n2 v_16 hRT hI hE hm_1.1 hm_1.2 (by omega) hm_12.1 hm_12.2 (by omega)) (cwV 4 ht (gv k_537 k_464 k_465 k_461 k_462) rfl rfl rfl (by decide +kernel) ⟨Nat.le_of_ble_eq_true rfl, Nat.le_of_ble_eq_true rfl⟩) ⟨En.blind, cr_1 hK hP hm_1.1 hm_1.2, fun U hU hW => ⟨rfl, En.of hU hW hP hK hD hN⟩⟩ rfl rfl hl.1 rfl (lv_room (Nat.le_of_ble_eq_true rfl)) dX11_doors_56 ⟨Nat.le_of_ble_eq_true rfl, Nat.le_of_ble_eq_true rfl⟩) hS (fun q _ h => hFc q h) hFc (fun r_u_17 u_17 t9 H locs ht9 hvm hw hB hz1 hk1 hS => ?_)
          obtain ⟨I17, J17, E17, B17⟩ := u_17
          obtain ⟨hP1, hD1⟩ := hB
          rw [ht9] at hP1
          clear hI hE
          obtain ⟨hI, hE, xu_17I, wu_17⟩ := hw
          dsimp only at hI hE xu_17I wu_17
          have hP : va_P G vwCl (WC cy L K R I17 J17 E17 B17) H := hP1
          have hD : va_D A (WC cy L K R I17 J17 E17 B17) := hD1.weaken (fun _ _ _ h => hFc _ h)
          clear hFc hk1 hz1 hP1 hD1
          replace hC_0 := FI.tr hC_0 xu_17I (by decide)
          replace hX_5 := FI.tr hX_5 xu_17I (by decide)
          refine lv_if_eq (tgt := 69) hx hb dX11_doors_59 (by decide) (fun c_18 => ?_) (fun c_18 => ?_)
          · have q_19 : r_u_17.toInt = (0 : Int32).toInt := (ow_eq _ _).mp c_18
            obtain ⟨v_20, ev_20⟩ : ∃ y : Int32, y = x4_5 + 1 := ⟨_, rfl⟩
            refine lv_iinc (v := v_20) (lv' := [(4, .int v_20), (3, .int x3_5), (0, .ref this), (1, .int n), (2, .int n2)]) hx hb dX11_doors_69 hl (k := 0) rfl (by rw [ev_20]; rfl) (by decide) rfl (fun ls hl => ?_)
            have q_21 : v_20.toInt = x4_5.toInt + 1 := by have := ow_add ev_20 (by omega) (by omega); omega
            refine lv_goto (tgt := 18) hx hb dX11_doors_72 (by decide) ?_
            refine W.widen (k := 0) (n := 0) (Nat.le_of_ble_eq_true rfl) (Nat.le_of_ble_eq_true rfl) ?_
            exact ih_5 v_20 x3_5 I17 J17 E17 B17 _ _ _ hI hE hX_5 (by omega) (by omega) hP hD hS (lv_sub hl [0, 1, 2, 3, 4] rfl)
          · have q_22 : ¬ r_u_17.toInt = (0 : Int32).toInt := by have := (not_congr (ow_eq _ _)).mp c_18; omega
            refine lv_iload_n hx hb dX11_doors_62 rfl (lv_at hl 1 rfl) ?_
            refine lv_iconst (v := 1) hx hb dX11_doors_63 (by decide) ?_
            refine lv_iload hx hb dX11_doors_64 (lv_at hl 0 rfl) ?_
            refine lv_ishl hx hb dX11_doors_66 ?_
            refine lv_topi (fun v_23 ev_23 => ?_)
            refine lv_ior hx hb dX11_doors_67 ?_
            refine lv_topi (fun v_24 ev_24 => ?_)
            refine lv_istore_n (lv' := [(3, .int v_24), (4, .int x4_5), (0, .ref this), (1, .int n), (2, .int n2)]) hx hb dX11_doors_68 rfl hl (by decide) rfl (fun ls hl => ?_)
            obtain ⟨v_25, ev_25⟩ : ∃ y : Int32, y = x4_5 + 1 := ⟨_, rfl⟩
            refine lv_iinc (v := v_25) (lv' := [(4, .int v_25), (3, .int v_24), (0, .ref this), (1, .int n), (2, .int n2)]) hx hb dX11_doors_69 hl (k := 1) rfl (by rw [ev_25]; rfl) (by decide) rfl (fun ls hl => ?_)
            have q_26 : v_25.toInt = x4_5.toInt + 1 := by have := ow_add ev_25 (by omega) (by omega); omega
            refine lv_goto (tgt := 18) hx hb dX11_doors_72 (by decide) ?_
            refine W.widen (k := 0) (n := 0) (Nat.le_of_ble_eq_true rfl) (Nat.le_of_ble_eq_true rfl) ?_
            exact ih_5 v_25 v_24 I17 J17 E17 B17 _ _ _ hI hE hX_5 (by omega) (by omega) hP hD hS (lv_sub hl [0, 1, 2, 3, 4] rfl)
    exact lp_5 _ (0) (0) I J E B _ _ _ hI hE FI.rf (by omega) (Nat.lt_succ_self _) hP hD hS (lv_sub hl [0, 1, 2, 3, 4] rfl)
  · have q_27 : r_u_2.toInt = (0 : Int32).toInt := (ow_eq _ _).mp c_3
    refine lv_iconst (v := (-1)) hx hb dX11_doors_11 (by decide) ?_
    refine W.widen (k := 0) (n := 0) (Nat.le_of_ble_eq_true rfl) (Nat.le_of_ble_eq_true rfl) ?_
    exact W.iret (v := (-1)) hx hb hr (fun t ht9 hW => ⟨⟨(-1), (I, J, E, B), rfl, ⟨hI, hE, hC_0, trivial⟩, ⟨by rw [ht9]; exact hP, hD⟩⟩, hS.F ht9⟩) hS.2.2 dX11_doors_12
set_option maxHeartbeats 4000000 in
set_option maxRecDepth 100000 in
theorem x_asked (l : Launch) (G : va_G) (cy : Nat → ClassId) (sz : Nat) (L : List Nat) (K : Nat → Nat) (R : Nat → Nat → Nat) (T : Int) (I E : Nat → Nat → Int32) (J B : Nat → Nat → Int64) (this : Nat) (n : Int32) (n2 : Int32) (n3 : Int32) (hRT : RT L K R) (hI : IV T L K I) (hE : EV L K E) (hthis1 : this ∈ L) (hthis2 : K this = 0) (h_n3 : 0 ≤ n3.toInt ∧ n3.toInt ≤ 1) : Met l yX11_asked (.code yX11_asked cX11_asked 4 (some .int) :: TBg) ({ frames := 5, cells := 0, slots := 0, locals := 320 }) (va_Pc [.ref this, .int n, .int n2, .int n3] (En G cy (WC cy L K R I J E B) sz)) (va_Qi (fun (r : Int32) (u : (Nat → Nat → Int32) × (Nat → Nat → Int64) × (Nat → Nat → Int32) × (Nat → Nat → Int64)) => IV T L K u.1 ∧ EV L K u.2.2.1 ∧ FI [(6, 4)] K I u.1 ∧ (True)) (fun u t => Ex G (va_A (WC cy L K R I J E B) sz) (WC cy L K R u.1 u.2.1 u.2.2.1 u.2.2.2) t) (va_A (WC cy L K R I J E B) sz)) 0 0 (va_A (WC cy L K R I J E B) sz) := by
  have hthis : this ∈ L ∧ K this = 0 := ⟨hthis1, hthis2⟩
  refine Met.ofW (cc := cX11_asked) (maxL := 4) (ret := (some .int)) (by decide) rfl ?_
  intro p e s m args below meth c s₁ B9 hml hv9
  obtain ⟨rfl, hsz, hP, hK, hD0, hN⟩ := hv9
  have hx := B9.exec
  have hb := B9.bytes
  have hr := B9.returns
  have hts := atoms_spec (ws := .code yX11_asked cX11_asked 4 (some .int) :: TBg) B9.pre
  have ht : ∀ w ∈ TBg, w.before _ s = true := fun w h => hts w (List.mem_cons_of_mem _ h)
  have hown : s.vm.findClass RX11 = some m.cls := findClass_of_methodNamed B9.named
  have hlocks := B9.notSynchronized
  subst hsz
  have hD := hD0.self (sz := s.heap.size)
  generalize hAe : va_A (WC cy L K R I J E B) s.heap.size = A at hD ⊢
  have hA : ∀ q : Nat, s.heap.size ≤ q → A q := fun q h => by rw [← hAe]; exact Or.inr h
  have hS : va_S A s.heap s.heap [] := va_S.rf
  have hl := lv_entry ([.ref this, .int n, .int n2, .int n3]) (n := 4) (Nat.le_of_ble_eq_true rfl)
  rw [lg_entry_eq]
  generalize (lg_sl ([.ref this, .int n, .int n2, .int n3]) ++ List.replicate (4 - (lg_sl ([.ref this, .int n, .int n2, .int n3])).length) Slot.unset).toArray = ls at hl ⊢
  have hl : lv_has ls 4 [(0, .ref this), (1, .int n), (2, .int n2), (3, .int n3)] := hl
  have z0 : (-1000000 : Int32).toInt = -1000000 := by decide
  have z1 : (0 : Int32).toInt = 0 := by decide
  have hC_0 : FI [(6, 4)] K I I := FI.rf
  refine lv_aload_n hx hb dX11_asked_0 rfl (lv_at hl 0 rfl) ?_
  refine cg_0_2_11 hx hb ht hown hK hN hP hthis.1 hthis.2 dX11_asked_1 ?_
  have hm_1 : (R this 2) ∈ L ∧ K (R this 2) = 1 := RT.o hRT hthis.1 hthis.2 2 (by decide)
  refine lv_iload_n hx hb dX11_asked_4 rfl (lv_at hl 1 rfl) ?_
  have hFc := fr_new hS hA
  refine va_calli (va_runV (As := [.int n]) (rest := []) ⟨hx, hb, hml, hown, ht⟩ (c_hasLock l G cy _ L K R T I E J B (R this 2) n hRT hI hE hm_1.1 hm_1.2) (cwV 1 ht (gv k_538 k_485 k_486 k_461 k_483) rfl rfl rfl (by decide +kernel) ⟨Nat.le_of_ble_eq_true rfl, Nat.le_of_ble_eq_true rfl⟩) ⟨En.blind, cr_1 hK hP hm_1.1 hm_1.2, fun U hU hW => ⟨rfl, En.of hU hW hP hK hD hN⟩⟩ rfl rfl hl.1 rfl (lv_room (Nat.le_of_ble_eq_true rfl)) dX11_asked_5 ⟨Nat.le_of_ble_eq_true rfl, Nat.le_of_ble_eq_true rfl⟩) hS (fun q _ h => hFc q h) hFc (fun r_u_2 u_2 t9 H locs ht9 hvm hw hB hz1 hk1 hS => ?_)
  have hP := fr_keep hP hk1
  have wu_2 := hw
  clear hFc hk1 hz1 hB hw
  refine lv_if_eq (tgt := 22) hx hb dX11_asked_8 (by decide) (fun c_3 => ?_) (fun c_3 => ?_)
  · have q_4 : r_u_2.toInt = (0 : Int32).toInt := (ow_eq _ _).mp c_3
    refine lv_ldc (v := (-1000000)) hx hb hown (ht _ k_526) dX11_asked_22 ?_
    refine W.widen (k := 0) (n := 0) (Nat.le_of_ble_eq_true rfl) (Nat.le_of_ble_eq_true rfl) ?_
    exact W.iret (v := (-1000000)) hx hb hr (fun t ht9 hW => ⟨⟨(-1000000), (I, J, E, B), rfl, ⟨hI, hE, hC_0, trivial⟩, ⟨by rw [ht9]; exact hP, hD⟩⟩, hS.F ht9⟩) hS.2.2 dX11_asked_24
  · have q_5 : ¬ r_u_2.toInt = (0 : Int32).toInt := by have := (not_congr (ow_eq _ _)).mp c_3; omega
    refine lv_aload_n hx hb dX11_asked_11 rfl (lv_at hl 0 rfl) ?_
    refine cg_0_2_11 hx hb ht hown hK hN hP hthis.1 hthis.2 dX11_asked_12 ?_
    refine lv_iload_n hx hb dX11_asked_15 rfl (lv_at hl 2 rfl) ?_
    have hFc := fr_new hS hA
    refine va_calli (va_runV (As := [.int n2]) (rest := []) ⟨hx, hb, hml, hown, ht⟩ (c_hasTune l G cy _ L K R T I E J B (R this 2) n2 hRT hI hE hm_1.1 hm_1.2) (cwV 1 ht (gv k_523 k_524 k_525 k_461 k_522) rfl rfl rfl (by decide +kernel) ⟨Nat.le_of_ble_eq_true rfl, Nat.le_of_ble_eq_true rfl⟩) ⟨En.blind, cr_1 hK hP hm_1.1 hm_1.2, fun U hU hW => ⟨rfl, En.of hU hW hP hK hD hN⟩⟩ rfl rfl hl.1 rfl (lv_room (Nat.le_of_ble_eq_true rfl)) dX11_asked_16 ⟨Nat.le_of_ble_eq_true rfl, Nat.le_of_ble_eq_true rfl⟩) hS (fun q _ h => hFc q h) hFc (fun r_u_6 u_6 t9 H locs ht9 hvm hw hB hz1 hk1 hS => ?_)
    have hP := fr_keep hP hk1
    have wu_6 := hw
    clear hFc hk1 hz1 hB hw
    refine lv_if_ne (tgt := 25) hx hb dX11_asked_19 (by decide) (fun c_7 => ?_) (fun c_7 => ?_)
    · have q_8 : ¬ r_u_6.toInt = (0 : Int32).toInt := by have := (not_congr (ow_eq _ _)).mp c_7; omega
      refine lv_aload_n hx hb dX11_asked_25 rfl (lv_at hl 0 rfl) ?_
      refine cg_0_2_11 hx hb ht hown hK hN hP hthis.1 hthis.2 dX11_asked_26 ?_
      refine lv_iload_n hx hb dX11_asked_29 rfl (lv_at hl 1 rfl) ?_
      refine lv_aload_n hx hb dX11_asked_30 rfl (lv_at hl 0 rfl) ?_
      refine cg_0_2_11 hx hb ht hown hK hN hP hthis.1 hthis.2 dX11_asked_31 ?_
      refine cg_1_2_11 hx hb ht hown hK hN hP hm_1.1 hm_1.2 dX11_asked_34 ?_
      have hm_9 : (R (R this 2) 2) ∈ L ∧ K (R (R this 2) 2) = 31 := RT.o hRT hm_1.1 hm_1.2 2 (by decide)
      refine lv_iload_n hx hb dX11_asked_37 rfl (lv_at hl 2 rfl) ?_
      have q_10 : vp_in n2 14 := vp_in_iff.mpr ⟨by omega, by omega⟩
      refine cl_31 hx hb hK hP hm_9.1 hm_9.2 q_10 dX11_asked_38 ?_
      have hm_11 : (R (R (R this 2) 2) (Int32.toNatClampNeg n2)) ∈ L ∧ K (R (R (R this 2) 2) (Int32.toNatClampNeg n2)) = 4 := RT.a hRT hm_9.1 hm_9.2 (by decide) q_10
      refine lv_iload_n hx hb dX11_asked_39 rfl (lv_at hl 3 rfl) ?_
      refine lv_aload_n hx hb dX11_asked_40 rfl (lv_at hl 0 rfl) ?_
      refine cg_0_6_11 hx hb ht hown hK hN hP hthis.1 hthis.2 dX11_asked_41 ?_
      have hm_12 : (R this 6) ∈ L ∧ K (R this 6) = 7 := RT.o hRT hthis.1 hthis.2 6 (by decide)
      refine cg_7_3_11 hx hb ht hown hK hN hP hm_12.1 hm_12.2 dX11_asked_44 ?_
      have hm_13 : (R (R this 6) 3) ∈ L ∧ K (R (R this 6) 3) = 34 := RT.o hRT hm_12.1 hm_12.2 3 (by decide)
      refine lv_iload_n hx hb dX11_asked_47 rfl (lv_at hl 1 rfl) ?_
      have q_14 : vp_in n 8 := vp_in_iff.mpr ⟨by omega, by omega⟩
      refine cl_34 hx hb hK hP hm_13.1 hm_13.2 q_14 dX11_asked_48 ?_
      refine lv_topi (fun v_15 ev_15 => ?_)
      have hFc := fr_free hD hS hA
      refine va_calli (va_runV (As := [.int n, .ref (R (R (R this 2) 2) (Int32.toNatClampNeg n2)), .int n3, .int v_15]) (rest := []) ⟨hx, hb, hml, hown, ht⟩ (c_ask l G cy _ L K R T I E J B (R this 2) n (R (R (R this 2) 2) (Int32.toNatClampNeg n2)) n3 v_15 hRT hI hE hm_1.1 hm_1.2 (by omega) hm_11.1 hm_11.2 (by omega)) (cwV 4 ht (gv k_539 k_459 k_460 k_461 k_457) rfl rfl rfl (by decide +kernel) ⟨Nat.le_of_ble_eq_true rfl, Nat.le_of_ble_eq_true rfl⟩) ⟨En.blind, cr_1 hK hP hm_1.1 hm_1.2, fun U hU hW => ⟨rfl, En.of hU hW hP hK hD hN⟩⟩ rfl rfl hl.1 rfl (lv_room (Nat.le_of_ble_eq_true rfl)) dX11_asked_49 ⟨Nat.le_of_ble_eq_true rfl, Nat.le_of_ble_eq_true rfl⟩) hS (fun q _ h => hFc q h) hFc (fun r_u_16 u_16 t9 H locs ht9 hvm hw hB hz1 hk1 hS => ?_)
      obtain ⟨I16, J16, E16, B16⟩ := u_16
      obtain ⟨hP1, hD1⟩ := hB
      rw [ht9] at hP1
      clear hI hE
      obtain ⟨hI, hE, xu_16I, wu_16⟩ := hw
      dsimp only at hI hE xu_16I wu_16
      have hP : va_P G vwCl (WC cy L K R I16 J16 E16 B16) H := hP1
      have hD : va_D A (WC cy L K R I16 J16 E16 B16) := hD1.weaken (fun _ _ _ h => hFc _ h)
      clear hFc hk1 hz1 hP1 hD1
      replace hC_0 := FI.tr hC_0 xu_16I (by decide)
      refine W.widen (k := 0) (n := 0) (Nat.le_of_ble_eq_true rfl) (Nat.le_of_ble_eq_true rfl) ?_
      exact W.iret (v := r_u_16) hx hb hr (fun t ht9 hW => ⟨⟨r_u_16, (I16, J16, E16, B16), rfl, ⟨hI, hE, hC_0, trivial⟩, ⟨by rw [ht9]; exact hP, hD⟩⟩, hS.F ht9⟩) hS.2.2 dX11_asked_52
    · have q_17 : r_u_6.toInt = (0 : Int32).toInt := (ow_eq _ _).mp c_7
      refine lv_ldc (v := (-1000000)) hx hb hown (ht _ k_526) dX11_asked_22 ?_
      refine W.widen (k := 0) (n := 0) (Nat.le_of_ble_eq_true rfl) (Nat.le_of_ble_eq_true rfl) ?_
      exact W.iret (v := (-1000000)) hx hb hr (fun t ht9 hW => ⟨⟨(-1000000), (I, J, E, B), rfl, ⟨hI, hE, hC_0, trivial⟩, ⟨by rw [ht9]; exact hP, hD⟩⟩, hS.F ht9⟩) hS.2.2 dX11_asked_24
set_option maxHeartbeats 4000000 in
set_option maxRecDepth 100000 in
theorem x_least (l : Launch) (G : va_G) (cy : Nat → ClassId) (sz : Nat) (L : List Nat) (K : Nat → Nat) (R : Nat → Nat → Nat) (T : Int) (I E : Nat → Nat → Int32) (J B : Nat → Nat → Int64) (this : Nat) (n : Int32) (n2 : Int32) (hRT : RT L K R) (hI : IV T L K I) (hE : EV L K E) (hthis1 : this ∈ L) (hthis2 : K this = 0) (h_n2 : 0 ≤ n2.toInt ∧ n2.toInt ≤ 1) : Met l yX11_least (.code yX11_least cX11_least 6 (some .int) :: TBg) ({ frames := 6, cells := 0, slots := 0, locals := 384 }) (va_Pc [.ref this, .int n, .int n2] (En G cy (WC cy L K R I J E B) sz)) (va_Qi (fun (r : Int32) (u : (Nat → Nat → Int32) × (Nat → Nat → Int64) × (Nat → Nat → Int32) × (Nat → Nat → Int64)) => IV T L K u.1 ∧ EV L K u.2.2.1 ∧ FI [(6, 4)] K I u.1 ∧ (True)) (fun u t => Ex G (va_A (WC cy L K R I J E B) sz) (WC cy L K R u.1 u.2.1 u.2.2.1 u.2.2.2) t) (va_A (WC cy L K R I J E B) sz)) 0 0 (va_A (WC cy L K R I J E B) sz) := by
  have hthis : this ∈ L ∧ K this = 0 := ⟨hthis1, hthis2⟩
  refine Met.ofW (cc := cX11_least) (maxL := 6) (ret := (some .int)) (by decide) rfl ?_
  intro p e s m args below meth c s₁ B9 hml hv9
  obtain ⟨rfl, hsz, hP, hK, hD0, hN⟩ := hv9
  have hx := B9.exec
  have hb := B9.bytes
  have hr := B9.returns
  have hts := atoms_spec (ws := .code yX11_least cX11_least 6 (some .int) :: TBg) B9.pre
  have ht : ∀ w ∈ TBg, w.before _ s = true := fun w h => hts w (List.mem_cons_of_mem _ h)
  have hown : s.vm.findClass RX11 = some m.cls := findClass_of_methodNamed B9.named
  have hlocks := B9.notSynchronized
  subst hsz
  have hD := hD0.self (sz := s.heap.size)
  generalize hAe : va_A (WC cy L K R I J E B) s.heap.size = A at hD ⊢
  have hA : ∀ q : Nat, s.heap.size ≤ q → A q := fun q h => by rw [← hAe]; exact Or.inr h
  have hS : va_S A s.heap s.heap [] := va_S.rf
  have hl := lv_entry ([.ref this, .int n, .int n2]) (n := 6) (Nat.le_of_ble_eq_true rfl)
  rw [lg_entry_eq]
  generalize (lg_sl ([.ref this, .int n, .int n2]) ++ List.replicate (6 - (lg_sl ([.ref this, .int n, .int n2])).length) Slot.unset).toArray = ls at hl ⊢
  have hl : lv_has ls 6 [(0, .ref this), (1, .int n), (2, .int n2)] := hl
  have z0 : (-1 : Int32).toInt = -1 := by decide
  have z1 : (0 : Int32).toInt = 0 := by decide
  have z2 : (1 : Int32).toInt = 1 := by decide
  have hC_0 : FI [(6, 4)] K I I := FI.rf
  refine lv_aload_n hx hb dX11_least_0 rfl (lv_at hl 0 rfl) ?_
  refine cg_0_2_11 hx hb ht hown hK hN hP hthis.1 hthis.2 dX11_least_1 ?_
  have hm_1 : (R this 2) ∈ L ∧ K (R this 2) = 1 := RT.o hRT hthis.1 hthis.2 2 (by decide)
  refine lv_iload_n hx hb dX11_least_4 rfl (lv_at hl 1 rfl) ?_
  have hFc := fr_new hS hA
  refine va_calli (va_runV (As := [.int n]) (rest := []) ⟨hx, hb, hml, hown, ht⟩ (c_hasLock l G cy _ L K R T I E J B (R this 2) n hRT hI hE hm_1.1 hm_1.2) (cwV 1 ht (gv k_538 k_485 k_486 k_461 k_483) rfl rfl rfl (by decide +kernel) ⟨Nat.le_of_ble_eq_true rfl, Nat.le_of_ble_eq_true rfl⟩) ⟨En.blind, cr_1 hK hP hm_1.1 hm_1.2, fun U hU hW => ⟨rfl, En.of hU hW hP hK hD hN⟩⟩ rfl rfl hl.1 rfl (lv_room (Nat.le_of_ble_eq_true rfl)) dX11_least_5 ⟨Nat.le_of_ble_eq_true rfl, Nat.le_of_ble_eq_true rfl⟩) hS (fun q _ h => hFc q h) hFc (fun r_u_2 u_2 t9 H locs ht9 hvm hw hB hz1 hk1 hS => ?_)
  have hP := fr_keep hP hk1
  have wu_2 := hw
  clear hFc hk1 hz1 hB hw
  refine lv_if_ne (tgt := 13) hx hb dX11_least_8 (by decide) (fun c_3 => ?_) (fun c_3 => ?_)
  · have q_4 : ¬ r_u_2.toInt = (0 : Int32).toInt := by have := (not_congr (ow_eq _ _)).mp c_3; omega
    refine lv_iconst (v := (-1)) hx hb dX11_least_13 (by decide) ?_
    refine lv_istore_n (lv' := [(3, .int (-1)), (0, .ref this), (1, .int n), (2, .int n2)]) hx hb dX11_least_14 rfl hl (by decide) rfl (fun ls hl => ?_)
    refine lv_iconst (v := 0) hx hb dX11_least_15 (by decide) ?_
    refine lv_istore (lv' := [(4, .int 0), (3, .int (-1)), (0, .ref this), (1, .int n), (2, .int n2)]) hx hb dX11_least_16 hl (by decide) rfl (fun ls hl => ?_)
    refine W.widen (k := 0) (n := 0) (Nat.le_of_ble_eq_true rfl) (Nat.le_of_ble_eq_true rfl) ?_
    have lp_5 : ∀ (N_5 : Nat) (x4_5 : Int32) (x3_5 : Int32) (I5 : Nat → Nat → Int32) (J5 : Nat → Nat → Int64) (E5 : Nat → Nat → Int32) (B5 : Nat → Nat → Int64) (H : Heap) (locs : List Loc) (ls : Array Slot), IV T L K I5 → EV L K E5 → FI [(6, 4)] K I I5 → (0 ≤ x4_5.toInt ∧ x4_5.toInt ≤ 14) → (-1 ≤ x3_5.toInt ∧ x3_5.toInt ≤ 13) → (14 - x4_5.toInt).toNat < N_5 → va_P G vwCl (WC cy L K R I5 J5 E5 B5) H → va_D A (WC cy L K R I5 J5 E5 B5) → va_S A s.heap H locs → lv_has ls 6 [(4, .int x4_5), (3, .int x3_5), (0, .ref this), (1, .int n), (2, .int n2)] → W p l e (headSpec (.code yX11_least cX11_least 6 (some .int) :: TBg) ({ frames := 6, cells := 0, slots := 0, locals := 384 })).room s m ([.ref this, .int n, .int n2] : List Value).toArray below meth c H locs 0 0 (MQ below (va_Qi (fun (r : Int32) (u : (Nat → Nat → Int32) × (Nat → Nat → Int64) × (Nat → Nat → Int32) × (Nat → Nat → Int64)) => IV T L K u.1 ∧ EV L K u.2.2.1 ∧ FI [(6, 4)] K I u.1 ∧ (True)) (fun u t => Ex G A (WC cy L K R u.1 u.2.1 u.2.2.1 u.2.2.2) t) A) ([.ref this, .int n, .int n2] : List Value).toArray s 0 0 A) (F0 m 18 ls []) := by
      intro N_5
      induction N_5 with
      | zero => intro x4_5 x3_5 I5 J5 E5 B5 H locs ls hI hE hC_5 qf5_0 qf5_1 hm9 hP hD hS hl; exact absurd hm9 (Nat.not_lt_zero _)
      | succ N_5 ih_5 =>
        intro x4_5 x3_5 I5 J5 E5 B5 H locs ls hI hE hC_5 qf5_0 qf5_1 hm9 hP hD hS hl
        replace hC_0 := FI.tr hC_0 hC_5 (by decide)
        have hX_5 := hC_5
        refine lv_iload hx hb dX11_least_18 (lv_at hl 0 rfl) ?_
        refine lv_aload_n hx hb dX11_least_20 rfl (lv_at hl 2 rfl) ?_
        refine cg_0_2_11 hx hb ht hown hK hN hP hthis.1 hthis.2 dX11_least_21 ?_
        refine cg_1_3_11 hx hb ht hown hK hN hP hm_1.1 hm_1.2 dX11_least_24 ?_
        have q_6 : 0 ≤ (I5 (R this 2) 3).toInt ∧ (I5 (R this 2) 3).toInt ≤ 14 := IV.rd hI hm_1.1 hm_1.2 3
        refine lv_icmp_ge (tgt := 115) hx hb dX11_least_27 (by decide) (fun c_7 => ?_) (fun c_7 => ?_)
        · have q_8 : (I5 (R this 2) 3).toInt ≤ x4_5.toInt := (ow_le _ _).mp c_7
          refine lv_iload_n hx hb dX11_least_115 rfl (lv_at hl 1 rfl) ?_
          refine W.widen (k := 0) (n := 0) (Nat.le_of_ble_eq_true rfl) (Nat.le_of_ble_eq_true rfl) ?_
          exact W.iret (v := x3_5) hx hb hr (fun t ht9 hW => ⟨⟨x3_5, (I5, J5, E5, B5), rfl, ⟨hI, hE, hC_0, trivial⟩, ⟨by rw [ht9]; exact hP, hD⟩⟩, hS.F ht9⟩) hS.2.2 dX11_least_116
        · have q_9 : x4_5.toInt < (I5 (R this 2) 3).toInt := by have := (not_congr (ow_le _ _)).mp c_7; omega
          refine W.widen (k := 0) (n := 0) (Nat.le_of_ble_eq_true rfl) (Nat.le_of_ble_eq_true rfl) ?_
          have jn_10 : ∀ (y0_10 : Int32) (H : Heap) (locs : List Loc) (ls : Array Slot), (0 ≤ y0_10.toInt ∧ y0_10.toInt ≤ 1) → va_P G vwCl (WC cy L K R I5 J5 E5 B5) H → va_D A (WC cy L K R I5 J5 E5 B5) → va_S A s.heap H locs → lv_has ls 6 [(4, .int x4_5), (3, .int x3_5), (0, .ref this), (1, .int n), (2, .int n2)] → W p l e (headSpec (.code yX11_least cX11_least 6 (some .int) :: TBg) ({ frames := 6, cells := 0, slots := 0, locals := 384 })).room s m ([.ref this, .int n, .int n2] : List Value).toArray below meth c H locs 0 0 (MQ below (va_Qi (fun (r : Int32) (u : (Nat → Nat → Int32) × (Nat → Nat → Int64) × (Nat → Nat → Int32) × (Nat → Nat → Int64)) => IV T L K u.1 ∧ EV L K u.2.2.1 ∧ FI [(6, 4)] K I u.1 ∧ (True)) (fun u t => Ex G A (WC cy L K R u.1 u.2.1 u.2.2.1 u.2.2.2) t) A) ([.ref this, .int n, .int n2] : List Value).toArray s 0 0 A) (F0 m 68 ls [.int y0_10]) := by
            intro y0_10 H locs ls qf10_0 hP hD hS hl
            refine lv_istore (lv' := [(5, .int y0_10), (4, .int x4_5), (3, .int x3_5), (0, .ref this), (1, .int n), (2, .int n2)]) hx hb dX11_least_68 hl (by decide) rfl (fun ls hl => ?_)
            refine lv_iload hx hb dX11_least_70 (lv_at hl 0 rfl) ?_
            refine lv_if_eq (tgt := 109) hx hb dX11_least_72 (by decide) (fun c_11 => ?_) (fun c_11 => ?_)
            · have q_12 : y0_10.toInt = (0 : Int32).toInt := (ow_eq _ _).mp c_11
              obtain ⟨v_13, ev_13⟩ : ∃ y : Int32, y = x4_5 + 1 := ⟨_, rfl⟩
              refine lv_iinc (v := v_13) (lv' := [(4, .int v_13), (5, .int y0_10), (3, .int x3_5), (0, .ref this), (1, .int n), (2, .int n2)]) hx hb dX11_least_109 hl (k := 1) rfl (by rw [ev_13]; rfl) (by decide) rfl (fun ls hl => ?_)
              have q_14 : v_13.toInt = x4_5.toInt + 1 := by have := ow_add ev_13 (by omega) (by omega); omega
              refine lv_goto (tgt := 18) hx hb dX11_least_112 (by decide) ?_
              refine W.widen (k := 0) (n := 0) (Nat.le_of_ble_eq_true rfl) (Nat.le_of_ble_eq_true rfl) ?_
              exact ih_5 v_13 x3_5 I5 J5 E5 B5 _ _ _ hI hE hX_5 (by omega) (by omega) (by omega) hP hD hS (lv_sub hl [0, 2, 3, 4, 5] rfl)
            · have q_15 : ¬ y0_10.toInt = (0 : Int32).toInt := by have := (not_congr (ow_eq _ _)).mp c_11; omega
              refine lv_aload_n hx hb dX11_least_75 rfl (lv_at hl 3 rfl) ?_
              refine cg_0_2_11 hx hb ht hown hK hN hP hthis.1 hthis.2 dX11_least_76 ?_
              refine lv_iload_n hx hb dX11_least_79 rfl (lv_at hl 4 rfl) ?_
              refine lv_aload_n hx hb dX11_least_80 rfl (lv_at hl 3 rfl) ?_
              refine cg_0_2_11 hx hb ht hown hK hN hP hthis.1 hthis.2 dX11_least_81 ?_
              refine cg_1_2_11 hx hb ht hown hK hN hP hm_1.1 hm_1.2 dX11_least_84 ?_
              have hm_16 : (R (R this 2) 2) ∈ L ∧ K (R (R this 2) 2) = 31 := RT.o hRT hm_1.1 hm_1.2 2 (by decide)
              refine lv_iload hx hb dX11_least_87 (lv_at hl 1 rfl) ?_
              have q_17 : vp_in x4_5 14 := vp_in_iff.mpr ⟨by omega, by omega⟩
              refine cl_31 hx hb hK hP hm_16.1 hm_16.2 q_17 dX11_least_89 ?_
              have hm_18 : (R (R (R this 2) 2) (Int32.toNatClampNeg x4_5)) ∈ L ∧ K (R (R (R this 2) 2) (Int32.toNatClampNeg x4_5)) = 4 := RT.a hRT hm_16.1 hm_16.2 (by decide) q_17
              refine lv_iload_n hx hb dX11_least_90 rfl (lv_at hl 5 rfl) ?_
              refine lv_aload_n hx hb dX11_least_91 rfl (lv_at hl 3 rfl) ?_
              refine cg_0_6_11 hx hb ht hown hK hN hP hthis.1 hthis.2 dX11_least_92 ?_
              have hm_19 : (R this 6) ∈ L ∧ K (R this 6) = 7 := RT.o hRT hthis.1 hthis.2 6 (by decide)
              refine cg_7_3_11 hx hb ht hown hK hN hP hm_19.1 hm_19.2 dX11_least_95 ?_
              have hm_20 : (R (R this 6) 3) ∈ L ∧ K (R (R this 6) 3) = 34 := RT.o hRT hm_19.1 hm_19.2 3 (by decide)
              refine lv_iload_n hx hb dX11_least_98 rfl (lv_at hl 4 rfl) ?_
              have q_21 : vp_in n 8 := vp_in_iff.mpr ⟨by omega, by omega⟩
              refine cl_34 hx hb hK hP hm_20.1 hm_20.2 q_21 dX11_least_99 ?_
              refine lv_topi (fun v_22 ev_22 => ?_)
              have hFc := fr_free hD hS hA
              refine va_calli (va_runV (As := [.int n, .ref (R (R (R this 2) 2) (Int32.toNatClampNeg x4_5)), .int n2, .int v_22]) (rest := []) ⟨hx, hb, hml, hown, ht⟩ (c_opensTo l G cy _ L K R T I5 E5 J5 B5 (R this 2) n (R (R (R this 2) 2) (Int32.toNatClampNeg x4_5)) n2 v_22 hRT hI hE hm_1.1 hm_1.2 (by omega) hm_18.1 hm_18.2 (by omega)) (cwV 4 ht (gv k_537 k_464 k_465 k_461 k_462) rfl rfl rfl (by decide +kernel) ⟨Nat.le_of_ble_eq_true rfl, Nat.le_of_ble_eq_true rfl⟩) ⟨En.blind, cr_1 hK hP hm_1.1 hm_1.2, fun U hU hW => ⟨rfl, En.of hU hW hP hK hD hN⟩⟩ rfl rfl hl.1 rfl (lv_room (Nat.le_of_ble_eq_true rfl)) dX11_least_100 ⟨Nat.le_of_ble_eq_true rfl, Nat.le_of_ble_eq_true rfl⟩) hS (fun q _ h => hFc q h) hFc (fun r_u_23 u_23 t9 H locs ht9 hvm hw hB hz1 hk1 hS => ?_)
              obtain ⟨I23, J23, E23, B23⟩ := u_23
              obtain ⟨hP1, hD1⟩ := hB
              rw [ht9] at hP1
              clear hI hE
              obtain ⟨hI, hE, xu_23I, wu_23⟩ := hw
              dsimp only at hI hE xu_23I wu_23
              have hP : va_P G vwCl (WC cy L K R I23 J23 E23 B23) H := hP1
              have hD : va_D A (WC cy L K R I23 J23 E23 B23) := hD1.weaken (fun _ _ _ h => hFc _ h)
              clear hFc hk1 hz1 hP1 hD1
              replace hC_0 := FI.tr hC_0 xu_23I (by decide)
              replace hX_5 := FI.tr hX_5 xu_23I (by decide)
              refine lv_if_eq (tgt := 109) hx hb dX11_least_103 (by decide) (fun c_24 => ?_) (fun c_24 => ?_)
              · have q_25 : r_u_23.toInt = (0 : Int32).toInt := (ow_eq _ _).mp c_24
                obtain ⟨v_26, ev_26⟩ : ∃ y : Int32, y = x4_5 + 1 := ⟨_, rfl⟩
                refine lv_iinc (v := v_26) (lv' := [(4, .int v_26), (5, .int y0_10), (3, .int x3_5), (0, .ref this), (1, .int n), (2, .int n2)]) hx hb dX11_least_109 hl (k := 1) rfl (by rw [ev_26]; rfl) (by decide) rfl (fun ls hl => ?_)
                have q_27 : v_26.toInt = x4_5.toInt + 1 := by have := ow_add ev_26 (by omega) (by omega); omega
                refine lv_goto (tgt := 18) hx hb dX11_least_112 (by decide) ?_
                refine W.widen (k := 0) (n := 0) (Nat.le_of_ble_eq_true rfl) (Nat.le_of_ble_eq_true rfl) ?_
                exact ih_5 v_26 x3_5 I23 J23 E23 B23 _ _ _ hI hE hX_5 (by omega) (by omega) (by omega) hP hD hS (lv_sub hl [0, 2, 3, 4, 5] rfl)
              · have q_28 : ¬ r_u_23.toInt = (0 : Int32).toInt := by have := (not_congr (ow_eq _ _)).mp c_24; omega
                refine lv_iload hx hb dX11_least_106 (lv_at hl 1 rfl) ?_
                refine lv_istore_n (lv' := [(3, .int x4_5), (5, .int y0_10), (4, .int x4_5), (0, .ref this), (1, .int n), (2, .int n2)]) hx hb dX11_least_108 rfl hl (by decide) rfl (fun ls hl => ?_)
                obtain ⟨v_29, ev_29⟩ : ∃ y : Int32, y = x4_5 + 1 := ⟨_, rfl⟩
                refine lv_iinc (v := v_29) (lv' := [(4, .int v_29), (3, .int x4_5), (5, .int y0_10), (0, .ref this), (1, .int n), (2, .int n2)]) hx hb dX11_least_109 hl (k := 2) rfl (by rw [ev_29]; rfl) (by decide) rfl (fun ls hl => ?_)
                have q_30 : v_29.toInt = x4_5.toInt + 1 := by have := ow_add ev_29 (by omega) (by omega); omega
                refine lv_goto (tgt := 18) hx hb dX11_least_112 (by decide) ?_
                refine W.widen (k := 0) (n := 0) (Nat.le_of_ble_eq_true rfl) (Nat.le_of_ble_eq_true rfl) ?_
                exact ih_5 v_29 x4_5 I23 J23 E23 B23 _ _ _ hI hE hX_5 (by omega) (by omega) (by omega) hP hD hS (lv_sub hl [0, 1, 3, 4, 5] rfl)
          refine lv_iload_n hx hb dX11_least_30 rfl (lv_at hl 1 rfl) ?_
          refine lv_iconst (v := (-1)) hx hb dX11_least_31 (by decide) ?_
          refine lv_icmp_eq (tgt := 63) hx hb dX11_least_32 (by decide) (fun c_31 => ?_) (fun c_31 => ?_)
          · have q_32 : x3_5.toInt = ((-1) : Int32).toInt := (ow_eq _ _).mp c_31
            refine lv_iconst (v := 1) hx hb dX11_least_63 (by decide) ?_
            refine lv_goto (tgt := 68) hx hb dX11_least_64 (by decide) ?_
            refine W.widen (k := 0) (n := 0) (Nat.le_of_ble_eq_true rfl) (Nat.le_of_ble_eq_true rfl) ?_
            exact jn_10 (1) _ _ _ (by omega) hP hD hS (lv_sub hl [0, 1, 2, 3, 4] rfl)
          · have q_33 : ¬ x3_5.toInt = ((-1) : Int32).toInt := by have := (not_congr (ow_eq _ _)).mp c_31; omega
            refine lv_aload_n hx hb dX11_least_35 rfl (lv_at hl 2 rfl) ?_
            refine cg_0_2_11 hx hb ht hown hK hN hP hthis.1 hthis.2 dX11_least_36 ?_
            refine cg_1_0_11 hx hb ht hown hK hN hP hm_1.1 hm_1.2 dX11_least_39 ?_
            have hm_34 : (R (R this 2) 0) ∈ L ∧ K (R (R this 2) 0) = 29 := RT.o hRT hm_1.1 hm_1.2 0 (by decide)
            refine lv_iload hx hb dX11_least_42 (lv_at hl 0 rfl) ?_
            have q_35 : vp_in x4_5 14 := vp_in_iff.mpr ⟨by omega, by omega⟩
            refine cl_29 hx hb hK hP hm_34.1 hm_34.2 q_35 dX11_least_44 ?_
            have hm_36 : (R (R (R this 2) 0) (Int32.toNatClampNeg x4_5)) ∈ L ∧ K (R (R (R this 2) 0) (Int32.toNatClampNeg x4_5)) = 2 := RT.a hRT hm_34.1 hm_34.2 (by decide) q_35
            refine cg_2_2_11 hx hb ht hown hK hN hP hm_36.1 hm_36.2 dX11_least_45 ?_
            have q_37 : 0 ≤ (I5 (R (R (R this 2) 0) (Int32.toNatClampNeg x4_5)) 2).toInt ∧ (I5 (R (R (R this 2) 0) (Int32.toNatClampNeg x4_5)) 2).toInt ≤ 12 := IV.rd hI hm_36.1 hm_36.2 2
            refine lv_aload_n hx hb dX11_least_48 rfl (lv_at hl 2 rfl) ?_
            refine cg_0_2_11 hx hb ht hown hK hN hP hthis.1 hthis.2 dX11_least_49 ?_
            refine cg_1_0_11 hx hb ht hown hK hN hP hm_1.1 hm_1.2 dX11_least_52 ?_
            refine lv_iload_n hx hb dX11_least_55 rfl (lv_at hl 1 rfl) ?_
            have q_38 : vp_in x3_5 14 := vp_in_iff.mpr ⟨by omega, by omega⟩
            refine cl_29 hx hb hK hP hm_34.1 hm_34.2 q_38 dX11_least_56 ?_
            have hm_39 : (R (R (R this 2) 0) (Int32.toNatClampNeg x3_5)) ∈ L ∧ K (R (R (R this 2) 0) (Int32.toNatClampNeg x3_5)) = 2 := RT.a hRT hm_34.1 hm_34.2 (by decide) q_38
            refine cg_2_2_11 hx hb ht hown hK hN hP hm_39.1 hm_39.2 dX11_least_57 ?_
            have q_40 : 0 ≤ (I5 (R (R (R this 2) 0) (Int32.toNatClampNeg x3_5)) 2).toInt ∧ (I5 (R (R (R this 2) 0) (Int32.toNatClampNeg x3_5)) 2).toInt ≤ 12 := IV.rd hI hm_39.1 hm_39.2 2
            refine lv_icmp_ge (tgt := 67) hx hb dX11_least_60 (by decide) (fun c_41 => ?_) (fun c_41 => ?_)
            · have q_42 : (I5 (R (R (R this 2) 0) (Int32.toNatClampNeg x3_5)) 2).toInt ≤ (I5 (R (R (R this 2) 0) (Int32.toNatClampNeg x4_5)) 2).toInt := (ow_le _ _).mp c_41
              refine lv_iconst (v := 0) hx hb dX11_least_67 (by decide) ?_
              refine W.widen (k := 0) (n := 0) (Nat.le_of_ble_eq_true rfl) (Nat.le_of_ble_eq_true rfl) ?_
              exact jn_10 (0) _ _ _ (by omega) hP hD hS (lv_sub hl [0, 1, 2, 3, 4] rfl)
            · have q_43 : (I5 (R (R (R this 2) 0) (Int32.toNatClampNeg x4_5)) 2).toInt < (I5 (R (R (R this 2) 0) (Int32.toNatClampNeg x3_5)) 2).toInt := by have := (not_congr (ow_le _ _)).mp c_41; omega
              refine lv_iconst (v := 1) hx hb dX11_least_63 (by decide) ?_
              refine lv_goto (tgt := 68) hx hb dX11_least_64 (by decide) ?_
              refine W.widen (k := 0) (n := 0) (Nat.le_of_ble_eq_true rfl) (Nat.le_of_ble_eq_true rfl) ?_
              exact jn_10 (1) _ _ _ (by omega) hP hD hS (lv_sub hl [0, 1, 2, 3, 4] rfl)
    exact lp_5 _ (0) ((-1)) I J E B _ _ _ hI hE FI.rf (by omega) (by omega) (Nat.lt_succ_self _) hP hD hS (lv_sub hl [0, 1, 2, 3, 4] rfl)
  · have q_44 : r_u_2.toInt = (0 : Int32).toInt := (ow_eq _ _).mp c_3
    refine lv_iconst (v := (-1)) hx hb dX11_least_11 (by decide) ?_
    refine W.widen (k := 0) (n := 0) (Nat.le_of_ble_eq_true rfl) (Nat.le_of_ble_eq_true rfl) ?_
    exact W.iret (v := (-1)) hx hb hr (fun t ht9 hW => ⟨⟨(-1), (I, J, E, B), rfl, ⟨hI, hE, hC_0, trivial⟩, ⟨by rw [ht9]; exact hP, hD⟩⟩, hS.F ht9⟩) hS.2.2 dX11_least_12
set_option maxHeartbeats 4000000 in
set_option maxRecDepth 100000 in
theorem x_dealt (l : Launch) (G : va_G) (cy : Nat → ClassId) (sz : Nat) (L : List Nat) (K : Nat → Nat) (R : Nat → Nat → Nat) (T : Int) (I E : Nat → Nat → Int32) (J B : Nat → Nat → Int64) (this : Nat) (n : Int32) (hRT : RT L K R) (hI : IV T L K I) (hE : EV L K E) (hthis1 : this ∈ L) (hthis2 : K this = 0) : Met l yX11_dealt (.code yX11_dealt cX11_dealt 2 (some .int) :: TBg) ({ frames := 17, cells := 0, slots := 0, locals := 1088 }) (va_Pc [.ref this, .int n] (En G cy (WC cy L K R I J E B) sz)) (va_Qi (fun (r : Int32) (u : (Nat → Nat → Int32) × (Nat → Nat → Int64) × (Nat → Nat → Int32) × (Nat → Nat → Int64)) => IV T L K u.1 ∧ EV L K u.2.2.1 ∧ FI [(9, 1), (9, 2)] K I u.1 ∧ (True)) (fun u t => Ex G (va_A (WC cy L K R I J E B) sz) (WC cy L K R u.1 u.2.1 u.2.2.1 u.2.2.2) t) (va_A (WC cy L K R I J E B) sz)) 0 0 (va_A (WC cy L K R I J E B) sz) := by
  have hthis : this ∈ L ∧ K this = 0 := ⟨hthis1, hthis2⟩
  refine Met.ofW (cc := cX11_dealt) (maxL := 2) (ret := (some .int)) (by decide) rfl ?_
  intro p e s m args below meth c s₁ B9 hml hv9
  obtain ⟨rfl, hsz, hP, hK, hD0, hN⟩ := hv9
  have hx := B9.exec
  have hb := B9.bytes
  have hr := B9.returns
  have hts := atoms_spec (ws := .code yX11_dealt cX11_dealt 2 (some .int) :: TBg) B9.pre
  have ht : ∀ w ∈ TBg, w.before _ s = true := fun w h => hts w (List.mem_cons_of_mem _ h)
  have hown : s.vm.findClass RX11 = some m.cls := findClass_of_methodNamed B9.named
  have hlocks := B9.notSynchronized
  subst hsz
  have hD := hD0.self (sz := s.heap.size)
  generalize hAe : va_A (WC cy L K R I J E B) s.heap.size = A at hD ⊢
  have hA : ∀ q : Nat, s.heap.size ≤ q → A q := fun q h => by rw [← hAe]; exact Or.inr h
  have hS : va_S A s.heap s.heap [] := va_S.rf
  have hl := lv_entry ([.ref this, .int n]) (n := 2) (Nat.le_of_ble_eq_true rfl)
  rw [lg_entry_eq]
  generalize (lg_sl ([.ref this, .int n]) ++ List.replicate (2 - (lg_sl ([.ref this, .int n])).length) Slot.unset).toArray = ls at hl ⊢
  have hl : lv_has ls 2 [(0, .ref this), (1, .int n)] := hl
  have z0 : (-1 : Int32).toInt = -1 := by decide
  have z1 : (0 : Int32).toInt = 0 := by decide
  have z2 : (99 : Int32).toInt = 99 := by decide
  have hC_0 : FI [(9, 1), (9, 2)] K I I := FI.rf
  refine lv_iload_n hx hb dX11_dealt_0 rfl (lv_at hl 1 rfl) ?_
  refine lv_if_lt (tgt := 10) hx hb dX11_dealt_1 (by decide) (fun c_1 => ?_) (fun c_1 => ?_)
  · have q_2 : n.toInt < (0 : Int32).toInt := (ow_lt _ _).mp c_1
    refine lv_iconst (v := (-1)) hx hb dX11_dealt_10 (by decide) ?_
    refine W.widen (k := 0) (n := 0) (Nat.le_of_ble_eq_true rfl) (Nat.le_of_ble_eq_true rfl) ?_
    exact W.iret (v := (-1)) hx hb hr (fun t ht9 hW => ⟨⟨(-1), (I, J, E, B), rfl, ⟨hI, hE, hC_0, trivial⟩, ⟨by rw [ht9]; exact hP, hD⟩⟩, hS.F ht9⟩) hS.2.2 dX11_dealt_11
  · have q_3 : (0 : Int32).toInt ≤ n.toInt := by have := (not_congr (ow_lt _ _)).mp c_1; omega
    refine lv_iload_n hx hb dX11_dealt_4 rfl (lv_at hl 1 rfl) ?_
    refine lv_bipush (v := 99) hx hb dX11_dealt_5 (by decide) ?_
    refine lv_icmp_le (tgt := 12) hx hb dX11_dealt_7 (by decide) (fun c_4 => ?_) (fun c_4 => ?_)
    · have q_5 : n.toInt ≤ (99 : Int32).toInt := (ow_le _ _).mp c_4
      refine lv_aload_n hx hb dX11_dealt_12 rfl (lv_at hl 0 rfl) ?_
      refine cg_0_11_11 hx hb ht hown hK hN hP hthis.1 hthis.2 dX11_dealt_13 ?_
      have hm_6 : (R this 11) ∈ L ∧ K (R this 11) = 9 := RT.o hRT hthis.1 hthis.2 11 (by decide)
      refine lv_aload_n hx hb dX11_dealt_16 rfl (lv_at hl 0 rfl) ?_
      refine cg_0_2_11 hx hb ht hown hK hN hP hthis.1 hthis.2 dX11_dealt_17 ?_
      have hm_7 : (R this 2) ∈ L ∧ K (R this 2) = 1 := RT.o hRT hthis.1 hthis.2 2 (by decide)
      refine lv_iload_n hx hb dX11_dealt_20 rfl (lv_at hl 1 rfl) ?_
      have hFc := fr_free hD hS hA
      refine va_calli (va_runV (As := [.ref (R this 2), .int n]) (rest := []) ⟨hx, hb, hml, hown, ht⟩ (c_choose l G cy _ L K R T I E J B (R this 11) (R this 2) n hRT hI hE hm_6.1 hm_6.2 hm_7.1 hm_7.2) (cwV 2 ht (gv k_541 k_542 k_543 k_494 k_540) rfl rfl rfl (by decide +kernel) ⟨Nat.le_of_ble_eq_true rfl, Nat.le_of_ble_eq_true rfl⟩) ⟨En.blind, cr_9 hK hP hm_6.1 hm_6.2, fun U hU hW => ⟨rfl, En.of hU hW hP hK hD hN⟩⟩ rfl rfl hl.1 rfl (lv_room (Nat.le_of_ble_eq_true rfl)) dX11_dealt_21 ⟨Nat.le_of_ble_eq_true rfl, Nat.le_of_ble_eq_true rfl⟩) hS (fun q _ h => hFc q h) hFc (fun r_u_8 u_8 t9 H locs ht9 hvm hw hB hz1 hk1 hS => ?_)
      obtain ⟨I8, J8, E8, B8⟩ := u_8
      obtain ⟨hP1, hD1⟩ := hB
      rw [ht9] at hP1
      clear hI hE
      obtain ⟨hI, hE, xu_8I, wu_8⟩ := hw
      dsimp only at hI hE xu_8I wu_8
      have hP : va_P G vwCl (WC cy L K R I8 J8 E8 B8) H := hP1
      have hD : va_D A (WC cy L K R I8 J8 E8 B8) := hD1.weaken (fun _ _ _ h => hFc _ h)
      clear hFc hk1 hz1 hP1 hD1
      replace hC_0 := FI.tr hC_0 xu_8I (by decide)
      refine W.widen (k := 0) (n := 0) (Nat.le_of_ble_eq_true rfl) (Nat.le_of_ble_eq_true rfl) ?_
      exact W.iret (v := r_u_8) hx hb hr (fun t ht9 hW => ⟨⟨r_u_8, (I8, J8, E8, B8), rfl, ⟨hI, hE, hC_0, trivial⟩, ⟨by rw [ht9]; exact hP, hD⟩⟩, hS.F ht9⟩) hS.2.2 dX11_dealt_24
    · have q_9 : (99 : Int32).toInt < n.toInt := by have := (not_congr (ow_le _ _)).mp c_4; omega
      refine lv_iconst (v := (-1)) hx hb dX11_dealt_10 (by decide) ?_
      refine W.widen (k := 0) (n := 0) (Nat.le_of_ble_eq_true rfl) (Nat.le_of_ble_eq_true rfl) ?_
      exact W.iret (v := (-1)) hx hb hr (fun t ht9 hW => ⟨⟨(-1), (I, J, E, B), rfl, ⟨hI, hE, hC_0, trivial⟩, ⟨by rw [ht9]; exact hP, hD⟩⟩, hS.F ht9⟩) hS.2.2 dX11_dealt_11
set_option maxHeartbeats 4000000 in
set_option maxRecDepth 100000 in
theorem x_round (l : Launch) (G : va_G) (cy : Nat → ClassId) (sz : Nat) (L : List Nat) (K : Nat → Nat) (R : Nat → Nat → Nat) (T : Int) (I E : Nat → Nat → Int32) (J B : Nat → Nat → Int64) (this : Nat) (n : Int32) (n2 : Int32) (hRT : RT L K R) (hI : IV T L K I) (hE : EV L K E) (hthis1 : this ∈ L) (hthis2 : K this = 0) : Met l yX11_round (.code yX11_round cX11_round 3 (some .int) :: TBg) ({ frames := 3, cells := 0, slots := 0, locals := 192 }) (va_Pc [.ref this, .int n, .int n2] (En G cy (WC cy L K R I J E B) sz)) (va_Qi (fun (r : Int32) (u : (Nat → Nat → Int32) × (Nat → Nat → Int64) × (Nat → Nat → Int32) × (Nat → Nat → Int64)) => IV T L K u.1 ∧ EV L K u.2.2.1 ∧ FI [(11, 1)] K I u.1 ∧ (True)) (fun u t => Ex G (va_A (WC cy L K R I J E B) sz) (WC cy L K R u.1 u.2.1 u.2.2.1 u.2.2.2) t) (va_A (WC cy L K R I J E B) sz)) 0 0 (va_A (WC cy L K R I J E B) sz) := by
  have hthis : this ∈ L ∧ K this = 0 := ⟨hthis1, hthis2⟩
  refine Met.ofW (cc := cX11_round) (maxL := 3) (ret := (some .int)) (by decide) rfl ?_
  intro p e s m args below meth c s₁ B9 hml hv9
  obtain ⟨rfl, hsz, hP, hK, hD0, hN⟩ := hv9
  have hx := B9.exec
  have hb := B9.bytes
  have hr := B9.returns
  have hts := atoms_spec (ws := .code yX11_round cX11_round 3 (some .int) :: TBg) B9.pre
  have ht : ∀ w ∈ TBg, w.before _ s = true := fun w h => hts w (List.mem_cons_of_mem _ h)
  have hown : s.vm.findClass RX11 = some m.cls := findClass_of_methodNamed B9.named
  have hlocks := B9.notSynchronized
  subst hsz
  have hD := hD0.self (sz := s.heap.size)
  generalize hAe : va_A (WC cy L K R I J E B) s.heap.size = A at hD ⊢
  have hA : ∀ q : Nat, s.heap.size ≤ q → A q := fun q h => by rw [← hAe]; exact Or.inr h
  have hS : va_S A s.heap s.heap [] := va_S.rf
  have hl := lv_entry ([.ref this, .int n, .int n2]) (n := 3) (Nat.le_of_ble_eq_true rfl)
  rw [lg_entry_eq]
  generalize (lg_sl ([.ref this, .int n, .int n2]) ++ List.replicate (3 - (lg_sl ([.ref this, .int n, .int n2])).length) Slot.unset).toArray = ls at hl ⊢
  have hl : lv_has ls 3 [(0, .ref this), (1, .int n), (2, .int n2)] := hl
  have z0 : (-1 : Int32).toInt = -1 := by decide
  have z1 : (0 : Int32).toInt = 0 := by decide
  have z2 : (1 : Int32).toInt = 1 := by decide
  have z3 : (99 : Int32).toInt = 99 := by decide
  have hC_0 : FI [(11, 1)] K I I := FI.rf
  refine lv_aload_n hx hb dX11_round_0 rfl (lv_at hl 0 rfl) ?_
  refine cg_0_2_11 hx hb ht hown hK hN hP hthis.1 hthis.2 dX11_round_1 ?_
  have hm_1 : (R this 2) ∈ L ∧ K (R this 2) = 1 := RT.o hRT hthis.1 hthis.2 2 (by decide)
  refine lv_iload_n hx hb dX11_round_4 rfl (lv_at hl 1 rfl) ?_
  have hFc := fr_new hS hA
  refine va_calli (va_runV (As := [.int n]) (rest := []) ⟨hx, hb, hml, hown, ht⟩ (c_hasTune l G cy _ L K R T I E J B (R this 2) n hRT hI hE hm_1.1 hm_1.2) (cwV 1 ht (gv k_523 k_524 k_525 k_461 k_522) rfl rfl rfl (by decide +kernel) ⟨Nat.le_of_ble_eq_true rfl, Nat.le_of_ble_eq_true rfl⟩) ⟨En.blind, cr_1 hK hP hm_1.1 hm_1.2, fun U hU hW => ⟨rfl, En.of hU hW hP hK hD hN⟩⟩ rfl rfl hl.1 rfl (lv_room (Nat.le_of_ble_eq_true rfl)) dX11_round_5 ⟨Nat.le_of_ble_eq_true rfl, Nat.le_of_ble_eq_true rfl⟩) hS (fun q _ h => hFc q h) hFc (fun r_u_2 u_2 t9 H locs ht9 hvm hw hB hz1 hk1 hS => ?_)
  have hP := fr_keep hP hk1
  have wu_2 := hw
  clear hFc hk1 hz1 hB hw
  refine lv_if_eq (tgt := 22) hx hb dX11_round_8 (by decide) (fun c_3 => ?_) (fun c_3 => ?_)
  · have q_4 : r_u_2.toInt = (0 : Int32).toInt := (ow_eq _ _).mp c_3
    refine lv_iconst (v := (-1)) hx hb dX11_round_22 (by decide) ?_
    refine W.widen (k := 0) (n := 0) (Nat.le_of_ble_eq_true rfl) (Nat.le_of_ble_eq_true rfl) ?_
    exact W.iret (v := (-1)) hx hb hr (fun t ht9 hW => ⟨⟨(-1), (I, J, E, B), rfl, ⟨hI, hE, hC_0, trivial⟩, ⟨by rw [ht9]; exact hP, hD⟩⟩, hS.F ht9⟩) hS.2.2 dX11_round_23
  · have q_5 : ¬ r_u_2.toInt = (0 : Int32).toInt := by have := (not_congr (ow_eq _ _)).mp c_3; omega
    refine lv_iload_n hx hb dX11_round_11 rfl (lv_at hl 2 rfl) ?_
    refine lv_iconst (v := 1) hx hb dX11_round_12 (by decide) ?_
    refine lv_icmp_lt (tgt := 22) hx hb dX11_round_13 (by decide) (fun c_6 => ?_) (fun c_6 => ?_)
    · have q_7 : n2.toInt < (1 : Int32).toInt := (ow_lt _ _).mp c_6
      refine lv_iconst (v := (-1)) hx hb dX11_round_22 (by decide) ?_
      refine W.widen (k := 0) (n := 0) (Nat.le_of_ble_eq_true rfl) (Nat.le_of_ble_eq_true rfl) ?_
      exact W.iret (v := (-1)) hx hb hr (fun t ht9 hW => ⟨⟨(-1), (I, J, E, B), rfl, ⟨hI, hE, hC_0, trivial⟩, ⟨by rw [ht9]; exact hP, hD⟩⟩, hS.F ht9⟩) hS.2.2 dX11_round_23
    · have q_8 : (1 : Int32).toInt ≤ n2.toInt := by have := (not_congr (ow_lt _ _)).mp c_6; omega
      refine lv_iload_n hx hb dX11_round_16 rfl (lv_at hl 2 rfl) ?_
      refine lv_bipush (v := 99) hx hb dX11_round_17 (by decide) ?_
      refine lv_icmp_le (tgt := 24) hx hb dX11_round_19 (by decide) (fun c_9 => ?_) (fun c_9 => ?_)
      · have q_10 : n2.toInt ≤ (99 : Int32).toInt := (ow_le _ _).mp c_9
        refine lv_aload_n hx hb dX11_round_24 rfl (lv_at hl 0 rfl) ?_
        refine cg_0_13_11 hx hb ht hown hK hN hP hthis.1 hthis.2 dX11_round_25 ?_
        have hm_11 : (R this 13) ∈ L ∧ K (R this 13) = 11 := RT.o hRT hthis.1 hthis.2 13 (by decide)
        refine lv_aload_n hx hb dX11_round_28 rfl (lv_at hl 0 rfl) ?_
        refine cg_0_2_11 hx hb ht hown hK hN hP hthis.1 hthis.2 dX11_round_29 ?_
        refine cg_1_0_11 hx hb ht hown hK hN hP hm_1.1 hm_1.2 dX11_round_32 ?_
        have hm_12 : (R (R this 2) 0) ∈ L ∧ K (R (R this 2) 0) = 29 := RT.o hRT hm_1.1 hm_1.2 0 (by decide)
        refine lv_iload_n hx hb dX11_round_35 rfl (lv_at hl 1 rfl) ?_
        have q_13 : vp_in n 14 := vp_in_iff.mpr ⟨by omega, by omega⟩
        refine cl_29 hx hb hK hP hm_12.1 hm_12.2 q_13 dX11_round_36 ?_
        have hm_14 : (R (R (R this 2) 0) (Int32.toNatClampNeg n)) ∈ L ∧ K (R (R (R this 2) 0) (Int32.toNatClampNeg n)) = 2 := RT.a hRT hm_12.1 hm_12.2 (by decide) q_13
        have hFc := fr_free hD hS hA
        refine va_callv (va_runV (As := [.ref (R (R (R this 2) 0) (Int32.toNatClampNeg n))]) (rest := []) ⟨hx, hb, hml, hown, ht⟩ (c_take l G cy _ L K R T I E J B (R this 13) (R (R (R this 2) 0) (Int32.toNatClampNeg n)) hRT hI hE hm_11.1 hm_11.2 hm_14.1 hm_14.2) (cwV 1 ht (gv k_545 k_546 k_547 k_504 k_544) rfl rfl rfl (by decide +kernel) ⟨Nat.le_of_ble_eq_true rfl, Nat.le_of_ble_eq_true rfl⟩) ⟨En.blind, cr_11 hK hP hm_11.1 hm_11.2, fun U hU hW => ⟨rfl, En.of hU hW hP hK hD hN⟩⟩ rfl rfl hl.1 rfl (lv_room (Nat.le_of_ble_eq_true rfl)) dX11_round_37 ⟨Nat.le_of_ble_eq_true rfl, Nat.le_of_ble_eq_true rfl⟩) hS (fun q _ h => hFc q h) hFc (fun u_15 t9 H locs ht9 hvm hw hB hz1 hk1 hS => ?_)
        obtain ⟨I15, J15, E15, B15⟩ := u_15
        obtain ⟨hP1, hD1⟩ := hB
        rw [ht9] at hP1
        clear hI hE
        obtain ⟨hI, hE, xu_15I, wu_15⟩ := hw
        dsimp only at hI hE xu_15I wu_15
        have hP : va_P G vwCl (WC cy L K R I15 J15 E15 B15) H := hP1
        have hD : va_D A (WC cy L K R I15 J15 E15 B15) := hD1.weaken (fun _ _ _ h => hFc _ h)
        clear hFc hk1 hz1 hP1 hD1
        replace hC_0 := FI.tr hC_0 xu_15I (by decide)
        refine lv_aload_n hx hb dX11_round_40 rfl (lv_at hl 0 rfl) ?_
        refine cg_0_13_11 hx hb ht hown hK hN hP hthis.1 hthis.2 dX11_round_41 ?_
        refine lv_iload_n hx hb dX11_round_44 rfl (lv_at hl 2 rfl) ?_
        refine lv_aload_n hx hb dX11_round_45 rfl (lv_at hl 0 rfl) ?_
        refine cg_0_2_11 hx hb ht hown hK hN hP hthis.1 hthis.2 dX11_round_46 ?_
        refine cg_1_8_11 hx hb ht hown hK hN hP hm_1.1 hm_1.2 dX11_round_49 ?_
        have hm_16 : (R (R this 2) 8) ∈ L ∧ K (R (R this 2) 8) = 33 := RT.o hRT hm_1.1 hm_1.2 8 (by decide)
        have hFc := fr_new hS hA
        refine va_calli (va_runV (As := [.int n2, .ref (R (R this 2) 8)]) (rest := []) ⟨hx, hb, hml, hown, ht⟩ (c_notSweet l G cy _ L K R T I15 E15 J15 B15 (R this 13) n2 (R (R this 2) 8) hRT hI hE hm_11.1 hm_11.2 hm_16.1 hm_16.2) (cwV 2 ht (gv k_548 k_502 k_503 k_504 k_500) rfl rfl rfl (by decide +kernel) ⟨Nat.le_of_ble_eq_true rfl, Nat.le_of_ble_eq_true rfl⟩) ⟨En.blind, cr_11 hK hP hm_11.1 hm_11.2, fun U hU hW => ⟨rfl, En.of hU hW hP hK hD hN⟩⟩ rfl rfl hl.1 rfl (lv_room (Nat.le_of_ble_eq_true rfl)) dX11_round_52 ⟨Nat.le_of_ble_eq_true rfl, Nat.le_of_ble_eq_true rfl⟩) hS (fun q _ h => hFc q h) hFc (fun r_u_17 u_17 t9 H locs ht9 hvm hw hB hz1 hk1 hS => ?_)
        have hP := fr_keep hP hk1
        have wu_17 := hw
        clear hFc hk1 hz1 hB hw
        refine W.widen (k := 0) (n := 0) (Nat.le_of_ble_eq_true rfl) (Nat.le_of_ble_eq_true rfl) ?_
        exact W.iret (v := r_u_17) hx hb hr (fun t ht9 hW => ⟨⟨r_u_17, (I15, J15, E15, B15), rfl, ⟨hI, hE, hC_0, trivial⟩, ⟨by rw [ht9]; exact hP, hD⟩⟩, hS.F ht9⟩) hS.2.2 dX11_round_55
      · have q_18 : (99 : Int32).toInt < n2.toInt := by have := (not_congr (ow_le _ _)).mp c_9; omega
        refine lv_iconst (v := (-1)) hx hb dX11_round_22 (by decide) ?_
        refine W.widen (k := 0) (n := 0) (Nat.le_of_ble_eq_true rfl) (Nat.le_of_ble_eq_true rfl) ?_
        exact W.iret (v := (-1)) hx hb hr (fun t ht9 hW => ⟨⟨(-1), (I, J, E, B), rfl, ⟨hI, hE, hC_0, trivial⟩, ⟨by rw [ht9]; exact hP, hD⟩⟩, hS.F ht9⟩) hS.2.2 dX11_round_23
set_option maxHeartbeats 4000000 in
set_option maxRecDepth 100000 in
theorem x_good (l : Launch) (G : va_G) (cy : Nat → ClassId) (sz : Nat) (L : List Nat) (K : Nat → Nat) (R : Nat → Nat → Nat) (T : Int) (I E : Nat → Nat → Int32) (J B : Nat → Nat → Int64) (this : Nat) (n : Int32) (n2 : Int32) (hRT : RT L K R) (hI : IV T L K I) (hE : EV L K E) (hthis1 : this ∈ L) (hthis2 : K this = 0) : Met l yX11_good (.code yX11_good cX11_good 4 (some .int) :: TBg) ({ frames := 4, cells := 0, slots := 0, locals := 256 }) (va_Pc [.ref this, .int n, .int n2] (En G cy (WC cy L K R I J E B) sz)) (va_Qi (fun (r : Int32) (u : (Nat → Nat → Int32) × (Nat → Nat → Int64) × (Nat → Nat → Int32) × (Nat → Nat → Int64)) => IV T L K u.1 ∧ EV L K u.2.2.1 ∧ FI [(11, 1)] K I u.1 ∧ (True)) (fun u t => Ex G (va_A (WC cy L K R I J E B) sz) (WC cy L K R u.1 u.2.1 u.2.2.1 u.2.2.2) t) (va_A (WC cy L K R I J E B) sz)) 0 0 (va_A (WC cy L K R I J E B) sz) := by
  have hthis : this ∈ L ∧ K this = 0 := ⟨hthis1, hthis2⟩
  refine Met.ofW (cc := cX11_good) (maxL := 4) (ret := (some .int)) (by decide) rfl ?_
  intro p e s m args below meth c s₁ B9 hml hv9
  obtain ⟨rfl, hsz, hP, hK, hD0, hN⟩ := hv9
  have hx := B9.exec
  have hb := B9.bytes
  have hr := B9.returns
  have hts := atoms_spec (ws := .code yX11_good cX11_good 4 (some .int) :: TBg) B9.pre
  have ht : ∀ w ∈ TBg, w.before _ s = true := fun w h => hts w (List.mem_cons_of_mem _ h)
  have hown : s.vm.findClass RX11 = some m.cls := findClass_of_methodNamed B9.named
  have hlocks := B9.notSynchronized
  subst hsz
  have hD := hD0.self (sz := s.heap.size)
  generalize hAe : va_A (WC cy L K R I J E B) s.heap.size = A at hD ⊢
  have hA : ∀ q : Nat, s.heap.size ≤ q → A q := fun q h => by rw [← hAe]; exact Or.inr h
  have hS : va_S A s.heap s.heap [] := va_S.rf
  have hl := lv_entry ([.ref this, .int n, .int n2]) (n := 4) (Nat.le_of_ble_eq_true rfl)
  rw [lg_entry_eq]
  generalize (lg_sl ([.ref this, .int n, .int n2]) ++ List.replicate (4 - (lg_sl ([.ref this, .int n, .int n2])).length) Slot.unset).toArray = ls at hl ⊢
  have hl : lv_has ls 4 [(0, .ref this), (1, .int n), (2, .int n2)] := hl
  have z0 : (-1 : Int32).toInt = -1 := by decide
  have z1 : (0 : Int32).toInt = 0 := by decide
  have z2 : (1 : Int32).toInt = 1 := by decide
  have hC_0 : FI [(11, 1)] K I I := FI.rf
  refine lv_aload_n hx hb dX11_good_0 rfl (lv_at hl 0 rfl) ?_
  refine cg_0_2_11 hx hb ht hown hK hN hP hthis.1 hthis.2 dX11_good_1 ?_
  have hm_1 : (R this 2) ∈ L ∧ K (R this 2) = 1 := RT.o hRT hthis.1 hthis.2 2 (by decide)
  refine lv_iload_n hx hb dX11_good_4 rfl (lv_at hl 1 rfl) ?_
  have hFc := fr_new hS hA
  refine va_calli (va_runV (As := [.int n]) (rest := []) ⟨hx, hb, hml, hown, ht⟩ (c_hasTune l G cy _ L K R T I E J B (R this 2) n hRT hI hE hm_1.1 hm_1.2) (cwV 1 ht (gv k_523 k_524 k_525 k_461 k_522) rfl rfl rfl (by decide +kernel) ⟨Nat.le_of_ble_eq_true rfl, Nat.le_of_ble_eq_true rfl⟩) ⟨En.blind, cr_1 hK hP hm_1.1 hm_1.2, fun U hU hW => ⟨rfl, En.of hU hW hP hK hD hN⟩⟩ rfl rfl hl.1 rfl (lv_room (Nat.le_of_ble_eq_true rfl)) dX11_good_5 ⟨Nat.le_of_ble_eq_true rfl, Nat.le_of_ble_eq_true rfl⟩) hS (fun q _ h => hFc q h) hFc (fun r_u_2 u_2 t9 H locs ht9 hvm hw hB hz1 hk1 hS => ?_)
  have hP := fr_keep hP hk1
  have wu_2 := hw
  clear hFc hk1 hz1 hB hw
  refine lv_if_eq (tgt := 20) hx hb dX11_good_8 (by decide) (fun c_3 => ?_) (fun c_3 => ?_)
  · have q_4 : r_u_2.toInt = (0 : Int32).toInt := (ow_eq _ _).mp c_3
    refine lv_iconst (v := (-1)) hx hb dX11_good_20 (by decide) ?_
    refine W.widen (k := 0) (n := 0) (Nat.le_of_ble_eq_true rfl) (Nat.le_of_ble_eq_true rfl) ?_
    exact W.iret (v := (-1)) hx hb hr (fun t ht9 hW => ⟨⟨(-1), (I, J, E, B), rfl, ⟨hI, hE, hC_0, trivial⟩, ⟨by rw [ht9]; exact hP, hD⟩⟩, hS.F ht9⟩) hS.2.2 dX11_good_21
  · have q_5 : ¬ r_u_2.toInt = (0 : Int32).toInt := by have := (not_congr (ow_eq _ _)).mp c_3; omega
    refine lv_iload_n hx hb dX11_good_11 rfl (lv_at hl 2 rfl) ?_
    refine lv_if_lt (tgt := 20) hx hb dX11_good_12 (by decide) (fun c_6 => ?_) (fun c_6 => ?_)
    · have q_7 : n2.toInt < (0 : Int32).toInt := (ow_lt _ _).mp c_6
      refine lv_iconst (v := (-1)) hx hb dX11_good_20 (by decide) ?_
      refine W.widen (k := 0) (n := 0) (Nat.le_of_ble_eq_true rfl) (Nat.le_of_ble_eq_true rfl) ?_
      exact W.iret (v := (-1)) hx hb hr (fun t ht9 hW => ⟨⟨(-1), (I, J, E, B), rfl, ⟨hI, hE, hC_0, trivial⟩, ⟨by rw [ht9]; exact hP, hD⟩⟩, hS.F ht9⟩) hS.2.2 dX11_good_21
    · have q_8 : (0 : Int32).toInt ≤ n2.toInt := by have := (not_congr (ow_lt _ _)).mp c_6; omega
      refine lv_iload_n hx hb dX11_good_15 rfl (lv_at hl 2 rfl) ?_
      refine lv_iconst (v := 1) hx hb dX11_good_16 (by decide) ?_
      refine lv_icmp_le (tgt := 22) hx hb dX11_good_17 (by decide) (fun c_9 => ?_) (fun c_9 => ?_)
      · have q_10 : n2.toInt ≤ (1 : Int32).toInt := (ow_le _ _).mp c_9
        refine lv_aload_n hx hb dX11_good_22 rfl (lv_at hl 0 rfl) ?_
        refine cg_0_13_11 hx hb ht hown hK hN hP hthis.1 hthis.2 dX11_good_23 ?_
        have hm_11 : (R this 13) ∈ L ∧ K (R this 13) = 11 := RT.o hRT hthis.1 hthis.2 13 (by decide)
        refine lv_aload_n hx hb dX11_good_26 rfl (lv_at hl 0 rfl) ?_
        refine cg_0_2_11 hx hb ht hown hK hN hP hthis.1 hthis.2 dX11_good_27 ?_
        refine cg_1_0_11 hx hb ht hown hK hN hP hm_1.1 hm_1.2 dX11_good_30 ?_
        have hm_12 : (R (R this 2) 0) ∈ L ∧ K (R (R this 2) 0) = 29 := RT.o hRT hm_1.1 hm_1.2 0 (by decide)
        refine lv_iload_n hx hb dX11_good_33 rfl (lv_at hl 1 rfl) ?_
        have q_13 : vp_in n 14 := vp_in_iff.mpr ⟨by omega, by omega⟩
        refine cl_29 hx hb hK hP hm_12.1 hm_12.2 q_13 dX11_good_34 ?_
        have hm_14 : (R (R (R this 2) 0) (Int32.toNatClampNeg n)) ∈ L ∧ K (R (R (R this 2) 0) (Int32.toNatClampNeg n)) = 2 := RT.a hRT hm_12.1 hm_12.2 (by decide) q_13
        have hFc := fr_free hD hS hA
        refine va_callv (va_runV (As := [.ref (R (R (R this 2) 0) (Int32.toNatClampNeg n))]) (rest := []) ⟨hx, hb, hml, hown, ht⟩ (c_take l G cy _ L K R T I E J B (R this 13) (R (R (R this 2) 0) (Int32.toNatClampNeg n)) hRT hI hE hm_11.1 hm_11.2 hm_14.1 hm_14.2) (cwV 1 ht (gv k_545 k_546 k_547 k_504 k_544) rfl rfl rfl (by decide +kernel) ⟨Nat.le_of_ble_eq_true rfl, Nat.le_of_ble_eq_true rfl⟩) ⟨En.blind, cr_11 hK hP hm_11.1 hm_11.2, fun U hU hW => ⟨rfl, En.of hU hW hP hK hD hN⟩⟩ rfl rfl hl.1 rfl (lv_room (Nat.le_of_ble_eq_true rfl)) dX11_good_35 ⟨Nat.le_of_ble_eq_true rfl, Nat.le_of_ble_eq_true rfl⟩) hS (fun q _ h => hFc q h) hFc (fun u_15 t9 H locs ht9 hvm hw hB hz1 hk1 hS => ?_)
        obtain ⟨I15, J15, E15, B15⟩ := u_15
        obtain ⟨hP1, hD1⟩ := hB
        rw [ht9] at hP1
        clear hI hE
        obtain ⟨hI, hE, xu_15I, wu_15⟩ := hw
        dsimp only at hI hE xu_15I wu_15
        have hP : va_P G vwCl (WC cy L K R I15 J15 E15 B15) H := hP1
        have hD : va_D A (WC cy L K R I15 J15 E15 B15) := hD1.weaken (fun _ _ _ h => hFc _ h)
        clear hFc hk1 hz1 hP1 hD1
        replace hC_0 := FI.tr hC_0 xu_15I (by decide)
        refine lv_aload_n hx hb dX11_good_38 rfl (lv_at hl 0 rfl) ?_
        refine cg_0_13_11 hx hb ht hown hK hN hP hthis.1 hthis.2 dX11_good_39 ?_
        refine lv_aload_n hx hb dX11_good_42 rfl (lv_at hl 0 rfl) ?_
        refine cg_0_2_11 hx hb ht hown hK hN hP hthis.1 hthis.2 dX11_good_43 ?_
        refine cg_1_8_11 hx hb ht hown hK hN hP hm_1.1 hm_1.2 dX11_good_46 ?_
        have hm_16 : (R (R this 2) 8) ∈ L ∧ K (R (R this 2) 8) = 33 := RT.o hRT hm_1.1 hm_1.2 8 (by decide)
        have hFc := fr_new hS hA
        refine va_calli (va_runV (As := [.ref (R (R this 2) 8)]) (rest := []) ⟨hx, hb, hml, hown, ht⟩ (c_bestLater l G cy _ L K R T I15 E15 J15 B15 (R this 13) (R (R this 2) 8) hRT hI hE hm_11.1 hm_11.2 hm_16.1 hm_16.2) (cwV 1 ht (gv k_550 k_551 k_552 k_504 k_549) rfl rfl rfl (by decide +kernel) ⟨Nat.le_of_ble_eq_true rfl, Nat.le_of_ble_eq_true rfl⟩) ⟨En.blind, cr_11 hK hP hm_11.1 hm_11.2, fun U hU hW => ⟨rfl, En.of hU hW hP hK hD hN⟩⟩ rfl rfl hl.1 rfl (lv_room (Nat.le_of_ble_eq_true rfl)) dX11_good_49 ⟨Nat.le_of_ble_eq_true rfl, Nat.le_of_ble_eq_true rfl⟩) hS (fun q _ h => hFc q h) hFc (fun r_u_17 u_17 t9 H locs ht9 hvm hw hB hz1 hk1 hS => ?_)
        have hP := fr_keep hP hk1
        have wu_17 := hw
        clear hFc hk1 hz1 hB hw
        refine lv_istore_n (lv' := [(3, .int r_u_17), (0, .ref this), (1, .int n), (2, .int n2)]) hx hb dX11_good_52 rfl hl (by decide) rfl (fun ls hl => ?_)
        refine lv_iload_n hx hb dX11_good_53 rfl (lv_at hl 0 rfl) ?_
        refine lv_iconst (v := (-1)) hx hb dX11_good_54 (by decide) ?_
        refine lv_icmp_eq (tgt := 62) hx hb dX11_good_55 (by decide) (fun c_18 => ?_) (fun c_18 => ?_)
        · have q_19 : r_u_17.toInt = ((-1) : Int32).toInt := (ow_eq _ _).mp c_18
          refine lv_iload_n hx hb dX11_good_62 rfl (lv_at hl 0 rfl) ?_
          refine W.widen (k := 0) (n := 0) (Nat.le_of_ble_eq_true rfl) (Nat.le_of_ble_eq_true rfl) ?_
          exact W.iret (v := r_u_17) hx hb hr (fun t ht9 hW => ⟨⟨r_u_17, (I15, J15, E15, B15), rfl, ⟨hI, hE, hC_0, trivial⟩, ⟨by rw [ht9]; exact hP, hD⟩⟩, hS.F ht9⟩) hS.2.2 dX11_good_63
        · have q_20 : ¬ r_u_17.toInt = ((-1) : Int32).toInt := by have := (not_congr (ow_eq _ _)).mp c_18; omega
          refine lv_iload_n hx hb dX11_good_58 rfl (lv_at hl 3 rfl) ?_
          refine lv_if_ne (tgt := 64) hx hb dX11_good_59 (by decide) (fun c_21 => ?_) (fun c_21 => ?_)
          · have q_22 : ¬ n2.toInt = (0 : Int32).toInt := by have := (not_congr (ow_eq _ _)).mp c_21; omega
            refine lv_aload_n hx hb dX11_good_64 rfl (lv_at hl 1 rfl) ?_
            refine cg_0_13_11 hx hb ht hown hK hN hP hthis.1 hthis.2 dX11_good_65 ?_
            refine lv_iload_n hx hb dX11_good_68 rfl (lv_at hl 0 rfl) ?_
            refine lv_aload_n hx hb dX11_good_69 rfl (lv_at hl 1 rfl) ?_
            refine cg_0_2_11 hx hb ht hown hK hN hP hthis.1 hthis.2 dX11_good_70 ?_
            refine cg_1_8_11 hx hb ht hown hK hN hP hm_1.1 hm_1.2 dX11_good_73 ?_
            have hFc := fr_new hS hA
            refine va_calli (va_runV (As := [.int r_u_17, .ref (R (R this 2) 8)]) (rest := []) ⟨hx, hb, hml, hown, ht⟩ (c_notSweet l G cy _ L K R T I15 E15 J15 B15 (R this 13) r_u_17 (R (R this 2) 8) hRT hI hE hm_11.1 hm_11.2 hm_16.1 hm_16.2) (cwV 2 ht (gv k_548 k_502 k_503 k_504 k_500) rfl rfl rfl (by decide +kernel) ⟨Nat.le_of_ble_eq_true rfl, Nat.le_of_ble_eq_true rfl⟩) ⟨En.blind, cr_11 hK hP hm_11.1 hm_11.2, fun U hU hW => ⟨rfl, En.of hU hW hP hK hD hN⟩⟩ rfl rfl hl.1 rfl (lv_room (Nat.le_of_ble_eq_true rfl)) dX11_good_76 ⟨Nat.le_of_ble_eq_true rfl, Nat.le_of_ble_eq_true rfl⟩) hS (fun q _ h => hFc q h) hFc (fun r_u_23 u_23 t9 H locs ht9 hvm hw hB hz1 hk1 hS => ?_)
            have hP := fr_keep hP hk1
            have wu_23 := hw
            clear hFc hk1 hz1 hB hw
            refine W.widen (k := 0) (n := 0) (Nat.le_of_ble_eq_true rfl) (Nat.le_of_ble_eq_true rfl) ?_
            exact W.iret (v := r_u_23) hx hb hr (fun t ht9 hW => ⟨⟨r_u_23, (I15, J15, E15, B15), rfl, ⟨hI, hE, hC_0, trivial⟩, ⟨by rw [ht9]; exact hP, hD⟩⟩, hS.F ht9⟩) hS.2.2 dX11_good_79
          · have q_24 : n2.toInt = (0 : Int32).toInt := (ow_eq _ _).mp c_21
            refine lv_iload_n hx hb dX11_good_62 rfl (lv_at hl 0 rfl) ?_
            refine W.widen (k := 0) (n := 0) (Nat.le_of_ble_eq_true rfl) (Nat.le_of_ble_eq_true rfl) ?_
            exact W.iret (v := r_u_17) hx hb hr (fun t ht9 hW => ⟨⟨r_u_17, (I15, J15, E15, B15), rfl, ⟨hI, hE, hC_0, trivial⟩, ⟨by rw [ht9]; exact hP, hD⟩⟩, hS.F ht9⟩) hS.2.2 dX11_good_63
      · have q_25 : (1 : Int32).toInt < n2.toInt := by have := (not_congr (ow_le _ _)).mp c_9; omega
        refine lv_iconst (v := (-1)) hx hb dX11_good_20 (by decide) ?_
        refine W.widen (k := 0) (n := 0) (Nat.le_of_ble_eq_true rfl) (Nat.le_of_ble_eq_true rfl) ?_
        exact W.iret (v := (-1)) hx hb hr (fun t ht9 hW => ⟨⟨(-1), (I, J, E, B), rfl, ⟨hI, hE, hC_0, trivial⟩, ⟨by rw [ht9]; exact hP, hD⟩⟩, hS.F ht9⟩) hS.2.2 dX11_good_21
set_option maxHeartbeats 4000000 in
set_option maxRecDepth 100000 in
theorem x_deaf (l : Launch) (G : va_G) (cy : Nat → ClassId) (sz : Nat) (L : List Nat) (K : Nat → Nat) (R : Nat → Nat → Nat) (T : Int) (I E : Nat → Nat → Int32) (J B : Nat → Nat → Int64) (this : Nat) (n : Int32) (n2 : Int32) (n3 : Int32) (hRT : RT L K R) (hI : IV T L K I) (hE : EV L K E) (hthis1 : this ∈ L) (hthis2 : K this = 0) : Met l yX11_deaf (.code yX11_deaf cX11_deaf 8 (some .int) :: TBg) ({ frames := 3, cells := 0, slots := 0, locals := 192 }) (va_Pc [.ref this, .int n, .int n2, .int n3] (En G cy (WC cy L K R I J E B) sz)) (va_Qi (fun (r : Int32) (_ : Unit) => True) (fun _ _ => True) (va_A [] sz)) 0 0 (va_A [] sz) := by
  have hthis : this ∈ L ∧ K this = 0 := ⟨hthis1, hthis2⟩
  refine Met.ofW (cc := cX11_deaf) (maxL := 8) (ret := (some .int)) (by decide) rfl ?_
  intro p e s m args below meth c s₁ B9 hml hv9
  obtain ⟨rfl, hsz, hP, hK, hD0, hN⟩ := hv9
  have hx := B9.exec
  have hb := B9.bytes
  have hr := B9.returns
  have hts := atoms_spec (ws := .code yX11_deaf cX11_deaf 8 (some .int) :: TBg) B9.pre
  have ht : ∀ w ∈ TBg, w.before _ s = true := fun w h => hts w (List.mem_cons_of_mem _ h)
  have hown : s.vm.findClass RX11 = some m.cls := findClass_of_methodNamed B9.named
  have hlocks := B9.notSynchronized
  subst hsz
  generalize hAe : va_A [] s.heap.size = A at ⊢
  have hA : ∀ q : Nat, s.heap.size ≤ q → A q := fun q h => by rw [← hAe]; exact Or.inr h
  have hS : va_S A s.heap s.heap [] := va_S.rf
  have hl := lv_entry ([.ref this, .int n, .int n2, .int n3]) (n := 8) (Nat.le_of_ble_eq_true rfl)
  rw [lg_entry_eq]
  generalize (lg_sl ([.ref this, .int n, .int n2, .int n3]) ++ List.replicate (8 - (lg_sl ([.ref this, .int n, .int n2, .int n3])).length) Slot.unset).toArray = ls at hl ⊢
  have hl : lv_has ls 8 [(0, .ref this), (1, .int n), (2, .int n2), (3, .int n3)] := hl
  have z0 : (-1 : Int32).toInt = -1 := by decide
  have z1 : (0 : Int32).toInt = 0 := by decide
  have z2 : (1 : Int32).toInt = 1 := by decide
  have z3 : (12 : Int32).toInt = 12 := by decide
  refine lv_aload_n hx hb dX11_deaf_0 rfl (lv_at hl 0 rfl) ?_
  refine cg_0_2_11 hx hb ht hown hK hN hP hthis.1 hthis.2 dX11_deaf_1 ?_
  have hm_1 : (R this 2) ∈ L ∧ K (R this 2) = 1 := RT.o hRT hthis.1 hthis.2 2 (by decide)
  refine lv_iload_n hx hb dX11_deaf_4 rfl (lv_at hl 1 rfl) ?_
  have hFc := fr_new hS hA
  refine va_calli (va_runV (As := [.int n]) (rest := []) ⟨hx, hb, hml, hown, ht⟩ (c_hasTune l G cy _ L K R T I E J B (R this 2) n hRT hI hE hm_1.1 hm_1.2) (cwV 1 ht (gv k_523 k_524 k_525 k_461 k_522) rfl rfl rfl (by decide +kernel) ⟨Nat.le_of_ble_eq_true rfl, Nat.le_of_ble_eq_true rfl⟩) ⟨En.blind, cr_1 hK hP hm_1.1 hm_1.2, fun U hU hW => ⟨rfl, En.of hU hW hP hK hD0 hN⟩⟩ rfl rfl hl.1 rfl (lv_room (Nat.le_of_ble_eq_true rfl)) dX11_deaf_5 ⟨Nat.le_of_ble_eq_true rfl, Nat.le_of_ble_eq_true rfl⟩) hS (fun q _ h => hFc q h) hFc (fun r_u_2 u_2 t9 H locs ht9 hvm hw hB hz1 hk1 hS => ?_)
  have hP := fr_keep hP hk1
  have wu_2 := hw
  clear hFc hk1 hz1 hB hw
  refine lv_if_eq (tgt := 32) hx hb dX11_deaf_8 (by decide) (fun c_3 => ?_) (fun c_3 => ?_)
  · have q_4 : r_u_2.toInt = (0 : Int32).toInt := (ow_eq _ _).mp c_3
    refine lv_iconst (v := (-1)) hx hb dX11_deaf_32 (by decide) ?_
    refine W.widen (k := 0) (n := 0) (Nat.le_of_ble_eq_true rfl) (Nat.le_of_ble_eq_true rfl) ?_
    exact W.iret (v := (-1)) hx hb hr (fun t ht9 hW => ⟨⟨(-1), (), rfl, trivial, trivial⟩, hS.F ht9⟩) hS.2.2 dX11_deaf_33
  · have q_5 : ¬ r_u_2.toInt = (0 : Int32).toInt := by have := (not_congr (ow_eq _ _)).mp c_3; omega
    refine lv_aload_n hx hb dX11_deaf_11 rfl (lv_at hl 0 rfl) ?_
    refine cg_0_2_11 hx hb ht hown hK hN hP hthis.1 hthis.2 dX11_deaf_12 ?_
    refine lv_iload_n hx hb dX11_deaf_15 rfl (lv_at hl 2 rfl) ?_
    have hFc := fr_new hS hA
    refine va_calli (va_runV (As := [.int n2]) (rest := []) ⟨hx, hb, hml, hown, ht⟩ (c_hasTune l G cy _ L K R T I E J B (R this 2) n2 hRT hI hE hm_1.1 hm_1.2) (cwV 1 ht (gv k_523 k_524 k_525 k_461 k_522) rfl rfl rfl (by decide +kernel) ⟨Nat.le_of_ble_eq_true rfl, Nat.le_of_ble_eq_true rfl⟩) ⟨En.blind, cr_1 hK hP hm_1.1 hm_1.2, fun U hU hW => ⟨rfl, En.of hU hW hP hK hD0 hN⟩⟩ rfl rfl hl.1 rfl (lv_room (Nat.le_of_ble_eq_true rfl)) dX11_deaf_16 ⟨Nat.le_of_ble_eq_true rfl, Nat.le_of_ble_eq_true rfl⟩) hS (fun q _ h => hFc q h) hFc (fun r_u_6 u_6 t9 H locs ht9 hvm hw hB hz1 hk1 hS => ?_)
    have hP := fr_keep hP hk1
    have wu_6 := hw
    clear hFc hk1 hz1 hB hw
    refine lv_if_eq (tgt := 32) hx hb dX11_deaf_19 (by decide) (fun c_7 => ?_) (fun c_7 => ?_)
    · have q_8 : r_u_6.toInt = (0 : Int32).toInt := (ow_eq _ _).mp c_7
      refine lv_iconst (v := (-1)) hx hb dX11_deaf_32 (by decide) ?_
      refine W.widen (k := 0) (n := 0) (Nat.le_of_ble_eq_true rfl) (Nat.le_of_ble_eq_true rfl) ?_
      exact W.iret (v := (-1)) hx hb hr (fun t ht9 hW => ⟨⟨(-1), (), rfl, trivial, trivial⟩, hS.F ht9⟩) hS.2.2 dX11_deaf_33
    · have q_9 : ¬ r_u_6.toInt = (0 : Int32).toInt := by have := (not_congr (ow_eq _ _)).mp c_7; omega
      refine lv_iload_n hx hb dX11_deaf_22 rfl (lv_at hl 3 rfl) ?_
      refine lv_if_lt (tgt := 32) hx hb dX11_deaf_23 (by decide) (fun c_10 => ?_) (fun c_10 => ?_)
      · have q_11 : n3.toInt < (0 : Int32).toInt := (ow_lt _ _).mp c_10
        refine lv_iconst (v := (-1)) hx hb dX11_deaf_32 (by decide) ?_
        refine W.widen (k := 0) (n := 0) (Nat.le_of_ble_eq_true rfl) (Nat.le_of_ble_eq_true rfl) ?_
        exact W.iret (v := (-1)) hx hb hr (fun t ht9 hW => ⟨⟨(-1), (), rfl, trivial, trivial⟩, hS.F ht9⟩) hS.2.2 dX11_deaf_33
      · have q_12 : (0 : Int32).toInt ≤ n3.toInt := by have := (not_congr (ow_lt _ _)).mp c_10; omega
        refine lv_iload_n hx hb dX11_deaf_26 rfl (lv_at hl 3 rfl) ?_
        refine lv_bipush (v := 12) hx hb dX11_deaf_27 (by decide) ?_
        refine lv_icmp_lt (tgt := 34) hx hb dX11_deaf_29 (by decide) (fun c_13 => ?_) (fun c_13 => ?_)
        · have q_14 : n3.toInt < (12 : Int32).toInt := (ow_lt _ _).mp c_13
          refine lv_iconst (v := (-1)) hx hb dX11_deaf_34 (by decide) ?_
          refine lv_istore (lv' := [(4, .int (-1)), (0, .ref this), (1, .int n), (2, .int n2), (3, .int n3)]) hx hb dX11_deaf_35 hl (by decide) rfl (fun ls hl => ?_)
          refine lv_aload_n hx hb dX11_deaf_37 rfl (lv_at hl 1 rfl) ?_
          refine cg_0_2_11 hx hb ht hown hK hN hP hthis.1 hthis.2 dX11_deaf_38 ?_
          refine cg_1_0_11 hx hb ht hown hK hN hP hm_1.1 hm_1.2 dX11_deaf_41 ?_
          have hm_15 : (R (R this 2) 0) ∈ L ∧ K (R (R this 2) 0) = 29 := RT.o hRT hm_1.1 hm_1.2 0 (by decide)
          refine lv_iload_n hx hb dX11_deaf_44 rfl (lv_at hl 3 rfl) ?_
          have q_16 : vp_in n2 14 := vp_in_iff.mpr ⟨by omega, by omega⟩
          refine cl_29 hx hb hK hP hm_15.1 hm_15.2 q_16 dX11_deaf_45 ?_
          have hm_17 : (R (R (R this 2) 0) (Int32.toNatClampNeg n2)) ∈ L ∧ K (R (R (R this 2) 0) (Int32.toNatClampNeg n2)) = 2 := RT.a hRT hm_15.1 hm_15.2 (by decide) q_16
          refine cg_2_2_11 hx hb ht hown hK hN hP hm_17.1 hm_17.2 dX11_deaf_46 ?_
          have q_18 : 0 ≤ (I (R (R (R this 2) 0) (Int32.toNatClampNeg n2)) 2).toInt ∧ (I (R (R (R this 2) 0) (Int32.toNatClampNeg n2)) 2).toInt ≤ 12 := IV.rd hI hm_17.1 hm_17.2 2
          refine lv_aload_n hx hb dX11_deaf_49 rfl (lv_at hl 1 rfl) ?_
          refine cg_0_2_11 hx hb ht hown hK hN hP hthis.1 hthis.2 dX11_deaf_50 ?_
          refine cg_1_0_11 hx hb ht hown hK hN hP hm_1.1 hm_1.2 dX11_deaf_53 ?_
          refine lv_iload_n hx hb dX11_deaf_56 rfl (lv_at hl 2 rfl) ?_
          have q_19 : vp_in n 14 := vp_in_iff.mpr ⟨by omega, by omega⟩
          refine cl_29 hx hb hK hP hm_15.1 hm_15.2 q_19 dX11_deaf_57 ?_
          have hm_20 : (R (R (R this 2) 0) (Int32.toNatClampNeg n)) ∈ L ∧ K (R (R (R this 2) 0) (Int32.toNatClampNeg n)) = 2 := RT.a hRT hm_15.1 hm_15.2 (by decide) q_19
          refine cg_2_2_11 hx hb ht hown hK hN hP hm_20.1 hm_20.2 dX11_deaf_58 ?_
          have q_21 : 0 ≤ (I (R (R (R this 2) 0) (Int32.toNatClampNeg n)) 2).toInt ∧ (I (R (R (R this 2) 0) (Int32.toNatClampNeg n)) 2).toInt ≤ 12 := IV.rd hI hm_20.1 hm_20.2 2
          refine lv_isub hx hb dX11_deaf_61 ?_
          refine lv_topi (fun v_22 ev_22 => ?_)
          have q_23 : v_22.toInt = (I (R (R (R this 2) 0) (Int32.toNatClampNeg n2)) 2).toInt - (I (R (R (R this 2) 0) (Int32.toNatClampNeg n)) 2).toInt := ow_sub ev_22 (by omega) (by omega)
          refine lv_iconst (v := 1) hx hb dX11_deaf_62 (by decide) ?_
          refine lv_iadd hx hb dX11_deaf_63 ?_
          refine lv_topi (fun v_24 ev_24 => ?_)
          have q_25 : v_24.toInt = v_22.toInt + (1 : Int32).toInt := ow_add ev_24 (by omega) (by omega)
          refine lv_istore (lv' := [(5, .int v_24), (4, .int (-1)), (0, .ref this), (1, .int n), (2, .int n2), (3, .int n3)]) hx hb dX11_deaf_64 hl (by decide) rfl (fun ls hl => ?_)
          refine lv_iconst (v := 0) hx hb dX11_deaf_66 (by decide) ?_
          refine lv_istore (lv' := [(6, .int 0), (5, .int v_24), (4, .int (-1)), (0, .ref this), (1, .int n), (2, .int n2), (3, .int n3)]) hx hb dX11_deaf_67 hl (by decide) rfl (fun ls hl => ?_)
          refine W.widen (k := 0) (n := 0) (Nat.le_of_ble_eq_true rfl) (Nat.le_of_ble_eq_true rfl) ?_
          have lp_26 : ∀ (N_26 : Nat) (x6_26 : Int32) (x4_26 : Int32) (H : Heap) (locs : List Loc) (ls : Array Slot), (0 ≤ x6_26.toInt ∧ x6_26.toInt ≤ 41) → (41 - x6_26.toInt).toNat < N_26 → va_P G vwCl (WC cy L K R I J E B) H → va_S A s.heap H locs → lv_has ls 8 [(6, .int x6_26), (5, .int v_24), (4, .int x4_26), (0, .ref this), (1, .int n), (2, .int n2), (3, .int n3)] → W p l e (headSpec (.code yX11_deaf cX11_deaf 8 (some .int) :: TBg) ({ frames := 3, cells := 0, slots := 0, locals := 192 })).room s m ([.ref this, .int n, .int n2, .int n3] : List Value).toArray below meth c H locs 0 0 (MQ below (va_Qi (fun (r : Int32) (_ : Unit) => True) (fun _ _ => True) A) ([.ref this, .int n, .int n2, .int n3] : List Value).toArray s 0 0 A) (F0 m 69 ls []) := by
            intro N_26
            induction N_26 with
            | zero => intro x6_26 x4_26 H locs ls qf26_0 hm9 hP hS hl; exact absurd hm9 (Nat.not_lt_zero _)
            | succ N_26 ih_26 =>
              intro x6_26 x4_26 H locs ls qf26_0 hm9 hP hS hl
              refine lv_iload hx hb dX11_deaf_69 (lv_at hl 0 rfl) ?_
              refine lv_iload hx hb dX11_deaf_71 (lv_at hl 1 rfl) ?_
              refine lv_icmp_ge (tgt := 125) hx hb dX11_deaf_73 (by decide) (fun c_27 => ?_) (fun c_27 => ?_)
              · have q_28 : v_24.toInt ≤ x6_26.toInt := (ow_le _ _).mp c_27
                refine lv_iload hx hb dX11_deaf_125 (lv_at hl 2 rfl) ?_
                refine W.widen (k := 0) (n := 0) (Nat.le_of_ble_eq_true rfl) (Nat.le_of_ble_eq_true rfl) ?_
                exact W.iret (v := x4_26) hx hb hr (fun t ht9 hW => ⟨⟨x4_26, (), rfl, trivial, trivial⟩, hS.F ht9⟩) hS.2.2 dX11_deaf_127
              · have q_29 : x6_26.toInt < v_24.toInt := by have := (not_congr (ow_le _ _)).mp c_27; omega
                refine lv_aload_n hx hb dX11_deaf_76 rfl (lv_at hl 3 rfl) ?_
                refine cg_0_2_11 hx hb ht hown hK hN hP hthis.1 hthis.2 dX11_deaf_77 ?_
                refine cg_1_0_11 hx hb ht hown hK hN hP hm_1.1 hm_1.2 dX11_deaf_80 ?_
                refine lv_iload_n hx hb dX11_deaf_83 rfl (lv_at hl 4 rfl) ?_
                have q_30 : vp_in n 14 := vp_in_iff.mpr ⟨by omega, by omega⟩
                refine cl_29 hx hb hK hP hm_15.1 hm_15.2 q_30 dX11_deaf_84 ?_
                have hm_31 : (R (R (R this 2) 0) (Int32.toNatClampNeg n)) ∈ L ∧ K (R (R (R this 2) 0) (Int32.toNatClampNeg n)) = 2 := RT.a hRT hm_15.1 hm_15.2 (by decide) q_30
                refine lv_aload_n hx hb dX11_deaf_85 rfl (lv_at hl 3 rfl) ?_
                refine cg_0_2_11 hx hb ht hown hK hN hP hthis.1 hthis.2 dX11_deaf_86 ?_
                refine cg_1_0_11 hx hb ht hown hK hN hP hm_1.1 hm_1.2 dX11_deaf_89 ?_
                refine lv_iload_n hx hb dX11_deaf_92 rfl (lv_at hl 5 rfl) ?_
                have q_32 : vp_in n2 14 := vp_in_iff.mpr ⟨by omega, by omega⟩
                refine cl_29 hx hb hK hP hm_15.1 hm_15.2 q_32 dX11_deaf_93 ?_
                have hm_33 : (R (R (R this 2) 0) (Int32.toNatClampNeg n2)) ∈ L ∧ K (R (R (R this 2) 0) (Int32.toNatClampNeg n2)) = 2 := RT.a hRT hm_15.1 hm_15.2 (by decide) q_32
                refine lv_iload hx hb dX11_deaf_94 (lv_at hl 0 rfl) ?_
                refine lv_iload_n hx hb dX11_deaf_96 rfl (lv_at hl 6 rfl) ?_
                have hFc := fr_new hS hA
                refine va_calli (va_runV (As := [.ref (R (R (R this 2) 0) (Int32.toNatClampNeg n2)), .int x6_26, .int n3]) (rest := []) ⟨hx, hb, hml, hown, ht⟩ (c_deafAt l G cy _ L K R T I E J B (R (R (R this 2) 0) (Int32.toNatClampNeg n)) (R (R (R this 2) 0) (Int32.toNatClampNeg n2)) x6_26 n3 hRT hI hE hm_31.1 hm_31.2 hm_33.1 hm_33.2) (cwV 3 ht (gv k_554 k_555 k_556 k_399 k_553) rfl rfl rfl (by decide +kernel) ⟨Nat.le_of_ble_eq_true rfl, Nat.le_of_ble_eq_true rfl⟩) ⟨En.blind, cr_2 hK hP hm_31.1 hm_31.2, fun U hU hW => ⟨rfl, En.of hU hW hP hK hD0 hN⟩⟩ rfl rfl hl.1 rfl (lv_room (Nat.le_of_ble_eq_true rfl)) dX11_deaf_97 ⟨Nat.le_of_ble_eq_true rfl, Nat.le_of_ble_eq_true rfl⟩) hS (fun q _ h => hFc q h) hFc (fun r_u_34 u_34 t9 H locs ht9 hvm hw hB hz1 hk1 hS => ?_)
                have hP := fr_keep hP hk1
                have wu_34 := hw
                clear hFc hk1 hz1 hB hw
                refine lv_istore (lv' := [(7, .int r_u_34), (6, .int x6_26), (5, .int v_24), (4, .int x4_26), (0, .ref this), (1, .int n), (2, .int n2), (3, .int n3)]) hx hb dX11_deaf_100 hl (by decide) rfl (fun ls hl => ?_)
                refine lv_iload hx hb dX11_deaf_102 (lv_at hl 3 rfl) ?_
                refine lv_iconst (v := (-1)) hx hb dX11_deaf_104 (by decide) ?_
                refine lv_icmp_eq (tgt := 115) hx hb dX11_deaf_105 (by decide) (fun c_35 => ?_) (fun c_35 => ?_)
                · have q_36 : x4_26.toInt = ((-1) : Int32).toInt := (ow_eq _ _).mp c_35
                  refine lv_iload hx hb dX11_deaf_115 (lv_at hl 0 rfl) ?_
                  refine lv_istore (lv' := [(4, .int r_u_34), (7, .int r_u_34), (6, .int x6_26), (5, .int v_24), (0, .ref this), (1, .int n), (2, .int n2), (3, .int n3)]) hx hb dX11_deaf_117 hl (by decide) rfl (fun ls hl => ?_)
                  obtain ⟨v_37, ev_37⟩ : ∃ y : Int32, y = x6_26 + 1 := ⟨_, rfl⟩
                  refine lv_iinc (v := v_37) (lv' := [(6, .int v_37), (4, .int r_u_34), (7, .int r_u_34), (5, .int v_24), (0, .ref this), (1, .int n), (2, .int n2), (3, .int n3)]) hx hb dX11_deaf_119 hl (k := 2) rfl (by rw [ev_37]; rfl) (by decide) rfl (fun ls hl => ?_)
                  have q_38 : v_37.toInt = x6_26.toInt + 1 := by have := ow_add ev_37 (by omega) (by omega); omega
                  refine lv_goto (tgt := 69) hx hb dX11_deaf_122 (by decide) ?_
                  refine W.widen (k := 0) (n := 0) (Nat.le_of_ble_eq_true rfl) (Nat.le_of_ble_eq_true rfl) ?_
                  exact ih_26 v_37 r_u_34 _ _ _ (by omega) (by omega) hP hS (lv_sub hl [0, 3, 1, 4, 5, 6, 7] rfl)
                · have q_39 : ¬ x4_26.toInt = ((-1) : Int32).toInt := by have := (not_congr (ow_eq _ _)).mp c_35; omega
                  refine lv_iload hx hb dX11_deaf_108 (lv_at hl 0 rfl) ?_
                  refine lv_iload hx hb dX11_deaf_110 (lv_at hl 3 rfl) ?_
                  refine lv_icmp_ge (tgt := 119) hx hb dX11_deaf_112 (by decide) (fun c_40 => ?_) (fun c_40 => ?_)
                  · have q_41 : x4_26.toInt ≤ r_u_34.toInt := (ow_le _ _).mp c_40
                    obtain ⟨v_42, ev_42⟩ : ∃ y : Int32, y = x6_26 + 1 := ⟨_, rfl⟩
                    refine lv_iinc (v := v_42) (lv' := [(6, .int v_42), (7, .int r_u_34), (5, .int v_24), (4, .int x4_26), (0, .ref this), (1, .int n), (2, .int n2), (3, .int n3)]) hx hb dX11_deaf_119 hl (k := 1) rfl (by rw [ev_42]; rfl) (by decide) rfl (fun ls hl => ?_)
                    have q_43 : v_42.toInt = x6_26.toInt + 1 := by have := ow_add ev_42 (by omega) (by omega); omega
                    refine lv_goto (tgt := 69) hx hb dX11_deaf_122 (by decide) ?_
                    refine W.widen (k := 0) (n := 0) (Nat.le_of_ble_eq_true rfl) (Nat.le_of_ble_eq_true rfl) ?_
                    exact ih_26 v_42 x4_26 _ _ _ (by omega) (by omega) hP hS (lv_sub hl [0, 2, 3, 4, 5, 6, 7] rfl)
                  · have q_44 : r_u_34.toInt < x4_26.toInt := by have := (not_congr (ow_le _ _)).mp c_40; omega
                    refine lv_iload hx hb dX11_deaf_115 (lv_at hl 0 rfl) ?_
                    refine lv_istore (lv' := [(4, .int r_u_34), (7, .int r_u_34), (6, .int x6_26), (5, .int v_24), (0, .ref this), (1, .int n), (2, .int n2), (3, .int n3)]) hx hb dX11_deaf_117 hl (by decide) rfl (fun ls hl => ?_)
                    obtain ⟨v_45, ev_45⟩ : ∃ y : Int32, y = x6_26 + 1 := ⟨_, rfl⟩
                    refine lv_iinc (v := v_45) (lv' := [(6, .int v_45), (4, .int r_u_34), (7, .int r_u_34), (5, .int v_24), (0, .ref this), (1, .int n), (2, .int n2), (3, .int n3)]) hx hb dX11_deaf_119 hl (k := 2) rfl (by rw [ev_45]; rfl) (by decide) rfl (fun ls hl => ?_)
                    have q_46 : v_45.toInt = x6_26.toInt + 1 := by have := ow_add ev_45 (by omega) (by omega); omega
                    refine lv_goto (tgt := 69) hx hb dX11_deaf_122 (by decide) ?_
                    refine W.widen (k := 0) (n := 0) (Nat.le_of_ble_eq_true rfl) (Nat.le_of_ble_eq_true rfl) ?_
                    exact ih_26 v_45 r_u_34 _ _ _ (by omega) (by omega) hP hS (lv_sub hl [0, 3, 1, 4, 5, 6, 7] rfl)
          exact lp_26 _ (0) ((-1)) _ _ _ (by omega) (Nat.lt_succ_self _) hP hS (lv_sub hl [0, 1, 2, 3, 4, 5, 6] rfl)
        · have q_47 : (12 : Int32).toInt ≤ n3.toInt := by have := (not_congr (ow_lt _ _)).mp c_13; omega
          refine lv_iconst (v := (-1)) hx hb dX11_deaf_32 (by decide) ?_
          refine W.widen (k := 0) (n := 0) (Nat.le_of_ble_eq_true rfl) (Nat.le_of_ble_eq_true rfl) ?_
          exact W.iret (v := (-1)) hx hb hr (fun t ht9 hW => ⟨⟨(-1), (), rfl, trivial, trivial⟩, hS.F ht9⟩) hS.2.2 dX11_deaf_33
