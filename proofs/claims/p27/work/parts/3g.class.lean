theorem k_597 : (Cond.fieldLink RJ0 1053 "jdk/internal/util/Preconditions" "SIOOBE_FORMATTER" "Ljava/util/function/BiFunction;") ∈ TBg := tb_mem 561 (by decide +kernel) (by decide +kernel)
theorem k_598 : (Cond.code yJ3_checkIndex_8e157 cJ3_checkIndex_8e157 3 (some .int)) ∈ TBg := tb_mem 565 (by decide +kernel) (by decide +kernel)
theorem k_599 : (Cond.methodLink RJ0 1059 yJ3_checkIndex_8e157) ∈ TBg := tb_mem 563 (by decide +kernel) (by decide +kernel)
theorem k_600 : (Cond.static yJ3_checkIndex_8e157) ∈ TBg := tb_mem 564 (by decide +kernel) (by decide +kernel)
theorem k_601 : (Cond.initialized RJ3) ∈ TBg := tb_mem 100 (by decide +kernel) (by decide +kernel)
theorem k_602 : (Cond.code yJ0_checkIndex_df160 cJ0_checkIndex_df160 2 none) ∈ TBg := tb_mem 560 (by decide +kernel) (by decide +kernel)
theorem k_603 : (Cond.methodLink RJ1 9 yJ0_checkIndex_df160) ∈ TBg := tb_mem 558 (by decide +kernel) (by decide +kernel)
theorem k_604 : (Cond.static yJ0_checkIndex_df160) ∈ TBg := tb_mem 559 (by decide +kernel) (by decide +kernel)
theorem k_605 : (Cond.initialized RJ0) ∈ TBg := tb_mem 98 (by decide +kernel) (by decide +kernel)
theorem k_606 : (Cond.fieldLink RJ0 38 "java/lang/String" "COMPACT_STRINGS" "Z") ∈ TBg := tb_mem 545 (by decide +kernel) (by decide +kernel)
theorem k_607 : (Cond.fieldLink RJ0 15 "java/lang/String" "coder" "B") ∈ TBg := tb_mem 1567 (by decide +kernel) (by decide +kernel)
theorem k_608 : (Cond.fieldLink RJ0 9 "java/lang/String" "value" "[B") ∈ TBg := tb_mem 1566 (by decide +kernel) (by decide +kernel)
theorem k_609 : (Cond.code yJ0_coder_7d493 cJ0_coder_7d493 1 (some .byte)) ∈ TBg := tb_mem 544 (by decide +kernel) (by decide +kernel)
theorem k_610 : (Cond.methodLink RJ0 335 yJ0_coder_7d493) ∈ TBg := tb_mem 541 (by decide +kernel) (by decide +kernel)
theorem k_611 : (Cond.instanceMethod yJ0_coder_7d493) ∈ TBg := tb_mem 542 (by decide +kernel) (by decide +kernel)
theorem k_612 : (Cond.selects RJ0 yJ0_coder_7d493 yJ0_coder_7d493) ∈ TBg := tb_mem 543 (by decide +kernel) (by decide +kernel)
theorem k_613 : (Cond.code yJ0_isLatin1_aae02 cJ0_isLatin1_aae02 1 (some .boolean)) ∈ TBg := tb_mem 554 (by decide +kernel) (by decide +kernel)
theorem k_614 : (Cond.methodLink RJ0 492 yJ0_isLatin1_aae02) ∈ TBg := tb_mem 551 (by decide +kernel) (by decide +kernel)
theorem k_615 : (Cond.instanceMethod yJ0_isLatin1_aae02) ∈ TBg := tb_mem 552 (by decide +kernel) (by decide +kernel)
theorem k_616 : (Cond.selects RJ0 yJ0_isLatin1_aae02 yJ0_isLatin1_aae02) ∈ TBg := tb_mem 553 (by decide +kernel) (by decide +kernel)
theorem k_617 : (Cond.code yJ1_charAt_3b067 cJ1_charAt_3b067 2 (some .char)) ∈ TBg := tb_mem 557 (by decide +kernel) (by decide +kernel)
theorem k_618 : (Cond.methodLink RJ0 495 yJ1_charAt_3b067) ∈ TBg := tb_mem 555 (by decide +kernel) (by decide +kernel)
theorem k_619 : (Cond.static yJ1_charAt_3b067) ∈ TBg := tb_mem 556 (by decide +kernel) (by decide +kernel)
theorem k_620 : (Cond.initialized RJ1) ∈ TBg := tb_mem 99 (by decide +kernel) (by decide +kernel)
theorem k_621 : (Cond.code yJ0_length_8abf5 cJ0_length_8abf5 1 (some .int)) ∈ TBg := tb_mem 540 (by decide +kernel) (by decide +kernel)
theorem k_622 : (Cond.methodLink RX6 202 yJ0_length_8abf5) ∈ TBg := tb_mem 537 (by decide +kernel) (by decide +kernel)
theorem k_623 : (Cond.instanceMethod yJ0_length_8abf5) ∈ TBg := tb_mem 538 (by decide +kernel) (by decide +kernel)
theorem k_624 : (Cond.selects RJ0 yJ0_length_8abf5 yJ0_length_8abf5) ∈ TBg := tb_mem 539 (by decide +kernel) (by decide +kernel)
theorem k_625 : (Cond.code yJ0_charAt_5068e cJ0_charAt_5068e 2 (some .char)) ∈ TBg := tb_mem 550 (by decide +kernel) (by decide +kernel)
theorem k_626 : (Cond.methodLink RX6 208 yJ0_charAt_5068e) ∈ TBg := tb_mem 547 (by decide +kernel) (by decide +kernel)
theorem k_627 : (Cond.instanceMethod yJ0_charAt_5068e) ∈ TBg := tb_mem 548 (by decide +kernel) (by decide +kernel)
theorem k_628 : (Cond.selects RJ0 yJ0_charAt_5068e yJ0_charAt_5068e) ∈ TBg := tb_mem 549 (by decide +kernel) (by decide +kernel)
theorem k_629 : (Cond.code yX6_letterAt cX6_letterAt 2 (some .boolean)) ∈ TBg := tb_mem 526 (by decide +kernel) (by decide +kernel)
theorem k_630 : (Cond.methodLink RX6 179 yX6_letterAt) ∈ TBg := tb_mem 523 (by decide +kernel) (by decide +kernel)
theorem k_631 : (Cond.instanceMethod yX6_letterAt) ∈ TBg := tb_mem 525 (by decide +kernel) (by decide +kernel)
theorem k_632 : (Cond.selects RX6 yX6_letterAt yX6_letterAt) ∈ TBg := tb_mem 2 (by decide +kernel) (by decide +kernel)
theorem k_633 : (Cond.initialized RX6) ∈ TBg := tb_mem 97 (by decide +kernel) (by decide +kernel)
theorem k_634 : (Cond.constantLong RX6 198 (32)) ∈ TBg := tb_mem 531 (by decide +kernel) (by decide +kernel)
theorem k_635 : (Cond.code yX6_digitAt cX6_digitAt 2 (some .boolean)) ∈ TBg := tb_mem 588 (by decide +kernel) (by decide +kernel)
theorem k_636 : (Cond.methodLink RX6 189 yX6_digitAt) ∈ TBg := tb_mem 585 (by decide +kernel) (by decide +kernel)
theorem k_637 : (Cond.instanceMethod yX6_digitAt) ∈ TBg := tb_mem 587 (by decide +kernel) (by decide +kernel)
theorem k_638 : (Cond.selects RX6 yX6_digitAt yX6_digitAt) ∈ TBg := tb_mem 5 (by decide +kernel) (by decide +kernel)
theorem k_639 : (Cond.code yX6_isSign cX6_isSign 1 (some .boolean)) ∈ TBg := tb_mem 595 (by decide +kernel) (by decide +kernel)
theorem k_640 : (Cond.methodLink RX6 195 yX6_isSign) ∈ TBg := tb_mem 593 (by decide +kernel) (by decide +kernel)
theorem k_641 : (Cond.static yX6_isSign) ∈ TBg := tb_mem 594 (by decide +kernel) (by decide +kernel)
theorem k_642 : (Cond.code yX6_takeDigits cX6_takeDigits 1 none) ∈ TBg := tb_mem 592 (by decide +kernel) (by decide +kernel)
theorem k_643 : (Cond.methodLink RX6 192 yX6_takeDigits) ∈ TBg := tb_mem 589 (by decide +kernel) (by decide +kernel)
theorem k_644 : (Cond.instanceMethod yX6_takeDigits) ∈ TBg := tb_mem 591 (by decide +kernel) (by decide +kernel)
theorem k_645 : (Cond.selects RX6 yX6_takeDigits yX6_takeDigits) ∈ TBg := tb_mem 6 (by decide +kernel) (by decide +kernel)
theorem k_646 : (Cond.code yX6_takeLetters cX6_takeLetters 1 none) ∈ TBg := tb_mem 530 (by decide +kernel) (by decide +kernel)
theorem k_647 : (Cond.methodLink RX6 182 yX6_takeLetters) ∈ TBg := tb_mem 527 (by decide +kernel) (by decide +kernel)
theorem k_648 : (Cond.instanceMethod yX6_takeLetters) ∈ TBg := tb_mem 529 (by decide +kernel) (by decide +kernel)
theorem k_649 : (Cond.selects RX6 yX6_takeLetters yX6_takeLetters) ∈ TBg := tb_mem 3 (by decide +kernel) (by decide +kernel)
theorem k_650 : (Cond.code yX6_sortOfWord cX6_sortOfWord 4 (some .int)) ∈ TBg := tb_mem 535 (by decide +kernel) (by decide +kernel)
theorem k_651 : (Cond.methodLink RX6 185 yX6_sortOfWord) ∈ TBg := tb_mem 532 (by decide +kernel) (by decide +kernel)
theorem k_652 : (Cond.instanceMethod yX6_sortOfWord) ∈ TBg := tb_mem 534 (by decide +kernel) (by decide +kernel)
theorem k_653 : (Cond.selects RX6 yX6_sortOfWord yX6_sortOfWord) ∈ TBg := tb_mem 4 (by decide +kernel) (by decide +kernel)
theorem dJ3_checkIndex_8e157_0 : decode cJ3_checkIndex_8e157 0 = .ok (.iload_n 0, 1) := by decide +kernel
theorem dJ3_checkIndex_8e157_1 : decode cJ3_checkIndex_8e157 1 = .ok (.ifCond .lt 8, 3) := by decide +kernel
theorem dJ3_checkIndex_8e157_4 : decode cJ3_checkIndex_8e157 4 = .ok (.iload_n 0, 1) := by decide +kernel
theorem dJ3_checkIndex_8e157_5 : decode cJ3_checkIndex_8e157 5 = .ok (.iload_n 1, 1) := by decide +kernel
theorem dJ3_checkIndex_8e157_6 : decode cJ3_checkIndex_8e157 6 = .ok (.if_icmp .lt 10, 3) := by decide +kernel
theorem dJ3_checkIndex_8e157_16 : decode cJ3_checkIndex_8e157 16 = .ok (.iload_n 0, 1) := by decide +kernel
theorem dJ3_checkIndex_8e157_17 : decode cJ3_checkIndex_8e157 17 = .ok (.ireturn, 1) := by decide +kernel
theorem dJ0_checkIndex_df160_0 : decode cJ0_checkIndex_df160 0 = .ok (.iload_n 0, 1) := by decide +kernel
theorem dJ0_checkIndex_df160_1 : decode cJ0_checkIndex_df160 1 = .ok (.iload_n 1, 1) := by decide +kernel
theorem dJ0_checkIndex_df160_2 : decode cJ0_checkIndex_df160 2 = .ok (.getstatic 1053, 3) := by decide +kernel
theorem dJ0_checkIndex_df160_5 : decode cJ0_checkIndex_df160 5 = .ok (.invokestatic 1059, 3) := by decide +kernel
theorem dJ0_checkIndex_df160_8 : decode cJ0_checkIndex_df160 8 = .ok (.pop, 1) := by decide +kernel
theorem dJ0_checkIndex_df160_9 : decode cJ0_checkIndex_df160 9 = .ok (.return_, 1) := by decide +kernel
theorem dJ1_charAt_3b067_0 : decode cJ1_charAt_3b067 0 = .ok (.iload_n 1, 1) := by decide +kernel
theorem dJ1_charAt_3b067_1 : decode cJ1_charAt_3b067 1 = .ok (.aload_n 0, 1) := by decide +kernel
theorem dJ1_charAt_3b067_2 : decode cJ1_charAt_3b067 2 = .ok (.arraylength, 1) := by decide +kernel
theorem dJ1_charAt_3b067_3 : decode cJ1_charAt_3b067 3 = .ok (.invokestatic 9, 3) := by decide +kernel
theorem dJ1_charAt_3b067_6 : decode cJ1_charAt_3b067 6 = .ok (.aload_n 0, 1) := by decide +kernel
theorem dJ1_charAt_3b067_7 : decode cJ1_charAt_3b067 7 = .ok (.iload_n 1, 1) := by decide +kernel
theorem dJ1_charAt_3b067_8 : decode cJ1_charAt_3b067 8 = .ok (.baload, 1) := by decide +kernel
theorem dJ1_charAt_3b067_9 : decode cJ1_charAt_3b067 9 = .ok (.sipush 255, 3) := by decide +kernel
theorem dJ1_charAt_3b067_12 : decode cJ1_charAt_3b067 12 = .ok (.iand, 1) := by decide +kernel
theorem dJ1_charAt_3b067_13 : decode cJ1_charAt_3b067 13 = .ok (.i2c, 1) := by decide +kernel
theorem dJ1_charAt_3b067_14 : decode cJ1_charAt_3b067 14 = .ok (.ireturn, 1) := by decide +kernel
theorem dJ0_isLatin1_aae02_0 : decode cJ0_isLatin1_aae02 0 = .ok (.getstatic 38, 3) := by decide +kernel
theorem dJ0_isLatin1_aae02_3 : decode cJ0_isLatin1_aae02 3 = .ok (.ifCond .eq 14, 3) := by decide +kernel
theorem dJ0_isLatin1_aae02_6 : decode cJ0_isLatin1_aae02 6 = .ok (.aload_n 0, 1) := by decide +kernel
theorem dJ0_isLatin1_aae02_7 : decode cJ0_isLatin1_aae02 7 = .ok (.getfield 15, 3) := by decide +kernel
theorem dJ0_isLatin1_aae02_10 : decode cJ0_isLatin1_aae02 10 = .ok (.ifCond .ne 7, 3) := by decide +kernel
theorem dJ0_isLatin1_aae02_13 : decode cJ0_isLatin1_aae02 13 = .ok (.iconst 1, 1) := by decide +kernel
theorem dJ0_isLatin1_aae02_14 : decode cJ0_isLatin1_aae02 14 = .ok (.goto 4, 3) := by decide +kernel
theorem dJ0_isLatin1_aae02_18 : decode cJ0_isLatin1_aae02 18 = .ok (.ireturn, 1) := by decide +kernel
theorem dJ0_coder_7d493_0 : decode cJ0_coder_7d493 0 = .ok (.getstatic 38, 3) := by decide +kernel
theorem dJ0_coder_7d493_3 : decode cJ0_coder_7d493 3 = .ok (.ifCond .eq 10, 3) := by decide +kernel
theorem dJ0_coder_7d493_6 : decode cJ0_coder_7d493 6 = .ok (.aload_n 0, 1) := by decide +kernel
theorem dJ0_coder_7d493_7 : decode cJ0_coder_7d493 7 = .ok (.getfield 15, 3) := by decide +kernel
theorem dJ0_coder_7d493_10 : decode cJ0_coder_7d493 10 = .ok (.goto 4, 3) := by decide +kernel
theorem dJ0_coder_7d493_14 : decode cJ0_coder_7d493 14 = .ok (.ireturn, 1) := by decide +kernel
theorem dJ0_length_8abf5_0 : decode cJ0_length_8abf5 0 = .ok (.aload_n 0, 1) := by decide +kernel
theorem dJ0_length_8abf5_1 : decode cJ0_length_8abf5 1 = .ok (.getfield 9, 3) := by decide +kernel
theorem dJ0_length_8abf5_4 : decode cJ0_length_8abf5 4 = .ok (.arraylength, 1) := by decide +kernel
theorem dJ0_length_8abf5_5 : decode cJ0_length_8abf5 5 = .ok (.aload_n 0, 1) := by decide +kernel
theorem dJ0_length_8abf5_6 : decode cJ0_length_8abf5 6 = .ok (.invokevirtual 335, 3) := by decide +kernel
theorem dJ0_length_8abf5_9 : decode cJ0_length_8abf5 9 = .ok (.ishr, 1) := by decide +kernel
theorem dJ0_length_8abf5_10 : decode cJ0_length_8abf5 10 = .ok (.ireturn, 1) := by decide +kernel
theorem dJ0_charAt_5068e_0 : decode cJ0_charAt_5068e 0 = .ok (.aload_n 0, 1) := by decide +kernel
theorem dJ0_charAt_5068e_1 : decode cJ0_charAt_5068e 1 = .ok (.invokevirtual 492, 3) := by decide +kernel
theorem dJ0_charAt_5068e_4 : decode cJ0_charAt_5068e 4 = .ok (.ifCond .eq 12, 3) := by decide +kernel
theorem dJ0_charAt_5068e_7 : decode cJ0_charAt_5068e 7 = .ok (.aload_n 0, 1) := by decide +kernel
theorem dJ0_charAt_5068e_8 : decode cJ0_charAt_5068e 8 = .ok (.getfield 9, 3) := by decide +kernel
theorem dJ0_charAt_5068e_11 : decode cJ0_charAt_5068e 11 = .ok (.iload_n 1, 1) := by decide +kernel
theorem dJ0_charAt_5068e_12 : decode cJ0_charAt_5068e 12 = .ok (.invokestatic 495, 3) := by decide +kernel
theorem dJ0_charAt_5068e_15 : decode cJ0_charAt_5068e 15 = .ok (.ireturn, 1) := by decide +kernel
theorem dX6_letterAt_0 : decode cX6_letterAt 0 = .ok (.iload_n 1, 1) := by decide +kernel
theorem dX6_letterAt_1 : decode cX6_letterAt 1 = .ok (.ifCond .lt 37, 3) := by decide +kernel
theorem dX6_letterAt_38 : decode cX6_letterAt 38 = .ok (.iconst 0, 1) := by decide +kernel
theorem dX6_letterAt_39 : decode cX6_letterAt 39 = .ok (.ireturn, 1) := by decide +kernel
theorem dX6_letterAt_4 : decode cX6_letterAt 4 = .ok (.iload_n 1, 1) := by decide +kernel
theorem dX6_letterAt_5 : decode cX6_letterAt 5 = .ok (.aload_n 0, 1) := by decide +kernel
theorem dX6_letterAt_6 : decode cX6_letterAt 6 = .ok (.getfield 25, 3) := by decide +kernel
theorem dX6_letterAt_9 : decode cX6_letterAt 9 = .ok (.if_icmp .ge 29, 3) := by decide +kernel
theorem dX6_letterAt_12 : decode cX6_letterAt 12 = .ok (.aload_n 0, 1) := by decide +kernel
theorem dX6_letterAt_13 : decode cX6_letterAt 13 = .ok (.getfield 15, 3) := by decide +kernel
theorem dX6_letterAt_16 : decode cX6_letterAt 16 = .ok (.iload_n 1, 1) := by decide +kernel
theorem dX6_letterAt_17 : decode cX6_letterAt 17 = .ok (.baload, 1) := by decide +kernel
theorem dX6_letterAt_18 : decode cX6_letterAt 18 = .ok (.bipush 97, 2) := by decide +kernel
theorem dX6_letterAt_20 : decode cX6_letterAt 20 = .ok (.if_icmp .lt 18, 3) := by decide +kernel
theorem dX6_letterAt_23 : decode cX6_letterAt 23 = .ok (.aload_n 0, 1) := by decide +kernel
theorem dX6_letterAt_24 : decode cX6_letterAt 24 = .ok (.getfield 15, 3) := by decide +kernel
theorem dX6_letterAt_27 : decode cX6_letterAt 27 = .ok (.iload_n 1, 1) := by decide +kernel
theorem dX6_letterAt_28 : decode cX6_letterAt 28 = .ok (.baload, 1) := by decide +kernel
theorem dX6_letterAt_29 : decode cX6_letterAt 29 = .ok (.bipush 122, 2) := by decide +kernel
theorem dX6_letterAt_31 : decode cX6_letterAt 31 = .ok (.if_icmp .gt 7, 3) := by decide +kernel
theorem dX6_letterAt_34 : decode cX6_letterAt 34 = .ok (.iconst 1, 1) := by decide +kernel
theorem dX6_letterAt_35 : decode cX6_letterAt 35 = .ok (.goto 4, 3) := by decide +kernel
theorem dX6_digitAt_0 : decode cX6_digitAt 0 = .ok (.iload_n 1, 1) := by decide +kernel
theorem dX6_digitAt_1 : decode cX6_digitAt 1 = .ok (.ifCond .lt 37, 3) := by decide +kernel
theorem dX6_digitAt_38 : decode cX6_digitAt 38 = .ok (.iconst 0, 1) := by decide +kernel
theorem dX6_digitAt_39 : decode cX6_digitAt 39 = .ok (.ireturn, 1) := by decide +kernel
theorem dX6_digitAt_4 : decode cX6_digitAt 4 = .ok (.iload_n 1, 1) := by decide +kernel
theorem dX6_digitAt_5 : decode cX6_digitAt 5 = .ok (.aload_n 0, 1) := by decide +kernel
theorem dX6_digitAt_6 : decode cX6_digitAt 6 = .ok (.getfield 25, 3) := by decide +kernel
theorem dX6_digitAt_9 : decode cX6_digitAt 9 = .ok (.if_icmp .ge 29, 3) := by decide +kernel
theorem dX6_digitAt_12 : decode cX6_digitAt 12 = .ok (.aload_n 0, 1) := by decide +kernel
theorem dX6_digitAt_13 : decode cX6_digitAt 13 = .ok (.getfield 15, 3) := by decide +kernel
theorem dX6_digitAt_16 : decode cX6_digitAt 16 = .ok (.iload_n 1, 1) := by decide +kernel
theorem dX6_digitAt_17 : decode cX6_digitAt 17 = .ok (.baload, 1) := by decide +kernel
theorem dX6_digitAt_18 : decode cX6_digitAt 18 = .ok (.bipush 48, 2) := by decide +kernel
theorem dX6_digitAt_20 : decode cX6_digitAt 20 = .ok (.if_icmp .lt 18, 3) := by decide +kernel
theorem dX6_digitAt_23 : decode cX6_digitAt 23 = .ok (.aload_n 0, 1) := by decide +kernel
theorem dX6_digitAt_24 : decode cX6_digitAt 24 = .ok (.getfield 15, 3) := by decide +kernel
theorem dX6_digitAt_27 : decode cX6_digitAt 27 = .ok (.iload_n 1, 1) := by decide +kernel
theorem dX6_digitAt_28 : decode cX6_digitAt 28 = .ok (.baload, 1) := by decide +kernel
theorem dX6_digitAt_29 : decode cX6_digitAt 29 = .ok (.bipush 57, 2) := by decide +kernel
theorem dX6_digitAt_31 : decode cX6_digitAt 31 = .ok (.if_icmp .gt 7, 3) := by decide +kernel
theorem dX6_digitAt_34 : decode cX6_digitAt 34 = .ok (.iconst 1, 1) := by decide +kernel
theorem dX6_digitAt_35 : decode cX6_digitAt 35 = .ok (.goto 4, 3) := by decide +kernel
theorem dX6_sortOfWord_0 : decode cX6_sortOfWord 0 = .ok (.iload_n 1, 1) := by decide +kernel
theorem dX6_sortOfWord_1 : decode cX6_sortOfWord 1 = .ok (.bipush 8, 2) := by decide +kernel
theorem dX6_sortOfWord_3 : decode cX6_sortOfWord 3 = .ok (.if_icmp .le 6, 3) := by decide +kernel
theorem dX6_sortOfWord_9 : decode cX6_sortOfWord 9 = .ok (.iconst 0, 1) := by decide +kernel
theorem dX6_sortOfWord_10 : decode cX6_sortOfWord 10 = .ok (.istore_n 2, 1) := by decide +kernel
theorem dX6_sortOfWord_11 : decode cX6_sortOfWord 11 = .ok (.iload_n 2, 1) := by decide +kernel
theorem dX6_sortOfWord_12 : decode cX6_sortOfWord 12 = .ok (.bipush 8, 2) := by decide +kernel
theorem dX6_sortOfWord_14 : decode cX6_sortOfWord 14 = .ok (.iadd, 1) := by decide +kernel
theorem dX6_sortOfWord_15 : decode cX6_sortOfWord 15 = .ok (.ldc 200, 2) := by decide +kernel
theorem dX6_sortOfWord_17 : decode cX6_sortOfWord 17 = .ok (.invokevirtual 202, 3) := by decide +kernel
theorem dX6_sortOfWord_20 : decode cX6_sortOfWord 20 = .ok (.if_icmp .gt 66, 3) := by decide +kernel
theorem dX6_sortOfWord_86 : decode cX6_sortOfWord 86 = .ok (.bipush 15, 2) := by decide +kernel
theorem dX6_sortOfWord_88 : decode cX6_sortOfWord 88 = .ok (.ireturn, 1) := by decide +kernel
theorem dX6_sortOfWord_23 : decode cX6_sortOfWord 23 = .ok (.iconst 0, 1) := by decide +kernel
theorem dX6_sortOfWord_24 : decode cX6_sortOfWord 24 = .ok (.istore_n 3, 1) := by decide +kernel
theorem dX6_sortOfWord_25 : decode cX6_sortOfWord 25 = .ok (.iload_n 3, 1) := by decide +kernel
theorem dX6_sortOfWord_26 : decode cX6_sortOfWord 26 = .ok (.bipush 8, 2) := by decide +kernel
theorem dX6_sortOfWord_28 : decode cX6_sortOfWord 28 = .ok (.if_icmp .ge 41, 3) := by decide +kernel
theorem dX6_sortOfWord_69 : decode cX6_sortOfWord 69 = .ok (.iload_n 3, 1) := by decide +kernel
theorem dX6_sortOfWord_70 : decode cX6_sortOfWord 70 = .ok (.bipush 8, 2) := by decide +kernel
theorem dX6_sortOfWord_72 : decode cX6_sortOfWord 72 = .ok (.if_icmp .ne 8, 3) := by decide +kernel
theorem dX6_sortOfWord_75 : decode cX6_sortOfWord 75 = .ok (.iload_n 2, 1) := by decide +kernel
theorem dX6_sortOfWord_76 : decode cX6_sortOfWord 76 = .ok (.bipush 8, 2) := by decide +kernel
theorem dX6_sortOfWord_78 : decode cX6_sortOfWord 78 = .ok (.idiv, 1) := by decide +kernel
theorem dX6_sortOfWord_79 : decode cX6_sortOfWord 79 = .ok (.ireturn, 1) := by decide +kernel
theorem dX6_sortOfWord_31 : decode cX6_sortOfWord 31 = .ok (.ldc 200, 2) := by decide +kernel
theorem dX6_sortOfWord_33 : decode cX6_sortOfWord 33 = .ok (.iload_n 2, 1) := by decide +kernel
theorem dX6_sortOfWord_34 : decode cX6_sortOfWord 34 = .ok (.iload_n 3, 1) := by decide +kernel
theorem dX6_sortOfWord_35 : decode cX6_sortOfWord 35 = .ok (.iadd, 1) := by decide +kernel
theorem dX6_sortOfWord_36 : decode cX6_sortOfWord 36 = .ok (.invokevirtual 208, 3) := by decide +kernel
theorem dX6_sortOfWord_39 : decode cX6_sortOfWord 39 = .ok (.iload_n 3, 1) := by decide +kernel
theorem dX6_sortOfWord_40 : decode cX6_sortOfWord 40 = .ok (.iload_n 1, 1) := by decide +kernel
theorem dX6_sortOfWord_41 : decode cX6_sortOfWord 41 = .ok (.if_icmp .ge 17, 3) := by decide +kernel
theorem dX6_sortOfWord_58 : decode cX6_sortOfWord 58 = .ok (.bipush 32, 2) := by decide +kernel
theorem dX6_sortOfWord_60 : decode cX6_sortOfWord 60 = .ok (.if_icmp .ne 9, 3) := by decide +kernel
theorem dX6_sortOfWord_80 : decode cX6_sortOfWord 80 = .ok (.iinc 2 8, 3) := by decide +kernel
theorem dX6_sortOfWord_83 : decode cX6_sortOfWord 83 = .ok (.goto (-72), 3) := by decide +kernel
theorem dX6_sortOfWord_63 : decode cX6_sortOfWord 63 = .ok (.iinc 3 1, 3) := by decide +kernel
theorem dX6_sortOfWord_66 : decode cX6_sortOfWord 66 = .ok (.goto (-41), 3) := by decide +kernel
theorem dX6_sortOfWord_44 : decode cX6_sortOfWord 44 = .ok (.aload_n 0, 1) := by decide +kernel
theorem dX6_sortOfWord_45 : decode cX6_sortOfWord 45 = .ok (.getfield 15, 3) := by decide +kernel
theorem dX6_sortOfWord_48 : decode cX6_sortOfWord 48 = .ok (.aload_n 0, 1) := by decide +kernel
theorem dX6_sortOfWord_49 : decode cX6_sortOfWord 49 = .ok (.getfield 173, 3) := by decide +kernel
theorem dX6_sortOfWord_52 : decode cX6_sortOfWord 52 = .ok (.iload_n 3, 1) := by decide +kernel
theorem dX6_sortOfWord_53 : decode cX6_sortOfWord 53 = .ok (.iadd, 1) := by decide +kernel
theorem dX6_sortOfWord_54 : decode cX6_sortOfWord 54 = .ok (.baload, 1) := by decide +kernel
theorem dX6_sortOfWord_55 : decode cX6_sortOfWord 55 = .ok (.goto 5, 3) := by decide +kernel
theorem dX6_sortOfWord_6 : decode cX6_sortOfWord 6 = .ok (.bipush 18, 2) := by decide +kernel
theorem dX6_sortOfWord_8 : decode cX6_sortOfWord 8 = .ok (.ireturn, 1) := by decide +kernel
theorem dX6_takeLetters_0 : decode cX6_takeLetters 0 = .ok (.aload_n 0, 1) := by decide +kernel
theorem dX6_takeLetters_1 : decode cX6_takeLetters 1 = .ok (.lconst 0, 1) := by decide +kernel
theorem dX6_takeLetters_2 : decode cX6_takeLetters 2 = .ok (.putfield 66, 3) := by decide +kernel
theorem dX6_takeLetters_5 : decode cX6_takeLetters 5 = .ok (.aload_n 0, 1) := by decide +kernel
theorem dX6_takeLetters_6 : decode cX6_takeLetters 6 = .ok (.getfield 176, 3) := by decide +kernel
theorem dX6_takeLetters_9 : decode cX6_takeLetters 9 = .ok (.aload_n 0, 1) := by decide +kernel
theorem dX6_takeLetters_10 : decode cX6_takeLetters 10 = .ok (.getfield 25, 3) := by decide +kernel
theorem dX6_takeLetters_13 : decode cX6_takeLetters 13 = .ok (.if_icmp .ge 55, 3) := by decide +kernel
theorem dX6_takeLetters_68 : decode cX6_takeLetters 68 = .ok (.return_, 1) := by decide +kernel
theorem dX6_takeLetters_16 : decode cX6_takeLetters 16 = .ok (.aload_n 0, 1) := by decide +kernel
theorem dX6_takeLetters_17 : decode cX6_takeLetters 17 = .ok (.aload_n 0, 1) := by decide +kernel
theorem dX6_takeLetters_18 : decode cX6_takeLetters 18 = .ok (.getfield 176, 3) := by decide +kernel
theorem dX6_takeLetters_21 : decode cX6_takeLetters 21 = .ok (.invokevirtual 179, 3) := by decide +kernel
theorem dX6_takeLetters_24 : decode cX6_takeLetters 24 = .ok (.ifCond .eq 44, 3) := by decide +kernel
theorem dX6_takeLetters_27 : decode cX6_takeLetters 27 = .ok (.aload_n 0, 1) := by decide +kernel
theorem dX6_takeLetters_28 : decode cX6_takeLetters 28 = .ok (.aload_n 0, 1) := by decide +kernel
theorem dX6_takeLetters_29 : decode cX6_takeLetters 29 = .ok (.getfield 66, 3) := by decide +kernel
theorem dX6_takeLetters_32 : decode cX6_takeLetters 32 = .ok (.ldc2_w 198, 3) := by decide +kernel
theorem dX6_takeLetters_35 : decode cX6_takeLetters 35 = .ok (.lmul, 1) := by decide +kernel
theorem dX6_takeLetters_36 : decode cX6_takeLetters 36 = .ok (.aload_n 0, 1) := by decide +kernel
theorem dX6_takeLetters_37 : decode cX6_takeLetters 37 = .ok (.getfield 15, 3) := by decide +kernel
theorem dX6_takeLetters_40 : decode cX6_takeLetters 40 = .ok (.aload_n 0, 1) := by decide +kernel
theorem dX6_takeLetters_41 : decode cX6_takeLetters 41 = .ok (.getfield 176, 3) := by decide +kernel
theorem dX6_takeLetters_44 : decode cX6_takeLetters 44 = .ok (.baload, 1) := by decide +kernel
theorem dX6_takeLetters_45 : decode cX6_takeLetters 45 = .ok (.bipush 97, 2) := by decide +kernel
theorem dX6_takeLetters_47 : decode cX6_takeLetters 47 = .ok (.isub, 1) := by decide +kernel
theorem dX6_takeLetters_48 : decode cX6_takeLetters 48 = .ok (.iconst 1, 1) := by decide +kernel
theorem dX6_takeLetters_49 : decode cX6_takeLetters 49 = .ok (.iadd, 1) := by decide +kernel
theorem dX6_takeLetters_50 : decode cX6_takeLetters 50 = .ok (.i2l, 1) := by decide +kernel
theorem dX6_takeLetters_51 : decode cX6_takeLetters 51 = .ok (.ladd, 1) := by decide +kernel
theorem dX6_takeLetters_52 : decode cX6_takeLetters 52 = .ok (.putfield 66, 3) := by decide +kernel
theorem dX6_takeLetters_55 : decode cX6_takeLetters 55 = .ok (.aload_n 0, 1) := by decide +kernel
theorem dX6_takeLetters_56 : decode cX6_takeLetters 56 = .ok (.dup, 1) := by decide +kernel
theorem dX6_takeLetters_57 : decode cX6_takeLetters 57 = .ok (.getfield 176, 3) := by decide +kernel
theorem dX6_takeLetters_60 : decode cX6_takeLetters 60 = .ok (.iconst 1, 1) := by decide +kernel
theorem dX6_takeLetters_61 : decode cX6_takeLetters 61 = .ok (.iadd, 1) := by decide +kernel
theorem dX6_takeLetters_62 : decode cX6_takeLetters 62 = .ok (.putfield 176, 3) := by decide +kernel
theorem dX6_takeLetters_65 : decode cX6_takeLetters 65 = .ok (.goto (-60), 3) := by decide +kernel
theorem dX6_takeDigits_0 : decode cX6_takeDigits 0 = .ok (.aload_n 0, 1) := by decide +kernel
theorem dX6_takeDigits_1 : decode cX6_takeDigits 1 = .ok (.iconst 0, 1) := by decide +kernel
theorem dX6_takeDigits_2 : decode cX6_takeDigits 2 = .ok (.putfield 98, 3) := by decide +kernel
theorem dX6_takeDigits_5 : decode cX6_takeDigits 5 = .ok (.aload_n 0, 1) := by decide +kernel
theorem dX6_takeDigits_6 : decode cX6_takeDigits 6 = .ok (.getfield 176, 3) := by decide +kernel
theorem dX6_takeDigits_9 : decode cX6_takeDigits 9 = .ok (.aload_n 0, 1) := by decide +kernel
theorem dX6_takeDigits_10 : decode cX6_takeDigits 10 = .ok (.getfield 25, 3) := by decide +kernel
theorem dX6_takeDigits_13 : decode cX6_takeDigits 13 = .ok (.if_icmp .ge 51, 3) := by decide +kernel
theorem dX6_takeDigits_64 : decode cX6_takeDigits 64 = .ok (.aload_n 0, 1) := by decide +kernel
theorem dX6_takeDigits_65 : decode cX6_takeDigits 65 = .ok (.aload_n 0, 1) := by decide +kernel
theorem dX6_takeDigits_66 : decode cX6_takeDigits 66 = .ok (.getfield 176, 3) := by decide +kernel
theorem dX6_takeDigits_69 : decode cX6_takeDigits 69 = .ok (.aload_n 0, 1) := by decide +kernel
theorem dX6_takeDigits_70 : decode cX6_takeDigits 70 = .ok (.getfield 173, 3) := by decide +kernel
theorem dX6_takeDigits_73 : decode cX6_takeDigits 73 = .ok (.isub, 1) := by decide +kernel
theorem dX6_takeDigits_74 : decode cX6_takeDigits 74 = .ok (.iconst 4, 1) := by decide +kernel
theorem dX6_takeDigits_75 : decode cX6_takeDigits 75 = .ok (.if_icmp .gt 14, 3) := by decide +kernel
theorem dX6_takeDigits_89 : decode cX6_takeDigits 89 = .ok (.bipush 18, 2) := by decide +kernel
theorem dX6_takeDigits_91 : decode cX6_takeDigits 91 = .ok (.goto 5, 3) := by decide +kernel
theorem dX6_takeDigits_96 : decode cX6_takeDigits 96 = .ok (.putfield 40, 3) := by decide +kernel
theorem dX6_takeDigits_99 : decode cX6_takeDigits 99 = .ok (.return_, 1) := by decide +kernel
theorem dX6_takeDigits_78 : decode cX6_takeDigits 78 = .ok (.aload_n 0, 1) := by decide +kernel
theorem dX6_takeDigits_79 : decode cX6_takeDigits 79 = .ok (.aload_n 0, 1) := by decide +kernel
theorem dX6_takeDigits_80 : decode cX6_takeDigits 80 = .ok (.getfield 176, 3) := by decide +kernel
theorem dX6_takeDigits_83 : decode cX6_takeDigits 83 = .ok (.invokevirtual 179, 3) := by decide +kernel
theorem dX6_takeDigits_86 : decode cX6_takeDigits 86 = .ok (.ifCond .eq 8, 3) := by decide +kernel
theorem dX6_takeDigits_94 : decode cX6_takeDigits 94 = .ok (.bipush 16, 2) := by decide +kernel
theorem dX6_takeDigits_16 : decode cX6_takeDigits 16 = .ok (.aload_n 0, 1) := by decide +kernel
theorem dX6_takeDigits_17 : decode cX6_takeDigits 17 = .ok (.aload_n 0, 1) := by decide +kernel
theorem dX6_takeDigits_18 : decode cX6_takeDigits 18 = .ok (.getfield 176, 3) := by decide +kernel
theorem dX6_takeDigits_21 : decode cX6_takeDigits 21 = .ok (.invokevirtual 189, 3) := by decide +kernel
theorem dX6_takeDigits_24 : decode cX6_takeDigits 24 = .ok (.ifCond .eq 40, 3) := by decide +kernel
theorem dX6_takeDigits_27 : decode cX6_takeDigits 27 = .ok (.aload_n 0, 1) := by decide +kernel
theorem dX6_takeDigits_28 : decode cX6_takeDigits 28 = .ok (.aload_n 0, 1) := by decide +kernel
theorem dX6_takeDigits_29 : decode cX6_takeDigits 29 = .ok (.getfield 98, 3) := by decide +kernel
theorem dX6_takeDigits_32 : decode cX6_takeDigits 32 = .ok (.bipush 10, 2) := by decide +kernel
theorem dX6_takeDigits_34 : decode cX6_takeDigits 34 = .ok (.imul, 1) := by decide +kernel
theorem dX6_takeDigits_35 : decode cX6_takeDigits 35 = .ok (.aload_n 0, 1) := by decide +kernel
theorem dX6_takeDigits_36 : decode cX6_takeDigits 36 = .ok (.getfield 15, 3) := by decide +kernel
theorem dX6_takeDigits_39 : decode cX6_takeDigits 39 = .ok (.aload_n 0, 1) := by decide +kernel
theorem dX6_takeDigits_40 : decode cX6_takeDigits 40 = .ok (.getfield 176, 3) := by decide +kernel
theorem dX6_takeDigits_43 : decode cX6_takeDigits 43 = .ok (.baload, 1) := by decide +kernel
theorem dX6_takeDigits_44 : decode cX6_takeDigits 44 = .ok (.bipush 48, 2) := by decide +kernel
theorem dX6_takeDigits_46 : decode cX6_takeDigits 46 = .ok (.isub, 1) := by decide +kernel
theorem dX6_takeDigits_47 : decode cX6_takeDigits 47 = .ok (.iadd, 1) := by decide +kernel
theorem dX6_takeDigits_48 : decode cX6_takeDigits 48 = .ok (.putfield 98, 3) := by decide +kernel
theorem dX6_takeDigits_51 : decode cX6_takeDigits 51 = .ok (.aload_n 0, 1) := by decide +kernel
theorem dX6_takeDigits_52 : decode cX6_takeDigits 52 = .ok (.dup, 1) := by decide +kernel
theorem dX6_takeDigits_53 : decode cX6_takeDigits 53 = .ok (.getfield 176, 3) := by decide +kernel
theorem dX6_takeDigits_56 : decode cX6_takeDigits 56 = .ok (.iconst 1, 1) := by decide +kernel
theorem dX6_takeDigits_57 : decode cX6_takeDigits 57 = .ok (.iadd, 1) := by decide +kernel
theorem dX6_takeDigits_58 : decode cX6_takeDigits 58 = .ok (.putfield 176, 3) := by decide +kernel
theorem dX6_takeDigits_61 : decode cX6_takeDigits 61 = .ok (.goto (-56), 3) := by decide +kernel
theorem dX6_takeToken_0 : decode cX6_takeToken 0 = .ok (.aload_n 0, 1) := by decide +kernel
theorem dX6_takeToken_1 : decode cX6_takeToken 1 = .ok (.getfield 176, 3) := by decide +kernel
theorem dX6_takeToken_4 : decode cX6_takeToken 4 = .ok (.aload_n 0, 1) := by decide +kernel
theorem dX6_takeToken_5 : decode cX6_takeToken 5 = .ok (.getfield 25, 3) := by decide +kernel
theorem dX6_takeToken_8 : decode cX6_takeToken 8 = .ok (.if_icmp .ge 44, 3) := by decide +kernel
theorem dX6_takeToken_52 : decode cX6_takeToken 52 = .ok (.aload_n 0, 1) := by decide +kernel
theorem dX6_takeToken_53 : decode cX6_takeToken 53 = .ok (.aload_n 0, 1) := by decide +kernel
theorem dX6_takeToken_54 : decode cX6_takeToken 54 = .ok (.getfield 176, 3) := by decide +kernel
theorem dX6_takeToken_57 : decode cX6_takeToken 57 = .ok (.putfield 173, 3) := by decide +kernel
theorem dX6_takeToken_60 : decode cX6_takeToken 60 = .ok (.aload_n 0, 1) := by decide +kernel
theorem dX6_takeToken_61 : decode cX6_takeToken 61 = .ok (.getfield 176, 3) := by decide +kernel
theorem dX6_takeToken_64 : decode cX6_takeToken 64 = .ok (.aload_n 0, 1) := by decide +kernel
theorem dX6_takeToken_65 : decode cX6_takeToken 65 = .ok (.getfield 25, 3) := by decide +kernel
theorem dX6_takeToken_68 : decode cX6_takeToken 68 = .ok (.if_icmp .lt 12, 3) := by decide +kernel
theorem dX6_takeToken_80 : decode cX6_takeToken 80 = .ok (.aload_n 0, 1) := by decide +kernel
theorem dX6_takeToken_81 : decode cX6_takeToken 81 = .ok (.aload_n 0, 1) := by decide +kernel
theorem dX6_takeToken_82 : decode cX6_takeToken 82 = .ok (.getfield 176, 3) := by decide +kernel
theorem dX6_takeToken_85 : decode cX6_takeToken 85 = .ok (.invokevirtual 179, 3) := by decide +kernel
theorem dX6_takeToken_88 : decode cX6_takeToken 88 = .ok (.ifCond .eq 27, 3) := by decide +kernel
theorem dX6_takeToken_115 : decode cX6_takeToken 115 = .ok (.aload_n 0, 1) := by decide +kernel
theorem dX6_takeToken_116 : decode cX6_takeToken 116 = .ok (.aload_n 0, 1) := by decide +kernel
theorem dX6_takeToken_117 : decode cX6_takeToken 117 = .ok (.getfield 176, 3) := by decide +kernel
theorem dX6_takeToken_120 : decode cX6_takeToken 120 = .ok (.invokevirtual 189, 3) := by decide +kernel
theorem dX6_takeToken_123 : decode cX6_takeToken 123 = .ok (.ifCond .eq 10, 3) := by decide +kernel
theorem dX6_takeToken_133 : decode cX6_takeToken 133 = .ok (.aload_n 0, 1) := by decide +kernel
theorem dX6_takeToken_134 : decode cX6_takeToken 134 = .ok (.aload_n 0, 1) := by decide +kernel
theorem dX6_takeToken_135 : decode cX6_takeToken 135 = .ok (.getfield 15, 3) := by decide +kernel
theorem dX6_takeToken_138 : decode cX6_takeToken 138 = .ok (.aload_n 0, 1) := by decide +kernel
theorem dX6_takeToken_139 : decode cX6_takeToken 139 = .ok (.getfield 176, 3) := by decide +kernel
theorem dX6_takeToken_142 : decode cX6_takeToken 142 = .ok (.baload, 1) := by decide +kernel
theorem dX6_takeToken_143 : decode cX6_takeToken 143 = .ok (.invokestatic 195, 3) := by decide +kernel
theorem dX6_takeToken_146 : decode cX6_takeToken 146 = .ok (.ifCond .eq 15, 3) := by decide +kernel
theorem dX6_takeToken_161 : decode cX6_takeToken 161 = .ok (.bipush 18, 2) := by decide +kernel
theorem dX6_takeToken_163 : decode cX6_takeToken 163 = .ok (.putfield 40, 3) := by decide +kernel
theorem dX6_takeToken_166 : decode cX6_takeToken 166 = .ok (.aload_n 0, 1) := by decide +kernel
theorem dX6_takeToken_167 : decode cX6_takeToken 167 = .ok (.dup, 1) := by decide +kernel
theorem dX6_takeToken_168 : decode cX6_takeToken 168 = .ok (.getfield 176, 3) := by decide +kernel
theorem dX6_takeToken_171 : decode cX6_takeToken 171 = .ok (.iconst 1, 1) := by decide +kernel
theorem dX6_takeToken_172 : decode cX6_takeToken 172 = .ok (.iadd, 1) := by decide +kernel
theorem dX6_takeToken_173 : decode cX6_takeToken 173 = .ok (.putfield 176, 3) := by decide +kernel
theorem dX6_takeToken_176 : decode cX6_takeToken 176 = .ok (.return_, 1) := by decide +kernel
theorem dX6_takeToken_149 : decode cX6_takeToken 149 = .ok (.aload_n 0, 1) := by decide +kernel
theorem dX6_takeToken_150 : decode cX6_takeToken 150 = .ok (.getfield 15, 3) := by decide +kernel
theorem dX6_takeToken_153 : decode cX6_takeToken 153 = .ok (.aload_n 0, 1) := by decide +kernel
theorem dX6_takeToken_154 : decode cX6_takeToken 154 = .ok (.getfield 176, 3) := by decide +kernel
theorem dX6_takeToken_157 : decode cX6_takeToken 157 = .ok (.baload, 1) := by decide +kernel
theorem dX6_takeToken_158 : decode cX6_takeToken 158 = .ok (.goto 5, 3) := by decide +kernel
theorem dX6_takeToken_126 : decode cX6_takeToken 126 = .ok (.aload_n 0, 1) := by decide +kernel
theorem dX6_takeToken_127 : decode cX6_takeToken 127 = .ok (.invokevirtual 192, 3) := by decide +kernel
theorem dX6_takeToken_130 : decode cX6_takeToken 130 = .ok (.goto 46, 3) := by decide +kernel
theorem dX6_takeToken_91 : decode cX6_takeToken 91 = .ok (.aload_n 0, 1) := by decide +kernel
theorem dX6_takeToken_92 : decode cX6_takeToken 92 = .ok (.invokevirtual 182, 3) := by decide +kernel
theorem dX6_takeToken_95 : decode cX6_takeToken 95 = .ok (.aload_n 0, 1) := by decide +kernel
theorem dX6_takeToken_96 : decode cX6_takeToken 96 = .ok (.aload_n 0, 1) := by decide +kernel
theorem dX6_takeToken_97 : decode cX6_takeToken 97 = .ok (.aload_n 0, 1) := by decide +kernel
theorem dX6_takeToken_98 : decode cX6_takeToken 98 = .ok (.getfield 176, 3) := by decide +kernel
theorem dX6_takeToken_101 : decode cX6_takeToken 101 = .ok (.aload_n 0, 1) := by decide +kernel
theorem dX6_takeToken_102 : decode cX6_takeToken 102 = .ok (.getfield 173, 3) := by decide +kernel
theorem dX6_takeToken_105 : decode cX6_takeToken 105 = .ok (.isub, 1) := by decide +kernel
theorem dX6_takeToken_106 : decode cX6_takeToken 106 = .ok (.invokevirtual 185, 3) := by decide +kernel
theorem dX6_takeToken_109 : decode cX6_takeToken 109 = .ok (.putfield 40, 3) := by decide +kernel
theorem dX6_takeToken_112 : decode cX6_takeToken 112 = .ok (.goto 64, 3) := by decide +kernel
theorem dX6_takeToken_71 : decode cX6_takeToken 71 = .ok (.aload_n 0, 1) := by decide +kernel
theorem dX6_takeToken_72 : decode cX6_takeToken 72 = .ok (.bipush 17, 2) := by decide +kernel
theorem dX6_takeToken_74 : decode cX6_takeToken 74 = .ok (.putfield 40, 3) := by decide +kernel
theorem dX6_takeToken_77 : decode cX6_takeToken 77 = .ok (.goto 99, 3) := by decide +kernel
theorem dX6_takeToken_11 : decode cX6_takeToken 11 = .ok (.aload_n 0, 1) := by decide +kernel
theorem dX6_takeToken_12 : decode cX6_takeToken 12 = .ok (.getfield 15, 3) := by decide +kernel
theorem dX6_takeToken_15 : decode cX6_takeToken 15 = .ok (.aload_n 0, 1) := by decide +kernel
theorem dX6_takeToken_16 : decode cX6_takeToken 16 = .ok (.getfield 176, 3) := by decide +kernel
theorem dX6_takeToken_19 : decode cX6_takeToken 19 = .ok (.baload, 1) := by decide +kernel
theorem dX6_takeToken_20 : decode cX6_takeToken 20 = .ok (.bipush 32, 2) := by decide +kernel
theorem dX6_takeToken_22 : decode cX6_takeToken 22 = .ok (.if_icmp .eq 17, 3) := by decide +kernel
theorem dX6_takeToken_39 : decode cX6_takeToken 39 = .ok (.aload_n 0, 1) := by decide +kernel
theorem dX6_takeToken_40 : decode cX6_takeToken 40 = .ok (.dup, 1) := by decide +kernel
theorem dX6_takeToken_41 : decode cX6_takeToken 41 = .ok (.getfield 176, 3) := by decide +kernel
theorem dX6_takeToken_44 : decode cX6_takeToken 44 = .ok (.iconst 1, 1) := by decide +kernel
theorem dX6_takeToken_45 : decode cX6_takeToken 45 = .ok (.iadd, 1) := by decide +kernel
theorem dX6_takeToken_46 : decode cX6_takeToken 46 = .ok (.putfield 176, 3) := by decide +kernel
theorem dX6_takeToken_49 : decode cX6_takeToken 49 = .ok (.goto (-49), 3) := by decide +kernel
theorem dX6_takeToken_25 : decode cX6_takeToken 25 = .ok (.aload_n 0, 1) := by decide +kernel
theorem dX6_takeToken_26 : decode cX6_takeToken 26 = .ok (.getfield 15, 3) := by decide +kernel
theorem dX6_takeToken_29 : decode cX6_takeToken 29 = .ok (.aload_n 0, 1) := by decide +kernel
theorem dX6_takeToken_30 : decode cX6_takeToken 30 = .ok (.getfield 176, 3) := by decide +kernel
theorem dX6_takeToken_33 : decode cX6_takeToken 33 = .ok (.baload, 1) := by decide +kernel
theorem dX6_takeToken_34 : decode cX6_takeToken 34 = .ok (.bipush 10, 2) := by decide +kernel
theorem dX6_takeToken_36 : decode cX6_takeToken 36 = .ok (.if_icmp .ne 16, 3) := by decide +kernel
set_option maxHeartbeats 4000000 in
set_option maxRecDepth 100000 in
theorem j_ciN (l : Launch) (G : va_G) (cy : Nat → ClassId) (sz : Nat) (tq qq wq : Nat) (fo : Option Nat)  (n : Int32) (n2 : Int32)  (h_n : 0 ≤ n.toInt ∧ n.toInt ≤ 119) (h_n2 : 120 ≤ n2.toInt ∧ n2.toInt ≤ 120) : Met l yJ3_checkIndex_8e157 (.code yJ3_checkIndex_8e157 cJ3_checkIndex_8e157 3 (some .int) :: TBg) ({ frames := 1, cells := 0, slots := 0, locals := 64 }) (va_Pc [.int n, .int n2, .null] (EnX G cy [] sz tq qq wq fo (va_A [] sz))) (va_Qi (fun (r : Int32) (_ : Unit) => (0 ≤ r.toInt ∧ r.toInt ≤ 119)) (fun _ _ => True) (va_A [] sz)) 0 0 (va_A [] sz) := by
  refine Met.ofW (cc := cJ3_checkIndex_8e157) (maxL := 3) (ret := (some .int)) (by decide) rfl ?_
  intro p e s m args below meth c s₁ B9 hml hv9
  obtain ⟨rfl, ⟨hsz, hP, hK, hD0, hN⟩, hX⟩ := hv9
  have hx := B9.exec
  have hb := B9.bytes
  have hr := B9.returns
  have hts := atoms_spec (ws := .code yJ3_checkIndex_8e157 cJ3_checkIndex_8e157 3 (some .int) :: TBg) B9.pre
  have ht : ∀ w ∈ TBg, w.before _ s = true := fun w h => hts w (List.mem_cons_of_mem _ h)
  have hown : s.vm.findClass RJ3 = some m.cls := findClass_of_methodNamed B9.named
  have hlocks := B9.notSynchronized
  subst hsz
  generalize hAe : va_A [] s.heap.size = A at hX ⊢
  have hA : ∀ q : Nat, s.heap.size ≤ q → A q := fun q h => by rw [← hAe]; exact Or.inr h
  have hS : va_S A s.heap s.heap [] := va_S.rf
  have hl := lv_entry ([.int n, .int n2, .null]) (n := 3) (Nat.le_of_ble_eq_true rfl)
  rw [lg_entry_eq]
  generalize (lg_sl ([.int n, .int n2, .null]) ++ List.replicate (3 - (lg_sl ([.int n, .int n2, .null])).length) Slot.unset).toArray = ls at hl ⊢
  have hl : lv_has ls 3 [(0, .int n), (1, .int n2), (2, .null)] := hl
  have z0 : (0 : Int32).toInt = 0 := by decide
  refine lv_iload_n hx hb dJ3_checkIndex_8e157_0 rfl (lv_at hl 0 rfl) ?_
  refine lv_if_lt (tgt := 9) hx hb dJ3_checkIndex_8e157_1 (by decide) (fun c_1 => ?_) (fun c_1 => ?_)
  · have q_2 : n.toInt < (0 : Int32).toInt := (ow_lt _ _).mp c_1
    exfalso
    omega
  · have q_3 : (0 : Int32).toInt ≤ n.toInt := by have := (not_congr (ow_lt _ _)).mp c_1; omega
    refine lv_iload_n hx hb dJ3_checkIndex_8e157_4 rfl (lv_at hl 0 rfl) ?_
    refine lv_iload_n hx hb dJ3_checkIndex_8e157_5 rfl (lv_at hl 1 rfl) ?_
    refine lv_icmp_lt (tgt := 16) hx hb dJ3_checkIndex_8e157_6 (by decide) (fun c_4 => ?_) (fun c_4 => ?_)
    · have q_5 : n.toInt < n2.toInt := (ow_lt _ _).mp c_4
      refine lv_iload_n hx hb dJ3_checkIndex_8e157_16 rfl (lv_at hl 0 rfl) ?_
      refine W.widen (k := 0) (n := 0) (Nat.le_of_ble_eq_true rfl) (Nat.le_of_ble_eq_true rfl) ?_
      exact W.iret (v := n) hx hb hr (fun t ht9 hW => ⟨⟨n, (), rfl, (by omega), trivial⟩, hS.F ht9⟩) hS.2.2 dJ3_checkIndex_8e157_17
    · have q_6 : n2.toInt ≤ n.toInt := by have := (not_congr (ow_lt _ _)).mp c_4; omega
      exfalso
      omega
set_option maxHeartbeats 4000000 in
set_option maxRecDepth 100000 in
theorem j_ciR (l : Launch) (G : va_G) (cy : Nat → ClassId) (sz : Nat) (tq qq wq : Nat) (fo : Option Nat)  (n : Int32) (n2 : Int32) (af : Nat)  (h_n : 0 ≤ n.toInt ∧ n.toInt ≤ 119) (h_n2 : 120 ≤ n2.toInt ∧ n2.toInt ≤ 120) : Met l yJ3_checkIndex_8e157 (.code yJ3_checkIndex_8e157 cJ3_checkIndex_8e157 3 (some .int) :: TBg) ({ frames := 1, cells := 0, slots := 0, locals := 64 }) (va_Pc [.int n, .int n2, (.ref af)] (EnX G cy [] sz tq qq wq fo (va_A [] sz))) (va_Qi (fun (r : Int32) (_ : Unit) => (0 ≤ r.toInt ∧ r.toInt ≤ 119)) (fun _ _ => True) (va_A [] sz)) 0 0 (va_A [] sz) := by
  refine Met.ofW (cc := cJ3_checkIndex_8e157) (maxL := 3) (ret := (some .int)) (by decide) rfl ?_
  intro p e s m args below meth c s₁ B9 hml hv9
  obtain ⟨rfl, ⟨hsz, hP, hK, hD0, hN⟩, hX⟩ := hv9
  have hx := B9.exec
  have hb := B9.bytes
  have hr := B9.returns
  have hts := atoms_spec (ws := .code yJ3_checkIndex_8e157 cJ3_checkIndex_8e157 3 (some .int) :: TBg) B9.pre
  have ht : ∀ w ∈ TBg, w.before _ s = true := fun w h => hts w (List.mem_cons_of_mem _ h)
  have hown : s.vm.findClass RJ3 = some m.cls := findClass_of_methodNamed B9.named
  have hlocks := B9.notSynchronized
  subst hsz
  generalize hAe : va_A [] s.heap.size = A at hX ⊢
  have hA : ∀ q : Nat, s.heap.size ≤ q → A q := fun q h => by rw [← hAe]; exact Or.inr h
  have hS : va_S A s.heap s.heap [] := va_S.rf
  have hl := lv_entry ([.int n, .int n2, (.ref af)]) (n := 3) (Nat.le_of_ble_eq_true rfl)
  rw [lg_entry_eq]
  generalize (lg_sl ([.int n, .int n2, (.ref af)]) ++ List.replicate (3 - (lg_sl ([.int n, .int n2, (.ref af)])).length) Slot.unset).toArray = ls at hl ⊢
  have hl : lv_has ls 3 [(0, .int n), (1, .int n2), (2, (.ref af))] := hl
  have z0 : (0 : Int32).toInt = 0 := by decide
  refine lv_iload_n hx hb dJ3_checkIndex_8e157_0 rfl (lv_at hl 0 rfl) ?_
  refine lv_if_lt (tgt := 9) hx hb dJ3_checkIndex_8e157_1 (by decide) (fun c_1 => ?_) (fun c_1 => ?_)
  · have q_2 : n.toInt < (0 : Int32).toInt := (ow_lt _ _).mp c_1
    exfalso
    omega
  · have q_3 : (0 : Int32).toInt ≤ n.toInt := by have := (not_congr (ow_lt _ _)).mp c_1; omega
    refine lv_iload_n hx hb dJ3_checkIndex_8e157_4 rfl (lv_at hl 0 rfl) ?_
    refine lv_iload_n hx hb dJ3_checkIndex_8e157_5 rfl (lv_at hl 1 rfl) ?_
    refine lv_icmp_lt (tgt := 16) hx hb dJ3_checkIndex_8e157_6 (by decide) (fun c_4 => ?_) (fun c_4 => ?_)
    · have q_5 : n.toInt < n2.toInt := (ow_lt _ _).mp c_4
      refine lv_iload_n hx hb dJ3_checkIndex_8e157_16 rfl (lv_at hl 0 rfl) ?_
      refine W.widen (k := 0) (n := 0) (Nat.le_of_ble_eq_true rfl) (Nat.le_of_ble_eq_true rfl) ?_
      exact W.iret (v := n) hx hb hr (fun t ht9 hW => ⟨⟨n, (), rfl, (by omega), trivial⟩, hS.F ht9⟩) hS.2.2 dJ3_checkIndex_8e157_17
    · have q_6 : n2.toInt ≤ n.toInt := by have := (not_congr (ow_lt _ _)).mp c_4; omega
      exfalso
      omega
set_option maxHeartbeats 4000000 in
set_option maxRecDepth 100000 in
theorem j_sci (l : Launch) (G : va_G) (cy : Nat → ClassId) (sz : Nat) (tq qq wq : Nat) (fo : Option Nat)  (n : Int32) (n2 : Int32)  (h_n : 0 ≤ n.toInt ∧ n.toInt ≤ 119) (h_n2 : 120 ≤ n2.toInt ∧ n2.toInt ≤ 120) : Met l yJ0_checkIndex_df160 (.code yJ0_checkIndex_df160 cJ0_checkIndex_df160 2 none :: TBg) ({ frames := 2, cells := 0, slots := 0, locals := 128 }) (va_Pc [.int n, .int n2] (EnX G cy [] sz tq qq wq fo (va_A [] sz))) (va_Qv (fun (_ : Unit) => True) (fun _ _ => True) (va_A [] sz)) 0 0 (va_A [] sz) := by
  refine Met.ofW (cc := cJ0_checkIndex_df160) (maxL := 2) (ret := none) (by decide) rfl ?_
  intro p e s m args below meth c s₁ B9 hml hv9
  obtain ⟨rfl, ⟨hsz, hP, hK, hD0, hN⟩, hX⟩ := hv9
  have hx := B9.exec
  have hb := B9.bytes
  have hr := B9.returns
  have hts := atoms_spec (ws := .code yJ0_checkIndex_df160 cJ0_checkIndex_df160 2 none :: TBg) B9.pre
  have ht : ∀ w ∈ TBg, w.before _ s = true := fun w h => hts w (List.mem_cons_of_mem _ h)
  have hown : s.vm.findClass RJ0 = some m.cls := findClass_of_methodNamed B9.named
  have hlocks := B9.notSynchronized
  subst hsz
  generalize hAe : va_A [] s.heap.size = A at hX ⊢
  have hA : ∀ q : Nat, s.heap.size ≤ q → A q := fun q h => by rw [← hAe]; exact Or.inr h
  have hS : va_S A s.heap s.heap [] := va_S.rf
  have hl := lv_entry ([.int n, .int n2]) (n := 2) (Nat.le_of_ble_eq_true rfl)
  rw [lg_entry_eq]
  generalize (lg_sl ([.int n, .int n2]) ++ List.replicate (2 - (lg_sl ([.int n, .int n2])).length) Slot.unset).toArray = ls at hl ⊢
  have hl : lv_has ls 2 [(0, .int n), (1, .int n2)] := hl
  refine lv_iload_n hx hb dJ0_checkIndex_df160_0 rfl (lv_at hl 0 rfl) ?_
  refine lv_iload_n hx hb dJ0_checkIndex_df160_1 rfl (lv_at hl 1 rfl) ?_
  refine va_gets (C := "jdk/internal/util/Preconditions") (n := "SIOOBE_FORMATTER") (d := "Ljava/util/function/BiFunction;") hx hb hX.2.1.2.2.2.2.2.2 hS hown (ht _ k_597) (fun _ h9 => h9) dJ0_checkIndex_df160_2 ?_
  rcases fo with _ | af
  · refine W.eq (g2 := F0 m 5 ls [.null, .int n2, .int n]) rfl ?_
    have hFc := fr_new hS hA
    refine va_calli (va_runS (As := [.int n, .int n2, .null]) (rest := []) ⟨hx, hb, hml, hown, ht⟩ (j_ciN l G cy _ tq qq wq none  n n2  (by omega) (by omega)) (va_cwS 3 ht (gs k_599 k_600 k_601 k_598) rfl rfl rfl (by decide +kernel) ⟨Nat.le_of_ble_eq_true rfl, Nat.le_of_ble_eq_true rfl⟩) ⟨EnX.blind, fun U hU hW => ⟨rfl, En.of hU hW (va_P0 (H := _)) hK va_D0 hN, XK.of hX hS hFc hU hW⟩⟩ rfl rfl hl.1 rfl (lv_room (Nat.le_of_ble_eq_true rfl)) dJ0_checkIndex_df160_5 ⟨Nat.le_of_ble_eq_true rfl, Nat.le_of_ble_eq_true rfl⟩) hS (fun q _ h => hFc q h) hFc (fun r_u_1 u_1 t9 H locs ht9 hvm hw hB hz1 hk1 hS => ?_)
    have hP := fr_keep hP hk1
    have wu_1 := hw
    clear hFc hk1 hz1 hB hw
    refine lv_pop hx hb dJ0_checkIndex_df160_8 rfl ?_
    refine W.widen (k := 0) (n := 0) (Nat.le_of_ble_eq_true rfl) (Nat.le_of_ble_eq_true rfl) ?_
    exact W.vret hx hb hr (fun t ht9 hW => ⟨⟨(), rfl, trivial, trivial⟩, hS.F ht9⟩) hS.2.2 dJ0_checkIndex_df160_9
  · refine W.eq (g2 := F0 m 5 ls [(.ref af), .int n2, .int n]) rfl ?_
    have hFc := fr_new hS hA
    refine va_calli (va_runS (As := [.int n, .int n2, (.ref af)]) (rest := []) ⟨hx, hb, hml, hown, ht⟩ (j_ciR l G cy _ tq qq wq (some af)  n n2 af  (by omega) (by omega)) (va_cwS 3 ht (gs k_599 k_600 k_601 k_598) rfl rfl rfl (by decide +kernel) ⟨Nat.le_of_ble_eq_true rfl, Nat.le_of_ble_eq_true rfl⟩) ⟨EnX.blind, fun U hU hW => ⟨rfl, En.of hU hW (va_P0 (H := _)) hK va_D0 hN, XK.of hX hS hFc hU hW⟩⟩ rfl rfl hl.1 rfl (lv_room (Nat.le_of_ble_eq_true rfl)) dJ0_checkIndex_df160_5 ⟨Nat.le_of_ble_eq_true rfl, Nat.le_of_ble_eq_true rfl⟩) hS (fun q _ h => hFc q h) hFc (fun r_u_2 u_2 t9 H locs ht9 hvm hw hB hz1 hk1 hS => ?_)
    have hP := fr_keep hP hk1
    have wu_2 := hw
    clear hFc hk1 hz1 hB hw
    refine lv_pop hx hb dJ0_checkIndex_df160_8 rfl ?_
    refine W.widen (k := 0) (n := 0) (Nat.le_of_ble_eq_true rfl) (Nat.le_of_ble_eq_true rfl) ?_
    exact W.vret hx hb hr (fun t ht9 hW => ⟨⟨(), rfl, trivial, trivial⟩, hS.F ht9⟩) hS.2.2 dJ0_checkIndex_df160_9
set_option maxHeartbeats 4000000 in
set_option maxRecDepth 100000 in
theorem j_char1 (l : Launch) (G : va_G) (cy : Nat → ClassId) (sz : Nat) (tq qq wq : Nat) (fo : Option Nat)  (n : Int32)  (h_n : 0 ≤ n.toInt ∧ n.toInt ≤ 119) : Met l yJ1_charAt_3b067 (.code yJ1_charAt_3b067 cJ1_charAt_3b067 2 (some .char) :: TBg) ({ frames := 3, cells := 0, slots := 0, locals := 192 }) (va_Pc [.ref wq, .int n] (EnX G cy [] sz tq qq wq fo (va_A [] sz))) (va_Qi (fun (r : Int32) (_ : Unit) => (True) ∧ (narrow .char (.int r) = .int r)) (fun _ _ => True) (va_A [] sz)) 0 0 (va_A [] sz) := by
  refine Met.ofW (cc := cJ1_charAt_3b067) (maxL := 2) (ret := (some .char)) (by decide) rfl ?_
  intro p e s m args below meth c s₁ B9 hml hv9
  obtain ⟨rfl, ⟨hsz, hP, hK, hD0, hN⟩, hX⟩ := hv9
  have hx := B9.exec
  have hb := B9.bytes
  have hr := B9.returns
  have hts := atoms_spec (ws := .code yJ1_charAt_3b067 cJ1_charAt_3b067 2 (some .char) :: TBg) B9.pre
  have ht : ∀ w ∈ TBg, w.before _ s = true := fun w h => hts w (List.mem_cons_of_mem _ h)
  have hown : s.vm.findClass RJ1 = some m.cls := findClass_of_methodNamed B9.named
  have hlocks := B9.notSynchronized
  subst hsz
  generalize hAe : va_A [] s.heap.size = A at hX ⊢
  have hA : ∀ q : Nat, s.heap.size ≤ q → A q := fun q h => by rw [← hAe]; exact Or.inr h
  have hS : va_S A s.heap s.heap [] := va_S.rf
  have hl := lv_entry ([.ref wq, .int n]) (n := 2) (Nat.le_of_ble_eq_true rfl)
  rw [lg_entry_eq]
  generalize (lg_sl ([.ref wq, .int n]) ++ List.replicate (2 - (lg_sl ([.ref wq, .int n])).length) Slot.unset).toArray = ls at hl ⊢
  have hl : lv_has ls 2 [(0, .ref wq), (1, .int n)] := hl
  have z0 : (120 : Int32).toInt = 120 := by decide
  refine lv_iload_n hx hb dJ1_charAt_3b067_0 rfl (lv_at hl 1 rfl) ?_
  refine lv_aload_n hx hb dJ1_charAt_3b067_1 rfl (lv_at hl 0 rfl) ?_
  refine va_tlen (v := 120) hx hb hX.2.1.2.2.2.2.1 hS rfl dJ1_charAt_3b067_2 ?_
  have hFc := fr_new hS hA
  refine va_callv (va_runS (As := [.int n, .int 120]) (rest := []) ⟨hx, hb, hml, hown, ht⟩ (j_sci l G cy _ tq qq wq fo  n (120)  (by omega) (by omega)) (va_cwS 2 ht (gs k_603 k_604 k_605 k_602) rfl rfl rfl (by decide +kernel) ⟨Nat.le_of_ble_eq_true rfl, Nat.le_of_ble_eq_true rfl⟩) ⟨EnX.blind, fun U hU hW => ⟨rfl, En.of hU hW (va_P0 (H := _)) hK va_D0 hN, XK.of hX hS hFc hU hW⟩⟩ rfl rfl hl.1 rfl (lv_room (Nat.le_of_ble_eq_true rfl)) dJ1_charAt_3b067_3 ⟨Nat.le_of_ble_eq_true rfl, Nat.le_of_ble_eq_true rfl⟩) hS (fun q _ h => hFc q h) hFc (fun u_1 t9 H locs ht9 hvm hw hB hz1 hk1 hS => ?_)
  have hP := fr_keep hP hk1
  have wu_1 := hw
  clear hFc hk1 hz1 hB hw
  refine lv_aload_n hx hb dJ1_charAt_3b067_6 rfl (lv_at hl 0 rfl) ?_
  refine lv_iload_n hx hb dJ1_charAt_3b067_7 rfl (lv_at hl 1 rfl) ?_
  have q_2 : vp_in n 120 := vp_in_iff.mpr ⟨by omega, by omega⟩
  refine va_tb (v := .int (wdB.getD (Int32.toNatClampNeg n) 0)) hx hb hX.2.1.2.2.2.2.1 hS q_2 rfl dJ1_charAt_3b067_8 ?_
  refine lv_topi (fun v_3 ev_3 => ?_)
  refine lv_sipush (v := 255) hx hb dJ1_charAt_3b067_9 (by decide) ?_
  refine lv_iand hx hb dJ1_charAt_3b067_12 ?_
  refine lv_topi (fun v_4 ev_4 => ?_)
  have q_5 : 0 ≤ v_4.toInt ∧ v_4.toInt ≤ 255 := by rw [ev_4]; exact ow_and255 _
  refine lv_i2c hx hb dJ1_charAt_3b067_13 rfl ?_
  refine lv_topi (fun v_6 ev_6 => ?_)
  refine W.widen (k := 0) (n := 0) (Nat.le_of_ble_eq_true rfl) (Nat.le_of_ble_eq_true rfl) ?_
  exact W.zret (v := v_6) hx hb hr (ow_nc ev_6) (fun t ht9 hW => ⟨⟨v_6, (), rfl, ⟨trivial, (ow_nc ev_6)⟩, trivial⟩, hS.F ht9⟩) hS.2.2 dJ1_charAt_3b067_14
set_option maxHeartbeats 4000000 in
set_option maxRecDepth 100000 in
theorem j_lat (l : Launch) (G : va_G) (cy : Nat → ClassId) (sz : Nat) (tq qq wq : Nat) (fo : Option Nat)     : Met l yJ0_isLatin1_aae02 (.code yJ0_isLatin1_aae02 cJ0_isLatin1_aae02 1 (some .boolean) :: TBg) ({ frames := 1, cells := 0, slots := 0, locals := 64 }) (va_Pc [.ref qq] (EnX G cy [] sz tq qq wq fo (va_A [] sz))) (va_Qi (fun (r : Int32) (_ : Unit) => (r.toInt = 0 ∨ r.toInt = 1) ∧ (1 ≤ r.toInt ∧ r.toInt ≤ 1)) (fun _ _ => True) (va_A [] sz)) 0 0 (va_A [] sz) := by
  refine Met.ofW (cc := cJ0_isLatin1_aae02) (maxL := 1) (ret := (some .boolean)) (by decide) rfl ?_
  intro p e s m args below meth c s₁ B9 hml hv9
  obtain ⟨rfl, ⟨hsz, hP, hK, hD0, hN⟩, hX⟩ := hv9
  have hx := B9.exec
  have hb := B9.bytes
  have hr := B9.returns
  have hts := atoms_spec (ws := .code yJ0_isLatin1_aae02 cJ0_isLatin1_aae02 1 (some .boolean) :: TBg) B9.pre
  have ht : ∀ w ∈ TBg, w.before _ s = true := fun w h => hts w (List.mem_cons_of_mem _ h)
  have hown : s.vm.findClass RJ0 = some m.cls := findClass_of_methodNamed B9.named
  have hlocks := B9.notSynchronized
  subst hsz
  generalize hAe : va_A [] s.heap.size = A at hX ⊢
  have hA : ∀ q : Nat, s.heap.size ≤ q → A q := fun q h => by rw [← hAe]; exact Or.inr h
  have hS : va_S A s.heap s.heap [] := va_S.rf
  have hl := lv_entry ([.ref qq]) (n := 1) (Nat.le_of_ble_eq_true rfl)
  rw [lg_entry_eq]
  generalize (lg_sl ([.ref qq]) ++ List.replicate (1 - (lg_sl ([.ref qq])).length) Slot.unset).toArray = ls at hl ⊢
  have hl : lv_has ls 1 [(0, .ref qq)] := hl
  have z0 : (1 : Int32).toInt = 1 := by decide
  refine va_gets (C := "java/lang/String") (n := "COMPACT_STRINGS") (d := "Z") hx hb hX.2.1.2.2.2.2.2.1 hS hown (ht _ k_606) (fun _ h9 => h9) dJ0_isLatin1_aae02_0 ?_
  refine lv_if_eq (tgt := 17) hx hb dJ0_isLatin1_aae02_3 (by decide) (fun c9 => absurd c9 (by decide)) (fun _ => ?_)
  refine lv_aload_n hx hb dJ0_isLatin1_aae02_6 rfl (lv_at hl 0 rfl) ?_
  refine vk_getf hx hb hX.2.1.2.2.1 hS hown (ht _ k_607) (fun _ h9 => h9) dJ0_isLatin1_aae02_7 ?_
  refine lv_if_ne (tgt := 17) hx hb dJ0_isLatin1_aae02_10 (by decide) (fun c9 => absurd (by decide) c9) (fun _ => ?_)
  refine lv_iconst (v := 1) hx hb dJ0_isLatin1_aae02_13 (by decide) ?_
  refine lv_goto (tgt := 18) hx hb dJ0_isLatin1_aae02_14 (by decide) ?_
  refine W.widen (k := 0) (n := 0) (Nat.le_of_ble_eq_true rfl) (Nat.le_of_ble_eq_true rfl) ?_
  exact W.zret (v := 1) hx hb hr rfl (fun t ht9 hW => ⟨⟨1, (), rfl, ⟨(by omega), (by omega)⟩, trivial⟩, hS.F ht9⟩) hS.2.2 dJ0_isLatin1_aae02_18
set_option maxHeartbeats 4000000 in
set_option maxRecDepth 100000 in
theorem j_coder (l : Launch) (G : va_G) (cy : Nat → ClassId) (sz : Nat) (tq qq wq : Nat) (fo : Option Nat)     : Met l yJ0_coder_7d493 (.code yJ0_coder_7d493 cJ0_coder_7d493 1 (some .byte) :: TBg) ({ frames := 1, cells := 0, slots := 0, locals := 64 }) (va_Pc [.ref qq] (EnX G cy [] sz tq qq wq fo (va_A [] sz))) (va_Qi (fun (r : Int32) (_ : Unit) => (0 ≤ r.toInt ∧ r.toInt ≤ 0)) (fun _ _ => True) (va_A [] sz)) 0 0 (va_A [] sz) := by
  refine Met.ofW (cc := cJ0_coder_7d493) (maxL := 1) (ret := (some .byte)) (by decide) rfl ?_
  intro p e s m args below meth c s₁ B9 hml hv9
  obtain ⟨rfl, ⟨hsz, hP, hK, hD0, hN⟩, hX⟩ := hv9
  have hx := B9.exec
  have hb := B9.bytes
  have hr := B9.returns
  have hts := atoms_spec (ws := .code yJ0_coder_7d493 cJ0_coder_7d493 1 (some .byte) :: TBg) B9.pre
  have ht : ∀ w ∈ TBg, w.before _ s = true := fun w h => hts w (List.mem_cons_of_mem _ h)
  have hown : s.vm.findClass RJ0 = some m.cls := findClass_of_methodNamed B9.named
  have hlocks := B9.notSynchronized
  subst hsz
  generalize hAe : va_A [] s.heap.size = A at hX ⊢
  have hA : ∀ q : Nat, s.heap.size ≤ q → A q := fun q h => by rw [← hAe]; exact Or.inr h
  have hS : va_S A s.heap s.heap [] := va_S.rf
  have hl := lv_entry ([.ref qq]) (n := 1) (Nat.le_of_ble_eq_true rfl)
  rw [lg_entry_eq]
  generalize (lg_sl ([.ref qq]) ++ List.replicate (1 - (lg_sl ([.ref qq])).length) Slot.unset).toArray = ls at hl ⊢
  have hl : lv_has ls 1 [(0, .ref qq)] := hl
  have z0 : (0 : Int32).toInt = 0 := by decide
  refine va_gets (C := "java/lang/String") (n := "COMPACT_STRINGS") (d := "Z") hx hb hX.2.1.2.2.2.2.2.1 hS hown (ht _ k_606) (fun _ h9 => h9) dJ0_coder_7d493_0 ?_
  refine lv_if_eq (tgt := 13) hx hb dJ0_coder_7d493_3 (by decide) (fun c9 => absurd c9 (by decide)) (fun _ => ?_)
  refine lv_aload_n hx hb dJ0_coder_7d493_6 rfl (lv_at hl 0 rfl) ?_
  refine vk_getf hx hb hX.2.1.2.2.1 hS hown (ht _ k_607) (fun _ h9 => h9) dJ0_coder_7d493_7 ?_
  refine lv_goto (tgt := 14) hx hb dJ0_coder_7d493_10 (by decide) ?_
  refine W.widen (k := 0) (n := 0) (Nat.le_of_ble_eq_true rfl) (Nat.le_of_ble_eq_true rfl) ?_
  exact W.zret (v := 0) hx hb hr rfl (fun t ht9 hW => ⟨⟨0, (), rfl, (by omega), trivial⟩, hS.F ht9⟩) hS.2.2 dJ0_coder_7d493_14
set_option maxHeartbeats 4000000 in
set_option maxRecDepth 100000 in
theorem j_len (l : Launch) (G : va_G) (cy : Nat → ClassId) (sz : Nat) (tq qq wq : Nat) (fo : Option Nat)     : Met l yJ0_length_8abf5 (.code yJ0_length_8abf5 cJ0_length_8abf5 1 (some .int) :: TBg) ({ frames := 2, cells := 0, slots := 0, locals := 128 }) (va_Pc [.ref qq] (EnX G cy [] sz tq qq wq fo (va_A [] sz))) (va_Qi (fun (r : Int32) (_ : Unit) => (120 ≤ r.toInt ∧ r.toInt ≤ 120)) (fun _ _ => True) (va_A [] sz)) 0 0 (va_A [] sz) := by
  refine Met.ofW (cc := cJ0_length_8abf5) (maxL := 1) (ret := (some .int)) (by decide) rfl ?_
  intro p e s m args below meth c s₁ B9 hml hv9
  obtain ⟨rfl, ⟨hsz, hP, hK, hD0, hN⟩, hX⟩ := hv9
  have hx := B9.exec
  have hb := B9.bytes
  have hr := B9.returns
  have hts := atoms_spec (ws := .code yJ0_length_8abf5 cJ0_length_8abf5 1 (some .int) :: TBg) B9.pre
  have ht : ∀ w ∈ TBg, w.before _ s = true := fun w h => hts w (List.mem_cons_of_mem _ h)
  have hown : s.vm.findClass RJ0 = some m.cls := findClass_of_methodNamed B9.named
  have hlocks := B9.notSynchronized
  subst hsz
  generalize hAe : va_A [] s.heap.size = A at hX ⊢
  have hA : ∀ q : Nat, s.heap.size ≤ q → A q := fun q h => by rw [← hAe]; exact Or.inr h
  have hS : va_S A s.heap s.heap [] := va_S.rf
  have hl := lv_entry ([.ref qq]) (n := 1) (Nat.le_of_ble_eq_true rfl)
  rw [lg_entry_eq]
  generalize (lg_sl ([.ref qq]) ++ List.replicate (1 - (lg_sl ([.ref qq])).length) Slot.unset).toArray = ls at hl ⊢
  have hl : lv_has ls 1 [(0, .ref qq)] := hl
  have z0 : (0 : Int32).toInt = 0 := by decide
  have z1 : (120 : Int32).toInt = 120 := by decide
  refine lv_aload_n hx hb dJ0_length_8abf5_0 rfl (lv_at hl 0 rfl) ?_
  refine vk_getf hx hb hX.2.1.2.2.2.1 hS hown (ht _ k_608) (fun _ h9 => h9) dJ0_length_8abf5_1 ?_
  refine va_tlen (v := 120) hx hb hX.2.1.2.2.2.2.1 hS rfl dJ0_length_8abf5_4 ?_
  refine lv_aload_n hx hb dJ0_length_8abf5_5 rfl (lv_at hl 0 rfl) ?_
  have hFc := fr_new hS hA
  refine va_calli (va_runV (As := []) (rest := [.int 120]) ⟨hx, hb, hml, hown, ht⟩ (j_coder l G cy _ tq qq wq fo    ) (cwV 0 ht (gv k_610 k_611 k_612 k_605 k_609) rfl rfl rfl (by decide +kernel) ⟨Nat.le_of_ble_eq_true rfl, Nat.le_of_ble_eq_true rfl⟩) ⟨EnX.blind, str_recv hX hS, fun U hU hW => ⟨rfl, En.of hU hW (va_P0 (H := _)) hK va_D0 hN, XK.of hX hS hFc hU hW⟩⟩ rfl rfl hl.1 rfl (lv_room (Nat.le_of_ble_eq_true rfl)) dJ0_length_8abf5_6 ⟨Nat.le_of_ble_eq_true rfl, Nat.le_of_ble_eq_true rfl⟩) hS (fun q _ h => hFc q h) hFc (fun r_u_1 u_1 t9 H locs ht9 hvm hw hB hz1 hk1 hS => ?_)
  have hP := fr_keep hP hk1
  have wu_1 := hw
  clear hFc hk1 hz1 hB hw
  obtain rfl : r_u_1 = 0 := (ow_eq _ _).mpr (by omega)
  refine lv_ishr hx hb dJ0_length_8abf5_9 ?_
  refine ow_top 120 (by decide +kernel) ?_
  refine W.widen (k := 0) (n := 0) (Nat.le_of_ble_eq_true rfl) (Nat.le_of_ble_eq_true rfl) ?_
  exact W.iret (v := 120) hx hb hr (fun t ht9 hW => ⟨⟨120, (), rfl, (by omega), trivial⟩, hS.F ht9⟩) hS.2.2 dJ0_length_8abf5_10
set_option maxHeartbeats 4000000 in
set_option maxRecDepth 100000 in
theorem j_charAt (l : Launch) (G : va_G) (cy : Nat → ClassId) (sz : Nat) (tq qq wq : Nat) (fo : Option Nat)  (n : Int32)  (h_n : 0 ≤ n.toInt ∧ n.toInt ≤ 119) : Met l yJ0_charAt_5068e (.code yJ0_charAt_5068e cJ0_charAt_5068e 2 (some .char) :: TBg) ({ frames := 4, cells := 0, slots := 0, locals := 256 }) (va_Pc [.ref qq, .int n] (EnX G cy [] sz tq qq wq fo (va_A [] sz))) (va_Qi (fun (r : Int32) (_ : Unit) => (True) ∧ (narrow .char (.int r) = .int r)) (fun _ _ => True) (va_A [] sz)) 0 0 (va_A [] sz) := by
  refine Met.ofW (cc := cJ0_charAt_5068e) (maxL := 2) (ret := (some .char)) (by decide) rfl ?_
  intro p e s m args below meth c s₁ B9 hml hv9
  obtain ⟨rfl, ⟨hsz, hP, hK, hD0, hN⟩, hX⟩ := hv9
  have hx := B9.exec
  have hb := B9.bytes
  have hr := B9.returns
  have hts := atoms_spec (ws := .code yJ0_charAt_5068e cJ0_charAt_5068e 2 (some .char) :: TBg) B9.pre
  have ht : ∀ w ∈ TBg, w.before _ s = true := fun w h => hts w (List.mem_cons_of_mem _ h)
  have hown : s.vm.findClass RJ0 = some m.cls := findClass_of_methodNamed B9.named
  have hlocks := B9.notSynchronized
  subst hsz
  generalize hAe : va_A [] s.heap.size = A at hX ⊢
  have hA : ∀ q : Nat, s.heap.size ≤ q → A q := fun q h => by rw [← hAe]; exact Or.inr h
  have hS : va_S A s.heap s.heap [] := va_S.rf
  have hl := lv_entry ([.ref qq, .int n]) (n := 2) (Nat.le_of_ble_eq_true rfl)
  rw [lg_entry_eq]
  generalize (lg_sl ([.ref qq, .int n]) ++ List.replicate (2 - (lg_sl ([.ref qq, .int n])).length) Slot.unset).toArray = ls at hl ⊢
  have hl : lv_has ls 2 [(0, .ref qq), (1, .int n)] := hl
  have z0 : (1 : Int32).toInt = 1 := by decide
  refine lv_aload_n hx hb dJ0_charAt_5068e_0 rfl (lv_at hl 0 rfl) ?_
  have hFc := fr_new hS hA
  refine va_calli (va_runV (As := []) (rest := []) ⟨hx, hb, hml, hown, ht⟩ (j_lat l G cy _ tq qq wq fo    ) (cwV 0 ht (gv k_614 k_615 k_616 k_605 k_613) rfl rfl rfl (by decide +kernel) ⟨Nat.le_of_ble_eq_true rfl, Nat.le_of_ble_eq_true rfl⟩) ⟨EnX.blind, str_recv hX hS, fun U hU hW => ⟨rfl, En.of hU hW (va_P0 (H := _)) hK va_D0 hN, XK.of hX hS hFc hU hW⟩⟩ rfl rfl hl.1 rfl (lv_room (Nat.le_of_ble_eq_true rfl)) dJ0_charAt_5068e_1 ⟨Nat.le_of_ble_eq_true rfl, Nat.le_of_ble_eq_true rfl⟩) hS (fun q _ h => hFc q h) hFc (fun r_u_1 u_1 t9 H locs ht9 hvm hw hB hz1 hk1 hS => ?_)
  have hP := fr_keep hP hk1
  have wu_1 := hw
  clear hFc hk1 hz1 hB hw
  obtain rfl : r_u_1 = 1 := (ow_eq _ _).mpr (by omega)
  refine lv_if_eq (tgt := 16) hx hb dJ0_charAt_5068e_4 (by decide) (fun c9 => absurd c9 (by decide)) (fun _ => ?_)
  refine lv_aload_n hx hb dJ0_charAt_5068e_7 rfl (lv_at hl 0 rfl) ?_
  refine vk_getf hx hb hX.2.1.2.2.2.1 hS hown (ht _ k_608) (fun _ h9 => h9) dJ0_charAt_5068e_8 ?_
  refine lv_iload_n hx hb dJ0_charAt_5068e_11 rfl (lv_at hl 1 rfl) ?_
  have hFc := fr_new hS hA
  refine va_calli (va_runS (As := [.ref wq, .int n]) (rest := []) ⟨hx, hb, hml, hown, ht⟩ (j_char1 l G cy _ tq qq wq fo  n  (by omega)) (va_cwS 2 ht (gs k_618 k_619 k_620 k_617) rfl rfl rfl (by decide +kernel) ⟨Nat.le_of_ble_eq_true rfl, Nat.le_of_ble_eq_true rfl⟩) ⟨EnX.blind, fun U hU hW => ⟨rfl, En.of hU hW (va_P0 (H := _)) hK va_D0 hN, XK.of hX hS hFc hU hW⟩⟩ rfl rfl hl.1 rfl (lv_room (Nat.le_of_ble_eq_true rfl)) dJ0_charAt_5068e_12 ⟨Nat.le_of_ble_eq_true rfl, Nat.le_of_ble_eq_true rfl⟩) hS (fun q _ h => hFc q h) hFc (fun r_u_2 u_2 t9 H locs ht9 hvm hw hB hz1 hk1 hS => ?_)
  have hP := fr_keep hP hk1
  obtain ⟨wu_2, xu_2_C⟩ := hw
  clear hFc hk1 hz1 hB
  refine W.widen (k := 0) (n := 0) (Nat.le_of_ble_eq_true rfl) (Nat.le_of_ble_eq_true rfl) ?_
  exact W.zret (v := r_u_2) hx hb hr xu_2_C (fun t ht9 hW => ⟨⟨r_u_2, (), rfl, ⟨trivial, xu_2_C⟩, trivial⟩, hS.F ht9⟩) hS.2.2 dJ0_charAt_5068e_15
set_option maxHeartbeats 4000000 in
set_option maxRecDepth 100000 in
theorem r_letterAt (l : Launch) (G : va_G) (cy : Nat → ClassId) (sz : Nat) (L : List Nat) (K : Nat → Nat) (R : Nat → Nat → Nat) (T : Int) (I E : Nat → Nat → Int32) (J B : Nat → Nat → Int64) (this : Nat) (n : Int32) (hRT : RT L K R) (hI : IV T L K I) (hE : EV L K E) (hthis1 : this ∈ L) (hthis2 : K this = 12) : Met l yX6_letterAt (.code yX6_letterAt cX6_letterAt 2 (some .boolean) :: TBg) ({ frames := 1, cells := 0, slots := 0, locals := 64 }) (va_Pc [.ref this, .int n] (En G cy (WC cy L K R I J E B) sz)) (va_Qi (fun (r : Int32) (_ : Unit) => (r.toInt = 0 ∨ r.toInt = 1)) (fun _ _ => True) (va_A [] sz)) 0 0 (va_A [] sz) := by
  have hthis : this ∈ L ∧ K this = 12 := ⟨hthis1, hthis2⟩
  refine Met.ofW (cc := cX6_letterAt) (maxL := 2) (ret := (some .boolean)) (by decide) rfl ?_
  intro p e s m args below meth c s₁ B9 hml hv9
  obtain ⟨rfl, hsz, hP, hK, hD0, hN⟩ := hv9
  have hx := B9.exec
  have hb := B9.bytes
  have hr := B9.returns
  have hts := atoms_spec (ws := .code yX6_letterAt cX6_letterAt 2 (some .boolean) :: TBg) B9.pre
  have ht : ∀ w ∈ TBg, w.before _ s = true := fun w h => hts w (List.mem_cons_of_mem _ h)
  have hown : s.vm.findClass RX6 = some m.cls := findClass_of_methodNamed B9.named
  have hlocks := B9.notSynchronized
  subst hsz
  generalize hAe : va_A [] s.heap.size = A at ⊢
  have hA : ∀ q : Nat, s.heap.size ≤ q → A q := fun q h => by rw [← hAe]; exact Or.inr h
  have hS : va_S A s.heap s.heap [] := va_S.rf
  have hl := lv_entry ([.ref this, .int n]) (n := 2) (Nat.le_of_ble_eq_true rfl)
  rw [lg_entry_eq]
  generalize (lg_sl ([.ref this, .int n]) ++ List.replicate (2 - (lg_sl ([.ref this, .int n])).length) Slot.unset).toArray = ls at hl ⊢
  have hl : lv_has ls 2 [(0, .ref this), (1, .int n)] := hl
  have z0 : (0 : Int32).toInt = 0 := by decide
  have z1 : (1 : Int32).toInt = 1 := by decide
  have z2 : (97 : Int32).toInt = 97 := by decide
  have z3 : (122 : Int32).toInt = 122 := by decide
  refine lv_iload_n hx hb dX6_letterAt_0 rfl (lv_at hl 1 rfl) ?_
  refine lv_if_lt (tgt := 38) hx hb dX6_letterAt_1 (by decide) (fun c_1 => ?_) (fun c_1 => ?_)
  · have q_2 : n.toInt < (0 : Int32).toInt := (ow_lt _ _).mp c_1
    refine lv_iconst (v := 0) hx hb dX6_letterAt_38 (by decide) ?_
    refine W.widen (k := 0) (n := 0) (Nat.le_of_ble_eq_true rfl) (Nat.le_of_ble_eq_true rfl) ?_
    exact W.zret (v := 0) hx hb hr rfl (fun t ht9 hW => ⟨⟨0, (), rfl, (by omega), trivial⟩, hS.F ht9⟩) hS.2.2 dX6_letterAt_39
  · have q_3 : (0 : Int32).toInt ≤ n.toInt := by have := (not_congr (ow_lt _ _)).mp c_1; omega
    refine lv_iload_n hx hb dX6_letterAt_4 rfl (lv_at hl 1 rfl) ?_
    refine lv_aload_n hx hb dX6_letterAt_5 rfl (lv_at hl 0 rfl) ?_
    refine cg_12_1_6 hx hb ht hown hK hN hP hthis.1 hthis.2 dX6_letterAt_6 ?_
    have q_4 : 0 ≤ (I this 1).toInt ∧ (I this 1).toInt ≤ 1700 := IV.rd hI hthis.1 hthis.2 1
    refine lv_icmp_ge (tgt := 38) hx hb dX6_letterAt_9 (by decide) (fun c_5 => ?_) (fun c_5 => ?_)
    · have q_6 : (I this 1).toInt ≤ n.toInt := (ow_le _ _).mp c_5
      refine lv_iconst (v := 0) hx hb dX6_letterAt_38 (by decide) ?_
      refine W.widen (k := 0) (n := 0) (Nat.le_of_ble_eq_true rfl) (Nat.le_of_ble_eq_true rfl) ?_
      exact W.zret (v := 0) hx hb hr rfl (fun t ht9 hW => ⟨⟨0, (), rfl, (by omega), trivial⟩, hS.F ht9⟩) hS.2.2 dX6_letterAt_39
    · have q_7 : n.toInt < (I this 1).toInt := by have := (not_congr (ow_le _ _)).mp c_5; omega
      refine lv_aload_n hx hb dX6_letterAt_12 rfl (lv_at hl 0 rfl) ?_
      refine cg_12_0_6 hx hb ht hown hK hN hP hthis.1 hthis.2 dX6_letterAt_13 ?_
      have hm_8 : (R this 0) ∈ L ∧ K (R this 0) = 20 := RT.o hRT hthis.1 hthis.2 0 (by decide)
      refine lv_iload_n hx hb dX6_letterAt_16 rfl (lv_at hl 1 rfl) ?_
      have q_9 : vp_in n 1700 := vp_in_iff.mpr ⟨by omega, by omega⟩
      refine cl_20 hx hb hK hP hm_8.1 hm_8.2 q_9 dX6_letterAt_17 ?_
      refine lv_topi (fun v_10 ev_10 => ?_)
      have q_11 : v_10.toInt = (E (R this 0) (Int32.toNatClampNeg n)).toInt := congrArg Int32.toInt ev_10
      refine lv_bipush (v := 97) hx hb dX6_letterAt_18 (by decide) ?_
      refine lv_icmp_lt (tgt := 38) hx hb dX6_letterAt_20 (by decide) (fun c_12 => ?_) (fun c_12 => ?_)
      · have q_13 : v_10.toInt < (97 : Int32).toInt := (ow_lt _ _).mp c_12
        refine lv_iconst (v := 0) hx hb dX6_letterAt_38 (by decide) ?_
        refine W.widen (k := 0) (n := 0) (Nat.le_of_ble_eq_true rfl) (Nat.le_of_ble_eq_true rfl) ?_
        exact W.zret (v := 0) hx hb hr rfl (fun t ht9 hW => ⟨⟨0, (), rfl, (by omega), trivial⟩, hS.F ht9⟩) hS.2.2 dX6_letterAt_39
      · have q_14 : (97 : Int32).toInt ≤ v_10.toInt := by have := (not_congr (ow_lt _ _)).mp c_12; omega
        refine lv_aload_n hx hb dX6_letterAt_23 rfl (lv_at hl 0 rfl) ?_
        refine cg_12_0_6 hx hb ht hown hK hN hP hthis.1 hthis.2 dX6_letterAt_24 ?_
        refine lv_iload_n hx hb dX6_letterAt_27 rfl (lv_at hl 1 rfl) ?_
        have q_15 : vp_in n 1700 := vp_in_iff.mpr ⟨by omega, by omega⟩
        refine cl_20 hx hb hK hP hm_8.1 hm_8.2 q_15 dX6_letterAt_28 ?_
        refine ow_top v_10 ev_10.symm ?_
        refine lv_bipush (v := 122) hx hb dX6_letterAt_29 (by decide) ?_
        refine lv_icmp_gt (tgt := 38) hx hb dX6_letterAt_31 (by decide) (fun c_16 => ?_) (fun c_16 => ?_)
        · have q_17 : (122 : Int32).toInt < v_10.toInt := (ow_lt _ _).mp c_16
          refine lv_iconst (v := 0) hx hb dX6_letterAt_38 (by decide) ?_
          refine W.widen (k := 0) (n := 0) (Nat.le_of_ble_eq_true rfl) (Nat.le_of_ble_eq_true rfl) ?_
          exact W.zret (v := 0) hx hb hr rfl (fun t ht9 hW => ⟨⟨0, (), rfl, (by omega), trivial⟩, hS.F ht9⟩) hS.2.2 dX6_letterAt_39
        · have q_18 : v_10.toInt ≤ (122 : Int32).toInt := by have := (not_congr (ow_lt _ _)).mp c_16; omega
          refine lv_iconst (v := 1) hx hb dX6_letterAt_34 (by decide) ?_
          refine lv_goto (tgt := 39) hx hb dX6_letterAt_35 (by decide) ?_
          refine W.widen (k := 0) (n := 0) (Nat.le_of_ble_eq_true rfl) (Nat.le_of_ble_eq_true rfl) ?_
          exact W.zret (v := 1) hx hb hr rfl (fun t ht9 hW => ⟨⟨1, (), rfl, (by omega), trivial⟩, hS.F ht9⟩) hS.2.2 dX6_letterAt_39
set_option maxHeartbeats 4000000 in
set_option maxRecDepth 100000 in
theorem r_digitAt (l : Launch) (G : va_G) (cy : Nat → ClassId) (sz : Nat) (L : List Nat) (K : Nat → Nat) (R : Nat → Nat → Nat) (T : Int) (I E : Nat → Nat → Int32) (J B : Nat → Nat → Int64) (this : Nat) (n : Int32) (hRT : RT L K R) (hI : IV T L K I) (hE : EV L K E) (hthis1 : this ∈ L) (hthis2 : K this = 12) : Met l yX6_digitAt (.code yX6_digitAt cX6_digitAt 2 (some .boolean) :: TBg) ({ frames := 1, cells := 0, slots := 0, locals := 64 }) (va_Pc [.ref this, .int n] (En G cy (WC cy L K R I J E B) sz)) (va_Qi (fun (r : Int32) (_ : Unit) => (r.toInt = 0 ∨ r.toInt = 1) ∧ (r.toInt = 0 ∨ (48 ≤ (E (R this 0) (Int32.toNatClampNeg n)).toInt ∧ (E (R this 0) (Int32.toNatClampNeg n)).toInt ≤ 57))) (fun _ _ => True) (va_A [] sz)) 0 0 (va_A [] sz) := by
  have hthis : this ∈ L ∧ K this = 12 := ⟨hthis1, hthis2⟩
  refine Met.ofW (cc := cX6_digitAt) (maxL := 2) (ret := (some .boolean)) (by decide) rfl ?_
  intro p e s m args below meth c s₁ B9 hml hv9
  obtain ⟨rfl, hsz, hP, hK, hD0, hN⟩ := hv9
  have hx := B9.exec
  have hb := B9.bytes
  have hr := B9.returns
  have hts := atoms_spec (ws := .code yX6_digitAt cX6_digitAt 2 (some .boolean) :: TBg) B9.pre
  have ht : ∀ w ∈ TBg, w.before _ s = true := fun w h => hts w (List.mem_cons_of_mem _ h)
  have hown : s.vm.findClass RX6 = some m.cls := findClass_of_methodNamed B9.named
  have hlocks := B9.notSynchronized
  subst hsz
  generalize hAe : va_A [] s.heap.size = A at ⊢
  have hA : ∀ q : Nat, s.heap.size ≤ q → A q := fun q h => by rw [← hAe]; exact Or.inr h
  have hS : va_S A s.heap s.heap [] := va_S.rf
  have hl := lv_entry ([.ref this, .int n]) (n := 2) (Nat.le_of_ble_eq_true rfl)
  rw [lg_entry_eq]
  generalize (lg_sl ([.ref this, .int n]) ++ List.replicate (2 - (lg_sl ([.ref this, .int n])).length) Slot.unset).toArray = ls at hl ⊢
  have hl : lv_has ls 2 [(0, .ref this), (1, .int n)] := hl
  have z0 : (0 : Int32).toInt = 0 := by decide
  have z1 : (1 : Int32).toInt = 1 := by decide
  have z2 : (48 : Int32).toInt = 48 := by decide
  have z3 : (57 : Int32).toInt = 57 := by decide
  refine lv_iload_n hx hb dX6_digitAt_0 rfl (lv_at hl 1 rfl) ?_
  refine lv_if_lt (tgt := 38) hx hb dX6_digitAt_1 (by decide) (fun c_1 => ?_) (fun c_1 => ?_)
  · have q_2 : n.toInt < (0 : Int32).toInt := (ow_lt _ _).mp c_1
    refine lv_iconst (v := 0) hx hb dX6_digitAt_38 (by decide) ?_
    refine W.widen (k := 0) (n := 0) (Nat.le_of_ble_eq_true rfl) (Nat.le_of_ble_eq_true rfl) ?_
    exact W.zret (v := 0) hx hb hr rfl (fun t ht9 hW => ⟨⟨0, (), rfl, ⟨(by omega), (show (0 : Int32).toInt = 0 ∨ (48 ≤ (E (R this 0) (Int32.toNatClampNeg n)).toInt ∧ (E (R this 0) (Int32.toNatClampNeg n)).toInt ≤ 57) from by omega)⟩, trivial⟩, hS.F ht9⟩) hS.2.2 dX6_digitAt_39
  · have q_3 : (0 : Int32).toInt ≤ n.toInt := by have := (not_congr (ow_lt _ _)).mp c_1; omega
    refine lv_iload_n hx hb dX6_digitAt_4 rfl (lv_at hl 1 rfl) ?_
    refine lv_aload_n hx hb dX6_digitAt_5 rfl (lv_at hl 0 rfl) ?_
    refine cg_12_1_6 hx hb ht hown hK hN hP hthis.1 hthis.2 dX6_digitAt_6 ?_
    have q_4 : 0 ≤ (I this 1).toInt ∧ (I this 1).toInt ≤ 1700 := IV.rd hI hthis.1 hthis.2 1
    refine lv_icmp_ge (tgt := 38) hx hb dX6_digitAt_9 (by decide) (fun c_5 => ?_) (fun c_5 => ?_)
    · have q_6 : (I this 1).toInt ≤ n.toInt := (ow_le _ _).mp c_5
      refine lv_iconst (v := 0) hx hb dX6_digitAt_38 (by decide) ?_
      refine W.widen (k := 0) (n := 0) (Nat.le_of_ble_eq_true rfl) (Nat.le_of_ble_eq_true rfl) ?_
      exact W.zret (v := 0) hx hb hr rfl (fun t ht9 hW => ⟨⟨0, (), rfl, ⟨(by omega), (show (0 : Int32).toInt = 0 ∨ (48 ≤ (E (R this 0) (Int32.toNatClampNeg n)).toInt ∧ (E (R this 0) (Int32.toNatClampNeg n)).toInt ≤ 57) from by omega)⟩, trivial⟩, hS.F ht9⟩) hS.2.2 dX6_digitAt_39
    · have q_7 : n.toInt < (I this 1).toInt := by have := (not_congr (ow_le _ _)).mp c_5; omega
      refine lv_aload_n hx hb dX6_digitAt_12 rfl (lv_at hl 0 rfl) ?_
      refine cg_12_0_6 hx hb ht hown hK hN hP hthis.1 hthis.2 dX6_digitAt_13 ?_
      have hm_8 : (R this 0) ∈ L ∧ K (R this 0) = 20 := RT.o hRT hthis.1 hthis.2 0 (by decide)
      refine lv_iload_n hx hb dX6_digitAt_16 rfl (lv_at hl 1 rfl) ?_
      have q_9 : vp_in n 1700 := vp_in_iff.mpr ⟨by omega, by omega⟩
      refine cl_20 hx hb hK hP hm_8.1 hm_8.2 q_9 dX6_digitAt_17 ?_
      refine lv_topi (fun v_10 ev_10 => ?_)
      have q_11 : v_10.toInt = (E (R this 0) (Int32.toNatClampNeg n)).toInt := congrArg Int32.toInt ev_10
      refine lv_bipush (v := 48) hx hb dX6_digitAt_18 (by decide) ?_
      refine lv_icmp_lt (tgt := 38) hx hb dX6_digitAt_20 (by decide) (fun c_12 => ?_) (fun c_12 => ?_)
      · have q_13 : v_10.toInt < (48 : Int32).toInt := (ow_lt _ _).mp c_12
        refine lv_iconst (v := 0) hx hb dX6_digitAt_38 (by decide) ?_
        refine W.widen (k := 0) (n := 0) (Nat.le_of_ble_eq_true rfl) (Nat.le_of_ble_eq_true rfl) ?_
        exact W.zret (v := 0) hx hb hr rfl (fun t ht9 hW => ⟨⟨0, (), rfl, ⟨(by omega), (show (0 : Int32).toInt = 0 ∨ (48 ≤ (E (R this 0) (Int32.toNatClampNeg n)).toInt ∧ (E (R this 0) (Int32.toNatClampNeg n)).toInt ≤ 57) from by omega)⟩, trivial⟩, hS.F ht9⟩) hS.2.2 dX6_digitAt_39
      · have q_14 : (48 : Int32).toInt ≤ v_10.toInt := by have := (not_congr (ow_lt _ _)).mp c_12; omega
        refine lv_aload_n hx hb dX6_digitAt_23 rfl (lv_at hl 0 rfl) ?_
        refine cg_12_0_6 hx hb ht hown hK hN hP hthis.1 hthis.2 dX6_digitAt_24 ?_
        refine lv_iload_n hx hb dX6_digitAt_27 rfl (lv_at hl 1 rfl) ?_
        have q_15 : vp_in n 1700 := vp_in_iff.mpr ⟨by omega, by omega⟩
        refine cl_20 hx hb hK hP hm_8.1 hm_8.2 q_15 dX6_digitAt_28 ?_
        refine ow_top v_10 ev_10.symm ?_
        refine lv_bipush (v := 57) hx hb dX6_digitAt_29 (by decide) ?_
        refine lv_icmp_gt (tgt := 38) hx hb dX6_digitAt_31 (by decide) (fun c_16 => ?_) (fun c_16 => ?_)
        · have q_17 : (57 : Int32).toInt < v_10.toInt := (ow_lt _ _).mp c_16
          refine lv_iconst (v := 0) hx hb dX6_digitAt_38 (by decide) ?_
          refine W.widen (k := 0) (n := 0) (Nat.le_of_ble_eq_true rfl) (Nat.le_of_ble_eq_true rfl) ?_
          exact W.zret (v := 0) hx hb hr rfl (fun t ht9 hW => ⟨⟨0, (), rfl, ⟨(by omega), (show (0 : Int32).toInt = 0 ∨ (48 ≤ (E (R this 0) (Int32.toNatClampNeg n)).toInt ∧ (E (R this 0) (Int32.toNatClampNeg n)).toInt ≤ 57) from by omega)⟩, trivial⟩, hS.F ht9⟩) hS.2.2 dX6_digitAt_39
        · have q_18 : v_10.toInt ≤ (57 : Int32).toInt := by have := (not_congr (ow_lt _ _)).mp c_16; omega
          refine lv_iconst (v := 1) hx hb dX6_digitAt_34 (by decide) ?_
          refine lv_goto (tgt := 39) hx hb dX6_digitAt_35 (by decide) ?_
          refine W.widen (k := 0) (n := 0) (Nat.le_of_ble_eq_true rfl) (Nat.le_of_ble_eq_true rfl) ?_
          exact W.zret (v := 1) hx hb hr rfl (fun t ht9 hW => ⟨⟨1, (), rfl, ⟨(by omega), (show (1 : Int32).toInt = 0 ∨ (48 ≤ (E (R this 0) (Int32.toNatClampNeg n)).toInt ∧ (E (R this 0) (Int32.toNatClampNeg n)).toInt ≤ 57) from by omega)⟩, trivial⟩, hS.F ht9⟩) hS.2.2 dX6_digitAt_39
set_option maxHeartbeats 4000000 in
set_option maxRecDepth 100000 in
theorem r_sortOfWord (l : Launch) (G : va_G) (cy : Nat → ClassId) (sz : Nat) (tq qq wq : Nat) (fo : Option Nat) (L : List Nat) (K : Nat → Nat) (R : Nat → Nat → Nat) (T : Int) (I E : Nat → Nat → Int32) (J B : Nat → Nat → Int64) (this : Nat) (n : Int32) (hRT : RT L K R) (hI : IV T L K I) (hE : EV L K E) (hthis1 : this ∈ L) (hthis2 : K this = 12) (hn9 : n.toInt + (I this 5).toInt ≤ 1700) : Met l yX6_sortOfWord (.code yX6_sortOfWord cX6_sortOfWord 4 (some .int) :: TBg) ({ frames := 5, cells := 0, slots := 0, locals := 320 }) (va_Pc [.ref this, .int n] (EnX G cy (WC cy L K R I J E B) sz tq qq wq fo (va_A [] sz))) (va_Qi (fun (r : Int32) (_ : Unit) => (0 ≤ r.toInt ∧ r.toInt ≤ 18) ∧ (r.toInt ≠ 16)) (fun _ _ => True) (va_A [] sz)) 0 0 (va_A [] sz) := by
  have hthis : this ∈ L ∧ K this = 12 := ⟨hthis1, hthis2⟩
  refine Met.ofW (cc := cX6_sortOfWord) (maxL := 4) (ret := (some .int)) (by decide) rfl ?_
  intro p e s m args below meth c s₁ B9 hml hv9
  obtain ⟨rfl, ⟨hsz, hP, hK, hD0, hN⟩, hX⟩ := hv9
  have hx := B9.exec
  have hb := B9.bytes
  have hr := B9.returns
  have hts := atoms_spec (ws := .code yX6_sortOfWord cX6_sortOfWord 4 (some .int) :: TBg) B9.pre
  have ht : ∀ w ∈ TBg, w.before _ s = true := fun w h => hts w (List.mem_cons_of_mem _ h)
  have hown : s.vm.findClass RX6 = some m.cls := findClass_of_methodNamed B9.named
  have hlocks := B9.notSynchronized
  subst hsz
  generalize hAe : va_A [] s.heap.size = A at hX ⊢
  have hA : ∀ q : Nat, s.heap.size ≤ q → A q := fun q h => by rw [← hAe]; exact Or.inr h
  have hS : va_S A s.heap s.heap [] := va_S.rf
  have hl := lv_entry ([.ref this, .int n]) (n := 4) (Nat.le_of_ble_eq_true rfl)
  rw [lg_entry_eq]
  generalize (lg_sl ([.ref this, .int n]) ++ List.replicate (4 - (lg_sl ([.ref this, .int n])).length) Slot.unset).toArray = ls at hl ⊢
  have hl : lv_has ls 4 [(0, .ref this), (1, .int n)] := hl
  have z0 : (0 : Int32).toInt = 0 := by decide
  have z1 : (1 : Int32).toInt = 1 := by decide
  have z2 : (8 : Int32).toInt = 8 := by decide
  have z3 : (15 : Int32).toInt = 15 := by decide
  have z4 : (18 : Int32).toInt = 18 := by decide
  have z5 : (32 : Int32).toInt = 32 := by decide
  have z6 : (120 : Int32).toInt = 120 := by decide
  have ru_this5 : 0 ≤ (I this 5).toInt ∧ (I this 5).toInt ≤ 1700 := IV.rd hI hthis.1 hthis.2 5
  refine lv_iload_n hx hb dX6_sortOfWord_0 rfl (lv_at hl 1 rfl) ?_
  refine lv_bipush (v := 8) hx hb dX6_sortOfWord_1 (by decide) ?_
  refine lv_icmp_le (tgt := 9) hx hb dX6_sortOfWord_3 (by decide) (fun c_1 => ?_) (fun c_1 => ?_)
  · have q_2 : n.toInt ≤ (8 : Int32).toInt := (ow_le _ _).mp c_1
    refine lv_iconst (v := 0) hx hb dX6_sortOfWord_9 (by decide) ?_
    refine lv_istore_n (lv' := [(2, .int 0), (0, .ref this), (1, .int n)]) hx hb dX6_sortOfWord_10 rfl hl (by decide) rfl (fun ls hl => ?_)
    refine W.widen (k := 0) (n := 0) (Nat.le_of_ble_eq_true rfl) (Nat.le_of_ble_eq_true rfl) ?_
    have lp_3 : ∀ (N_3 : Nat) (x2_3 : Int32) (H : Heap) (locs : List Loc) (ls : Array Slot), (0 ≤ x2_3.toInt ∧ x2_3.toInt ≤ 120) → (128 - x2_3.toInt).toNat < N_3 → va_P G vwCl (WC cy L K R I J E B) H → va_S A s.heap H locs → lv_has ls 4 [(2, .int x2_3), (0, .ref this), (1, .int n)] → W p l e (headSpec (.code yX6_sortOfWord cX6_sortOfWord 4 (some .int) :: TBg) ({ frames := 5, cells := 0, slots := 0, locals := 320 })).room s m ([.ref this, .int n] : List Value).toArray below meth c H locs 0 0 (MQ below (va_Qi (fun (r : Int32) (_ : Unit) => (0 ≤ r.toInt ∧ r.toInt ≤ 18) ∧ (r.toInt ≠ 16)) (fun _ _ => True) A) ([.ref this, .int n] : List Value).toArray s 0 0 A) (F0 m 11 ls []) := by
      intro N_3
      induction N_3 with
      | zero => intro x2_3 H locs ls qf3_0 hm9 hP hS hl; exact absurd hm9 (Nat.not_lt_zero _)
      | succ N_3 ih_3 =>
        intro x2_3 H locs ls qf3_0 hm9 hP hS hl
        refine lv_iload_n hx hb dX6_sortOfWord_11 rfl (lv_at hl 0 rfl) ?_
        refine lv_bipush (v := 8) hx hb dX6_sortOfWord_12 (by decide) ?_
        refine lv_iadd hx hb dX6_sortOfWord_14 ?_
        refine lv_topi (fun v_4 ev_4 => ?_)
        have q_5 : v_4.toInt = x2_3.toInt + (8 : Int32).toInt := ow_add ev_4 (by omega) (by omega)
        refine va_ldcS hx hb hown hX.2.1.1 dX6_sortOfWord_15 ?_
        have hFc := fr_new hS hA
        refine va_calli (va_runV (As := []) (rest := [.int v_4]) ⟨hx, hb, hml, hown, ht⟩ (j_len l G cy _ tq qq wq fo    ) (cwV 0 ht (gv k_622 k_623 k_624 k_605 k_621) rfl rfl rfl (by decide +kernel) ⟨Nat.le_of_ble_eq_true rfl, Nat.le_of_ble_eq_true rfl⟩) ⟨EnX.blind, str_recv hX hS, fun U hU hW => ⟨rfl, En.of hU hW (va_P0 (H := _)) hK va_D0 hN, XK.of hX hS hFc hU hW⟩⟩ rfl rfl hl.1 rfl (lv_room (Nat.le_of_ble_eq_true rfl)) dX6_sortOfWord_17 ⟨Nat.le_of_ble_eq_true rfl, Nat.le_of_ble_eq_true rfl⟩) hS (fun q _ h => hFc q h) hFc (fun r_u_6 u_6 t9 H locs ht9 hvm hw hB hz1 hk1 hS => ?_)
        have hP := fr_keep hP hk1
        have wu_6 := hw
        clear hFc hk1 hz1 hB hw
        obtain rfl : r_u_6 = 120 := (ow_eq _ _).mpr (by omega)
        refine lv_icmp_gt (tgt := 86) hx hb dX6_sortOfWord_20 (by decide) (fun c_7 => ?_) (fun c_7 => ?_)
        · have q_8 : (120 : Int32).toInt < v_4.toInt := (ow_lt _ _).mp c_7
          refine lv_bipush (v := 15) hx hb dX6_sortOfWord_86 (by decide) ?_
          refine W.widen (k := 0) (n := 0) (Nat.le_of_ble_eq_true rfl) (Nat.le_of_ble_eq_true rfl) ?_
          exact W.iret (v := 15) hx hb hr (fun t ht9 hW => ⟨⟨15, (), rfl, ⟨(by omega), (show (15 : Int32).toInt ≠ 16 from by omega)⟩, trivial⟩, hS.F ht9⟩) hS.2.2 dX6_sortOfWord_88
        · have q_9 : v_4.toInt ≤ (120 : Int32).toInt := by have := (not_congr (ow_lt _ _)).mp c_7; omega
          refine lv_iconst (v := 0) hx hb dX6_sortOfWord_23 (by decide) ?_
          refine lv_istore_n (lv' := [(3, .int 0), (2, .int x2_3), (0, .ref this), (1, .int n)]) hx hb dX6_sortOfWord_24 rfl hl (by decide) rfl (fun ls hl => ?_)
          refine W.widen (k := 0) (n := 0) (Nat.le_of_ble_eq_true rfl) (Nat.le_of_ble_eq_true rfl) ?_
          have lp_10 : ∀ (N_10 : Nat) (x3_10 : Int32) (H : Heap) (locs : List Loc) (ls : Array Slot), (0 ≤ x3_10.toInt ∧ x3_10.toInt ≤ 8) → (8 - x3_10.toInt).toNat < N_10 → va_P G vwCl (WC cy L K R I J E B) H → va_S A s.heap H locs → lv_has ls 4 [(3, .int x3_10), (2, .int x2_3), (0, .ref this), (1, .int n)] → W p l e (headSpec (.code yX6_sortOfWord cX6_sortOfWord 4 (some .int) :: TBg) ({ frames := 5, cells := 0, slots := 0, locals := 320 })).room s m ([.ref this, .int n] : List Value).toArray below meth c H locs 0 0 (MQ below (va_Qi (fun (r : Int32) (_ : Unit) => (0 ≤ r.toInt ∧ r.toInt ≤ 18) ∧ (r.toInt ≠ 16)) (fun _ _ => True) A) ([.ref this, .int n] : List Value).toArray s 0 0 A) (F0 m 25 ls []) := by
            intro N_10
            induction N_10 with
            | zero => intro x3_10 H locs ls qf10_0 hm9 hP hS hl; exact absurd hm9 (Nat.not_lt_zero _)
            | succ N_10 ih_10 =>
              intro x3_10 H locs ls qf10_0 hm9 hP hS hl
              refine lv_iload_n hx hb dX6_sortOfWord_25 rfl (lv_at hl 0 rfl) ?_
              refine lv_bipush (v := 8) hx hb dX6_sortOfWord_26 (by decide) ?_
              refine lv_icmp_ge (tgt := 69) hx hb dX6_sortOfWord_28 (by decide) (fun c_11 => ?_) (fun c_11 => ?_)
              · have q_12 : (8 : Int32).toInt ≤ x3_10.toInt := (ow_le _ _).mp c_11
                refine lv_iload_n hx hb dX6_sortOfWord_69 rfl (lv_at hl 0 rfl) ?_
                refine lv_bipush (v := 8) hx hb dX6_sortOfWord_70 (by decide) ?_
                refine lv_icmp_ne (tgt := 80) hx hb dX6_sortOfWord_72 (by decide) (fun c_13 => ?_) (fun c_13 => ?_)
                · have q_14 : ¬ x3_10.toInt = (8 : Int32).toInt := by have := (not_congr (ow_eq _ _)).mp c_13; omega
                  exfalso
                  omega
                · have q_15 : x3_10.toInt = (8 : Int32).toInt := (ow_eq _ _).mp c_13
                  refine lv_iload_n hx hb dX6_sortOfWord_75 rfl (lv_at hl 1 rfl) ?_
                  refine lv_bipush (v := 8) hx hb dX6_sortOfWord_76 (by decide) ?_
                  refine lv_idiv hx hb dX6_sortOfWord_78 (by decide) ?_
                  refine lv_topi (fun v_16 ev_16 => ?_)
                  have q_17 : v_16.toInt = x2_3.toInt / 8 := ow_div ev_16 (by decide) (by omega) (by omega)
                  refine W.widen (k := 0) (n := 0) (Nat.le_of_ble_eq_true rfl) (Nat.le_of_ble_eq_true rfl) ?_
                  exact W.iret (v := v_16) hx hb hr (fun t ht9 hW => ⟨⟨v_16, (), rfl, ⟨(by omega), (show v_16.toInt ≠ 16 from by omega)⟩, trivial⟩, hS.F ht9⟩) hS.2.2 dX6_sortOfWord_79
              · have q_18 : x3_10.toInt < (8 : Int32).toInt := by have := (not_congr (ow_le _ _)).mp c_11; omega
                refine va_ldcS hx hb hown hX.2.1.1 dX6_sortOfWord_31 ?_
                refine lv_iload_n hx hb dX6_sortOfWord_33 rfl (lv_at hl 1 rfl) ?_
                refine lv_iload_n hx hb dX6_sortOfWord_34 rfl (lv_at hl 0 rfl) ?_
                refine lv_iadd hx hb dX6_sortOfWord_35 ?_
                refine lv_topi (fun v_19 ev_19 => ?_)
                have q_20 : v_19.toInt = x2_3.toInt + x3_10.toInt := ow_add ev_19 (by omega) (by omega)
                have hFc := fr_new hS hA
                refine va_calli (va_runV (As := [.int v_19]) (rest := []) ⟨hx, hb, hml, hown, ht⟩ (j_charAt l G cy _ tq qq wq fo  v_19  (by omega)) (cwV 1 ht (gv k_626 k_627 k_628 k_605 k_625) rfl rfl rfl (by decide +kernel) ⟨Nat.le_of_ble_eq_true rfl, Nat.le_of_ble_eq_true rfl⟩) ⟨EnX.blind, str_recv hX hS, fun U hU hW => ⟨rfl, En.of hU hW (va_P0 (H := _)) hK va_D0 hN, XK.of hX hS hFc hU hW⟩⟩ rfl rfl hl.1 rfl (lv_room (Nat.le_of_ble_eq_true rfl)) dX6_sortOfWord_36 ⟨Nat.le_of_ble_eq_true rfl, Nat.le_of_ble_eq_true rfl⟩) hS (fun q _ h => hFc q h) hFc (fun r_u_21 u_21 t9 H locs ht9 hvm hw hB hz1 hk1 hS => ?_)
                have hP := fr_keep hP hk1
                obtain ⟨wu_21, xu_21_C⟩ := hw
                clear hFc hk1 hz1 hB
                refine lv_iload_n hx hb dX6_sortOfWord_39 rfl (lv_at hl 0 rfl) ?_
                refine lv_iload_n hx hb dX6_sortOfWord_40 rfl (lv_at hl 3 rfl) ?_
                refine lv_icmp_ge (tgt := 58) hx hb dX6_sortOfWord_41 (by decide) (fun c_22 => ?_) (fun c_22 => ?_)
                · have q_23 : n.toInt ≤ x3_10.toInt := (ow_le _ _).mp c_22
                  refine lv_bipush (v := 32) hx hb dX6_sortOfWord_58 (by decide) ?_
                  refine lv_icmp_ne (tgt := 69) hx hb dX6_sortOfWord_60 (by decide) (fun c_24 => ?_) (fun c_24 => ?_)
                  · have q_25 : ¬ r_u_21.toInt = (32 : Int32).toInt := by have := (not_congr (ow_eq _ _)).mp c_24; omega
                    refine lv_iload_n hx hb dX6_sortOfWord_69 rfl (lv_at hl 0 rfl) ?_
                    refine lv_bipush (v := 8) hx hb dX6_sortOfWord_70 (by decide) ?_
                    refine lv_icmp_ne (tgt := 80) hx hb dX6_sortOfWord_72 (by decide) (fun c_26 => ?_) (fun c_26 => ?_)
                    · have q_27 : ¬ x3_10.toInt = (8 : Int32).toInt := by have := (not_congr (ow_eq _ _)).mp c_26; omega
                      obtain ⟨v_28, ev_28⟩ : ∃ y : Int32, y = x2_3 + 8 := ⟨_, rfl⟩
                      refine lv_iinc (v := v_28) (lv' := [(2, .int v_28), (3, .int x3_10), (0, .ref this), (1, .int n)]) hx hb dX6_sortOfWord_80 hl (k := 1) rfl (by rw [ev_28]; rfl) (by decide) rfl (fun ls hl => ?_)
                      have q_29 : v_28.toInt = x2_3.toInt + 8 := by have := ow_add ev_28 (by omega) (by omega); omega
                      refine lv_goto (tgt := 11) hx hb dX6_sortOfWord_83 (by decide) ?_
                      refine W.widen (k := 0) (n := 0) (Nat.le_of_ble_eq_true rfl) (Nat.le_of_ble_eq_true rfl) ?_
                      exact ih_3 v_28 _ _ _ (by omega) (by omega) hP hS (lv_sub hl [0, 2, 3] rfl)
                    · have q_30 : x3_10.toInt = (8 : Int32).toInt := (ow_eq _ _).mp c_26
                      exfalso
                      omega
                  · have q_31 : r_u_21.toInt = (32 : Int32).toInt := (ow_eq _ _).mp c_24
                    obtain ⟨v_32, ev_32⟩ : ∃ y : Int32, y = x3_10 + 1 := ⟨_, rfl⟩
                    refine lv_iinc (v := v_32) (lv' := [(3, .int v_32), (2, .int x2_3), (0, .ref this), (1, .int n)]) hx hb dX6_sortOfWord_63 hl (k := 0) rfl (by rw [ev_32]; rfl) (by decide) rfl (fun ls hl => ?_)
                    have q_33 : v_32.toInt = x3_10.toInt + 1 := by have := ow_add ev_32 (by omega) (by omega); omega
                    refine lv_goto (tgt := 25) hx hb dX6_sortOfWord_66 (by decide) ?_
                    refine W.widen (k := 0) (n := 0) (Nat.le_of_ble_eq_true rfl) (Nat.le_of_ble_eq_true rfl) ?_
                    exact ih_10 v_32 _ _ _ (by omega) (by omega) hP hS (lv_sub hl [0, 1, 2, 3] rfl)
                · have q_34 : x3_10.toInt < n.toInt := by have := (not_congr (ow_le _ _)).mp c_22; omega
                  refine lv_aload_n hx hb dX6_sortOfWord_44 rfl (lv_at hl 2 rfl) ?_
                  refine cg_12_0_6 hx hb ht hown hK hN hP hthis.1 hthis.2 dX6_sortOfWord_45 ?_
                  have hm_35 : (R this 0) ∈ L ∧ K (R this 0) = 20 := RT.o hRT hthis.1 hthis.2 0 (by decide)
                  refine lv_aload_n hx hb dX6_sortOfWord_48 rfl (lv_at hl 2 rfl) ?_
                  refine cg_12_5_6 hx hb ht hown hK hN hP hthis.1 hthis.2 dX6_sortOfWord_49 ?_
                  have q_36 : 0 ≤ (I this 5).toInt ∧ (I this 5).toInt ≤ 1700 := IV.rd hI hthis.1 hthis.2 5
                  refine lv_iload_n hx hb dX6_sortOfWord_52 rfl (lv_at hl 0 rfl) ?_
                  refine lv_iadd hx hb dX6_sortOfWord_53 ?_
                  refine lv_topi (fun v_37 ev_37 => ?_)
                  have q_38 : v_37.toInt = (I this 5).toInt + x3_10.toInt := ow_add ev_37 (by omega) (by omega)
                  have q_39 : vp_in v_37 1700 := vp_in_iff.mpr ⟨by omega, by omega⟩
                  refine cl_20 hx hb hK hP hm_35.1 hm_35.2 q_39 dX6_sortOfWord_54 ?_
                  refine lv_topi (fun v_40 ev_40 => ?_)
                  have q_41 : v_40.toInt = (E (R this 0) (Int32.toNatClampNeg v_37)).toInt := congrArg Int32.toInt ev_40
                  refine lv_goto (tgt := 60) hx hb dX6_sortOfWord_55 (by decide) ?_
                  refine lv_icmp_ne (tgt := 69) hx hb dX6_sortOfWord_60 (by decide) (fun c_42 => ?_) (fun c_42 => ?_)
                  · have q_43 : ¬ r_u_21.toInt = v_40.toInt := by have := (not_congr (ow_eq _ _)).mp c_42; omega
                    refine lv_iload_n hx hb dX6_sortOfWord_69 rfl (lv_at hl 0 rfl) ?_
                    refine lv_bipush (v := 8) hx hb dX6_sortOfWord_70 (by decide) ?_
                    refine lv_icmp_ne (tgt := 80) hx hb dX6_sortOfWord_72 (by decide) (fun c_44 => ?_) (fun c_44 => ?_)
                    · have q_45 : ¬ x3_10.toInt = (8 : Int32).toInt := by have := (not_congr (ow_eq _ _)).mp c_44; omega
                      obtain ⟨v_46, ev_46⟩ : ∃ y : Int32, y = x2_3 + 8 := ⟨_, rfl⟩
                      refine lv_iinc (v := v_46) (lv' := [(2, .int v_46), (3, .int x3_10), (0, .ref this), (1, .int n)]) hx hb dX6_sortOfWord_80 hl (k := 1) rfl (by rw [ev_46]; rfl) (by decide) rfl (fun ls hl => ?_)
                      have q_47 : v_46.toInt = x2_3.toInt + 8 := by have := ow_add ev_46 (by omega) (by omega); omega
                      refine lv_goto (tgt := 11) hx hb dX6_sortOfWord_83 (by decide) ?_
                      refine W.widen (k := 0) (n := 0) (Nat.le_of_ble_eq_true rfl) (Nat.le_of_ble_eq_true rfl) ?_
                      exact ih_3 v_46 _ _ _ (by omega) (by omega) hP hS (lv_sub hl [0, 2, 3] rfl)
                    · have q_48 : x3_10.toInt = (8 : Int32).toInt := (ow_eq _ _).mp c_44
                      exfalso
                      omega
                  · have q_49 : r_u_21.toInt = v_40.toInt := (ow_eq _ _).mp c_42
                    obtain ⟨v_50, ev_50⟩ : ∃ y : Int32, y = x3_10 + 1 := ⟨_, rfl⟩
                    refine lv_iinc (v := v_50) (lv' := [(3, .int v_50), (2, .int x2_3), (0, .ref this), (1, .int n)]) hx hb dX6_sortOfWord_63 hl (k := 0) rfl (by rw [ev_50]; rfl) (by decide) rfl (fun ls hl => ?_)
                    have q_51 : v_50.toInt = x3_10.toInt + 1 := by have := ow_add ev_50 (by omega) (by omega); omega
                    refine lv_goto (tgt := 25) hx hb dX6_sortOfWord_66 (by decide) ?_
                    refine W.widen (k := 0) (n := 0) (Nat.le_of_ble_eq_true rfl) (Nat.le_of_ble_eq_true rfl) ?_
                    exact ih_10 v_50 _ _ _ (by omega) (by omega) hP hS (lv_sub hl [0, 1, 2, 3] rfl)
          exact lp_10 _ (0) _ _ _ (by omega) (Nat.lt_succ_self _) hP hS (lv_sub hl [0, 1, 2, 3] rfl)
    exact lp_3 _ (0) _ _ _ (by omega) (Nat.lt_succ_self _) hP hS (lv_sub hl [0, 1, 2] rfl)
  · have q_52 : (8 : Int32).toInt < n.toInt := by have := (not_congr (ow_le _ _)).mp c_1; omega
    refine lv_bipush (v := 18) hx hb dX6_sortOfWord_6 (by decide) ?_
    refine W.widen (k := 0) (n := 0) (Nat.le_of_ble_eq_true rfl) (Nat.le_of_ble_eq_true rfl) ?_
    exact W.iret (v := 18) hx hb hr (fun t ht9 hW => ⟨⟨18, (), rfl, ⟨(by omega), (show (18 : Int32).toInt ≠ 16 from by omega)⟩, trivial⟩, hS.F ht9⟩) hS.2.2 dX6_sortOfWord_8
set_option maxHeartbeats 4000000 in
set_option maxRecDepth 100000 in
theorem r_takeLetters (l : Launch) (G : va_G) (cy : Nat → ClassId) (sz : Nat) (L : List Nat) (K : Nat → Nat) (R : Nat → Nat → Nat) (T : Int) (I E : Nat → Nat → Int32) (J B : Nat → Nat → Int64) (this : Nat)  (hRT : RT L K R) (hI : IV T L K I) (hE : EV L K E) (hthis1 : this ∈ L) (hthis2 : K this = 12) : Met l yX6_takeLetters (.code yX6_takeLetters cX6_takeLetters 1 none :: TBg) ({ frames := 2, cells := 0, slots := 0, locals := 128 }) (va_Pc [.ref this] (En G cy (WC cy L K R I J E B) sz)) (va_Qv (fun (u : (Nat → Nat → Int32) × (Nat → Nat → Int64) × (Nat → Nat → Int32) × (Nat → Nat → Int64)) => IV T L K u.1 ∧ EV L K u.2.2.1 ∧ FI [(12, 3)] K I u.1 ∧ (True)) (fun u t => Ex G (va_A (WC cy L K R I J E B) sz) (WC cy L K R u.1 u.2.1 u.2.2.1 u.2.2.2) t) (va_A (WC cy L K R I J E B) sz)) 0 0 (va_A (WC cy L K R I J E B) sz) := by
  have hthis : this ∈ L ∧ K this = 12 := ⟨hthis1, hthis2⟩
  refine Met.ofW (cc := cX6_takeLetters) (maxL := 1) (ret := none) (by decide) rfl ?_
  intro p e s m args below meth c s₁ B9 hml hv9
  obtain ⟨rfl, hsz, hP, hK, hD0, hN⟩ := hv9
  have hx := B9.exec
  have hb := B9.bytes
  have hr := B9.returns
  have hts := atoms_spec (ws := .code yX6_takeLetters cX6_takeLetters 1 none :: TBg) B9.pre
  have ht : ∀ w ∈ TBg, w.before _ s = true := fun w h => hts w (List.mem_cons_of_mem _ h)
  have hown : s.vm.findClass RX6 = some m.cls := findClass_of_methodNamed B9.named
  have hlocks := B9.notSynchronized
  subst hsz
  have hD := hD0.self (sz := s.heap.size)
  generalize hAe : va_A (WC cy L K R I J E B) s.heap.size = A at hD ⊢
  have hA : ∀ q : Nat, s.heap.size ≤ q → A q := fun q h => by rw [← hAe]; exact Or.inr h
  have hS : va_S A s.heap s.heap [] := va_S.rf
  have hl := lv_entry ([.ref this]) (n := 1) (Nat.le_of_ble_eq_true rfl)
  rw [lg_entry_eq]
  generalize (lg_sl ([.ref this]) ++ List.replicate (1 - (lg_sl ([.ref this])).length) Slot.unset).toArray = ls at hl ⊢
  have hl : lv_has ls 1 [(0, .ref this)] := hl
  have z0 : (0 : Int32).toInt = 0 := by decide
  have z1 : (1 : Int32).toInt = 1 := by decide
  have hC_0 : FI [(12, 3)] K I I := FI.rf
  refine lv_aload_n hx hb dX6_takeLetters_0 rfl (lv_at hl 0 rfl) ?_
  refine lv_lconst (v := 0) hx hb dX6_takeLetters_1 (by decide) ?_
  refine cp_12_7_6 hx hb ht hown hK hN hP hD hS hthis.1 hthis.2 dX6_takeLetters_2 (fun H locs hP hD hS => ?_)
  generalize (va_up J this (va_up (J this) 7 (0 : Int64))) = J_1 at hP hD
  refine W.widen (k := 0) (n := 0) (Nat.le_of_ble_eq_true rfl) (Nat.le_of_ble_eq_true rfl) ?_
  have lp_2 : ∀ (N_2 : Nat) (I2 : Nat → Nat → Int32) (J2 : Nat → Nat → Int64) (E2 : Nat → Nat → Int32) (B2 : Nat → Nat → Int64) (H : Heap) (locs : List Loc) (ls : Array Slot), IV T L K I2 → EV L K E2 → FI [(12, 3)] K I I2 → (1700 - (I2 this 3).toInt).toNat < N_2 → va_P G vwCl (WC cy L K R I2 J2 E2 B2) H → va_D A (WC cy L K R I2 J2 E2 B2) → va_S A s.heap H locs → lv_has ls 1 [(0, .ref this)] → W p l e (headSpec (.code yX6_takeLetters cX6_takeLetters 1 none :: TBg) ({ frames := 2, cells := 0, slots := 0, locals := 128 })).room s m ([.ref this] : List Value).toArray below meth c H locs 0 0 (MQ below (va_Qv (fun (u : (Nat → Nat → Int32) × (Nat → Nat → Int64) × (Nat → Nat → Int32) × (Nat → Nat → Int64)) => IV T L K u.1 ∧ EV L K u.2.2.1 ∧ FI [(12, 3)] K I u.1 ∧ (True)) (fun u t => Ex G A (WC cy L K R u.1 u.2.1 u.2.2.1 u.2.2.2) t) A) ([.ref this] : List Value).toArray s 0 0 A) (F0 m 5 ls []) := by
    intro N_2
    induction N_2 with
    | zero => intro I2 J2 E2 B2 H locs ls hI hE hC_2 hm9 hP hD hS hl; exact absurd hm9 (Nat.not_lt_zero _)
    | succ N_2 ih_2 =>
      intro I2 J2 E2 B2 H locs ls hI hE hC_2 hm9 hP hD hS hl
      replace hC_0 := FI.tr hC_0 hC_2 (by decide)
      have hX_2 := hC_2
      refine lv_aload_n hx hb dX6_takeLetters_5 rfl (lv_at hl 0 rfl) ?_
      refine cg_12_3_6 hx hb ht hown hK hN hP hthis.1 hthis.2 dX6_takeLetters_6 ?_
      have q_3 : 0 ≤ (I2 this 3).toInt ∧ (I2 this 3).toInt ≤ 1700 := IV.rd hI hthis.1 hthis.2 3
      refine lv_aload_n hx hb dX6_takeLetters_9 rfl (lv_at hl 0 rfl) ?_
      refine cg_12_1_6 hx hb ht hown hK hN hP hthis.1 hthis.2 dX6_takeLetters_10 ?_
      refine ow_top (I this 1) (hC_2 this 1 (by rw [hthis.2]; decide)) ?_
      have q_4 : 0 ≤ (I this 1).toInt ∧ (I this 1).toInt ≤ 1700 := by have h9 : I2 this 1 = (I this 1) := (hC_2 this 1 (by rw [hthis.2]; decide)); rw [← h9]; exact IV.rd hI hthis.1 hthis.2 1
      refine lv_icmp_ge (tgt := 68) hx hb dX6_takeLetters_13 (by decide) (fun c_5 => ?_) (fun c_5 => ?_)
      · have q_6 : (I this 1).toInt ≤ (I2 this 3).toInt := (ow_le _ _).mp c_5
        refine W.widen (k := 0) (n := 0) (Nat.le_of_ble_eq_true rfl) (Nat.le_of_ble_eq_true rfl) ?_
        exact W.vret hx hb hr (fun t ht9 hW => ⟨⟨(I2, J2, E2, B2), rfl, ⟨hI, hE, hC_0, trivial⟩, ⟨by rw [ht9]; exact hP, hD⟩⟩, hS.F ht9⟩) hS.2.2 dX6_takeLetters_68
      · have q_7 : (I2 this 3).toInt < (I this 1).toInt := by have := (not_congr (ow_le _ _)).mp c_5; omega
        refine lv_aload_n hx hb dX6_takeLetters_16 rfl (lv_at hl 0 rfl) ?_
        refine lv_aload_n hx hb dX6_takeLetters_17 rfl (lv_at hl 0 rfl) ?_
        refine cg_12_3_6 hx hb ht hown hK hN hP hthis.1 hthis.2 dX6_takeLetters_18 ?_
        have hFc := fr_new hS hA
        refine va_calli (va_runV (As := [.int (I2 this 3)]) (rest := []) ⟨hx, hb, hml, hown, ht⟩ (r_letterAt l G cy _ L K R T I2 E2 J2 B2 this (I2 this 3) hRT hI hE hthis.1 hthis.2) (cwV 1 ht (gv k_630 k_631 k_632 k_633 k_629) rfl rfl rfl (by decide +kernel) ⟨Nat.le_of_ble_eq_true rfl, Nat.le_of_ble_eq_true rfl⟩) ⟨En.blind, cr_12 hK hP hthis.1 hthis.2, fun U hU hW => ⟨rfl, En.of hU hW hP hK hD hN⟩⟩ rfl rfl hl.1 rfl (lv_room (Nat.le_of_ble_eq_true rfl)) dX6_takeLetters_21 ⟨Nat.le_of_ble_eq_true rfl, Nat.le_of_ble_eq_true rfl⟩) hS (fun q _ h => hFc q h) hFc (fun r_u_8 u_8 t9 H locs ht9 hvm hw hB hz1 hk1 hS => ?_)
        have hP := fr_keep hP hk1
        have wu_8 := hw
        clear hFc hk1 hz1 hB hw
        refine lv_if_eq (tgt := 68) hx hb dX6_takeLetters_24 (by decide) (fun c_9 => ?_) (fun c_9 => ?_)
        · have q_10 : r_u_8.toInt = (0 : Int32).toInt := (ow_eq _ _).mp c_9
          refine W.widen (k := 0) (n := 0) (Nat.le_of_ble_eq_true rfl) (Nat.le_of_ble_eq_true rfl) ?_
          exact W.vret hx hb hr (fun t ht9 hW => ⟨⟨(I2, J2, E2, B2), rfl, ⟨hI, hE, hC_0, trivial⟩, ⟨by rw [ht9]; exact hP, hD⟩⟩, hS.F ht9⟩) hS.2.2 dX6_takeLetters_68
        · have q_11 : ¬ r_u_8.toInt = (0 : Int32).toInt := by have := (not_congr (ow_eq _ _)).mp c_9; omega
          refine lv_aload_n hx hb dX6_takeLetters_27 rfl (lv_at hl 0 rfl) ?_
          refine lv_aload_n hx hb dX6_takeLetters_28 rfl (lv_at hl 0 rfl) ?_
          refine cg_12_7_6 hx hb ht hown hK hN hP hthis.1 hthis.2 dX6_takeLetters_29 ?_
          refine lv_topl (fun v_12 ev_12 => ?_)
          refine lv_ldc2 (v := 32) hx hb hown (ht _ k_634) dX6_takeLetters_32 ?_
          refine lv_lmul hx hb dX6_takeLetters_35 ?_
          refine lv_topl (fun v_13 ev_13 => ?_)
          refine lv_aload_n hx hb dX6_takeLetters_36 rfl (lv_at hl 0 rfl) ?_
          refine cg_12_0_6 hx hb ht hown hK hN hP hthis.1 hthis.2 dX6_takeLetters_37 ?_
          have hm_14 : (R this 0) ∈ L ∧ K (R this 0) = 20 := RT.o hRT hthis.1 hthis.2 0 (by decide)
          refine lv_aload_n hx hb dX6_takeLetters_40 rfl (lv_at hl 0 rfl) ?_
          refine cg_12_3_6 hx hb ht hown hK hN hP hthis.1 hthis.2 dX6_takeLetters_41 ?_
          have q_15 : vp_in (I2 this 3) 1700 := vp_in_iff.mpr ⟨by omega, by omega⟩
          refine cl_20 hx hb hK hP hm_14.1 hm_14.2 q_15 dX6_takeLetters_44 ?_
          refine lv_topi (fun v_16 ev_16 => ?_)
          have q_17 : v_16.toInt = (E2 (R this 0) (Int32.toNatClampNeg (I2 this 3))).toInt := congrArg Int32.toInt ev_16
          refine lv_bipush (v := 97) hx hb dX6_takeLetters_45 (by decide) ?_
          refine lv_isub hx hb dX6_takeLetters_47 ?_
          refine lv_topi (fun v_18 ev_18 => ?_)
          refine lv_iconst (v := 1) hx hb dX6_takeLetters_48 (by decide) ?_
          refine lv_iadd hx hb dX6_takeLetters_49 ?_
          refine lv_topi (fun v_19 ev_19 => ?_)
          refine lv_i2l hx hb dX6_takeLetters_50 rfl ?_
          refine lv_topl (fun v_20 ev_20 => ?_)
          refine lv_ladd hx hb dX6_takeLetters_51 ?_
          refine lv_topl (fun v_21 ev_21 => ?_)
          refine cp_12_7_6 hx hb ht hown hK hN hP hD hS hthis.1 hthis.2 dX6_takeLetters_52 (fun H locs hP hD hS => ?_)
          generalize (va_up J2 this (va_up (J2 this) 7 v_21)) = J_22 at hP hD
          refine lv_aload_n hx hb dX6_takeLetters_55 rfl (lv_at hl 0 rfl) ?_
          refine lv_dup hx hb dX6_takeLetters_56 rfl ?_
          refine cg_12_3_6 hx hb ht hown hK hN hP hthis.1 hthis.2 dX6_takeLetters_57 ?_
          refine lv_iconst (v := 1) hx hb dX6_takeLetters_60 (by decide) ?_
          refine lv_iadd hx hb dX6_takeLetters_61 ?_
          refine lv_topi (fun v_23 ev_23 => ?_)
          have q_24 : v_23.toInt = (I2 this 3).toInt + (1 : Int32).toInt := ow_add ev_23 (by omega) (by omega)
          refine cp_12_3_6 hx hb ht hown hK hN hP hD hS hthis.1 hthis.2 dX6_takeLetters_62 (fun H locs hP hD hS => ?_)
          replace hI := IV.up hI hthis.2 3 (show 0 ≤ v_23.toInt ∧ v_23.toInt ≤ 1700 from by omega)
          have f_25 : FI [(12, 3)] K I2 (va_up I2 this (va_up (I2 this) 3 v_23)) := FI.up hthis.2 3 v_23
          have e_26 : (va_up I2 this (va_up (I2 this) 3 v_23)) this 3 = v_23 := FI.at I2 this 3 v_23
          replace hC_0 := FI.tr hC_0 f_25 (by decide)
          replace hX_2 := FI.tr hX_2 f_25 (by decide)
          generalize (va_up I2 this (va_up (I2 this) 3 v_23)) = I_27 at hP hD hI f_25 e_26 hC_0 hX_2
          refine lv_goto (tgt := 5) hx hb dX6_takeLetters_65 (by decide) ?_
          refine W.widen (k := 0) (n := 0) (Nat.le_of_ble_eq_true rfl) (Nat.le_of_ble_eq_true rfl) ?_
          exact ih_2 I_27 J_22 E2 B2 _ _ _ hI hE hX_2 (show (1700 - (I_27 this 3).toInt).toNat < N_2 from by rw [(show I_27 this 3 = v_23 from e_26)]; try omega) hP hD hS (lv_sub hl [0] rfl)
  exact lp_2 _ I J_1 E B _ _ _ hI hE FI.rf (Nat.lt_succ_self _) hP hD hS (lv_sub hl [0] rfl)
set_option maxHeartbeats 4000000 in
set_option maxRecDepth 100000 in
theorem r_isSign (l : Launch) (G : va_G) (cy : Nat → ClassId) (sz : Nat)  (n : Int32)   : Met l yX6_isSign (.code yX6_isSign cX6_isSign 1 (some .boolean) :: TBg) ({ frames := 1, cells := 0, slots := 0, locals := 64 }) (va_Pc [.int n] (En G cy [] sz)) (va_Qi (fun (r : Int32) (_ : Unit) => (r.toInt = 0 ∨ (r.toInt = 1 ∧ 40 ≤ n.toInt ∧ n.toInt ≤ 62))) (fun _ _ => True) (va_A [] sz)) 0 0 (va_A [] sz) := by
  refine Met.ofW (cc := cX6_isSign) (maxL := 1) (ret := (some .boolean)) (by decide) rfl ?_
  intro p e s m args below meth c s₁ B9 hml hv9
  obtain ⟨rfl, hsz, hP, hK, hD0, hN⟩ := hv9
  have hx := B9.exec
  have hb := B9.bytes
  have hr := B9.returns
  have hts := atoms_spec (ws := .code yX6_isSign cX6_isSign 1 (some .boolean) :: TBg) B9.pre
  have ht : ∀ w ∈ TBg, w.before _ s = true := fun w h => hts w (List.mem_cons_of_mem _ h)
  have hown : s.vm.findClass RX6 = some m.cls := findClass_of_methodNamed B9.named
  have hlocks := B9.notSynchronized
  subst hsz
  generalize hAe : va_A [] s.heap.size = A at ⊢
  have hA : ∀ q : Nat, s.heap.size ≤ q → A q := fun q h => by rw [← hAe]; exact Or.inr h
  have hS : va_S A s.heap s.heap [] := va_S.rf
  have hl := lv_entry ([.int n]) (n := 1) (Nat.le_of_ble_eq_true rfl)
  rw [lg_entry_eq]
  generalize (lg_sl ([.int n]) ++ List.replicate (1 - (lg_sl ([.int n])).length) Slot.unset).toArray = ls at hl ⊢
  have hl : lv_has ls 1 [(0, .int n)] := hl
  have z0 : (0 : Int32).toInt = 0 := by decide
  have z1 : (1 : Int32).toInt = 1 := by decide
  refine lv_iload_n hx hb dX6_isSign_0 rfl (lv_at hl 0 rfl) ?_
  by_cases sw_1 : n.toInt < 40 ∨ 62 < n.toInt
  · refine lv_tableOut (tgt := 110) hx hb dX6_isSign_1 (by omega) (by decide) ?_
    refine lv_iconst (v := 0) hx hb dX6_isSign_110 (by decide) ?_
    refine W.widen (k := 0) (n := 0) (Nat.le_of_ble_eq_true rfl) (Nat.le_of_ble_eq_true rfl) ?_
    exact W.zret (v := 0) hx hb hr rfl (fun t ht9 hW => ⟨⟨0, (), rfl, (by omega), trivial⟩, hS.F ht9⟩) hS.2.2 dX6_isSign_111
  · have h3sw_1 : n.toInt = 40 ∨ n.toInt = 41 ∨ n.toInt = 42 ∨ n.toInt = 43 ∨ n.toInt = 44 ∨ n.toInt = 45 ∨ n.toInt = 46 ∨ n.toInt = 47 ∨ n.toInt = 48 ∨ n.toInt = 49 ∨ n.toInt = 50 ∨ n.toInt = 51 ∨ n.toInt = 52 ∨ n.toInt = 53 ∨ n.toInt = 54 ∨ n.toInt = 55 ∨ n.toInt = 56 ∨ n.toInt = 57 ∨ n.toInt = 58 ∨ n.toInt = 59 ∨ n.toInt = 60 ∨ n.toInt = 61 ∨ n.toInt = 62 := by omega
    rcases h3sw_1 with h3sw_1 | h3sw_1 | h3sw_1 | h3sw_1 | h3sw_1 | h3sw_1 | h3sw_1 | h3sw_1 | h3sw_1 | h3sw_1 | h3sw_1 | h3sw_1 | h3sw_1 | h3sw_1 | h3sw_1 | h3sw_1 | h3sw_1 | h3sw_1 | h3sw_1 | h3sw_1 | h3sw_1 | h3sw_1 | h3sw_1
    · refine ow_top 40 ((ow_eq _ _).mpr (by rw [h3sw_1]; decide)) ?_
      refine lv_tableIn (tgt := 108) hx hb dX6_isSign_1 (by decide +kernel) (by decide +kernel) rfl (by decide) ?_
      refine lv_iconst (v := 1) hx hb dX6_isSign_108 (by decide) ?_
      refine W.widen (k := 0) (n := 0) (Nat.le_of_ble_eq_true rfl) (Nat.le_of_ble_eq_true rfl) ?_
      exact W.zret (v := 1) hx hb hr rfl (fun t ht9 hW => ⟨⟨1, (), rfl, (by omega), trivial⟩, hS.F ht9⟩) hS.2.2 dX6_isSign_109
    · refine ow_top 41 ((ow_eq _ _).mpr (by rw [h3sw_1]; decide)) ?_
      refine lv_tableIn (tgt := 108) hx hb dX6_isSign_1 (by decide +kernel) (by decide +kernel) rfl (by decide) ?_
      refine lv_iconst (v := 1) hx hb dX6_isSign_108 (by decide) ?_
      refine W.widen (k := 0) (n := 0) (Nat.le_of_ble_eq_true rfl) (Nat.le_of_ble_eq_true rfl) ?_
      exact W.zret (v := 1) hx hb hr rfl (fun t ht9 hW => ⟨⟨1, (), rfl, (by omega), trivial⟩, hS.F ht9⟩) hS.2.2 dX6_isSign_109
    · refine ow_top 42 ((ow_eq _ _).mpr (by rw [h3sw_1]; decide)) ?_
      refine lv_tableIn (tgt := 110) hx hb dX6_isSign_1 (by decide +kernel) (by decide +kernel) rfl (by decide) ?_
      refine lv_iconst (v := 0) hx hb dX6_isSign_110 (by decide) ?_
      refine W.widen (k := 0) (n := 0) (Nat.le_of_ble_eq_true rfl) (Nat.le_of_ble_eq_true rfl) ?_
      exact W.zret (v := 0) hx hb hr rfl (fun t ht9 hW => ⟨⟨0, (), rfl, (by omega), trivial⟩, hS.F ht9⟩) hS.2.2 dX6_isSign_111
    · refine ow_top 43 ((ow_eq _ _).mpr (by rw [h3sw_1]; decide)) ?_
      refine lv_tableIn (tgt := 108) hx hb dX6_isSign_1 (by decide +kernel) (by decide +kernel) rfl (by decide) ?_
      refine lv_iconst (v := 1) hx hb dX6_isSign_108 (by decide) ?_
      refine W.widen (k := 0) (n := 0) (Nat.le_of_ble_eq_true rfl) (Nat.le_of_ble_eq_true rfl) ?_
      exact W.zret (v := 1) hx hb hr rfl (fun t ht9 hW => ⟨⟨1, (), rfl, (by omega), trivial⟩, hS.F ht9⟩) hS.2.2 dX6_isSign_109
    · refine ow_top 44 ((ow_eq _ _).mpr (by rw [h3sw_1]; decide)) ?_
      refine lv_tableIn (tgt := 110) hx hb dX6_isSign_1 (by decide +kernel) (by decide +kernel) rfl (by decide) ?_
      refine lv_iconst (v := 0) hx hb dX6_isSign_110 (by decide) ?_
      refine W.widen (k := 0) (n := 0) (Nat.le_of_ble_eq_true rfl) (Nat.le_of_ble_eq_true rfl) ?_
      exact W.zret (v := 0) hx hb hr rfl (fun t ht9 hW => ⟨⟨0, (), rfl, (by omega), trivial⟩, hS.F ht9⟩) hS.2.2 dX6_isSign_111
    · refine ow_top 45 ((ow_eq _ _).mpr (by rw [h3sw_1]; decide)) ?_
      refine lv_tableIn (tgt := 108) hx hb dX6_isSign_1 (by decide +kernel) (by decide +kernel) rfl (by decide) ?_
      refine lv_iconst (v := 1) hx hb dX6_isSign_108 (by decide) ?_
      refine W.widen (k := 0) (n := 0) (Nat.le_of_ble_eq_true rfl) (Nat.le_of_ble_eq_true rfl) ?_
      exact W.zret (v := 1) hx hb hr rfl (fun t ht9 hW => ⟨⟨1, (), rfl, (by omega), trivial⟩, hS.F ht9⟩) hS.2.2 dX6_isSign_109
    · refine ow_top 46 ((ow_eq _ _).mpr (by rw [h3sw_1]; decide)) ?_
      refine lv_tableIn (tgt := 110) hx hb dX6_isSign_1 (by decide +kernel) (by decide +kernel) rfl (by decide) ?_
      refine lv_iconst (v := 0) hx hb dX6_isSign_110 (by decide) ?_
      refine W.widen (k := 0) (n := 0) (Nat.le_of_ble_eq_true rfl) (Nat.le_of_ble_eq_true rfl) ?_
      exact W.zret (v := 0) hx hb hr rfl (fun t ht9 hW => ⟨⟨0, (), rfl, (by omega), trivial⟩, hS.F ht9⟩) hS.2.2 dX6_isSign_111
    · refine ow_top 47 ((ow_eq _ _).mpr (by rw [h3sw_1]; decide)) ?_
      refine lv_tableIn (tgt := 110) hx hb dX6_isSign_1 (by decide +kernel) (by decide +kernel) rfl (by decide) ?_
      refine lv_iconst (v := 0) hx hb dX6_isSign_110 (by decide) ?_
      refine W.widen (k := 0) (n := 0) (Nat.le_of_ble_eq_true rfl) (Nat.le_of_ble_eq_true rfl) ?_
      exact W.zret (v := 0) hx hb hr rfl (fun t ht9 hW => ⟨⟨0, (), rfl, (by omega), trivial⟩, hS.F ht9⟩) hS.2.2 dX6_isSign_111
    · refine ow_top 48 ((ow_eq _ _).mpr (by rw [h3sw_1]; decide)) ?_
      refine lv_tableIn (tgt := 110) hx hb dX6_isSign_1 (by decide +kernel) (by decide +kernel) rfl (by decide) ?_
      refine lv_iconst (v := 0) hx hb dX6_isSign_110 (by decide) ?_
      refine W.widen (k := 0) (n := 0) (Nat.le_of_ble_eq_true rfl) (Nat.le_of_ble_eq_true rfl) ?_
      exact W.zret (v := 0) hx hb hr rfl (fun t ht9 hW => ⟨⟨0, (), rfl, (by omega), trivial⟩, hS.F ht9⟩) hS.2.2 dX6_isSign_111
    · refine ow_top 49 ((ow_eq _ _).mpr (by rw [h3sw_1]; decide)) ?_
      refine lv_tableIn (tgt := 110) hx hb dX6_isSign_1 (by decide +kernel) (by decide +kernel) rfl (by decide) ?_
      refine lv_iconst (v := 0) hx hb dX6_isSign_110 (by decide) ?_
      refine W.widen (k := 0) (n := 0) (Nat.le_of_ble_eq_true rfl) (Nat.le_of_ble_eq_true rfl) ?_
      exact W.zret (v := 0) hx hb hr rfl (fun t ht9 hW => ⟨⟨0, (), rfl, (by omega), trivial⟩, hS.F ht9⟩) hS.2.2 dX6_isSign_111
    · refine ow_top 50 ((ow_eq _ _).mpr (by rw [h3sw_1]; decide)) ?_
      refine lv_tableIn (tgt := 110) hx hb dX6_isSign_1 (by decide +kernel) (by decide +kernel) rfl (by decide) ?_
      refine lv_iconst (v := 0) hx hb dX6_isSign_110 (by decide) ?_
      refine W.widen (k := 0) (n := 0) (Nat.le_of_ble_eq_true rfl) (Nat.le_of_ble_eq_true rfl) ?_
      exact W.zret (v := 0) hx hb hr rfl (fun t ht9 hW => ⟨⟨0, (), rfl, (by omega), trivial⟩, hS.F ht9⟩) hS.2.2 dX6_isSign_111
    · refine ow_top 51 ((ow_eq _ _).mpr (by rw [h3sw_1]; decide)) ?_
      refine lv_tableIn (tgt := 110) hx hb dX6_isSign_1 (by decide +kernel) (by decide +kernel) rfl (by decide) ?_
      refine lv_iconst (v := 0) hx hb dX6_isSign_110 (by decide) ?_
      refine W.widen (k := 0) (n := 0) (Nat.le_of_ble_eq_true rfl) (Nat.le_of_ble_eq_true rfl) ?_
      exact W.zret (v := 0) hx hb hr rfl (fun t ht9 hW => ⟨⟨0, (), rfl, (by omega), trivial⟩, hS.F ht9⟩) hS.2.2 dX6_isSign_111
    · refine ow_top 52 ((ow_eq _ _).mpr (by rw [h3sw_1]; decide)) ?_
      refine lv_tableIn (tgt := 110) hx hb dX6_isSign_1 (by decide +kernel) (by decide +kernel) rfl (by decide) ?_
      refine lv_iconst (v := 0) hx hb dX6_isSign_110 (by decide) ?_
      refine W.widen (k := 0) (n := 0) (Nat.le_of_ble_eq_true rfl) (Nat.le_of_ble_eq_true rfl) ?_
      exact W.zret (v := 0) hx hb hr rfl (fun t ht9 hW => ⟨⟨0, (), rfl, (by omega), trivial⟩, hS.F ht9⟩) hS.2.2 dX6_isSign_111
    · refine ow_top 53 ((ow_eq _ _).mpr (by rw [h3sw_1]; decide)) ?_
      refine lv_tableIn (tgt := 110) hx hb dX6_isSign_1 (by decide +kernel) (by decide +kernel) rfl (by decide) ?_
      refine lv_iconst (v := 0) hx hb dX6_isSign_110 (by decide) ?_
      refine W.widen (k := 0) (n := 0) (Nat.le_of_ble_eq_true rfl) (Nat.le_of_ble_eq_true rfl) ?_
      exact W.zret (v := 0) hx hb hr rfl (fun t ht9 hW => ⟨⟨0, (), rfl, (by omega), trivial⟩, hS.F ht9⟩) hS.2.2 dX6_isSign_111
    · refine ow_top 54 ((ow_eq _ _).mpr (by rw [h3sw_1]; decide)) ?_
      refine lv_tableIn (tgt := 110) hx hb dX6_isSign_1 (by decide +kernel) (by decide +kernel) rfl (by decide) ?_
      refine lv_iconst (v := 0) hx hb dX6_isSign_110 (by decide) ?_
      refine W.widen (k := 0) (n := 0) (Nat.le_of_ble_eq_true rfl) (Nat.le_of_ble_eq_true rfl) ?_
      exact W.zret (v := 0) hx hb hr rfl (fun t ht9 hW => ⟨⟨0, (), rfl, (by omega), trivial⟩, hS.F ht9⟩) hS.2.2 dX6_isSign_111
    · refine ow_top 55 ((ow_eq _ _).mpr (by rw [h3sw_1]; decide)) ?_
      refine lv_tableIn (tgt := 110) hx hb dX6_isSign_1 (by decide +kernel) (by decide +kernel) rfl (by decide) ?_
      refine lv_iconst (v := 0) hx hb dX6_isSign_110 (by decide) ?_
      refine W.widen (k := 0) (n := 0) (Nat.le_of_ble_eq_true rfl) (Nat.le_of_ble_eq_true rfl) ?_
      exact W.zret (v := 0) hx hb hr rfl (fun t ht9 hW => ⟨⟨0, (), rfl, (by omega), trivial⟩, hS.F ht9⟩) hS.2.2 dX6_isSign_111
    · refine ow_top 56 ((ow_eq _ _).mpr (by rw [h3sw_1]; decide)) ?_
      refine lv_tableIn (tgt := 110) hx hb dX6_isSign_1 (by decide +kernel) (by decide +kernel) rfl (by decide) ?_
      refine lv_iconst (v := 0) hx hb dX6_isSign_110 (by decide) ?_
      refine W.widen (k := 0) (n := 0) (Nat.le_of_ble_eq_true rfl) (Nat.le_of_ble_eq_true rfl) ?_
      exact W.zret (v := 0) hx hb hr rfl (fun t ht9 hW => ⟨⟨0, (), rfl, (by omega), trivial⟩, hS.F ht9⟩) hS.2.2 dX6_isSign_111
    · refine ow_top 57 ((ow_eq _ _).mpr (by rw [h3sw_1]; decide)) ?_
      refine lv_tableIn (tgt := 110) hx hb dX6_isSign_1 (by decide +kernel) (by decide +kernel) rfl (by decide) ?_
      refine lv_iconst (v := 0) hx hb dX6_isSign_110 (by decide) ?_
      refine W.widen (k := 0) (n := 0) (Nat.le_of_ble_eq_true rfl) (Nat.le_of_ble_eq_true rfl) ?_
      exact W.zret (v := 0) hx hb hr rfl (fun t ht9 hW => ⟨⟨0, (), rfl, (by omega), trivial⟩, hS.F ht9⟩) hS.2.2 dX6_isSign_111
    · refine ow_top 58 ((ow_eq _ _).mpr (by rw [h3sw_1]; decide)) ?_
      refine lv_tableIn (tgt := 110) hx hb dX6_isSign_1 (by decide +kernel) (by decide +kernel) rfl (by decide) ?_
      refine lv_iconst (v := 0) hx hb dX6_isSign_110 (by decide) ?_
      refine W.widen (k := 0) (n := 0) (Nat.le_of_ble_eq_true rfl) (Nat.le_of_ble_eq_true rfl) ?_
      exact W.zret (v := 0) hx hb hr rfl (fun t ht9 hW => ⟨⟨0, (), rfl, (by omega), trivial⟩, hS.F ht9⟩) hS.2.2 dX6_isSign_111
    · refine ow_top 59 ((ow_eq _ _).mpr (by rw [h3sw_1]; decide)) ?_
      refine lv_tableIn (tgt := 108) hx hb dX6_isSign_1 (by decide +kernel) (by decide +kernel) rfl (by decide) ?_
      refine lv_iconst (v := 1) hx hb dX6_isSign_108 (by decide) ?_
      refine W.widen (k := 0) (n := 0) (Nat.le_of_ble_eq_true rfl) (Nat.le_of_ble_eq_true rfl) ?_
      exact W.zret (v := 1) hx hb hr rfl (fun t ht9 hW => ⟨⟨1, (), rfl, (by omega), trivial⟩, hS.F ht9⟩) hS.2.2 dX6_isSign_109
    · refine ow_top 60 ((ow_eq _ _).mpr (by rw [h3sw_1]; decide)) ?_
      refine lv_tableIn (tgt := 108) hx hb dX6_isSign_1 (by decide +kernel) (by decide +kernel) rfl (by decide) ?_
      refine lv_iconst (v := 1) hx hb dX6_isSign_108 (by decide) ?_
      refine W.widen (k := 0) (n := 0) (Nat.le_of_ble_eq_true rfl) (Nat.le_of_ble_eq_true rfl) ?_
      exact W.zret (v := 1) hx hb hr rfl (fun t ht9 hW => ⟨⟨1, (), rfl, (by omega), trivial⟩, hS.F ht9⟩) hS.2.2 dX6_isSign_109
    · refine ow_top 61 ((ow_eq _ _).mpr (by rw [h3sw_1]; decide)) ?_
      refine lv_tableIn (tgt := 108) hx hb dX6_isSign_1 (by decide +kernel) (by decide +kernel) rfl (by decide) ?_
      refine lv_iconst (v := 1) hx hb dX6_isSign_108 (by decide) ?_
      refine W.widen (k := 0) (n := 0) (Nat.le_of_ble_eq_true rfl) (Nat.le_of_ble_eq_true rfl) ?_
      exact W.zret (v := 1) hx hb hr rfl (fun t ht9 hW => ⟨⟨1, (), rfl, (by omega), trivial⟩, hS.F ht9⟩) hS.2.2 dX6_isSign_109
    · refine ow_top 62 ((ow_eq _ _).mpr (by rw [h3sw_1]; decide)) ?_
      refine lv_tableIn (tgt := 108) hx hb dX6_isSign_1 (by decide +kernel) (by decide +kernel) rfl (by decide) ?_
      refine lv_iconst (v := 1) hx hb dX6_isSign_108 (by decide) ?_
      refine W.widen (k := 0) (n := 0) (Nat.le_of_ble_eq_true rfl) (Nat.le_of_ble_eq_true rfl) ?_
      exact W.zret (v := 1) hx hb hr rfl (fun t ht9 hW => ⟨⟨1, (), rfl, (by omega), trivial⟩, hS.F ht9⟩) hS.2.2 dX6_isSign_109
set_option maxHeartbeats 4000000 in
set_option maxRecDepth 100000 in
theorem r_takeDigits (l : Launch) (G : va_G) (cy : Nat → ClassId) (sz : Nat) (L : List Nat) (K : Nat → Nat) (R : Nat → Nat → Nat) (T : Int) (I E : Nat → Nat → Int32) (J B : Nat → Nat → Int64) (this : Nat)  (hRT : RT L K R) (hI : IV T L K I) (hE : EV L K E) (hthis1 : this ∈ L) (hthis2 : K this = 12) (hp9 : (I this 5).toInt = (I this 3).toInt) : Met l yX6_takeDigits (.code yX6_takeDigits cX6_takeDigits 1 none :: TBg) ({ frames := 2, cells := 0, slots := 0, locals := 128 }) (va_Pc [.ref this] (En G cy (WC cy L K R I J E B) sz)) (va_Qv (fun (u : (Nat → Nat → Int32) × (Nat → Nat → Int64) × (Nat → Nat → Int32) × (Nat → Nat → Int64)) => IV T L K u.1 ∧ EV L K u.2.2.1 ∧ FI [(12, 3), (12, 4), (12, 6)] K I u.1 ∧ (((u.1 this 4).toInt ≠ 16 ∨ 0 ≤ (u.1 this 6).toInt))) (fun u t => Ex G (va_A (WC cy L K R I J E B) sz) (WC cy L K R u.1 u.2.1 u.2.2.1 u.2.2.2) t) (va_A (WC cy L K R I J E B) sz)) 0 0 (va_A (WC cy L K R I J E B) sz) := by
  have hthis : this ∈ L ∧ K this = 12 := ⟨hthis1, hthis2⟩
  refine Met.ofW (cc := cX6_takeDigits) (maxL := 1) (ret := none) (by decide) rfl ?_
  intro p e s m args below meth c s₁ B9 hml hv9
  obtain ⟨rfl, hsz, hP, hK, hD0, hN⟩ := hv9
  have hx := B9.exec
  have hb := B9.bytes
  have hr := B9.returns
  have hts := atoms_spec (ws := .code yX6_takeDigits cX6_takeDigits 1 none :: TBg) B9.pre
  have ht : ∀ w ∈ TBg, w.before _ s = true := fun w h => hts w (List.mem_cons_of_mem _ h)
  have hown : s.vm.findClass RX6 = some m.cls := findClass_of_methodNamed B9.named
  have hlocks := B9.notSynchronized
  subst hsz
  have hD := hD0.self (sz := s.heap.size)
  generalize hAe : va_A (WC cy L K R I J E B) s.heap.size = A at hD ⊢
  have hA : ∀ q : Nat, s.heap.size ≤ q → A q := fun q h => by rw [← hAe]; exact Or.inr h
  have hS : va_S A s.heap s.heap [] := va_S.rf
  have hl := lv_entry ([.ref this]) (n := 1) (Nat.le_of_ble_eq_true rfl)
  rw [lg_entry_eq]
  generalize (lg_sl ([.ref this]) ++ List.replicate (1 - (lg_sl ([.ref this])).length) Slot.unset).toArray = ls at hl ⊢
  have hl : lv_has ls 1 [(0, .ref this)] := hl
  have z0 : (0 : Int32).toInt = 0 := by decide
  have z1 : (1 : Int32).toInt = 1 := by decide
  have z2 : (4 : Int32).toInt = 4 := by decide
  have z3 : (16 : Int32).toInt = 16 := by decide
  have z4 : (18 : Int32).toInt = 18 := by decide
  have z5 : (48 : Int32).toInt = 48 := by decide
  have hC_0 : FI [(12, 3), (12, 4), (12, 6)] K I I := FI.rf
  refine lv_aload_n hx hb dX6_takeDigits_0 rfl (lv_at hl 0 rfl) ?_
  refine lv_iconst (v := 0) hx hb dX6_takeDigits_1 (by decide) ?_
  refine cp_12_6_6 hx hb ht hown hK hN hP hD hS hthis.1 hthis.2 dX6_takeDigits_2 (fun H locs hP hD hS => ?_)
  replace hI := IV.up hI hthis.2 6 (ow_any (0 : Int32))
  have f_1 : FI [(12, 6)] K I (va_up I this (va_up (I this) 6 0)) := FI.up hthis.2 6 (0 : Int32)
  have e_2 : (va_up I this (va_up (I this) 6 0)) this 6 = 0 := FI.at I this 6 (0 : Int32)
  replace hC_0 := FI.tr hC_0 f_1 (by decide)
  generalize (va_up I this (va_up (I this) 6 0)) = I_3 at hP hD hI f_1 e_2 hC_0
  refine W.widen (k := 0) (n := 0) (Nat.le_of_ble_eq_true rfl) (Nat.le_of_ble_eq_true rfl) ?_
  have lp_4 : ∀ (N_4 : Nat) (I4 : Nat → Nat → Int32) (J4 : Nat → Nat → Int64) (E4 : Nat → Nat → Int32) (B4 : Nat → Nat → Int64) (H : Heap) (locs : List Loc) (ls : Array Slot), IV T L K I4 → EV L K E4 → FI [(12, 3), (12, 4), (12, 6)] K I_3 I4 → (((I4 this 3).toInt = (I this 5).toInt ∧ (I4 this 6).toInt = 0) ∨ ((I4 this 3).toInt = (I this 5).toInt + 1 ∧ 0 ≤ (I4 this 6).toInt ∧ (I4 this 6).toInt ≤ 9) ∨ ((I4 this 3).toInt = (I this 5).toInt + 2 ∧ 0 ≤ (I4 this 6).toInt ∧ (I4 this 6).toInt ≤ 99) ∨ ((I4 this 3).toInt = (I this 5).toInt + 3 ∧ 0 ≤ (I4 this 6).toInt ∧ (I4 this 6).toInt ≤ 999) ∨ ((I4 this 3).toInt = (I this 5).toInt + 4 ∧ 0 ≤ (I4 this 6).toInt ∧ (I4 this 6).toInt ≤ 9999) ∨ (I this 5).toInt + 5 ≤ (I4 this 3).toInt) → (1700 - (I4 this 3).toInt).toNat < N_4 → va_P G vwCl (WC cy L K R I4 J4 E4 B4) H → va_D A (WC cy L K R I4 J4 E4 B4) → va_S A s.heap H locs → lv_has ls 1 [(0, .ref this)] → W p l e (headSpec (.code yX6_takeDigits cX6_takeDigits 1 none :: TBg) ({ frames := 2, cells := 0, slots := 0, locals := 128 })).room s m ([.ref this] : List Value).toArray below meth c H locs 0 0 (MQ below (va_Qv (fun (u : (Nat → Nat → Int32) × (Nat → Nat → Int64) × (Nat → Nat → Int32) × (Nat → Nat → Int64)) => IV T L K u.1 ∧ EV L K u.2.2.1 ∧ FI [(12, 3), (12, 4), (12, 6)] K I u.1 ∧ (((u.1 this 4).toInt ≠ 16 ∨ 0 ≤ (u.1 this 6).toInt))) (fun u t => Ex G A (WC cy L K R u.1 u.2.1 u.2.2.1 u.2.2.2) t) A) ([.ref this] : List Value).toArray s 0 0 A) (F0 m 5 ls []) := by
    intro N_4
    induction N_4 with
    | zero => intro I4 J4 E4 B4 H locs ls hI hE hC_4 qf4_0 hm9 hP hD hS hl; exact absurd hm9 (Nat.not_lt_zero _)
    | succ N_4 ih_4 =>
      intro I4 J4 E4 B4 H locs ls hI hE hC_4 qf4_0 hm9 hP hD hS hl
      replace hC_0 := FI.tr hC_0 hC_4 (by decide)
      have hX_4 := hC_4
      refine lv_aload_n hx hb dX6_takeDigits_5 rfl (lv_at hl 0 rfl) ?_
      refine cg_12_3_6 hx hb ht hown hK hN hP hthis.1 hthis.2 dX6_takeDigits_6 ?_
      have q_5 : 0 ≤ (I4 this 3).toInt ∧ (I4 this 3).toInt ≤ 1700 := IV.rd hI hthis.1 hthis.2 3
      refine lv_aload_n hx hb dX6_takeDigits_9 rfl (lv_at hl 0 rfl) ?_
      refine cg_12_1_6 hx hb ht hown hK hN hP hthis.1 hthis.2 dX6_takeDigits_10 ?_
      refine ow_top (I this 1) ((hC_4 this 1 (by rw [hthis.2]; decide)).trans (f_1 this 1 (by rw [hthis.2]; decide))) ?_
      have q_6 : 0 ≤ (I this 1).toInt ∧ (I this 1).toInt ≤ 1700 := by have h9 : I4 this 1 = (I this 1) := ((hC_4 this 1 (by rw [hthis.2]; decide)).trans (f_1 this 1 (by rw [hthis.2]; decide))); rw [← h9]; exact IV.rd hI hthis.1 hthis.2 1
      refine lv_icmp_ge (tgt := 64) hx hb dX6_takeDigits_13 (by decide) (fun c_7 => ?_) (fun c_7 => ?_)
      · have q_8 : (I this 1).toInt ≤ (I4 this 3).toInt := (ow_le _ _).mp c_7
        refine lv_aload_n hx hb dX6_takeDigits_64 rfl (lv_at hl 0 rfl) ?_
        refine lv_aload_n hx hb dX6_takeDigits_65 rfl (lv_at hl 0 rfl) ?_
        refine cg_12_3_6 hx hb ht hown hK hN hP hthis.1 hthis.2 dX6_takeDigits_66 ?_
        refine lv_aload_n hx hb dX6_takeDigits_69 rfl (lv_at hl 0 rfl) ?_
        refine cg_12_5_6 hx hb ht hown hK hN hP hthis.1 hthis.2 dX6_takeDigits_70 ?_
        refine ow_top (I this 5) ((hC_4 this 5 (by rw [hthis.2]; decide)).trans (f_1 this 5 (by rw [hthis.2]; decide))) ?_
        have q_9 : 0 ≤ (I this 5).toInt ∧ (I this 5).toInt ≤ 1700 := by have h9 : I4 this 5 = (I this 5) := ((hC_4 this 5 (by rw [hthis.2]; decide)).trans (f_1 this 5 (by rw [hthis.2]; decide))); rw [← h9]; exact IV.rd hI hthis.1 hthis.2 5
        refine lv_isub hx hb dX6_takeDigits_73 ?_
        refine lv_topi (fun v_10 ev_10 => ?_)
        have q_11 : v_10.toInt = (I4 this 3).toInt - (I this 5).toInt := ow_sub ev_10 (by omega) (by omega)
        refine lv_iconst (v := 4) hx hb dX6_takeDigits_74 (by decide) ?_
        refine lv_icmp_gt (tgt := 89) hx hb dX6_takeDigits_75 (by decide) (fun c_12 => ?_) (fun c_12 => ?_)
        · have q_13 : (4 : Int32).toInt < v_10.toInt := (ow_lt _ _).mp c_12
          refine lv_bipush (v := 18) hx hb dX6_takeDigits_89 (by decide) ?_
          refine lv_goto (tgt := 96) hx hb dX6_takeDigits_91 (by decide) ?_
          refine cp_12_4_6 hx hb ht hown hK hN hP hD hS hthis.1 hthis.2 dX6_takeDigits_96 (fun H locs hP hD hS => ?_)
          replace hI := IV.up hI hthis.2 4 (ow_any (18 : Int32))
          have f_14 : FI [(12, 4)] K I4 (va_up I4 this (va_up (I4 this) 4 18)) := FI.up hthis.2 4 (18 : Int32)
          have e_15 : (va_up I4 this (va_up (I4 this) 4 18)) this 4 = 18 := FI.at I4 this 4 (18 : Int32)
          replace hC_0 := FI.tr hC_0 f_14 (by decide)
          replace hX_4 := FI.tr hX_4 f_14 (by decide)
          generalize (va_up I4 this (va_up (I4 this) 4 18)) = I_16 at hP hD hI f_14 e_15 hC_0 hX_4
          refine W.widen (k := 0) (n := 0) (Nat.le_of_ble_eq_true rfl) (Nat.le_of_ble_eq_true rfl) ?_
          exact W.vret hx hb hr (fun t ht9 hW => ⟨⟨(I_16, J4, E4, B4), rfl, ⟨hI, hE, hC_0, (show (I_16 this 4).toInt ≠ 16 ∨ 0 ≤ (I_16 this 6).toInt from by rw [(show I_16 this 4 = (18 : Int32) from e_15), (show I_16 this 6 = (I4 this 6) from (f_14 this 6 (by rw [hthis.2]; decide)))]; try omega)⟩, ⟨by rw [ht9]; exact hP, hD⟩⟩, hS.F ht9⟩) hS.2.2 dX6_takeDigits_99
        · have q_17 : v_10.toInt ≤ (4 : Int32).toInt := by have := (not_congr (ow_lt _ _)).mp c_12; omega
          refine lv_aload_n hx hb dX6_takeDigits_78 rfl (lv_at hl 0 rfl) ?_
          refine lv_aload_n hx hb dX6_takeDigits_79 rfl (lv_at hl 0 rfl) ?_
          refine cg_12_3_6 hx hb ht hown hK hN hP hthis.1 hthis.2 dX6_takeDigits_80 ?_
          have hFc := fr_new hS hA
          refine va_calli (va_runV (As := [.int (I4 this 3)]) (rest := [.ref this]) ⟨hx, hb, hml, hown, ht⟩ (r_letterAt l G cy _ L K R T I4 E4 J4 B4 this (I4 this 3) hRT hI hE hthis.1 hthis.2) (cwV 1 ht (gv k_630 k_631 k_632 k_633 k_629) rfl rfl rfl (by decide +kernel) ⟨Nat.le_of_ble_eq_true rfl, Nat.le_of_ble_eq_true rfl⟩) ⟨En.blind, cr_12 hK hP hthis.1 hthis.2, fun U hU hW => ⟨rfl, En.of hU hW hP hK hD hN⟩⟩ rfl rfl hl.1 rfl (lv_room (Nat.le_of_ble_eq_true rfl)) dX6_takeDigits_83 ⟨Nat.le_of_ble_eq_true rfl, Nat.le_of_ble_eq_true rfl⟩) hS (fun q _ h => hFc q h) hFc (fun r_u_18 u_18 t9 H locs ht9 hvm hw hB hz1 hk1 hS => ?_)
          have hP := fr_keep hP hk1
          have wu_18 := hw
          clear hFc hk1 hz1 hB hw
          refine lv_if_eq (tgt := 94) hx hb dX6_takeDigits_86 (by decide) (fun c_19 => ?_) (fun c_19 => ?_)
          · have q_20 : r_u_18.toInt = (0 : Int32).toInt := (ow_eq _ _).mp c_19
            refine lv_bipush (v := 16) hx hb dX6_takeDigits_94 (by decide) ?_
            refine cp_12_4_6 hx hb ht hown hK hN hP hD hS hthis.1 hthis.2 dX6_takeDigits_96 (fun H locs hP hD hS => ?_)
            replace hI := IV.up hI hthis.2 4 (ow_any (16 : Int32))
            have f_21 : FI [(12, 4)] K I4 (va_up I4 this (va_up (I4 this) 4 16)) := FI.up hthis.2 4 (16 : Int32)
            have e_22 : (va_up I4 this (va_up (I4 this) 4 16)) this 4 = 16 := FI.at I4 this 4 (16 : Int32)
            replace hC_0 := FI.tr hC_0 f_21 (by decide)
            replace hX_4 := FI.tr hX_4 f_21 (by decide)
            generalize (va_up I4 this (va_up (I4 this) 4 16)) = I_23 at hP hD hI f_21 e_22 hC_0 hX_4
            refine W.widen (k := 0) (n := 0) (Nat.le_of_ble_eq_true rfl) (Nat.le_of_ble_eq_true rfl) ?_
            exact W.vret hx hb hr (fun t ht9 hW => ⟨⟨(I_23, J4, E4, B4), rfl, ⟨hI, hE, hC_0, (show (I_23 this 4).toInt ≠ 16 ∨ 0 ≤ (I_23 this 6).toInt from by rw [(show I_23 this 4 = (16 : Int32) from e_22), (show I_23 this 6 = (I4 this 6) from (f_21 this 6 (by rw [hthis.2]; decide)))]; try omega)⟩, ⟨by rw [ht9]; exact hP, hD⟩⟩, hS.F ht9⟩) hS.2.2 dX6_takeDigits_99
          · have q_24 : ¬ r_u_18.toInt = (0 : Int32).toInt := by have := (not_congr (ow_eq _ _)).mp c_19; omega
            refine lv_bipush (v := 18) hx hb dX6_takeDigits_89 (by decide) ?_
            refine lv_goto (tgt := 96) hx hb dX6_takeDigits_91 (by decide) ?_
            refine cp_12_4_6 hx hb ht hown hK hN hP hD hS hthis.1 hthis.2 dX6_takeDigits_96 (fun H locs hP hD hS => ?_)
            replace hI := IV.up hI hthis.2 4 (ow_any (18 : Int32))
            have f_25 : FI [(12, 4)] K I4 (va_up I4 this (va_up (I4 this) 4 18)) := FI.up hthis.2 4 (18 : Int32)
            have e_26 : (va_up I4 this (va_up (I4 this) 4 18)) this 4 = 18 := FI.at I4 this 4 (18 : Int32)
            replace hC_0 := FI.tr hC_0 f_25 (by decide)
            replace hX_4 := FI.tr hX_4 f_25 (by decide)
            generalize (va_up I4 this (va_up (I4 this) 4 18)) = I_27 at hP hD hI f_25 e_26 hC_0 hX_4
            refine W.widen (k := 0) (n := 0) (Nat.le_of_ble_eq_true rfl) (Nat.le_of_ble_eq_true rfl) ?_
            exact W.vret hx hb hr (fun t ht9 hW => ⟨⟨(I_27, J4, E4, B4), rfl, ⟨hI, hE, hC_0, (show (I_27 this 4).toInt ≠ 16 ∨ 0 ≤ (I_27 this 6).toInt from by rw [(show I_27 this 4 = (18 : Int32) from e_26), (show I_27 this 6 = (I4 this 6) from (f_25 this 6 (by rw [hthis.2]; decide)))]; try omega)⟩, ⟨by rw [ht9]; exact hP, hD⟩⟩, hS.F ht9⟩) hS.2.2 dX6_takeDigits_99
      · have q_28 : (I4 this 3).toInt < (I this 1).toInt := by have := (not_congr (ow_le _ _)).mp c_7; omega
        refine lv_aload_n hx hb dX6_takeDigits_16 rfl (lv_at hl 0 rfl) ?_
        refine lv_aload_n hx hb dX6_takeDigits_17 rfl (lv_at hl 0 rfl) ?_
        refine cg_12_3_6 hx hb ht hown hK hN hP hthis.1 hthis.2 dX6_takeDigits_18 ?_
        have hFc := fr_new hS hA
        refine va_calli (va_runV (As := [.int (I4 this 3)]) (rest := []) ⟨hx, hb, hml, hown, ht⟩ (r_digitAt l G cy _ L K R T I4 E4 J4 B4 this (I4 this 3) hRT hI hE hthis.1 hthis.2) (cwV 1 ht (gv k_636 k_637 k_638 k_633 k_635) rfl rfl rfl (by decide +kernel) ⟨Nat.le_of_ble_eq_true rfl, Nat.le_of_ble_eq_true rfl⟩) ⟨En.blind, cr_12 hK hP hthis.1 hthis.2, fun U hU hW => ⟨rfl, En.of hU hW hP hK hD hN⟩⟩ rfl rfl hl.1 rfl (lv_room (Nat.le_of_ble_eq_true rfl)) dX6_takeDigits_21 ⟨Nat.le_of_ble_eq_true rfl, Nat.le_of_ble_eq_true rfl⟩) hS (fun q _ h => hFc q h) hFc (fun r_u_29 u_29 t9 H locs ht9 hvm hw hB hz1 hk1 hS => ?_)
        have hP := fr_keep hP hk1
        have wu_29 := hw
        clear hFc hk1 hz1 hB hw
        refine lv_if_eq (tgt := 64) hx hb dX6_takeDigits_24 (by decide) (fun c_30 => ?_) (fun c_30 => ?_)
        · have q_31 : r_u_29.toInt = (0 : Int32).toInt := (ow_eq _ _).mp c_30
          refine lv_aload_n hx hb dX6_takeDigits_64 rfl (lv_at hl 0 rfl) ?_
          refine lv_aload_n hx hb dX6_takeDigits_65 rfl (lv_at hl 0 rfl) ?_
          refine cg_12_3_6 hx hb ht hown hK hN hP hthis.1 hthis.2 dX6_takeDigits_66 ?_
          refine lv_aload_n hx hb dX6_takeDigits_69 rfl (lv_at hl 0 rfl) ?_
          refine cg_12_5_6 hx hb ht hown hK hN hP hthis.1 hthis.2 dX6_takeDigits_70 ?_
          refine ow_top (I this 5) ((hC_4 this 5 (by rw [hthis.2]; decide)).trans (f_1 this 5 (by rw [hthis.2]; decide))) ?_
          have q_32 : 0 ≤ (I this 5).toInt ∧ (I this 5).toInt ≤ 1700 := by have h9 : I4 this 5 = (I this 5) := ((hC_4 this 5 (by rw [hthis.2]; decide)).trans (f_1 this 5 (by rw [hthis.2]; decide))); rw [← h9]; exact IV.rd hI hthis.1 hthis.2 5
          refine lv_isub hx hb dX6_takeDigits_73 ?_
          refine lv_topi (fun v_33 ev_33 => ?_)
          have q_34 : v_33.toInt = (I4 this 3).toInt - (I this 5).toInt := ow_sub ev_33 (by omega) (by omega)
          refine lv_iconst (v := 4) hx hb dX6_takeDigits_74 (by decide) ?_
          refine lv_icmp_gt (tgt := 89) hx hb dX6_takeDigits_75 (by decide) (fun c_35 => ?_) (fun c_35 => ?_)
          · have q_36 : (4 : Int32).toInt < v_33.toInt := (ow_lt _ _).mp c_35
            refine lv_bipush (v := 18) hx hb dX6_takeDigits_89 (by decide) ?_
            refine lv_goto (tgt := 96) hx hb dX6_takeDigits_91 (by decide) ?_
            refine cp_12_4_6 hx hb ht hown hK hN hP hD hS hthis.1 hthis.2 dX6_takeDigits_96 (fun H locs hP hD hS => ?_)
            replace hI := IV.up hI hthis.2 4 (ow_any (18 : Int32))
            have f_37 : FI [(12, 4)] K I4 (va_up I4 this (va_up (I4 this) 4 18)) := FI.up hthis.2 4 (18 : Int32)
            have e_38 : (va_up I4 this (va_up (I4 this) 4 18)) this 4 = 18 := FI.at I4 this 4 (18 : Int32)
            replace hC_0 := FI.tr hC_0 f_37 (by decide)
            replace hX_4 := FI.tr hX_4 f_37 (by decide)
            generalize (va_up I4 this (va_up (I4 this) 4 18)) = I_39 at hP hD hI f_37 e_38 hC_0 hX_4
            refine W.widen (k := 0) (n := 0) (Nat.le_of_ble_eq_true rfl) (Nat.le_of_ble_eq_true rfl) ?_
            exact W.vret hx hb hr (fun t ht9 hW => ⟨⟨(I_39, J4, E4, B4), rfl, ⟨hI, hE, hC_0, (show (I_39 this 4).toInt ≠ 16 ∨ 0 ≤ (I_39 this 6).toInt from by rw [(show I_39 this 4 = (18 : Int32) from e_38), (show I_39 this 6 = (I4 this 6) from (f_37 this 6 (by rw [hthis.2]; decide)))]; try omega)⟩, ⟨by rw [ht9]; exact hP, hD⟩⟩, hS.F ht9⟩) hS.2.2 dX6_takeDigits_99
          · have q_40 : v_33.toInt ≤ (4 : Int32).toInt := by have := (not_congr (ow_lt _ _)).mp c_35; omega
            refine lv_aload_n hx hb dX6_takeDigits_78 rfl (lv_at hl 0 rfl) ?_
            refine lv_aload_n hx hb dX6_takeDigits_79 rfl (lv_at hl 0 rfl) ?_
            refine cg_12_3_6 hx hb ht hown hK hN hP hthis.1 hthis.2 dX6_takeDigits_80 ?_
            have hFc := fr_new hS hA
            refine va_calli (va_runV (As := [.int (I4 this 3)]) (rest := [.ref this]) ⟨hx, hb, hml, hown, ht⟩ (r_letterAt l G cy _ L K R T I4 E4 J4 B4 this (I4 this 3) hRT hI hE hthis.1 hthis.2) (cwV 1 ht (gv k_630 k_631 k_632 k_633 k_629) rfl rfl rfl (by decide +kernel) ⟨Nat.le_of_ble_eq_true rfl, Nat.le_of_ble_eq_true rfl⟩) ⟨En.blind, cr_12 hK hP hthis.1 hthis.2, fun U hU hW => ⟨rfl, En.of hU hW hP hK hD hN⟩⟩ rfl rfl hl.1 rfl (lv_room (Nat.le_of_ble_eq_true rfl)) dX6_takeDigits_83 ⟨Nat.le_of_ble_eq_true rfl, Nat.le_of_ble_eq_true rfl⟩) hS (fun q _ h => hFc q h) hFc (fun r_u_41 u_41 t9 H locs ht9 hvm hw hB hz1 hk1 hS => ?_)
            have hP := fr_keep hP hk1
            have wu_41 := hw
            clear hFc hk1 hz1 hB hw
            refine lv_if_eq (tgt := 94) hx hb dX6_takeDigits_86 (by decide) (fun c_42 => ?_) (fun c_42 => ?_)
            · have q_43 : r_u_41.toInt = (0 : Int32).toInt := (ow_eq _ _).mp c_42
              refine lv_bipush (v := 16) hx hb dX6_takeDigits_94 (by decide) ?_
              refine cp_12_4_6 hx hb ht hown hK hN hP hD hS hthis.1 hthis.2 dX6_takeDigits_96 (fun H locs hP hD hS => ?_)
              replace hI := IV.up hI hthis.2 4 (ow_any (16 : Int32))
              have f_44 : FI [(12, 4)] K I4 (va_up I4 this (va_up (I4 this) 4 16)) := FI.up hthis.2 4 (16 : Int32)
              have e_45 : (va_up I4 this (va_up (I4 this) 4 16)) this 4 = 16 := FI.at I4 this 4 (16 : Int32)
              replace hC_0 := FI.tr hC_0 f_44 (by decide)
              replace hX_4 := FI.tr hX_4 f_44 (by decide)
              generalize (va_up I4 this (va_up (I4 this) 4 16)) = I_46 at hP hD hI f_44 e_45 hC_0 hX_4
              refine W.widen (k := 0) (n := 0) (Nat.le_of_ble_eq_true rfl) (Nat.le_of_ble_eq_true rfl) ?_
              exact W.vret hx hb hr (fun t ht9 hW => ⟨⟨(I_46, J4, E4, B4), rfl, ⟨hI, hE, hC_0, (show (I_46 this 4).toInt ≠ 16 ∨ 0 ≤ (I_46 this 6).toInt from by rw [(show I_46 this 4 = (16 : Int32) from e_45), (show I_46 this 6 = (I4 this 6) from (f_44 this 6 (by rw [hthis.2]; decide)))]; try omega)⟩, ⟨by rw [ht9]; exact hP, hD⟩⟩, hS.F ht9⟩) hS.2.2 dX6_takeDigits_99
            · have q_47 : ¬ r_u_41.toInt = (0 : Int32).toInt := by have := (not_congr (ow_eq _ _)).mp c_42; omega
              refine lv_bipush (v := 18) hx hb dX6_takeDigits_89 (by decide) ?_
              refine lv_goto (tgt := 96) hx hb dX6_takeDigits_91 (by decide) ?_
              refine cp_12_4_6 hx hb ht hown hK hN hP hD hS hthis.1 hthis.2 dX6_takeDigits_96 (fun H locs hP hD hS => ?_)
              replace hI := IV.up hI hthis.2 4 (ow_any (18 : Int32))
              have f_48 : FI [(12, 4)] K I4 (va_up I4 this (va_up (I4 this) 4 18)) := FI.up hthis.2 4 (18 : Int32)
              have e_49 : (va_up I4 this (va_up (I4 this) 4 18)) this 4 = 18 := FI.at I4 this 4 (18 : Int32)
              replace hC_0 := FI.tr hC_0 f_48 (by decide)
              replace hX_4 := FI.tr hX_4 f_48 (by decide)
              generalize (va_up I4 this (va_up (I4 this) 4 18)) = I_50 at hP hD hI f_48 e_49 hC_0 hX_4
              refine W.widen (k := 0) (n := 0) (Nat.le_of_ble_eq_true rfl) (Nat.le_of_ble_eq_true rfl) ?_
              exact W.vret hx hb hr (fun t ht9 hW => ⟨⟨(I_50, J4, E4, B4), rfl, ⟨hI, hE, hC_0, (show (I_50 this 4).toInt ≠ 16 ∨ 0 ≤ (I_50 this 6).toInt from by rw [(show I_50 this 4 = (18 : Int32) from e_49), (show I_50 this 6 = (I4 this 6) from (f_48 this 6 (by rw [hthis.2]; decide)))]; try omega)⟩, ⟨by rw [ht9]; exact hP, hD⟩⟩, hS.F ht9⟩) hS.2.2 dX6_takeDigits_99
        · have q_51 : ¬ r_u_29.toInt = (0 : Int32).toInt := by have := (not_congr (ow_eq _ _)).mp c_30; omega
          refine lv_aload_n hx hb dX6_takeDigits_27 rfl (lv_at hl 0 rfl) ?_
          refine lv_aload_n hx hb dX6_takeDigits_28 rfl (lv_at hl 0 rfl) ?_
          refine cg_12_6_6 hx hb ht hown hK hN hP hthis.1 hthis.2 dX6_takeDigits_29 ?_
          refine lv_bipush (v := 10) hx hb dX6_takeDigits_32 (by decide) ?_
          refine lv_imul hx hb dX6_takeDigits_34 ?_
          refine lv_topi (fun v_52 ev_52 => ?_)
          have hm9 : (I4 this 6).toInt < 0 ∨ 999 < (I4 this 6).toInt ∨ v_52.toInt = 10 * (I4 this 6).toInt := by
            by_cases h1 : 0 ≤ (I4 this 6).toInt ∧ (I4 this 6).toInt ≤ 999
            · exact Or.inr (Or.inr (ow_mul2 ev_52 (by decide) (by omega) (by omega)))
            · omega
          refine lv_aload_n hx hb dX6_takeDigits_35 rfl (lv_at hl 0 rfl) ?_
          refine cg_12_0_6 hx hb ht hown hK hN hP hthis.1 hthis.2 dX6_takeDigits_36 ?_
          have hm_53 : (R this 0) ∈ L ∧ K (R this 0) = 20 := RT.o hRT hthis.1 hthis.2 0 (by decide)
          refine lv_aload_n hx hb dX6_takeDigits_39 rfl (lv_at hl 0 rfl) ?_
          refine cg_12_3_6 hx hb ht hown hK hN hP hthis.1 hthis.2 dX6_takeDigits_40 ?_
          have q_54 : vp_in (I4 this 3) 1700 := vp_in_iff.mpr ⟨by omega, by omega⟩
          refine cl_20 hx hb hK hP hm_53.1 hm_53.2 q_54 dX6_takeDigits_43 ?_
          refine lv_topi (fun v_55 ev_55 => ?_)
          have q_56 : v_55.toInt = (E4 (R this 0) (Int32.toNatClampNeg (I4 this 3))).toInt := congrArg Int32.toInt ev_55
          refine lv_bipush (v := 48) hx hb dX6_takeDigits_44 (by decide) ?_
          refine lv_isub hx hb dX6_takeDigits_46 ?_
          refine lv_topi (fun v_57 ev_57 => ?_)
          have hd9 : v_57.toInt = v_55.toInt - 48 := by have h1 := ow_sub ev_57 (by omega) (by omega); omega
          refine lv_iadd hx hb dX6_takeDigits_47 ?_
          refine lv_topi (fun v_58 ev_58 => ?_)
          have ha9 : v_52.toInt < 0 ∨ 9990 < v_52.toInt ∨ v_58.toInt = v_52.toInt + v_57.toInt := by
            by_cases h1 : 0 ≤ v_52.toInt ∧ v_52.toInt ≤ 9990
            · exact Or.inr (Or.inr (ow_add ev_58 (by omega) (by omega)))
            · omega
          refine cp_12_6_6 hx hb ht hown hK hN hP hD hS hthis.1 hthis.2 dX6_takeDigits_48 (fun H locs hP hD hS => ?_)
          replace hI := IV.up hI hthis.2 6 (ow_any v_58)
          have f_59 : FI [(12, 6)] K I4 (va_up I4 this (va_up (I4 this) 6 v_58)) := FI.up hthis.2 6 v_58
          have e_60 : (va_up I4 this (va_up (I4 this) 6 v_58)) this 6 = v_58 := FI.at I4 this 6 v_58
          replace hC_0 := FI.tr hC_0 f_59 (by decide)
          replace hX_4 := FI.tr hX_4 f_59 (by decide)
          generalize (va_up I4 this (va_up (I4 this) 6 v_58)) = I_61 at hP hD hI f_59 e_60 hC_0 hX_4
          refine lv_aload_n hx hb dX6_takeDigits_51 rfl (lv_at hl 0 rfl) ?_
          refine lv_dup hx hb dX6_takeDigits_52 rfl ?_
          refine cg_12_3_6 hx hb ht hown hK hN hP hthis.1 hthis.2 dX6_takeDigits_53 ?_
          refine ow_top (I4 this 3) (f_59 this 3 (by rw [hthis.2]; decide)) ?_
          refine lv_iconst (v := 1) hx hb dX6_takeDigits_56 (by decide) ?_
          refine lv_iadd hx hb dX6_takeDigits_57 ?_
          refine lv_topi (fun v_62 ev_62 => ?_)
          have q_63 : v_62.toInt = (I4 this 3).toInt + (1 : Int32).toInt := ow_add ev_62 (by omega) (by omega)
          refine cp_12_3_6 hx hb ht hown hK hN hP hD hS hthis.1 hthis.2 dX6_takeDigits_58 (fun H locs hP hD hS => ?_)
          replace hI := IV.up hI hthis.2 3 (show 0 ≤ v_62.toInt ∧ v_62.toInt ≤ 1700 from by omega)
          have f_64 : FI [(12, 3)] K I_61 (va_up I_61 this (va_up (I_61 this) 3 v_62)) := FI.up hthis.2 3 v_62
          have e_65 : (va_up I_61 this (va_up (I_61 this) 3 v_62)) this 3 = v_62 := FI.at I_61 this 3 v_62
          replace hC_0 := FI.tr hC_0 f_64 (by decide)
          replace hX_4 := FI.tr hX_4 f_64 (by decide)
          generalize (va_up I_61 this (va_up (I_61 this) 3 v_62)) = I_66 at hP hD hI f_64 e_65 hC_0 hX_4
          refine lv_goto (tgt := 5) hx hb dX6_takeDigits_61 (by decide) ?_
          refine W.widen (k := 0) (n := 0) (Nat.le_of_ble_eq_true rfl) (Nat.le_of_ble_eq_true rfl) ?_
          exact ih_4 I_66 J4 E4 B4 _ _ _ hI hE hX_4 (show ((I_66 this 3).toInt = (I this 5).toInt ∧ (I_66 this 6).toInt = 0) ∨ ((I_66 this 3).toInt = (I this 5).toInt + 1 ∧ 0 ≤ (I_66 this 6).toInt ∧ (I_66 this 6).toInt ≤ 9) ∨ ((I_66 this 3).toInt = (I this 5).toInt + 2 ∧ 0 ≤ (I_66 this 6).toInt ∧ (I_66 this 6).toInt ≤ 99) ∨ ((I_66 this 3).toInt = (I this 5).toInt + 3 ∧ 0 ≤ (I_66 this 6).toInt ∧ (I_66 this 6).toInt ≤ 999) ∨ ((I_66 this 3).toInt = (I this 5).toInt + 4 ∧ 0 ≤ (I_66 this 6).toInt ∧ (I_66 this 6).toInt ≤ 9999) ∨ (I this 5).toInt + 5 ≤ (I_66 this 3).toInt from by rw [(show I_66 this 3 = v_62 from e_65), (show I_66 this 6 = v_58 from ((f_64 this 6 (by rw [hthis.2]; decide)).trans e_60))]; try omega) (show (1700 - (I_66 this 3).toInt).toNat < N_4 from by rw [(show I_66 this 3 = v_62 from e_65)]; try omega) hP hD hS (lv_sub hl [0] rfl)
  exact lp_4 _ I_3 J E B _ _ _ hI hE FI.rf (show ((I_3 this 3).toInt = (I this 5).toInt ∧ (I_3 this 6).toInt = 0) ∨ ((I_3 this 3).toInt = (I this 5).toInt + 1 ∧ 0 ≤ (I_3 this 6).toInt ∧ (I_3 this 6).toInt ≤ 9) ∨ ((I_3 this 3).toInt = (I this 5).toInt + 2 ∧ 0 ≤ (I_3 this 6).toInt ∧ (I_3 this 6).toInt ≤ 99) ∨ ((I_3 this 3).toInt = (I this 5).toInt + 3 ∧ 0 ≤ (I_3 this 6).toInt ∧ (I_3 this 6).toInt ≤ 999) ∨ ((I_3 this 3).toInt = (I this 5).toInt + 4 ∧ 0 ≤ (I_3 this 6).toInt ∧ (I_3 this 6).toInt ≤ 9999) ∨ (I this 5).toInt + 5 ≤ (I_3 this 3).toInt from by rw [(show I_3 this 3 = (I this 3) from (f_1 this 3 (by rw [hthis.2]; decide))), (show I_3 this 6 = (0 : Int32) from e_2)]; try omega) (Nat.lt_succ_self _) hP hD hS (lv_sub hl [0] rfl)
set_option maxHeartbeats 4000000 in
set_option maxRecDepth 100000 in
theorem r_takeToken (l : Launch) (G : va_G) (cy : Nat → ClassId) (sz : Nat) (tq qq wq : Nat) (fo : Option Nat) (L : List Nat) (K : Nat → Nat) (R : Nat → Nat → Nat) (T : Int) (I E : Nat → Nat → Int32) (J B : Nat → Nat → Int64) (this : Nat)  (hRT : RT L K R) (hI : IV T L K I) (hE : EV L K E) (hthis1 : this ∈ L) (hthis2 : K this = 12) : Met l yX6_takeToken (.code yX6_takeToken cX6_takeToken 1 none :: TBg) ({ frames := 6, cells := 0, slots := 0, locals := 384 }) (va_Pc [.ref this] (EnX G cy (WC cy L K R I J E B) sz tq qq wq fo (va_A (WC cy L K R I J E B) sz))) (va_Qv (fun (u : (Nat → Nat → Int32) × (Nat → Nat → Int64) × (Nat → Nat → Int32) × (Nat → Nat → Int64)) => IV T L K u.1 ∧ EV L K u.2.2.1 ∧ FI [(12, 3), (12, 4), (12, 5), (12, 6)] K I u.1 ∧ (((u.1 this 4).toInt ≠ 16 ∨ 0 ≤ (u.1 this 6).toInt))) (fun u t => Ex G (va_A (WC cy L K R I J E B) sz) (WC cy L K R u.1 u.2.1 u.2.2.1 u.2.2.2) t) (va_A (WC cy L K R I J E B) sz)) 0 0 (va_A (WC cy L K R I J E B) sz) := by
  have hthis : this ∈ L ∧ K this = 12 := ⟨hthis1, hthis2⟩
  refine Met.ofW (cc := cX6_takeToken) (maxL := 1) (ret := none) (by decide) rfl ?_
  intro p e s m args below meth c s₁ B9 hml hv9
  obtain ⟨rfl, ⟨hsz, hP, hK, hD0, hN⟩, hX⟩ := hv9
  have hx := B9.exec
  have hb := B9.bytes
  have hr := B9.returns
  have hts := atoms_spec (ws := .code yX6_takeToken cX6_takeToken 1 none :: TBg) B9.pre
  have ht : ∀ w ∈ TBg, w.before _ s = true := fun w h => hts w (List.mem_cons_of_mem _ h)
  have hown : s.vm.findClass RX6 = some m.cls := findClass_of_methodNamed B9.named
  have hlocks := B9.notSynchronized
  subst hsz
  have hD := hD0.self (sz := s.heap.size)
  generalize hAe : va_A (WC cy L K R I J E B) s.heap.size = A at hD hX ⊢
  have hA : ∀ q : Nat, s.heap.size ≤ q → A q := fun q h => by rw [← hAe]; exact Or.inr h
  have hS : va_S A s.heap s.heap [] := va_S.rf
  have hl := lv_entry ([.ref this]) (n := 1) (Nat.le_of_ble_eq_true rfl)
  rw [lg_entry_eq]
  generalize (lg_sl ([.ref this]) ++ List.replicate (1 - (lg_sl ([.ref this])).length) Slot.unset).toArray = ls at hl ⊢
  have hl : lv_has ls 1 [(0, .ref this)] := hl
  have z0 : (0 : Int32).toInt = 0 := by decide
  have z1 : (1 : Int32).toInt = 1 := by decide
  have z2 : (10 : Int32).toInt = 10 := by decide
  have z3 : (17 : Int32).toInt = 17 := by decide
  have z4 : (18 : Int32).toInt = 18 := by decide
  have z5 : (32 : Int32).toInt = 32 := by decide
  have hC_0 : FI [(12, 3), (12, 4), (12, 5), (12, 6)] K I I := FI.rf
  refine W.widen (k := 0) (n := 0) (Nat.le_of_ble_eq_true rfl) (Nat.le_of_ble_eq_true rfl) ?_
  have lp_1 : ∀ (N_1 : Nat) (I1 : Nat → Nat → Int32) (J1 : Nat → Nat → Int64) (E1 : Nat → Nat → Int32) (B1 : Nat → Nat → Int64) (H : Heap) (locs : List Loc) (ls : Array Slot), IV T L K I1 → EV L K E1 → FI [(12, 3), (12, 4), (12, 5), (12, 6)] K I I1 → (1700 - (I1 this 3).toInt).toNat < N_1 → va_P G vwCl (WC cy L K R I1 J1 E1 B1) H → va_D A (WC cy L K R I1 J1 E1 B1) → va_S A s.heap H locs → lv_has ls 1 [(0, .ref this)] → W p l e (headSpec (.code yX6_takeToken cX6_takeToken 1 none :: TBg) ({ frames := 6, cells := 0, slots := 0, locals := 384 })).room s m ([.ref this] : List Value).toArray below meth c H locs 0 0 (MQ below (va_Qv (fun (u : (Nat → Nat → Int32) × (Nat → Nat → Int64) × (Nat → Nat → Int32) × (Nat → Nat → Int64)) => IV T L K u.1 ∧ EV L K u.2.2.1 ∧ FI [(12, 3), (12, 4), (12, 5), (12, 6)] K I u.1 ∧ (((u.1 this 4).toInt ≠ 16 ∨ 0 ≤ (u.1 this 6).toInt))) (fun u t => Ex G A (WC cy L K R u.1 u.2.1 u.2.2.1 u.2.2.2) t) A) ([.ref this] : List Value).toArray s 0 0 A) (F0 m 0 ls []) := by
    intro N_1
    induction N_1 with
    | zero => intro I1 J1 E1 B1 H locs ls hI hE hC_1 hm9 hP hD hS hl; exact absurd hm9 (Nat.not_lt_zero _)
    | succ N_1 ih_1 =>
      intro I1 J1 E1 B1 H locs ls hI hE hC_1 hm9 hP hD hS hl
      replace hC_0 := FI.tr hC_0 hC_1 (by decide)
      have hX_1 := hC_1
      refine lv_aload_n hx hb dX6_takeToken_0 rfl (lv_at hl 0 rfl) ?_
      refine cg_12_3_6 hx hb ht hown hK hN hP hthis.1 hthis.2 dX6_takeToken_1 ?_
      have q_2 : 0 ≤ (I1 this 3).toInt ∧ (I1 this 3).toInt ≤ 1700 := IV.rd hI hthis.1 hthis.2 3
      refine lv_aload_n hx hb dX6_takeToken_4 rfl (lv_at hl 0 rfl) ?_
      refine cg_12_1_6 hx hb ht hown hK hN hP hthis.1 hthis.2 dX6_takeToken_5 ?_
      refine ow_top (I this 1) (hC_1 this 1 (by rw [hthis.2]; decide)) ?_
      have q_3 : 0 ≤ (I this 1).toInt ∧ (I this 1).toInt ≤ 1700 := by have h9 : I1 this 1 = (I this 1) := (hC_1 this 1 (by rw [hthis.2]; decide)); rw [← h9]; exact IV.rd hI hthis.1 hthis.2 1
      refine lv_icmp_ge (tgt := 52) hx hb dX6_takeToken_8 (by decide) (fun c_4 => ?_) (fun c_4 => ?_)
      · have q_5 : (I this 1).toInt ≤ (I1 this 3).toInt := (ow_le _ _).mp c_4
        refine lv_aload_n hx hb dX6_takeToken_52 rfl (lv_at hl 0 rfl) ?_
        refine lv_aload_n hx hb dX6_takeToken_53 rfl (lv_at hl 0 rfl) ?_
        refine cg_12_3_6 hx hb ht hown hK hN hP hthis.1 hthis.2 dX6_takeToken_54 ?_
        refine cp_12_5_6 hx hb ht hown hK hN hP hD hS hthis.1 hthis.2 dX6_takeToken_57 (fun H locs hP hD hS => ?_)
        replace hI := IV.up hI hthis.2 5 (show 0 ≤ (I1 this 3).toInt ∧ (I1 this 3).toInt ≤ 1700 from by omega)
        have f_6 : FI [(12, 5)] K I1 (va_up I1 this (va_up (I1 this) 5 (I1 this 3))) := FI.up hthis.2 5 (I1 this 3)
        have e_7 : (va_up I1 this (va_up (I1 this) 5 (I1 this 3))) this 5 = (I1 this 3) := FI.at I1 this 5 (I1 this 3)
        replace hC_0 := FI.tr hC_0 f_6 (by decide)
        replace hX_1 := FI.tr hX_1 f_6 (by decide)
        generalize (va_up I1 this (va_up (I1 this) 5 (I1 this 3))) = I_8 at hP hD hI f_6 e_7 hC_0 hX_1
        refine lv_aload_n hx hb dX6_takeToken_60 rfl (lv_at hl 0 rfl) ?_
        refine cg_12_3_6 hx hb ht hown hK hN hP hthis.1 hthis.2 dX6_takeToken_61 ?_
        refine ow_top (I1 this 3) (f_6 this 3 (by rw [hthis.2]; decide)) ?_
        refine lv_aload_n hx hb dX6_takeToken_64 rfl (lv_at hl 0 rfl) ?_
        refine cg_12_1_6 hx hb ht hown hK hN hP hthis.1 hthis.2 dX6_takeToken_65 ?_
        refine ow_top (I this 1) ((f_6 this 1 (by rw [hthis.2]; decide)).trans (hC_1 this 1 (by rw [hthis.2]; decide))) ?_
        refine lv_icmp_lt (tgt := 80) hx hb dX6_takeToken_68 (by decide) (fun c_9 => ?_) (fun c_9 => ?_)
        · have q_10 : (I1 this 3).toInt < (I this 1).toInt := (ow_lt _ _).mp c_9
          refine lv_aload_n hx hb dX6_takeToken_80 rfl (lv_at hl 0 rfl) ?_
          refine lv_aload_n hx hb dX6_takeToken_81 rfl (lv_at hl 0 rfl) ?_
          refine cg_12_3_6 hx hb ht hown hK hN hP hthis.1 hthis.2 dX6_takeToken_82 ?_
          refine ow_top (I1 this 3) (f_6 this 3 (by rw [hthis.2]; decide)) ?_
          have hFc := fr_new hS hA
          refine va_calli (va_runV (As := [.int (I1 this 3)]) (rest := []) ⟨hx, hb, hml, hown, ht⟩ (r_letterAt l G cy _ L K R T I_8 E1 J1 B1 this (I1 this 3) hRT hI hE hthis.1 hthis.2) (cwV 1 ht (gv k_630 k_631 k_632 k_633 k_629) rfl rfl rfl (by decide +kernel) ⟨Nat.le_of_ble_eq_true rfl, Nat.le_of_ble_eq_true rfl⟩) ⟨En.blind, cr_12 hK hP hthis.1 hthis.2, fun U hU hW => ⟨rfl, En.of hU hW hP hK hD hN⟩⟩ rfl rfl hl.1 rfl (lv_room (Nat.le_of_ble_eq_true rfl)) dX6_takeToken_85 ⟨Nat.le_of_ble_eq_true rfl, Nat.le_of_ble_eq_true rfl⟩) hS (fun q _ h => hFc q h) hFc (fun r_u_11 u_11 t9 H locs ht9 hvm hw hB hz1 hk1 hS => ?_)
          have hP := fr_keep hP hk1
          have wu_11 := hw
          clear hFc hk1 hz1 hB hw
          refine lv_if_eq (tgt := 115) hx hb dX6_takeToken_88 (by decide) (fun c_12 => ?_) (fun c_12 => ?_)
          · have q_13 : r_u_11.toInt = (0 : Int32).toInt := (ow_eq _ _).mp c_12
            refine lv_aload_n hx hb dX6_takeToken_115 rfl (lv_at hl 0 rfl) ?_
            refine lv_aload_n hx hb dX6_takeToken_116 rfl (lv_at hl 0 rfl) ?_
            refine cg_12_3_6 hx hb ht hown hK hN hP hthis.1 hthis.2 dX6_takeToken_117 ?_
            refine ow_top (I1 this 3) (f_6 this 3 (by rw [hthis.2]; decide)) ?_
            have hFc := fr_new hS hA
            refine va_calli (va_runV (As := [.int (I1 this 3)]) (rest := []) ⟨hx, hb, hml, hown, ht⟩ (r_digitAt l G cy _ L K R T I_8 E1 J1 B1 this (I1 this 3) hRT hI hE hthis.1 hthis.2) (cwV 1 ht (gv k_636 k_637 k_638 k_633 k_635) rfl rfl rfl (by decide +kernel) ⟨Nat.le_of_ble_eq_true rfl, Nat.le_of_ble_eq_true rfl⟩) ⟨En.blind, cr_12 hK hP hthis.1 hthis.2, fun U hU hW => ⟨rfl, En.of hU hW hP hK hD hN⟩⟩ rfl rfl hl.1 rfl (lv_room (Nat.le_of_ble_eq_true rfl)) dX6_takeToken_120 ⟨Nat.le_of_ble_eq_true rfl, Nat.le_of_ble_eq_true rfl⟩) hS (fun q _ h => hFc q h) hFc (fun r_u_14 u_14 t9 H locs ht9 hvm hw hB hz1 hk1 hS => ?_)
            have hP := fr_keep hP hk1
            have wu_14 := hw
            clear hFc hk1 hz1 hB hw
            refine lv_if_eq (tgt := 133) hx hb dX6_takeToken_123 (by decide) (fun c_15 => ?_) (fun c_15 => ?_)
            · have q_16 : r_u_14.toInt = (0 : Int32).toInt := (ow_eq _ _).mp c_15
              refine lv_aload_n hx hb dX6_takeToken_133 rfl (lv_at hl 0 rfl) ?_
              refine lv_aload_n hx hb dX6_takeToken_134 rfl (lv_at hl 0 rfl) ?_
              refine cg_12_0_6 hx hb ht hown hK hN hP hthis.1 hthis.2 dX6_takeToken_135 ?_
              have hm_17 : (R this 0) ∈ L ∧ K (R this 0) = 20 := RT.o hRT hthis.1 hthis.2 0 (by decide)
              refine lv_aload_n hx hb dX6_takeToken_138 rfl (lv_at hl 0 rfl) ?_
              refine cg_12_3_6 hx hb ht hown hK hN hP hthis.1 hthis.2 dX6_takeToken_139 ?_
              refine ow_top (I1 this 3) (f_6 this 3 (by rw [hthis.2]; decide)) ?_
              have q_18 : vp_in (I1 this 3) 1700 := vp_in_iff.mpr ⟨by omega, by omega⟩
              refine cl_20 hx hb hK hP hm_17.1 hm_17.2 q_18 dX6_takeToken_142 ?_
              refine lv_topi (fun v_19 ev_19 => ?_)
              have q_20 : v_19.toInt = (E1 (R this 0) (Int32.toNatClampNeg (I1 this 3))).toInt := congrArg Int32.toInt ev_19
              have hFc := fr_new hS hA
              refine va_calli (va_runS (As := [.int v_19]) (rest := [.ref this]) ⟨hx, hb, hml, hown, ht⟩ (r_isSign l G cy _  v_19  ) (va_cwS 1 ht (gs k_640 k_641 k_633 k_639) rfl rfl rfl (by decide +kernel) ⟨Nat.le_of_ble_eq_true rfl, Nat.le_of_ble_eq_true rfl⟩) ⟨En.blind, fun U hU hW => ⟨rfl, En.of hU hW (va_P0 (H := _)) hK va_D0 hN⟩⟩ rfl rfl hl.1 rfl (lv_room (Nat.le_of_ble_eq_true rfl)) dX6_takeToken_143 ⟨Nat.le_of_ble_eq_true rfl, Nat.le_of_ble_eq_true rfl⟩) hS (fun q _ h => hFc q h) hFc (fun r_u_21 u_21 t9 H locs ht9 hvm hw hB hz1 hk1 hS => ?_)
              have hP := fr_keep hP hk1
              have wu_21 := hw
              clear hFc hk1 hz1 hB hw
              refine lv_if_eq (tgt := 161) hx hb dX6_takeToken_146 (by decide) (fun c_22 => ?_) (fun c_22 => ?_)
              · have q_23 : r_u_21.toInt = (0 : Int32).toInt := (ow_eq _ _).mp c_22
                refine lv_bipush (v := 18) hx hb dX6_takeToken_161 (by decide) ?_
                refine cp_12_4_6 hx hb ht hown hK hN hP hD hS hthis.1 hthis.2 dX6_takeToken_163 (fun H locs hP hD hS => ?_)
                replace hI := IV.up hI hthis.2 4 (ow_any (18 : Int32))
                have f_24 : FI [(12, 4)] K I_8 (va_up I_8 this (va_up (I_8 this) 4 18)) := FI.up hthis.2 4 (18 : Int32)
                have e_25 : (va_up I_8 this (va_up (I_8 this) 4 18)) this 4 = 18 := FI.at I_8 this 4 (18 : Int32)
                replace hC_0 := FI.tr hC_0 f_24 (by decide)
                replace hX_1 := FI.tr hX_1 f_24 (by decide)
                generalize (va_up I_8 this (va_up (I_8 this) 4 18)) = I_26 at hP hD hI f_24 e_25 hC_0 hX_1
                refine lv_aload_n hx hb dX6_takeToken_166 rfl (lv_at hl 0 rfl) ?_
                refine lv_dup hx hb dX6_takeToken_167 rfl ?_
                refine cg_12_3_6 hx hb ht hown hK hN hP hthis.1 hthis.2 dX6_takeToken_168 ?_
                refine ow_top (I1 this 3) ((f_24 this 3 (by rw [hthis.2]; decide)).trans (f_6 this 3 (by rw [hthis.2]; decide))) ?_
                refine lv_iconst (v := 1) hx hb dX6_takeToken_171 (by decide) ?_
                refine lv_iadd hx hb dX6_takeToken_172 ?_
                refine lv_topi (fun v_27 ev_27 => ?_)
                have q_28 : v_27.toInt = (I1 this 3).toInt + (1 : Int32).toInt := ow_add ev_27 (by omega) (by omega)
                refine cp_12_3_6 hx hb ht hown hK hN hP hD hS hthis.1 hthis.2 dX6_takeToken_173 (fun H locs hP hD hS => ?_)
                replace hI := IV.up hI hthis.2 3 (show 0 ≤ v_27.toInt ∧ v_27.toInt ≤ 1700 from by omega)
                have f_29 : FI [(12, 3)] K I_26 (va_up I_26 this (va_up (I_26 this) 3 v_27)) := FI.up hthis.2 3 v_27
                have e_30 : (va_up I_26 this (va_up (I_26 this) 3 v_27)) this 3 = v_27 := FI.at I_26 this 3 v_27
                replace hC_0 := FI.tr hC_0 f_29 (by decide)
                replace hX_1 := FI.tr hX_1 f_29 (by decide)
                generalize (va_up I_26 this (va_up (I_26 this) 3 v_27)) = I_31 at hP hD hI f_29 e_30 hC_0 hX_1
                refine W.widen (k := 0) (n := 0) (Nat.le_of_ble_eq_true rfl) (Nat.le_of_ble_eq_true rfl) ?_
                exact W.vret hx hb hr (fun t ht9 hW => ⟨⟨(I_31, J1, E1, B1), rfl, ⟨hI, hE, hC_0, (show (I_31 this 4).toInt ≠ 16 ∨ 0 ≤ (I_31 this 6).toInt from by rw [(show I_31 this 4 = (18 : Int32) from ((f_29 this 4 (by rw [hthis.2]; decide)).trans e_25)), (show I_31 this 6 = (I1 this 6) from ((f_29 this 6 (by rw [hthis.2]; decide)).trans ((f_24 this 6 (by rw [hthis.2]; decide)).trans (f_6 this 6 (by rw [hthis.2]; decide)))))]; try omega)⟩, ⟨by rw [ht9]; exact hP, hD⟩⟩, hS.F ht9⟩) hS.2.2 dX6_takeToken_176
              · have q_32 : ¬ r_u_21.toInt = (0 : Int32).toInt := by have := (not_congr (ow_eq _ _)).mp c_22; omega
                refine lv_aload_n hx hb dX6_takeToken_149 rfl (lv_at hl 0 rfl) ?_
                refine cg_12_0_6 hx hb ht hown hK hN hP hthis.1 hthis.2 dX6_takeToken_150 ?_
                refine lv_aload_n hx hb dX6_takeToken_153 rfl (lv_at hl 0 rfl) ?_
                refine cg_12_3_6 hx hb ht hown hK hN hP hthis.1 hthis.2 dX6_takeToken_154 ?_
                refine ow_top (I1 this 3) (f_6 this 3 (by rw [hthis.2]; decide)) ?_
                have q_33 : vp_in (I1 this 3) 1700 := vp_in_iff.mpr ⟨by omega, by omega⟩
                refine cl_20 hx hb hK hP hm_17.1 hm_17.2 q_33 dX6_takeToken_157 ?_
                refine ow_top v_19 ev_19.symm ?_
                refine lv_goto (tgt := 163) hx hb dX6_takeToken_158 (by decide) ?_
                refine cp_12_4_6 hx hb ht hown hK hN hP hD hS hthis.1 hthis.2 dX6_takeToken_163 (fun H locs hP hD hS => ?_)
                replace hI := IV.up hI hthis.2 4 (ow_any v_19)
                have f_34 : FI [(12, 4)] K I_8 (va_up I_8 this (va_up (I_8 this) 4 v_19)) := FI.up hthis.2 4 v_19
                have e_35 : (va_up I_8 this (va_up (I_8 this) 4 v_19)) this 4 = v_19 := FI.at I_8 this 4 v_19
                replace hC_0 := FI.tr hC_0 f_34 (by decide)
                replace hX_1 := FI.tr hX_1 f_34 (by decide)
                generalize (va_up I_8 this (va_up (I_8 this) 4 v_19)) = I_36 at hP hD hI f_34 e_35 hC_0 hX_1
                refine lv_aload_n hx hb dX6_takeToken_166 rfl (lv_at hl 0 rfl) ?_
                refine lv_dup hx hb dX6_takeToken_167 rfl ?_
                refine cg_12_3_6 hx hb ht hown hK hN hP hthis.1 hthis.2 dX6_takeToken_168 ?_
                refine ow_top (I1 this 3) ((f_34 this 3 (by rw [hthis.2]; decide)).trans (f_6 this 3 (by rw [hthis.2]; decide))) ?_
                refine lv_iconst (v := 1) hx hb dX6_takeToken_171 (by decide) ?_
                refine lv_iadd hx hb dX6_takeToken_172 ?_
                refine lv_topi (fun v_37 ev_37 => ?_)
                have q_38 : v_37.toInt = (I1 this 3).toInt + (1 : Int32).toInt := ow_add ev_37 (by omega) (by omega)
                refine cp_12_3_6 hx hb ht hown hK hN hP hD hS hthis.1 hthis.2 dX6_takeToken_173 (fun H locs hP hD hS => ?_)
                replace hI := IV.up hI hthis.2 3 (show 0 ≤ v_37.toInt ∧ v_37.toInt ≤ 1700 from by omega)
                have f_39 : FI [(12, 3)] K I_36 (va_up I_36 this (va_up (I_36 this) 3 v_37)) := FI.up hthis.2 3 v_37
                have e_40 : (va_up I_36 this (va_up (I_36 this) 3 v_37)) this 3 = v_37 := FI.at I_36 this 3 v_37
                replace hC_0 := FI.tr hC_0 f_39 (by decide)
                replace hX_1 := FI.tr hX_1 f_39 (by decide)
                generalize (va_up I_36 this (va_up (I_36 this) 3 v_37)) = I_41 at hP hD hI f_39 e_40 hC_0 hX_1
                refine W.widen (k := 0) (n := 0) (Nat.le_of_ble_eq_true rfl) (Nat.le_of_ble_eq_true rfl) ?_
                exact W.vret hx hb hr (fun t ht9 hW => ⟨⟨(I_41, J1, E1, B1), rfl, ⟨hI, hE, hC_0, (show (I_41 this 4).toInt ≠ 16 ∨ 0 ≤ (I_41 this 6).toInt from by rw [(show I_41 this 4 = v_19 from ((f_39 this 4 (by rw [hthis.2]; decide)).trans e_35)), (show I_41 this 6 = (I1 this 6) from ((f_39 this 6 (by rw [hthis.2]; decide)).trans ((f_34 this 6 (by rw [hthis.2]; decide)).trans (f_6 this 6 (by rw [hthis.2]; decide)))))]; try omega)⟩, ⟨by rw [ht9]; exact hP, hD⟩⟩, hS.F ht9⟩) hS.2.2 dX6_takeToken_176
            · have q_42 : ¬ r_u_14.toInt = (0 : Int32).toInt := by have := (not_congr (ow_eq _ _)).mp c_15; omega
              refine lv_aload_n hx hb dX6_takeToken_126 rfl (lv_at hl 0 rfl) ?_
              have hFc := fr_free hD hS hA
              refine va_callv (va_runV (As := []) (rest := []) ⟨hx, hb, hml, hown, ht⟩ (r_takeDigits l G cy _ L K R T I_8 E1 J1 B1 this hRT hI hE hthis.1 hthis.2 (show (I_8 this 5).toInt = (I_8 this 3).toInt from by rw [(show I_8 this 5 = (I1 this 3) from e_7), (show I_8 this 3 = (I1 this 3) from (f_6 this 3 (by rw [hthis.2]; decide)))]; try omega)) (cwV 0 ht (gv k_643 k_644 k_645 k_633 k_642) rfl rfl rfl (by decide +kernel) ⟨Nat.le_of_ble_eq_true rfl, Nat.le_of_ble_eq_true rfl⟩) ⟨En.blind, cr_12 hK hP hthis.1 hthis.2, fun U hU hW => ⟨rfl, En.of hU hW hP hK hD hN⟩⟩ rfl rfl hl.1 rfl (lv_room (Nat.le_of_ble_eq_true rfl)) dX6_takeToken_127 ⟨Nat.le_of_ble_eq_true rfl, Nat.le_of_ble_eq_true rfl⟩) hS (fun q _ h => hFc q h) hFc (fun u_43 t9 H locs ht9 hvm hw hB hz1 hk1 hS => ?_)
              obtain ⟨I43, J43, E43, B43⟩ := u_43
              obtain ⟨hP1, hD1⟩ := hB
              rw [ht9] at hP1
              clear hI hE
              obtain ⟨hI, hE, xu_43I, wu_43⟩ := hw
              dsimp only at hI hE xu_43I wu_43
              have hP : va_P G vwCl (WC cy L K R I43 J43 E43 B43) H := hP1
              have hD : va_D A (WC cy L K R I43 J43 E43 B43) := hD1.weaken (fun _ _ _ h => hFc _ h)
              clear hFc hk1 hz1 hP1 hD1
              replace hC_0 := FI.tr hC_0 xu_43I (by decide)
              replace hX_1 := FI.tr hX_1 xu_43I (by decide)
              replace wu_43 : ((I43 this 4).toInt ≠ 16 ∨ 0 ≤ (I43 this 6).toInt) := by
                have h9 : ((I43 this 4).toInt ≠ 16 ∨ 0 ≤ (I43 this 6).toInt) := wu_43
                exact h9
              refine lv_goto (tgt := 176) hx hb dX6_takeToken_130 (by decide) ?_
              refine W.widen (k := 0) (n := 0) (Nat.le_of_ble_eq_true rfl) (Nat.le_of_ble_eq_true rfl) ?_
              exact W.vret hx hb hr (fun t ht9 hW => ⟨⟨(I43, J43, E43, B43), rfl, ⟨hI, hE, hC_0, (show (I43 this 4).toInt ≠ 16 ∨ 0 ≤ (I43 this 6).toInt from by omega)⟩, ⟨by rw [ht9]; exact hP, hD⟩⟩, hS.F ht9⟩) hS.2.2 dX6_takeToken_176
          · have q_44 : ¬ r_u_11.toInt = (0 : Int32).toInt := by have := (not_congr (ow_eq _ _)).mp c_12; omega
            refine lv_aload_n hx hb dX6_takeToken_91 rfl (lv_at hl 0 rfl) ?_
            have hFc := fr_free hD hS hA
            refine va_callv (va_runV (As := []) (rest := []) ⟨hx, hb, hml, hown, ht⟩ (r_takeLetters l G cy _ L K R T I_8 E1 J1 B1 this hRT hI hE hthis.1 hthis.2) (cwV 0 ht (gv k_647 k_648 k_649 k_633 k_646) rfl rfl rfl (by decide +kernel) ⟨Nat.le_of_ble_eq_true rfl, Nat.le_of_ble_eq_true rfl⟩) ⟨En.blind, cr_12 hK hP hthis.1 hthis.2, fun U hU hW => ⟨rfl, En.of hU hW hP hK hD hN⟩⟩ rfl rfl hl.1 rfl (lv_room (Nat.le_of_ble_eq_true rfl)) dX6_takeToken_92 ⟨Nat.le_of_ble_eq_true rfl, Nat.le_of_ble_eq_true rfl⟩) hS (fun q _ h => hFc q h) hFc (fun u_45 t9 H locs ht9 hvm hw hB hz1 hk1 hS => ?_)
            obtain ⟨I45, J45, E45, B45⟩ := u_45
            obtain ⟨hP1, hD1⟩ := hB
            rw [ht9] at hP1
            clear hI hE
            obtain ⟨hI, hE, xu_45I, wu_45⟩ := hw
            dsimp only at hI hE xu_45I wu_45
            have hP : va_P G vwCl (WC cy L K R I45 J45 E45 B45) H := hP1
            have hD : va_D A (WC cy L K R I45 J45 E45 B45) := hD1.weaken (fun _ _ _ h => hFc _ h)
            clear hFc hk1 hz1 hP1 hD1
            replace hC_0 := FI.tr hC_0 xu_45I (by decide)
            replace hX_1 := FI.tr hX_1 xu_45I (by decide)
            refine lv_aload_n hx hb dX6_takeToken_95 rfl (lv_at hl 0 rfl) ?_
            refine lv_aload_n hx hb dX6_takeToken_96 rfl (lv_at hl 0 rfl) ?_
            refine lv_aload_n hx hb dX6_takeToken_97 rfl (lv_at hl 0 rfl) ?_
            refine cg_12_3_6 hx hb ht hown hK hN hP hthis.1 hthis.2 dX6_takeToken_98 ?_
            have q_46 : 0 ≤ (I45 this 3).toInt ∧ (I45 this 3).toInt ≤ 1700 := IV.rd hI hthis.1 hthis.2 3
            refine lv_aload_n hx hb dX6_takeToken_101 rfl (lv_at hl 0 rfl) ?_
            refine cg_12_5_6 hx hb ht hown hK hN hP hthis.1 hthis.2 dX6_takeToken_102 ?_
            refine ow_top (I1 this 3) ((xu_45I this 5 (by rw [hthis.2]; decide)).trans e_7) ?_
            refine lv_isub hx hb dX6_takeToken_105 ?_
            refine lv_topi (fun v_47 ev_47 => ?_)
            have q_48 : v_47.toInt = (I45 this 3).toInt - (I1 this 3).toInt := ow_sub ev_47 (by omega) (by omega)
            have hFc := fr_new hS hA
            refine va_calli (va_runV (As := [.int v_47]) (rest := [.ref this]) ⟨hx, hb, hml, hown, ht⟩ (r_sortOfWord l G cy _ tq qq wq fo L K R T I45 E45 J45 B45 this v_47 hRT hI hE hthis.1 hthis.2 (show v_47.toInt + (I45 this 5).toInt ≤ 1700 from by rw [(show I45 this 5 = (I1 this 3) from ((xu_45I this 5 (by rw [hthis.2]; decide)).trans e_7))]; try omega)) (cwV 1 ht (gv k_651 k_652 k_653 k_633 k_650) rfl rfl rfl (by decide +kernel) ⟨Nat.le_of_ble_eq_true rfl, Nat.le_of_ble_eq_true rfl⟩) ⟨EnX.blind, cr_12 hK hP hthis.1 hthis.2, fun U hU hW => ⟨rfl, En.of hU hW hP hK hD hN, XK.of hX hS hFc hU hW⟩⟩ rfl rfl hl.1 rfl (lv_room (Nat.le_of_ble_eq_true rfl)) dX6_takeToken_106 ⟨Nat.le_of_ble_eq_true rfl, Nat.le_of_ble_eq_true rfl⟩) hS (fun q _ h => hFc q h) hFc (fun r_u_49 u_49 t9 H locs ht9 hvm hw hB hz1 hk1 hS => ?_)
            have hP := fr_keep hP hk1
            have wu_49 := hw
            clear hFc hk1 hz1 hB hw
            refine cp_12_4_6 hx hb ht hown hK hN hP hD hS hthis.1 hthis.2 dX6_takeToken_109 (fun H locs hP hD hS => ?_)
            replace hI := IV.up hI hthis.2 4 (ow_any r_u_49)
            have f_50 : FI [(12, 4)] K I45 (va_up I45 this (va_up (I45 this) 4 r_u_49)) := FI.up hthis.2 4 r_u_49
            have e_51 : (va_up I45 this (va_up (I45 this) 4 r_u_49)) this 4 = r_u_49 := FI.at I45 this 4 r_u_49
            replace hC_0 := FI.tr hC_0 f_50 (by decide)
            replace hX_1 := FI.tr hX_1 f_50 (by decide)
            generalize (va_up I45 this (va_up (I45 this) 4 r_u_49)) = I_52 at hP hD hI f_50 e_51 hC_0 hX_1
            refine lv_goto (tgt := 176) hx hb dX6_takeToken_112 (by decide) ?_
            refine W.widen (k := 0) (n := 0) (Nat.le_of_ble_eq_true rfl) (Nat.le_of_ble_eq_true rfl) ?_
            exact W.vret hx hb hr (fun t ht9 hW => ⟨⟨(I_52, J45, E45, B45), rfl, ⟨hI, hE, hC_0, (show (I_52 this 4).toInt ≠ 16 ∨ 0 ≤ (I_52 this 6).toInt from by rw [(show I_52 this 4 = r_u_49 from e_51), (show I_52 this 6 = (I1 this 6) from ((f_50 this 6 (by rw [hthis.2]; decide)).trans ((xu_45I this 6 (by rw [hthis.2]; decide)).trans (f_6 this 6 (by rw [hthis.2]; decide)))))]; try omega)⟩, ⟨by rw [ht9]; exact hP, hD⟩⟩, hS.F ht9⟩) hS.2.2 dX6_takeToken_176
        · have q_53 : (I this 1).toInt ≤ (I1 this 3).toInt := by have := (not_congr (ow_lt _ _)).mp c_9; omega
          refine lv_aload_n hx hb dX6_takeToken_71 rfl (lv_at hl 0 rfl) ?_
          refine lv_bipush (v := 17) hx hb dX6_takeToken_72 (by decide) ?_
          refine cp_12_4_6 hx hb ht hown hK hN hP hD hS hthis.1 hthis.2 dX6_takeToken_74 (fun H locs hP hD hS => ?_)
          replace hI := IV.up hI hthis.2 4 (ow_any (17 : Int32))
          have f_54 : FI [(12, 4)] K I_8 (va_up I_8 this (va_up (I_8 this) 4 17)) := FI.up hthis.2 4 (17 : Int32)
          have e_55 : (va_up I_8 this (va_up (I_8 this) 4 17)) this 4 = 17 := FI.at I_8 this 4 (17 : Int32)
          replace hC_0 := FI.tr hC_0 f_54 (by decide)
          replace hX_1 := FI.tr hX_1 f_54 (by decide)
          generalize (va_up I_8 this (va_up (I_8 this) 4 17)) = I_56 at hP hD hI f_54 e_55 hC_0 hX_1
          refine lv_goto (tgt := 176) hx hb dX6_takeToken_77 (by decide) ?_
          refine W.widen (k := 0) (n := 0) (Nat.le_of_ble_eq_true rfl) (Nat.le_of_ble_eq_true rfl) ?_
          exact W.vret hx hb hr (fun t ht9 hW => ⟨⟨(I_56, J1, E1, B1), rfl, ⟨hI, hE, hC_0, (show (I_56 this 4).toInt ≠ 16 ∨ 0 ≤ (I_56 this 6).toInt from by rw [(show I_56 this 4 = (17 : Int32) from e_55), (show I_56 this 6 = (I1 this 6) from ((f_54 this 6 (by rw [hthis.2]; decide)).trans (f_6 this 6 (by rw [hthis.2]; decide))))]; try omega)⟩, ⟨by rw [ht9]; exact hP, hD⟩⟩, hS.F ht9⟩) hS.2.2 dX6_takeToken_176
      · have q_57 : (I1 this 3).toInt < (I this 1).toInt := by have := (not_congr (ow_le _ _)).mp c_4; omega
        refine lv_aload_n hx hb dX6_takeToken_11 rfl (lv_at hl 0 rfl) ?_
        refine cg_12_0_6 hx hb ht hown hK hN hP hthis.1 hthis.2 dX6_takeToken_12 ?_
        have hm_58 : (R this 0) ∈ L ∧ K (R this 0) = 20 := RT.o hRT hthis.1 hthis.2 0 (by decide)
        refine lv_aload_n hx hb dX6_takeToken_15 rfl (lv_at hl 0 rfl) ?_
        refine cg_12_3_6 hx hb ht hown hK hN hP hthis.1 hthis.2 dX6_takeToken_16 ?_
        have q_59 : vp_in (I1 this 3) 1700 := vp_in_iff.mpr ⟨by omega, by omega⟩
        refine cl_20 hx hb hK hP hm_58.1 hm_58.2 q_59 dX6_takeToken_19 ?_
        refine lv_topi (fun v_60 ev_60 => ?_)
        have q_61 : v_60.toInt = (E1 (R this 0) (Int32.toNatClampNeg (I1 this 3))).toInt := congrArg Int32.toInt ev_60
        refine lv_bipush (v := 32) hx hb dX6_takeToken_20 (by decide) ?_
        refine lv_icmp_eq (tgt := 39) hx hb dX6_takeToken_22 (by decide) (fun c_62 => ?_) (fun c_62 => ?_)
        · have q_63 : v_60.toInt = (32 : Int32).toInt := (ow_eq _ _).mp c_62
          refine lv_aload_n hx hb dX6_takeToken_39 rfl (lv_at hl 0 rfl) ?_
          refine lv_dup hx hb dX6_takeToken_40 rfl ?_
          refine cg_12_3_6 hx hb ht hown hK hN hP hthis.1 hthis.2 dX6_takeToken_41 ?_
          refine lv_iconst (v := 1) hx hb dX6_takeToken_44 (by decide) ?_
          refine lv_iadd hx hb dX6_takeToken_45 ?_
          refine lv_topi (fun v_64 ev_64 => ?_)
          have q_65 : v_64.toInt = (I1 this 3).toInt + (1 : Int32).toInt := ow_add ev_64 (by omega) (by omega)
          refine cp_12_3_6 hx hb ht hown hK hN hP hD hS hthis.1 hthis.2 dX6_takeToken_46 (fun H locs hP hD hS => ?_)
          replace hI := IV.up hI hthis.2 3 (show 0 ≤ v_64.toInt ∧ v_64.toInt ≤ 1700 from by omega)
          have f_66 : FI [(12, 3)] K I1 (va_up I1 this (va_up (I1 this) 3 v_64)) := FI.up hthis.2 3 v_64
          have e_67 : (va_up I1 this (va_up (I1 this) 3 v_64)) this 3 = v_64 := FI.at I1 this 3 v_64
          replace hC_0 := FI.tr hC_0 f_66 (by decide)
          replace hX_1 := FI.tr hX_1 f_66 (by decide)
          generalize (va_up I1 this (va_up (I1 this) 3 v_64)) = I_68 at hP hD hI f_66 e_67 hC_0 hX_1
          refine lv_goto (tgt := 0) hx hb dX6_takeToken_49 (by decide) ?_
          refine W.widen (k := 0) (n := 0) (Nat.le_of_ble_eq_true rfl) (Nat.le_of_ble_eq_true rfl) ?_
          exact ih_1 I_68 J1 E1 B1 _ _ _ hI hE hX_1 (show (1700 - (I_68 this 3).toInt).toNat < N_1 from by rw [(show I_68 this 3 = v_64 from e_67)]; try omega) hP hD hS (lv_sub hl [0] rfl)
        · have q_69 : ¬ v_60.toInt = (32 : Int32).toInt := by have := (not_congr (ow_eq _ _)).mp c_62; omega
          refine lv_aload_n hx hb dX6_takeToken_25 rfl (lv_at hl 0 rfl) ?_
          refine cg_12_0_6 hx hb ht hown hK hN hP hthis.1 hthis.2 dX6_takeToken_26 ?_
          refine lv_aload_n hx hb dX6_takeToken_29 rfl (lv_at hl 0 rfl) ?_
          refine cg_12_3_6 hx hb ht hown hK hN hP hthis.1 hthis.2 dX6_takeToken_30 ?_
          have q_70 : vp_in (I1 this 3) 1700 := vp_in_iff.mpr ⟨by omega, by omega⟩
          refine cl_20 hx hb hK hP hm_58.1 hm_58.2 q_70 dX6_takeToken_33 ?_
          refine ow_top v_60 ev_60.symm ?_
          refine lv_bipush (v := 10) hx hb dX6_takeToken_34 (by decide) ?_
          refine lv_icmp_ne (tgt := 52) hx hb dX6_takeToken_36 (by decide) (fun c_71 => ?_) (fun c_71 => ?_)
          · have q_72 : ¬ v_60.toInt = (10 : Int32).toInt := by have := (not_congr (ow_eq _ _)).mp c_71; omega
            refine lv_aload_n hx hb dX6_takeToken_52 rfl (lv_at hl 0 rfl) ?_
            refine lv_aload_n hx hb dX6_takeToken_53 rfl (lv_at hl 0 rfl) ?_
            refine cg_12_3_6 hx hb ht hown hK hN hP hthis.1 hthis.2 dX6_takeToken_54 ?_
            refine cp_12_5_6 hx hb ht hown hK hN hP hD hS hthis.1 hthis.2 dX6_takeToken_57 (fun H locs hP hD hS => ?_)
            replace hI := IV.up hI hthis.2 5 (show 0 ≤ (I1 this 3).toInt ∧ (I1 this 3).toInt ≤ 1700 from by omega)
            have f_73 : FI [(12, 5)] K I1 (va_up I1 this (va_up (I1 this) 5 (I1 this 3))) := FI.up hthis.2 5 (I1 this 3)
            have e_74 : (va_up I1 this (va_up (I1 this) 5 (I1 this 3))) this 5 = (I1 this 3) := FI.at I1 this 5 (I1 this 3)
            replace hC_0 := FI.tr hC_0 f_73 (by decide)
            replace hX_1 := FI.tr hX_1 f_73 (by decide)
            generalize (va_up I1 this (va_up (I1 this) 5 (I1 this 3))) = I_75 at hP hD hI f_73 e_74 hC_0 hX_1
            refine lv_aload_n hx hb dX6_takeToken_60 rfl (lv_at hl 0 rfl) ?_
            refine cg_12_3_6 hx hb ht hown hK hN hP hthis.1 hthis.2 dX6_takeToken_61 ?_
            refine ow_top (I1 this 3) (f_73 this 3 (by rw [hthis.2]; decide)) ?_
            refine lv_aload_n hx hb dX6_takeToken_64 rfl (lv_at hl 0 rfl) ?_
            refine cg_12_1_6 hx hb ht hown hK hN hP hthis.1 hthis.2 dX6_takeToken_65 ?_
            refine ow_top (I this 1) ((f_73 this 1 (by rw [hthis.2]; decide)).trans (hC_1 this 1 (by rw [hthis.2]; decide))) ?_
            refine lv_icmp_lt (tgt := 80) hx hb dX6_takeToken_68 (by decide) (fun c_76 => ?_) (fun c_76 => ?_)
            · have q_77 : (I1 this 3).toInt < (I this 1).toInt := (ow_lt _ _).mp c_76
              refine lv_aload_n hx hb dX6_takeToken_80 rfl (lv_at hl 0 rfl) ?_
              refine lv_aload_n hx hb dX6_takeToken_81 rfl (lv_at hl 0 rfl) ?_
              refine cg_12_3_6 hx hb ht hown hK hN hP hthis.1 hthis.2 dX6_takeToken_82 ?_
              refine ow_top (I1 this 3) (f_73 this 3 (by rw [hthis.2]; decide)) ?_
              have hFc := fr_new hS hA
              refine va_calli (va_runV (As := [.int (I1 this 3)]) (rest := []) ⟨hx, hb, hml, hown, ht⟩ (r_letterAt l G cy _ L K R T I_75 E1 J1 B1 this (I1 this 3) hRT hI hE hthis.1 hthis.2) (cwV 1 ht (gv k_630 k_631 k_632 k_633 k_629) rfl rfl rfl (by decide +kernel) ⟨Nat.le_of_ble_eq_true rfl, Nat.le_of_ble_eq_true rfl⟩) ⟨En.blind, cr_12 hK hP hthis.1 hthis.2, fun U hU hW => ⟨rfl, En.of hU hW hP hK hD hN⟩⟩ rfl rfl hl.1 rfl (lv_room (Nat.le_of_ble_eq_true rfl)) dX6_takeToken_85 ⟨Nat.le_of_ble_eq_true rfl, Nat.le_of_ble_eq_true rfl⟩) hS (fun q _ h => hFc q h) hFc (fun r_u_78 u_78 t9 H locs ht9 hvm hw hB hz1 hk1 hS => ?_)
              have hP := fr_keep hP hk1
              have wu_78 := hw
              clear hFc hk1 hz1 hB hw
              refine lv_if_eq (tgt := 115) hx hb dX6_takeToken_88 (by decide) (fun c_79 => ?_) (fun c_79 => ?_)
              · have q_80 : r_u_78.toInt = (0 : Int32).toInt := (ow_eq _ _).mp c_79
                refine lv_aload_n hx hb dX6_takeToken_115 rfl (lv_at hl 0 rfl) ?_
                refine lv_aload_n hx hb dX6_takeToken_116 rfl (lv_at hl 0 rfl) ?_
                refine cg_12_3_6 hx hb ht hown hK hN hP hthis.1 hthis.2 dX6_takeToken_117 ?_
                refine ow_top (I1 this 3) (f_73 this 3 (by rw [hthis.2]; decide)) ?_
                have hFc := fr_new hS hA
                refine va_calli (va_runV (As := [.int (I1 this 3)]) (rest := []) ⟨hx, hb, hml, hown, ht⟩ (r_digitAt l G cy _ L K R T I_75 E1 J1 B1 this (I1 this 3) hRT hI hE hthis.1 hthis.2) (cwV 1 ht (gv k_636 k_637 k_638 k_633 k_635) rfl rfl rfl (by decide +kernel) ⟨Nat.le_of_ble_eq_true rfl, Nat.le_of_ble_eq_true rfl⟩) ⟨En.blind, cr_12 hK hP hthis.1 hthis.2, fun U hU hW => ⟨rfl, En.of hU hW hP hK hD hN⟩⟩ rfl rfl hl.1 rfl (lv_room (Nat.le_of_ble_eq_true rfl)) dX6_takeToken_120 ⟨Nat.le_of_ble_eq_true rfl, Nat.le_of_ble_eq_true rfl⟩) hS (fun q _ h => hFc q h) hFc (fun r_u_81 u_81 t9 H locs ht9 hvm hw hB hz1 hk1 hS => ?_)
                have hP := fr_keep hP hk1
                have wu_81 := hw
                clear hFc hk1 hz1 hB hw
                refine lv_if_eq (tgt := 133) hx hb dX6_takeToken_123 (by decide) (fun c_82 => ?_) (fun c_82 => ?_)
                · have q_83 : r_u_81.toInt = (0 : Int32).toInt := (ow_eq _ _).mp c_82
                  refine lv_aload_n hx hb dX6_takeToken_133 rfl (lv_at hl 0 rfl) ?_
                  refine lv_aload_n hx hb dX6_takeToken_134 rfl (lv_at hl 0 rfl) ?_
                  refine cg_12_0_6 hx hb ht hown hK hN hP hthis.1 hthis.2 dX6_takeToken_135 ?_
                  refine lv_aload_n hx hb dX6_takeToken_138 rfl (lv_at hl 0 rfl) ?_
                  refine cg_12_3_6 hx hb ht hown hK hN hP hthis.1 hthis.2 dX6_takeToken_139 ?_
                  refine ow_top (I1 this 3) (f_73 this 3 (by rw [hthis.2]; decide)) ?_
                  have q_84 : vp_in (I1 this 3) 1700 := vp_in_iff.mpr ⟨by omega, by omega⟩
                  refine cl_20 hx hb hK hP hm_58.1 hm_58.2 q_84 dX6_takeToken_142 ?_
                  refine ow_top v_60 ev_60.symm ?_
                  have hFc := fr_new hS hA
                  refine va_calli (va_runS (As := [.int v_60]) (rest := [.ref this]) ⟨hx, hb, hml, hown, ht⟩ (r_isSign l G cy _  v_60  ) (va_cwS 1 ht (gs k_640 k_641 k_633 k_639) rfl rfl rfl (by decide +kernel) ⟨Nat.le_of_ble_eq_true rfl, Nat.le_of_ble_eq_true rfl⟩) ⟨En.blind, fun U hU hW => ⟨rfl, En.of hU hW (va_P0 (H := _)) hK va_D0 hN⟩⟩ rfl rfl hl.1 rfl (lv_room (Nat.le_of_ble_eq_true rfl)) dX6_takeToken_143 ⟨Nat.le_of_ble_eq_true rfl, Nat.le_of_ble_eq_true rfl⟩) hS (fun q _ h => hFc q h) hFc (fun r_u_85 u_85 t9 H locs ht9 hvm hw hB hz1 hk1 hS => ?_)
                  have hP := fr_keep hP hk1
                  have wu_85 := hw
                  clear hFc hk1 hz1 hB hw
                  refine lv_if_eq (tgt := 161) hx hb dX6_takeToken_146 (by decide) (fun c_86 => ?_) (fun c_86 => ?_)
                  · have q_87 : r_u_85.toInt = (0 : Int32).toInt := (ow_eq _ _).mp c_86
                    refine lv_bipush (v := 18) hx hb dX6_takeToken_161 (by decide) ?_
                    refine cp_12_4_6 hx hb ht hown hK hN hP hD hS hthis.1 hthis.2 dX6_takeToken_163 (fun H locs hP hD hS => ?_)
                    replace hI := IV.up hI hthis.2 4 (ow_any (18 : Int32))
                    have f_88 : FI [(12, 4)] K I_75 (va_up I_75 this (va_up (I_75 this) 4 18)) := FI.up hthis.2 4 (18 : Int32)
                    have e_89 : (va_up I_75 this (va_up (I_75 this) 4 18)) this 4 = 18 := FI.at I_75 this 4 (18 : Int32)
                    replace hC_0 := FI.tr hC_0 f_88 (by decide)
                    replace hX_1 := FI.tr hX_1 f_88 (by decide)
                    generalize (va_up I_75 this (va_up (I_75 this) 4 18)) = I_90 at hP hD hI f_88 e_89 hC_0 hX_1
                    refine lv_aload_n hx hb dX6_takeToken_166 rfl (lv_at hl 0 rfl) ?_
                    refine lv_dup hx hb dX6_takeToken_167 rfl ?_
                    refine cg_12_3_6 hx hb ht hown hK hN hP hthis.1 hthis.2 dX6_takeToken_168 ?_
                    refine ow_top (I1 this 3) ((f_88 this 3 (by rw [hthis.2]; decide)).trans (f_73 this 3 (by rw [hthis.2]; decide))) ?_
                    refine lv_iconst (v := 1) hx hb dX6_takeToken_171 (by decide) ?_
                    refine lv_iadd hx hb dX6_takeToken_172 ?_
                    refine lv_topi (fun v_91 ev_91 => ?_)
                    have q_92 : v_91.toInt = (I1 this 3).toInt + (1 : Int32).toInt := ow_add ev_91 (by omega) (by omega)
                    refine cp_12_3_6 hx hb ht hown hK hN hP hD hS hthis.1 hthis.2 dX6_takeToken_173 (fun H locs hP hD hS => ?_)
                    replace hI := IV.up hI hthis.2 3 (show 0 ≤ v_91.toInt ∧ v_91.toInt ≤ 1700 from by omega)
                    have f_93 : FI [(12, 3)] K I_90 (va_up I_90 this (va_up (I_90 this) 3 v_91)) := FI.up hthis.2 3 v_91
                    have e_94 : (va_up I_90 this (va_up (I_90 this) 3 v_91)) this 3 = v_91 := FI.at I_90 this 3 v_91
                    replace hC_0 := FI.tr hC_0 f_93 (by decide)
                    replace hX_1 := FI.tr hX_1 f_93 (by decide)
                    generalize (va_up I_90 this (va_up (I_90 this) 3 v_91)) = I_95 at hP hD hI f_93 e_94 hC_0 hX_1
                    refine W.widen (k := 0) (n := 0) (Nat.le_of_ble_eq_true rfl) (Nat.le_of_ble_eq_true rfl) ?_
                    exact W.vret hx hb hr (fun t ht9 hW => ⟨⟨(I_95, J1, E1, B1), rfl, ⟨hI, hE, hC_0, (show (I_95 this 4).toInt ≠ 16 ∨ 0 ≤ (I_95 this 6).toInt from by rw [(show I_95 this 4 = (18 : Int32) from ((f_93 this 4 (by rw [hthis.2]; decide)).trans e_89)), (show I_95 this 6 = (I1 this 6) from ((f_93 this 6 (by rw [hthis.2]; decide)).trans ((f_88 this 6 (by rw [hthis.2]; decide)).trans (f_73 this 6 (by rw [hthis.2]; decide)))))]; try omega)⟩, ⟨by rw [ht9]; exact hP, hD⟩⟩, hS.F ht9⟩) hS.2.2 dX6_takeToken_176
                  · have q_96 : ¬ r_u_85.toInt = (0 : Int32).toInt := by have := (not_congr (ow_eq _ _)).mp c_86; omega
                    refine lv_aload_n hx hb dX6_takeToken_149 rfl (lv_at hl 0 rfl) ?_
                    refine cg_12_0_6 hx hb ht hown hK hN hP hthis.1 hthis.2 dX6_takeToken_150 ?_
                    refine lv_aload_n hx hb dX6_takeToken_153 rfl (lv_at hl 0 rfl) ?_
                    refine cg_12_3_6 hx hb ht hown hK hN hP hthis.1 hthis.2 dX6_takeToken_154 ?_
                    refine ow_top (I1 this 3) (f_73 this 3 (by rw [hthis.2]; decide)) ?_
                    have q_97 : vp_in (I1 this 3) 1700 := vp_in_iff.mpr ⟨by omega, by omega⟩
                    refine cl_20 hx hb hK hP hm_58.1 hm_58.2 q_97 dX6_takeToken_157 ?_
                    refine ow_top v_60 ev_60.symm ?_
                    refine lv_goto (tgt := 163) hx hb dX6_takeToken_158 (by decide) ?_
                    refine cp_12_4_6 hx hb ht hown hK hN hP hD hS hthis.1 hthis.2 dX6_takeToken_163 (fun H locs hP hD hS => ?_)
                    replace hI := IV.up hI hthis.2 4 (ow_any v_60)
                    have f_98 : FI [(12, 4)] K I_75 (va_up I_75 this (va_up (I_75 this) 4 v_60)) := FI.up hthis.2 4 v_60
                    have e_99 : (va_up I_75 this (va_up (I_75 this) 4 v_60)) this 4 = v_60 := FI.at I_75 this 4 v_60
                    replace hC_0 := FI.tr hC_0 f_98 (by decide)
                    replace hX_1 := FI.tr hX_1 f_98 (by decide)
                    generalize (va_up I_75 this (va_up (I_75 this) 4 v_60)) = I_100 at hP hD hI f_98 e_99 hC_0 hX_1
                    refine lv_aload_n hx hb dX6_takeToken_166 rfl (lv_at hl 0 rfl) ?_
                    refine lv_dup hx hb dX6_takeToken_167 rfl ?_
                    refine cg_12_3_6 hx hb ht hown hK hN hP hthis.1 hthis.2 dX6_takeToken_168 ?_
                    refine ow_top (I1 this 3) ((f_98 this 3 (by rw [hthis.2]; decide)).trans (f_73 this 3 (by rw [hthis.2]; decide))) ?_
                    refine lv_iconst (v := 1) hx hb dX6_takeToken_171 (by decide) ?_
                    refine lv_iadd hx hb dX6_takeToken_172 ?_
                    refine lv_topi (fun v_101 ev_101 => ?_)
                    have q_102 : v_101.toInt = (I1 this 3).toInt + (1 : Int32).toInt := ow_add ev_101 (by omega) (by omega)
                    refine cp_12_3_6 hx hb ht hown hK hN hP hD hS hthis.1 hthis.2 dX6_takeToken_173 (fun H locs hP hD hS => ?_)
                    replace hI := IV.up hI hthis.2 3 (show 0 ≤ v_101.toInt ∧ v_101.toInt ≤ 1700 from by omega)
                    have f_103 : FI [(12, 3)] K I_100 (va_up I_100 this (va_up (I_100 this) 3 v_101)) := FI.up hthis.2 3 v_101
                    have e_104 : (va_up I_100 this (va_up (I_100 this) 3 v_101)) this 3 = v_101 := FI.at I_100 this 3 v_101
                    replace hC_0 := FI.tr hC_0 f_103 (by decide)
                    replace hX_1 := FI.tr hX_1 f_103 (by decide)
                    generalize (va_up I_100 this (va_up (I_100 this) 3 v_101)) = I_105 at hP hD hI f_103 e_104 hC_0 hX_1
                    refine W.widen (k := 0) (n := 0) (Nat.le_of_ble_eq_true rfl) (Nat.le_of_ble_eq_true rfl) ?_
                    exact W.vret hx hb hr (fun t ht9 hW => ⟨⟨(I_105, J1, E1, B1), rfl, ⟨hI, hE, hC_0, (show (I_105 this 4).toInt ≠ 16 ∨ 0 ≤ (I_105 this 6).toInt from by rw [(show I_105 this 4 = v_60 from ((f_103 this 4 (by rw [hthis.2]; decide)).trans e_99)), (show I_105 this 6 = (I1 this 6) from ((f_103 this 6 (by rw [hthis.2]; decide)).trans ((f_98 this 6 (by rw [hthis.2]; decide)).trans (f_73 this 6 (by rw [hthis.2]; decide)))))]; try omega)⟩, ⟨by rw [ht9]; exact hP, hD⟩⟩, hS.F ht9⟩) hS.2.2 dX6_takeToken_176
                · have q_106 : ¬ r_u_81.toInt = (0 : Int32).toInt := by have := (not_congr (ow_eq _ _)).mp c_82; omega
                  refine lv_aload_n hx hb dX6_takeToken_126 rfl (lv_at hl 0 rfl) ?_
                  have hFc := fr_free hD hS hA
                  refine va_callv (va_runV (As := []) (rest := []) ⟨hx, hb, hml, hown, ht⟩ (r_takeDigits l G cy _ L K R T I_75 E1 J1 B1 this hRT hI hE hthis.1 hthis.2 (show (I_75 this 5).toInt = (I_75 this 3).toInt from by rw [(show I_75 this 5 = (I1 this 3) from e_74), (show I_75 this 3 = (I1 this 3) from (f_73 this 3 (by rw [hthis.2]; decide)))]; try omega)) (cwV 0 ht (gv k_643 k_644 k_645 k_633 k_642) rfl rfl rfl (by decide +kernel) ⟨Nat.le_of_ble_eq_true rfl, Nat.le_of_ble_eq_true rfl⟩) ⟨En.blind, cr_12 hK hP hthis.1 hthis.2, fun U hU hW => ⟨rfl, En.of hU hW hP hK hD hN⟩⟩ rfl rfl hl.1 rfl (lv_room (Nat.le_of_ble_eq_true rfl)) dX6_takeToken_127 ⟨Nat.le_of_ble_eq_true rfl, Nat.le_of_ble_eq_true rfl⟩) hS (fun q _ h => hFc q h) hFc (fun u_107 t9 H locs ht9 hvm hw hB hz1 hk1 hS => ?_)
                  obtain ⟨I107, J107, E107, B107⟩ := u_107
                  obtain ⟨hP1, hD1⟩ := hB
                  rw [ht9] at hP1
                  clear hI hE
                  obtain ⟨hI, hE, xu_107I, wu_107⟩ := hw
                  dsimp only at hI hE xu_107I wu_107
                  have hP : va_P G vwCl (WC cy L K R I107 J107 E107 B107) H := hP1
                  have hD : va_D A (WC cy L K R I107 J107 E107 B107) := hD1.weaken (fun _ _ _ h => hFc _ h)
                  clear hFc hk1 hz1 hP1 hD1
                  replace hC_0 := FI.tr hC_0 xu_107I (by decide)
                  replace hX_1 := FI.tr hX_1 xu_107I (by decide)
                  replace wu_107 : ((I107 this 4).toInt ≠ 16 ∨ 0 ≤ (I107 this 6).toInt) := by
                    have h9 : ((I107 this 4).toInt ≠ 16 ∨ 0 ≤ (I107 this 6).toInt) := wu_107
                    exact h9
                  refine lv_goto (tgt := 176) hx hb dX6_takeToken_130 (by decide) ?_
                  refine W.widen (k := 0) (n := 0) (Nat.le_of_ble_eq_true rfl) (Nat.le_of_ble_eq_true rfl) ?_
                  exact W.vret hx hb hr (fun t ht9 hW => ⟨⟨(I107, J107, E107, B107), rfl, ⟨hI, hE, hC_0, (show (I107 this 4).toInt ≠ 16 ∨ 0 ≤ (I107 this 6).toInt from by omega)⟩, ⟨by rw [ht9]; exact hP, hD⟩⟩, hS.F ht9⟩) hS.2.2 dX6_takeToken_176
              · have q_108 : ¬ r_u_78.toInt = (0 : Int32).toInt := by have := (not_congr (ow_eq _ _)).mp c_79; omega
                refine lv_aload_n hx hb dX6_takeToken_91 rfl (lv_at hl 0 rfl) ?_
                have hFc := fr_free hD hS hA
                refine va_callv (va_runV (As := []) (rest := []) ⟨hx, hb, hml, hown, ht⟩ (r_takeLetters l G cy _ L K R T I_75 E1 J1 B1 this hRT hI hE hthis.1 hthis.2) (cwV 0 ht (gv k_647 k_648 k_649 k_633 k_646) rfl rfl rfl (by decide +kernel) ⟨Nat.le_of_ble_eq_true rfl, Nat.le_of_ble_eq_true rfl⟩) ⟨En.blind, cr_12 hK hP hthis.1 hthis.2, fun U hU hW => ⟨rfl, En.of hU hW hP hK hD hN⟩⟩ rfl rfl hl.1 rfl (lv_room (Nat.le_of_ble_eq_true rfl)) dX6_takeToken_92 ⟨Nat.le_of_ble_eq_true rfl, Nat.le_of_ble_eq_true rfl⟩) hS (fun q _ h => hFc q h) hFc (fun u_109 t9 H locs ht9 hvm hw hB hz1 hk1 hS => ?_)
                obtain ⟨I109, J109, E109, B109⟩ := u_109
                obtain ⟨hP1, hD1⟩ := hB
                rw [ht9] at hP1
                clear hI hE
                obtain ⟨hI, hE, xu_109I, wu_109⟩ := hw
                dsimp only at hI hE xu_109I wu_109
                have hP : va_P G vwCl (WC cy L K R I109 J109 E109 B109) H := hP1
                have hD : va_D A (WC cy L K R I109 J109 E109 B109) := hD1.weaken (fun _ _ _ h => hFc _ h)
                clear hFc hk1 hz1 hP1 hD1
                replace hC_0 := FI.tr hC_0 xu_109I (by decide)
                replace hX_1 := FI.tr hX_1 xu_109I (by decide)
                refine lv_aload_n hx hb dX6_takeToken_95 rfl (lv_at hl 0 rfl) ?_
                refine lv_aload_n hx hb dX6_takeToken_96 rfl (lv_at hl 0 rfl) ?_
                refine lv_aload_n hx hb dX6_takeToken_97 rfl (lv_at hl 0 rfl) ?_
                refine cg_12_3_6 hx hb ht hown hK hN hP hthis.1 hthis.2 dX6_takeToken_98 ?_
                have q_110 : 0 ≤ (I109 this 3).toInt ∧ (I109 this 3).toInt ≤ 1700 := IV.rd hI hthis.1 hthis.2 3
                refine lv_aload_n hx hb dX6_takeToken_101 rfl (lv_at hl 0 rfl) ?_
                refine cg_12_5_6 hx hb ht hown hK hN hP hthis.1 hthis.2 dX6_takeToken_102 ?_
                refine ow_top (I1 this 3) ((xu_109I this 5 (by rw [hthis.2]; decide)).trans e_74) ?_
                refine lv_isub hx hb dX6_takeToken_105 ?_
                refine lv_topi (fun v_111 ev_111 => ?_)
                have q_112 : v_111.toInt = (I109 this 3).toInt - (I1 this 3).toInt := ow_sub ev_111 (by omega) (by omega)
                have hFc := fr_new hS hA
                refine va_calli (va_runV (As := [.int v_111]) (rest := [.ref this]) ⟨hx, hb, hml, hown, ht⟩ (r_sortOfWord l G cy _ tq qq wq fo L K R T I109 E109 J109 B109 this v_111 hRT hI hE hthis.1 hthis.2 (show v_111.toInt + (I109 this 5).toInt ≤ 1700 from by rw [(show I109 this 5 = (I1 this 3) from ((xu_109I this 5 (by rw [hthis.2]; decide)).trans e_74))]; try omega)) (cwV 1 ht (gv k_651 k_652 k_653 k_633 k_650) rfl rfl rfl (by decide +kernel) ⟨Nat.le_of_ble_eq_true rfl, Nat.le_of_ble_eq_true rfl⟩) ⟨EnX.blind, cr_12 hK hP hthis.1 hthis.2, fun U hU hW => ⟨rfl, En.of hU hW hP hK hD hN, XK.of hX hS hFc hU hW⟩⟩ rfl rfl hl.1 rfl (lv_room (Nat.le_of_ble_eq_true rfl)) dX6_takeToken_106 ⟨Nat.le_of_ble_eq_true rfl, Nat.le_of_ble_eq_true rfl⟩) hS (fun q _ h => hFc q h) hFc (fun r_u_113 u_113 t9 H locs ht9 hvm hw hB hz1 hk1 hS => ?_)
                have hP := fr_keep hP hk1
                have wu_113 := hw
                clear hFc hk1 hz1 hB hw
                refine cp_12_4_6 hx hb ht hown hK hN hP hD hS hthis.1 hthis.2 dX6_takeToken_109 (fun H locs hP hD hS => ?_)
                replace hI := IV.up hI hthis.2 4 (ow_any r_u_113)
                have f_114 : FI [(12, 4)] K I109 (va_up I109 this (va_up (I109 this) 4 r_u_113)) := FI.up hthis.2 4 r_u_113
                have e_115 : (va_up I109 this (va_up (I109 this) 4 r_u_113)) this 4 = r_u_113 := FI.at I109 this 4 r_u_113
                replace hC_0 := FI.tr hC_0 f_114 (by decide)
                replace hX_1 := FI.tr hX_1 f_114 (by decide)
                generalize (va_up I109 this (va_up (I109 this) 4 r_u_113)) = I_116 at hP hD hI f_114 e_115 hC_0 hX_1
                refine lv_goto (tgt := 176) hx hb dX6_takeToken_112 (by decide) ?_
                refine W.widen (k := 0) (n := 0) (Nat.le_of_ble_eq_true rfl) (Nat.le_of_ble_eq_true rfl) ?_
                exact W.vret hx hb hr (fun t ht9 hW => ⟨⟨(I_116, J109, E109, B109), rfl, ⟨hI, hE, hC_0, (show (I_116 this 4).toInt ≠ 16 ∨ 0 ≤ (I_116 this 6).toInt from by rw [(show I_116 this 4 = r_u_113 from e_115), (show I_116 this 6 = (I1 this 6) from ((f_114 this 6 (by rw [hthis.2]; decide)).trans ((xu_109I this 6 (by rw [hthis.2]; decide)).trans (f_73 this 6 (by rw [hthis.2]; decide)))))]; try omega)⟩, ⟨by rw [ht9]; exact hP, hD⟩⟩, hS.F ht9⟩) hS.2.2 dX6_takeToken_176
            · have q_117 : (I this 1).toInt ≤ (I1 this 3).toInt := by have := (not_congr (ow_lt _ _)).mp c_76; omega
              refine lv_aload_n hx hb dX6_takeToken_71 rfl (lv_at hl 0 rfl) ?_
              refine lv_bipush (v := 17) hx hb dX6_takeToken_72 (by decide) ?_
              refine cp_12_4_6 hx hb ht hown hK hN hP hD hS hthis.1 hthis.2 dX6_takeToken_74 (fun H locs hP hD hS => ?_)
              replace hI := IV.up hI hthis.2 4 (ow_any (17 : Int32))
              have f_118 : FI [(12, 4)] K I_75 (va_up I_75 this (va_up (I_75 this) 4 17)) := FI.up hthis.2 4 (17 : Int32)
              have e_119 : (va_up I_75 this (va_up (I_75 this) 4 17)) this 4 = 17 := FI.at I_75 this 4 (17 : Int32)
              replace hC_0 := FI.tr hC_0 f_118 (by decide)
              replace hX_1 := FI.tr hX_1 f_118 (by decide)
              generalize (va_up I_75 this (va_up (I_75 this) 4 17)) = I_120 at hP hD hI f_118 e_119 hC_0 hX_1
              refine lv_goto (tgt := 176) hx hb dX6_takeToken_77 (by decide) ?_
              refine W.widen (k := 0) (n := 0) (Nat.le_of_ble_eq_true rfl) (Nat.le_of_ble_eq_true rfl) ?_
              exact W.vret hx hb hr (fun t ht9 hW => ⟨⟨(I_120, J1, E1, B1), rfl, ⟨hI, hE, hC_0, (show (I_120 this 4).toInt ≠ 16 ∨ 0 ≤ (I_120 this 6).toInt from by rw [(show I_120 this 4 = (17 : Int32) from e_119), (show I_120 this 6 = (I1 this 6) from ((f_118 this 6 (by rw [hthis.2]; decide)).trans (f_73 this 6 (by rw [hthis.2]; decide))))]; try omega)⟩, ⟨by rw [ht9]; exact hP, hD⟩⟩, hS.F ht9⟩) hS.2.2 dX6_takeToken_176
          · have q_121 : v_60.toInt = (10 : Int32).toInt := (ow_eq _ _).mp c_71
            refine lv_aload_n hx hb dX6_takeToken_39 rfl (lv_at hl 0 rfl) ?_
            refine lv_dup hx hb dX6_takeToken_40 rfl ?_
            refine cg_12_3_6 hx hb ht hown hK hN hP hthis.1 hthis.2 dX6_takeToken_41 ?_
            refine lv_iconst (v := 1) hx hb dX6_takeToken_44 (by decide) ?_
            refine lv_iadd hx hb dX6_takeToken_45 ?_
            refine lv_topi (fun v_122 ev_122 => ?_)
            have q_123 : v_122.toInt = (I1 this 3).toInt + (1 : Int32).toInt := ow_add ev_122 (by omega) (by omega)
            refine cp_12_3_6 hx hb ht hown hK hN hP hD hS hthis.1 hthis.2 dX6_takeToken_46 (fun H locs hP hD hS => ?_)
            replace hI := IV.up hI hthis.2 3 (show 0 ≤ v_122.toInt ∧ v_122.toInt ≤ 1700 from by omega)
            have f_124 : FI [(12, 3)] K I1 (va_up I1 this (va_up (I1 this) 3 v_122)) := FI.up hthis.2 3 v_122
            have e_125 : (va_up I1 this (va_up (I1 this) 3 v_122)) this 3 = v_122 := FI.at I1 this 3 v_122
            replace hC_0 := FI.tr hC_0 f_124 (by decide)
            replace hX_1 := FI.tr hX_1 f_124 (by decide)
            generalize (va_up I1 this (va_up (I1 this) 3 v_122)) = I_126 at hP hD hI f_124 e_125 hC_0 hX_1
            refine lv_goto (tgt := 0) hx hb dX6_takeToken_49 (by decide) ?_
            refine W.widen (k := 0) (n := 0) (Nat.le_of_ble_eq_true rfl) (Nat.le_of_ble_eq_true rfl) ?_
            exact ih_1 I_126 J1 E1 B1 _ _ _ hI hE hX_1 (show (1700 - (I_126 this 3).toInt).toNat < N_1 from by rw [(show I_126 this 3 = v_122 from e_125)]; try omega) hP hD hS (lv_sub hl [0] rfl)
  exact lp_1 _ I J E B _ _ _ hI hE FI.rf (Nat.lt_succ_self _) hP hD hS (lv_sub hl [0] rfl)
