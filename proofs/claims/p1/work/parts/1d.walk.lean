theorem k_179 : (Cond.code yX11_putNumber cX11_putNumber 3 none) ∈ TBg := tb_mem 457 (by decide +kernel) (by decide +kernel)
theorem k_180 : (Cond.methodLink RX11 76 yX11_putNumber) ∈ TBg := tb_mem 454 (by decide +kernel) (by decide +kernel)
theorem k_181 : (Cond.instanceMethod yX11_putNumber) ∈ TBg := tb_mem 456 (by decide +kernel) (by decide +kernel)
theorem k_182 : (Cond.selects RX11 yX11_putNumber yX11_putNumber) ∈ TBg := tb_mem 0 (by decide +kernel) (by decide +kernel)
theorem k_183 : (Cond.initialized RX11) ∈ TBg := tb_mem 84 (by decide +kernel) (by decide +kernel)
theorem k_184 : (Cond.fieldLink RX11 92 "TuneLocks" "latestFault" "I") ∈ TBg := tb_mem 411 (by decide +kernel) (by decide +kernel)
theorem k_185 : (Cond.code yX9_hasTune cX9_hasTune 2 (some .boolean)) ∈ TBg := tb_mem 767 (by decide +kernel) (by decide +kernel)
theorem k_186 : (Cond.methodLink RX11 116 yX9_hasTune) ∈ TBg := tb_mem 764 (by decide +kernel) (by decide +kernel)
theorem k_187 : (Cond.instanceMethod yX9_hasTune) ∈ TBg := tb_mem 765 (by decide +kernel) (by decide +kernel)
theorem k_188 : (Cond.selects RX9 yX9_hasTune yX9_hasTune) ∈ TBg := tb_mem 766 (by decide +kernel) (by decide +kernel)
theorem k_189 : (Cond.constant RX11 129 (-1000000)) ∈ TBg := tb_mem 772 (by decide +kernel) (by decide +kernel)
theorem k_190 : (Cond.code yX9_hasLock cX9_hasLock 2 (some .boolean)) ∈ TBg := tb_mem 803 (by decide +kernel) (by decide +kernel)
theorem k_191 : (Cond.methodLink RX11 163 yX9_hasLock) ∈ TBg := tb_mem 800 (by decide +kernel) (by decide +kernel)
theorem k_192 : (Cond.instanceMethod yX9_hasLock) ∈ TBg := tb_mem 801 (by decide +kernel) (by decide +kernel)
theorem k_193 : (Cond.selects RX9 yX9_hasLock yX9_hasLock) ∈ TBg := tb_mem 802 (by decide +kernel) (by decide +kernel)
theorem k_194 : (Cond.code yX1_choose cX1_choose 5 (some .int)) ∈ TBg := tb_mem 816 (by decide +kernel) (by decide +kernel)
theorem k_195 : (Cond.methodLink RX11 173 yX1_choose) ∈ TBg := tb_mem 813 (by decide +kernel) (by decide +kernel)
theorem k_196 : (Cond.instanceMethod yX1_choose) ∈ TBg := tb_mem 814 (by decide +kernel) (by decide +kernel)
theorem k_197 : (Cond.selects RX1 yX1_choose yX1_choose) ∈ TBg := tb_mem 815 (by decide +kernel) (by decide +kernel)
theorem k_198 : (Cond.code yJ6_bitCount_0f7a4 cJ6_bitCount_0f7a4 1 (some .int)) ∈ TBg := tb_mem 834 (by decide +kernel) (by decide +kernel)
theorem k_199 : (Cond.methodLink RX11 177 yJ6_bitCount_0f7a4) ∈ TBg := tb_mem 832 (by decide +kernel) (by decide +kernel)
theorem k_200 : (Cond.static yJ6_bitCount_0f7a4) ∈ TBg := tb_mem 833 (by decide +kernel) (by decide +kernel)
theorem k_201 : (Cond.initialized RJ6) ∈ TBg := tb_mem 103 (by decide +kernel) (by decide +kernel)
theorem k_202 : (Cond.code yX3_lay cX3_lay 5 none) ∈ TBg := tb_mem 841 (by decide +kernel) (by decide +kernel)
theorem k_203 : (Cond.methodLink RX11 182 yX3_lay) ∈ TBg := tb_mem 838 (by decide +kernel) (by decide +kernel)
theorem k_204 : (Cond.instanceMethod yX3_lay) ∈ TBg := tb_mem 839 (by decide +kernel) (by decide +kernel)
theorem k_205 : (Cond.selects RX3 yX3_lay yX3_lay) ∈ TBg := tb_mem 840 (by decide +kernel) (by decide +kernel)
theorem k_206 : (Cond.code yX3_laidAt cX3_laidAt 2 (some .int)) ∈ TBg := tb_mem 864 (by decide +kernel) (by decide +kernel)
theorem k_207 : (Cond.methodLink RX11 190 yX3_laidAt) ∈ TBg := tb_mem 861 (by decide +kernel) (by decide +kernel)
theorem k_208 : (Cond.instanceMethod yX3_laidAt) ∈ TBg := tb_mem 862 (by decide +kernel) (by decide +kernel)
theorem k_209 : (Cond.selects RX3 yX3_laidAt yX3_laidAt) ∈ TBg := tb_mem 863 (by decide +kernel) (by decide +kernel)
theorem k_210 : (Cond.code yX3_fewestNotes cX3_fewestNotes 1 (some .int)) ∈ TBg := tb_mem 860 (by decide +kernel) (by decide +kernel)
theorem k_211 : (Cond.methodLink RX11 186 yX3_fewestNotes) ∈ TBg := tb_mem 857 (by decide +kernel) (by decide +kernel)
theorem k_212 : (Cond.instanceMethod yX3_fewestNotes) ∈ TBg := tb_mem 858 (by decide +kernel) (by decide +kernel)
theorem k_213 : (Cond.selects RX3 yX3_fewestNotes yX3_fewestNotes) ∈ TBg := tb_mem 859 (by decide +kernel) (by decide +kernel)
theorem k_214 : (Cond.code yX8_add cX8_add 3 none) ∈ TBg := tb_mem 627 (by decide +kernel) (by decide +kernel)
theorem k_215 : (Cond.methodLink RX11 220 yX8_add) ∈ TBg := tb_mem 911 (by decide +kernel) (by decide +kernel)
theorem k_216 : (Cond.instanceMethod yX8_add) ∈ TBg := tb_mem 625 (by decide +kernel) (by decide +kernel)
theorem k_217 : (Cond.selects RX8 yX8_add yX8_add) ∈ TBg := tb_mem 626 (by decide +kernel) (by decide +kernel)
theorem k_218 : (Cond.code yX2_hearLast cX2_hearLast 5 none) ∈ TBg := tb_mem 915 (by decide +kernel) (by decide +kernel)
theorem k_219 : (Cond.methodLink RX11 224 yX2_hearLast) ∈ TBg := tb_mem 912 (by decide +kernel) (by decide +kernel)
theorem k_220 : (Cond.instanceMethod yX2_hearLast) ∈ TBg := tb_mem 913 (by decide +kernel) (by decide +kernel)
theorem k_221 : (Cond.selects RX2 yX2_hearLast yX2_hearLast) ∈ TBg := tb_mem 914 (by decide +kernel) (by decide +kernel)
theorem k_222 : (Cond.code yX11_canBeSung cX11_canBeSung 1 (some .boolean)) ∈ TBg := tb_mem 906 (by decide +kernel) (by decide +kernel)
theorem k_223 : (Cond.methodLink RX11 213 yX11_canBeSung) ∈ TBg := tb_mem 904 (by decide +kernel) (by decide +kernel)
theorem k_224 : (Cond.static yX11_canBeSung) ∈ TBg := tb_mem 905 (by decide +kernel) (by decide +kernel)
theorem k_225 : (Cond.code yX11_singNote cX11_singNote 6 (some .int)) ∈ TBg := tb_mem 910 (by decide +kernel) (by decide +kernel)
theorem k_226 : (Cond.methodLink RX11 216 yX11_singNote) ∈ TBg := tb_mem 907 (by decide +kernel) (by decide +kernel)
theorem k_227 : (Cond.instanceMethod yX11_singNote) ∈ TBg := tb_mem 909 (by decide +kernel) (by decide +kernel)
theorem k_228 : (Cond.selects RX11 yX11_singNote yX11_singNote) ∈ TBg := tb_mem 29 (by decide +kernel) (by decide +kernel)
theorem k_229 : (Cond.code yX2_hearAll cX2_hearAll 6 none) ∈ TBg := tb_mem 685 (by decide +kernel) (by decide +kernel)
theorem k_230 : (Cond.methodLink RX11 108 yX2_hearAll) ∈ TBg := tb_mem 751 (by decide +kernel) (by decide +kernel)
theorem k_231 : (Cond.instanceMethod yX2_hearAll) ∈ TBg := tb_mem 683 (by decide +kernel) (by decide +kernel)
theorem k_232 : (Cond.selects RX2 yX2_hearAll yX2_hearAll) ∈ TBg := tb_mem 684 (by decide +kernel) (by decide +kernel)
theorem k_233 : (Cond.fieldLink RX11 249 "TuneLocks" "time" "I") ∈ TBg := tb_mem 417 (by decide +kernel) (by decide +kernel)
theorem k_234 : (Cond.code yX10_takeBack cX10_takeBack 3 (some .boolean)) ∈ TBg := tb_mem 956 (by decide +kernel) (by decide +kernel)
theorem k_235 : (Cond.methodLink RX11 256 yX10_takeBack) ∈ TBg := tb_mem 953 (by decide +kernel) (by decide +kernel)
theorem k_236 : (Cond.instanceMethod yX10_takeBack) ∈ TBg := tb_mem 954 (by decide +kernel) (by decide +kernel)
theorem k_237 : (Cond.selects RX10 yX10_takeBack yX10_takeBack) ∈ TBg := tb_mem 955 (by decide +kernel) (by decide +kernel)
theorem k_238 : (Cond.constant RX11 260 (100000)) ∈ TBg := tb_mem 961 (by decide +kernel) (by decide +kernel)
theorem k_239 : (Cond.code yX10_leftAt cX10_leftAt 6 (some .int)) ∈ TBg := tb_mem 969 (by decide +kernel) (by decide +kernel)
theorem k_240 : (Cond.methodLink RX11 261 yX10_leftAt) ∈ TBg := tb_mem 966 (by decide +kernel) (by decide +kernel)
theorem k_241 : (Cond.instanceMethod yX10_leftAt) ∈ TBg := tb_mem 967 (by decide +kernel) (by decide +kernel)
theorem k_242 : (Cond.selects RX10 yX10_leftAt yX10_leftAt) ∈ TBg := tb_mem 968 (by decide +kernel) (by decide +kernel)
theorem k_243 : (Cond.code yX7_becomeLike cX7_becomeLike 2 none) ∈ TBg := tb_mem 992 (by decide +kernel) (by decide +kernel)
theorem k_244 : (Cond.methodLink RX11 274 yX7_becomeLike) ∈ TBg := tb_mem 989 (by decide +kernel) (by decide +kernel)
theorem k_245 : (Cond.instanceMethod yX7_becomeLike) ∈ TBg := tb_mem 990 (by decide +kernel) (by decide +kernel)
theorem k_246 : (Cond.selects RX7 yX7_becomeLike yX7_becomeLike) ∈ TBg := tb_mem 991 (by decide +kernel) (by decide +kernel)
theorem dX11_feed_0 : decode cX11_feed 0 = .ok (.aload_n 0, 1) := by decide +kernel
theorem dX11_feed_1 : decode cX11_feed 1 = .ok (.getfield 73, 3) := by decide +kernel
theorem dX11_feed_4 : decode cX11_feed 4 = .ok (.sipush 1680, 3) := by decide +kernel
theorem dX11_feed_7 : decode cX11_feed 7 = .ok (.if_icmp .le 5, 3) := by decide +kernel
theorem dX11_feed_12 : decode cX11_feed 12 = .ok (.aload_n 0, 1) := by decide +kernel
theorem dX11_feed_13 : decode cX11_feed 13 = .ok (.iload_n 1, 1) := by decide +kernel
theorem dX11_feed_14 : decode cX11_feed 14 = .ok (.invokevirtual 76, 3) := by decide +kernel
theorem dX11_feed_17 : decode cX11_feed 17 = .ok (.aload_n 0, 1) := by decide +kernel
theorem dX11_feed_18 : decode cX11_feed 18 = .ok (.iload_n 2, 1) := by decide +kernel
theorem dX11_feed_19 : decode cX11_feed 19 = .ok (.invokevirtual 76, 3) := by decide +kernel
theorem dX11_feed_22 : decode cX11_feed 22 = .ok (.aload_n 0, 1) := by decide +kernel
theorem dX11_feed_23 : decode cX11_feed 23 = .ok (.iload_n 3, 1) := by decide +kernel
theorem dX11_feed_24 : decode cX11_feed 24 = .ok (.invokevirtual 76, 3) := by decide +kernel
theorem dX11_feed_27 : decode cX11_feed 27 = .ok (.aload_n 0, 1) := by decide +kernel
theorem dX11_feed_28 : decode cX11_feed 28 = .ok (.iload 4, 2) := by decide +kernel
theorem dX11_feed_30 : decode cX11_feed 30 = .ok (.invokevirtual 76, 3) := by decide +kernel
theorem dX11_feed_33 : decode cX11_feed 33 = .ok (.aload_n 0, 1) := by decide +kernel
theorem dX11_feed_34 : decode cX11_feed 34 = .ok (.iload 5, 2) := by decide +kernel
theorem dX11_feed_36 : decode cX11_feed 36 = .ok (.invokevirtual 76, 3) := by decide +kernel
theorem dX11_feed_39 : decode cX11_feed 39 = .ok (.aload_n 0, 1) := by decide +kernel
theorem dX11_feed_40 : decode cX11_feed 40 = .ok (.getfield 73, 3) := by decide +kernel
theorem dX11_feed_43 : decode cX11_feed 43 = .ok (.ireturn, 1) := by decide +kernel
theorem dX11_end_0 : decode cX11_end 0 = .ok (.iload_n 1, 1) := by decide +kernel
theorem dX11_end_1 : decode cX11_end 1 = .ok (.ifCond .lt 11, 3) := by decide +kernel
theorem dX11_end_4 : decode cX11_end 4 = .ok (.iload_n 1, 1) := by decide +kernel
theorem dX11_end_5 : decode cX11_end 5 = .ok (.aload_n 0, 1) := by decide +kernel
theorem dX11_end_6 : decode cX11_end 6 = .ok (.getfield 73, 3) := by decide +kernel
theorem dX11_end_9 : decode cX11_end 9 = .ok (.if_icmp .le 5, 3) := by decide +kernel
theorem dX11_end_14 : decode cX11_end 14 = .ok (.aload_n 0, 1) := by decide +kernel
theorem dX11_end_15 : decode cX11_end 15 = .ok (.iload_n 1, 1) := by decide +kernel
theorem dX11_end_16 : decode cX11_end 16 = .ok (.putfield 73, 3) := by decide +kernel
theorem dX11_end_19 : decode cX11_end 19 = .ok (.iload_n 1, 1) := by decide +kernel
theorem dX11_end_20 : decode cX11_end 20 = .ok (.ireturn, 1) := by decide +kernel
theorem dX11_end_12 : decode cX11_end 12 = .ok (.iconst (-1), 1) := by decide +kernel
theorem dX11_end_13 : decode cX11_end 13 = .ok (.ireturn, 1) := by decide +kernel
theorem dX11_fault_0 : decode cX11_fault 0 = .ok (.iload_n 1, 1) := by decide +kernel
theorem dX11_fault_1 : decode cX11_fault 1 = .ok (.ifCond .ne 8, 3) := by decide +kernel
theorem dX11_fault_4 : decode cX11_fault 4 = .ok (.aload_n 0, 1) := by decide +kernel
theorem dX11_fault_5 : decode cX11_fault 5 = .ok (.getfield 92, 3) := by decide +kernel
theorem dX11_fault_8 : decode cX11_fault 8 = .ok (.ireturn, 1) := by decide +kernel
theorem dX11_fault_9 : decode cX11_fault 9 = .ok (.iload_n 1, 1) := by decide +kernel
theorem dX11_fault_10 : decode cX11_fault 10 = .ok (.iconst 1, 1) := by decide +kernel
theorem dX11_fault_11 : decode cX11_fault 11 = .ok (.if_icmp .ne 10, 3) := by decide +kernel
theorem dX11_fault_14 : decode cX11_fault 14 = .ok (.aload_n 0, 1) := by decide +kernel
theorem dX11_fault_15 : decode cX11_fault 15 = .ok (.getfield 23, 3) := by decide +kernel
theorem dX11_fault_18 : decode cX11_fault 18 = .ok (.goto 4, 3) := by decide +kernel
theorem dX11_fault_22 : decode cX11_fault 22 = .ok (.ireturn, 1) := by decide +kernel
theorem dX11_fault_21 : decode cX11_fault 21 = .ok (.iconst (-1), 1) := by decide +kernel
theorem dX11_notes_0 : decode cX11_notes 0 = .ok (.aload_n 0, 1) := by decide +kernel
theorem dX11_notes_1 : decode cX11_notes 1 = .ok (.getfield 16, 3) := by decide +kernel
theorem dX11_notes_4 : decode cX11_notes 4 = .ok (.iload_n 1, 1) := by decide +kernel
theorem dX11_notes_5 : decode cX11_notes 5 = .ok (.invokevirtual 116, 3) := by decide +kernel
theorem dX11_notes_8 : decode cX11_notes 8 = .ok (.ifCond .eq 18, 3) := by decide +kernel
theorem dX11_notes_26 : decode cX11_notes 26 = .ok (.iconst (-1), 1) := by decide +kernel
theorem dX11_notes_27 : decode cX11_notes 27 = .ok (.ireturn, 1) := by decide +kernel
theorem dX11_step_0 : decode cX11_step 0 = .ok (.aload_n 0, 1) := by decide +kernel
theorem dX11_step_1 : decode cX11_step 1 = .ok (.getfield 16, 3) := by decide +kernel
theorem dX11_step_4 : decode cX11_step 4 = .ok (.iload_n 1, 1) := by decide +kernel
theorem dX11_step_5 : decode cX11_step 5 = .ok (.invokevirtual 116, 3) := by decide +kernel
theorem dX11_step_8 : decode cX11_step 8 = .ok (.ifCond .eq 25, 3) := by decide +kernel
theorem dX11_step_33 : decode cX11_step 33 = .ok (.ldc 129, 2) := by decide +kernel
theorem dX11_step_35 : decode cX11_step 35 = .ok (.ireturn, 1) := by decide +kernel
theorem dX11_off_0 : decode cX11_off 0 = .ok (.aload_n 0, 1) := by decide +kernel
theorem dX11_off_1 : decode cX11_off 1 = .ok (.getfield 16, 3) := by decide +kernel
theorem dX11_off_4 : decode cX11_off 4 = .ok (.iload_n 1, 1) := by decide +kernel
theorem dX11_off_5 : decode cX11_off 5 = .ok (.invokevirtual 116, 3) := by decide +kernel
theorem dX11_off_8 : decode cX11_off 8 = .ok (.ifCond .eq 14, 3) := by decide +kernel
theorem dX11_off_22 : decode cX11_off 22 = .ok (.iconst (-1), 1) := by decide +kernel
theorem dX11_off_23 : decode cX11_off 23 = .ok (.ireturn, 1) := by decide +kernel
theorem dX11_in_0 : decode cX11_in 0 = .ok (.aload_n 0, 1) := by decide +kernel
theorem dX11_in_1 : decode cX11_in 1 = .ok (.getfield 16, 3) := by decide +kernel
theorem dX11_in_4 : decode cX11_in 4 = .ok (.iload_n 1, 1) := by decide +kernel
theorem dX11_in_5 : decode cX11_in 5 = .ok (.invokevirtual 116, 3) := by decide +kernel
theorem dX11_in_8 : decode cX11_in 8 = .ok (.ifCond .eq 14, 3) := by decide +kernel
theorem dX11_in_22 : decode cX11_in 22 = .ok (.iconst (-1), 1) := by decide +kernel
theorem dX11_in_23 : decode cX11_in 23 = .ok (.ireturn, 1) := by decide +kernel
theorem dX11_doors_0 : decode cX11_doors 0 = .ok (.aload_n 0, 1) := by decide +kernel
theorem dX11_doors_1 : decode cX11_doors 1 = .ok (.getfield 16, 3) := by decide +kernel
theorem dX11_doors_4 : decode cX11_doors 4 = .ok (.iload_n 1, 1) := by decide +kernel
theorem dX11_doors_5 : decode cX11_doors 5 = .ok (.invokevirtual 116, 3) := by decide +kernel
theorem dX11_doors_8 : decode cX11_doors 8 = .ok (.ifCond .ne 5, 3) := by decide +kernel
theorem dX11_doors_11 : decode cX11_doors 11 = .ok (.iconst (-1), 1) := by decide +kernel
theorem dX11_doors_12 : decode cX11_doors 12 = .ok (.ireturn, 1) := by decide +kernel
theorem dX11_asked_0 : decode cX11_asked 0 = .ok (.aload_n 0, 1) := by decide +kernel
theorem dX11_asked_1 : decode cX11_asked 1 = .ok (.getfield 16, 3) := by decide +kernel
theorem dX11_asked_4 : decode cX11_asked 4 = .ok (.iload_n 1, 1) := by decide +kernel
theorem dX11_asked_5 : decode cX11_asked 5 = .ok (.invokevirtual 163, 3) := by decide +kernel
theorem dX11_asked_8 : decode cX11_asked 8 = .ok (.ifCond .eq 14, 3) := by decide +kernel
theorem dX11_asked_22 : decode cX11_asked 22 = .ok (.ldc 129, 2) := by decide +kernel
theorem dX11_asked_24 : decode cX11_asked 24 = .ok (.ireturn, 1) := by decide +kernel
theorem dX11_dealt_0 : decode cX11_dealt 0 = .ok (.iload_n 1, 1) := by decide +kernel
theorem dX11_dealt_1 : decode cX11_dealt 1 = .ok (.ifCond .lt 9, 3) := by decide +kernel
theorem dX11_dealt_10 : decode cX11_dealt 10 = .ok (.iconst (-1), 1) := by decide +kernel
theorem dX11_dealt_11 : decode cX11_dealt 11 = .ok (.ireturn, 1) := by decide +kernel
theorem dX11_dealt_4 : decode cX11_dealt 4 = .ok (.iload_n 1, 1) := by decide +kernel
theorem dX11_dealt_5 : decode cX11_dealt 5 = .ok (.bipush 99, 2) := by decide +kernel
theorem dX11_dealt_7 : decode cX11_dealt 7 = .ok (.if_icmp .le 5, 3) := by decide +kernel
theorem dX11_dealt_12 : decode cX11_dealt 12 = .ok (.aload_n 0, 1) := by decide +kernel
theorem dX11_dealt_13 : decode cX11_dealt 13 = .ok (.getfield 55, 3) := by decide +kernel
theorem dX11_dealt_16 : decode cX11_dealt 16 = .ok (.aload_n 0, 1) := by decide +kernel
theorem dX11_dealt_17 : decode cX11_dealt 17 = .ok (.getfield 16, 3) := by decide +kernel
theorem dX11_dealt_20 : decode cX11_dealt 20 = .ok (.iload_n 1, 1) := by decide +kernel
theorem dX11_dealt_21 : decode cX11_dealt 21 = .ok (.invokevirtual 173, 3) := by decide +kernel
theorem dX11_dealt_24 : decode cX11_dealt 24 = .ok (.ireturn, 1) := by decide +kernel
theorem dX11_master_0 : decode cX11_master 0 = .ok (.iload_n 1, 1) := by decide +kernel
theorem dX11_master_1 : decode cX11_master 1 = .ok (.ifCond .lt 26, 3) := by decide +kernel
theorem dX11_master_4 : decode cX11_master 4 = .ok (.iload_n 1, 1) := by decide +kernel
theorem dX11_master_5 : decode cX11_master 5 = .ok (.iconst 1, 1) := by decide +kernel
theorem dX11_master_6 : decode cX11_master 6 = .ok (.aload_n 0, 1) := by decide +kernel
theorem dX11_master_7 : decode cX11_master 7 = .ok (.getfield 16, 3) := by decide +kernel
theorem dX11_master_10 : decode cX11_master 10 = .ok (.getfield 170, 3) := by decide +kernel
theorem dX11_master_13 : decode cX11_master 13 = .ok (.ishl, 1) := by decide +kernel
theorem dX11_master_14 : decode cX11_master 14 = .ok (.if_icmp .ge 13, 3) := by decide +kernel
theorem dX11_master_17 : decode cX11_master 17 = .ok (.iload_n 2, 1) := by decide +kernel
theorem dX11_master_18 : decode cX11_master 18 = .ok (.ifCond .lt 9, 3) := by decide +kernel
theorem dX11_master_27 : decode cX11_master 27 = .ok (.iconst (-1), 1) := by decide +kernel
theorem dX11_master_28 : decode cX11_master 28 = .ok (.ireturn, 1) := by decide +kernel
theorem dX11_master_21 : decode cX11_master 21 = .ok (.iload_n 2, 1) := by decide +kernel
theorem dX11_master_22 : decode cX11_master 22 = .ok (.bipush 6, 2) := by decide +kernel
theorem dX11_master_24 : decode cX11_master 24 = .ok (.if_icmp .le 5, 3) := by decide +kernel
theorem dX11_master_29 : decode cX11_master 29 = .ok (.iload_n 1, 1) := by decide +kernel
theorem dX11_master_30 : decode cX11_master 30 = .ok (.invokestatic 177, 3) := by decide +kernel
theorem dX11_master_33 : decode cX11_master 33 = .ok (.bipush 6, 2) := by decide +kernel
theorem dX11_master_35 : decode cX11_master 35 = .ok (.if_icmp .le 6, 3) := by decide +kernel
theorem dX11_master_41 : decode cX11_master 41 = .ok (.aload_n 0, 1) := by decide +kernel
theorem dX11_master_42 : decode cX11_master 42 = .ok (.getfield 62, 3) := by decide +kernel
theorem dX11_master_45 : decode cX11_master 45 = .ok (.aload_n 0, 1) := by decide +kernel
theorem dX11_master_46 : decode cX11_master 46 = .ok (.getfield 16, 3) := by decide +kernel
theorem dX11_master_49 : decode cX11_master 49 = .ok (.iload_n 1, 1) := by decide +kernel
theorem dX11_master_50 : decode cX11_master 50 = .ok (.invokevirtual 182, 3) := by decide +kernel
theorem dX11_master_53 : decode cX11_master 53 = .ok (.iload_n 2, 1) := by decide +kernel
theorem dX11_master_54 : decode cX11_master 54 = .ok (.ifCond .ne 13, 3) := by decide +kernel
theorem dX11_master_67 : decode cX11_master 67 = .ok (.aload_n 0, 1) := by decide +kernel
theorem dX11_master_68 : decode cX11_master 68 = .ok (.getfield 62, 3) := by decide +kernel
theorem dX11_master_71 : decode cX11_master 71 = .ok (.iload_n 2, 1) := by decide +kernel
theorem dX11_master_72 : decode cX11_master 72 = .ok (.iconst 1, 1) := by decide +kernel
theorem dX11_master_73 : decode cX11_master 73 = .ok (.isub, 1) := by decide +kernel
theorem dX11_master_74 : decode cX11_master 74 = .ok (.invokevirtual 190, 3) := by decide +kernel
theorem dX11_master_77 : decode cX11_master 77 = .ok (.ireturn, 1) := by decide +kernel
theorem dX11_master_57 : decode cX11_master 57 = .ok (.aload_n 0, 1) := by decide +kernel
theorem dX11_master_58 : decode cX11_master 58 = .ok (.getfield 62, 3) := by decide +kernel
theorem dX11_master_61 : decode cX11_master 61 = .ok (.invokevirtual 186, 3) := by decide +kernel
theorem dX11_master_64 : decode cX11_master 64 = .ok (.goto 13, 3) := by decide +kernel
theorem dX11_round_0 : decode cX11_round 0 = .ok (.aload_n 0, 1) := by decide +kernel
theorem dX11_round_1 : decode cX11_round 1 = .ok (.getfield 16, 3) := by decide +kernel
theorem dX11_round_4 : decode cX11_round 4 = .ok (.iload_n 1, 1) := by decide +kernel
theorem dX11_round_5 : decode cX11_round 5 = .ok (.invokevirtual 116, 3) := by decide +kernel
theorem dX11_round_8 : decode cX11_round 8 = .ok (.ifCond .eq 14, 3) := by decide +kernel
theorem dX11_round_22 : decode cX11_round 22 = .ok (.iconst (-1), 1) := by decide +kernel
theorem dX11_round_23 : decode cX11_round 23 = .ok (.ireturn, 1) := by decide +kernel
theorem dX11_good_0 : decode cX11_good 0 = .ok (.aload_n 0, 1) := by decide +kernel
theorem dX11_good_1 : decode cX11_good 1 = .ok (.getfield 16, 3) := by decide +kernel
theorem dX11_good_4 : decode cX11_good 4 = .ok (.iload_n 1, 1) := by decide +kernel
theorem dX11_good_5 : decode cX11_good 5 = .ok (.invokevirtual 116, 3) := by decide +kernel
theorem dX11_good_8 : decode cX11_good 8 = .ok (.ifCond .eq 12, 3) := by decide +kernel
theorem dX11_good_20 : decode cX11_good 20 = .ok (.iconst (-1), 1) := by decide +kernel
theorem dX11_good_21 : decode cX11_good 21 = .ok (.ireturn, 1) := by decide +kernel
theorem dX11_deaf_0 : decode cX11_deaf 0 = .ok (.aload_n 0, 1) := by decide +kernel
theorem dX11_deaf_1 : decode cX11_deaf 1 = .ok (.getfield 16, 3) := by decide +kernel
theorem dX11_deaf_4 : decode cX11_deaf 4 = .ok (.iload_n 1, 1) := by decide +kernel
theorem dX11_deaf_5 : decode cX11_deaf 5 = .ok (.invokevirtual 116, 3) := by decide +kernel
theorem dX11_deaf_8 : decode cX11_deaf 8 = .ok (.ifCond .eq 24, 3) := by decide +kernel
theorem dX11_deaf_32 : decode cX11_deaf 32 = .ok (.iconst (-1), 1) := by decide +kernel
theorem dX11_deaf_33 : decode cX11_deaf 33 = .ok (.ireturn, 1) := by decide +kernel
theorem dX11_least_0 : decode cX11_least 0 = .ok (.aload_n 0, 1) := by decide +kernel
theorem dX11_least_1 : decode cX11_least 1 = .ok (.getfield 16, 3) := by decide +kernel
theorem dX11_least_4 : decode cX11_least 4 = .ok (.iload_n 1, 1) := by decide +kernel
theorem dX11_least_5 : decode cX11_least 5 = .ok (.invokevirtual 163, 3) := by decide +kernel
theorem dX11_least_8 : decode cX11_least 8 = .ok (.ifCond .ne 5, 3) := by decide +kernel
theorem dX11_least_11 : decode cX11_least 11 = .ok (.iconst (-1), 1) := by decide +kernel
theorem dX11_least_12 : decode cX11_least 12 = .ok (.ireturn, 1) := by decide +kernel
theorem dX11_singNote_0 : decode cX11_singNote 0 = .ok (.aload_n 0, 1) := by decide +kernel
theorem dX11_singNote_1 : decode cX11_singNote 1 = .ok (.getfield 30, 3) := by decide +kernel
theorem dX11_singNote_4 : decode cX11_singNote 4 = .ok (.getfield 104, 3) := by decide +kernel
theorem dX11_singNote_7 : decode cX11_singNote 7 = .ok (.iload_n 1, 1) := by decide +kernel
theorem dX11_singNote_8 : decode cX11_singNote 8 = .ok (.iload_n 2, 1) := by decide +kernel
theorem dX11_singNote_9 : decode cX11_singNote 9 = .ok (.invokevirtual 220, 3) := by decide +kernel
theorem dX11_singNote_12 : decode cX11_singNote 12 = .ok (.aload_n 0, 1) := by decide +kernel
theorem dX11_singNote_13 : decode cX11_singNote 13 = .ok (.getfield 41, 3) := by decide +kernel
theorem dX11_singNote_16 : decode cX11_singNote 16 = .ok (.aload_n 0, 1) := by decide +kernel
theorem dX11_singNote_17 : decode cX11_singNote 17 = .ok (.getfield 30, 3) := by decide +kernel
theorem dX11_singNote_20 : decode cX11_singNote 20 = .ok (.getfield 104, 3) := by decide +kernel
theorem dX11_singNote_23 : decode cX11_singNote 23 = .ok (.aload_n 0, 1) := by decide +kernel
theorem dX11_singNote_24 : decode cX11_singNote 24 = .ok (.getfield 16, 3) := by decide +kernel
theorem dX11_singNote_27 : decode cX11_singNote 27 = .ok (.invokevirtual 224, 3) := by decide +kernel
theorem dX11_singNote_30 : decode cX11_singNote 30 = .ok (.iconst 0, 1) := by decide +kernel
theorem dX11_singNote_31 : decode cX11_singNote 31 = .ok (.istore_n 3, 1) := by decide +kernel
theorem dX11_singNote_32 : decode cX11_singNote 32 = .ok (.iconst 0, 1) := by decide +kernel
theorem dX11_singNote_33 : decode cX11_singNote 33 = .ok (.istore 4, 2) := by decide +kernel
theorem dX11_singNote_35 : decode cX11_singNote 35 = .ok (.iload 4, 2) := by decide +kernel
theorem dX11_singNote_37 : decode cX11_singNote 37 = .ok (.aload_n 0, 1) := by decide +kernel
theorem dX11_singNote_38 : decode cX11_singNote 38 = .ok (.getfield 16, 3) := by decide +kernel
theorem dX11_singNote_41 : decode cX11_singNote 41 = .ok (.getfield 113, 3) := by decide +kernel
theorem dX11_singNote_44 : decode cX11_singNote 44 = .ok (.if_icmp .ge 90, 3) := by decide +kernel
theorem dX11_singNote_134 : decode cX11_singNote 134 = .ok (.aload_n 0, 1) := by decide +kernel
theorem dX11_singNote_135 : decode cX11_singNote 135 = .ok (.getfield 30, 3) := by decide +kernel
theorem dX11_singNote_138 : decode cX11_singNote 138 = .ok (.dup, 1) := by decide +kernel
theorem dX11_singNote_139 : decode cX11_singNote 139 = .ok (.getfield 227, 3) := by decide +kernel
theorem dX11_singNote_142 : decode cX11_singNote 142 = .ok (.iload_n 3, 1) := by decide +kernel
theorem dX11_singNote_143 : decode cX11_singNote 143 = .ok (.ior, 1) := by decide +kernel
theorem dX11_singNote_144 : decode cX11_singNote 144 = .ok (.putfield 227, 3) := by decide +kernel
theorem dX11_singNote_147 : decode cX11_singNote 147 = .ok (.iload_n 3, 1) := by decide +kernel
theorem dX11_singNote_148 : decode cX11_singNote 148 = .ok (.ireturn, 1) := by decide +kernel
theorem dX11_sing_0 : decode cX11_sing 0 = .ok (.iload_n 1, 1) := by decide +kernel
theorem dX11_sing_1 : decode cX11_sing 1 = .ok (.invokestatic 213, 3) := by decide +kernel
theorem dX11_sing_4 : decode cX11_sing 4 = .ok (.ifCond .eq 29, 3) := by decide +kernel
theorem dX11_sing_33 : decode cX11_sing 33 = .ok (.iconst (-1), 1) := by decide +kernel
theorem dX11_sing_34 : decode cX11_sing 34 = .ok (.ireturn, 1) := by decide +kernel
theorem dX11_sing_7 : decode cX11_sing 7 = .ok (.iload_n 2, 1) := by decide +kernel
theorem dX11_sing_8 : decode cX11_sing 8 = .ok (.iconst 1, 1) := by decide +kernel
theorem dX11_sing_9 : decode cX11_sing 9 = .ok (.if_icmp .lt 24, 3) := by decide +kernel
theorem dX11_sing_12 : decode cX11_sing 12 = .ok (.iload_n 2, 1) := by decide +kernel
theorem dX11_sing_13 : decode cX11_sing 13 = .ok (.bipush 9, 2) := by decide +kernel
theorem dX11_sing_15 : decode cX11_sing 15 = .ok (.if_icmp .gt 18, 3) := by decide +kernel
theorem dX11_sing_18 : decode cX11_sing 18 = .ok (.aload_n 0, 1) := by decide +kernel
theorem dX11_sing_19 : decode cX11_sing 19 = .ok (.getfield 30, 3) := by decide +kernel
theorem dX11_sing_22 : decode cX11_sing 22 = .ok (.getfield 104, 3) := by decide +kernel
theorem dX11_sing_25 : decode cX11_sing 25 = .ok (.getfield 124, 3) := by decide +kernel
theorem dX11_sing_28 : decode cX11_sing 28 = .ok (.bipush 40, 2) := by decide +kernel
theorem dX11_sing_30 : decode cX11_sing 30 = .ok (.if_icmp .lt 5, 3) := by decide +kernel
theorem dX11_sing_35 : decode cX11_sing 35 = .ok (.aload_n 0, 1) := by decide +kernel
theorem dX11_sing_36 : decode cX11_sing 36 = .ok (.iload_n 1, 1) := by decide +kernel
theorem dX11_sing_37 : decode cX11_sing 37 = .ok (.iload_n 2, 1) := by decide +kernel
theorem dX11_sing_38 : decode cX11_sing 38 = .ok (.invokevirtual 216, 3) := by decide +kernel
theorem dX11_sing_41 : decode cX11_sing 41 = .ok (.ireturn, 1) := by decide +kernel
theorem dX11_song_0 : decode cX11_song 0 = .ok (.aload_n 0, 1) := by decide +kernel
theorem dX11_song_1 : decode cX11_song 1 = .ok (.getfield 16, 3) := by decide +kernel
theorem dX11_song_4 : decode cX11_song 4 = .ok (.iload_n 1, 1) := by decide +kernel
theorem dX11_song_5 : decode cX11_song 5 = .ok (.invokevirtual 116, 3) := by decide +kernel
theorem dX11_song_8 : decode cX11_song 8 = .ok (.ifCond .eq 15, 3) := by decide +kernel
theorem dX11_song_23 : decode cX11_song 23 = .ok (.iconst (-1), 1) := by decide +kernel
theorem dX11_song_24 : decode cX11_song 24 = .ok (.ireturn, 1) := by decide +kernel
theorem dX11_silence_0 : decode cX11_silence 0 = .ok (.aload_n 0, 1) := by decide +kernel
theorem dX11_silence_1 : decode cX11_silence 1 = .ok (.getfield 30, 3) := by decide +kernel
theorem dX11_silence_4 : decode cX11_silence 4 = .ok (.getfield 104, 3) := by decide +kernel
theorem dX11_silence_7 : decode cX11_silence 7 = .ok (.getfield 124, 3) := by decide +kernel
theorem dX11_silence_10 : decode cX11_silence 10 = .ok (.istore_n 1, 1) := by decide +kernel
theorem dX11_silence_11 : decode cX11_silence 11 = .ok (.aload_n 0, 1) := by decide +kernel
theorem dX11_silence_12 : decode cX11_silence 12 = .ok (.getfield 30, 3) := by decide +kernel
theorem dX11_silence_15 : decode cX11_silence 15 = .ok (.getfield 104, 3) := by decide +kernel
theorem dX11_silence_18 : decode cX11_silence 18 = .ok (.iconst 0, 1) := by decide +kernel
theorem dX11_silence_19 : decode cX11_silence 19 = .ok (.putfield 124, 3) := by decide +kernel
theorem dX11_silence_22 : decode cX11_silence 22 = .ok (.aload_n 0, 1) := by decide +kernel
theorem dX11_silence_23 : decode cX11_silence 23 = .ok (.getfield 41, 3) := by decide +kernel
theorem dX11_silence_26 : decode cX11_silence 26 = .ok (.aload_n 0, 1) := by decide +kernel
theorem dX11_silence_27 : decode cX11_silence 27 = .ok (.getfield 30, 3) := by decide +kernel
theorem dX11_silence_30 : decode cX11_silence 30 = .ok (.getfield 104, 3) := by decide +kernel
theorem dX11_silence_33 : decode cX11_silence 33 = .ok (.aload_n 0, 1) := by decide +kernel
theorem dX11_silence_34 : decode cX11_silence 34 = .ok (.getfield 16, 3) := by decide +kernel
theorem dX11_silence_37 : decode cX11_silence 37 = .ok (.invokevirtual 108, 3) := by decide +kernel
theorem dX11_silence_40 : decode cX11_silence 40 = .ok (.iload_n 1, 1) := by decide +kernel
theorem dX11_silence_41 : decode cX11_silence 41 = .ok (.ireturn, 1) := by decide +kernel
theorem dX11_shut_0 : decode cX11_shut 0 = .ok (.aload_n 0, 1) := by decide +kernel
theorem dX11_shut_1 : decode cX11_shut 1 = .ok (.getfield 16, 3) := by decide +kernel
theorem dX11_shut_4 : decode cX11_shut 4 = .ok (.iload_n 1, 1) := by decide +kernel
theorem dX11_shut_5 : decode cX11_shut 5 = .ok (.invokevirtual 163, 3) := by decide +kernel
theorem dX11_shut_8 : decode cX11_shut 8 = .ok (.ifCond .eq 17, 3) := by decide +kernel
theorem dX11_shut_25 : decode cX11_shut 25 = .ok (.iconst 0, 1) := by decide +kernel
theorem dX11_shut_26 : decode cX11_shut 26 = .ok (.ireturn, 1) := by decide +kernel
theorem dX11_night_0 : decode cX11_night 0 = .ok (.aload_n 0, 1) := by decide +kernel
theorem dX11_night_1 : decode cX11_night 1 = .ok (.getfield 30, 3) := by decide +kernel
theorem dX11_night_4 : decode cX11_night 4 = .ok (.getfield 230, 3) := by decide +kernel
theorem dX11_night_7 : decode cX11_night 7 = .ok (.iload_n 1, 1) := by decide +kernel
theorem dX11_night_8 : decode cX11_night 8 = .ok (.if_icmp .eq 7, 3) := by decide +kernel
theorem dX11_night_15 : decode cX11_night 15 = .ok (.iconst 0, 1) := by decide +kernel
theorem dX11_night_16 : decode cX11_night 16 = .ok (.istore_n 2, 1) := by decide +kernel
theorem dX11_night_17 : decode cX11_night 17 = .ok (.aload_n 0, 1) := by decide +kernel
theorem dX11_night_18 : decode cX11_night 18 = .ok (.getfield 30, 3) := by decide +kernel
theorem dX11_night_21 : decode cX11_night 21 = .ok (.iload_n 1, 1) := by decide +kernel
theorem dX11_night_22 : decode cX11_night 22 = .ok (.putfield 230, 3) := by decide +kernel
theorem dX11_night_25 : decode cX11_night 25 = .ok (.iload_n 2, 1) := by decide +kernel
theorem dX11_night_26 : decode cX11_night 26 = .ok (.ireturn, 1) := by decide +kernel
theorem dX11_night_11 : decode cX11_night 11 = .ok (.iconst 1, 1) := by decide +kernel
theorem dX11_night_12 : decode cX11_night 12 = .ok (.goto 4, 3) := by decide +kernel
theorem dX11_lock_0 : decode cX11_lock 0 = .ok (.aload_n 0, 1) := by decide +kernel
theorem dX11_lock_1 : decode cX11_lock 1 = .ok (.getfield 16, 3) := by decide +kernel
theorem dX11_lock_4 : decode cX11_lock 4 = .ok (.iload_n 1, 1) := by decide +kernel
theorem dX11_lock_5 : decode cX11_lock 5 = .ok (.invokevirtual 163, 3) := by decide +kernel
theorem dX11_lock_8 : decode cX11_lock 8 = .ok (.ifCond .ne 5, 3) := by decide +kernel
theorem dX11_lock_11 : decode cX11_lock 11 = .ok (.iconst (-1), 1) := by decide +kernel
theorem dX11_lock_12 : decode cX11_lock 12 = .ok (.ireturn, 1) := by decide +kernel
theorem dX11_heard_0 : decode cX11_heard 0 = .ok (.aload_n 0, 1) := by decide +kernel
theorem dX11_heard_1 : decode cX11_heard 1 = .ok (.getfield 16, 3) := by decide +kernel
theorem dX11_heard_4 : decode cX11_heard 4 = .ok (.iload_n 1, 1) := by decide +kernel
theorem dX11_heard_5 : decode cX11_heard 5 = .ok (.invokevirtual 116, 3) := by decide +kernel
theorem dX11_heard_8 : decode cX11_heard 8 = .ok (.ifCond .ne 5, 3) := by decide +kernel
theorem dX11_heard_11 : decode cX11_heard 11 = .ok (.iconst (-1), 1) := by decide +kernel
theorem dX11_heard_12 : decode cX11_heard 12 = .ok (.ireturn, 1) := by decide +kernel
theorem dX11_watch_0 : decode cX11_watch 0 = .ok (.aload_n 0, 1) := by decide +kernel
theorem dX11_watch_1 : decode cX11_watch 1 = .ok (.getfield 16, 3) := by decide +kernel
theorem dX11_watch_4 : decode cX11_watch 4 = .ok (.iload_n 1, 1) := by decide +kernel
theorem dX11_watch_5 : decode cX11_watch 5 = .ok (.invokevirtual 163, 3) := by decide +kernel
theorem dX11_watch_8 : decode cX11_watch 8 = .ok (.ifCond .ne 5, 3) := by decide +kernel
theorem dX11_watch_11 : decode cX11_watch 11 = .ok (.iconst (-1), 1) := by decide +kernel
theorem dX11_watch_12 : decode cX11_watch 12 = .ok (.ireturn, 1) := by decide +kernel
theorem dX11_untell_0 : decode cX11_untell 0 = .ok (.aload_n 0, 1) := by decide +kernel
theorem dX11_untell_1 : decode cX11_untell 1 = .ok (.getfield 48, 3) := by decide +kernel
theorem dX11_untell_4 : decode cX11_untell 4 = .ok (.iload_n 1, 1) := by decide +kernel
theorem dX11_untell_5 : decode cX11_untell 5 = .ok (.aload_n 0, 1) := by decide +kernel
theorem dX11_untell_6 : decode cX11_untell 6 = .ok (.getfield 249, 3) := by decide +kernel
theorem dX11_untell_9 : decode cX11_untell 9 = .ok (.invokevirtual 256, 3) := by decide +kernel
theorem dX11_untell_12 : decode cX11_untell 12 = .ok (.ireturn, 1) := by decide +kernel
theorem dX11_later_0 : decode cX11_later 0 = .ok (.iload_n 1, 1) := by decide +kernel
theorem dX11_later_1 : decode cX11_later 1 = .ok (.ifCond .lt 22, 3) := by decide +kernel
theorem dX11_later_23 : decode cX11_later 23 = .ok (.iconst (-1), 1) := by decide +kernel
theorem dX11_later_24 : decode cX11_later 24 = .ok (.ireturn, 1) := by decide +kernel
theorem dX11_later_4 : decode cX11_later 4 = .ok (.iload_n 1, 1) := by decide +kernel
theorem dX11_later_5 : decode cX11_later 5 = .ok (.sipush 1000, 3) := by decide +kernel
theorem dX11_later_8 : decode cX11_later 8 = .ok (.if_icmp .gt 15, 3) := by decide +kernel
theorem dX11_later_11 : decode cX11_later 11 = .ok (.aload_n 0, 1) := by decide +kernel
theorem dX11_later_12 : decode cX11_later 12 = .ok (.getfield 249, 3) := by decide +kernel
theorem dX11_later_15 : decode cX11_later 15 = .ok (.iload_n 1, 1) := by decide +kernel
theorem dX11_later_16 : decode cX11_later 16 = .ok (.iadd, 1) := by decide +kernel
theorem dX11_later_17 : decode cX11_later 17 = .ok (.ldc_w 260, 3) := by decide +kernel
theorem dX11_later_20 : decode cX11_later 20 = .ok (.if_icmp .le 5, 3) := by decide +kernel
theorem dX11_later_25 : decode cX11_later 25 = .ok (.aload_n 0, 1) := by decide +kernel
theorem dX11_later_26 : decode cX11_later 26 = .ok (.dup, 1) := by decide +kernel
theorem dX11_later_27 : decode cX11_later 27 = .ok (.getfield 249, 3) := by decide +kernel
theorem dX11_later_30 : decode cX11_later 30 = .ok (.iload_n 1, 1) := by decide +kernel
theorem dX11_later_31 : decode cX11_later 31 = .ok (.iadd, 1) := by decide +kernel
theorem dX11_later_32 : decode cX11_later 32 = .ok (.putfield 249, 3) := by decide +kernel
theorem dX11_later_35 : decode cX11_later 35 = .ok (.aload_n 0, 1) := by decide +kernel
theorem dX11_later_36 : decode cX11_later 36 = .ok (.getfield 249, 3) := by decide +kernel
theorem dX11_later_39 : decode cX11_later 39 = .ok (.ireturn, 1) := by decide +kernel
theorem dX11_left_0 : decode cX11_left 0 = .ok (.aload_n 0, 1) := by decide +kernel
theorem dX11_left_1 : decode cX11_left 1 = .ok (.getfield 48, 3) := by decide +kernel
theorem dX11_left_4 : decode cX11_left 4 = .ok (.iload_n 1, 1) := by decide +kernel
theorem dX11_left_5 : decode cX11_left 5 = .ok (.aload_n 0, 1) := by decide +kernel
theorem dX11_left_6 : decode cX11_left 6 = .ok (.getfield 16, 3) := by decide +kernel
theorem dX11_left_9 : decode cX11_left 9 = .ok (.invokevirtual 261, 3) := by decide +kernel
theorem dX11_left_12 : decode cX11_left 12 = .ok (.ireturn, 1) := by decide +kernel
theorem dX11_next_0 : decode cX11_next 0 = .ok (.aload_n 0, 1) := by decide +kernel
theorem dX11_next_1 : decode cX11_next 1 = .ok (.getfield 48, 3) := by decide +kernel
theorem dX11_next_4 : decode cX11_next 4 = .ok (.iload_n 2, 1) := by decide +kernel
theorem dX11_next_5 : decode cX11_next 5 = .ok (.aload_n 0, 1) := by decide +kernel
theorem dX11_next_6 : decode cX11_next 6 = .ok (.getfield 16, 3) := by decide +kernel
theorem dX11_next_9 : decode cX11_next 9 = .ok (.invokevirtual 261, 3) := by decide +kernel
theorem dX11_next_12 : decode cX11_next 12 = .ok (.istore_n 3, 1) := by decide +kernel
theorem dX11_next_13 : decode cX11_next 13 = .ok (.iload_n 3, 1) := by decide +kernel
theorem dX11_next_14 : decode cX11_next 14 = .ok (.ifCond .eq 12, 3) := by decide +kernel
theorem dX11_next_26 : decode cX11_next 26 = .ok (.iconst (-1), 1) := by decide +kernel
theorem dX11_next_27 : decode cX11_next 27 = .ok (.ireturn, 1) := by decide +kernel
theorem dX11_image_0 : decode cX11_image 0 = .ok (.iload_n 1, 1) := by decide +kernel
theorem dX11_image_1 : decode cX11_image 1 = .ok (.ifCond .lt 12, 3) := by decide +kernel
theorem dX11_image_4 : decode cX11_image 4 = .ok (.iload_n 1, 1) := by decide +kernel
theorem dX11_image_5 : decode cX11_image 5 = .ok (.aload_n 0, 1) := by decide +kernel
theorem dX11_image_6 : decode cX11_image 6 = .ok (.getfield 34, 3) := by decide +kernel
theorem dX11_image_9 : decode cX11_image 9 = .ok (.arraylength, 1) := by decide +kernel
theorem dX11_image_10 : decode cX11_image 10 = .ok (.if_icmp .lt 5, 3) := by decide +kernel
theorem dX11_image_15 : decode cX11_image 15 = .ok (.aload_n 0, 1) := by decide +kernel
theorem dX11_image_16 : decode cX11_image 16 = .ok (.getfield 34, 3) := by decide +kernel
theorem dX11_image_19 : decode cX11_image 19 = .ok (.iload_n 1, 1) := by decide +kernel
theorem dX11_image_20 : decode cX11_image 20 = .ok (.aaload, 1) := by decide +kernel
theorem dX11_image_21 : decode cX11_image 21 = .ok (.aload_n 0, 1) := by decide +kernel
theorem dX11_image_22 : decode cX11_image 22 = .ok (.getfield 30, 3) := by decide +kernel
theorem dX11_image_25 : decode cX11_image 25 = .ok (.invokevirtual 274, 3) := by decide +kernel
theorem dX11_image_28 : decode cX11_image 28 = .ok (.aload_n 0, 1) := by decide +kernel
theorem dX11_image_29 : decode cX11_image 29 = .ok (.getfield 34, 3) := by decide +kernel
theorem dX11_image_32 : decode cX11_image 32 = .ok (.iload_n 1, 1) := by decide +kernel
theorem dX11_image_33 : decode cX11_image 33 = .ok (.aaload, 1) := by decide +kernel
theorem dX11_image_34 : decode cX11_image 34 = .ok (.iconst 1, 1) := by decide +kernel
theorem dX11_image_35 : decode cX11_image 35 = .ok (.putfield 278, 3) := by decide +kernel
theorem dX11_image_38 : decode cX11_image 38 = .ok (.aload_n 0, 1) := by decide +kernel
theorem dX11_image_39 : decode cX11_image 39 = .ok (.getfield 30, 3) := by decide +kernel
theorem dX11_image_42 : decode cX11_image 42 = .ok (.getfield 104, 3) := by decide +kernel
theorem dX11_image_45 : decode cX11_image 45 = .ok (.getfield 124, 3) := by decide +kernel
theorem dX11_image_48 : decode cX11_image 48 = .ok (.ireturn, 1) := by decide +kernel
theorem dX11_image_13 : decode cX11_image 13 = .ok (.iconst (-1), 1) := by decide +kernel
theorem dX11_image_14 : decode cX11_image 14 = .ok (.ireturn, 1) := by decide +kernel
theorem dX11_back_0 : decode cX11_back 0 = .ok (.iload_n 1, 1) := by decide +kernel
theorem dX11_back_1 : decode cX11_back 1 = .ok (.ifCond .lt 24, 3) := by decide +kernel
theorem dX11_back_4 : decode cX11_back 4 = .ok (.iload_n 1, 1) := by decide +kernel
theorem dX11_back_5 : decode cX11_back 5 = .ok (.aload_n 0, 1) := by decide +kernel
theorem dX11_back_6 : decode cX11_back 6 = .ok (.getfield 34, 3) := by decide +kernel
theorem dX11_back_9 : decode cX11_back 9 = .ok (.arraylength, 1) := by decide +kernel
theorem dX11_back_10 : decode cX11_back 10 = .ok (.if_icmp .ge 15, 3) := by decide +kernel
theorem dX11_back_13 : decode cX11_back 13 = .ok (.aload_n 0, 1) := by decide +kernel
theorem dX11_back_14 : decode cX11_back 14 = .ok (.getfield 34, 3) := by decide +kernel
theorem dX11_back_17 : decode cX11_back 17 = .ok (.iload_n 1, 1) := by decide +kernel
theorem dX11_back_18 : decode cX11_back 18 = .ok (.aaload, 1) := by decide +kernel
theorem dX11_back_19 : decode cX11_back 19 = .ok (.getfield 278, 3) := by decide +kernel
theorem dX11_back_22 : decode cX11_back 22 = .ok (.ifCond .ne 5, 3) := by decide +kernel
theorem dX11_back_25 : decode cX11_back 25 = .ok (.iconst (-1), 1) := by decide +kernel
theorem dX11_back_26 : decode cX11_back 26 = .ok (.ireturn, 1) := by decide +kernel
theorem dX11_about_0 : decode cX11_about 0 = .ok (.iload_n 1, 1) := by decide +kernel
theorem dX11_about_1 : decode cX11_about 1 = .ok (.tableswitch 116 0 7 #[47, 55, 63, 74, 90, 98, 103, 108], 47) := by decide +kernel
theorem dX11_about_48 : decode cX11_about 48 = .ok (.aload_n 0, 1) := by decide +kernel
theorem dX11_about_49 : decode cX11_about 49 = .ok (.getfield 16, 3) := by decide +kernel
theorem dX11_about_52 : decode cX11_about 52 = .ok (.getfield 170, 3) := by decide +kernel
theorem dX11_about_55 : decode cX11_about 55 = .ok (.ireturn, 1) := by decide +kernel
theorem dX11_about_56 : decode cX11_about 56 = .ok (.aload_n 0, 1) := by decide +kernel
theorem dX11_about_57 : decode cX11_about 57 = .ok (.getfield 16, 3) := by decide +kernel
theorem dX11_about_60 : decode cX11_about 60 = .ok (.getfield 113, 3) := by decide +kernel
theorem dX11_about_63 : decode cX11_about 63 = .ok (.ireturn, 1) := by decide +kernel
theorem dX11_about_64 : decode cX11_about 64 = .ok (.aload_n 0, 1) := by decide +kernel
theorem dX11_about_65 : decode cX11_about 65 = .ok (.getfield 30, 3) := by decide +kernel
theorem dX11_about_68 : decode cX11_about 68 = .ok (.getfield 104, 3) := by decide +kernel
theorem dX11_about_71 : decode cX11_about 71 = .ok (.getfield 124, 3) := by decide +kernel
theorem dX11_about_74 : decode cX11_about 74 = .ok (.ireturn, 1) := by decide +kernel
theorem dX11_about_75 : decode cX11_about 75 = .ok (.aload_n 0, 1) := by decide +kernel
theorem dX11_about_76 : decode cX11_about 76 = .ok (.getfield 30, 3) := by decide +kernel
theorem dX11_about_79 : decode cX11_about 79 = .ok (.getfield 230, 3) := by decide +kernel
theorem dX11_about_82 : decode cX11_about 82 = .ok (.ifCond .eq 7, 3) := by decide +kernel
theorem dX11_about_89 : decode cX11_about 89 = .ok (.iconst 0, 1) := by decide +kernel
theorem dX11_about_90 : decode cX11_about 90 = .ok (.ireturn, 1) := by decide +kernel
theorem dX11_about_91 : decode cX11_about 91 = .ok (.aload_n 0, 1) := by decide +kernel
theorem dX11_about_92 : decode cX11_about 92 = .ok (.getfield 48, 3) := by decide +kernel
theorem dX11_about_95 : decode cX11_about 95 = .ok (.getfield 281, 3) := by decide +kernel
theorem dX11_about_98 : decode cX11_about 98 = .ok (.ireturn, 1) := by decide +kernel
theorem dX11_about_99 : decode cX11_about 99 = .ok (.aload_n 0, 1) := by decide +kernel
theorem dX11_about_100 : decode cX11_about 100 = .ok (.getfield 249, 3) := by decide +kernel
theorem dX11_about_103 : decode cX11_about 103 = .ok (.ireturn, 1) := by decide +kernel
theorem dX11_about_104 : decode cX11_about 104 = .ok (.aload_n 0, 1) := by decide +kernel
theorem dX11_about_105 : decode cX11_about 105 = .ok (.getfield 73, 3) := by decide +kernel
theorem dX11_about_108 : decode cX11_about 108 = .ok (.ireturn, 1) := by decide +kernel
theorem dX11_about_109 : decode cX11_about 109 = .ok (.aload_n 0, 1) := by decide +kernel
theorem dX11_about_110 : decode cX11_about 110 = .ok (.getfield 16, 3) := by decide +kernel
theorem dX11_about_113 : decode cX11_about 113 = .ok (.getfield 282, 3) := by decide +kernel
theorem dX11_about_116 : decode cX11_about 116 = .ok (.ireturn, 1) := by decide +kernel
theorem dX11_about_117 : decode cX11_about 117 = .ok (.iconst (-1), 1) := by decide +kernel
theorem dX11_about_118 : decode cX11_about 118 = .ok (.ireturn, 1) := by decide +kernel
/-! the class's public methods on a fresh object -/
abbrev WX (cy : Nat → ClassId) (x : Nat) (h : Nat → Nat) : va_W := [(x, .inr (11, [.ref (h 0), .int 0, .ref (h 1), .ref (h 2), .int 0, .int (-1), .ref (h 3), .ref (h 4), .ref (h 5), .ref (h 6), .int 0, .ref (h 7), .ref (h 8), .ref (h 9)])), ((h 0), .inl (cy 1, 1700, .inl (fun _ => 0))), ((h 1), .inr (9, [.ref (h 10), .ref (h 11), .ref (h 12), .int 0, .ref (h 13), .int 0, .ref (h 14), .int 0, .ref (h 15)])), ((h 14), .inr (5, [.ref (h 16), .ref (h 17), .int 0, .ref (h 18), .int 0])), ((h 15), .inl (cy 2, 12, .inl (fun _ => 0))), ((h 2), .inr (9, [.ref (h 20), .ref (h 21), .ref (h 22), .int 0, .ref (h 23), .int 0, .ref (h 24), .int 0, .ref (h 25)])), ((h 24), .inr (5, [.ref (h 26), .ref (h 27), .int 0, .ref (h 28), .int 0])), ((h 25), .inl (cy 2, 12, .inl (fun _ => 0))), ((h 3), .inr (7, [.ref (h 30), .int 0, .int 0, .ref (h 31), .int 0])), ((h 30), .inr (8, [.ref (h 32), .ref (h 33), .int 0])), ((h 32), .inl (cy 0, 40, .inl (fun _ => 0))), ((h 33), .inl (cy 0, 40, .inl (fun _ => 0))), ((h 31), .inl (cy 0, 8, .inl (fun _ => 0))), ((h 4), .inl (cy 7, 3, .inr (.inr (.inr (.inr (va_up (va_up (va_up (fun _ => none) 0 (some (h 52))) 1 (some (h 53))) 2 (some (h 54)))))))), ((h 5), .inr (2, [.ref (h 34), .ref (h 35), .ref (h 36), .ref (h 37), .int 0])), ((h 6), .inr (10, [.ref (h 40), .ref (h 41), .ref (h 42), .ref (h 43), .ref (h 44), .int 0])), ((h 7), .inr (1, [.ref (h 45), .int 0, .int 0])), ((h 8), .inr (3, [.ref (h 46), .ref (h 47), .int 0, .ref (h 48), .ref (h 49), .ref (h 50), .int 0])), ((h 49), .inl (cy 0, 6, .inl (fun _ => 0))), ((h 50), .inl (cy 0, 6, .inl (fun _ => 0))), ((h 9), .inr (0, [.ref (h 51), .int 0])), ((h 52), .inr (7, [.ref (h 55), .int 0, .int 0, .ref (h 56), .int 0])), ((h 55), .inr (8, [.ref (h 57), .ref (h 58), .int 0])), ((h 57), .inl (cy 0, 40, .inl (fun _ => 0))), ((h 58), .inl (cy 0, 40, .inl (fun _ => 0))), ((h 56), .inl (cy 0, 8, .inl (fun _ => 0))), ((h 53), .inr (7, [.ref (h 59), .int 0, .int 0, .ref (h 60), .int 0])), ((h 59), .inr (8, [.ref (h 61), .ref (h 62), .int 0])), ((h 61), .inl (cy 0, 40, .inl (fun _ => 0))), ((h 62), .inl (cy 0, 40, .inl (fun _ => 0))), ((h 60), .inl (cy 0, 8, .inl (fun _ => 0))), ((h 54), .inr (7, [.ref (h 63), .int 0, .int 0, .ref (h 64), .int 0])), ((h 63), .inr (8, [.ref (h 65), .ref (h 66), .int 0])), ((h 65), .inl (cy 0, 40, .inl (fun _ => 0))), ((h 66), .inl (cy 0, 40, .inl (fun _ => 0))), ((h 64), .inl (cy 0, 8, .inl (fun _ => 0)))]
def sp_zero (n : Int32) : Int32 := if n = 0 then 0 else -1
def sp_rng (hi n : Int32) : Int32 := if 0 ≤ n ∧ n ≤ hi then 0 else -1
def sp_master (a w : Int32) : Int32 := if a = 0 ∧ w = 0 then 0 else -1
def sp_sing (a w : Int32) : Int32 := if (0 ≤ a ∧ a ≤ 60) ∧ (1 ≤ w ∧ w ≤ 9) then 0 else -1
def sp_later (n : Int32) : Int32 := if 0 ≤ n ∧ n ≤ 1000 then n else -1
set_option maxHeartbeats 4000000 in
set_option maxRecDepth 100000 in
theorem x_feed (l : Launch) (G : va_G) (cy : Nat → ClassId) (sz : Nat) (x : Nat) (h : Nat → Nat) (a1 : Int32) (a2 : Int32) (a3 : Int32) (a4 : Int32) (a5 : Int32)  : Met l yX11_feed (.code yX11_feed cX11_feed 6 (some .int) :: TBg) ({ frames := 2, cells := 0, slots := 0, locals := 128 }) (va_Pc [.ref x, .int a1, .int a2, .int a3, .int a4, .int a5] (En G cy (WX cy x h) sz)) (va_Qi (fun (r : Int32) (_ : Unit) => r = 20 ∧ True) (fun _ _ => True) (va_A (WX cy x h) sz)) 0 0 (va_A (WX cy x h) sz) := by
  refine Met.ofW (cc := cX11_feed) (maxL := 6) (ret := (some .int)) (by decide) rfl ?_
  intro p e s m args below meth c s₁ B hml hv
  obtain ⟨rfl, hsz, hP, hK, hD0, hN⟩ := hv
  have hx := B.exec
  have hb := B.bytes
  have hr := B.returns
  have hts := atoms_spec (ws := .code yX11_feed cX11_feed 6 (some .int) :: TBg) B.pre
  have ht : ∀ w ∈ TBg, w.before _ s = true := fun w h => hts w (List.mem_cons_of_mem _ h)
  have hown : s.vm.findClass RX11 = some m.cls := findClass_of_methodNamed B.named
  have hlocks := B.notSynchronized
  subst hsz
  have hD := hD0.self (sz := s.heap.size)
  generalize hAe : va_A (WX cy x h) s.heap.size = A at hD ⊢
  have hA : ∀ q : Nat, s.heap.size ≤ q → A q := fun q h => by rw [← hAe]; exact Or.inr h
  have hS : va_S A s.heap s.heap [] := va_S.rf
  have hl := lv_entry ([.ref x, .int a1, .int a2, .int a3, .int a4, .int a5]) (n := 6) (Nat.le_of_ble_eq_true rfl)
  rw [lg_entry_eq]
  generalize (lg_sl ([.ref x, .int a1, .int a2, .int a3, .int a4, .int a5]) ++ List.replicate (6 - (lg_sl ([.ref x, .int a1, .int a2, .int a3, .int a4, .int a5])).length) Slot.unset).toArray = ls at hl ⊢
  have hl : lv_has ls 6 [(0, .ref x), (1, .int a1), (2, .int a2), (3, .int a3), (4, .int a4), (5, .int a5)] := hl
  refine lv_aload_n hx hb dX11_feed_0 rfl (lv_at hl 0 rfl) ?_
  refine va_get (ci := 11) (v := .int 0) (C := RX11) (T := TX11) (N := 14) hx hb ht iX11 hown hK hP 0 rfl rfl 1 (by decide) (ht _ k_119) (fun _ h9 => h9) rfl dX11_feed_1 ?_
  refine lv_sipush (v := 1680) hx hb dX11_feed_4 (by decide) ?_
  refine lv_icmp_le (tgt := 12) hx hb dX11_feed_7 (by decide) (fun _ => ?_) (fun c9 => absurd (by decide) c9)
  refine lv_aload_n hx hb dX11_feed_12 rfl (lv_at hl 0 rfl) ?_
  refine lv_iload_n hx hb dX11_feed_13 rfl (lv_at hl 1 rfl) ?_
  have hFc := va_free (wc := [(x, .inr (11, [.ref (h 0), .int 0, .ref (h 1), .ref (h 2), .int 0, .int (-1), .ref (h 3), .ref (h 4), .ref (h 5), .ref (h 6), .int 0, .ref (h 7), .ref (h 8), .ref (h 9)])), ((h 0), .inl (cy 1, 1700, .inl (fun _ => 0)))]) hD hS hA [0, 1] rfl
  have hPc := hP.sub (ws' := [(x, .inr (11, [.ref (h 0), .int 0, .ref (h 1), .ref (h 2), .int 0, .int (-1), .ref (h 3), .ref (h 4), .ref (h 5), .ref (h 6), .int 0, .ref (h 7), .ref (h 8), .ref (h 9)])), ((h 0), .inl (cy 1, 1700, .inl (fun _ => 0)))]) [0, 1] rfl
  have hDc := hD.sub (ws' := [(x, .inr (11, [.ref (h 0), .int 0, .ref (h 1), .ref (h 2), .int 0, .int (-1), .ref (h 3), .ref (h 4), .ref (h 5), .ref (h 6), .int 0, .ref (h 7), .ref (h 8), .ref (h 9)])), ((h 0), .inl (cy 1, 1700, .inl (fun _ => 0)))]) [0, 1] (by decide) rfl
  refine va_callv (va_runV (As := [.int a1]) (rest := []) ⟨hx, hb, hml, hown, ht⟩ (c_put0 l G cy _ x a1 (h 0) (fun _ => 0) (.ref (h 1)) (.ref (h 2)) (.int 0) (.int (-1)) (.ref (h 3)) (.ref (h 4)) (.ref (h 5)) (.ref (h 6)) (.int 0) (.ref (h 7)) (.ref (h 8)) (.ref (h 9)) ) (cwV 1 ht (gv k_180 k_181 k_182 k_183 k_179) rfl rfl rfl (by decide +kernel) ⟨Nat.le_of_ble_eq_true rfl, Nat.le_of_ble_eq_true rfl⟩) ⟨En.blind, va_recv hK hP (ci := 11) (q0 := 0) rfl rfl, fun U hU hW => ⟨rfl, En.of hU hW hPc hK hDc hN⟩⟩ rfl rfl hl.1 rfl (lv_room (Nat.le_of_ble_eq_true rfl)) dX11_feed_14 ⟨Nat.le_of_ble_eq_true rfl, Nat.le_of_ble_eq_true rfl⟩) hS (fun q _ h => hFc q h) hFc (fun u_1 t H locs ht9 hvm hw hB hz1 hk1 hS => ?_)
  obtain ⟨hP1, hD1⟩ := hB
  rw [ht9] at hP1
  obtain ⟨hP, hD⟩ := fr_put (wc := [(x, .inr (11, [.ref (h 0), .int 0, .ref (h 1), .ref (h 2), .int 0, .int (-1), .ref (h 3), .ref (h 4), .ref (h 5), .ref (h 6), .int 0, .ref (h 7), .ref (h 8), .ref (h 9)])), ((h 0), .inl (cy 1, 1700, .inl (fun _ => 0)))]) (w1 := [(x, .inr (11, [.ref (h 0), .int 4, .ref (h 1), .ref (h 2), .int 0, .int (-1), .ref (h 3), .ref (h 4), .ref (h 5), .ref (h 6), .int 0, .ref (h 7), .ref (h 8), .ref (h 9)])), ((h 0), .inl (cy 1, 1700, .inl (u_1 0)))]) hP hD [0, 1] rfl rfl rfl hk1 hP1
  clear hFc hPc hDc hP1 hD1 hz1 hk1
  refine lv_aload_n hx hb dX11_feed_17 rfl (lv_at hl 0 rfl) ?_
  refine lv_iload_n hx hb dX11_feed_18 rfl (lv_at hl 2 rfl) ?_
  have hFc := va_free (wc := [(x, .inr (11, [.ref (h 0), .int 4, .ref (h 1), .ref (h 2), .int 0, .int (-1), .ref (h 3), .ref (h 4), .ref (h 5), .ref (h 6), .int 0, .ref (h 7), .ref (h 8), .ref (h 9)])), ((h 0), .inl (cy 1, 1700, .inl (u_1 0)))]) hD hS hA [0, 1] rfl
  have hPc := hP.sub (ws' := [(x, .inr (11, [.ref (h 0), .int 4, .ref (h 1), .ref (h 2), .int 0, .int (-1), .ref (h 3), .ref (h 4), .ref (h 5), .ref (h 6), .int 0, .ref (h 7), .ref (h 8), .ref (h 9)])), ((h 0), .inl (cy 1, 1700, .inl (u_1 0)))]) [0, 1] rfl
  have hDc := hD.sub (ws' := [(x, .inr (11, [.ref (h 0), .int 4, .ref (h 1), .ref (h 2), .int 0, .int (-1), .ref (h 3), .ref (h 4), .ref (h 5), .ref (h 6), .int 0, .ref (h 7), .ref (h 8), .ref (h 9)])), ((h 0), .inl (cy 1, 1700, .inl (u_1 0)))]) [0, 1] (by decide) rfl
  refine va_callv (va_runV (As := [.int a2]) (rest := []) ⟨hx, hb, hml, hown, ht⟩ (c_put4 l G cy _ x a2 (h 0) (u_1 0) (.ref (h 1)) (.ref (h 2)) (.int 0) (.int (-1)) (.ref (h 3)) (.ref (h 4)) (.ref (h 5)) (.ref (h 6)) (.int 0) (.ref (h 7)) (.ref (h 8)) (.ref (h 9)) ) (cwV 1 ht (gv k_180 k_181 k_182 k_183 k_179) rfl rfl rfl (by decide +kernel) ⟨Nat.le_of_ble_eq_true rfl, Nat.le_of_ble_eq_true rfl⟩) ⟨En.blind, va_recv hK hP (ci := 11) (q0 := 0) rfl rfl, fun U hU hW => ⟨rfl, En.of hU hW hPc hK hDc hN⟩⟩ rfl rfl hl.1 rfl (lv_room (Nat.le_of_ble_eq_true rfl)) dX11_feed_19 ⟨Nat.le_of_ble_eq_true rfl, Nat.le_of_ble_eq_true rfl⟩) hS (fun q _ h => hFc q h) hFc (fun u_2 t H locs ht9 hvm hw hB hz1 hk1 hS => ?_)
  obtain ⟨hP1, hD1⟩ := hB
  rw [ht9] at hP1
  obtain ⟨hP, hD⟩ := fr_put (wc := [(x, .inr (11, [.ref (h 0), .int 4, .ref (h 1), .ref (h 2), .int 0, .int (-1), .ref (h 3), .ref (h 4), .ref (h 5), .ref (h 6), .int 0, .ref (h 7), .ref (h 8), .ref (h 9)])), ((h 0), .inl (cy 1, 1700, .inl (u_1 0)))]) (w1 := [(x, .inr (11, [.ref (h 0), .int 8, .ref (h 1), .ref (h 2), .int 0, .int (-1), .ref (h 3), .ref (h 4), .ref (h 5), .ref (h 6), .int 0, .ref (h 7), .ref (h 8), .ref (h 9)])), ((h 0), .inl (cy 1, 1700, .inl (u_2 0)))]) hP hD [0, 1] rfl rfl rfl hk1 hP1
  clear hFc hPc hDc hP1 hD1 hz1 hk1
  refine lv_aload_n hx hb dX11_feed_22 rfl (lv_at hl 0 rfl) ?_
  refine lv_iload_n hx hb dX11_feed_23 rfl (lv_at hl 3 rfl) ?_
  have hFc := va_free (wc := [(x, .inr (11, [.ref (h 0), .int 8, .ref (h 1), .ref (h 2), .int 0, .int (-1), .ref (h 3), .ref (h 4), .ref (h 5), .ref (h 6), .int 0, .ref (h 7), .ref (h 8), .ref (h 9)])), ((h 0), .inl (cy 1, 1700, .inl (u_2 0)))]) hD hS hA [0, 1] rfl
  have hPc := hP.sub (ws' := [(x, .inr (11, [.ref (h 0), .int 8, .ref (h 1), .ref (h 2), .int 0, .int (-1), .ref (h 3), .ref (h 4), .ref (h 5), .ref (h 6), .int 0, .ref (h 7), .ref (h 8), .ref (h 9)])), ((h 0), .inl (cy 1, 1700, .inl (u_2 0)))]) [0, 1] rfl
  have hDc := hD.sub (ws' := [(x, .inr (11, [.ref (h 0), .int 8, .ref (h 1), .ref (h 2), .int 0, .int (-1), .ref (h 3), .ref (h 4), .ref (h 5), .ref (h 6), .int 0, .ref (h 7), .ref (h 8), .ref (h 9)])), ((h 0), .inl (cy 1, 1700, .inl (u_2 0)))]) [0, 1] (by decide) rfl
  refine va_callv (va_runV (As := [.int a3]) (rest := []) ⟨hx, hb, hml, hown, ht⟩ (c_put8 l G cy _ x a3 (h 0) (u_2 0) (.ref (h 1)) (.ref (h 2)) (.int 0) (.int (-1)) (.ref (h 3)) (.ref (h 4)) (.ref (h 5)) (.ref (h 6)) (.int 0) (.ref (h 7)) (.ref (h 8)) (.ref (h 9)) ) (cwV 1 ht (gv k_180 k_181 k_182 k_183 k_179) rfl rfl rfl (by decide +kernel) ⟨Nat.le_of_ble_eq_true rfl, Nat.le_of_ble_eq_true rfl⟩) ⟨En.blind, va_recv hK hP (ci := 11) (q0 := 0) rfl rfl, fun U hU hW => ⟨rfl, En.of hU hW hPc hK hDc hN⟩⟩ rfl rfl hl.1 rfl (lv_room (Nat.le_of_ble_eq_true rfl)) dX11_feed_24 ⟨Nat.le_of_ble_eq_true rfl, Nat.le_of_ble_eq_true rfl⟩) hS (fun q _ h => hFc q h) hFc (fun u_3 t H locs ht9 hvm hw hB hz1 hk1 hS => ?_)
  obtain ⟨hP1, hD1⟩ := hB
  rw [ht9] at hP1
  obtain ⟨hP, hD⟩ := fr_put (wc := [(x, .inr (11, [.ref (h 0), .int 8, .ref (h 1), .ref (h 2), .int 0, .int (-1), .ref (h 3), .ref (h 4), .ref (h 5), .ref (h 6), .int 0, .ref (h 7), .ref (h 8), .ref (h 9)])), ((h 0), .inl (cy 1, 1700, .inl (u_2 0)))]) (w1 := [(x, .inr (11, [.ref (h 0), .int 12, .ref (h 1), .ref (h 2), .int 0, .int (-1), .ref (h 3), .ref (h 4), .ref (h 5), .ref (h 6), .int 0, .ref (h 7), .ref (h 8), .ref (h 9)])), ((h 0), .inl (cy 1, 1700, .inl (u_3 0)))]) hP hD [0, 1] rfl rfl rfl hk1 hP1
  clear hFc hPc hDc hP1 hD1 hz1 hk1
  refine lv_aload_n hx hb dX11_feed_27 rfl (lv_at hl 0 rfl) ?_
  refine lv_iload hx hb dX11_feed_28 (lv_at hl 4 rfl) ?_
  have hFc := va_free (wc := [(x, .inr (11, [.ref (h 0), .int 12, .ref (h 1), .ref (h 2), .int 0, .int (-1), .ref (h 3), .ref (h 4), .ref (h 5), .ref (h 6), .int 0, .ref (h 7), .ref (h 8), .ref (h 9)])), ((h 0), .inl (cy 1, 1700, .inl (u_3 0)))]) hD hS hA [0, 1] rfl
  have hPc := hP.sub (ws' := [(x, .inr (11, [.ref (h 0), .int 12, .ref (h 1), .ref (h 2), .int 0, .int (-1), .ref (h 3), .ref (h 4), .ref (h 5), .ref (h 6), .int 0, .ref (h 7), .ref (h 8), .ref (h 9)])), ((h 0), .inl (cy 1, 1700, .inl (u_3 0)))]) [0, 1] rfl
  have hDc := hD.sub (ws' := [(x, .inr (11, [.ref (h 0), .int 12, .ref (h 1), .ref (h 2), .int 0, .int (-1), .ref (h 3), .ref (h 4), .ref (h 5), .ref (h 6), .int 0, .ref (h 7), .ref (h 8), .ref (h 9)])), ((h 0), .inl (cy 1, 1700, .inl (u_3 0)))]) [0, 1] (by decide) rfl
  refine va_callv (va_runV (As := [.int a4]) (rest := []) ⟨hx, hb, hml, hown, ht⟩ (c_put12 l G cy _ x a4 (h 0) (u_3 0) (.ref (h 1)) (.ref (h 2)) (.int 0) (.int (-1)) (.ref (h 3)) (.ref (h 4)) (.ref (h 5)) (.ref (h 6)) (.int 0) (.ref (h 7)) (.ref (h 8)) (.ref (h 9)) ) (cwV 1 ht (gv k_180 k_181 k_182 k_183 k_179) rfl rfl rfl (by decide +kernel) ⟨Nat.le_of_ble_eq_true rfl, Nat.le_of_ble_eq_true rfl⟩) ⟨En.blind, va_recv hK hP (ci := 11) (q0 := 0) rfl rfl, fun U hU hW => ⟨rfl, En.of hU hW hPc hK hDc hN⟩⟩ rfl rfl hl.1 rfl (lv_room (Nat.le_of_ble_eq_true rfl)) dX11_feed_30 ⟨Nat.le_of_ble_eq_true rfl, Nat.le_of_ble_eq_true rfl⟩) hS (fun q _ h => hFc q h) hFc (fun u_4 t H locs ht9 hvm hw hB hz1 hk1 hS => ?_)
  obtain ⟨hP1, hD1⟩ := hB
  rw [ht9] at hP1
  obtain ⟨hP, hD⟩ := fr_put (wc := [(x, .inr (11, [.ref (h 0), .int 12, .ref (h 1), .ref (h 2), .int 0, .int (-1), .ref (h 3), .ref (h 4), .ref (h 5), .ref (h 6), .int 0, .ref (h 7), .ref (h 8), .ref (h 9)])), ((h 0), .inl (cy 1, 1700, .inl (u_3 0)))]) (w1 := [(x, .inr (11, [.ref (h 0), .int 16, .ref (h 1), .ref (h 2), .int 0, .int (-1), .ref (h 3), .ref (h 4), .ref (h 5), .ref (h 6), .int 0, .ref (h 7), .ref (h 8), .ref (h 9)])), ((h 0), .inl (cy 1, 1700, .inl (u_4 0)))]) hP hD [0, 1] rfl rfl rfl hk1 hP1
  clear hFc hPc hDc hP1 hD1 hz1 hk1
  refine lv_aload_n hx hb dX11_feed_33 rfl (lv_at hl 0 rfl) ?_
  refine lv_iload hx hb dX11_feed_34 (lv_at hl 5 rfl) ?_
  have hFc := va_free (wc := [(x, .inr (11, [.ref (h 0), .int 16, .ref (h 1), .ref (h 2), .int 0, .int (-1), .ref (h 3), .ref (h 4), .ref (h 5), .ref (h 6), .int 0, .ref (h 7), .ref (h 8), .ref (h 9)])), ((h 0), .inl (cy 1, 1700, .inl (u_4 0)))]) hD hS hA [0, 1] rfl
  have hPc := hP.sub (ws' := [(x, .inr (11, [.ref (h 0), .int 16, .ref (h 1), .ref (h 2), .int 0, .int (-1), .ref (h 3), .ref (h 4), .ref (h 5), .ref (h 6), .int 0, .ref (h 7), .ref (h 8), .ref (h 9)])), ((h 0), .inl (cy 1, 1700, .inl (u_4 0)))]) [0, 1] rfl
  have hDc := hD.sub (ws' := [(x, .inr (11, [.ref (h 0), .int 16, .ref (h 1), .ref (h 2), .int 0, .int (-1), .ref (h 3), .ref (h 4), .ref (h 5), .ref (h 6), .int 0, .ref (h 7), .ref (h 8), .ref (h 9)])), ((h 0), .inl (cy 1, 1700, .inl (u_4 0)))]) [0, 1] (by decide) rfl
  refine va_callv (va_runV (As := [.int a5]) (rest := []) ⟨hx, hb, hml, hown, ht⟩ (c_put16 l G cy _ x a5 (h 0) (u_4 0) (.ref (h 1)) (.ref (h 2)) (.int 0) (.int (-1)) (.ref (h 3)) (.ref (h 4)) (.ref (h 5)) (.ref (h 6)) (.int 0) (.ref (h 7)) (.ref (h 8)) (.ref (h 9)) ) (cwV 1 ht (gv k_180 k_181 k_182 k_183 k_179) rfl rfl rfl (by decide +kernel) ⟨Nat.le_of_ble_eq_true rfl, Nat.le_of_ble_eq_true rfl⟩) ⟨En.blind, va_recv hK hP (ci := 11) (q0 := 0) rfl rfl, fun U hU hW => ⟨rfl, En.of hU hW hPc hK hDc hN⟩⟩ rfl rfl hl.1 rfl (lv_room (Nat.le_of_ble_eq_true rfl)) dX11_feed_36 ⟨Nat.le_of_ble_eq_true rfl, Nat.le_of_ble_eq_true rfl⟩) hS (fun q _ h => hFc q h) hFc (fun u_5 t H locs ht9 hvm hw hB hz1 hk1 hS => ?_)
  obtain ⟨hP1, hD1⟩ := hB
  rw [ht9] at hP1
  obtain ⟨hP, hD⟩ := fr_put (wc := [(x, .inr (11, [.ref (h 0), .int 16, .ref (h 1), .ref (h 2), .int 0, .int (-1), .ref (h 3), .ref (h 4), .ref (h 5), .ref (h 6), .int 0, .ref (h 7), .ref (h 8), .ref (h 9)])), ((h 0), .inl (cy 1, 1700, .inl (u_4 0)))]) (w1 := [(x, .inr (11, [.ref (h 0), .int 20, .ref (h 1), .ref (h 2), .int 0, .int (-1), .ref (h 3), .ref (h 4), .ref (h 5), .ref (h 6), .int 0, .ref (h 7), .ref (h 8), .ref (h 9)])), ((h 0), .inl (cy 1, 1700, .inl (u_5 0)))]) hP hD [0, 1] rfl rfl rfl hk1 hP1
  clear hFc hPc hDc hP1 hD1 hz1 hk1
  refine lv_aload_n hx hb dX11_feed_39 rfl (lv_at hl 0 rfl) ?_
  refine va_get (ci := 11) (v := .int 20) (C := RX11) (T := TX11) (N := 14) hx hb ht iX11 hown hK hP 0 rfl rfl 1 (by decide) (ht _ k_119) (fun _ h9 => h9) rfl dX11_feed_40 ?_
  refine W.widen (k := 0) (n := 0) (Nat.le_of_ble_eq_true rfl) (Nat.le_of_ble_eq_true rfl) ?_
  exact W.iret (v := 20) hx hb hr (fun t ht9 hW => ⟨⟨20, (), rfl, ⟨rfl, trivial⟩, trivial⟩, hS.F ht9⟩) hS.2.2 dX11_feed_43
set_option maxHeartbeats 4000000 in
set_option maxRecDepth 100000 in
theorem x_end (l : Launch) (G : va_G) (cy : Nat → ClassId) (sz : Nat) (x : Nat) (h : Nat → Nat) (n : Int32)  : Met l yX11_end (.code yX11_end cX11_end 2 (some .int) :: TBg) ({ frames := 1, cells := 0, slots := 0, locals := 64 }) (va_Pc [.ref x, .int n] (En G cy (WX cy x h) sz)) (va_Qi (fun (r : Int32) (_ : Unit) => r = (sp_zero n) ∧ True) (fun _ _ => True) (va_A (WX cy x h) sz)) 0 0 (va_A (WX cy x h) sz) := by
  refine Met.ofW (cc := cX11_end) (maxL := 2) (ret := (some .int)) (by decide) rfl ?_
  intro p e s m args below meth c s₁ B hml hv
  obtain ⟨rfl, hsz, hP, hK, hD0, hN⟩ := hv
  have hx := B.exec
  have hb := B.bytes
  have hr := B.returns
  have hts := atoms_spec (ws := .code yX11_end cX11_end 2 (some .int) :: TBg) B.pre
  have ht : ∀ w ∈ TBg, w.before _ s = true := fun w h => hts w (List.mem_cons_of_mem _ h)
  have hown : s.vm.findClass RX11 = some m.cls := findClass_of_methodNamed B.named
  have hlocks := B.notSynchronized
  subst hsz
  have hD := hD0.self (sz := s.heap.size)
  generalize hAe : va_A (WX cy x h) s.heap.size = A at hD ⊢
  have hA : ∀ q : Nat, s.heap.size ≤ q → A q := fun q h => by rw [← hAe]; exact Or.inr h
  have hS : va_S A s.heap s.heap [] := va_S.rf
  have hl := lv_entry ([.ref x, .int n]) (n := 2) (Nat.le_of_ble_eq_true rfl)
  rw [lg_entry_eq]
  generalize (lg_sl ([.ref x, .int n]) ++ List.replicate (2 - (lg_sl ([.ref x, .int n])).length) Slot.unset).toArray = ls at hl ⊢
  rcases ow_cut n 1 (by decide) with ⟨j, hj, hj2⟩ | hout
  · have hj3 : j = 0 := by omega
    rcases hj3 with rfl
    · obtain rfl : n = 0 := hj2
      have hl : lv_has ls 2 [(0, .ref x), (1, .int 0)] := hl
      refine lv_iload_n hx hb dX11_end_0 rfl (lv_at hl 1 rfl) ?_
      refine lv_if_lt (tgt := 12) hx hb dX11_end_1 (by decide) (fun c9 => absurd c9 (by decide)) (fun _ => ?_)
      refine lv_iload_n hx hb dX11_end_4 rfl (lv_at hl 1 rfl) ?_
      refine lv_aload_n hx hb dX11_end_5 rfl (lv_at hl 0 rfl) ?_
      refine va_get (ci := 11) (v := .int 0) (C := RX11) (T := TX11) (N := 14) hx hb ht iX11 hown hK hP 0 rfl rfl 1 (by decide) (ht _ k_119) (fun _ h9 => h9) rfl dX11_end_6 ?_
      refine lv_icmp_le (tgt := 14) hx hb dX11_end_9 (by decide) (fun _ => ?_) (fun c9 => absurd (by decide) c9)
      refine lv_aload_n hx hb dX11_end_14 rfl (lv_at hl 0 rfl) ?_
      refine lv_iload_n hx hb dX11_end_15 rfl (lv_at hl 1 rfl) ?_
      refine va_put (ci := 11) (v := .int 0) (ty := .int) (C := RX11) (T := TX11) (N := 14) hx hb ht iX11 tyX11 tyX11_ok nmX11 hown hK hP hD hS 0 rfl rfl 1 (by decide) (ht _ k_119) (fun _ h9 => h9) rfl (by decide +kernel) rfl rfl (Nat.le_of_ble_eq_true rfl) dX11_end_16 (fun H locs hP hD hS => ?_)
      refine lv_iload_n hx hb dX11_end_19 rfl (lv_at hl 1 rfl) ?_
      refine W.widen (k := 0) (n := 0) (Nat.le_of_ble_eq_true rfl) (Nat.le_of_ble_eq_true rfl) ?_
      exact W.iret (v := 0) hx hb hr (fun t ht9 hW => ⟨⟨0, (), rfl, ⟨(by decide +kernel), trivial⟩, trivial⟩, hS.F ht9⟩) hS.2.2 dX11_end_20
  · skip
    have hl : lv_has ls 2 [(0, .ref x), (1, .int n)] := hl
    refine lv_iload_n hx hb dX11_end_0 rfl (lv_at hl 1 rfl) ?_
    refine lv_if_lt (tgt := 12) hx hb dX11_end_1 (by decide) (fun c_1 => ?_) (fun c_1 => ?_)
    · skip
      refine lv_iconst (v := (-1)) hx hb dX11_end_12 (by decide) ?_
      refine W.widen (k := 0) (n := 0) (Nat.le_of_ble_eq_true rfl) (Nat.le_of_ble_eq_true rfl) ?_
      exact W.iret (v := (-1)) hx hb hr (fun t ht9 hW => ⟨⟨(-1), (), rfl, ⟨(by unfold sp_zero; have z0 : (0 : Int32).toInt = 0 := (by decide); split <;> first | rfl | (exfalso; rename_i hc9; (try simp only [ow_lt, ow_le, ow_eq, true_and, and_true] at hc9 hout c_1); omega)), trivial⟩, trivial⟩, hS.F ht9⟩) hS.2.2 dX11_end_13
    · skip
      refine lv_iload_n hx hb dX11_end_4 rfl (lv_at hl 1 rfl) ?_
      refine lv_aload_n hx hb dX11_end_5 rfl (lv_at hl 0 rfl) ?_
      refine va_get (ci := 11) (v := .int 0) (C := RX11) (T := TX11) (N := 14) hx hb ht iX11 hown hK hP 0 rfl rfl 1 (by decide) (ht _ k_119) (fun _ h9 => h9) rfl dX11_end_6 ?_
      refine lv_icmp_le (tgt := 14) hx hb dX11_end_9 (by decide) (fun c_2 => ?_) (fun c_2 => ?_)
      · exfalso
        have z0 : (0 : Int32).toInt = 0 := (by decide); (try simp only [ow_lt, ow_le, ow_eq, true_and, and_true] at hout c_1 c_2); omega
      · skip
        refine lv_iconst (v := (-1)) hx hb dX11_end_12 (by decide) ?_
        refine W.widen (k := 0) (n := 0) (Nat.le_of_ble_eq_true rfl) (Nat.le_of_ble_eq_true rfl) ?_
        exact W.iret (v := (-1)) hx hb hr (fun t ht9 hW => ⟨⟨(-1), (), rfl, ⟨(by unfold sp_zero; have z0 : (0 : Int32).toInt = 0 := (by decide); split <;> first | rfl | (exfalso; rename_i hc9; (try simp only [ow_lt, ow_le, ow_eq, true_and, and_true] at hc9 hout c_1 c_2); omega)), trivial⟩, trivial⟩, hS.F ht9⟩) hS.2.2 dX11_end_13
set_option maxHeartbeats 4000000 in
set_option maxRecDepth 100000 in
theorem x_fault (l : Launch) (G : va_G) (cy : Nat → ClassId) (sz : Nat) (x : Nat) (h : Nat → Nat) (n : Int32)  : Met l yX11_fault (.code yX11_fault cX11_fault 2 (some .int) :: TBg) ({ frames := 1, cells := 0, slots := 0, locals := 64 }) (va_Pc [.ref x, .int n] (En G cy (WX cy x h) sz)) (va_Qi (fun (r : Int32) (_ : Unit) => r = (sp_zero n) ∧ True) (fun _ _ => True) (va_A (WX cy x h) sz)) 0 0 (va_A (WX cy x h) sz) := by
  refine Met.ofW (cc := cX11_fault) (maxL := 2) (ret := (some .int)) (by decide) rfl ?_
  intro p e s m args below meth c s₁ B hml hv
  obtain ⟨rfl, hsz, hP, hK, hD0, hN⟩ := hv
  have hx := B.exec
  have hb := B.bytes
  have hr := B.returns
  have hts := atoms_spec (ws := .code yX11_fault cX11_fault 2 (some .int) :: TBg) B.pre
  have ht : ∀ w ∈ TBg, w.before _ s = true := fun w h => hts w (List.mem_cons_of_mem _ h)
  have hown : s.vm.findClass RX11 = some m.cls := findClass_of_methodNamed B.named
  have hlocks := B.notSynchronized
  subst hsz
  have hD := hD0.self (sz := s.heap.size)
  generalize hAe : va_A (WX cy x h) s.heap.size = A at hD ⊢
  have hA : ∀ q : Nat, s.heap.size ≤ q → A q := fun q h => by rw [← hAe]; exact Or.inr h
  have hS : va_S A s.heap s.heap [] := va_S.rf
  have hl := lv_entry ([.ref x, .int n]) (n := 2) (Nat.le_of_ble_eq_true rfl)
  rw [lg_entry_eq]
  generalize (lg_sl ([.ref x, .int n]) ++ List.replicate (2 - (lg_sl ([.ref x, .int n])).length) Slot.unset).toArray = ls at hl ⊢
  rcases ow_cut n 2 (by decide) with ⟨j, hj, hj2⟩ | hout
  · have hj3 : j = 0 ∨ j = 1 := by omega
    rcases hj3 with rfl | rfl
    · obtain rfl : n = 0 := hj2
      have hl : lv_has ls 2 [(0, .ref x), (1, .int 0)] := hl
      refine lv_iload_n hx hb dX11_fault_0 rfl (lv_at hl 1 rfl) ?_
      refine lv_if_ne (tgt := 9) hx hb dX11_fault_1 (by decide) (fun c9 => absurd (by decide) c9) (fun _ => ?_)
      refine lv_aload_n hx hb dX11_fault_4 rfl (lv_at hl 0 rfl) ?_
      refine va_get (ci := 11) (v := .int 0) (C := RX11) (T := TX11) (N := 14) hx hb ht iX11 hown hK hP 0 rfl rfl 4 (by decide) (ht _ k_184) (fun _ h9 => h9) rfl dX11_fault_5 ?_
      refine W.widen (k := 0) (n := 0) (Nat.le_of_ble_eq_true rfl) (Nat.le_of_ble_eq_true rfl) ?_
      exact W.iret (v := 0) hx hb hr (fun t ht9 hW => ⟨⟨0, (), rfl, ⟨(by decide +kernel), trivial⟩, trivial⟩, hS.F ht9⟩) hS.2.2 dX11_fault_8
    · obtain rfl : n = 1 := hj2
      have hl : lv_has ls 2 [(0, .ref x), (1, .int 1)] := hl
      refine lv_iload_n hx hb dX11_fault_0 rfl (lv_at hl 1 rfl) ?_
      refine lv_if_ne (tgt := 9) hx hb dX11_fault_1 (by decide) (fun _ => ?_) (fun c9 => absurd c9 (by decide))
      refine lv_iload_n hx hb dX11_fault_9 rfl (lv_at hl 1 rfl) ?_
      refine lv_iconst (v := 1) hx hb dX11_fault_10 (by decide) ?_
      refine lv_icmp_ne (tgt := 21) hx hb dX11_fault_11 (by decide) (fun c9 => absurd (by decide) c9) (fun _ => ?_)
      refine lv_aload_n hx hb dX11_fault_14 rfl (lv_at hl 0 rfl) ?_
      refine va_get (ci := 11) (v := .int (-1)) (C := RX11) (T := TX11) (N := 14) hx hb ht iX11 hown hK hP 0 rfl rfl 5 (by decide) (ht _ k_84) (fun _ h9 => h9) rfl dX11_fault_15 ?_
      refine lv_goto (tgt := 22) hx hb dX11_fault_18 (by decide) ?_
      refine W.widen (k := 0) (n := 0) (Nat.le_of_ble_eq_true rfl) (Nat.le_of_ble_eq_true rfl) ?_
      exact W.iret (v := (-1)) hx hb hr (fun t ht9 hW => ⟨⟨(-1), (), rfl, ⟨(by decide +kernel), trivial⟩, trivial⟩, hS.F ht9⟩) hS.2.2 dX11_fault_22
  · skip
    have hl : lv_has ls 2 [(0, .ref x), (1, .int n)] := hl
    refine lv_iload_n hx hb dX11_fault_0 rfl (lv_at hl 1 rfl) ?_
    refine lv_if_ne (tgt := 9) hx hb dX11_fault_1 (by decide) (fun c_1 => ?_) (fun c_1 => ?_)
    · skip
      refine lv_iload_n hx hb dX11_fault_9 rfl (lv_at hl 1 rfl) ?_
      refine lv_iconst (v := 1) hx hb dX11_fault_10 (by decide) ?_
      refine lv_icmp_ne (tgt := 21) hx hb dX11_fault_11 (by decide) (fun c_2 => ?_) (fun c_2 => ?_)
      · skip
        refine lv_iconst (v := (-1)) hx hb dX11_fault_21 (by decide) ?_
        refine W.widen (k := 0) (n := 0) (Nat.le_of_ble_eq_true rfl) (Nat.le_of_ble_eq_true rfl) ?_
        exact W.iret (v := (-1)) hx hb hr (fun t ht9 hW => ⟨⟨(-1), (), rfl, ⟨(by unfold sp_zero; have z0 : (0 : Int32).toInt = 0 := (by decide); have z1 : (1 : Int32).toInt = 1 := (by decide); split <;> first | rfl | (exfalso; rename_i hc9; (try simp only [ow_lt, ow_le, ow_eq, true_and, and_true] at hc9 hout c_1 c_2); omega)), trivial⟩, trivial⟩, hS.F ht9⟩) hS.2.2 dX11_fault_22
      · exfalso
        have z0 : (0 : Int32).toInt = 0 := (by decide); have z1 : (1 : Int32).toInt = 1 := (by decide); (try simp only [ow_lt, ow_le, ow_eq, true_and, and_true] at hout c_1 c_2); omega
    · exfalso
      have z0 : (0 : Int32).toInt = 0 := (by decide); (try simp only [ow_lt, ow_le, ow_eq, true_and, and_true] at hout c_1); omega
set_option maxHeartbeats 4000000 in
set_option maxRecDepth 100000 in
theorem x_notes (l : Launch) (G : va_G) (cy : Nat → ClassId) (sz : Nat) (x : Nat) (h : Nat → Nat) (n : Int32)  : Met l yX11_notes (.code yX11_notes cX11_notes 2 (some .int) :: TBg) ({ frames := 2, cells := 0, slots := 0, locals := 128 }) (va_Pc [.ref x, .int n] (En G cy (WX cy x h) sz)) (va_Qi (fun (r : Int32) (_ : Unit) => r = (-1) ∧ True) (fun _ _ => True) (va_A (WX cy x h) sz)) 0 0 (va_A (WX cy x h) sz) := by
  refine Met.ofW (cc := cX11_notes) (maxL := 2) (ret := (some .int)) (by decide) rfl ?_
  intro p e s m args below meth c s₁ B hml hv
  obtain ⟨rfl, hsz, hP, hK, hD0, hN⟩ := hv
  have hx := B.exec
  have hb := B.bytes
  have hr := B.returns
  have hts := atoms_spec (ws := .code yX11_notes cX11_notes 2 (some .int) :: TBg) B.pre
  have ht : ∀ w ∈ TBg, w.before _ s = true := fun w h => hts w (List.mem_cons_of_mem _ h)
  have hown : s.vm.findClass RX11 = some m.cls := findClass_of_methodNamed B.named
  have hlocks := B.notSynchronized
  subst hsz
  have hD := hD0.self (sz := s.heap.size)
  generalize hAe : va_A (WX cy x h) s.heap.size = A at hD ⊢
  have hA : ∀ q : Nat, s.heap.size ≤ q → A q := fun q h => by rw [← hAe]; exact Or.inr h
  have hS : va_S A s.heap s.heap [] := va_S.rf
  have hl := lv_entry ([.ref x, .int n]) (n := 2) (Nat.le_of_ble_eq_true rfl)
  rw [lg_entry_eq]
  generalize (lg_sl ([.ref x, .int n]) ++ List.replicate (2 - (lg_sl ([.ref x, .int n])).length) Slot.unset).toArray = ls at hl ⊢
  have hl : lv_has ls 2 [(0, .ref x), (1, .int n)] := hl
  refine lv_aload_n hx hb dX11_notes_0 rfl (lv_at hl 0 rfl) ?_
  refine va_get (ci := 11) (v := .ref (h 1)) (C := RX11) (T := TX11) (N := 14) hx hb ht iX11 hown hK hP 0 rfl rfl 2 (by decide) (ht _ k_82) (fun _ h9 => h9) rfl dX11_notes_1 ?_
  refine lv_iload_n hx hb dX11_notes_4 rfl (lv_at hl 1 rfl) ?_
  have hFc := fr_new hS hA
  have hPc := hP.sub (ws' := [((h 1), .inr (9, [.ref (h 10), .ref (h 11), .ref (h 12), .int 0, .ref (h 13), .int 0, .ref (h 14), .int 0, .ref (h 15)]))]) [2] rfl
  have hDc := hD.sub (ws' := [((h 1), .inr (9, [.ref (h 10), .ref (h 11), .ref (h 12), .int 0, .ref (h 13), .int 0, .ref (h 14), .int 0, .ref (h 15)]))]) [2] (by decide) rfl
  refine va_calli (va_runV (As := [.int n]) (rest := []) ⟨hx, hb, hml, hown, ht⟩ (c_hasTune l G cy _ (h 1) n (.ref (h 10)) (.ref (h 11)) (.ref (h 12)) (.ref (h 13)) (.int 0) (.ref (h 14)) (.int 0) (.ref (h 15)) ) (cwV 1 ht (gv k_186 k_187 k_188 k_78 k_185) rfl rfl rfl (by decide +kernel) ⟨Nat.le_of_ble_eq_true rfl, Nat.le_of_ble_eq_true rfl⟩) ⟨En.blind, va_recv hK hP (ci := 9) (q0 := 2) rfl rfl, fun U hU hW => ⟨rfl, En.of hU hW hPc hK hDc hN⟩⟩ rfl rfl hl.1 rfl (lv_room (Nat.le_of_ble_eq_true rfl)) dX11_notes_5 ⟨Nat.le_of_ble_eq_true rfl, Nat.le_of_ble_eq_true rfl⟩) hS (fun q _ h => hFc q h) hFc (fun r_2 u_1 t H locs ht9 hvm hw hB hz1 hk1 hS => ?_)
  have hP := fr_keep hP hk1
  obtain rfl : r_2 = 0 := hw.1
  refine lv_if_eq (tgt := 26) hx hb dX11_notes_8 (by decide) (fun _ => ?_) (fun c9 => absurd (by decide) c9)
  refine lv_iconst (v := (-1)) hx hb dX11_notes_26 (by decide) ?_
  refine W.widen (k := 0) (n := 0) (Nat.le_of_ble_eq_true rfl) (Nat.le_of_ble_eq_true rfl) ?_
  exact W.iret (v := (-1)) hx hb hr (fun t ht9 hW => ⟨⟨(-1), (), rfl, ⟨rfl, trivial⟩, trivial⟩, hS.F ht9⟩) hS.2.2 dX11_notes_27
set_option maxHeartbeats 4000000 in
set_option maxRecDepth 100000 in
theorem x_step (l : Launch) (G : va_G) (cy : Nat → ClassId) (sz : Nat) (x : Nat) (h : Nat → Nat) (n : Int32) (n2 : Int32)  : Met l yX11_step (.code yX11_step cX11_step 3 (some .int) :: TBg) ({ frames := 2, cells := 0, slots := 0, locals := 128 }) (va_Pc [.ref x, .int n, .int n2] (En G cy (WX cy x h) sz)) (va_Qi (fun (r : Int32) (_ : Unit) => r = (-1000000) ∧ True) (fun _ _ => True) (va_A (WX cy x h) sz)) 0 0 (va_A (WX cy x h) sz) := by
  refine Met.ofW (cc := cX11_step) (maxL := 3) (ret := (some .int)) (by decide) rfl ?_
  intro p e s m args below meth c s₁ B hml hv
  obtain ⟨rfl, hsz, hP, hK, hD0, hN⟩ := hv
  have hx := B.exec
  have hb := B.bytes
  have hr := B.returns
  have hts := atoms_spec (ws := .code yX11_step cX11_step 3 (some .int) :: TBg) B.pre
  have ht : ∀ w ∈ TBg, w.before _ s = true := fun w h => hts w (List.mem_cons_of_mem _ h)
  have hown : s.vm.findClass RX11 = some m.cls := findClass_of_methodNamed B.named
  have hlocks := B.notSynchronized
  subst hsz
  have hD := hD0.self (sz := s.heap.size)
  generalize hAe : va_A (WX cy x h) s.heap.size = A at hD ⊢
  have hA : ∀ q : Nat, s.heap.size ≤ q → A q := fun q h => by rw [← hAe]; exact Or.inr h
  have hS : va_S A s.heap s.heap [] := va_S.rf
  have hl := lv_entry ([.ref x, .int n, .int n2]) (n := 3) (Nat.le_of_ble_eq_true rfl)
  rw [lg_entry_eq]
  generalize (lg_sl ([.ref x, .int n, .int n2]) ++ List.replicate (3 - (lg_sl ([.ref x, .int n, .int n2])).length) Slot.unset).toArray = ls at hl ⊢
  have hl : lv_has ls 3 [(0, .ref x), (1, .int n), (2, .int n2)] := hl
  refine lv_aload_n hx hb dX11_step_0 rfl (lv_at hl 0 rfl) ?_
  refine va_get (ci := 11) (v := .ref (h 1)) (C := RX11) (T := TX11) (N := 14) hx hb ht iX11 hown hK hP 0 rfl rfl 2 (by decide) (ht _ k_82) (fun _ h9 => h9) rfl dX11_step_1 ?_
  refine lv_iload_n hx hb dX11_step_4 rfl (lv_at hl 1 rfl) ?_
  have hFc := fr_new hS hA
  have hPc := hP.sub (ws' := [((h 1), .inr (9, [.ref (h 10), .ref (h 11), .ref (h 12), .int 0, .ref (h 13), .int 0, .ref (h 14), .int 0, .ref (h 15)]))]) [2] rfl
  have hDc := hD.sub (ws' := [((h 1), .inr (9, [.ref (h 10), .ref (h 11), .ref (h 12), .int 0, .ref (h 13), .int 0, .ref (h 14), .int 0, .ref (h 15)]))]) [2] (by decide) rfl
  refine va_calli (va_runV (As := [.int n]) (rest := []) ⟨hx, hb, hml, hown, ht⟩ (c_hasTune l G cy _ (h 1) n (.ref (h 10)) (.ref (h 11)) (.ref (h 12)) (.ref (h 13)) (.int 0) (.ref (h 14)) (.int 0) (.ref (h 15)) ) (cwV 1 ht (gv k_186 k_187 k_188 k_78 k_185) rfl rfl rfl (by decide +kernel) ⟨Nat.le_of_ble_eq_true rfl, Nat.le_of_ble_eq_true rfl⟩) ⟨En.blind, va_recv hK hP (ci := 9) (q0 := 2) rfl rfl, fun U hU hW => ⟨rfl, En.of hU hW hPc hK hDc hN⟩⟩ rfl rfl hl.1 rfl (lv_room (Nat.le_of_ble_eq_true rfl)) dX11_step_5 ⟨Nat.le_of_ble_eq_true rfl, Nat.le_of_ble_eq_true rfl⟩) hS (fun q _ h => hFc q h) hFc (fun r_2 u_1 t H locs ht9 hvm hw hB hz1 hk1 hS => ?_)
  have hP := fr_keep hP hk1
  obtain rfl : r_2 = 0 := hw.1
  refine lv_if_eq (tgt := 33) hx hb dX11_step_8 (by decide) (fun _ => ?_) (fun c9 => absurd (by decide) c9)
  refine lv_ldc (v := (-1000000)) hx hb hown (ht _ k_189) dX11_step_33 ?_
  refine W.widen (k := 0) (n := 0) (Nat.le_of_ble_eq_true rfl) (Nat.le_of_ble_eq_true rfl) ?_
  exact W.iret (v := (-1000000)) hx hb hr (fun t ht9 hW => ⟨⟨(-1000000), (), rfl, ⟨rfl, trivial⟩, trivial⟩, hS.F ht9⟩) hS.2.2 dX11_step_35
set_option maxHeartbeats 4000000 in
set_option maxRecDepth 100000 in
theorem x_off (l : Launch) (G : va_G) (cy : Nat → ClassId) (sz : Nat) (x : Nat) (h : Nat → Nat) (n : Int32) (n2 : Int32) (n3 : Int32)  : Met l yX11_off (.code yX11_off cX11_off 4 (some .int) :: TBg) ({ frames := 2, cells := 0, slots := 0, locals := 128 }) (va_Pc [.ref x, .int n, .int n2, .int n3] (En G cy (WX cy x h) sz)) (va_Qi (fun (r : Int32) (_ : Unit) => r = (-1) ∧ True) (fun _ _ => True) (va_A (WX cy x h) sz)) 0 0 (va_A (WX cy x h) sz) := by
  refine Met.ofW (cc := cX11_off) (maxL := 4) (ret := (some .int)) (by decide) rfl ?_
  intro p e s m args below meth c s₁ B hml hv
  obtain ⟨rfl, hsz, hP, hK, hD0, hN⟩ := hv
  have hx := B.exec
  have hb := B.bytes
  have hr := B.returns
  have hts := atoms_spec (ws := .code yX11_off cX11_off 4 (some .int) :: TBg) B.pre
  have ht : ∀ w ∈ TBg, w.before _ s = true := fun w h => hts w (List.mem_cons_of_mem _ h)
  have hown : s.vm.findClass RX11 = some m.cls := findClass_of_methodNamed B.named
  have hlocks := B.notSynchronized
  subst hsz
  have hD := hD0.self (sz := s.heap.size)
  generalize hAe : va_A (WX cy x h) s.heap.size = A at hD ⊢
  have hA : ∀ q : Nat, s.heap.size ≤ q → A q := fun q h => by rw [← hAe]; exact Or.inr h
  have hS : va_S A s.heap s.heap [] := va_S.rf
  have hl := lv_entry ([.ref x, .int n, .int n2, .int n3]) (n := 4) (Nat.le_of_ble_eq_true rfl)
  rw [lg_entry_eq]
  generalize (lg_sl ([.ref x, .int n, .int n2, .int n3]) ++ List.replicate (4 - (lg_sl ([.ref x, .int n, .int n2, .int n3])).length) Slot.unset).toArray = ls at hl ⊢
  have hl : lv_has ls 4 [(0, .ref x), (1, .int n), (2, .int n2), (3, .int n3)] := hl
  refine lv_aload_n hx hb dX11_off_0 rfl (lv_at hl 0 rfl) ?_
  refine va_get (ci := 11) (v := .ref (h 1)) (C := RX11) (T := TX11) (N := 14) hx hb ht iX11 hown hK hP 0 rfl rfl 2 (by decide) (ht _ k_82) (fun _ h9 => h9) rfl dX11_off_1 ?_
  refine lv_iload_n hx hb dX11_off_4 rfl (lv_at hl 1 rfl) ?_
  have hFc := fr_new hS hA
  have hPc := hP.sub (ws' := [((h 1), .inr (9, [.ref (h 10), .ref (h 11), .ref (h 12), .int 0, .ref (h 13), .int 0, .ref (h 14), .int 0, .ref (h 15)]))]) [2] rfl
  have hDc := hD.sub (ws' := [((h 1), .inr (9, [.ref (h 10), .ref (h 11), .ref (h 12), .int 0, .ref (h 13), .int 0, .ref (h 14), .int 0, .ref (h 15)]))]) [2] (by decide) rfl
  refine va_calli (va_runV (As := [.int n]) (rest := []) ⟨hx, hb, hml, hown, ht⟩ (c_hasTune l G cy _ (h 1) n (.ref (h 10)) (.ref (h 11)) (.ref (h 12)) (.ref (h 13)) (.int 0) (.ref (h 14)) (.int 0) (.ref (h 15)) ) (cwV 1 ht (gv k_186 k_187 k_188 k_78 k_185) rfl rfl rfl (by decide +kernel) ⟨Nat.le_of_ble_eq_true rfl, Nat.le_of_ble_eq_true rfl⟩) ⟨En.blind, va_recv hK hP (ci := 9) (q0 := 2) rfl rfl, fun U hU hW => ⟨rfl, En.of hU hW hPc hK hDc hN⟩⟩ rfl rfl hl.1 rfl (lv_room (Nat.le_of_ble_eq_true rfl)) dX11_off_5 ⟨Nat.le_of_ble_eq_true rfl, Nat.le_of_ble_eq_true rfl⟩) hS (fun q _ h => hFc q h) hFc (fun r_2 u_1 t H locs ht9 hvm hw hB hz1 hk1 hS => ?_)
  have hP := fr_keep hP hk1
  obtain rfl : r_2 = 0 := hw.1
  refine lv_if_eq (tgt := 22) hx hb dX11_off_8 (by decide) (fun _ => ?_) (fun c9 => absurd (by decide) c9)
  refine lv_iconst (v := (-1)) hx hb dX11_off_22 (by decide) ?_
  refine W.widen (k := 0) (n := 0) (Nat.le_of_ble_eq_true rfl) (Nat.le_of_ble_eq_true rfl) ?_
  exact W.iret (v := (-1)) hx hb hr (fun t ht9 hW => ⟨⟨(-1), (), rfl, ⟨rfl, trivial⟩, trivial⟩, hS.F ht9⟩) hS.2.2 dX11_off_23
set_option maxHeartbeats 4000000 in
set_option maxRecDepth 100000 in
theorem x_in (l : Launch) (G : va_G) (cy : Nat → ClassId) (sz : Nat) (x : Nat) (h : Nat → Nat) (n : Int32) (n2 : Int32) (n3 : Int32)  : Met l yX11_in (.code yX11_in cX11_in 4 (some .int) :: TBg) ({ frames := 2, cells := 0, slots := 0, locals := 128 }) (va_Pc [.ref x, .int n, .int n2, .int n3] (En G cy (WX cy x h) sz)) (va_Qi (fun (r : Int32) (_ : Unit) => r = (-1) ∧ True) (fun _ _ => True) (va_A (WX cy x h) sz)) 0 0 (va_A (WX cy x h) sz) := by
  refine Met.ofW (cc := cX11_in) (maxL := 4) (ret := (some .int)) (by decide) rfl ?_
  intro p e s m args below meth c s₁ B hml hv
  obtain ⟨rfl, hsz, hP, hK, hD0, hN⟩ := hv
  have hx := B.exec
  have hb := B.bytes
  have hr := B.returns
  have hts := atoms_spec (ws := .code yX11_in cX11_in 4 (some .int) :: TBg) B.pre
  have ht : ∀ w ∈ TBg, w.before _ s = true := fun w h => hts w (List.mem_cons_of_mem _ h)
  have hown : s.vm.findClass RX11 = some m.cls := findClass_of_methodNamed B.named
  have hlocks := B.notSynchronized
  subst hsz
  have hD := hD0.self (sz := s.heap.size)
  generalize hAe : va_A (WX cy x h) s.heap.size = A at hD ⊢
  have hA : ∀ q : Nat, s.heap.size ≤ q → A q := fun q h => by rw [← hAe]; exact Or.inr h
  have hS : va_S A s.heap s.heap [] := va_S.rf
  have hl := lv_entry ([.ref x, .int n, .int n2, .int n3]) (n := 4) (Nat.le_of_ble_eq_true rfl)
  rw [lg_entry_eq]
  generalize (lg_sl ([.ref x, .int n, .int n2, .int n3]) ++ List.replicate (4 - (lg_sl ([.ref x, .int n, .int n2, .int n3])).length) Slot.unset).toArray = ls at hl ⊢
  have hl : lv_has ls 4 [(0, .ref x), (1, .int n), (2, .int n2), (3, .int n3)] := hl
  refine lv_aload_n hx hb dX11_in_0 rfl (lv_at hl 0 rfl) ?_
  refine va_get (ci := 11) (v := .ref (h 1)) (C := RX11) (T := TX11) (N := 14) hx hb ht iX11 hown hK hP 0 rfl rfl 2 (by decide) (ht _ k_82) (fun _ h9 => h9) rfl dX11_in_1 ?_
  refine lv_iload_n hx hb dX11_in_4 rfl (lv_at hl 1 rfl) ?_
  have hFc := fr_new hS hA
  have hPc := hP.sub (ws' := [((h 1), .inr (9, [.ref (h 10), .ref (h 11), .ref (h 12), .int 0, .ref (h 13), .int 0, .ref (h 14), .int 0, .ref (h 15)]))]) [2] rfl
  have hDc := hD.sub (ws' := [((h 1), .inr (9, [.ref (h 10), .ref (h 11), .ref (h 12), .int 0, .ref (h 13), .int 0, .ref (h 14), .int 0, .ref (h 15)]))]) [2] (by decide) rfl
  refine va_calli (va_runV (As := [.int n]) (rest := []) ⟨hx, hb, hml, hown, ht⟩ (c_hasTune l G cy _ (h 1) n (.ref (h 10)) (.ref (h 11)) (.ref (h 12)) (.ref (h 13)) (.int 0) (.ref (h 14)) (.int 0) (.ref (h 15)) ) (cwV 1 ht (gv k_186 k_187 k_188 k_78 k_185) rfl rfl rfl (by decide +kernel) ⟨Nat.le_of_ble_eq_true rfl, Nat.le_of_ble_eq_true rfl⟩) ⟨En.blind, va_recv hK hP (ci := 9) (q0 := 2) rfl rfl, fun U hU hW => ⟨rfl, En.of hU hW hPc hK hDc hN⟩⟩ rfl rfl hl.1 rfl (lv_room (Nat.le_of_ble_eq_true rfl)) dX11_in_5 ⟨Nat.le_of_ble_eq_true rfl, Nat.le_of_ble_eq_true rfl⟩) hS (fun q _ h => hFc q h) hFc (fun r_2 u_1 t H locs ht9 hvm hw hB hz1 hk1 hS => ?_)
  have hP := fr_keep hP hk1
  obtain rfl : r_2 = 0 := hw.1
  refine lv_if_eq (tgt := 22) hx hb dX11_in_8 (by decide) (fun _ => ?_) (fun c9 => absurd (by decide) c9)
  refine lv_iconst (v := (-1)) hx hb dX11_in_22 (by decide) ?_
  refine W.widen (k := 0) (n := 0) (Nat.le_of_ble_eq_true rfl) (Nat.le_of_ble_eq_true rfl) ?_
  exact W.iret (v := (-1)) hx hb hr (fun t ht9 hW => ⟨⟨(-1), (), rfl, ⟨rfl, trivial⟩, trivial⟩, hS.F ht9⟩) hS.2.2 dX11_in_23
set_option maxHeartbeats 4000000 in
set_option maxRecDepth 100000 in
theorem x_doors (l : Launch) (G : va_G) (cy : Nat → ClassId) (sz : Nat) (x : Nat) (h : Nat → Nat) (n : Int32) (n2 : Int32)  : Met l yX11_doors (.code yX11_doors cX11_doors 5 (some .int) :: TBg) ({ frames := 2, cells := 0, slots := 0, locals := 128 }) (va_Pc [.ref x, .int n, .int n2] (En G cy (WX cy x h) sz)) (va_Qi (fun (r : Int32) (_ : Unit) => r = (-1) ∧ True) (fun _ _ => True) (va_A (WX cy x h) sz)) 0 0 (va_A (WX cy x h) sz) := by
  refine Met.ofW (cc := cX11_doors) (maxL := 5) (ret := (some .int)) (by decide) rfl ?_
  intro p e s m args below meth c s₁ B hml hv
  obtain ⟨rfl, hsz, hP, hK, hD0, hN⟩ := hv
  have hx := B.exec
  have hb := B.bytes
  have hr := B.returns
  have hts := atoms_spec (ws := .code yX11_doors cX11_doors 5 (some .int) :: TBg) B.pre
  have ht : ∀ w ∈ TBg, w.before _ s = true := fun w h => hts w (List.mem_cons_of_mem _ h)
  have hown : s.vm.findClass RX11 = some m.cls := findClass_of_methodNamed B.named
  have hlocks := B.notSynchronized
  subst hsz
  have hD := hD0.self (sz := s.heap.size)
  generalize hAe : va_A (WX cy x h) s.heap.size = A at hD ⊢
  have hA : ∀ q : Nat, s.heap.size ≤ q → A q := fun q h => by rw [← hAe]; exact Or.inr h
  have hS : va_S A s.heap s.heap [] := va_S.rf
  have hl := lv_entry ([.ref x, .int n, .int n2]) (n := 5) (Nat.le_of_ble_eq_true rfl)
  rw [lg_entry_eq]
  generalize (lg_sl ([.ref x, .int n, .int n2]) ++ List.replicate (5 - (lg_sl ([.ref x, .int n, .int n2])).length) Slot.unset).toArray = ls at hl ⊢
  have hl : lv_has ls 5 [(0, .ref x), (1, .int n), (2, .int n2)] := hl
  refine lv_aload_n hx hb dX11_doors_0 rfl (lv_at hl 0 rfl) ?_
  refine va_get (ci := 11) (v := .ref (h 1)) (C := RX11) (T := TX11) (N := 14) hx hb ht iX11 hown hK hP 0 rfl rfl 2 (by decide) (ht _ k_82) (fun _ h9 => h9) rfl dX11_doors_1 ?_
  refine lv_iload_n hx hb dX11_doors_4 rfl (lv_at hl 1 rfl) ?_
  have hFc := fr_new hS hA
  have hPc := hP.sub (ws' := [((h 1), .inr (9, [.ref (h 10), .ref (h 11), .ref (h 12), .int 0, .ref (h 13), .int 0, .ref (h 14), .int 0, .ref (h 15)]))]) [2] rfl
  have hDc := hD.sub (ws' := [((h 1), .inr (9, [.ref (h 10), .ref (h 11), .ref (h 12), .int 0, .ref (h 13), .int 0, .ref (h 14), .int 0, .ref (h 15)]))]) [2] (by decide) rfl
  refine va_calli (va_runV (As := [.int n]) (rest := []) ⟨hx, hb, hml, hown, ht⟩ (c_hasTune l G cy _ (h 1) n (.ref (h 10)) (.ref (h 11)) (.ref (h 12)) (.ref (h 13)) (.int 0) (.ref (h 14)) (.int 0) (.ref (h 15)) ) (cwV 1 ht (gv k_186 k_187 k_188 k_78 k_185) rfl rfl rfl (by decide +kernel) ⟨Nat.le_of_ble_eq_true rfl, Nat.le_of_ble_eq_true rfl⟩) ⟨En.blind, va_recv hK hP (ci := 9) (q0 := 2) rfl rfl, fun U hU hW => ⟨rfl, En.of hU hW hPc hK hDc hN⟩⟩ rfl rfl hl.1 rfl (lv_room (Nat.le_of_ble_eq_true rfl)) dX11_doors_5 ⟨Nat.le_of_ble_eq_true rfl, Nat.le_of_ble_eq_true rfl⟩) hS (fun q _ h => hFc q h) hFc (fun r_2 u_1 t H locs ht9 hvm hw hB hz1 hk1 hS => ?_)
  have hP := fr_keep hP hk1
  obtain rfl : r_2 = 0 := hw.1
  refine lv_if_ne (tgt := 13) hx hb dX11_doors_8 (by decide) (fun c9 => absurd (by decide) c9) (fun _ => ?_)
  refine lv_iconst (v := (-1)) hx hb dX11_doors_11 (by decide) ?_
  refine W.widen (k := 0) (n := 0) (Nat.le_of_ble_eq_true rfl) (Nat.le_of_ble_eq_true rfl) ?_
  exact W.iret (v := (-1)) hx hb hr (fun t ht9 hW => ⟨⟨(-1), (), rfl, ⟨rfl, trivial⟩, trivial⟩, hS.F ht9⟩) hS.2.2 dX11_doors_12
set_option maxHeartbeats 4000000 in
set_option maxRecDepth 100000 in
theorem x_asked (l : Launch) (G : va_G) (cy : Nat → ClassId) (sz : Nat) (x : Nat) (h : Nat → Nat) (n : Int32) (n2 : Int32) (n3 : Int32)  : Met l yX11_asked (.code yX11_asked cX11_asked 4 (some .int) :: TBg) ({ frames := 2, cells := 0, slots := 0, locals := 128 }) (va_Pc [.ref x, .int n, .int n2, .int n3] (En G cy (WX cy x h) sz)) (va_Qi (fun (r : Int32) (_ : Unit) => r = (-1000000) ∧ True) (fun _ _ => True) (va_A (WX cy x h) sz)) 0 0 (va_A (WX cy x h) sz) := by
  refine Met.ofW (cc := cX11_asked) (maxL := 4) (ret := (some .int)) (by decide) rfl ?_
  intro p e s m args below meth c s₁ B hml hv
  obtain ⟨rfl, hsz, hP, hK, hD0, hN⟩ := hv
  have hx := B.exec
  have hb := B.bytes
  have hr := B.returns
  have hts := atoms_spec (ws := .code yX11_asked cX11_asked 4 (some .int) :: TBg) B.pre
  have ht : ∀ w ∈ TBg, w.before _ s = true := fun w h => hts w (List.mem_cons_of_mem _ h)
  have hown : s.vm.findClass RX11 = some m.cls := findClass_of_methodNamed B.named
  have hlocks := B.notSynchronized
  subst hsz
  have hD := hD0.self (sz := s.heap.size)
  generalize hAe : va_A (WX cy x h) s.heap.size = A at hD ⊢
  have hA : ∀ q : Nat, s.heap.size ≤ q → A q := fun q h => by rw [← hAe]; exact Or.inr h
  have hS : va_S A s.heap s.heap [] := va_S.rf
  have hl := lv_entry ([.ref x, .int n, .int n2, .int n3]) (n := 4) (Nat.le_of_ble_eq_true rfl)
  rw [lg_entry_eq]
  generalize (lg_sl ([.ref x, .int n, .int n2, .int n3]) ++ List.replicate (4 - (lg_sl ([.ref x, .int n, .int n2, .int n3])).length) Slot.unset).toArray = ls at hl ⊢
  have hl : lv_has ls 4 [(0, .ref x), (1, .int n), (2, .int n2), (3, .int n3)] := hl
  refine lv_aload_n hx hb dX11_asked_0 rfl (lv_at hl 0 rfl) ?_
  refine va_get (ci := 11) (v := .ref (h 1)) (C := RX11) (T := TX11) (N := 14) hx hb ht iX11 hown hK hP 0 rfl rfl 2 (by decide) (ht _ k_82) (fun _ h9 => h9) rfl dX11_asked_1 ?_
  refine lv_iload_n hx hb dX11_asked_4 rfl (lv_at hl 1 rfl) ?_
  have hFc := fr_new hS hA
  have hPc := hP.sub (ws' := [((h 1), .inr (9, [.ref (h 10), .ref (h 11), .ref (h 12), .int 0, .ref (h 13), .int 0, .ref (h 14), .int 0, .ref (h 15)]))]) [2] rfl
  have hDc := hD.sub (ws' := [((h 1), .inr (9, [.ref (h 10), .ref (h 11), .ref (h 12), .int 0, .ref (h 13), .int 0, .ref (h 14), .int 0, .ref (h 15)]))]) [2] (by decide) rfl
  refine va_calli (va_runV (As := [.int n]) (rest := []) ⟨hx, hb, hml, hown, ht⟩ (c_hasLock l G cy _ (h 1) n (.ref (h 10)) (.ref (h 11)) (.ref (h 12)) (.int 0) (.ref (h 13)) (.ref (h 14)) (.int 0) (.ref (h 15)) ) (cwV 1 ht (gv k_191 k_192 k_193 k_78 k_190) rfl rfl rfl (by decide +kernel) ⟨Nat.le_of_ble_eq_true rfl, Nat.le_of_ble_eq_true rfl⟩) ⟨En.blind, va_recv hK hP (ci := 9) (q0 := 2) rfl rfl, fun U hU hW => ⟨rfl, En.of hU hW hPc hK hDc hN⟩⟩ rfl rfl hl.1 rfl (lv_room (Nat.le_of_ble_eq_true rfl)) dX11_asked_5 ⟨Nat.le_of_ble_eq_true rfl, Nat.le_of_ble_eq_true rfl⟩) hS (fun q _ h => hFc q h) hFc (fun r_2 u_1 t H locs ht9 hvm hw hB hz1 hk1 hS => ?_)
  have hP := fr_keep hP hk1
  obtain rfl : r_2 = 0 := hw.1
  refine lv_if_eq (tgt := 22) hx hb dX11_asked_8 (by decide) (fun _ => ?_) (fun c9 => absurd (by decide) c9)
  refine lv_ldc (v := (-1000000)) hx hb hown (ht _ k_189) dX11_asked_22 ?_
  refine W.widen (k := 0) (n := 0) (Nat.le_of_ble_eq_true rfl) (Nat.le_of_ble_eq_true rfl) ?_
  exact W.iret (v := (-1000000)) hx hb hr (fun t ht9 hW => ⟨⟨(-1000000), (), rfl, ⟨rfl, trivial⟩, trivial⟩, hS.F ht9⟩) hS.2.2 dX11_asked_24
set_option maxHeartbeats 4000000 in
set_option maxRecDepth 100000 in
theorem x_dealt (l : Launch) (G : va_G) (cy : Nat → ClassId) (sz : Nat) (x : Nat) (h : Nat → Nat) (n : Int32)  : Met l yX11_dealt (.code yX11_dealt cX11_dealt 2 (some .int) :: TBg) ({ frames := 3, cells := 0, slots := 0, locals := 192 }) (va_Pc [.ref x, .int n] (En G cy (WX cy x h) sz)) (va_Qi (fun (r : Int32) (_ : Unit) => r = (sp_rng 99 n) ∧ True) (fun _ _ => True) (va_A (WX cy x h) sz)) 0 0 (va_A (WX cy x h) sz) := by
  refine Met.ofW (cc := cX11_dealt) (maxL := 2) (ret := (some .int)) (by decide) rfl ?_
  intro p e s m args below meth c s₁ B hml hv
  obtain ⟨rfl, hsz, hP, hK, hD0, hN⟩ := hv
  have hx := B.exec
  have hb := B.bytes
  have hr := B.returns
  have hts := atoms_spec (ws := .code yX11_dealt cX11_dealt 2 (some .int) :: TBg) B.pre
  have ht : ∀ w ∈ TBg, w.before _ s = true := fun w h => hts w (List.mem_cons_of_mem _ h)
  have hown : s.vm.findClass RX11 = some m.cls := findClass_of_methodNamed B.named
  have hlocks := B.notSynchronized
  subst hsz
  have hD := hD0.self (sz := s.heap.size)
  generalize hAe : va_A (WX cy x h) s.heap.size = A at hD ⊢
  have hA : ∀ q : Nat, s.heap.size ≤ q → A q := fun q h => by rw [← hAe]; exact Or.inr h
  have hS : va_S A s.heap s.heap [] := va_S.rf
  have hl := lv_entry ([.ref x, .int n]) (n := 2) (Nat.le_of_ble_eq_true rfl)
  rw [lg_entry_eq]
  generalize (lg_sl ([.ref x, .int n]) ++ List.replicate (2 - (lg_sl ([.ref x, .int n])).length) Slot.unset).toArray = ls at hl ⊢
  have hl : lv_has ls 2 [(0, .ref x), (1, .int n)] := hl
  refine lv_iload_n hx hb dX11_dealt_0 rfl (lv_at hl 1 rfl) ?_
  refine lv_if_lt (tgt := 10) hx hb dX11_dealt_1 (by decide) (fun c_1 => ?_) (fun c_1 => ?_)
  · skip
    refine lv_iconst (v := (-1)) hx hb dX11_dealt_10 (by decide) ?_
    refine W.widen (k := 0) (n := 0) (Nat.le_of_ble_eq_true rfl) (Nat.le_of_ble_eq_true rfl) ?_
    exact W.iret (v := (-1)) hx hb hr (fun t ht9 hW => ⟨⟨(-1), (), rfl, ⟨(by unfold sp_rng; have z0 : (0 : Int32).toInt = 0 := (by decide); have z1 : (99 : Int32).toInt = 99 := (by decide); split <;> first | rfl | (exfalso; rename_i hc9; (try simp only [ow_lt, ow_le, ow_eq, true_and, and_true] at hc9 c_1); omega)), trivial⟩, trivial⟩, hS.F ht9⟩) hS.2.2 dX11_dealt_11
  · skip
    refine lv_iload_n hx hb dX11_dealt_4 rfl (lv_at hl 1 rfl) ?_
    refine lv_bipush (v := 99) hx hb dX11_dealt_5 (by decide) ?_
    refine lv_icmp_le (tgt := 12) hx hb dX11_dealt_7 (by decide) (fun c_2 => ?_) (fun c_2 => ?_)
    · skip
      refine lv_aload_n hx hb dX11_dealt_12 rfl (lv_at hl 0 rfl) ?_
      refine va_get (ci := 11) (v := .ref (h 7)) (C := RX11) (T := TX11) (N := 14) hx hb ht iX11 hown hK hP 0 rfl rfl 11 (by decide) (ht _ k_105) (fun _ h9 => h9) rfl dX11_dealt_13 ?_
      refine lv_aload_n hx hb dX11_dealt_16 rfl (lv_at hl 0 rfl) ?_
      refine va_get (ci := 11) (v := .ref (h 1)) (C := RX11) (T := TX11) (N := 14) hx hb ht iX11 hown hK hP 0 rfl rfl 2 (by decide) (ht _ k_82) (fun _ h9 => h9) rfl dX11_dealt_17 ?_
      refine lv_iload_n hx hb dX11_dealt_20 rfl (lv_at hl 1 rfl) ?_
      have hFc := va_free (wc := [((h 7), .inr (1, [.ref (h 45), .int 0, .int 0])), ((h 1), .inr (9, [.ref (h 10), .ref (h 11), .ref (h 12), .int 0, .ref (h 13), .int 0, .ref (h 14), .int 0, .ref (h 15)]))]) hD hS hA [16, 2] rfl
      have hPc := hP.sub (ws' := [((h 7), .inr (1, [.ref (h 45), .int 0, .int 0])), ((h 1), .inr (9, [.ref (h 10), .ref (h 11), .ref (h 12), .int 0, .ref (h 13), .int 0, .ref (h 14), .int 0, .ref (h 15)]))]) [16, 2] rfl
      have hDc := hD.sub (ws' := [((h 7), .inr (1, [.ref (h 45), .int 0, .int 0])), ((h 1), .inr (9, [.ref (h 10), .ref (h 11), .ref (h 12), .int 0, .ref (h 13), .int 0, .ref (h 14), .int 0, .ref (h 15)]))]) [16, 2] (by decide) rfl
      refine va_calli (va_runV (As := [.ref (h 1), .int n]) (rest := []) ⟨hx, hb, hml, hown, ht⟩ (c_choose l G cy _ (h 7) n (h 1) (.ref (h 10)) (.ref (h 11)) (.ref (h 12)) (.ref (h 13)) (.int 0) (.ref (h 14)) (.int 0) (.ref (h 15)) (.ref (h 45)) (.int 0) (.int 0) ) (cwV 2 ht (gv k_195 k_196 k_197 k_102 k_194) rfl rfl rfl (by decide +kernel) ⟨Nat.le_of_ble_eq_true rfl, Nat.le_of_ble_eq_true rfl⟩) ⟨En.blind, va_recv hK hP (ci := 1) (q0 := 16) rfl rfl, fun U hU hW => ⟨rfl, En.of hU hW hPc hK hDc hN⟩⟩ rfl rfl hl.1 rfl (lv_room (Nat.le_of_ble_eq_true rfl)) dX11_dealt_21 ⟨Nat.le_of_ble_eq_true rfl, Nat.le_of_ble_eq_true rfl⟩) hS (fun q _ h => hFc q h) hFc (fun r_4 u_3 t H locs ht9 hvm hw hB hz1 hk1 hS => ?_)
      obtain rfl : r_4 = 0 := hw.1
      refine W.widen (k := 0) (n := 0) (Nat.le_of_ble_eq_true rfl) (Nat.le_of_ble_eq_true rfl) ?_
      exact W.iret (v := 0) hx hb hr (fun t ht9 hW => ⟨⟨0, (), rfl, ⟨(by unfold sp_rng; have z0 : (0 : Int32).toInt = 0 := (by decide); have z1 : (99 : Int32).toInt = 99 := (by decide); split <;> first | rfl | (exfalso; rename_i hc9; (try simp only [ow_lt, ow_le, ow_eq, true_and, and_true] at hc9 c_1 c_2); omega)), trivial⟩, trivial⟩, hS.F ht9⟩) hS.2.2 dX11_dealt_24
    · skip
      refine lv_iconst (v := (-1)) hx hb dX11_dealt_10 (by decide) ?_
      refine W.widen (k := 0) (n := 0) (Nat.le_of_ble_eq_true rfl) (Nat.le_of_ble_eq_true rfl) ?_
      exact W.iret (v := (-1)) hx hb hr (fun t ht9 hW => ⟨⟨(-1), (), rfl, ⟨(by unfold sp_rng; have z0 : (0 : Int32).toInt = 0 := (by decide); have z1 : (99 : Int32).toInt = 99 := (by decide); split <;> first | rfl | (exfalso; rename_i hc9; (try simp only [ow_lt, ow_le, ow_eq, true_and, and_true] at hc9 c_1 c_2); omega)), trivial⟩, trivial⟩, hS.F ht9⟩) hS.2.2 dX11_dealt_11
set_option maxHeartbeats 4000000 in
set_option maxRecDepth 100000 in
theorem x_master (l : Launch) (G : va_G) (cy : Nat → ClassId) (sz : Nat) (x : Nat) (h : Nat → Nat) (n : Int32) (n2 : Int32)  : Met l yX11_master (.code yX11_master cX11_master 3 (some .int) :: TBg) ({ frames := 3, cells := 0, slots := 0, locals := 192 }) (va_Pc [.ref x, .int n, .int n2] (En G cy (WX cy x h) sz)) (va_Qi (fun (r : Int32) (_ : Unit) => r = (sp_master n n2) ∧ True) (fun _ _ => True) (va_A (WX cy x h) sz)) 0 0 (va_A (WX cy x h) sz) := by
  refine Met.ofW (cc := cX11_master) (maxL := 3) (ret := (some .int)) (by decide) rfl ?_
  intro p e s m args below meth c s₁ B hml hv
  obtain ⟨rfl, hsz, hP, hK, hD0, hN⟩ := hv
  have hx := B.exec
  have hb := B.bytes
  have hr := B.returns
  have hts := atoms_spec (ws := .code yX11_master cX11_master 3 (some .int) :: TBg) B.pre
  have ht : ∀ w ∈ TBg, w.before _ s = true := fun w h => hts w (List.mem_cons_of_mem _ h)
  have hown : s.vm.findClass RX11 = some m.cls := findClass_of_methodNamed B.named
  have hlocks := B.notSynchronized
  subst hsz
  have hD := hD0.self (sz := s.heap.size)
  generalize hAe : va_A (WX cy x h) s.heap.size = A at hD ⊢
  have hA : ∀ q : Nat, s.heap.size ≤ q → A q := fun q h => by rw [← hAe]; exact Or.inr h
  have hS : va_S A s.heap s.heap [] := va_S.rf
  have hl := lv_entry ([.ref x, .int n, .int n2]) (n := 3) (Nat.le_of_ble_eq_true rfl)
  rw [lg_entry_eq]
  generalize (lg_sl ([.ref x, .int n, .int n2]) ++ List.replicate (3 - (lg_sl ([.ref x, .int n, .int n2])).length) Slot.unset).toArray = ls at hl ⊢
  rcases ow_cut n 1 (by decide) with ⟨j, hj, hj2⟩ | hout
  · have hj3 : j = 0 := by omega
    rcases hj3 with rfl
    · obtain rfl : n = 0 := hj2
      have hl : lv_has ls 3 [(0, .ref x), (1, .int 0), (2, .int n2)] := hl
      refine lv_iload_n hx hb dX11_master_0 rfl (lv_at hl 1 rfl) ?_
      refine lv_if_lt (tgt := 27) hx hb dX11_master_1 (by decide) (fun c9 => absurd c9 (by decide)) (fun _ => ?_)
      refine lv_iload_n hx hb dX11_master_4 rfl (lv_at hl 1 rfl) ?_
      refine lv_iconst (v := 1) hx hb dX11_master_5 (by decide) ?_
      refine lv_aload_n hx hb dX11_master_6 rfl (lv_at hl 0 rfl) ?_
      refine va_get (ci := 11) (v := .ref (h 1)) (C := RX11) (T := TX11) (N := 14) hx hb ht iX11 hown hK hP 0 rfl rfl 2 (by decide) (ht _ k_82) (fun _ h9 => h9) rfl dX11_master_7 ?_
      refine va_getN (host := "TuneLocks") (ci := 9) (v := .int 0) (C := RX9) (T := TX9) (N := 9) hx hb ht iX9 hown hK hP 2 rfl rfl 3 (by decide) (va_Nw.use rfl (hN.1 _ ns_8)) (fun _ h9 => h9) rfl dX11_master_10 ?_
      refine lv_ishl hx hb dX11_master_13 ?_
      refine ow_top 1 (by decide +kernel) ?_
      refine lv_icmp_ge (tgt := 27) hx hb dX11_master_14 (by decide) (fun c9 => absurd c9 (by decide)) (fun _ => ?_)
      refine lv_iload_n hx hb dX11_master_17 rfl (lv_at hl 2 rfl) ?_
      refine lv_if_lt (tgt := 27) hx hb dX11_master_18 (by decide) (fun c_1 => ?_) (fun c_1 => ?_)
      · skip
        refine lv_iconst (v := (-1)) hx hb dX11_master_27 (by decide) ?_
        refine W.widen (k := 0) (n := 0) (Nat.le_of_ble_eq_true rfl) (Nat.le_of_ble_eq_true rfl) ?_
        exact W.iret (v := (-1)) hx hb hr (fun t ht9 hW => ⟨⟨(-1), (), rfl, ⟨(by unfold sp_master; have z0 : (0 : Int32).toInt = 0 := (by decide); have z1 : (6 : Int32).toInt = 6 := (by decide); split <;> first | rfl | (exfalso; rename_i hc9; (try simp only [ow_lt, ow_le, ow_eq, true_and, and_true] at hc9 c_1); omega)), trivial⟩, trivial⟩, hS.F ht9⟩) hS.2.2 dX11_master_28
      · skip
        refine lv_iload_n hx hb dX11_master_21 rfl (lv_at hl 2 rfl) ?_
        refine lv_bipush (v := 6) hx hb dX11_master_22 (by decide) ?_
        refine lv_icmp_le (tgt := 29) hx hb dX11_master_24 (by decide) (fun c_2 => ?_) (fun c_2 => ?_)
        · skip
          refine lv_iload_n hx hb dX11_master_29 rfl (lv_at hl 1 rfl) ?_
          have hFc := fr_new hS hA
          have hPc := hP.sub (ws' := []) [] rfl
          have hDc := hD.sub (ws' := []) [] (by decide) rfl
          refine va_calli (va_runS (As := [.int 0]) (rest := []) ⟨hx, hb, hml, hown, ht⟩ (c_bitCount l G cy _  ) (va_cwS 1 ht (gs k_199 k_200 k_201 k_198) rfl rfl rfl (by decide +kernel) ⟨Nat.le_of_ble_eq_true rfl, Nat.le_of_ble_eq_true rfl⟩) ⟨En.blind, fun U hU hW => ⟨rfl, En.of hU hW hPc hK hDc hN⟩⟩ rfl rfl hl.1 rfl (lv_room (Nat.le_of_ble_eq_true rfl)) dX11_master_30 ⟨Nat.le_of_ble_eq_true rfl, Nat.le_of_ble_eq_true rfl⟩) hS (fun q _ h => hFc q h) hFc (fun r_4 u_3 t H locs ht9 hvm hw hB hz1 hk1 hS => ?_)
          have hP := fr_keep hP hk1
          obtain rfl : r_4 = 0 := hw.1
          refine lv_bipush (v := 6) hx hb dX11_master_33 (by decide) ?_
          refine lv_icmp_le (tgt := 41) hx hb dX11_master_35 (by decide) (fun _ => ?_) (fun c9 => absurd (by decide) c9)
          refine lv_aload_n hx hb dX11_master_41 rfl (lv_at hl 0 rfl) ?_
          refine va_get (ci := 11) (v := .ref (h 8)) (C := RX11) (T := TX11) (N := 14) hx hb ht iX11 hown hK hP 0 rfl rfl 12 (by decide) (ht _ k_111) (fun _ h9 => h9) rfl dX11_master_42 ?_
          refine lv_aload_n hx hb dX11_master_45 rfl (lv_at hl 0 rfl) ?_
          refine va_get (ci := 11) (v := .ref (h 1)) (C := RX11) (T := TX11) (N := 14) hx hb ht iX11 hown hK hP 0 rfl rfl 2 (by decide) (ht _ k_82) (fun _ h9 => h9) rfl dX11_master_46 ?_
          refine lv_iload_n hx hb dX11_master_49 rfl (lv_at hl 1 rfl) ?_
          have hFc := va_free (wc := [((h 8), .inr (3, [.ref (h 46), .ref (h 47), .int 0, .ref (h 48), .ref (h 49), .ref (h 50), .int 0])), ((h 49), .inl (cy 0, 6, .inl (fun _ => 0))), ((h 50), .inl (cy 0, 6, .inl (fun _ => 0))), ((h 1), .inr (9, [.ref (h 10), .ref (h 11), .ref (h 12), .int 0, .ref (h 13), .int 0, .ref (h 14), .int 0, .ref (h 15)]))]) hD hS hA [17, 18, 19, 2] rfl
          have hPc := hP.sub (ws' := [((h 8), .inr (3, [.ref (h 46), .ref (h 47), .int 0, .ref (h 48), .ref (h 49), .ref (h 50), .int 0])), ((h 49), .inl (cy 0, 6, .inl (fun _ => 0))), ((h 50), .inl (cy 0, 6, .inl (fun _ => 0))), ((h 1), .inr (9, [.ref (h 10), .ref (h 11), .ref (h 12), .int 0, .ref (h 13), .int 0, .ref (h 14), .int 0, .ref (h 15)]))]) [17, 18, 19, 2] rfl
          have hDc := hD.sub (ws' := [((h 8), .inr (3, [.ref (h 46), .ref (h 47), .int 0, .ref (h 48), .ref (h 49), .ref (h 50), .int 0])), ((h 49), .inl (cy 0, 6, .inl (fun _ => 0))), ((h 50), .inl (cy 0, 6, .inl (fun _ => 0))), ((h 1), .inr (9, [.ref (h 10), .ref (h 11), .ref (h 12), .int 0, .ref (h 13), .int 0, .ref (h 14), .int 0, .ref (h 15)]))]) [17, 18, 19, 2] (by decide) rfl
          refine va_callv (va_runV (As := [.ref (h 1), .int 0]) (rest := []) ⟨hx, hb, hml, hown, ht⟩ (c_lay l G cy _ (h 8) (h 49) (h 50) (fun _ => 0) (fun _ => 0) (h 1) (.ref (h 10)) (.ref (h 11)) (.ref (h 12)) (.ref (h 13)) (.int 0) (.ref (h 14)) (.int 0) (.ref (h 15)) (.ref (h 46)) (.ref (h 47)) (.int 0) (.ref (h 48)) (.int 0) ) (cwV 2 ht (gv k_203 k_204 k_205 k_108 k_202) rfl rfl rfl (by decide +kernel) ⟨Nat.le_of_ble_eq_true rfl, Nat.le_of_ble_eq_true rfl⟩) ⟨En.blind, va_recv hK hP (ci := 3) (q0 := 17) rfl rfl, fun U hU hW => ⟨rfl, En.of hU hW hPc hK hDc hN⟩⟩ rfl rfl hl.1 rfl (lv_room (Nat.le_of_ble_eq_true rfl)) dX11_master_50 ⟨Nat.le_of_ble_eq_true rfl, Nat.le_of_ble_eq_true rfl⟩) hS (fun q _ h => hFc q h) hFc (fun u_5 t H locs ht9 hvm hw hB hz1 hk1 hS => ?_)
          obtain ⟨hP1, hD1⟩ := hB
          rw [ht9] at hP1
          obtain ⟨hP, hD⟩ := fr_put (wc := [((h 8), .inr (3, [.ref (h 46), .ref (h 47), .int 0, .ref (h 48), .ref (h 49), .ref (h 50), .int 0])), ((h 49), .inl (cy 0, 6, .inl (fun _ => 0))), ((h 50), .inl (cy 0, 6, .inl (fun _ => 0))), ((h 1), .inr (9, [.ref (h 10), .ref (h 11), .ref (h 12), .int 0, .ref (h 13), .int 0, .ref (h 14), .int 0, .ref (h 15)]))]) (w1 := [((h 8), .inr (3, [.ref (h 46), .ref (h 47), .int 0, .ref (h 48), .ref (h 49), .ref (h 50), .int 0])), ((h 49), .inl (cy 0, 6, .inl (u_5 0))), ((h 50), .inl (cy 0, 6, .inl (u_5 1))), ((h 1), .inr (9, [.ref (h 10), .ref (h 11), .ref (h 12), .int 0, .ref (h 13), .int 0, .ref (h 14), .int 0, .ref (h 15)]))]) hP hD [17, 18, 19, 2] rfl rfl rfl hk1 hP1
          clear hFc hPc hDc hP1 hD1 hz1 hk1
          refine lv_iload_n hx hb dX11_master_53 rfl (lv_at hl 2 rfl) ?_
          refine lv_if_ne (tgt := 67) hx hb dX11_master_54 (by decide) (fun c_6 => ?_) (fun c_6 => ?_)
          · skip
            refine lv_aload_n hx hb dX11_master_67 rfl (lv_at hl 0 rfl) ?_
            refine va_get (ci := 11) (v := .ref (h 8)) (C := RX11) (T := TX11) (N := 14) hx hb ht iX11 hown hK hP 0 rfl rfl 12 (by decide) (ht _ k_111) (fun _ h9 => h9) rfl dX11_master_68 ?_
            refine lv_iload_n hx hb dX11_master_71 rfl (lv_at hl 2 rfl) ?_
            refine lv_iconst (v := 1) hx hb dX11_master_72 (by decide) ?_
            refine lv_isub hx hb dX11_master_73 ?_
            refine lv_topi (fun v_7 ev_7 => ?_)
            have hFc := fr_new hS hA
            have hPc := hP.sub (ws' := [((h 8), .inr (3, [.ref (h 46), .ref (h 47), .int 0, .ref (h 48), .ref (h 49), .ref (h 50), .int 0]))]) [17] rfl
            have hDc := hD.sub (ws' := [((h 8), .inr (3, [.ref (h 46), .ref (h 47), .int 0, .ref (h 48), .ref (h 49), .ref (h 50), .int 0]))]) [17] (by decide) rfl
            refine va_calli (va_runV (As := [.int v_7]) (rest := []) ⟨hx, hb, hml, hown, ht⟩ (c_laidAt l G cy _ (h 8) v_7 (.ref (h 46)) (.ref (h 47)) (.ref (h 48)) (.ref (h 49)) (.ref (h 50)) (.int 0) ) (cwV 1 ht (gv k_207 k_208 k_209 k_108 k_206) rfl rfl rfl (by decide +kernel) ⟨Nat.le_of_ble_eq_true rfl, Nat.le_of_ble_eq_true rfl⟩) ⟨En.blind, va_recv hK hP (ci := 3) (q0 := 17) rfl rfl, fun U hU hW => ⟨rfl, En.of hU hW hPc hK hDc hN⟩⟩ rfl rfl hl.1 rfl (lv_room (Nat.le_of_ble_eq_true rfl)) dX11_master_74 ⟨Nat.le_of_ble_eq_true rfl, Nat.le_of_ble_eq_true rfl⟩) hS (fun q _ h => hFc q h) hFc (fun r_9 u_8 t H locs ht9 hvm hw hB hz1 hk1 hS => ?_)
            have hP := fr_keep hP hk1
            obtain rfl : r_9 = (-1) := hw.1
            refine W.widen (k := 0) (n := 0) (Nat.le_of_ble_eq_true rfl) (Nat.le_of_ble_eq_true rfl) ?_
            exact W.iret (v := (-1)) hx hb hr (fun t ht9 hW => ⟨⟨(-1), (), rfl, ⟨(by unfold sp_master; have z0 : (0 : Int32).toInt = 0 := (by decide); have z1 : (6 : Int32).toInt = 6 := (by decide); split <;> first | rfl | (exfalso; rename_i hc9; (try simp only [ow_lt, ow_le, ow_eq, true_and, and_true] at hc9 c_1 c_2 c_6); omega)), trivial⟩, trivial⟩, hS.F ht9⟩) hS.2.2 dX11_master_77
          · skip
            refine lv_aload_n hx hb dX11_master_57 rfl (lv_at hl 0 rfl) ?_
            refine va_get (ci := 11) (v := .ref (h 8)) (C := RX11) (T := TX11) (N := 14) hx hb ht iX11 hown hK hP 0 rfl rfl 12 (by decide) (ht _ k_111) (fun _ h9 => h9) rfl dX11_master_58 ?_
            have hFc := fr_new hS hA
            have hPc := hP.sub (ws' := [((h 8), .inr (3, [.ref (h 46), .ref (h 47), .int 0, .ref (h 48), .ref (h 49), .ref (h 50), .int 0]))]) [17] rfl
            have hDc := hD.sub (ws' := [((h 8), .inr (3, [.ref (h 46), .ref (h 47), .int 0, .ref (h 48), .ref (h 49), .ref (h 50), .int 0]))]) [17] (by decide) rfl
            refine va_calli (va_runV (As := []) (rest := []) ⟨hx, hb, hml, hown, ht⟩ (c_fewest l G cy _ (h 8) (.ref (h 46)) (.ref (h 47)) (.int 0) (.ref (h 48)) (.ref (h 49)) (.ref (h 50)) ) (cwV 0 ht (gv k_211 k_212 k_213 k_108 k_210) rfl rfl rfl (by decide +kernel) ⟨Nat.le_of_ble_eq_true rfl, Nat.le_of_ble_eq_true rfl⟩) ⟨En.blind, va_recv hK hP (ci := 3) (q0 := 17) rfl rfl, fun U hU hW => ⟨rfl, En.of hU hW hPc hK hDc hN⟩⟩ rfl rfl hl.1 rfl (lv_room (Nat.le_of_ble_eq_true rfl)) dX11_master_61 ⟨Nat.le_of_ble_eq_true rfl, Nat.le_of_ble_eq_true rfl⟩) hS (fun q _ h => hFc q h) hFc (fun r_11 u_10 t H locs ht9 hvm hw hB hz1 hk1 hS => ?_)
            have hP := fr_keep hP hk1
            obtain rfl : r_11 = 0 := hw.1
            refine lv_goto (tgt := 77) hx hb dX11_master_64 (by decide) ?_
            refine W.widen (k := 0) (n := 0) (Nat.le_of_ble_eq_true rfl) (Nat.le_of_ble_eq_true rfl) ?_
            exact W.iret (v := 0) hx hb hr (fun t ht9 hW => ⟨⟨0, (), rfl, ⟨(by unfold sp_master; have z0 : (0 : Int32).toInt = 0 := (by decide); have z1 : (6 : Int32).toInt = 6 := (by decide); split <;> first | rfl | (exfalso; rename_i hc9; (try simp only [ow_lt, ow_le, ow_eq, true_and, and_true] at hc9 c_1 c_2 c_6); omega)), trivial⟩, trivial⟩, hS.F ht9⟩) hS.2.2 dX11_master_77
        · skip
          refine lv_iconst (v := (-1)) hx hb dX11_master_27 (by decide) ?_
          refine W.widen (k := 0) (n := 0) (Nat.le_of_ble_eq_true rfl) (Nat.le_of_ble_eq_true rfl) ?_
          exact W.iret (v := (-1)) hx hb hr (fun t ht9 hW => ⟨⟨(-1), (), rfl, ⟨(by unfold sp_master; have z0 : (0 : Int32).toInt = 0 := (by decide); have z1 : (6 : Int32).toInt = 6 := (by decide); split <;> first | rfl | (exfalso; rename_i hc9; (try simp only [ow_lt, ow_le, ow_eq, true_and, and_true] at hc9 c_1 c_2); omega)), trivial⟩, trivial⟩, hS.F ht9⟩) hS.2.2 dX11_master_28
  · skip
    have hl : lv_has ls 3 [(0, .ref x), (1, .int n), (2, .int n2)] := hl
    refine lv_iload_n hx hb dX11_master_0 rfl (lv_at hl 1 rfl) ?_
    refine lv_if_lt (tgt := 27) hx hb dX11_master_1 (by decide) (fun c_12 => ?_) (fun c_12 => ?_)
    · skip
      refine lv_iconst (v := (-1)) hx hb dX11_master_27 (by decide) ?_
      refine W.widen (k := 0) (n := 0) (Nat.le_of_ble_eq_true rfl) (Nat.le_of_ble_eq_true rfl) ?_
      exact W.iret (v := (-1)) hx hb hr (fun t ht9 hW => ⟨⟨(-1), (), rfl, ⟨(by unfold sp_master; have z0 : (0 : Int32).toInt = 0 := (by decide); have z1 : (6 : Int32).toInt = 6 := (by decide); split <;> first | rfl | (exfalso; rename_i hc9; (try simp only [ow_lt, ow_le, ow_eq, true_and, and_true] at hc9 hout c_12); omega)), trivial⟩, trivial⟩, hS.F ht9⟩) hS.2.2 dX11_master_28
    · skip
      refine lv_iload_n hx hb dX11_master_4 rfl (lv_at hl 1 rfl) ?_
      refine lv_iconst (v := 1) hx hb dX11_master_5 (by decide) ?_
      refine lv_aload_n hx hb dX11_master_6 rfl (lv_at hl 0 rfl) ?_
      refine va_get (ci := 11) (v := .ref (h 1)) (C := RX11) (T := TX11) (N := 14) hx hb ht iX11 hown hK hP 0 rfl rfl 2 (by decide) (ht _ k_82) (fun _ h9 => h9) rfl dX11_master_7 ?_
      refine va_getN (host := "TuneLocks") (ci := 9) (v := .int 0) (C := RX9) (T := TX9) (N := 9) hx hb ht iX9 hown hK hP 2 rfl rfl 3 (by decide) (va_Nw.use rfl (hN.1 _ ns_8)) (fun _ h9 => h9) rfl dX11_master_10 ?_
      refine lv_ishl hx hb dX11_master_13 ?_
      refine ow_top 1 (by decide +kernel) ?_
      refine lv_icmp_ge (tgt := 27) hx hb dX11_master_14 (by decide) (fun c_13 => ?_) (fun c_13 => ?_)
      · skip
        refine lv_iconst (v := (-1)) hx hb dX11_master_27 (by decide) ?_
        refine W.widen (k := 0) (n := 0) (Nat.le_of_ble_eq_true rfl) (Nat.le_of_ble_eq_true rfl) ?_
        exact W.iret (v := (-1)) hx hb hr (fun t ht9 hW => ⟨⟨(-1), (), rfl, ⟨(by unfold sp_master; have z0 : (0 : Int32).toInt = 0 := (by decide); have z1 : (1 : Int32).toInt = 1 := (by decide); have z2 : (6 : Int32).toInt = 6 := (by decide); split <;> first | rfl | (exfalso; rename_i hc9; (try simp only [ow_lt, ow_le, ow_eq, true_and, and_true] at hc9 hout c_12 c_13); omega)), trivial⟩, trivial⟩, hS.F ht9⟩) hS.2.2 dX11_master_28
      · exfalso
        have z0 : (0 : Int32).toInt = 0 := (by decide); have z1 : (1 : Int32).toInt = 1 := (by decide); (try simp only [ow_lt, ow_le, ow_eq, true_and, and_true] at hout c_12 c_13); omega
set_option maxHeartbeats 4000000 in
set_option maxRecDepth 100000 in
theorem x_round (l : Launch) (G : va_G) (cy : Nat → ClassId) (sz : Nat) (x : Nat) (h : Nat → Nat) (n : Int32) (n2 : Int32)  : Met l yX11_round (.code yX11_round cX11_round 3 (some .int) :: TBg) ({ frames := 2, cells := 0, slots := 0, locals := 128 }) (va_Pc [.ref x, .int n, .int n2] (En G cy (WX cy x h) sz)) (va_Qi (fun (r : Int32) (_ : Unit) => r = (-1) ∧ True) (fun _ _ => True) (va_A (WX cy x h) sz)) 0 0 (va_A (WX cy x h) sz) := by
  refine Met.ofW (cc := cX11_round) (maxL := 3) (ret := (some .int)) (by decide) rfl ?_
  intro p e s m args below meth c s₁ B hml hv
  obtain ⟨rfl, hsz, hP, hK, hD0, hN⟩ := hv
  have hx := B.exec
  have hb := B.bytes
  have hr := B.returns
  have hts := atoms_spec (ws := .code yX11_round cX11_round 3 (some .int) :: TBg) B.pre
  have ht : ∀ w ∈ TBg, w.before _ s = true := fun w h => hts w (List.mem_cons_of_mem _ h)
  have hown : s.vm.findClass RX11 = some m.cls := findClass_of_methodNamed B.named
  have hlocks := B.notSynchronized
  subst hsz
  have hD := hD0.self (sz := s.heap.size)
  generalize hAe : va_A (WX cy x h) s.heap.size = A at hD ⊢
  have hA : ∀ q : Nat, s.heap.size ≤ q → A q := fun q h => by rw [← hAe]; exact Or.inr h
  have hS : va_S A s.heap s.heap [] := va_S.rf
  have hl := lv_entry ([.ref x, .int n, .int n2]) (n := 3) (Nat.le_of_ble_eq_true rfl)
  rw [lg_entry_eq]
  generalize (lg_sl ([.ref x, .int n, .int n2]) ++ List.replicate (3 - (lg_sl ([.ref x, .int n, .int n2])).length) Slot.unset).toArray = ls at hl ⊢
  have hl : lv_has ls 3 [(0, .ref x), (1, .int n), (2, .int n2)] := hl
  refine lv_aload_n hx hb dX11_round_0 rfl (lv_at hl 0 rfl) ?_
  refine va_get (ci := 11) (v := .ref (h 1)) (C := RX11) (T := TX11) (N := 14) hx hb ht iX11 hown hK hP 0 rfl rfl 2 (by decide) (ht _ k_82) (fun _ h9 => h9) rfl dX11_round_1 ?_
  refine lv_iload_n hx hb dX11_round_4 rfl (lv_at hl 1 rfl) ?_
  have hFc := fr_new hS hA
  have hPc := hP.sub (ws' := [((h 1), .inr (9, [.ref (h 10), .ref (h 11), .ref (h 12), .int 0, .ref (h 13), .int 0, .ref (h 14), .int 0, .ref (h 15)]))]) [2] rfl
  have hDc := hD.sub (ws' := [((h 1), .inr (9, [.ref (h 10), .ref (h 11), .ref (h 12), .int 0, .ref (h 13), .int 0, .ref (h 14), .int 0, .ref (h 15)]))]) [2] (by decide) rfl
  refine va_calli (va_runV (As := [.int n]) (rest := []) ⟨hx, hb, hml, hown, ht⟩ (c_hasTune l G cy _ (h 1) n (.ref (h 10)) (.ref (h 11)) (.ref (h 12)) (.ref (h 13)) (.int 0) (.ref (h 14)) (.int 0) (.ref (h 15)) ) (cwV 1 ht (gv k_186 k_187 k_188 k_78 k_185) rfl rfl rfl (by decide +kernel) ⟨Nat.le_of_ble_eq_true rfl, Nat.le_of_ble_eq_true rfl⟩) ⟨En.blind, va_recv hK hP (ci := 9) (q0 := 2) rfl rfl, fun U hU hW => ⟨rfl, En.of hU hW hPc hK hDc hN⟩⟩ rfl rfl hl.1 rfl (lv_room (Nat.le_of_ble_eq_true rfl)) dX11_round_5 ⟨Nat.le_of_ble_eq_true rfl, Nat.le_of_ble_eq_true rfl⟩) hS (fun q _ h => hFc q h) hFc (fun r_2 u_1 t H locs ht9 hvm hw hB hz1 hk1 hS => ?_)
  have hP := fr_keep hP hk1
  obtain rfl : r_2 = 0 := hw.1
  refine lv_if_eq (tgt := 22) hx hb dX11_round_8 (by decide) (fun _ => ?_) (fun c9 => absurd (by decide) c9)
  refine lv_iconst (v := (-1)) hx hb dX11_round_22 (by decide) ?_
  refine W.widen (k := 0) (n := 0) (Nat.le_of_ble_eq_true rfl) (Nat.le_of_ble_eq_true rfl) ?_
  exact W.iret (v := (-1)) hx hb hr (fun t ht9 hW => ⟨⟨(-1), (), rfl, ⟨rfl, trivial⟩, trivial⟩, hS.F ht9⟩) hS.2.2 dX11_round_23
set_option maxHeartbeats 4000000 in
set_option maxRecDepth 100000 in
theorem x_good (l : Launch) (G : va_G) (cy : Nat → ClassId) (sz : Nat) (x : Nat) (h : Nat → Nat) (n : Int32) (n2 : Int32)  : Met l yX11_good (.code yX11_good cX11_good 4 (some .int) :: TBg) ({ frames := 2, cells := 0, slots := 0, locals := 128 }) (va_Pc [.ref x, .int n, .int n2] (En G cy (WX cy x h) sz)) (va_Qi (fun (r : Int32) (_ : Unit) => r = (-1) ∧ True) (fun _ _ => True) (va_A (WX cy x h) sz)) 0 0 (va_A (WX cy x h) sz) := by
  refine Met.ofW (cc := cX11_good) (maxL := 4) (ret := (some .int)) (by decide) rfl ?_
  intro p e s m args below meth c s₁ B hml hv
  obtain ⟨rfl, hsz, hP, hK, hD0, hN⟩ := hv
  have hx := B.exec
  have hb := B.bytes
  have hr := B.returns
  have hts := atoms_spec (ws := .code yX11_good cX11_good 4 (some .int) :: TBg) B.pre
  have ht : ∀ w ∈ TBg, w.before _ s = true := fun w h => hts w (List.mem_cons_of_mem _ h)
  have hown : s.vm.findClass RX11 = some m.cls := findClass_of_methodNamed B.named
  have hlocks := B.notSynchronized
  subst hsz
  have hD := hD0.self (sz := s.heap.size)
  generalize hAe : va_A (WX cy x h) s.heap.size = A at hD ⊢
  have hA : ∀ q : Nat, s.heap.size ≤ q → A q := fun q h => by rw [← hAe]; exact Or.inr h
  have hS : va_S A s.heap s.heap [] := va_S.rf
  have hl := lv_entry ([.ref x, .int n, .int n2]) (n := 4) (Nat.le_of_ble_eq_true rfl)
  rw [lg_entry_eq]
  generalize (lg_sl ([.ref x, .int n, .int n2]) ++ List.replicate (4 - (lg_sl ([.ref x, .int n, .int n2])).length) Slot.unset).toArray = ls at hl ⊢
  have hl : lv_has ls 4 [(0, .ref x), (1, .int n), (2, .int n2)] := hl
  refine lv_aload_n hx hb dX11_good_0 rfl (lv_at hl 0 rfl) ?_
  refine va_get (ci := 11) (v := .ref (h 1)) (C := RX11) (T := TX11) (N := 14) hx hb ht iX11 hown hK hP 0 rfl rfl 2 (by decide) (ht _ k_82) (fun _ h9 => h9) rfl dX11_good_1 ?_
  refine lv_iload_n hx hb dX11_good_4 rfl (lv_at hl 1 rfl) ?_
  have hFc := fr_new hS hA
  have hPc := hP.sub (ws' := [((h 1), .inr (9, [.ref (h 10), .ref (h 11), .ref (h 12), .int 0, .ref (h 13), .int 0, .ref (h 14), .int 0, .ref (h 15)]))]) [2] rfl
  have hDc := hD.sub (ws' := [((h 1), .inr (9, [.ref (h 10), .ref (h 11), .ref (h 12), .int 0, .ref (h 13), .int 0, .ref (h 14), .int 0, .ref (h 15)]))]) [2] (by decide) rfl
  refine va_calli (va_runV (As := [.int n]) (rest := []) ⟨hx, hb, hml, hown, ht⟩ (c_hasTune l G cy _ (h 1) n (.ref (h 10)) (.ref (h 11)) (.ref (h 12)) (.ref (h 13)) (.int 0) (.ref (h 14)) (.int 0) (.ref (h 15)) ) (cwV 1 ht (gv k_186 k_187 k_188 k_78 k_185) rfl rfl rfl (by decide +kernel) ⟨Nat.le_of_ble_eq_true rfl, Nat.le_of_ble_eq_true rfl⟩) ⟨En.blind, va_recv hK hP (ci := 9) (q0 := 2) rfl rfl, fun U hU hW => ⟨rfl, En.of hU hW hPc hK hDc hN⟩⟩ rfl rfl hl.1 rfl (lv_room (Nat.le_of_ble_eq_true rfl)) dX11_good_5 ⟨Nat.le_of_ble_eq_true rfl, Nat.le_of_ble_eq_true rfl⟩) hS (fun q _ h => hFc q h) hFc (fun r_2 u_1 t H locs ht9 hvm hw hB hz1 hk1 hS => ?_)
  have hP := fr_keep hP hk1
  obtain rfl : r_2 = 0 := hw.1
  refine lv_if_eq (tgt := 20) hx hb dX11_good_8 (by decide) (fun _ => ?_) (fun c9 => absurd (by decide) c9)
  refine lv_iconst (v := (-1)) hx hb dX11_good_20 (by decide) ?_
  refine W.widen (k := 0) (n := 0) (Nat.le_of_ble_eq_true rfl) (Nat.le_of_ble_eq_true rfl) ?_
  exact W.iret (v := (-1)) hx hb hr (fun t ht9 hW => ⟨⟨(-1), (), rfl, ⟨rfl, trivial⟩, trivial⟩, hS.F ht9⟩) hS.2.2 dX11_good_21
set_option maxHeartbeats 4000000 in
set_option maxRecDepth 100000 in
theorem x_deaf (l : Launch) (G : va_G) (cy : Nat → ClassId) (sz : Nat) (x : Nat) (h : Nat → Nat) (n : Int32) (n2 : Int32) (n3 : Int32)  : Met l yX11_deaf (.code yX11_deaf cX11_deaf 8 (some .int) :: TBg) ({ frames := 2, cells := 0, slots := 0, locals := 128 }) (va_Pc [.ref x, .int n, .int n2, .int n3] (En G cy (WX cy x h) sz)) (va_Qi (fun (r : Int32) (_ : Unit) => r = (-1) ∧ True) (fun _ _ => True) (va_A (WX cy x h) sz)) 0 0 (va_A (WX cy x h) sz) := by
  refine Met.ofW (cc := cX11_deaf) (maxL := 8) (ret := (some .int)) (by decide) rfl ?_
  intro p e s m args below meth c s₁ B hml hv
  obtain ⟨rfl, hsz, hP, hK, hD0, hN⟩ := hv
  have hx := B.exec
  have hb := B.bytes
  have hr := B.returns
  have hts := atoms_spec (ws := .code yX11_deaf cX11_deaf 8 (some .int) :: TBg) B.pre
  have ht : ∀ w ∈ TBg, w.before _ s = true := fun w h => hts w (List.mem_cons_of_mem _ h)
  have hown : s.vm.findClass RX11 = some m.cls := findClass_of_methodNamed B.named
  have hlocks := B.notSynchronized
  subst hsz
  have hD := hD0.self (sz := s.heap.size)
  generalize hAe : va_A (WX cy x h) s.heap.size = A at hD ⊢
  have hA : ∀ q : Nat, s.heap.size ≤ q → A q := fun q h => by rw [← hAe]; exact Or.inr h
  have hS : va_S A s.heap s.heap [] := va_S.rf
  have hl := lv_entry ([.ref x, .int n, .int n2, .int n3]) (n := 8) (Nat.le_of_ble_eq_true rfl)
  rw [lg_entry_eq]
  generalize (lg_sl ([.ref x, .int n, .int n2, .int n3]) ++ List.replicate (8 - (lg_sl ([.ref x, .int n, .int n2, .int n3])).length) Slot.unset).toArray = ls at hl ⊢
  have hl : lv_has ls 8 [(0, .ref x), (1, .int n), (2, .int n2), (3, .int n3)] := hl
  refine lv_aload_n hx hb dX11_deaf_0 rfl (lv_at hl 0 rfl) ?_
  refine va_get (ci := 11) (v := .ref (h 1)) (C := RX11) (T := TX11) (N := 14) hx hb ht iX11 hown hK hP 0 rfl rfl 2 (by decide) (ht _ k_82) (fun _ h9 => h9) rfl dX11_deaf_1 ?_
  refine lv_iload_n hx hb dX11_deaf_4 rfl (lv_at hl 1 rfl) ?_
  have hFc := fr_new hS hA
  have hPc := hP.sub (ws' := [((h 1), .inr (9, [.ref (h 10), .ref (h 11), .ref (h 12), .int 0, .ref (h 13), .int 0, .ref (h 14), .int 0, .ref (h 15)]))]) [2] rfl
  have hDc := hD.sub (ws' := [((h 1), .inr (9, [.ref (h 10), .ref (h 11), .ref (h 12), .int 0, .ref (h 13), .int 0, .ref (h 14), .int 0, .ref (h 15)]))]) [2] (by decide) rfl
  refine va_calli (va_runV (As := [.int n]) (rest := []) ⟨hx, hb, hml, hown, ht⟩ (c_hasTune l G cy _ (h 1) n (.ref (h 10)) (.ref (h 11)) (.ref (h 12)) (.ref (h 13)) (.int 0) (.ref (h 14)) (.int 0) (.ref (h 15)) ) (cwV 1 ht (gv k_186 k_187 k_188 k_78 k_185) rfl rfl rfl (by decide +kernel) ⟨Nat.le_of_ble_eq_true rfl, Nat.le_of_ble_eq_true rfl⟩) ⟨En.blind, va_recv hK hP (ci := 9) (q0 := 2) rfl rfl, fun U hU hW => ⟨rfl, En.of hU hW hPc hK hDc hN⟩⟩ rfl rfl hl.1 rfl (lv_room (Nat.le_of_ble_eq_true rfl)) dX11_deaf_5 ⟨Nat.le_of_ble_eq_true rfl, Nat.le_of_ble_eq_true rfl⟩) hS (fun q _ h => hFc q h) hFc (fun r_2 u_1 t H locs ht9 hvm hw hB hz1 hk1 hS => ?_)
  have hP := fr_keep hP hk1
  obtain rfl : r_2 = 0 := hw.1
  refine lv_if_eq (tgt := 32) hx hb dX11_deaf_8 (by decide) (fun _ => ?_) (fun c9 => absurd (by decide) c9)
  refine lv_iconst (v := (-1)) hx hb dX11_deaf_32 (by decide) ?_
  refine W.widen (k := 0) (n := 0) (Nat.le_of_ble_eq_true rfl) (Nat.le_of_ble_eq_true rfl) ?_
  exact W.iret (v := (-1)) hx hb hr (fun t ht9 hW => ⟨⟨(-1), (), rfl, ⟨rfl, trivial⟩, trivial⟩, hS.F ht9⟩) hS.2.2 dX11_deaf_33
set_option maxHeartbeats 4000000 in
set_option maxRecDepth 100000 in
theorem x_least (l : Launch) (G : va_G) (cy : Nat → ClassId) (sz : Nat) (x : Nat) (h : Nat → Nat) (n : Int32) (n2 : Int32)  : Met l yX11_least (.code yX11_least cX11_least 6 (some .int) :: TBg) ({ frames := 2, cells := 0, slots := 0, locals := 128 }) (va_Pc [.ref x, .int n, .int n2] (En G cy (WX cy x h) sz)) (va_Qi (fun (r : Int32) (_ : Unit) => r = (-1) ∧ True) (fun _ _ => True) (va_A (WX cy x h) sz)) 0 0 (va_A (WX cy x h) sz) := by
  refine Met.ofW (cc := cX11_least) (maxL := 6) (ret := (some .int)) (by decide) rfl ?_
  intro p e s m args below meth c s₁ B hml hv
  obtain ⟨rfl, hsz, hP, hK, hD0, hN⟩ := hv
  have hx := B.exec
  have hb := B.bytes
  have hr := B.returns
  have hts := atoms_spec (ws := .code yX11_least cX11_least 6 (some .int) :: TBg) B.pre
  have ht : ∀ w ∈ TBg, w.before _ s = true := fun w h => hts w (List.mem_cons_of_mem _ h)
  have hown : s.vm.findClass RX11 = some m.cls := findClass_of_methodNamed B.named
  have hlocks := B.notSynchronized
  subst hsz
  have hD := hD0.self (sz := s.heap.size)
  generalize hAe : va_A (WX cy x h) s.heap.size = A at hD ⊢
  have hA : ∀ q : Nat, s.heap.size ≤ q → A q := fun q h => by rw [← hAe]; exact Or.inr h
  have hS : va_S A s.heap s.heap [] := va_S.rf
  have hl := lv_entry ([.ref x, .int n, .int n2]) (n := 6) (Nat.le_of_ble_eq_true rfl)
  rw [lg_entry_eq]
  generalize (lg_sl ([.ref x, .int n, .int n2]) ++ List.replicate (6 - (lg_sl ([.ref x, .int n, .int n2])).length) Slot.unset).toArray = ls at hl ⊢
  have hl : lv_has ls 6 [(0, .ref x), (1, .int n), (2, .int n2)] := hl
  refine lv_aload_n hx hb dX11_least_0 rfl (lv_at hl 0 rfl) ?_
  refine va_get (ci := 11) (v := .ref (h 1)) (C := RX11) (T := TX11) (N := 14) hx hb ht iX11 hown hK hP 0 rfl rfl 2 (by decide) (ht _ k_82) (fun _ h9 => h9) rfl dX11_least_1 ?_
  refine lv_iload_n hx hb dX11_least_4 rfl (lv_at hl 1 rfl) ?_
  have hFc := fr_new hS hA
  have hPc := hP.sub (ws' := [((h 1), .inr (9, [.ref (h 10), .ref (h 11), .ref (h 12), .int 0, .ref (h 13), .int 0, .ref (h 14), .int 0, .ref (h 15)]))]) [2] rfl
  have hDc := hD.sub (ws' := [((h 1), .inr (9, [.ref (h 10), .ref (h 11), .ref (h 12), .int 0, .ref (h 13), .int 0, .ref (h 14), .int 0, .ref (h 15)]))]) [2] (by decide) rfl
  refine va_calli (va_runV (As := [.int n]) (rest := []) ⟨hx, hb, hml, hown, ht⟩ (c_hasLock l G cy _ (h 1) n (.ref (h 10)) (.ref (h 11)) (.ref (h 12)) (.int 0) (.ref (h 13)) (.ref (h 14)) (.int 0) (.ref (h 15)) ) (cwV 1 ht (gv k_191 k_192 k_193 k_78 k_190) rfl rfl rfl (by decide +kernel) ⟨Nat.le_of_ble_eq_true rfl, Nat.le_of_ble_eq_true rfl⟩) ⟨En.blind, va_recv hK hP (ci := 9) (q0 := 2) rfl rfl, fun U hU hW => ⟨rfl, En.of hU hW hPc hK hDc hN⟩⟩ rfl rfl hl.1 rfl (lv_room (Nat.le_of_ble_eq_true rfl)) dX11_least_5 ⟨Nat.le_of_ble_eq_true rfl, Nat.le_of_ble_eq_true rfl⟩) hS (fun q _ h => hFc q h) hFc (fun r_2 u_1 t H locs ht9 hvm hw hB hz1 hk1 hS => ?_)
  have hP := fr_keep hP hk1
  obtain rfl : r_2 = 0 := hw.1
  refine lv_if_ne (tgt := 13) hx hb dX11_least_8 (by decide) (fun c9 => absurd (by decide) c9) (fun _ => ?_)
  refine lv_iconst (v := (-1)) hx hb dX11_least_11 (by decide) ?_
  refine W.widen (k := 0) (n := 0) (Nat.le_of_ble_eq_true rfl) (Nat.le_of_ble_eq_true rfl) ?_
  exact W.iret (v := (-1)) hx hb hr (fun t ht9 hW => ⟨⟨(-1), (), rfl, ⟨rfl, trivial⟩, trivial⟩, hS.F ht9⟩) hS.2.2 dX11_least_12
set_option maxHeartbeats 4000000 in
set_option maxRecDepth 100000 in
theorem c_singNote (l : Launch) (G : va_G) (cy : Nat → ClassId) (sz : Nat) (x : Nat) (h : Nat → Nat) (n1 : Int32) (n2 : Int32)  : Met l yX11_singNote (.code yX11_singNote cX11_singNote 6 (some .int) :: TBg) ({ frames := 2, cells := 0, slots := 0, locals := 128 }) (va_Pc [.ref x, .int n1, .int n2] (En G cy [(x, .inr (11, [.ref (h 0), .int 0, .ref (h 1), .ref (h 2), .int 0, .int (-1), .ref (h 3), .ref (h 4), .ref (h 5), .ref (h 6), .int 0, .ref (h 7), .ref (h 8), .ref (h 9)])), ((h 1), .inr (9, [.ref (h 10), .ref (h 11), .ref (h 12), .int 0, .ref (h 13), .int 0, .ref (h 14), .int 0, .ref (h 15)])), ((h 3), .inr (7, [.ref (h 30), .int 0, .int 0, .ref (h 31), .int 0])), ((h 30), .inr (8, [.ref (h 32), .ref (h 33), .int 0])), ((h 32), .inl (cy 0, 40, .inl (fun _ => 0))), ((h 33), .inl (cy 0, 40, .inl (fun _ => 0))), ((h 5), .inr (2, [.ref (h 34), .ref (h 35), .ref (h 36), .ref (h 37), .int 0]))] sz)) (va_Qi (fun (r : Int32) (_ : Unit) => r = 0 ∧ True) (fun _ _ => True) (va_A [(x, .inr (11, [.ref (h 0), .int 0, .ref (h 1), .ref (h 2), .int 0, .int (-1), .ref (h 3), .ref (h 4), .ref (h 5), .ref (h 6), .int 0, .ref (h 7), .ref (h 8), .ref (h 9)])), ((h 1), .inr (9, [.ref (h 10), .ref (h 11), .ref (h 12), .int 0, .ref (h 13), .int 0, .ref (h 14), .int 0, .ref (h 15)])), ((h 3), .inr (7, [.ref (h 30), .int 0, .int 0, .ref (h 31), .int 0])), ((h 30), .inr (8, [.ref (h 32), .ref (h 33), .int 0])), ((h 32), .inl (cy 0, 40, .inl (fun _ => 0))), ((h 33), .inl (cy 0, 40, .inl (fun _ => 0))), ((h 5), .inr (2, [.ref (h 34), .ref (h 35), .ref (h 36), .ref (h 37), .int 0]))] sz)) 0 0 (va_A [(x, .inr (11, [.ref (h 0), .int 0, .ref (h 1), .ref (h 2), .int 0, .int (-1), .ref (h 3), .ref (h 4), .ref (h 5), .ref (h 6), .int 0, .ref (h 7), .ref (h 8), .ref (h 9)])), ((h 1), .inr (9, [.ref (h 10), .ref (h 11), .ref (h 12), .int 0, .ref (h 13), .int 0, .ref (h 14), .int 0, .ref (h 15)])), ((h 3), .inr (7, [.ref (h 30), .int 0, .int 0, .ref (h 31), .int 0])), ((h 30), .inr (8, [.ref (h 32), .ref (h 33), .int 0])), ((h 32), .inl (cy 0, 40, .inl (fun _ => 0))), ((h 33), .inl (cy 0, 40, .inl (fun _ => 0))), ((h 5), .inr (2, [.ref (h 34), .ref (h 35), .ref (h 36), .ref (h 37), .int 0]))] sz) := by
  refine Met.ofW (cc := cX11_singNote) (maxL := 6) (ret := (some .int)) (by decide) rfl ?_
  intro p e s m args below meth c s₁ B hml hv
  obtain ⟨rfl, hsz, hP, hK, hD0, hN⟩ := hv
  have hx := B.exec
  have hb := B.bytes
  have hr := B.returns
  have hts := atoms_spec (ws := .code yX11_singNote cX11_singNote 6 (some .int) :: TBg) B.pre
  have ht : ∀ w ∈ TBg, w.before _ s = true := fun w h => hts w (List.mem_cons_of_mem _ h)
  have hown : s.vm.findClass RX11 = some m.cls := findClass_of_methodNamed B.named
  have hlocks := B.notSynchronized
  subst hsz
  have hD := hD0.self (sz := s.heap.size)
  generalize hAe : va_A [(x, .inr (11, [.ref (h 0), .int 0, .ref (h 1), .ref (h 2), .int 0, .int (-1), .ref (h 3), .ref (h 4), .ref (h 5), .ref (h 6), .int 0, .ref (h 7), .ref (h 8), .ref (h 9)])), ((h 1), .inr (9, [.ref (h 10), .ref (h 11), .ref (h 12), .int 0, .ref (h 13), .int 0, .ref (h 14), .int 0, .ref (h 15)])), ((h 3), .inr (7, [.ref (h 30), .int 0, .int 0, .ref (h 31), .int 0])), ((h 30), .inr (8, [.ref (h 32), .ref (h 33), .int 0])), ((h 32), .inl (cy 0, 40, .inl (fun _ => 0))), ((h 33), .inl (cy 0, 40, .inl (fun _ => 0))), ((h 5), .inr (2, [.ref (h 34), .ref (h 35), .ref (h 36), .ref (h 37), .int 0]))] s.heap.size = A at hD ⊢
  have hA : ∀ q : Nat, s.heap.size ≤ q → A q := fun q h => by rw [← hAe]; exact Or.inr h
  have hS : va_S A s.heap s.heap [] := va_S.rf
  have hl := lv_entry ([.ref x, .int n1, .int n2]) (n := 6) (Nat.le_of_ble_eq_true rfl)
  rw [lg_entry_eq]
  generalize (lg_sl ([.ref x, .int n1, .int n2]) ++ List.replicate (6 - (lg_sl ([.ref x, .int n1, .int n2])).length) Slot.unset).toArray = ls at hl ⊢
  have hl : lv_has ls 6 [(0, .ref x), (1, .int n1), (2, .int n2)] := hl
  refine lv_aload_n hx hb dX11_singNote_0 rfl (lv_at hl 0 rfl) ?_
  refine va_get (ci := 11) (v := .ref (h 3)) (C := RX11) (T := TX11) (N := 14) hx hb ht iX11 hown hK hP 0 rfl rfl 6 (by decide) (ht _ k_90) (fun _ h9 => h9) rfl dX11_singNote_1 ?_
  refine va_getN (host := "TuneLocks") (ci := 7) (v := .ref (h 30)) (C := RX7) (T := TX7) (N := 5) hx hb ht iX7 hown hK hP 2 rfl rfl 0 (by decide) (va_Nw.use rfl (hN.1 _ ns_0)) (fun _ h9 => h9) rfl dX11_singNote_4 ?_
  refine lv_iload_n hx hb dX11_singNote_7 rfl (lv_at hl 1 rfl) ?_
  refine lv_iload_n hx hb dX11_singNote_8 rfl (lv_at hl 2 rfl) ?_
  have hFc := va_free (wc := [((h 30), .inr (8, [.ref (h 32), .ref (h 33), .int 0])), ((h 32), .inl (cy 0, 40, .inl (fun _ => 0))), ((h 33), .inl (cy 0, 40, .inl (fun _ => 0)))]) hD hS hA [3, 4, 5] rfl
  have hPc := hP.sub (ws' := [((h 30), .inr (8, [.ref (h 32), .ref (h 33), .int 0])), ((h 32), .inl (cy 0, 40, .inl (fun _ => 0))), ((h 33), .inl (cy 0, 40, .inl (fun _ => 0)))]) [3, 4, 5] rfl
  have hDc := hD.sub (ws' := [((h 30), .inr (8, [.ref (h 32), .ref (h 33), .int 0])), ((h 32), .inl (cy 0, 40, .inl (fun _ => 0))), ((h 33), .inl (cy 0, 40, .inl (fun _ => 0)))]) [3, 4, 5] (by decide) rfl
  refine va_callv (va_runV (As := [.int n1, .int n2]) (rest := []) ⟨hx, hb, hml, hown, ht⟩ (c_add l G cy _ (h 30) n1 n2 (h 32) (h 33) (fun _ => 0) (fun _ => 0) ) (cwV 2 ht (gv k_215 k_216 k_217 k_41 k_214) rfl rfl rfl (by decide +kernel) ⟨Nat.le_of_ble_eq_true rfl, Nat.le_of_ble_eq_true rfl⟩) ⟨En.blind, va_recv hK hP (ci := 8) (q0 := 3) rfl rfl, fun U hU hW => ⟨rfl, En.of hU hW hPc hK hDc hN⟩⟩ rfl rfl hl.1 rfl (lv_room (Nat.le_of_ble_eq_true rfl)) dX11_singNote_9 ⟨Nat.le_of_ble_eq_true rfl, Nat.le_of_ble_eq_true rfl⟩) hS (fun q _ h => hFc q h) hFc (fun u_1 t H locs ht9 hvm hw hB hz1 hk1 hS => ?_)
  obtain ⟨hP1, hD1⟩ := hB
  rw [ht9] at hP1
  obtain ⟨hP, hD⟩ := fr_put (wc := [((h 30), .inr (8, [.ref (h 32), .ref (h 33), .int 0])), ((h 32), .inl (cy 0, 40, .inl (fun _ => 0))), ((h 33), .inl (cy 0, 40, .inl (fun _ => 0)))]) (w1 := [((h 30), .inr (8, [.ref (h 32), .ref (h 33), .int 1])), ((h 32), .inl (cy 0, 40, .inl (u_1 0))), ((h 33), .inl (cy 0, 40, .inl (u_1 1)))]) hP hD [3, 4, 5] rfl rfl rfl hk1 hP1
  clear hFc hPc hDc hP1 hD1 hz1 hk1
  have hP : va_P G vwCl [(x, .inr (11, [.ref (h 0), .int 0, .ref (h 1), .ref (h 2), .int 0, .int (-1), .ref (h 3), .ref (h 4), .ref (h 5), .ref (h 6), .int 0, .ref (h 7), .ref (h 8), .ref (h 9)])), ((h 1), .inr (9, [.ref (h 10), .ref (h 11), .ref (h 12), .int 0, .ref (h 13), .int 0, .ref (h 14), .int 0, .ref (h 15)])), ((h 3), .inr (7, [.ref (h 30), .int 0, .int 0, .ref (h 31), .int 0])), ((h 30), .inr (8, [.ref (h 32), .ref (h 33), .int 1])), ((h 32), .inl (cy 0, 40, .inl (u_1 0))), ((h 33), .inl (cy 0, 40, .inl (u_1 1))), ((h 5), .inr (2, [.ref (h 34), .ref (h 35), .ref (h 36), .ref (h 37), .int 0]))] H := hP
  have hD : va_D A [(x, .inr (11, [.ref (h 0), .int 0, .ref (h 1), .ref (h 2), .int 0, .int (-1), .ref (h 3), .ref (h 4), .ref (h 5), .ref (h 6), .int 0, .ref (h 7), .ref (h 8), .ref (h 9)])), ((h 1), .inr (9, [.ref (h 10), .ref (h 11), .ref (h 12), .int 0, .ref (h 13), .int 0, .ref (h 14), .int 0, .ref (h 15)])), ((h 3), .inr (7, [.ref (h 30), .int 0, .int 0, .ref (h 31), .int 0])), ((h 30), .inr (8, [.ref (h 32), .ref (h 33), .int 1])), ((h 32), .inl (cy 0, 40, .inl (u_1 0))), ((h 33), .inl (cy 0, 40, .inl (u_1 1))), ((h 5), .inr (2, [.ref (h 34), .ref (h 35), .ref (h 36), .ref (h 37), .int 0]))] := hD
  refine lv_aload_n hx hb dX11_singNote_12 rfl (lv_at hl 0 rfl) ?_
  refine va_get (ci := 11) (v := .ref (h 5)) (C := RX11) (T := TX11) (N := 14) hx hb ht iX11 hown hK hP 0 rfl rfl 8 (by decide) (ht _ k_93) (fun _ h9 => h9) rfl dX11_singNote_13 ?_
  refine lv_aload_n hx hb dX11_singNote_16 rfl (lv_at hl 0 rfl) ?_
  refine va_get (ci := 11) (v := .ref (h 3)) (C := RX11) (T := TX11) (N := 14) hx hb ht iX11 hown hK hP 0 rfl rfl 6 (by decide) (ht _ k_90) (fun _ h9 => h9) rfl dX11_singNote_17 ?_
  refine va_getN (host := "TuneLocks") (ci := 7) (v := .ref (h 30)) (C := RX7) (T := TX7) (N := 5) hx hb ht iX7 hown hK hP 2 rfl rfl 0 (by decide) (va_Nw.use rfl (hN.1 _ ns_0)) (fun _ h9 => h9) rfl dX11_singNote_20 ?_
  refine lv_aload_n hx hb dX11_singNote_23 rfl (lv_at hl 0 rfl) ?_
  refine va_get (ci := 11) (v := .ref (h 1)) (C := RX11) (T := TX11) (N := 14) hx hb ht iX11 hown hK hP 0 rfl rfl 2 (by decide) (ht _ k_82) (fun _ h9 => h9) rfl dX11_singNote_24 ?_
  have hFc := va_free (wc := [((h 5), .inr (2, [.ref (h 34), .ref (h 35), .ref (h 36), .ref (h 37), .int 0])), ((h 30), .inr (8, [.ref (h 32), .ref (h 33), .int 1])), ((h 1), .inr (9, [.ref (h 10), .ref (h 11), .ref (h 12), .int 0, .ref (h 13), .int 0, .ref (h 14), .int 0, .ref (h 15)]))]) hD hS hA [6, 3, 1] rfl
  have hPc := hP.sub (ws' := [((h 5), .inr (2, [.ref (h 34), .ref (h 35), .ref (h 36), .ref (h 37), .int 0])), ((h 30), .inr (8, [.ref (h 32), .ref (h 33), .int 1])), ((h 1), .inr (9, [.ref (h 10), .ref (h 11), .ref (h 12), .int 0, .ref (h 13), .int 0, .ref (h 14), .int 0, .ref (h 15)]))]) [6, 3, 1] rfl
  have hDc := hD.sub (ws' := [((h 5), .inr (2, [.ref (h 34), .ref (h 35), .ref (h 36), .ref (h 37), .int 0])), ((h 30), .inr (8, [.ref (h 32), .ref (h 33), .int 1])), ((h 1), .inr (9, [.ref (h 10), .ref (h 11), .ref (h 12), .int 0, .ref (h 13), .int 0, .ref (h 14), .int 0, .ref (h 15)]))]) [6, 3, 1] (by decide) rfl
  refine va_callv (va_runV (As := [.ref (h 30), .ref (h 1)]) (rest := []) ⟨hx, hb, hml, hown, ht⟩ (c_hearLast l G cy _ (h 5) (h 30) (h 1) (.ref (h 10)) (.ref (h 11)) (.ref (h 12)) (.ref (h 13)) (.int 0) (.ref (h 14)) (.int 0) (.ref (h 15)) (.ref (h 34)) (.ref (h 35)) (.ref (h 36)) (.ref (h 37)) (.int 0) (.ref (h 32)) (.ref (h 33)) ) (cwV 2 ht (gv k_219 k_220 k_221 k_66 k_218) rfl rfl rfl (by decide +kernel) ⟨Nat.le_of_ble_eq_true rfl, Nat.le_of_ble_eq_true rfl⟩) ⟨En.blind, va_recv hK hP (ci := 2) (q0 := 6) rfl rfl, fun U hU hW => ⟨rfl, En.of hU hW hPc hK hDc hN⟩⟩ rfl rfl hl.1 rfl (lv_room (Nat.le_of_ble_eq_true rfl)) dX11_singNote_27 ⟨Nat.le_of_ble_eq_true rfl, Nat.le_of_ble_eq_true rfl⟩) hS (fun q _ h => hFc q h) hFc (fun u_2 t H locs ht9 hvm hw hB hz1 hk1 hS => ?_)
  obtain ⟨hP1, hD1⟩ := hB
  rw [ht9] at hP1
  obtain ⟨hP, hD⟩ := fr_put (wc := [((h 5), .inr (2, [.ref (h 34), .ref (h 35), .ref (h 36), .ref (h 37), .int 0])), ((h 30), .inr (8, [.ref (h 32), .ref (h 33), .int 1])), ((h 1), .inr (9, [.ref (h 10), .ref (h 11), .ref (h 12), .int 0, .ref (h 13), .int 0, .ref (h 14), .int 0, .ref (h 15)]))]) (w1 := [((h 5), .inr (2, [.ref (h 34), .ref (h 35), .ref (h 36), .ref (h 37), .int 1])), ((h 30), .inr (8, [.ref (h 32), .ref (h 33), .int 1])), ((h 1), .inr (9, [.ref (h 10), .ref (h 11), .ref (h 12), .int 0, .ref (h 13), .int 0, .ref (h 14), .int 0, .ref (h 15)]))]) hP hD [6, 3, 1] rfl rfl rfl hk1 hP1
  clear hFc hPc hDc hP1 hD1 hz1 hk1
  have hP : va_P G vwCl [(x, .inr (11, [.ref (h 0), .int 0, .ref (h 1), .ref (h 2), .int 0, .int (-1), .ref (h 3), .ref (h 4), .ref (h 5), .ref (h 6), .int 0, .ref (h 7), .ref (h 8), .ref (h 9)])), ((h 1), .inr (9, [.ref (h 10), .ref (h 11), .ref (h 12), .int 0, .ref (h 13), .int 0, .ref (h 14), .int 0, .ref (h 15)])), ((h 3), .inr (7, [.ref (h 30), .int 0, .int 0, .ref (h 31), .int 0])), ((h 30), .inr (8, [.ref (h 32), .ref (h 33), .int 1])), ((h 32), .inl (cy 0, 40, .inl (u_1 0))), ((h 33), .inl (cy 0, 40, .inl (u_1 1))), ((h 5), .inr (2, [.ref (h 34), .ref (h 35), .ref (h 36), .ref (h 37), .int 1]))] H := hP
  have hD : va_D A [(x, .inr (11, [.ref (h 0), .int 0, .ref (h 1), .ref (h 2), .int 0, .int (-1), .ref (h 3), .ref (h 4), .ref (h 5), .ref (h 6), .int 0, .ref (h 7), .ref (h 8), .ref (h 9)])), ((h 1), .inr (9, [.ref (h 10), .ref (h 11), .ref (h 12), .int 0, .ref (h 13), .int 0, .ref (h 14), .int 0, .ref (h 15)])), ((h 3), .inr (7, [.ref (h 30), .int 0, .int 0, .ref (h 31), .int 0])), ((h 30), .inr (8, [.ref (h 32), .ref (h 33), .int 1])), ((h 32), .inl (cy 0, 40, .inl (u_1 0))), ((h 33), .inl (cy 0, 40, .inl (u_1 1))), ((h 5), .inr (2, [.ref (h 34), .ref (h 35), .ref (h 36), .ref (h 37), .int 1]))] := hD
  refine lv_iconst (v := 0) hx hb dX11_singNote_30 (by decide) ?_
  refine lv_istore_n (lv' := [(3, .int 0), (0, .ref x), (1, .int n1), (2, .int n2)]) hx hb dX11_singNote_31 rfl hl (by decide) rfl (fun ls hl => ?_)
  refine lv_iconst (v := 0) hx hb dX11_singNote_32 (by decide) ?_
  refine lv_istore (lv' := [(4, .int 0), (3, .int 0), (0, .ref x), (1, .int n1), (2, .int n2)]) hx hb dX11_singNote_33 hl (by decide) rfl (fun ls hl => ?_)
  refine lv_iload hx hb dX11_singNote_35 (lv_at hl 0 rfl) ?_
  refine lv_aload_n hx hb dX11_singNote_37 rfl (lv_at hl 2 rfl) ?_
  refine va_get (ci := 11) (v := .ref (h 1)) (C := RX11) (T := TX11) (N := 14) hx hb ht iX11 hown hK hP 0 rfl rfl 2 (by decide) (ht _ k_82) (fun _ h9 => h9) rfl dX11_singNote_38 ?_
  refine va_getN (host := "TuneLocks") (ci := 9) (v := .int 0) (C := RX9) (T := TX9) (N := 9) hx hb ht iX9 hown hK hP 1 rfl rfl 5 (by decide) (va_Nw.use rfl (hN.1 _ ns_1)) (fun _ h9 => h9) rfl dX11_singNote_41 ?_
  refine lv_icmp_ge (tgt := 134) hx hb dX11_singNote_44 (by decide) (fun _ => ?_) (fun c9 => absurd (by decide) c9)
  refine lv_aload_n hx hb dX11_singNote_134 rfl (lv_at hl 2 rfl) ?_
  refine va_get (ci := 11) (v := .ref (h 3)) (C := RX11) (T := TX11) (N := 14) hx hb ht iX11 hown hK hP 0 rfl rfl 6 (by decide) (ht _ k_90) (fun _ h9 => h9) rfl dX11_singNote_135 ?_
  refine lv_dup hx hb dX11_singNote_138 rfl ?_
  refine va_getN (host := "TuneLocks") (ci := 7) (v := .int 0) (C := RX7) (T := TX7) (N := 5) hx hb ht iX7 hown hK hP 2 rfl rfl 2 (by decide) (va_Nw.use rfl (hN.1 _ ns_10)) (fun _ h9 => h9) rfl dX11_singNote_139 ?_
  refine lv_iload_n hx hb dX11_singNote_142 rfl (lv_at hl 1 rfl) ?_
  refine lv_ior hx hb dX11_singNote_143 ?_
  refine ow_top 0 (by decide +kernel) ?_
  refine va_putN (host := "TuneLocks") (ci := 7) (v := .int 0) (ty := .int) (C := RX7) (T := TX7) (N := 5) hx hb ht iX7 tyX7 tyX7_ok nmX7 hown hK hP hD hS 2 rfl rfl 2 (by decide) (va_Nw.use rfl (hN.1 _ ns_10)) (fun _ h9 => h9) rfl (by decide +kernel) rfl rfl (Nat.le_of_ble_eq_true rfl) dX11_singNote_144 (fun H locs hP hD hS => ?_)
  have hP : va_P G vwCl [(x, .inr (11, [.ref (h 0), .int 0, .ref (h 1), .ref (h 2), .int 0, .int (-1), .ref (h 3), .ref (h 4), .ref (h 5), .ref (h 6), .int 0, .ref (h 7), .ref (h 8), .ref (h 9)])), ((h 1), .inr (9, [.ref (h 10), .ref (h 11), .ref (h 12), .int 0, .ref (h 13), .int 0, .ref (h 14), .int 0, .ref (h 15)])), ((h 3), .inr (7, [.ref (h 30), .int 0, .int 0, .ref (h 31), .int 0])), ((h 30), .inr (8, [.ref (h 32), .ref (h 33), .int 1])), ((h 32), .inl (cy 0, 40, .inl (u_1 0))), ((h 33), .inl (cy 0, 40, .inl (u_1 1))), ((h 5), .inr (2, [.ref (h 34), .ref (h 35), .ref (h 36), .ref (h 37), .int 1]))] H := hP
  have hD : va_D A [(x, .inr (11, [.ref (h 0), .int 0, .ref (h 1), .ref (h 2), .int 0, .int (-1), .ref (h 3), .ref (h 4), .ref (h 5), .ref (h 6), .int 0, .ref (h 7), .ref (h 8), .ref (h 9)])), ((h 1), .inr (9, [.ref (h 10), .ref (h 11), .ref (h 12), .int 0, .ref (h 13), .int 0, .ref (h 14), .int 0, .ref (h 15)])), ((h 3), .inr (7, [.ref (h 30), .int 0, .int 0, .ref (h 31), .int 0])), ((h 30), .inr (8, [.ref (h 32), .ref (h 33), .int 1])), ((h 32), .inl (cy 0, 40, .inl (u_1 0))), ((h 33), .inl (cy 0, 40, .inl (u_1 1))), ((h 5), .inr (2, [.ref (h 34), .ref (h 35), .ref (h 36), .ref (h 37), .int 1]))] := hD
  refine lv_iload_n hx hb dX11_singNote_147 rfl (lv_at hl 1 rfl) ?_
  refine W.widen (k := 0) (n := 0) (Nat.le_of_ble_eq_true rfl) (Nat.le_of_ble_eq_true rfl) ?_
  exact W.iret (v := 0) hx hb hr (fun t ht9 hW => ⟨⟨0, (), rfl, ⟨rfl, trivial⟩, trivial⟩, hS.F ht9⟩) hS.2.2 dX11_singNote_148
set_option maxHeartbeats 4000000 in
set_option maxRecDepth 100000 in
theorem x_sing (l : Launch) (G : va_G) (cy : Nat → ClassId) (sz : Nat) (x : Nat) (h : Nat → Nat) (n : Int32) (n2 : Int32)  : Met l yX11_sing (.code yX11_sing cX11_sing 3 (some .int) :: TBg) ({ frames := 3, cells := 0, slots := 0, locals := 192 }) (va_Pc [.ref x, .int n, .int n2] (En G cy (WX cy x h) sz)) (va_Qi (fun (r : Int32) (_ : Unit) => r = (sp_sing n n2) ∧ True) (fun _ _ => True) (va_A (WX cy x h) sz)) 0 0 (va_A (WX cy x h) sz) := by
  refine Met.ofW (cc := cX11_sing) (maxL := 3) (ret := (some .int)) (by decide) rfl ?_
  intro p e s m args below meth c s₁ B hml hv
  obtain ⟨rfl, hsz, hP, hK, hD0, hN⟩ := hv
  have hx := B.exec
  have hb := B.bytes
  have hr := B.returns
  have hts := atoms_spec (ws := .code yX11_sing cX11_sing 3 (some .int) :: TBg) B.pre
  have ht : ∀ w ∈ TBg, w.before _ s = true := fun w h => hts w (List.mem_cons_of_mem _ h)
  have hown : s.vm.findClass RX11 = some m.cls := findClass_of_methodNamed B.named
  have hlocks := B.notSynchronized
  subst hsz
  have hD := hD0.self (sz := s.heap.size)
  generalize hAe : va_A (WX cy x h) s.heap.size = A at hD ⊢
  have hA : ∀ q : Nat, s.heap.size ≤ q → A q := fun q h => by rw [← hAe]; exact Or.inr h
  have hS : va_S A s.heap s.heap [] := va_S.rf
  have hl := lv_entry ([.ref x, .int n, .int n2]) (n := 3) (Nat.le_of_ble_eq_true rfl)
  rw [lg_entry_eq]
  generalize (lg_sl ([.ref x, .int n, .int n2]) ++ List.replicate (3 - (lg_sl ([.ref x, .int n, .int n2])).length) Slot.unset).toArray = ls at hl ⊢
  have hl : lv_has ls 3 [(0, .ref x), (1, .int n), (2, .int n2)] := hl
  refine lv_iload_n hx hb dX11_sing_0 rfl (lv_at hl 1 rfl) ?_
  have hFc := fr_new hS hA
  have hPc := hP.sub (ws' := []) [] rfl
  have hDc := hD.sub (ws' := []) [] (by decide) rfl
  refine va_calli (va_runS (As := [.int n]) (rest := []) ⟨hx, hb, hml, hown, ht⟩ (c_canBeSung l G cy _ n ) (va_cwS 1 ht (gs k_223 k_224 k_183 k_222) rfl rfl rfl (by decide +kernel) ⟨Nat.le_of_ble_eq_true rfl, Nat.le_of_ble_eq_true rfl⟩) ⟨En.blind, fun U hU hW => ⟨rfl, En.of hU hW hPc hK hDc hN⟩⟩ rfl rfl hl.1 rfl (lv_room (Nat.le_of_ble_eq_true rfl)) dX11_sing_1 ⟨Nat.le_of_ble_eq_true rfl, Nat.le_of_ble_eq_true rfl⟩) hS (fun q _ h => hFc q h) hFc (fun r_2 u_1 t H locs ht9 hvm hw hB hz1 hk1 hS => ?_)
  have hP := fr_keep hP hk1
  have e_3 := hw.1
  refine lv_if_eq (tgt := 33) hx hb dX11_sing_4 (by decide) (fun c_4 => ?_) (fun c_4 => ?_)
  · skip
    have g_5 := ow_i0 e_3 c_4
    refine lv_iconst (v := (-1)) hx hb dX11_sing_33 (by decide) ?_
    refine W.widen (k := 0) (n := 0) (Nat.le_of_ble_eq_true rfl) (Nat.le_of_ble_eq_true rfl) ?_
    exact W.iret (v := (-1)) hx hb hr (fun t ht9 hW => ⟨⟨(-1), (), rfl, ⟨(by unfold sp_sing; have z0 : (0 : Int32).toInt = 0 := (by decide); have z1 : (1 : Int32).toInt = 1 := (by decide); have z2 : (9 : Int32).toInt = 9 := (by decide); have z3 : (60 : Int32).toInt = 60 := (by decide); split <;> first | rfl | (exfalso; rename_i hc9; (try simp only [ow_lt, ow_le, ow_eq, true_and, and_true] at hc9 g_5); omega)), trivial⟩, trivial⟩, hS.F ht9⟩) hS.2.2 dX11_sing_34
  · skip
    have g_6 := ow_i1 e_3 c_4
    refine lv_iload_n hx hb dX11_sing_7 rfl (lv_at hl 2 rfl) ?_
    refine lv_iconst (v := 1) hx hb dX11_sing_8 (by decide) ?_
    refine lv_icmp_lt (tgt := 33) hx hb dX11_sing_9 (by decide) (fun c_7 => ?_) (fun c_7 => ?_)
    · skip
      refine lv_iconst (v := (-1)) hx hb dX11_sing_33 (by decide) ?_
      refine W.widen (k := 0) (n := 0) (Nat.le_of_ble_eq_true rfl) (Nat.le_of_ble_eq_true rfl) ?_
      exact W.iret (v := (-1)) hx hb hr (fun t ht9 hW => ⟨⟨(-1), (), rfl, ⟨(by unfold sp_sing; have z0 : (0 : Int32).toInt = 0 := (by decide); have z1 : (1 : Int32).toInt = 1 := (by decide); have z2 : (9 : Int32).toInt = 9 := (by decide); have z3 : (60 : Int32).toInt = 60 := (by decide); split <;> first | rfl | (exfalso; rename_i hc9; (try simp only [ow_lt, ow_le, ow_eq, true_and, and_true] at hc9 g_6 c_7); omega)), trivial⟩, trivial⟩, hS.F ht9⟩) hS.2.2 dX11_sing_34
    · skip
      refine lv_iload_n hx hb dX11_sing_12 rfl (lv_at hl 2 rfl) ?_
      refine lv_bipush (v := 9) hx hb dX11_sing_13 (by decide) ?_
      refine lv_icmp_gt (tgt := 33) hx hb dX11_sing_15 (by decide) (fun c_8 => ?_) (fun c_8 => ?_)
      · skip
        refine lv_iconst (v := (-1)) hx hb dX11_sing_33 (by decide) ?_
        refine W.widen (k := 0) (n := 0) (Nat.le_of_ble_eq_true rfl) (Nat.le_of_ble_eq_true rfl) ?_
        exact W.iret (v := (-1)) hx hb hr (fun t ht9 hW => ⟨⟨(-1), (), rfl, ⟨(by unfold sp_sing; have z0 : (0 : Int32).toInt = 0 := (by decide); have z1 : (1 : Int32).toInt = 1 := (by decide); have z2 : (9 : Int32).toInt = 9 := (by decide); have z3 : (60 : Int32).toInt = 60 := (by decide); split <;> first | rfl | (exfalso; rename_i hc9; (try simp only [ow_lt, ow_le, ow_eq, true_and, and_true] at hc9 g_6 c_7 c_8); omega)), trivial⟩, trivial⟩, hS.F ht9⟩) hS.2.2 dX11_sing_34
      · skip
        refine lv_aload_n hx hb dX11_sing_18 rfl (lv_at hl 0 rfl) ?_
        refine va_get (ci := 11) (v := .ref (h 3)) (C := RX11) (T := TX11) (N := 14) hx hb ht iX11 hown hK hP 0 rfl rfl 6 (by decide) (ht _ k_90) (fun _ h9 => h9) rfl dX11_sing_19 ?_
        refine va_getN (host := "TuneLocks") (ci := 7) (v := .ref (h 30)) (C := RX7) (T := TX7) (N := 5) hx hb ht iX7 hown hK hP 8 rfl rfl 0 (by decide) (va_Nw.use rfl (hN.1 _ ns_0)) (fun _ h9 => h9) rfl dX11_sing_22 ?_
        refine va_getN (host := "TuneLocks") (ci := 8) (v := .int 0) (C := RX8) (T := TX8) (N := 3) hx hb ht iX8 hown hK hP 9 rfl rfl 2 (by decide) (va_Nw.use rfl (hN.1 _ ns_3)) (fun _ h9 => h9) rfl dX11_sing_25 ?_
        refine lv_bipush (v := 40) hx hb dX11_sing_28 (by decide) ?_
        refine lv_icmp_lt (tgt := 35) hx hb dX11_sing_30 (by decide) (fun _ => ?_) (fun c9 => absurd (by decide) c9)
        refine lv_aload_n hx hb dX11_sing_35 rfl (lv_at hl 0 rfl) ?_
        refine lv_iload_n hx hb dX11_sing_36 rfl (lv_at hl 1 rfl) ?_
        refine lv_iload_n hx hb dX11_sing_37 rfl (lv_at hl 2 rfl) ?_
        have hFc := va_free (wc := [(x, .inr (11, [.ref (h 0), .int 0, .ref (h 1), .ref (h 2), .int 0, .int (-1), .ref (h 3), .ref (h 4), .ref (h 5), .ref (h 6), .int 0, .ref (h 7), .ref (h 8), .ref (h 9)])), ((h 1), .inr (9, [.ref (h 10), .ref (h 11), .ref (h 12), .int 0, .ref (h 13), .int 0, .ref (h 14), .int 0, .ref (h 15)])), ((h 3), .inr (7, [.ref (h 30), .int 0, .int 0, .ref (h 31), .int 0])), ((h 30), .inr (8, [.ref (h 32), .ref (h 33), .int 0])), ((h 32), .inl (cy 0, 40, .inl (fun _ => 0))), ((h 33), .inl (cy 0, 40, .inl (fun _ => 0))), ((h 5), .inr (2, [.ref (h 34), .ref (h 35), .ref (h 36), .ref (h 37), .int 0]))]) hD hS hA [0, 2, 8, 9, 10, 11, 14] rfl
        have hPc := hP.sub (ws' := [(x, .inr (11, [.ref (h 0), .int 0, .ref (h 1), .ref (h 2), .int 0, .int (-1), .ref (h 3), .ref (h 4), .ref (h 5), .ref (h 6), .int 0, .ref (h 7), .ref (h 8), .ref (h 9)])), ((h 1), .inr (9, [.ref (h 10), .ref (h 11), .ref (h 12), .int 0, .ref (h 13), .int 0, .ref (h 14), .int 0, .ref (h 15)])), ((h 3), .inr (7, [.ref (h 30), .int 0, .int 0, .ref (h 31), .int 0])), ((h 30), .inr (8, [.ref (h 32), .ref (h 33), .int 0])), ((h 32), .inl (cy 0, 40, .inl (fun _ => 0))), ((h 33), .inl (cy 0, 40, .inl (fun _ => 0))), ((h 5), .inr (2, [.ref (h 34), .ref (h 35), .ref (h 36), .ref (h 37), .int 0]))]) [0, 2, 8, 9, 10, 11, 14] rfl
        have hDc := hD.sub (ws' := [(x, .inr (11, [.ref (h 0), .int 0, .ref (h 1), .ref (h 2), .int 0, .int (-1), .ref (h 3), .ref (h 4), .ref (h 5), .ref (h 6), .int 0, .ref (h 7), .ref (h 8), .ref (h 9)])), ((h 1), .inr (9, [.ref (h 10), .ref (h 11), .ref (h 12), .int 0, .ref (h 13), .int 0, .ref (h 14), .int 0, .ref (h 15)])), ((h 3), .inr (7, [.ref (h 30), .int 0, .int 0, .ref (h 31), .int 0])), ((h 30), .inr (8, [.ref (h 32), .ref (h 33), .int 0])), ((h 32), .inl (cy 0, 40, .inl (fun _ => 0))), ((h 33), .inl (cy 0, 40, .inl (fun _ => 0))), ((h 5), .inr (2, [.ref (h 34), .ref (h 35), .ref (h 36), .ref (h 37), .int 0]))]) [0, 2, 8, 9, 10, 11, 14] (by decide) rfl
        refine va_calli (va_runV (As := [.int n, .int n2]) (rest := []) ⟨hx, hb, hml, hown, ht⟩ (c_singNote l G cy _ x h n n2 ) (cwV 2 ht (gv k_226 k_227 k_228 k_183 k_225) rfl rfl rfl (by decide +kernel) ⟨Nat.le_of_ble_eq_true rfl, Nat.le_of_ble_eq_true rfl⟩) ⟨En.blind, va_recv hK hP (ci := 11) (q0 := 0) rfl rfl, fun U hU hW => ⟨rfl, En.of hU hW hPc hK hDc hN⟩⟩ rfl rfl hl.1 rfl (lv_room (Nat.le_of_ble_eq_true rfl)) dX11_sing_38 ⟨Nat.le_of_ble_eq_true rfl, Nat.le_of_ble_eq_true rfl⟩) hS (fun q _ h => hFc q h) hFc (fun r_10 u_9 t H locs ht9 hvm hw hB hz1 hk1 hS => ?_)
        obtain rfl : r_10 = 0 := hw.1
        refine W.widen (k := 0) (n := 0) (Nat.le_of_ble_eq_true rfl) (Nat.le_of_ble_eq_true rfl) ?_
        exact W.iret (v := 0) hx hb hr (fun t ht9 hW => ⟨⟨0, (), rfl, ⟨(by unfold sp_sing; have z0 : (0 : Int32).toInt = 0 := (by decide); have z1 : (1 : Int32).toInt = 1 := (by decide); have z2 : (9 : Int32).toInt = 9 := (by decide); have z3 : (60 : Int32).toInt = 60 := (by decide); split <;> first | rfl | (exfalso; rename_i hc9; (try simp only [ow_lt, ow_le, ow_eq, true_and, and_true] at hc9 g_6 c_7 c_8); omega)), trivial⟩, trivial⟩, hS.F ht9⟩) hS.2.2 dX11_sing_41
set_option maxHeartbeats 4000000 in
set_option maxRecDepth 100000 in
theorem x_song (l : Launch) (G : va_G) (cy : Nat → ClassId) (sz : Nat) (x : Nat) (h : Nat → Nat) (n : Int32) (n2 : Int32)  : Met l yX11_song (.code yX11_song cX11_song 6 (some .int) :: TBg) ({ frames := 2, cells := 0, slots := 0, locals := 128 }) (va_Pc [.ref x, .int n, .int n2] (En G cy (WX cy x h) sz)) (va_Qi (fun (r : Int32) (_ : Unit) => r = (-1) ∧ True) (fun _ _ => True) (va_A (WX cy x h) sz)) 0 0 (va_A (WX cy x h) sz) := by
  refine Met.ofW (cc := cX11_song) (maxL := 6) (ret := (some .int)) (by decide) rfl ?_
  intro p e s m args below meth c s₁ B hml hv
  obtain ⟨rfl, hsz, hP, hK, hD0, hN⟩ := hv
  have hx := B.exec
  have hb := B.bytes
  have hr := B.returns
  have hts := atoms_spec (ws := .code yX11_song cX11_song 6 (some .int) :: TBg) B.pre
  have ht : ∀ w ∈ TBg, w.before _ s = true := fun w h => hts w (List.mem_cons_of_mem _ h)
  have hown : s.vm.findClass RX11 = some m.cls := findClass_of_methodNamed B.named
  have hlocks := B.notSynchronized
  subst hsz
  have hD := hD0.self (sz := s.heap.size)
  generalize hAe : va_A (WX cy x h) s.heap.size = A at hD ⊢
  have hA : ∀ q : Nat, s.heap.size ≤ q → A q := fun q h => by rw [← hAe]; exact Or.inr h
  have hS : va_S A s.heap s.heap [] := va_S.rf
  have hl := lv_entry ([.ref x, .int n, .int n2]) (n := 6) (Nat.le_of_ble_eq_true rfl)
  rw [lg_entry_eq]
  generalize (lg_sl ([.ref x, .int n, .int n2]) ++ List.replicate (6 - (lg_sl ([.ref x, .int n, .int n2])).length) Slot.unset).toArray = ls at hl ⊢
  have hl : lv_has ls 6 [(0, .ref x), (1, .int n), (2, .int n2)] := hl
  refine lv_aload_n hx hb dX11_song_0 rfl (lv_at hl 0 rfl) ?_
  refine va_get (ci := 11) (v := .ref (h 1)) (C := RX11) (T := TX11) (N := 14) hx hb ht iX11 hown hK hP 0 rfl rfl 2 (by decide) (ht _ k_82) (fun _ h9 => h9) rfl dX11_song_1 ?_
  refine lv_iload_n hx hb dX11_song_4 rfl (lv_at hl 1 rfl) ?_
  have hFc := fr_new hS hA
  have hPc := hP.sub (ws' := [((h 1), .inr (9, [.ref (h 10), .ref (h 11), .ref (h 12), .int 0, .ref (h 13), .int 0, .ref (h 14), .int 0, .ref (h 15)]))]) [2] rfl
  have hDc := hD.sub (ws' := [((h 1), .inr (9, [.ref (h 10), .ref (h 11), .ref (h 12), .int 0, .ref (h 13), .int 0, .ref (h 14), .int 0, .ref (h 15)]))]) [2] (by decide) rfl
  refine va_calli (va_runV (As := [.int n]) (rest := []) ⟨hx, hb, hml, hown, ht⟩ (c_hasTune l G cy _ (h 1) n (.ref (h 10)) (.ref (h 11)) (.ref (h 12)) (.ref (h 13)) (.int 0) (.ref (h 14)) (.int 0) (.ref (h 15)) ) (cwV 1 ht (gv k_186 k_187 k_188 k_78 k_185) rfl rfl rfl (by decide +kernel) ⟨Nat.le_of_ble_eq_true rfl, Nat.le_of_ble_eq_true rfl⟩) ⟨En.blind, va_recv hK hP (ci := 9) (q0 := 2) rfl rfl, fun U hU hW => ⟨rfl, En.of hU hW hPc hK hDc hN⟩⟩ rfl rfl hl.1 rfl (lv_room (Nat.le_of_ble_eq_true rfl)) dX11_song_5 ⟨Nat.le_of_ble_eq_true rfl, Nat.le_of_ble_eq_true rfl⟩) hS (fun q _ h => hFc q h) hFc (fun r_2 u_1 t H locs ht9 hvm hw hB hz1 hk1 hS => ?_)
  have hP := fr_keep hP hk1
  obtain rfl : r_2 = 0 := hw.1
  refine lv_if_eq (tgt := 23) hx hb dX11_song_8 (by decide) (fun _ => ?_) (fun c9 => absurd (by decide) c9)
  refine lv_iconst (v := (-1)) hx hb dX11_song_23 (by decide) ?_
  refine W.widen (k := 0) (n := 0) (Nat.le_of_ble_eq_true rfl) (Nat.le_of_ble_eq_true rfl) ?_
  exact W.iret (v := (-1)) hx hb hr (fun t ht9 hW => ⟨⟨(-1), (), rfl, ⟨rfl, trivial⟩, trivial⟩, hS.F ht9⟩) hS.2.2 dX11_song_24
set_option maxHeartbeats 4000000 in
set_option maxRecDepth 100000 in
theorem x_silence (l : Launch) (G : va_G) (cy : Nat → ClassId) (sz : Nat) (x : Nat) (h : Nat → Nat)  : Met l yX11_silence (.code yX11_silence cX11_silence 2 (some .int) :: TBg) ({ frames := 2, cells := 0, slots := 0, locals := 128 }) (va_Pc [.ref x] (En G cy (WX cy x h) sz)) (va_Qi (fun (r : Int32) (_ : Unit) => r = 0 ∧ True) (fun _ _ => True) (va_A (WX cy x h) sz)) 0 0 (va_A (WX cy x h) sz) := by
  refine Met.ofW (cc := cX11_silence) (maxL := 2) (ret := (some .int)) (by decide) rfl ?_
  intro p e s m args below meth c s₁ B hml hv
  obtain ⟨rfl, hsz, hP, hK, hD0, hN⟩ := hv
  have hx := B.exec
  have hb := B.bytes
  have hr := B.returns
  have hts := atoms_spec (ws := .code yX11_silence cX11_silence 2 (some .int) :: TBg) B.pre
  have ht : ∀ w ∈ TBg, w.before _ s = true := fun w h => hts w (List.mem_cons_of_mem _ h)
  have hown : s.vm.findClass RX11 = some m.cls := findClass_of_methodNamed B.named
  have hlocks := B.notSynchronized
  subst hsz
  have hD := hD0.self (sz := s.heap.size)
  generalize hAe : va_A (WX cy x h) s.heap.size = A at hD ⊢
  have hA : ∀ q : Nat, s.heap.size ≤ q → A q := fun q h => by rw [← hAe]; exact Or.inr h
  have hS : va_S A s.heap s.heap [] := va_S.rf
  have hl := lv_entry ([.ref x]) (n := 2) (Nat.le_of_ble_eq_true rfl)
  rw [lg_entry_eq]
  generalize (lg_sl ([.ref x]) ++ List.replicate (2 - (lg_sl ([.ref x])).length) Slot.unset).toArray = ls at hl ⊢
  have hl : lv_has ls 2 [(0, .ref x)] := hl
  refine lv_aload_n hx hb dX11_silence_0 rfl (lv_at hl 0 rfl) ?_
  refine va_get (ci := 11) (v := .ref (h 3)) (C := RX11) (T := TX11) (N := 14) hx hb ht iX11 hown hK hP 0 rfl rfl 6 (by decide) (ht _ k_90) (fun _ h9 => h9) rfl dX11_silence_1 ?_
  refine va_getN (host := "TuneLocks") (ci := 7) (v := .ref (h 30)) (C := RX7) (T := TX7) (N := 5) hx hb ht iX7 hown hK hP 8 rfl rfl 0 (by decide) (va_Nw.use rfl (hN.1 _ ns_0)) (fun _ h9 => h9) rfl dX11_silence_4 ?_
  refine va_getN (host := "TuneLocks") (ci := 8) (v := .int 0) (C := RX8) (T := TX8) (N := 3) hx hb ht iX8 hown hK hP 9 rfl rfl 2 (by decide) (va_Nw.use rfl (hN.1 _ ns_3)) (fun _ h9 => h9) rfl dX11_silence_7 ?_
  refine lv_istore_n (lv' := [(1, .int 0), (0, .ref x)]) hx hb dX11_silence_10 rfl hl (by decide) rfl (fun ls hl => ?_)
  refine lv_aload_n hx hb dX11_silence_11 rfl (lv_at hl 1 rfl) ?_
  refine va_get (ci := 11) (v := .ref (h 3)) (C := RX11) (T := TX11) (N := 14) hx hb ht iX11 hown hK hP 0 rfl rfl 6 (by decide) (ht _ k_90) (fun _ h9 => h9) rfl dX11_silence_12 ?_
  refine va_getN (host := "TuneLocks") (ci := 7) (v := .ref (h 30)) (C := RX7) (T := TX7) (N := 5) hx hb ht iX7 hown hK hP 8 rfl rfl 0 (by decide) (va_Nw.use rfl (hN.1 _ ns_0)) (fun _ h9 => h9) rfl dX11_silence_15 ?_
  refine lv_iconst (v := 0) hx hb dX11_silence_18 (by decide) ?_
  refine va_putN (host := "TuneLocks") (ci := 8) (v := .int 0) (ty := .int) (C := RX8) (T := TX8) (N := 3) hx hb ht iX8 tyX8 tyX8_ok nmX8 hown hK hP hD hS 9 rfl rfl 2 (by decide) (va_Nw.use rfl (hN.1 _ ns_3)) (fun _ h9 => h9) rfl (by decide +kernel) rfl rfl (Nat.le_of_ble_eq_true rfl) dX11_silence_19 (fun H locs hP hD hS => ?_)
  refine lv_aload_n hx hb dX11_silence_22 rfl (lv_at hl 1 rfl) ?_
  refine va_get (ci := 11) (v := .ref (h 5)) (C := RX11) (T := TX11) (N := 14) hx hb ht iX11 hown hK hP 0 rfl rfl 8 (by decide) (ht _ k_93) (fun _ h9 => h9) rfl dX11_silence_23 ?_
  refine lv_aload_n hx hb dX11_silence_26 rfl (lv_at hl 1 rfl) ?_
  refine va_get (ci := 11) (v := .ref (h 3)) (C := RX11) (T := TX11) (N := 14) hx hb ht iX11 hown hK hP 0 rfl rfl 6 (by decide) (ht _ k_90) (fun _ h9 => h9) rfl dX11_silence_27 ?_
  refine va_getN (host := "TuneLocks") (ci := 7) (v := .ref (h 30)) (C := RX7) (T := TX7) (N := 5) hx hb ht iX7 hown hK hP 8 rfl rfl 0 (by decide) (va_Nw.use rfl (hN.1 _ ns_0)) (fun _ h9 => h9) rfl dX11_silence_30 ?_
  refine lv_aload_n hx hb dX11_silence_33 rfl (lv_at hl 1 rfl) ?_
  refine va_get (ci := 11) (v := .ref (h 1)) (C := RX11) (T := TX11) (N := 14) hx hb ht iX11 hown hK hP 0 rfl rfl 2 (by decide) (ht _ k_82) (fun _ h9 => h9) rfl dX11_silence_34 ?_
  have hFc := va_free (wc := [((h 5), .inr (2, [.ref (h 34), .ref (h 35), .ref (h 36), .ref (h 37), .int 0])), ((h 30), .inr (8, [.ref (h 32), .ref (h 33), .int 0])), ((h 1), .inr (9, [.ref (h 10), .ref (h 11), .ref (h 12), .int 0, .ref (h 13), .int 0, .ref (h 14), .int 0, .ref (h 15)]))]) hD hS hA [14, 9, 2] rfl
  have hPc := hP.sub (ws' := [((h 5), .inr (2, [.ref (h 34), .ref (h 35), .ref (h 36), .ref (h 37), .int 0])), ((h 30), .inr (8, [.ref (h 32), .ref (h 33), .int 0])), ((h 1), .inr (9, [.ref (h 10), .ref (h 11), .ref (h 12), .int 0, .ref (h 13), .int 0, .ref (h 14), .int 0, .ref (h 15)]))]) [14, 9, 2] rfl
  have hDc := hD.sub (ws' := [((h 5), .inr (2, [.ref (h 34), .ref (h 35), .ref (h 36), .ref (h 37), .int 0])), ((h 30), .inr (8, [.ref (h 32), .ref (h 33), .int 0])), ((h 1), .inr (9, [.ref (h 10), .ref (h 11), .ref (h 12), .int 0, .ref (h 13), .int 0, .ref (h 14), .int 0, .ref (h 15)]))]) [14, 9, 2] (by decide) rfl
  refine va_callv (va_runV (As := [.ref (h 30), .ref (h 1)]) (rest := []) ⟨hx, hb, hml, hown, ht⟩ (c_hearAll l G cy _ (h 5) (h 30) (h 1) (.ref (h 10)) (.ref (h 11)) (.ref (h 12)) (.ref (h 13)) (.int 0) (.ref (h 14)) (.int 0) (.ref (h 15)) (.ref (h 34)) (.ref (h 35)) (.ref (h 36)) (.ref (h 37)) (.int 0) (.ref (h 32)) (.ref (h 33)) ) (cwV 2 ht (gv k_230 k_231 k_232 k_66 k_229) rfl rfl rfl (by decide +kernel) ⟨Nat.le_of_ble_eq_true rfl, Nat.le_of_ble_eq_true rfl⟩) ⟨En.blind, va_recv hK hP (ci := 2) (q0 := 14) rfl rfl, fun U hU hW => ⟨rfl, En.of hU hW hPc hK hDc hN⟩⟩ rfl rfl hl.1 rfl (lv_room (Nat.le_of_ble_eq_true rfl)) dX11_silence_37 ⟨Nat.le_of_ble_eq_true rfl, Nat.le_of_ble_eq_true rfl⟩) hS (fun q _ h => hFc q h) hFc (fun u_1 t H locs ht9 hvm hw hB hz1 hk1 hS => ?_)
  obtain ⟨hP1, hD1⟩ := hB
  rw [ht9] at hP1
  obtain ⟨hP, hD⟩ := fr_put (wc := [((h 5), .inr (2, [.ref (h 34), .ref (h 35), .ref (h 36), .ref (h 37), .int 0])), ((h 30), .inr (8, [.ref (h 32), .ref (h 33), .int 0])), ((h 1), .inr (9, [.ref (h 10), .ref (h 11), .ref (h 12), .int 0, .ref (h 13), .int 0, .ref (h 14), .int 0, .ref (h 15)]))]) (w1 := [((h 5), .inr (2, [.ref (h 34), .ref (h 35), .ref (h 36), .ref (h 37), .int 0])), ((h 30), .inr (8, [.ref (h 32), .ref (h 33), .int 0])), ((h 1), .inr (9, [.ref (h 10), .ref (h 11), .ref (h 12), .int 0, .ref (h 13), .int 0, .ref (h 14), .int 0, .ref (h 15)]))]) hP hD [14, 9, 2] rfl rfl rfl hk1 hP1
  clear hFc hPc hDc hP1 hD1 hz1 hk1
  refine lv_iload_n hx hb dX11_silence_40 rfl (lv_at hl 0 rfl) ?_
  refine W.widen (k := 0) (n := 0) (Nat.le_of_ble_eq_true rfl) (Nat.le_of_ble_eq_true rfl) ?_
  exact W.iret (v := 0) hx hb hr (fun t ht9 hW => ⟨⟨0, (), rfl, ⟨rfl, trivial⟩, trivial⟩, hS.F ht9⟩) hS.2.2 dX11_silence_41
set_option maxHeartbeats 4000000 in
set_option maxRecDepth 100000 in
theorem x_shut (l : Launch) (G : va_G) (cy : Nat → ClassId) (sz : Nat) (x : Nat) (h : Nat → Nat) (n : Int32)  : Met l yX11_shut (.code yX11_shut cX11_shut 2 (some .boolean) :: TBg) ({ frames := 2, cells := 0, slots := 0, locals := 128 }) (va_Pc [.ref x, .int n] (En G cy (WX cy x h) sz)) (va_Qi (fun (r : Int32) (_ : Unit) => r = 0 ∧ True) (fun _ _ => True) (va_A (WX cy x h) sz)) 0 0 (va_A (WX cy x h) sz) := by
  refine Met.ofW (cc := cX11_shut) (maxL := 2) (ret := (some .boolean)) (by decide) rfl ?_
  intro p e s m args below meth c s₁ B hml hv
  obtain ⟨rfl, hsz, hP, hK, hD0, hN⟩ := hv
  have hx := B.exec
  have hb := B.bytes
  have hr := B.returns
  have hts := atoms_spec (ws := .code yX11_shut cX11_shut 2 (some .boolean) :: TBg) B.pre
  have ht : ∀ w ∈ TBg, w.before _ s = true := fun w h => hts w (List.mem_cons_of_mem _ h)
  have hown : s.vm.findClass RX11 = some m.cls := findClass_of_methodNamed B.named
  have hlocks := B.notSynchronized
  subst hsz
  have hD := hD0.self (sz := s.heap.size)
  generalize hAe : va_A (WX cy x h) s.heap.size = A at hD ⊢
  have hA : ∀ q : Nat, s.heap.size ≤ q → A q := fun q h => by rw [← hAe]; exact Or.inr h
  have hS : va_S A s.heap s.heap [] := va_S.rf
  have hl := lv_entry ([.ref x, .int n]) (n := 2) (Nat.le_of_ble_eq_true rfl)
  rw [lg_entry_eq]
  generalize (lg_sl ([.ref x, .int n]) ++ List.replicate (2 - (lg_sl ([.ref x, .int n])).length) Slot.unset).toArray = ls at hl ⊢
  have hl : lv_has ls 2 [(0, .ref x), (1, .int n)] := hl
  refine lv_aload_n hx hb dX11_shut_0 rfl (lv_at hl 0 rfl) ?_
  refine va_get (ci := 11) (v := .ref (h 1)) (C := RX11) (T := TX11) (N := 14) hx hb ht iX11 hown hK hP 0 rfl rfl 2 (by decide) (ht _ k_82) (fun _ h9 => h9) rfl dX11_shut_1 ?_
  refine lv_iload_n hx hb dX11_shut_4 rfl (lv_at hl 1 rfl) ?_
  have hFc := fr_new hS hA
  have hPc := hP.sub (ws' := [((h 1), .inr (9, [.ref (h 10), .ref (h 11), .ref (h 12), .int 0, .ref (h 13), .int 0, .ref (h 14), .int 0, .ref (h 15)]))]) [2] rfl
  have hDc := hD.sub (ws' := [((h 1), .inr (9, [.ref (h 10), .ref (h 11), .ref (h 12), .int 0, .ref (h 13), .int 0, .ref (h 14), .int 0, .ref (h 15)]))]) [2] (by decide) rfl
  refine va_calli (va_runV (As := [.int n]) (rest := []) ⟨hx, hb, hml, hown, ht⟩ (c_hasLock l G cy _ (h 1) n (.ref (h 10)) (.ref (h 11)) (.ref (h 12)) (.int 0) (.ref (h 13)) (.ref (h 14)) (.int 0) (.ref (h 15)) ) (cwV 1 ht (gv k_191 k_192 k_193 k_78 k_190) rfl rfl rfl (by decide +kernel) ⟨Nat.le_of_ble_eq_true rfl, Nat.le_of_ble_eq_true rfl⟩) ⟨En.blind, va_recv hK hP (ci := 9) (q0 := 2) rfl rfl, fun U hU hW => ⟨rfl, En.of hU hW hPc hK hDc hN⟩⟩ rfl rfl hl.1 rfl (lv_room (Nat.le_of_ble_eq_true rfl)) dX11_shut_5 ⟨Nat.le_of_ble_eq_true rfl, Nat.le_of_ble_eq_true rfl⟩) hS (fun q _ h => hFc q h) hFc (fun r_2 u_1 t H locs ht9 hvm hw hB hz1 hk1 hS => ?_)
  have hP := fr_keep hP hk1
  obtain rfl : r_2 = 0 := hw.1
  refine lv_if_eq (tgt := 25) hx hb dX11_shut_8 (by decide) (fun _ => ?_) (fun c9 => absurd (by decide) c9)
  refine lv_iconst (v := 0) hx hb dX11_shut_25 (by decide) ?_
  refine W.widen (k := 0) (n := 0) (Nat.le_of_ble_eq_true rfl) (Nat.le_of_ble_eq_true rfl) ?_
  exact W.zret (v := 0) hx hb hr (by first | rfl | decide) (fun t ht9 hW => ⟨⟨0, (), rfl, ⟨rfl, trivial⟩, trivial⟩, hS.F ht9⟩) hS.2.2 dX11_shut_26
set_option maxHeartbeats 4000000 in
set_option maxRecDepth 100000 in
theorem x_night0 (l : Launch) (G : va_G) (cy : Nat → ClassId) (sz : Nat) (x : Nat) (h : Nat → Nat)  : Met l yX11_night (.code yX11_night cX11_night 3 (some .boolean) :: TBg) ({ frames := 1, cells := 0, slots := 0, locals := 64 }) (va_Pc [.ref x, .int 0] (En G cy (WX cy x h) sz)) (va_Qi (fun (r : Int32) (_ : Unit) => r = 0 ∧ True) (fun _ _ => True) (va_A (WX cy x h) sz)) 0 0 (va_A (WX cy x h) sz) := by
  refine Met.ofW (cc := cX11_night) (maxL := 3) (ret := (some .boolean)) (by decide) rfl ?_
  intro p e s m args below meth c s₁ B hml hv
  obtain ⟨rfl, hsz, hP, hK, hD0, hN⟩ := hv
  have hx := B.exec
  have hb := B.bytes
  have hr := B.returns
  have hts := atoms_spec (ws := .code yX11_night cX11_night 3 (some .boolean) :: TBg) B.pre
  have ht : ∀ w ∈ TBg, w.before _ s = true := fun w h => hts w (List.mem_cons_of_mem _ h)
  have hown : s.vm.findClass RX11 = some m.cls := findClass_of_methodNamed B.named
  have hlocks := B.notSynchronized
  subst hsz
  have hD := hD0.self (sz := s.heap.size)
  generalize hAe : va_A (WX cy x h) s.heap.size = A at hD ⊢
  have hA : ∀ q : Nat, s.heap.size ≤ q → A q := fun q h => by rw [← hAe]; exact Or.inr h
  have hS : va_S A s.heap s.heap [] := va_S.rf
  have hl := lv_entry ([.ref x, .int 0]) (n := 3) (Nat.le_of_ble_eq_true rfl)
  rw [lg_entry_eq]
  generalize (lg_sl ([.ref x, .int 0]) ++ List.replicate (3 - (lg_sl ([.ref x, .int 0])).length) Slot.unset).toArray = ls at hl ⊢
  have hl : lv_has ls 3 [(0, .ref x), (1, .int 0)] := hl
  refine lv_aload_n hx hb dX11_night_0 rfl (lv_at hl 0 rfl) ?_
  refine va_get (ci := 11) (v := .ref (h 3)) (C := RX11) (T := TX11) (N := 14) hx hb ht iX11 hown hK hP 0 rfl rfl 6 (by decide) (ht _ k_90) (fun _ h9 => h9) rfl dX11_night_1 ?_
  refine va_getN (host := "TuneLocks") (ci := 7) (v := .int 0) (C := RX7) (T := TX7) (N := 5) hx hb ht iX7 hown hK hP 8 rfl rfl 1 (by decide) (va_Nw.use rfl (hN.1 _ ns_11)) (fun _ h9 => h9) rfl dX11_night_4 ?_
  refine lv_iload_n hx hb dX11_night_7 rfl (lv_at hl 1 rfl) ?_
  refine lv_icmp_eq (tgt := 15) hx hb dX11_night_8 (by decide) (fun _ => ?_) (fun c9 => absurd (by decide) c9)
  refine lv_iconst (v := 0) hx hb dX11_night_15 (by decide) ?_
  refine lv_istore_n (lv' := [(2, .int 0), (0, .ref x), (1, .int 0)]) hx hb dX11_night_16 rfl hl (by decide) rfl (fun ls hl => ?_)
  refine lv_aload_n hx hb dX11_night_17 rfl (lv_at hl 1 rfl) ?_
  refine va_get (ci := 11) (v := .ref (h 3)) (C := RX11) (T := TX11) (N := 14) hx hb ht iX11 hown hK hP 0 rfl rfl 6 (by decide) (ht _ k_90) (fun _ h9 => h9) rfl dX11_night_18 ?_
  refine lv_iload_n hx hb dX11_night_21 rfl (lv_at hl 2 rfl) ?_
  refine va_putN (host := "TuneLocks") (ci := 7) (v := .int 0) (ty := .boolean) (C := RX7) (T := TX7) (N := 5) hx hb ht iX7 tyX7 tyX7_ok nmX7 hown hK hP hD hS 8 rfl rfl 1 (by decide) (va_Nw.use rfl (hN.1 _ ns_11)) (fun _ h9 => h9) rfl (by decide +kernel) rfl rfl (Nat.le_of_ble_eq_true rfl) dX11_night_22 (fun H locs hP hD hS => ?_)
  refine lv_iload_n hx hb dX11_night_25 rfl (lv_at hl 0 rfl) ?_
  refine W.widen (k := 0) (n := 0) (Nat.le_of_ble_eq_true rfl) (Nat.le_of_ble_eq_true rfl) ?_
  exact W.zret (v := 0) hx hb hr (by first | rfl | decide) (fun t ht9 hW => ⟨⟨0, (), rfl, ⟨rfl, trivial⟩, trivial⟩, hS.F ht9⟩) hS.2.2 dX11_night_26
set_option maxHeartbeats 4000000 in
set_option maxRecDepth 100000 in
theorem x_night1 (l : Launch) (G : va_G) (cy : Nat → ClassId) (sz : Nat) (x : Nat) (h : Nat → Nat)  : Met l yX11_night (.code yX11_night cX11_night 3 (some .boolean) :: TBg) ({ frames := 1, cells := 0, slots := 0, locals := 64 }) (va_Pc [.ref x, .int 1] (En G cy (WX cy x h) sz)) (va_Qi (fun (r : Int32) (_ : Unit) => r = 1 ∧ True) (fun _ _ => True) (va_A (WX cy x h) sz)) 0 0 (va_A (WX cy x h) sz) := by
  refine Met.ofW (cc := cX11_night) (maxL := 3) (ret := (some .boolean)) (by decide) rfl ?_
  intro p e s m args below meth c s₁ B hml hv
  obtain ⟨rfl, hsz, hP, hK, hD0, hN⟩ := hv
  have hx := B.exec
  have hb := B.bytes
  have hr := B.returns
  have hts := atoms_spec (ws := .code yX11_night cX11_night 3 (some .boolean) :: TBg) B.pre
  have ht : ∀ w ∈ TBg, w.before _ s = true := fun w h => hts w (List.mem_cons_of_mem _ h)
  have hown : s.vm.findClass RX11 = some m.cls := findClass_of_methodNamed B.named
  have hlocks := B.notSynchronized
  subst hsz
  have hD := hD0.self (sz := s.heap.size)
  generalize hAe : va_A (WX cy x h) s.heap.size = A at hD ⊢
  have hA : ∀ q : Nat, s.heap.size ≤ q → A q := fun q h => by rw [← hAe]; exact Or.inr h
  have hS : va_S A s.heap s.heap [] := va_S.rf
  have hl := lv_entry ([.ref x, .int 1]) (n := 3) (Nat.le_of_ble_eq_true rfl)
  rw [lg_entry_eq]
  generalize (lg_sl ([.ref x, .int 1]) ++ List.replicate (3 - (lg_sl ([.ref x, .int 1])).length) Slot.unset).toArray = ls at hl ⊢
  have hl : lv_has ls 3 [(0, .ref x), (1, .int 1)] := hl
  refine lv_aload_n hx hb dX11_night_0 rfl (lv_at hl 0 rfl) ?_
  refine va_get (ci := 11) (v := .ref (h 3)) (C := RX11) (T := TX11) (N := 14) hx hb ht iX11 hown hK hP 0 rfl rfl 6 (by decide) (ht _ k_90) (fun _ h9 => h9) rfl dX11_night_1 ?_
  refine va_getN (host := "TuneLocks") (ci := 7) (v := .int 0) (C := RX7) (T := TX7) (N := 5) hx hb ht iX7 hown hK hP 8 rfl rfl 1 (by decide) (va_Nw.use rfl (hN.1 _ ns_11)) (fun _ h9 => h9) rfl dX11_night_4 ?_
  refine lv_iload_n hx hb dX11_night_7 rfl (lv_at hl 1 rfl) ?_
  refine lv_icmp_eq (tgt := 15) hx hb dX11_night_8 (by decide) (fun c9 => absurd c9 (by decide)) (fun _ => ?_)
  refine lv_iconst (v := 1) hx hb dX11_night_11 (by decide) ?_
  refine lv_goto (tgt := 16) hx hb dX11_night_12 (by decide) ?_
  refine lv_istore_n (lv' := [(2, .int 1), (0, .ref x), (1, .int 1)]) hx hb dX11_night_16 rfl hl (by decide) rfl (fun ls hl => ?_)
  refine lv_aload_n hx hb dX11_night_17 rfl (lv_at hl 1 rfl) ?_
  refine va_get (ci := 11) (v := .ref (h 3)) (C := RX11) (T := TX11) (N := 14) hx hb ht iX11 hown hK hP 0 rfl rfl 6 (by decide) (ht _ k_90) (fun _ h9 => h9) rfl dX11_night_18 ?_
  refine lv_iload_n hx hb dX11_night_21 rfl (lv_at hl 2 rfl) ?_
  refine va_putN (host := "TuneLocks") (ci := 7) (v := .int 1) (ty := .boolean) (C := RX7) (T := TX7) (N := 5) hx hb ht iX7 tyX7 tyX7_ok nmX7 hown hK hP hD hS 8 rfl rfl 1 (by decide) (va_Nw.use rfl (hN.1 _ ns_11)) (fun _ h9 => h9) rfl (by decide +kernel) rfl rfl (Nat.le_of_ble_eq_true rfl) dX11_night_22 (fun H locs hP hD hS => ?_)
  refine lv_iload_n hx hb dX11_night_25 rfl (lv_at hl 0 rfl) ?_
  refine W.widen (k := 0) (n := 0) (Nat.le_of_ble_eq_true rfl) (Nat.le_of_ble_eq_true rfl) ?_
  exact W.zret (v := 1) hx hb hr (by first | rfl | decide) (fun t ht9 hW => ⟨⟨1, (), rfl, ⟨rfl, trivial⟩, trivial⟩, hS.F ht9⟩) hS.2.2 dX11_night_26
set_option maxHeartbeats 4000000 in
set_option maxRecDepth 100000 in
theorem x_lock (l : Launch) (G : va_G) (cy : Nat → ClassId) (sz : Nat) (x : Nat) (h : Nat → Nat) (n : Int32) (n2 : Int32)  : Met l yX11_lock (.code yX11_lock cX11_lock 3 (some .int) :: TBg) ({ frames := 2, cells := 0, slots := 0, locals := 128 }) (va_Pc [.ref x, .int n, .int n2] (En G cy (WX cy x h) sz)) (va_Qi (fun (r : Int32) (_ : Unit) => r = (-1) ∧ True) (fun _ _ => True) (va_A (WX cy x h) sz)) 0 0 (va_A (WX cy x h) sz) := by
  refine Met.ofW (cc := cX11_lock) (maxL := 3) (ret := (some .int)) (by decide) rfl ?_
  intro p e s m args below meth c s₁ B hml hv
  obtain ⟨rfl, hsz, hP, hK, hD0, hN⟩ := hv
  have hx := B.exec
  have hb := B.bytes
  have hr := B.returns
  have hts := atoms_spec (ws := .code yX11_lock cX11_lock 3 (some .int) :: TBg) B.pre
  have ht : ∀ w ∈ TBg, w.before _ s = true := fun w h => hts w (List.mem_cons_of_mem _ h)
  have hown : s.vm.findClass RX11 = some m.cls := findClass_of_methodNamed B.named
  have hlocks := B.notSynchronized
  subst hsz
  have hD := hD0.self (sz := s.heap.size)
  generalize hAe : va_A (WX cy x h) s.heap.size = A at hD ⊢
  have hA : ∀ q : Nat, s.heap.size ≤ q → A q := fun q h => by rw [← hAe]; exact Or.inr h
  have hS : va_S A s.heap s.heap [] := va_S.rf
  have hl := lv_entry ([.ref x, .int n, .int n2]) (n := 3) (Nat.le_of_ble_eq_true rfl)
  rw [lg_entry_eq]
  generalize (lg_sl ([.ref x, .int n, .int n2]) ++ List.replicate (3 - (lg_sl ([.ref x, .int n, .int n2])).length) Slot.unset).toArray = ls at hl ⊢
  have hl : lv_has ls 3 [(0, .ref x), (1, .int n), (2, .int n2)] := hl
  refine lv_aload_n hx hb dX11_lock_0 rfl (lv_at hl 0 rfl) ?_
  refine va_get (ci := 11) (v := .ref (h 1)) (C := RX11) (T := TX11) (N := 14) hx hb ht iX11 hown hK hP 0 rfl rfl 2 (by decide) (ht _ k_82) (fun _ h9 => h9) rfl dX11_lock_1 ?_
  refine lv_iload_n hx hb dX11_lock_4 rfl (lv_at hl 1 rfl) ?_
  have hFc := fr_new hS hA
  have hPc := hP.sub (ws' := [((h 1), .inr (9, [.ref (h 10), .ref (h 11), .ref (h 12), .int 0, .ref (h 13), .int 0, .ref (h 14), .int 0, .ref (h 15)]))]) [2] rfl
  have hDc := hD.sub (ws' := [((h 1), .inr (9, [.ref (h 10), .ref (h 11), .ref (h 12), .int 0, .ref (h 13), .int 0, .ref (h 14), .int 0, .ref (h 15)]))]) [2] (by decide) rfl
  refine va_calli (va_runV (As := [.int n]) (rest := []) ⟨hx, hb, hml, hown, ht⟩ (c_hasLock l G cy _ (h 1) n (.ref (h 10)) (.ref (h 11)) (.ref (h 12)) (.int 0) (.ref (h 13)) (.ref (h 14)) (.int 0) (.ref (h 15)) ) (cwV 1 ht (gv k_191 k_192 k_193 k_78 k_190) rfl rfl rfl (by decide +kernel) ⟨Nat.le_of_ble_eq_true rfl, Nat.le_of_ble_eq_true rfl⟩) ⟨En.blind, va_recv hK hP (ci := 9) (q0 := 2) rfl rfl, fun U hU hW => ⟨rfl, En.of hU hW hPc hK hDc hN⟩⟩ rfl rfl hl.1 rfl (lv_room (Nat.le_of_ble_eq_true rfl)) dX11_lock_5 ⟨Nat.le_of_ble_eq_true rfl, Nat.le_of_ble_eq_true rfl⟩) hS (fun q _ h => hFc q h) hFc (fun r_2 u_1 t H locs ht9 hvm hw hB hz1 hk1 hS => ?_)
  have hP := fr_keep hP hk1
  obtain rfl : r_2 = 0 := hw.1
  refine lv_if_ne (tgt := 13) hx hb dX11_lock_8 (by decide) (fun c9 => absurd (by decide) c9) (fun _ => ?_)
  refine lv_iconst (v := (-1)) hx hb dX11_lock_11 (by decide) ?_
  refine W.widen (k := 0) (n := 0) (Nat.le_of_ble_eq_true rfl) (Nat.le_of_ble_eq_true rfl) ?_
  exact W.iret (v := (-1)) hx hb hr (fun t ht9 hW => ⟨⟨(-1), (), rfl, ⟨rfl, trivial⟩, trivial⟩, hS.F ht9⟩) hS.2.2 dX11_lock_12
set_option maxHeartbeats 4000000 in
set_option maxRecDepth 100000 in
theorem x_heard (l : Launch) (G : va_G) (cy : Nat → ClassId) (sz : Nat) (x : Nat) (h : Nat → Nat) (n : Int32) (n2 : Int32)  : Met l yX11_heard (.code yX11_heard cX11_heard 3 (some .int) :: TBg) ({ frames := 2, cells := 0, slots := 0, locals := 128 }) (va_Pc [.ref x, .int n, .int n2] (En G cy (WX cy x h) sz)) (va_Qi (fun (r : Int32) (_ : Unit) => r = (-1) ∧ True) (fun _ _ => True) (va_A (WX cy x h) sz)) 0 0 (va_A (WX cy x h) sz) := by
  refine Met.ofW (cc := cX11_heard) (maxL := 3) (ret := (some .int)) (by decide) rfl ?_
  intro p e s m args below meth c s₁ B hml hv
  obtain ⟨rfl, hsz, hP, hK, hD0, hN⟩ := hv
  have hx := B.exec
  have hb := B.bytes
  have hr := B.returns
  have hts := atoms_spec (ws := .code yX11_heard cX11_heard 3 (some .int) :: TBg) B.pre
  have ht : ∀ w ∈ TBg, w.before _ s = true := fun w h => hts w (List.mem_cons_of_mem _ h)
  have hown : s.vm.findClass RX11 = some m.cls := findClass_of_methodNamed B.named
  have hlocks := B.notSynchronized
  subst hsz
  have hD := hD0.self (sz := s.heap.size)
  generalize hAe : va_A (WX cy x h) s.heap.size = A at hD ⊢
  have hA : ∀ q : Nat, s.heap.size ≤ q → A q := fun q h => by rw [← hAe]; exact Or.inr h
  have hS : va_S A s.heap s.heap [] := va_S.rf
  have hl := lv_entry ([.ref x, .int n, .int n2]) (n := 3) (Nat.le_of_ble_eq_true rfl)
  rw [lg_entry_eq]
  generalize (lg_sl ([.ref x, .int n, .int n2]) ++ List.replicate (3 - (lg_sl ([.ref x, .int n, .int n2])).length) Slot.unset).toArray = ls at hl ⊢
  have hl : lv_has ls 3 [(0, .ref x), (1, .int n), (2, .int n2)] := hl
  refine lv_aload_n hx hb dX11_heard_0 rfl (lv_at hl 0 rfl) ?_
  refine va_get (ci := 11) (v := .ref (h 1)) (C := RX11) (T := TX11) (N := 14) hx hb ht iX11 hown hK hP 0 rfl rfl 2 (by decide) (ht _ k_82) (fun _ h9 => h9) rfl dX11_heard_1 ?_
  refine lv_iload_n hx hb dX11_heard_4 rfl (lv_at hl 1 rfl) ?_
  have hFc := fr_new hS hA
  have hPc := hP.sub (ws' := [((h 1), .inr (9, [.ref (h 10), .ref (h 11), .ref (h 12), .int 0, .ref (h 13), .int 0, .ref (h 14), .int 0, .ref (h 15)]))]) [2] rfl
  have hDc := hD.sub (ws' := [((h 1), .inr (9, [.ref (h 10), .ref (h 11), .ref (h 12), .int 0, .ref (h 13), .int 0, .ref (h 14), .int 0, .ref (h 15)]))]) [2] (by decide) rfl
  refine va_calli (va_runV (As := [.int n]) (rest := []) ⟨hx, hb, hml, hown, ht⟩ (c_hasTune l G cy _ (h 1) n (.ref (h 10)) (.ref (h 11)) (.ref (h 12)) (.ref (h 13)) (.int 0) (.ref (h 14)) (.int 0) (.ref (h 15)) ) (cwV 1 ht (gv k_186 k_187 k_188 k_78 k_185) rfl rfl rfl (by decide +kernel) ⟨Nat.le_of_ble_eq_true rfl, Nat.le_of_ble_eq_true rfl⟩) ⟨En.blind, va_recv hK hP (ci := 9) (q0 := 2) rfl rfl, fun U hU hW => ⟨rfl, En.of hU hW hPc hK hDc hN⟩⟩ rfl rfl hl.1 rfl (lv_room (Nat.le_of_ble_eq_true rfl)) dX11_heard_5 ⟨Nat.le_of_ble_eq_true rfl, Nat.le_of_ble_eq_true rfl⟩) hS (fun q _ h => hFc q h) hFc (fun r_2 u_1 t H locs ht9 hvm hw hB hz1 hk1 hS => ?_)
  have hP := fr_keep hP hk1
  obtain rfl : r_2 = 0 := hw.1
  refine lv_if_ne (tgt := 13) hx hb dX11_heard_8 (by decide) (fun c9 => absurd (by decide) c9) (fun _ => ?_)
  refine lv_iconst (v := (-1)) hx hb dX11_heard_11 (by decide) ?_
  refine W.widen (k := 0) (n := 0) (Nat.le_of_ble_eq_true rfl) (Nat.le_of_ble_eq_true rfl) ?_
  exact W.iret (v := (-1)) hx hb hr (fun t ht9 hW => ⟨⟨(-1), (), rfl, ⟨rfl, trivial⟩, trivial⟩, hS.F ht9⟩) hS.2.2 dX11_heard_12
set_option maxHeartbeats 4000000 in
set_option maxRecDepth 100000 in
theorem x_watch (l : Launch) (G : va_G) (cy : Nat → ClassId) (sz : Nat) (x : Nat) (h : Nat → Nat) (n : Int32) (n2 : Int32) (n3 : Int32)  : Met l yX11_watch (.code yX11_watch cX11_watch 4 (some .int) :: TBg) ({ frames := 2, cells := 0, slots := 0, locals := 128 }) (va_Pc [.ref x, .int n, .int n2, .int n3] (En G cy (WX cy x h) sz)) (va_Qi (fun (r : Int32) (_ : Unit) => r = (-1) ∧ True) (fun _ _ => True) (va_A (WX cy x h) sz)) 0 0 (va_A (WX cy x h) sz) := by
  refine Met.ofW (cc := cX11_watch) (maxL := 4) (ret := (some .int)) (by decide) rfl ?_
  intro p e s m args below meth c s₁ B hml hv
  obtain ⟨rfl, hsz, hP, hK, hD0, hN⟩ := hv
  have hx := B.exec
  have hb := B.bytes
  have hr := B.returns
  have hts := atoms_spec (ws := .code yX11_watch cX11_watch 4 (some .int) :: TBg) B.pre
  have ht : ∀ w ∈ TBg, w.before _ s = true := fun w h => hts w (List.mem_cons_of_mem _ h)
  have hown : s.vm.findClass RX11 = some m.cls := findClass_of_methodNamed B.named
  have hlocks := B.notSynchronized
  subst hsz
  have hD := hD0.self (sz := s.heap.size)
  generalize hAe : va_A (WX cy x h) s.heap.size = A at hD ⊢
  have hA : ∀ q : Nat, s.heap.size ≤ q → A q := fun q h => by rw [← hAe]; exact Or.inr h
  have hS : va_S A s.heap s.heap [] := va_S.rf
  have hl := lv_entry ([.ref x, .int n, .int n2, .int n3]) (n := 4) (Nat.le_of_ble_eq_true rfl)
  rw [lg_entry_eq]
  generalize (lg_sl ([.ref x, .int n, .int n2, .int n3]) ++ List.replicate (4 - (lg_sl ([.ref x, .int n, .int n2, .int n3])).length) Slot.unset).toArray = ls at hl ⊢
  have hl : lv_has ls 4 [(0, .ref x), (1, .int n), (2, .int n2), (3, .int n3)] := hl
  refine lv_aload_n hx hb dX11_watch_0 rfl (lv_at hl 0 rfl) ?_
  refine va_get (ci := 11) (v := .ref (h 1)) (C := RX11) (T := TX11) (N := 14) hx hb ht iX11 hown hK hP 0 rfl rfl 2 (by decide) (ht _ k_82) (fun _ h9 => h9) rfl dX11_watch_1 ?_
  refine lv_iload_n hx hb dX11_watch_4 rfl (lv_at hl 1 rfl) ?_
  have hFc := fr_new hS hA
  have hPc := hP.sub (ws' := [((h 1), .inr (9, [.ref (h 10), .ref (h 11), .ref (h 12), .int 0, .ref (h 13), .int 0, .ref (h 14), .int 0, .ref (h 15)]))]) [2] rfl
  have hDc := hD.sub (ws' := [((h 1), .inr (9, [.ref (h 10), .ref (h 11), .ref (h 12), .int 0, .ref (h 13), .int 0, .ref (h 14), .int 0, .ref (h 15)]))]) [2] (by decide) rfl
  refine va_calli (va_runV (As := [.int n]) (rest := []) ⟨hx, hb, hml, hown, ht⟩ (c_hasLock l G cy _ (h 1) n (.ref (h 10)) (.ref (h 11)) (.ref (h 12)) (.int 0) (.ref (h 13)) (.ref (h 14)) (.int 0) (.ref (h 15)) ) (cwV 1 ht (gv k_191 k_192 k_193 k_78 k_190) rfl rfl rfl (by decide +kernel) ⟨Nat.le_of_ble_eq_true rfl, Nat.le_of_ble_eq_true rfl⟩) ⟨En.blind, va_recv hK hP (ci := 9) (q0 := 2) rfl rfl, fun U hU hW => ⟨rfl, En.of hU hW hPc hK hDc hN⟩⟩ rfl rfl hl.1 rfl (lv_room (Nat.le_of_ble_eq_true rfl)) dX11_watch_5 ⟨Nat.le_of_ble_eq_true rfl, Nat.le_of_ble_eq_true rfl⟩) hS (fun q _ h => hFc q h) hFc (fun r_2 u_1 t H locs ht9 hvm hw hB hz1 hk1 hS => ?_)
  have hP := fr_keep hP hk1
  obtain rfl : r_2 = 0 := hw.1
  refine lv_if_ne (tgt := 13) hx hb dX11_watch_8 (by decide) (fun c9 => absurd (by decide) c9) (fun _ => ?_)
  refine lv_iconst (v := (-1)) hx hb dX11_watch_11 (by decide) ?_
  refine W.widen (k := 0) (n := 0) (Nat.le_of_ble_eq_true rfl) (Nat.le_of_ble_eq_true rfl) ?_
  exact W.iret (v := (-1)) hx hb hr (fun t ht9 hW => ⟨⟨(-1), (), rfl, ⟨rfl, trivial⟩, trivial⟩, hS.F ht9⟩) hS.2.2 dX11_watch_12
set_option maxHeartbeats 4000000 in
set_option maxRecDepth 100000 in
theorem x_untell (l : Launch) (G : va_G) (cy : Nat → ClassId) (sz : Nat) (x : Nat) (h : Nat → Nat) (n : Int32)  : Met l yX11_untell (.code yX11_untell cX11_untell 2 (some .boolean) :: TBg) ({ frames := 2, cells := 0, slots := 0, locals := 128 }) (va_Pc [.ref x, .int n] (En G cy (WX cy x h) sz)) (va_Qi (fun (r : Int32) (_ : Unit) => r = 0 ∧ True) (fun _ _ => True) (va_A (WX cy x h) sz)) 0 0 (va_A (WX cy x h) sz) := by
  refine Met.ofW (cc := cX11_untell) (maxL := 2) (ret := (some .boolean)) (by decide) rfl ?_
  intro p e s m args below meth c s₁ B hml hv
  obtain ⟨rfl, hsz, hP, hK, hD0, hN⟩ := hv
  have hx := B.exec
  have hb := B.bytes
  have hr := B.returns
  have hts := atoms_spec (ws := .code yX11_untell cX11_untell 2 (some .boolean) :: TBg) B.pre
  have ht : ∀ w ∈ TBg, w.before _ s = true := fun w h => hts w (List.mem_cons_of_mem _ h)
  have hown : s.vm.findClass RX11 = some m.cls := findClass_of_methodNamed B.named
  have hlocks := B.notSynchronized
  subst hsz
  have hD := hD0.self (sz := s.heap.size)
  generalize hAe : va_A (WX cy x h) s.heap.size = A at hD ⊢
  have hA : ∀ q : Nat, s.heap.size ≤ q → A q := fun q h => by rw [← hAe]; exact Or.inr h
  have hS : va_S A s.heap s.heap [] := va_S.rf
  have hl := lv_entry ([.ref x, .int n]) (n := 2) (Nat.le_of_ble_eq_true rfl)
  rw [lg_entry_eq]
  generalize (lg_sl ([.ref x, .int n]) ++ List.replicate (2 - (lg_sl ([.ref x, .int n])).length) Slot.unset).toArray = ls at hl ⊢
  have hl : lv_has ls 2 [(0, .ref x), (1, .int n)] := hl
  refine lv_aload_n hx hb dX11_untell_0 rfl (lv_at hl 0 rfl) ?_
  refine va_get (ci := 11) (v := .ref (h 6)) (C := RX11) (T := TX11) (N := 14) hx hb ht iX11 hown hK hP 0 rfl rfl 9 (by decide) (ht _ k_99) (fun _ h9 => h9) rfl dX11_untell_1 ?_
  refine lv_iload_n hx hb dX11_untell_4 rfl (lv_at hl 1 rfl) ?_
  refine lv_aload_n hx hb dX11_untell_5 rfl (lv_at hl 0 rfl) ?_
  refine va_get (ci := 11) (v := .int 0) (C := RX11) (T := TX11) (N := 14) hx hb ht iX11 hown hK hP 0 rfl rfl 10 (by decide) (ht _ k_233) (fun _ h9 => h9) rfl dX11_untell_6 ?_
  have hFc := fr_new hS hA
  have hPc := hP.sub (ws' := [((h 6), .inr (10, [.ref (h 40), .ref (h 41), .ref (h 42), .ref (h 43), .ref (h 44), .int 0]))]) [15] rfl
  have hDc := hD.sub (ws' := [((h 6), .inr (10, [.ref (h 40), .ref (h 41), .ref (h 42), .ref (h 43), .ref (h 44), .int 0]))]) [15] (by decide) rfl
  refine va_calli (va_runV (As := [.int n, .int 0]) (rest := []) ⟨hx, hb, hml, hown, ht⟩ (c_takeBack l G cy _ (h 6) n 0 (.ref (h 40)) (.ref (h 41)) (.ref (h 42)) (.ref (h 43)) (.ref (h 44)) ) (cwV 2 ht (gv k_235 k_236 k_237 k_96 k_234) rfl rfl rfl (by decide +kernel) ⟨Nat.le_of_ble_eq_true rfl, Nat.le_of_ble_eq_true rfl⟩) ⟨En.blind, va_recv hK hP (ci := 10) (q0 := 15) rfl rfl, fun U hU hW => ⟨rfl, En.of hU hW hPc hK hDc hN⟩⟩ rfl rfl hl.1 rfl (lv_room (Nat.le_of_ble_eq_true rfl)) dX11_untell_9 ⟨Nat.le_of_ble_eq_true rfl, Nat.le_of_ble_eq_true rfl⟩) hS (fun q _ h => hFc q h) hFc (fun r_2 u_1 t H locs ht9 hvm hw hB hz1 hk1 hS => ?_)
  have hP := fr_keep hP hk1
  obtain rfl : r_2 = 0 := hw.1
  refine W.widen (k := 0) (n := 0) (Nat.le_of_ble_eq_true rfl) (Nat.le_of_ble_eq_true rfl) ?_
  exact W.zret (v := 0) hx hb hr (by first | rfl | decide) (fun t ht9 hW => ⟨⟨0, (), rfl, ⟨rfl, trivial⟩, trivial⟩, hS.F ht9⟩) hS.2.2 dX11_untell_12
set_option maxHeartbeats 4000000 in
set_option maxRecDepth 100000 in
theorem x_later (l : Launch) (G : va_G) (cy : Nat → ClassId) (sz : Nat) (x : Nat) (h : Nat → Nat) (n : Int32)  : Met l yX11_later (.code yX11_later cX11_later 2 (some .int) :: TBg) ({ frames := 1, cells := 0, slots := 0, locals := 64 }) (va_Pc [.ref x, .int n] (En G cy (WX cy x h) sz)) (va_Qi (fun (r : Int32) (_ : Unit) => r = (sp_later n) ∧ True) (fun _ _ => True) (va_A (WX cy x h) sz)) 0 0 (va_A (WX cy x h) sz) := by
  refine Met.ofW (cc := cX11_later) (maxL := 2) (ret := (some .int)) (by decide) rfl ?_
  intro p e s m args below meth c s₁ B hml hv
  obtain ⟨rfl, hsz, hP, hK, hD0, hN⟩ := hv
  have hx := B.exec
  have hb := B.bytes
  have hr := B.returns
  have hts := atoms_spec (ws := .code yX11_later cX11_later 2 (some .int) :: TBg) B.pre
  have ht : ∀ w ∈ TBg, w.before _ s = true := fun w h => hts w (List.mem_cons_of_mem _ h)
  have hown : s.vm.findClass RX11 = some m.cls := findClass_of_methodNamed B.named
  have hlocks := B.notSynchronized
  subst hsz
  have hD := hD0.self (sz := s.heap.size)
  generalize hAe : va_A (WX cy x h) s.heap.size = A at hD ⊢
  have hA : ∀ q : Nat, s.heap.size ≤ q → A q := fun q h => by rw [← hAe]; exact Or.inr h
  have hS : va_S A s.heap s.heap [] := va_S.rf
  have hl := lv_entry ([.ref x, .int n]) (n := 2) (Nat.le_of_ble_eq_true rfl)
  rw [lg_entry_eq]
  generalize (lg_sl ([.ref x, .int n]) ++ List.replicate (2 - (lg_sl ([.ref x, .int n])).length) Slot.unset).toArray = ls at hl ⊢
  have hl : lv_has ls 2 [(0, .ref x), (1, .int n)] := hl
  refine lv_iload_n hx hb dX11_later_0 rfl (lv_at hl 1 rfl) ?_
  refine lv_if_lt (tgt := 23) hx hb dX11_later_1 (by decide) (fun c_1 => ?_) (fun c_1 => ?_)
  · skip
    refine lv_iconst (v := (-1)) hx hb dX11_later_23 (by decide) ?_
    refine W.widen (k := 0) (n := 0) (Nat.le_of_ble_eq_true rfl) (Nat.le_of_ble_eq_true rfl) ?_
    exact W.iret (v := (-1)) hx hb hr (fun t ht9 hW => ⟨⟨(-1), (), rfl, ⟨(by unfold sp_later; have z0 : (0 : Int32).toInt = 0 := (by decide); have z1 : (1000 : Int32).toInt = 1000 := (by decide); split <;> first | rfl | (exfalso; rename_i hc9; (try simp only [ow_lt, ow_le, ow_eq, true_and, and_true] at hc9 c_1); omega)), trivial⟩, trivial⟩, hS.F ht9⟩) hS.2.2 dX11_later_24
  · skip
    refine lv_iload_n hx hb dX11_later_4 rfl (lv_at hl 1 rfl) ?_
    refine lv_sipush (v := 1000) hx hb dX11_later_5 (by decide) ?_
    refine lv_icmp_gt (tgt := 23) hx hb dX11_later_8 (by decide) (fun c_2 => ?_) (fun c_2 => ?_)
    · skip
      refine lv_iconst (v := (-1)) hx hb dX11_later_23 (by decide) ?_
      refine W.widen (k := 0) (n := 0) (Nat.le_of_ble_eq_true rfl) (Nat.le_of_ble_eq_true rfl) ?_
      exact W.iret (v := (-1)) hx hb hr (fun t ht9 hW => ⟨⟨(-1), (), rfl, ⟨(by unfold sp_later; have z0 : (0 : Int32).toInt = 0 := (by decide); have z1 : (1000 : Int32).toInt = 1000 := (by decide); split <;> first | rfl | (exfalso; rename_i hc9; (try simp only [ow_lt, ow_le, ow_eq, true_and, and_true] at hc9 c_1 c_2); omega)), trivial⟩, trivial⟩, hS.F ht9⟩) hS.2.2 dX11_later_24
    · skip
      refine lv_aload_n hx hb dX11_later_11 rfl (lv_at hl 0 rfl) ?_
      refine va_get (ci := 11) (v := .int 0) (C := RX11) (T := TX11) (N := 14) hx hb ht iX11 hown hK hP 0 rfl rfl 10 (by decide) (ht _ k_233) (fun _ h9 => h9) rfl dX11_later_12 ?_
      refine lv_iload_n hx hb dX11_later_15 rfl (lv_at hl 1 rfl) ?_
      refine lv_iadd hx hb dX11_later_16 ?_
      refine ow_top n (by simp) ?_
      refine lv_ldcw (v := 100000) hx hb hown (ht _ k_238) dX11_later_17 ?_
      refine lv_icmp_le (tgt := 25) hx hb dX11_later_20 (by decide) (fun c_3 => ?_) (fun c_3 => ?_)
      · skip
        refine lv_aload_n hx hb dX11_later_25 rfl (lv_at hl 0 rfl) ?_
        refine lv_dup hx hb dX11_later_26 rfl ?_
        refine va_get (ci := 11) (v := .int 0) (C := RX11) (T := TX11) (N := 14) hx hb ht iX11 hown hK hP 0 rfl rfl 10 (by decide) (ht _ k_233) (fun _ h9 => h9) rfl dX11_later_27 ?_
        refine lv_iload_n hx hb dX11_later_30 rfl (lv_at hl 1 rfl) ?_
        refine lv_iadd hx hb dX11_later_31 ?_
        refine ow_top n (by simp) ?_
        refine va_put (ci := 11) (v := .int n) (ty := .int) (C := RX11) (T := TX11) (N := 14) hx hb ht iX11 tyX11 tyX11_ok nmX11 hown hK hP hD hS 0 rfl rfl 10 (by decide) (ht _ k_233) (fun _ h9 => h9) rfl (by decide +kernel) rfl rfl (Nat.le_of_ble_eq_true rfl) dX11_later_32 (fun H locs hP hD hS => ?_)
        refine lv_aload_n hx hb dX11_later_35 rfl (lv_at hl 0 rfl) ?_
        refine va_get (ci := 11) (v := .int n) (C := RX11) (T := TX11) (N := 14) hx hb ht iX11 hown hK hP 0 rfl rfl 10 (by decide) (ht _ k_233) (fun _ h9 => h9) rfl dX11_later_36 ?_
        refine W.widen (k := 0) (n := 0) (Nat.le_of_ble_eq_true rfl) (Nat.le_of_ble_eq_true rfl) ?_
        exact W.iret (v := n) hx hb hr (fun t ht9 hW => ⟨⟨n, (), rfl, ⟨(by unfold sp_later; have z0 : (0 : Int32).toInt = 0 := (by decide); have z1 : (1000 : Int32).toInt = 1000 := (by decide); have z2 : (100000 : Int32).toInt = 100000 := (by decide); split <;> first | rfl | (exfalso; rename_i hc9; (try simp only [ow_lt, ow_le, ow_eq, true_and, and_true] at hc9 c_1 c_2 c_3); omega)), trivial⟩, trivial⟩, hS.F ht9⟩) hS.2.2 dX11_later_39
      · exfalso
        have z0 : (0 : Int32).toInt = 0 := (by decide); have z1 : (1000 : Int32).toInt = 1000 := (by decide); have z2 : (100000 : Int32).toInt = 100000 := (by decide); (try simp only [ow_lt, ow_le, ow_eq, true_and, and_true] at c_1 c_2 c_3); omega
set_option maxHeartbeats 4000000 in
set_option maxRecDepth 100000 in
theorem x_left (l : Launch) (G : va_G) (cy : Nat → ClassId) (sz : Nat) (x : Nat) (h : Nat → Nat) (n : Int32)  : Met l yX11_left (.code yX11_left cX11_left 2 (some .int) :: TBg) ({ frames := 2, cells := 0, slots := 0, locals := 128 }) (va_Pc [.ref x, .int n] (En G cy (WX cy x h) sz)) (va_Qi (fun (r : Int32) (_ : Unit) => r = 0 ∧ True) (fun _ _ => True) (va_A (WX cy x h) sz)) 0 0 (va_A (WX cy x h) sz) := by
  refine Met.ofW (cc := cX11_left) (maxL := 2) (ret := (some .int)) (by decide) rfl ?_
  intro p e s m args below meth c s₁ B hml hv
  obtain ⟨rfl, hsz, hP, hK, hD0, hN⟩ := hv
  have hx := B.exec
  have hb := B.bytes
  have hr := B.returns
  have hts := atoms_spec (ws := .code yX11_left cX11_left 2 (some .int) :: TBg) B.pre
  have ht : ∀ w ∈ TBg, w.before _ s = true := fun w h => hts w (List.mem_cons_of_mem _ h)
  have hown : s.vm.findClass RX11 = some m.cls := findClass_of_methodNamed B.named
  have hlocks := B.notSynchronized
  subst hsz
  have hD := hD0.self (sz := s.heap.size)
  generalize hAe : va_A (WX cy x h) s.heap.size = A at hD ⊢
  have hA : ∀ q : Nat, s.heap.size ≤ q → A q := fun q h => by rw [← hAe]; exact Or.inr h
  have hS : va_S A s.heap s.heap [] := va_S.rf
  have hl := lv_entry ([.ref x, .int n]) (n := 2) (Nat.le_of_ble_eq_true rfl)
  rw [lg_entry_eq]
  generalize (lg_sl ([.ref x, .int n]) ++ List.replicate (2 - (lg_sl ([.ref x, .int n])).length) Slot.unset).toArray = ls at hl ⊢
  have hl : lv_has ls 2 [(0, .ref x), (1, .int n)] := hl
  refine lv_aload_n hx hb dX11_left_0 rfl (lv_at hl 0 rfl) ?_
  refine va_get (ci := 11) (v := .ref (h 6)) (C := RX11) (T := TX11) (N := 14) hx hb ht iX11 hown hK hP 0 rfl rfl 9 (by decide) (ht _ k_99) (fun _ h9 => h9) rfl dX11_left_1 ?_
  refine lv_iload_n hx hb dX11_left_4 rfl (lv_at hl 1 rfl) ?_
  refine lv_aload_n hx hb dX11_left_5 rfl (lv_at hl 0 rfl) ?_
  refine va_get (ci := 11) (v := .ref (h 1)) (C := RX11) (T := TX11) (N := 14) hx hb ht iX11 hown hK hP 0 rfl rfl 2 (by decide) (ht _ k_82) (fun _ h9 => h9) rfl dX11_left_6 ?_
  have hFc := fr_new hS hA
  have hPc := hP.sub (ws' := [((h 6), .inr (10, [.ref (h 40), .ref (h 41), .ref (h 42), .ref (h 43), .ref (h 44), .int 0])), ((h 1), .inr (9, [.ref (h 10), .ref (h 11), .ref (h 12), .int 0, .ref (h 13), .int 0, .ref (h 14), .int 0, .ref (h 15)]))]) [15, 2] rfl
  have hDc := hD.sub (ws' := [((h 6), .inr (10, [.ref (h 40), .ref (h 41), .ref (h 42), .ref (h 43), .ref (h 44), .int 0])), ((h 1), .inr (9, [.ref (h 10), .ref (h 11), .ref (h 12), .int 0, .ref (h 13), .int 0, .ref (h 14), .int 0, .ref (h 15)]))]) [15, 2] (by decide) rfl
  refine va_calli (va_runV (As := [.int n, .ref (h 1)]) (rest := []) ⟨hx, hb, hml, hown, ht⟩ (c_leftAt l G cy _ (h 6) n (h 1) (.ref (h 10)) (.ref (h 11)) (.ref (h 12)) (.ref (h 13)) (.int 0) (.ref (h 14)) (.int 0) (.ref (h 15)) (.ref (h 40)) (.ref (h 41)) (.ref (h 42)) (.ref (h 43)) (.ref (h 44)) ) (cwV 2 ht (gv k_240 k_241 k_242 k_96 k_239) rfl rfl rfl (by decide +kernel) ⟨Nat.le_of_ble_eq_true rfl, Nat.le_of_ble_eq_true rfl⟩) ⟨En.blind, va_recv hK hP (ci := 10) (q0 := 15) rfl rfl, fun U hU hW => ⟨rfl, En.of hU hW hPc hK hDc hN⟩⟩ rfl rfl hl.1 rfl (lv_room (Nat.le_of_ble_eq_true rfl)) dX11_left_9 ⟨Nat.le_of_ble_eq_true rfl, Nat.le_of_ble_eq_true rfl⟩) hS (fun q _ h => hFc q h) hFc (fun r_2 u_1 t H locs ht9 hvm hw hB hz1 hk1 hS => ?_)
  have hP := fr_keep hP hk1
  obtain rfl : r_2 = 0 := hw.1
  refine W.widen (k := 0) (n := 0) (Nat.le_of_ble_eq_true rfl) (Nat.le_of_ble_eq_true rfl) ?_
  exact W.iret (v := 0) hx hb hr (fun t ht9 hW => ⟨⟨0, (), rfl, ⟨rfl, trivial⟩, trivial⟩, hS.F ht9⟩) hS.2.2 dX11_left_12
set_option maxHeartbeats 4000000 in
set_option maxRecDepth 100000 in
theorem x_next (l : Launch) (G : va_G) (cy : Nat → ClassId) (sz : Nat) (x : Nat) (h : Nat → Nat) (n : Int32) (n2 : Int32)  : Met l yX11_next (.code yX11_next cX11_next 12 (some .int) :: TBg) ({ frames := 2, cells := 0, slots := 0, locals := 128 }) (va_Pc [.ref x, .int n, .int n2] (En G cy (WX cy x h) sz)) (va_Qi (fun (r : Int32) (_ : Unit) => r = (-1) ∧ True) (fun _ _ => True) (va_A (WX cy x h) sz)) 0 0 (va_A (WX cy x h) sz) := by
  refine Met.ofW (cc := cX11_next) (maxL := 12) (ret := (some .int)) (by decide) rfl ?_
  intro p e s m args below meth c s₁ B hml hv
  obtain ⟨rfl, hsz, hP, hK, hD0, hN⟩ := hv
  have hx := B.exec
  have hb := B.bytes
  have hr := B.returns
  have hts := atoms_spec (ws := .code yX11_next cX11_next 12 (some .int) :: TBg) B.pre
  have ht : ∀ w ∈ TBg, w.before _ s = true := fun w h => hts w (List.mem_cons_of_mem _ h)
  have hown : s.vm.findClass RX11 = some m.cls := findClass_of_methodNamed B.named
  have hlocks := B.notSynchronized
  subst hsz
  have hD := hD0.self (sz := s.heap.size)
  generalize hAe : va_A (WX cy x h) s.heap.size = A at hD ⊢
  have hA : ∀ q : Nat, s.heap.size ≤ q → A q := fun q h => by rw [← hAe]; exact Or.inr h
  have hS : va_S A s.heap s.heap [] := va_S.rf
  have hl := lv_entry ([.ref x, .int n, .int n2]) (n := 12) (Nat.le_of_ble_eq_true rfl)
  rw [lg_entry_eq]
  generalize (lg_sl ([.ref x, .int n, .int n2]) ++ List.replicate (12 - (lg_sl ([.ref x, .int n, .int n2])).length) Slot.unset).toArray = ls at hl ⊢
  have hl : lv_has ls 12 [(0, .ref x), (1, .int n), (2, .int n2)] := hl
  refine lv_aload_n hx hb dX11_next_0 rfl (lv_at hl 0 rfl) ?_
  refine va_get (ci := 11) (v := .ref (h 6)) (C := RX11) (T := TX11) (N := 14) hx hb ht iX11 hown hK hP 0 rfl rfl 9 (by decide) (ht _ k_99) (fun _ h9 => h9) rfl dX11_next_1 ?_
  refine lv_iload_n hx hb dX11_next_4 rfl (lv_at hl 2 rfl) ?_
  refine lv_aload_n hx hb dX11_next_5 rfl (lv_at hl 0 rfl) ?_
  refine va_get (ci := 11) (v := .ref (h 1)) (C := RX11) (T := TX11) (N := 14) hx hb ht iX11 hown hK hP 0 rfl rfl 2 (by decide) (ht _ k_82) (fun _ h9 => h9) rfl dX11_next_6 ?_
  have hFc := fr_new hS hA
  have hPc := hP.sub (ws' := [((h 6), .inr (10, [.ref (h 40), .ref (h 41), .ref (h 42), .ref (h 43), .ref (h 44), .int 0])), ((h 1), .inr (9, [.ref (h 10), .ref (h 11), .ref (h 12), .int 0, .ref (h 13), .int 0, .ref (h 14), .int 0, .ref (h 15)]))]) [15, 2] rfl
  have hDc := hD.sub (ws' := [((h 6), .inr (10, [.ref (h 40), .ref (h 41), .ref (h 42), .ref (h 43), .ref (h 44), .int 0])), ((h 1), .inr (9, [.ref (h 10), .ref (h 11), .ref (h 12), .int 0, .ref (h 13), .int 0, .ref (h 14), .int 0, .ref (h 15)]))]) [15, 2] (by decide) rfl
  refine va_calli (va_runV (As := [.int n2, .ref (h 1)]) (rest := []) ⟨hx, hb, hml, hown, ht⟩ (c_leftAt l G cy _ (h 6) n2 (h 1) (.ref (h 10)) (.ref (h 11)) (.ref (h 12)) (.ref (h 13)) (.int 0) (.ref (h 14)) (.int 0) (.ref (h 15)) (.ref (h 40)) (.ref (h 41)) (.ref (h 42)) (.ref (h 43)) (.ref (h 44)) ) (cwV 2 ht (gv k_240 k_241 k_242 k_96 k_239) rfl rfl rfl (by decide +kernel) ⟨Nat.le_of_ble_eq_true rfl, Nat.le_of_ble_eq_true rfl⟩) ⟨En.blind, va_recv hK hP (ci := 10) (q0 := 15) rfl rfl, fun U hU hW => ⟨rfl, En.of hU hW hPc hK hDc hN⟩⟩ rfl rfl hl.1 rfl (lv_room (Nat.le_of_ble_eq_true rfl)) dX11_next_9 ⟨Nat.le_of_ble_eq_true rfl, Nat.le_of_ble_eq_true rfl⟩) hS (fun q _ h => hFc q h) hFc (fun r_2 u_1 t H locs ht9 hvm hw hB hz1 hk1 hS => ?_)
  have hP := fr_keep hP hk1
  obtain rfl : r_2 = 0 := hw.1
  refine lv_istore_n (lv' := [(3, .int 0), (0, .ref x), (1, .int n), (2, .int n2)]) hx hb dX11_next_12 rfl hl (by decide) rfl (fun ls hl => ?_)
  refine lv_iload_n hx hb dX11_next_13 rfl (lv_at hl 0 rfl) ?_
  refine lv_if_eq (tgt := 26) hx hb dX11_next_14 (by decide) (fun _ => ?_) (fun c9 => absurd (by decide) c9)
  refine lv_iconst (v := (-1)) hx hb dX11_next_26 (by decide) ?_
  refine W.widen (k := 0) (n := 0) (Nat.le_of_ble_eq_true rfl) (Nat.le_of_ble_eq_true rfl) ?_
  exact W.iret (v := (-1)) hx hb hr (fun t ht9 hW => ⟨⟨(-1), (), rfl, ⟨rfl, trivial⟩, trivial⟩, hS.F ht9⟩) hS.2.2 dX11_next_27
set_option maxHeartbeats 4000000 in
set_option maxRecDepth 100000 in
theorem x_image (l : Launch) (G : va_G) (cy : Nat → ClassId) (sz : Nat) (x : Nat) (h : Nat → Nat) (n : Int32)  : Met l yX11_image (.code yX11_image cX11_image 2 (some .int) :: TBg) ({ frames := 3, cells := 0, slots := 0, locals := 192 }) (va_Pc [.ref x, .int n] (En G cy (WX cy x h) sz)) (va_Qi (fun (r : Int32) (_ : Unit) => r = (sp_rng 2 n) ∧ True) (fun _ _ => True) (va_A (WX cy x h) sz)) 0 0 (va_A (WX cy x h) sz) := by
  refine Met.ofW (cc := cX11_image) (maxL := 2) (ret := (some .int)) (by decide) rfl ?_
  intro p e s m args below meth c s₁ B hml hv
  obtain ⟨rfl, hsz, hP, hK, hD0, hN⟩ := hv
  have hx := B.exec
  have hb := B.bytes
  have hr := B.returns
  have hts := atoms_spec (ws := .code yX11_image cX11_image 2 (some .int) :: TBg) B.pre
  have ht : ∀ w ∈ TBg, w.before _ s = true := fun w h => hts w (List.mem_cons_of_mem _ h)
  have hown : s.vm.findClass RX11 = some m.cls := findClass_of_methodNamed B.named
  have hlocks := B.notSynchronized
  subst hsz
  have hD := hD0.self (sz := s.heap.size)
  generalize hAe : va_A (WX cy x h) s.heap.size = A at hD ⊢
  have hA : ∀ q : Nat, s.heap.size ≤ q → A q := fun q h => by rw [← hAe]; exact Or.inr h
  have hS : va_S A s.heap s.heap [] := va_S.rf
  have hl := lv_entry ([.ref x, .int n]) (n := 2) (Nat.le_of_ble_eq_true rfl)
  rw [lg_entry_eq]
  generalize (lg_sl ([.ref x, .int n]) ++ List.replicate (2 - (lg_sl ([.ref x, .int n])).length) Slot.unset).toArray = ls at hl ⊢
  rcases ow_cut n 3 (by decide) with ⟨j, hj, hj2⟩ | hout
  · have hj3 : j = 0 ∨ j = 1 ∨ j = 2 := by omega
    rcases hj3 with rfl | rfl | rfl
    · obtain rfl : n = 0 := hj2
      have hl : lv_has ls 2 [(0, .ref x), (1, .int 0)] := hl
      refine lv_iload_n hx hb dX11_image_0 rfl (lv_at hl 1 rfl) ?_
      refine lv_if_lt (tgt := 13) hx hb dX11_image_1 (by decide) (fun c9 => absurd c9 (by decide)) (fun _ => ?_)
      refine lv_iload_n hx hb dX11_image_4 rfl (lv_at hl 1 rfl) ?_
      refine lv_aload_n hx hb dX11_image_5 rfl (lv_at hl 0 rfl) ?_
      refine va_get (ci := 11) (v := .ref (h 4)) (C := RX11) (T := TX11) (N := 14) hx hb ht iX11 hown hK hP 0 rfl rfl 7 (by decide) (ht _ k_91) (fun _ h9 => h9) rfl dX11_image_6 ?_
      refine va_alen (v := 3) hx hb hK hP 13 7 rfl rfl rfl dX11_image_9 ?_
      refine lv_icmp_lt (tgt := 15) hx hb dX11_image_10 (by decide) (fun _ => ?_) (fun c9 => absurd (by decide) c9)
      refine lv_aload_n hx hb dX11_image_15 rfl (lv_at hl 0 rfl) ?_
      refine va_get (ci := 11) (v := .ref (h 4)) (C := RX11) (T := TX11) (N := 14) hx hb ht iX11 hown hK hP 0 rfl rfl 7 (by decide) (ht _ k_91) (fun _ h9 => h9) rfl dX11_image_16 ?_
      refine lv_iload_n hx hb dX11_image_19 rfl (lv_at hl 1 rfl) ?_
      refine va_aldq hx hb hK hP 13 7 rfl rfl (in_lit (by decide +kernel)) dX11_image_20 ?_
      refine W.eq (g2 := F0 m 21 ls [.ref (h 52)]) rfl ?_
      refine lv_aload_n hx hb dX11_image_21 rfl (lv_at hl 0 rfl) ?_
      refine va_get (ci := 11) (v := .ref (h 3)) (C := RX11) (T := TX11) (N := 14) hx hb ht iX11 hown hK hP 0 rfl rfl 6 (by decide) (ht _ k_90) (fun _ h9 => h9) rfl dX11_image_22 ?_
      have hFc := va_free (wc := [((h 52), .inr (7, [.ref (h 55), .int 0, .int 0, .ref (h 56), .int 0])), ((h 3), .inr (7, [.ref (h 30), .int 0, .int 0, .ref (h 31), .int 0])), ((h 55), .inr (8, [.ref (h 57), .ref (h 58), .int 0])), ((h 30), .inr (8, [.ref (h 32), .ref (h 33), .int 0])), ((h 56), .inl (cy 0, 8, .inl (fun _ => 0))), ((h 31), .inl (cy 0, 8, .inl (fun _ => 0)))]) hD hS hA [21, 8, 22, 9, 25, 12] rfl
      have hPc := hP.sub (ws' := [((h 52), .inr (7, [.ref (h 55), .int 0, .int 0, .ref (h 56), .int 0])), ((h 3), .inr (7, [.ref (h 30), .int 0, .int 0, .ref (h 31), .int 0])), ((h 55), .inr (8, [.ref (h 57), .ref (h 58), .int 0])), ((h 30), .inr (8, [.ref (h 32), .ref (h 33), .int 0])), ((h 56), .inl (cy 0, 8, .inl (fun _ => 0))), ((h 31), .inl (cy 0, 8, .inl (fun _ => 0)))]) [21, 8, 22, 9, 25, 12] rfl
      have hDc := hD.sub (ws' := [((h 52), .inr (7, [.ref (h 55), .int 0, .int 0, .ref (h 56), .int 0])), ((h 3), .inr (7, [.ref (h 30), .int 0, .int 0, .ref (h 31), .int 0])), ((h 55), .inr (8, [.ref (h 57), .ref (h 58), .int 0])), ((h 30), .inr (8, [.ref (h 32), .ref (h 33), .int 0])), ((h 56), .inl (cy 0, 8, .inl (fun _ => 0))), ((h 31), .inl (cy 0, 8, .inl (fun _ => 0)))]) [21, 8, 22, 9, 25, 12] (by decide) rfl
      refine va_callv (va_runV (As := [.ref (h 3)]) (rest := []) ⟨hx, hb, hml, hown, ht⟩ (c_sceneLike l G cy _ (h 52) (h 3) (h 55) (h 56) (h 30) (h 31) (fun _ => 0) (fun _ => 0) (.ref (h 57)) (.ref (h 58)) (.ref (h 32)) (.ref (h 33)) ) (cwV 1 ht (gv k_244 k_245 k_246 k_87 k_243) rfl rfl rfl (by decide +kernel) ⟨Nat.le_of_ble_eq_true rfl, Nat.le_of_ble_eq_true rfl⟩) ⟨En.blind, va_recv hK hP (ci := 7) (q0 := 21) rfl rfl, fun U hU hW => ⟨rfl, En.of hU hW hPc hK hDc hN⟩⟩ rfl rfl hl.1 rfl (lv_room (Nat.le_of_ble_eq_true rfl)) dX11_image_25 ⟨Nat.le_of_ble_eq_true rfl, Nat.le_of_ble_eq_true rfl⟩) hS (fun q _ h => hFc q h) hFc (fun u_1 t H locs ht9 hvm hw hB hz1 hk1 hS => ?_)
      obtain ⟨hP1, hD1⟩ := hB
      rw [ht9] at hP1
      obtain ⟨hP, hD⟩ := fr_put (wc := [((h 52), .inr (7, [.ref (h 55), .int 0, .int 0, .ref (h 56), .int 0])), ((h 3), .inr (7, [.ref (h 30), .int 0, .int 0, .ref (h 31), .int 0])), ((h 55), .inr (8, [.ref (h 57), .ref (h 58), .int 0])), ((h 30), .inr (8, [.ref (h 32), .ref (h 33), .int 0])), ((h 56), .inl (cy 0, 8, .inl (fun _ => 0))), ((h 31), .inl (cy 0, 8, .inl (fun _ => 0)))]) (w1 := [((h 52), .inr (7, [.ref (h 55), .int 0, .int 0, .ref (h 56), .int 0])), ((h 3), .inr (7, [.ref (h 30), .int 0, .int 0, .ref (h 31), .int 0])), ((h 55), .inr (8, [.ref (h 57), .ref (h 58), .int 0])), ((h 30), .inr (8, [.ref (h 32), .ref (h 33), .int 0])), ((h 56), .inl (cy 0, 8, .inl (u_1 0))), ((h 31), .inl (cy 0, 8, .inl (u_1 1)))]) hP hD [21, 8, 22, 9, 25, 12] rfl rfl rfl hk1 hP1
      clear hFc hPc hDc hP1 hD1 hz1 hk1
      refine lv_aload_n hx hb dX11_image_28 rfl (lv_at hl 0 rfl) ?_
      refine va_get (ci := 11) (v := .ref (h 4)) (C := RX11) (T := TX11) (N := 14) hx hb ht iX11 hown hK hP 0 rfl rfl 7 (by decide) (ht _ k_91) (fun _ h9 => h9) rfl dX11_image_29 ?_
      refine lv_iload_n hx hb dX11_image_32 rfl (lv_at hl 1 rfl) ?_
      refine va_aldq hx hb hK hP 13 7 rfl rfl (in_lit (by decide +kernel)) dX11_image_33 ?_
      refine W.eq (g2 := F0 m 34 ls [.ref (h 52)]) rfl ?_
      refine lv_iconst (v := 1) hx hb dX11_image_34 (by decide) ?_
      refine va_putN (host := "TuneLocks") (ci := 7) (v := .int 1) (ty := .boolean) (C := RX7) (T := TX7) (N := 5) hx hb ht iX7 tyX7 tyX7_ok nmX7 hown hK hP hD hS 21 rfl rfl 4 (by decide) (va_Nw.use rfl (hN.1 _ ns_15)) (fun _ h9 => h9) rfl (by decide +kernel) rfl rfl (Nat.le_of_ble_eq_true rfl) dX11_image_35 (fun H locs hP hD hS => ?_)
      refine lv_aload_n hx hb dX11_image_38 rfl (lv_at hl 0 rfl) ?_
      refine va_get (ci := 11) (v := .ref (h 3)) (C := RX11) (T := TX11) (N := 14) hx hb ht iX11 hown hK hP 0 rfl rfl 6 (by decide) (ht _ k_90) (fun _ h9 => h9) rfl dX11_image_39 ?_
      refine va_getN (host := "TuneLocks") (ci := 7) (v := .ref (h 30)) (C := RX7) (T := TX7) (N := 5) hx hb ht iX7 hown hK hP 8 rfl rfl 0 (by decide) (va_Nw.use rfl (hN.1 _ ns_0)) (fun _ h9 => h9) rfl dX11_image_42 ?_
      refine va_getN (host := "TuneLocks") (ci := 8) (v := .int 0) (C := RX8) (T := TX8) (N := 3) hx hb ht iX8 hown hK hP 9 rfl rfl 2 (by decide) (va_Nw.use rfl (hN.1 _ ns_3)) (fun _ h9 => h9) rfl dX11_image_45 ?_
      refine W.widen (k := 0) (n := 0) (Nat.le_of_ble_eq_true rfl) (Nat.le_of_ble_eq_true rfl) ?_
      exact W.iret (v := 0) hx hb hr (fun t ht9 hW => ⟨⟨0, (), rfl, ⟨(by decide +kernel), trivial⟩, trivial⟩, hS.F ht9⟩) hS.2.2 dX11_image_48
    · obtain rfl : n = 1 := hj2
      have hl : lv_has ls 2 [(0, .ref x), (1, .int 1)] := hl
      refine lv_iload_n hx hb dX11_image_0 rfl (lv_at hl 1 rfl) ?_
      refine lv_if_lt (tgt := 13) hx hb dX11_image_1 (by decide) (fun c9 => absurd c9 (by decide)) (fun _ => ?_)
      refine lv_iload_n hx hb dX11_image_4 rfl (lv_at hl 1 rfl) ?_
      refine lv_aload_n hx hb dX11_image_5 rfl (lv_at hl 0 rfl) ?_
      refine va_get (ci := 11) (v := .ref (h 4)) (C := RX11) (T := TX11) (N := 14) hx hb ht iX11 hown hK hP 0 rfl rfl 7 (by decide) (ht _ k_91) (fun _ h9 => h9) rfl dX11_image_6 ?_
      refine va_alen (v := 3) hx hb hK hP 13 7 rfl rfl rfl dX11_image_9 ?_
      refine lv_icmp_lt (tgt := 15) hx hb dX11_image_10 (by decide) (fun _ => ?_) (fun c9 => absurd (by decide) c9)
      refine lv_aload_n hx hb dX11_image_15 rfl (lv_at hl 0 rfl) ?_
      refine va_get (ci := 11) (v := .ref (h 4)) (C := RX11) (T := TX11) (N := 14) hx hb ht iX11 hown hK hP 0 rfl rfl 7 (by decide) (ht _ k_91) (fun _ h9 => h9) rfl dX11_image_16 ?_
      refine lv_iload_n hx hb dX11_image_19 rfl (lv_at hl 1 rfl) ?_
      refine va_aldq hx hb hK hP 13 7 rfl rfl (in_lit (by decide +kernel)) dX11_image_20 ?_
      refine W.eq (g2 := F0 m 21 ls [.ref (h 53)]) rfl ?_
      refine lv_aload_n hx hb dX11_image_21 rfl (lv_at hl 0 rfl) ?_
      refine va_get (ci := 11) (v := .ref (h 3)) (C := RX11) (T := TX11) (N := 14) hx hb ht iX11 hown hK hP 0 rfl rfl 6 (by decide) (ht _ k_90) (fun _ h9 => h9) rfl dX11_image_22 ?_
      have hFc := va_free (wc := [((h 53), .inr (7, [.ref (h 59), .int 0, .int 0, .ref (h 60), .int 0])), ((h 3), .inr (7, [.ref (h 30), .int 0, .int 0, .ref (h 31), .int 0])), ((h 59), .inr (8, [.ref (h 61), .ref (h 62), .int 0])), ((h 30), .inr (8, [.ref (h 32), .ref (h 33), .int 0])), ((h 60), .inl (cy 0, 8, .inl (fun _ => 0))), ((h 31), .inl (cy 0, 8, .inl (fun _ => 0)))]) hD hS hA [26, 8, 27, 9, 30, 12] rfl
      have hPc := hP.sub (ws' := [((h 53), .inr (7, [.ref (h 59), .int 0, .int 0, .ref (h 60), .int 0])), ((h 3), .inr (7, [.ref (h 30), .int 0, .int 0, .ref (h 31), .int 0])), ((h 59), .inr (8, [.ref (h 61), .ref (h 62), .int 0])), ((h 30), .inr (8, [.ref (h 32), .ref (h 33), .int 0])), ((h 60), .inl (cy 0, 8, .inl (fun _ => 0))), ((h 31), .inl (cy 0, 8, .inl (fun _ => 0)))]) [26, 8, 27, 9, 30, 12] rfl
      have hDc := hD.sub (ws' := [((h 53), .inr (7, [.ref (h 59), .int 0, .int 0, .ref (h 60), .int 0])), ((h 3), .inr (7, [.ref (h 30), .int 0, .int 0, .ref (h 31), .int 0])), ((h 59), .inr (8, [.ref (h 61), .ref (h 62), .int 0])), ((h 30), .inr (8, [.ref (h 32), .ref (h 33), .int 0])), ((h 60), .inl (cy 0, 8, .inl (fun _ => 0))), ((h 31), .inl (cy 0, 8, .inl (fun _ => 0)))]) [26, 8, 27, 9, 30, 12] (by decide) rfl
      refine va_callv (va_runV (As := [.ref (h 3)]) (rest := []) ⟨hx, hb, hml, hown, ht⟩ (c_sceneLike l G cy _ (h 53) (h 3) (h 59) (h 60) (h 30) (h 31) (fun _ => 0) (fun _ => 0) (.ref (h 61)) (.ref (h 62)) (.ref (h 32)) (.ref (h 33)) ) (cwV 1 ht (gv k_244 k_245 k_246 k_87 k_243) rfl rfl rfl (by decide +kernel) ⟨Nat.le_of_ble_eq_true rfl, Nat.le_of_ble_eq_true rfl⟩) ⟨En.blind, va_recv hK hP (ci := 7) (q0 := 26) rfl rfl, fun U hU hW => ⟨rfl, En.of hU hW hPc hK hDc hN⟩⟩ rfl rfl hl.1 rfl (lv_room (Nat.le_of_ble_eq_true rfl)) dX11_image_25 ⟨Nat.le_of_ble_eq_true rfl, Nat.le_of_ble_eq_true rfl⟩) hS (fun q _ h => hFc q h) hFc (fun u_2 t H locs ht9 hvm hw hB hz1 hk1 hS => ?_)
      obtain ⟨hP1, hD1⟩ := hB
      rw [ht9] at hP1
      obtain ⟨hP, hD⟩ := fr_put (wc := [((h 53), .inr (7, [.ref (h 59), .int 0, .int 0, .ref (h 60), .int 0])), ((h 3), .inr (7, [.ref (h 30), .int 0, .int 0, .ref (h 31), .int 0])), ((h 59), .inr (8, [.ref (h 61), .ref (h 62), .int 0])), ((h 30), .inr (8, [.ref (h 32), .ref (h 33), .int 0])), ((h 60), .inl (cy 0, 8, .inl (fun _ => 0))), ((h 31), .inl (cy 0, 8, .inl (fun _ => 0)))]) (w1 := [((h 53), .inr (7, [.ref (h 59), .int 0, .int 0, .ref (h 60), .int 0])), ((h 3), .inr (7, [.ref (h 30), .int 0, .int 0, .ref (h 31), .int 0])), ((h 59), .inr (8, [.ref (h 61), .ref (h 62), .int 0])), ((h 30), .inr (8, [.ref (h 32), .ref (h 33), .int 0])), ((h 60), .inl (cy 0, 8, .inl (u_2 0))), ((h 31), .inl (cy 0, 8, .inl (u_2 1)))]) hP hD [26, 8, 27, 9, 30, 12] rfl rfl rfl hk1 hP1
      clear hFc hPc hDc hP1 hD1 hz1 hk1
      refine lv_aload_n hx hb dX11_image_28 rfl (lv_at hl 0 rfl) ?_
      refine va_get (ci := 11) (v := .ref (h 4)) (C := RX11) (T := TX11) (N := 14) hx hb ht iX11 hown hK hP 0 rfl rfl 7 (by decide) (ht _ k_91) (fun _ h9 => h9) rfl dX11_image_29 ?_
      refine lv_iload_n hx hb dX11_image_32 rfl (lv_at hl 1 rfl) ?_
      refine va_aldq hx hb hK hP 13 7 rfl rfl (in_lit (by decide +kernel)) dX11_image_33 ?_
      refine W.eq (g2 := F0 m 34 ls [.ref (h 53)]) rfl ?_
      refine lv_iconst (v := 1) hx hb dX11_image_34 (by decide) ?_
      refine va_putN (host := "TuneLocks") (ci := 7) (v := .int 1) (ty := .boolean) (C := RX7) (T := TX7) (N := 5) hx hb ht iX7 tyX7 tyX7_ok nmX7 hown hK hP hD hS 26 rfl rfl 4 (by decide) (va_Nw.use rfl (hN.1 _ ns_15)) (fun _ h9 => h9) rfl (by decide +kernel) rfl rfl (Nat.le_of_ble_eq_true rfl) dX11_image_35 (fun H locs hP hD hS => ?_)
      refine lv_aload_n hx hb dX11_image_38 rfl (lv_at hl 0 rfl) ?_
      refine va_get (ci := 11) (v := .ref (h 3)) (C := RX11) (T := TX11) (N := 14) hx hb ht iX11 hown hK hP 0 rfl rfl 6 (by decide) (ht _ k_90) (fun _ h9 => h9) rfl dX11_image_39 ?_
      refine va_getN (host := "TuneLocks") (ci := 7) (v := .ref (h 30)) (C := RX7) (T := TX7) (N := 5) hx hb ht iX7 hown hK hP 8 rfl rfl 0 (by decide) (va_Nw.use rfl (hN.1 _ ns_0)) (fun _ h9 => h9) rfl dX11_image_42 ?_
      refine va_getN (host := "TuneLocks") (ci := 8) (v := .int 0) (C := RX8) (T := TX8) (N := 3) hx hb ht iX8 hown hK hP 9 rfl rfl 2 (by decide) (va_Nw.use rfl (hN.1 _ ns_3)) (fun _ h9 => h9) rfl dX11_image_45 ?_
      refine W.widen (k := 0) (n := 0) (Nat.le_of_ble_eq_true rfl) (Nat.le_of_ble_eq_true rfl) ?_
      exact W.iret (v := 0) hx hb hr (fun t ht9 hW => ⟨⟨0, (), rfl, ⟨(by decide +kernel), trivial⟩, trivial⟩, hS.F ht9⟩) hS.2.2 dX11_image_48
    · obtain rfl : n = 2 := hj2
      have hl : lv_has ls 2 [(0, .ref x), (1, .int 2)] := hl
      refine lv_iload_n hx hb dX11_image_0 rfl (lv_at hl 1 rfl) ?_
      refine lv_if_lt (tgt := 13) hx hb dX11_image_1 (by decide) (fun c9 => absurd c9 (by decide)) (fun _ => ?_)
      refine lv_iload_n hx hb dX11_image_4 rfl (lv_at hl 1 rfl) ?_
      refine lv_aload_n hx hb dX11_image_5 rfl (lv_at hl 0 rfl) ?_
      refine va_get (ci := 11) (v := .ref (h 4)) (C := RX11) (T := TX11) (N := 14) hx hb ht iX11 hown hK hP 0 rfl rfl 7 (by decide) (ht _ k_91) (fun _ h9 => h9) rfl dX11_image_6 ?_
      refine va_alen (v := 3) hx hb hK hP 13 7 rfl rfl rfl dX11_image_9 ?_
      refine lv_icmp_lt (tgt := 15) hx hb dX11_image_10 (by decide) (fun _ => ?_) (fun c9 => absurd (by decide) c9)
      refine lv_aload_n hx hb dX11_image_15 rfl (lv_at hl 0 rfl) ?_
      refine va_get (ci := 11) (v := .ref (h 4)) (C := RX11) (T := TX11) (N := 14) hx hb ht iX11 hown hK hP 0 rfl rfl 7 (by decide) (ht _ k_91) (fun _ h9 => h9) rfl dX11_image_16 ?_
      refine lv_iload_n hx hb dX11_image_19 rfl (lv_at hl 1 rfl) ?_
      refine va_aldq hx hb hK hP 13 7 rfl rfl (in_lit (by decide +kernel)) dX11_image_20 ?_
      refine W.eq (g2 := F0 m 21 ls [.ref (h 54)]) rfl ?_
      refine lv_aload_n hx hb dX11_image_21 rfl (lv_at hl 0 rfl) ?_
      refine va_get (ci := 11) (v := .ref (h 3)) (C := RX11) (T := TX11) (N := 14) hx hb ht iX11 hown hK hP 0 rfl rfl 6 (by decide) (ht _ k_90) (fun _ h9 => h9) rfl dX11_image_22 ?_
      have hFc := va_free (wc := [((h 54), .inr (7, [.ref (h 63), .int 0, .int 0, .ref (h 64), .int 0])), ((h 3), .inr (7, [.ref (h 30), .int 0, .int 0, .ref (h 31), .int 0])), ((h 63), .inr (8, [.ref (h 65), .ref (h 66), .int 0])), ((h 30), .inr (8, [.ref (h 32), .ref (h 33), .int 0])), ((h 64), .inl (cy 0, 8, .inl (fun _ => 0))), ((h 31), .inl (cy 0, 8, .inl (fun _ => 0)))]) hD hS hA [31, 8, 32, 9, 35, 12] rfl
      have hPc := hP.sub (ws' := [((h 54), .inr (7, [.ref (h 63), .int 0, .int 0, .ref (h 64), .int 0])), ((h 3), .inr (7, [.ref (h 30), .int 0, .int 0, .ref (h 31), .int 0])), ((h 63), .inr (8, [.ref (h 65), .ref (h 66), .int 0])), ((h 30), .inr (8, [.ref (h 32), .ref (h 33), .int 0])), ((h 64), .inl (cy 0, 8, .inl (fun _ => 0))), ((h 31), .inl (cy 0, 8, .inl (fun _ => 0)))]) [31, 8, 32, 9, 35, 12] rfl
      have hDc := hD.sub (ws' := [((h 54), .inr (7, [.ref (h 63), .int 0, .int 0, .ref (h 64), .int 0])), ((h 3), .inr (7, [.ref (h 30), .int 0, .int 0, .ref (h 31), .int 0])), ((h 63), .inr (8, [.ref (h 65), .ref (h 66), .int 0])), ((h 30), .inr (8, [.ref (h 32), .ref (h 33), .int 0])), ((h 64), .inl (cy 0, 8, .inl (fun _ => 0))), ((h 31), .inl (cy 0, 8, .inl (fun _ => 0)))]) [31, 8, 32, 9, 35, 12] (by decide) rfl
      refine va_callv (va_runV (As := [.ref (h 3)]) (rest := []) ⟨hx, hb, hml, hown, ht⟩ (c_sceneLike l G cy _ (h 54) (h 3) (h 63) (h 64) (h 30) (h 31) (fun _ => 0) (fun _ => 0) (.ref (h 65)) (.ref (h 66)) (.ref (h 32)) (.ref (h 33)) ) (cwV 1 ht (gv k_244 k_245 k_246 k_87 k_243) rfl rfl rfl (by decide +kernel) ⟨Nat.le_of_ble_eq_true rfl, Nat.le_of_ble_eq_true rfl⟩) ⟨En.blind, va_recv hK hP (ci := 7) (q0 := 31) rfl rfl, fun U hU hW => ⟨rfl, En.of hU hW hPc hK hDc hN⟩⟩ rfl rfl hl.1 rfl (lv_room (Nat.le_of_ble_eq_true rfl)) dX11_image_25 ⟨Nat.le_of_ble_eq_true rfl, Nat.le_of_ble_eq_true rfl⟩) hS (fun q _ h => hFc q h) hFc (fun u_3 t H locs ht9 hvm hw hB hz1 hk1 hS => ?_)
      obtain ⟨hP1, hD1⟩ := hB
      rw [ht9] at hP1
      obtain ⟨hP, hD⟩ := fr_put (wc := [((h 54), .inr (7, [.ref (h 63), .int 0, .int 0, .ref (h 64), .int 0])), ((h 3), .inr (7, [.ref (h 30), .int 0, .int 0, .ref (h 31), .int 0])), ((h 63), .inr (8, [.ref (h 65), .ref (h 66), .int 0])), ((h 30), .inr (8, [.ref (h 32), .ref (h 33), .int 0])), ((h 64), .inl (cy 0, 8, .inl (fun _ => 0))), ((h 31), .inl (cy 0, 8, .inl (fun _ => 0)))]) (w1 := [((h 54), .inr (7, [.ref (h 63), .int 0, .int 0, .ref (h 64), .int 0])), ((h 3), .inr (7, [.ref (h 30), .int 0, .int 0, .ref (h 31), .int 0])), ((h 63), .inr (8, [.ref (h 65), .ref (h 66), .int 0])), ((h 30), .inr (8, [.ref (h 32), .ref (h 33), .int 0])), ((h 64), .inl (cy 0, 8, .inl (u_3 0))), ((h 31), .inl (cy 0, 8, .inl (u_3 1)))]) hP hD [31, 8, 32, 9, 35, 12] rfl rfl rfl hk1 hP1
      clear hFc hPc hDc hP1 hD1 hz1 hk1
      refine lv_aload_n hx hb dX11_image_28 rfl (lv_at hl 0 rfl) ?_
      refine va_get (ci := 11) (v := .ref (h 4)) (C := RX11) (T := TX11) (N := 14) hx hb ht iX11 hown hK hP 0 rfl rfl 7 (by decide) (ht _ k_91) (fun _ h9 => h9) rfl dX11_image_29 ?_
      refine lv_iload_n hx hb dX11_image_32 rfl (lv_at hl 1 rfl) ?_
      refine va_aldq hx hb hK hP 13 7 rfl rfl (in_lit (by decide +kernel)) dX11_image_33 ?_
      refine W.eq (g2 := F0 m 34 ls [.ref (h 54)]) rfl ?_
      refine lv_iconst (v := 1) hx hb dX11_image_34 (by decide) ?_
      refine va_putN (host := "TuneLocks") (ci := 7) (v := .int 1) (ty := .boolean) (C := RX7) (T := TX7) (N := 5) hx hb ht iX7 tyX7 tyX7_ok nmX7 hown hK hP hD hS 31 rfl rfl 4 (by decide) (va_Nw.use rfl (hN.1 _ ns_15)) (fun _ h9 => h9) rfl (by decide +kernel) rfl rfl (Nat.le_of_ble_eq_true rfl) dX11_image_35 (fun H locs hP hD hS => ?_)
      refine lv_aload_n hx hb dX11_image_38 rfl (lv_at hl 0 rfl) ?_
      refine va_get (ci := 11) (v := .ref (h 3)) (C := RX11) (T := TX11) (N := 14) hx hb ht iX11 hown hK hP 0 rfl rfl 6 (by decide) (ht _ k_90) (fun _ h9 => h9) rfl dX11_image_39 ?_
      refine va_getN (host := "TuneLocks") (ci := 7) (v := .ref (h 30)) (C := RX7) (T := TX7) (N := 5) hx hb ht iX7 hown hK hP 8 rfl rfl 0 (by decide) (va_Nw.use rfl (hN.1 _ ns_0)) (fun _ h9 => h9) rfl dX11_image_42 ?_
      refine va_getN (host := "TuneLocks") (ci := 8) (v := .int 0) (C := RX8) (T := TX8) (N := 3) hx hb ht iX8 hown hK hP 9 rfl rfl 2 (by decide) (va_Nw.use rfl (hN.1 _ ns_3)) (fun _ h9 => h9) rfl dX11_image_45 ?_
      refine W.widen (k := 0) (n := 0) (Nat.le_of_ble_eq_true rfl) (Nat.le_of_ble_eq_true rfl) ?_
      exact W.iret (v := 0) hx hb hr (fun t ht9 hW => ⟨⟨0, (), rfl, ⟨(by decide +kernel), trivial⟩, trivial⟩, hS.F ht9⟩) hS.2.2 dX11_image_48
  · skip
    have hl : lv_has ls 2 [(0, .ref x), (1, .int n)] := hl
    refine lv_iload_n hx hb dX11_image_0 rfl (lv_at hl 1 rfl) ?_
    refine lv_if_lt (tgt := 13) hx hb dX11_image_1 (by decide) (fun c_4 => ?_) (fun c_4 => ?_)
    · skip
      refine lv_iconst (v := (-1)) hx hb dX11_image_13 (by decide) ?_
      refine W.widen (k := 0) (n := 0) (Nat.le_of_ble_eq_true rfl) (Nat.le_of_ble_eq_true rfl) ?_
      exact W.iret (v := (-1)) hx hb hr (fun t ht9 hW => ⟨⟨(-1), (), rfl, ⟨(by unfold sp_rng; have z0 : (0 : Int32).toInt = 0 := (by decide); have z1 : (2 : Int32).toInt = 2 := (by decide); split <;> first | rfl | (exfalso; rename_i hc9; (try simp only [ow_lt, ow_le, ow_eq, true_and, and_true] at hc9 hout c_4); omega)), trivial⟩, trivial⟩, hS.F ht9⟩) hS.2.2 dX11_image_14
    · skip
      refine lv_iload_n hx hb dX11_image_4 rfl (lv_at hl 1 rfl) ?_
      refine lv_aload_n hx hb dX11_image_5 rfl (lv_at hl 0 rfl) ?_
      refine va_get (ci := 11) (v := .ref (h 4)) (C := RX11) (T := TX11) (N := 14) hx hb ht iX11 hown hK hP 0 rfl rfl 7 (by decide) (ht _ k_91) (fun _ h9 => h9) rfl dX11_image_6 ?_
      refine va_alen (v := 3) hx hb hK hP 13 7 rfl rfl rfl dX11_image_9 ?_
      refine lv_icmp_lt (tgt := 15) hx hb dX11_image_10 (by decide) (fun c_5 => ?_) (fun c_5 => ?_)
      · exfalso
        have z0 : (0 : Int32).toInt = 0 := (by decide); have z1 : (3 : Int32).toInt = 3 := (by decide); (try simp only [ow_lt, ow_le, ow_eq, true_and, and_true] at hout c_4 c_5); omega
      · skip
        refine lv_iconst (v := (-1)) hx hb dX11_image_13 (by decide) ?_
        refine W.widen (k := 0) (n := 0) (Nat.le_of_ble_eq_true rfl) (Nat.le_of_ble_eq_true rfl) ?_
        exact W.iret (v := (-1)) hx hb hr (fun t ht9 hW => ⟨⟨(-1), (), rfl, ⟨(by unfold sp_rng; have z0 : (0 : Int32).toInt = 0 := (by decide); have z1 : (2 : Int32).toInt = 2 := (by decide); have z2 : (3 : Int32).toInt = 3 := (by decide); split <;> first | rfl | (exfalso; rename_i hc9; (try simp only [ow_lt, ow_le, ow_eq, true_and, and_true] at hc9 hout c_4 c_5); omega)), trivial⟩, trivial⟩, hS.F ht9⟩) hS.2.2 dX11_image_14
set_option maxHeartbeats 4000000 in
set_option maxRecDepth 100000 in
theorem x_back (l : Launch) (G : va_G) (cy : Nat → ClassId) (sz : Nat) (x : Nat) (h : Nat → Nat) (n : Int32)  : Met l yX11_back (.code yX11_back cX11_back 2 (some .int) :: TBg) ({ frames := 1, cells := 0, slots := 0, locals := 64 }) (va_Pc [.ref x, .int n] (En G cy (WX cy x h) sz)) (va_Qi (fun (r : Int32) (_ : Unit) => r = (-1) ∧ True) (fun _ _ => True) (va_A (WX cy x h) sz)) 0 0 (va_A (WX cy x h) sz) := by
  refine Met.ofW (cc := cX11_back) (maxL := 2) (ret := (some .int)) (by decide) rfl ?_
  intro p e s m args below meth c s₁ B hml hv
  obtain ⟨rfl, hsz, hP, hK, hD0, hN⟩ := hv
  have hx := B.exec
  have hb := B.bytes
  have hr := B.returns
  have hts := atoms_spec (ws := .code yX11_back cX11_back 2 (some .int) :: TBg) B.pre
  have ht : ∀ w ∈ TBg, w.before _ s = true := fun w h => hts w (List.mem_cons_of_mem _ h)
  have hown : s.vm.findClass RX11 = some m.cls := findClass_of_methodNamed B.named
  have hlocks := B.notSynchronized
  subst hsz
  have hD := hD0.self (sz := s.heap.size)
  generalize hAe : va_A (WX cy x h) s.heap.size = A at hD ⊢
  have hA : ∀ q : Nat, s.heap.size ≤ q → A q := fun q h => by rw [← hAe]; exact Or.inr h
  have hS : va_S A s.heap s.heap [] := va_S.rf
  have hl := lv_entry ([.ref x, .int n]) (n := 2) (Nat.le_of_ble_eq_true rfl)
  rw [lg_entry_eq]
  generalize (lg_sl ([.ref x, .int n]) ++ List.replicate (2 - (lg_sl ([.ref x, .int n])).length) Slot.unset).toArray = ls at hl ⊢
  rcases ow_cut n 3 (by decide) with ⟨j, hj, hj2⟩ | hout
  · have hj3 : j = 0 ∨ j = 1 ∨ j = 2 := by omega
    rcases hj3 with rfl | rfl | rfl
    · obtain rfl : n = 0 := hj2
      have hl : lv_has ls 2 [(0, .ref x), (1, .int 0)] := hl
      refine lv_iload_n hx hb dX11_back_0 rfl (lv_at hl 1 rfl) ?_
      refine lv_if_lt (tgt := 25) hx hb dX11_back_1 (by decide) (fun c9 => absurd c9 (by decide)) (fun _ => ?_)
      refine lv_iload_n hx hb dX11_back_4 rfl (lv_at hl 1 rfl) ?_
      refine lv_aload_n hx hb dX11_back_5 rfl (lv_at hl 0 rfl) ?_
      refine va_get (ci := 11) (v := .ref (h 4)) (C := RX11) (T := TX11) (N := 14) hx hb ht iX11 hown hK hP 0 rfl rfl 7 (by decide) (ht _ k_91) (fun _ h9 => h9) rfl dX11_back_6 ?_
      refine va_alen (v := 3) hx hb hK hP 13 7 rfl rfl rfl dX11_back_9 ?_
      refine lv_icmp_ge (tgt := 25) hx hb dX11_back_10 (by decide) (fun c9 => absurd c9 (by decide)) (fun _ => ?_)
      refine lv_aload_n hx hb dX11_back_13 rfl (lv_at hl 0 rfl) ?_
      refine va_get (ci := 11) (v := .ref (h 4)) (C := RX11) (T := TX11) (N := 14) hx hb ht iX11 hown hK hP 0 rfl rfl 7 (by decide) (ht _ k_91) (fun _ h9 => h9) rfl dX11_back_14 ?_
      refine lv_iload_n hx hb dX11_back_17 rfl (lv_at hl 1 rfl) ?_
      refine va_aldq hx hb hK hP 13 7 rfl rfl (in_lit (by decide +kernel)) dX11_back_18 ?_
      refine W.eq (g2 := F0 m 19 ls [.ref (h 52)]) rfl ?_
      refine va_getN (host := "TuneLocks") (ci := 7) (v := .int 0) (C := RX7) (T := TX7) (N := 5) hx hb ht iX7 hown hK hP 21 rfl rfl 4 (by decide) (va_Nw.use rfl (hN.1 _ ns_15)) (fun _ h9 => h9) rfl dX11_back_19 ?_
      refine lv_if_ne (tgt := 27) hx hb dX11_back_22 (by decide) (fun c9 => absurd (by decide) c9) (fun _ => ?_)
      refine lv_iconst (v := (-1)) hx hb dX11_back_25 (by decide) ?_
      refine W.widen (k := 0) (n := 0) (Nat.le_of_ble_eq_true rfl) (Nat.le_of_ble_eq_true rfl) ?_
      exact W.iret (v := (-1)) hx hb hr (fun t ht9 hW => ⟨⟨(-1), (), rfl, ⟨rfl, trivial⟩, trivial⟩, hS.F ht9⟩) hS.2.2 dX11_back_26
    · obtain rfl : n = 1 := hj2
      have hl : lv_has ls 2 [(0, .ref x), (1, .int 1)] := hl
      refine lv_iload_n hx hb dX11_back_0 rfl (lv_at hl 1 rfl) ?_
      refine lv_if_lt (tgt := 25) hx hb dX11_back_1 (by decide) (fun c9 => absurd c9 (by decide)) (fun _ => ?_)
      refine lv_iload_n hx hb dX11_back_4 rfl (lv_at hl 1 rfl) ?_
      refine lv_aload_n hx hb dX11_back_5 rfl (lv_at hl 0 rfl) ?_
      refine va_get (ci := 11) (v := .ref (h 4)) (C := RX11) (T := TX11) (N := 14) hx hb ht iX11 hown hK hP 0 rfl rfl 7 (by decide) (ht _ k_91) (fun _ h9 => h9) rfl dX11_back_6 ?_
      refine va_alen (v := 3) hx hb hK hP 13 7 rfl rfl rfl dX11_back_9 ?_
      refine lv_icmp_ge (tgt := 25) hx hb dX11_back_10 (by decide) (fun c9 => absurd c9 (by decide)) (fun _ => ?_)
      refine lv_aload_n hx hb dX11_back_13 rfl (lv_at hl 0 rfl) ?_
      refine va_get (ci := 11) (v := .ref (h 4)) (C := RX11) (T := TX11) (N := 14) hx hb ht iX11 hown hK hP 0 rfl rfl 7 (by decide) (ht _ k_91) (fun _ h9 => h9) rfl dX11_back_14 ?_
      refine lv_iload_n hx hb dX11_back_17 rfl (lv_at hl 1 rfl) ?_
      refine va_aldq hx hb hK hP 13 7 rfl rfl (in_lit (by decide +kernel)) dX11_back_18 ?_
      refine W.eq (g2 := F0 m 19 ls [.ref (h 53)]) rfl ?_
      refine va_getN (host := "TuneLocks") (ci := 7) (v := .int 0) (C := RX7) (T := TX7) (N := 5) hx hb ht iX7 hown hK hP 26 rfl rfl 4 (by decide) (va_Nw.use rfl (hN.1 _ ns_15)) (fun _ h9 => h9) rfl dX11_back_19 ?_
      refine lv_if_ne (tgt := 27) hx hb dX11_back_22 (by decide) (fun c9 => absurd (by decide) c9) (fun _ => ?_)
      refine lv_iconst (v := (-1)) hx hb dX11_back_25 (by decide) ?_
      refine W.widen (k := 0) (n := 0) (Nat.le_of_ble_eq_true rfl) (Nat.le_of_ble_eq_true rfl) ?_
      exact W.iret (v := (-1)) hx hb hr (fun t ht9 hW => ⟨⟨(-1), (), rfl, ⟨rfl, trivial⟩, trivial⟩, hS.F ht9⟩) hS.2.2 dX11_back_26
    · obtain rfl : n = 2 := hj2
      have hl : lv_has ls 2 [(0, .ref x), (1, .int 2)] := hl
      refine lv_iload_n hx hb dX11_back_0 rfl (lv_at hl 1 rfl) ?_
      refine lv_if_lt (tgt := 25) hx hb dX11_back_1 (by decide) (fun c9 => absurd c9 (by decide)) (fun _ => ?_)
      refine lv_iload_n hx hb dX11_back_4 rfl (lv_at hl 1 rfl) ?_
      refine lv_aload_n hx hb dX11_back_5 rfl (lv_at hl 0 rfl) ?_
      refine va_get (ci := 11) (v := .ref (h 4)) (C := RX11) (T := TX11) (N := 14) hx hb ht iX11 hown hK hP 0 rfl rfl 7 (by decide) (ht _ k_91) (fun _ h9 => h9) rfl dX11_back_6 ?_
      refine va_alen (v := 3) hx hb hK hP 13 7 rfl rfl rfl dX11_back_9 ?_
      refine lv_icmp_ge (tgt := 25) hx hb dX11_back_10 (by decide) (fun c9 => absurd c9 (by decide)) (fun _ => ?_)
      refine lv_aload_n hx hb dX11_back_13 rfl (lv_at hl 0 rfl) ?_
      refine va_get (ci := 11) (v := .ref (h 4)) (C := RX11) (T := TX11) (N := 14) hx hb ht iX11 hown hK hP 0 rfl rfl 7 (by decide) (ht _ k_91) (fun _ h9 => h9) rfl dX11_back_14 ?_
      refine lv_iload_n hx hb dX11_back_17 rfl (lv_at hl 1 rfl) ?_
      refine va_aldq hx hb hK hP 13 7 rfl rfl (in_lit (by decide +kernel)) dX11_back_18 ?_
      refine W.eq (g2 := F0 m 19 ls [.ref (h 54)]) rfl ?_
      refine va_getN (host := "TuneLocks") (ci := 7) (v := .int 0) (C := RX7) (T := TX7) (N := 5) hx hb ht iX7 hown hK hP 31 rfl rfl 4 (by decide) (va_Nw.use rfl (hN.1 _ ns_15)) (fun _ h9 => h9) rfl dX11_back_19 ?_
      refine lv_if_ne (tgt := 27) hx hb dX11_back_22 (by decide) (fun c9 => absurd (by decide) c9) (fun _ => ?_)
      refine lv_iconst (v := (-1)) hx hb dX11_back_25 (by decide) ?_
      refine W.widen (k := 0) (n := 0) (Nat.le_of_ble_eq_true rfl) (Nat.le_of_ble_eq_true rfl) ?_
      exact W.iret (v := (-1)) hx hb hr (fun t ht9 hW => ⟨⟨(-1), (), rfl, ⟨rfl, trivial⟩, trivial⟩, hS.F ht9⟩) hS.2.2 dX11_back_26
  · skip
    have hl : lv_has ls 2 [(0, .ref x), (1, .int n)] := hl
    refine lv_iload_n hx hb dX11_back_0 rfl (lv_at hl 1 rfl) ?_
    refine lv_if_lt (tgt := 25) hx hb dX11_back_1 (by decide) (fun c_1 => ?_) (fun c_1 => ?_)
    · skip
      refine lv_iconst (v := (-1)) hx hb dX11_back_25 (by decide) ?_
      refine W.widen (k := 0) (n := 0) (Nat.le_of_ble_eq_true rfl) (Nat.le_of_ble_eq_true rfl) ?_
      exact W.iret (v := (-1)) hx hb hr (fun t ht9 hW => ⟨⟨(-1), (), rfl, ⟨rfl, trivial⟩, trivial⟩, hS.F ht9⟩) hS.2.2 dX11_back_26
    · skip
      refine lv_iload_n hx hb dX11_back_4 rfl (lv_at hl 1 rfl) ?_
      refine lv_aload_n hx hb dX11_back_5 rfl (lv_at hl 0 rfl) ?_
      refine va_get (ci := 11) (v := .ref (h 4)) (C := RX11) (T := TX11) (N := 14) hx hb ht iX11 hown hK hP 0 rfl rfl 7 (by decide) (ht _ k_91) (fun _ h9 => h9) rfl dX11_back_6 ?_
      refine va_alen (v := 3) hx hb hK hP 13 7 rfl rfl rfl dX11_back_9 ?_
      refine lv_icmp_ge (tgt := 25) hx hb dX11_back_10 (by decide) (fun c_2 => ?_) (fun c_2 => ?_)
      · skip
        refine lv_iconst (v := (-1)) hx hb dX11_back_25 (by decide) ?_
        refine W.widen (k := 0) (n := 0) (Nat.le_of_ble_eq_true rfl) (Nat.le_of_ble_eq_true rfl) ?_
        exact W.iret (v := (-1)) hx hb hr (fun t ht9 hW => ⟨⟨(-1), (), rfl, ⟨rfl, trivial⟩, trivial⟩, hS.F ht9⟩) hS.2.2 dX11_back_26
      · exfalso
        have z0 : (0 : Int32).toInt = 0 := (by decide); have z1 : (3 : Int32).toInt = 3 := (by decide); (try simp only [ow_lt, ow_le, ow_eq, true_and, and_true] at hout c_1 c_2); omega
set_option maxHeartbeats 4000000 in
set_option maxRecDepth 100000 in
theorem x_about (l : Launch) (G : va_G) (cy : Nat → ClassId) (sz : Nat) (x : Nat) (h : Nat → Nat) (n : Int32)  : Met l yX11_about (.code yX11_about cX11_about 2 (some .int) :: TBg) ({ frames := 1, cells := 0, slots := 0, locals := 64 }) (va_Pc [.ref x, .int n] (En G cy (WX cy x h) sz)) (va_Qi (fun (r : Int32) (_ : Unit) => r = (sp_rng 7 n) ∧ True) (fun _ _ => True) (va_A (WX cy x h) sz)) 0 0 (va_A (WX cy x h) sz) := by
  refine Met.ofW (cc := cX11_about) (maxL := 2) (ret := (some .int)) (by decide) rfl ?_
  intro p e s m args below meth c s₁ B hml hv
  obtain ⟨rfl, hsz, hP, hK, hD0, hN⟩ := hv
  have hx := B.exec
  have hb := B.bytes
  have hr := B.returns
  have hts := atoms_spec (ws := .code yX11_about cX11_about 2 (some .int) :: TBg) B.pre
  have ht : ∀ w ∈ TBg, w.before _ s = true := fun w h => hts w (List.mem_cons_of_mem _ h)
  have hown : s.vm.findClass RX11 = some m.cls := findClass_of_methodNamed B.named
  have hlocks := B.notSynchronized
  subst hsz
  have hD := hD0.self (sz := s.heap.size)
  generalize hAe : va_A (WX cy x h) s.heap.size = A at hD ⊢
  have hA : ∀ q : Nat, s.heap.size ≤ q → A q := fun q h => by rw [← hAe]; exact Or.inr h
  have hS : va_S A s.heap s.heap [] := va_S.rf
  have hl := lv_entry ([.ref x, .int n]) (n := 2) (Nat.le_of_ble_eq_true rfl)
  rw [lg_entry_eq]
  generalize (lg_sl ([.ref x, .int n]) ++ List.replicate (2 - (lg_sl ([.ref x, .int n])).length) Slot.unset).toArray = ls at hl ⊢
  rcases ow_cut n 8 (by decide) with ⟨j, hj, hj2⟩ | hout
  · have hj3 : j = 0 ∨ j = 1 ∨ j = 2 ∨ j = 3 ∨ j = 4 ∨ j = 5 ∨ j = 6 ∨ j = 7 := by omega
    rcases hj3 with rfl | rfl | rfl | rfl | rfl | rfl | rfl | rfl
    · obtain rfl : n = 0 := hj2
      have hl : lv_has ls 2 [(0, .ref x), (1, .int 0)] := hl
      refine lv_iload_n hx hb dX11_about_0 rfl (lv_at hl 1 rfl) ?_
      refine lv_tableIn (tgt := 48) hx hb dX11_about_1 (by decide +kernel) (by decide +kernel) rfl (by decide) ?_
      refine lv_aload_n hx hb dX11_about_48 rfl (lv_at hl 0 rfl) ?_
      refine va_get (ci := 11) (v := .ref (h 1)) (C := RX11) (T := TX11) (N := 14) hx hb ht iX11 hown hK hP 0 rfl rfl 2 (by decide) (ht _ k_82) (fun _ h9 => h9) rfl dX11_about_49 ?_
      refine va_getN (host := "TuneLocks") (ci := 9) (v := .int 0) (C := RX9) (T := TX9) (N := 9) hx hb ht iX9 hown hK hP 2 rfl rfl 3 (by decide) (va_Nw.use rfl (hN.1 _ ns_8)) (fun _ h9 => h9) rfl dX11_about_52 ?_
      refine W.widen (k := 0) (n := 0) (Nat.le_of_ble_eq_true rfl) (Nat.le_of_ble_eq_true rfl) ?_
      exact W.iret (v := 0) hx hb hr (fun t ht9 hW => ⟨⟨0, (), rfl, ⟨(by decide +kernel), trivial⟩, trivial⟩, hS.F ht9⟩) hS.2.2 dX11_about_55
    · obtain rfl : n = 1 := hj2
      have hl : lv_has ls 2 [(0, .ref x), (1, .int 1)] := hl
      refine lv_iload_n hx hb dX11_about_0 rfl (lv_at hl 1 rfl) ?_
      refine lv_tableIn (tgt := 56) hx hb dX11_about_1 (by decide +kernel) (by decide +kernel) rfl (by decide) ?_
      refine lv_aload_n hx hb dX11_about_56 rfl (lv_at hl 0 rfl) ?_
      refine va_get (ci := 11) (v := .ref (h 1)) (C := RX11) (T := TX11) (N := 14) hx hb ht iX11 hown hK hP 0 rfl rfl 2 (by decide) (ht _ k_82) (fun _ h9 => h9) rfl dX11_about_57 ?_
      refine va_getN (host := "TuneLocks") (ci := 9) (v := .int 0) (C := RX9) (T := TX9) (N := 9) hx hb ht iX9 hown hK hP 2 rfl rfl 5 (by decide) (va_Nw.use rfl (hN.1 _ ns_1)) (fun _ h9 => h9) rfl dX11_about_60 ?_
      refine W.widen (k := 0) (n := 0) (Nat.le_of_ble_eq_true rfl) (Nat.le_of_ble_eq_true rfl) ?_
      exact W.iret (v := 0) hx hb hr (fun t ht9 hW => ⟨⟨0, (), rfl, ⟨(by decide +kernel), trivial⟩, trivial⟩, hS.F ht9⟩) hS.2.2 dX11_about_63
    · obtain rfl : n = 2 := hj2
      have hl : lv_has ls 2 [(0, .ref x), (1, .int 2)] := hl
      refine lv_iload_n hx hb dX11_about_0 rfl (lv_at hl 1 rfl) ?_
      refine lv_tableIn (tgt := 64) hx hb dX11_about_1 (by decide +kernel) (by decide +kernel) rfl (by decide) ?_
      refine lv_aload_n hx hb dX11_about_64 rfl (lv_at hl 0 rfl) ?_
      refine va_get (ci := 11) (v := .ref (h 3)) (C := RX11) (T := TX11) (N := 14) hx hb ht iX11 hown hK hP 0 rfl rfl 6 (by decide) (ht _ k_90) (fun _ h9 => h9) rfl dX11_about_65 ?_
      refine va_getN (host := "TuneLocks") (ci := 7) (v := .ref (h 30)) (C := RX7) (T := TX7) (N := 5) hx hb ht iX7 hown hK hP 8 rfl rfl 0 (by decide) (va_Nw.use rfl (hN.1 _ ns_0)) (fun _ h9 => h9) rfl dX11_about_68 ?_
      refine va_getN (host := "TuneLocks") (ci := 8) (v := .int 0) (C := RX8) (T := TX8) (N := 3) hx hb ht iX8 hown hK hP 9 rfl rfl 2 (by decide) (va_Nw.use rfl (hN.1 _ ns_3)) (fun _ h9 => h9) rfl dX11_about_71 ?_
      refine W.widen (k := 0) (n := 0) (Nat.le_of_ble_eq_true rfl) (Nat.le_of_ble_eq_true rfl) ?_
      exact W.iret (v := 0) hx hb hr (fun t ht9 hW => ⟨⟨0, (), rfl, ⟨(by decide +kernel), trivial⟩, trivial⟩, hS.F ht9⟩) hS.2.2 dX11_about_74
    · obtain rfl : n = 3 := hj2
      have hl : lv_has ls 2 [(0, .ref x), (1, .int 3)] := hl
      refine lv_iload_n hx hb dX11_about_0 rfl (lv_at hl 1 rfl) ?_
      refine lv_tableIn (tgt := 75) hx hb dX11_about_1 (by decide +kernel) (by decide +kernel) rfl (by decide) ?_
      refine lv_aload_n hx hb dX11_about_75 rfl (lv_at hl 0 rfl) ?_
      refine va_get (ci := 11) (v := .ref (h 3)) (C := RX11) (T := TX11) (N := 14) hx hb ht iX11 hown hK hP 0 rfl rfl 6 (by decide) (ht _ k_90) (fun _ h9 => h9) rfl dX11_about_76 ?_
      refine va_getN (host := "TuneLocks") (ci := 7) (v := .int 0) (C := RX7) (T := TX7) (N := 5) hx hb ht iX7 hown hK hP 8 rfl rfl 1 (by decide) (va_Nw.use rfl (hN.1 _ ns_11)) (fun _ h9 => h9) rfl dX11_about_79 ?_
      refine lv_if_eq (tgt := 89) hx hb dX11_about_82 (by decide) (fun _ => ?_) (fun c9 => absurd (by decide) c9)
      refine lv_iconst (v := 0) hx hb dX11_about_89 (by decide) ?_
      refine W.widen (k := 0) (n := 0) (Nat.le_of_ble_eq_true rfl) (Nat.le_of_ble_eq_true rfl) ?_
      exact W.iret (v := 0) hx hb hr (fun t ht9 hW => ⟨⟨0, (), rfl, ⟨(by decide +kernel), trivial⟩, trivial⟩, hS.F ht9⟩) hS.2.2 dX11_about_90
    · obtain rfl : n = 4 := hj2
      have hl : lv_has ls 2 [(0, .ref x), (1, .int 4)] := hl
      refine lv_iload_n hx hb dX11_about_0 rfl (lv_at hl 1 rfl) ?_
      refine lv_tableIn (tgt := 91) hx hb dX11_about_1 (by decide +kernel) (by decide +kernel) rfl (by decide) ?_
      refine lv_aload_n hx hb dX11_about_91 rfl (lv_at hl 0 rfl) ?_
      refine va_get (ci := 11) (v := .ref (h 6)) (C := RX11) (T := TX11) (N := 14) hx hb ht iX11 hown hK hP 0 rfl rfl 9 (by decide) (ht _ k_99) (fun _ h9 => h9) rfl dX11_about_92 ?_
      refine va_getN (host := "TuneLocks") (ci := 10) (v := .int 0) (C := RX10) (T := TX10) (N := 6) hx hb ht iX10 hown hK hP 15 rfl rfl 5 (by decide) (va_Nw.use rfl (hN.1 _ ns_16)) (fun _ h9 => h9) rfl dX11_about_95 ?_
      refine W.widen (k := 0) (n := 0) (Nat.le_of_ble_eq_true rfl) (Nat.le_of_ble_eq_true rfl) ?_
      exact W.iret (v := 0) hx hb hr (fun t ht9 hW => ⟨⟨0, (), rfl, ⟨(by decide +kernel), trivial⟩, trivial⟩, hS.F ht9⟩) hS.2.2 dX11_about_98
    · obtain rfl : n = 5 := hj2
      have hl : lv_has ls 2 [(0, .ref x), (1, .int 5)] := hl
      refine lv_iload_n hx hb dX11_about_0 rfl (lv_at hl 1 rfl) ?_
      refine lv_tableIn (tgt := 99) hx hb dX11_about_1 (by decide +kernel) (by decide +kernel) rfl (by decide) ?_
      refine lv_aload_n hx hb dX11_about_99 rfl (lv_at hl 0 rfl) ?_
      refine va_get (ci := 11) (v := .int 0) (C := RX11) (T := TX11) (N := 14) hx hb ht iX11 hown hK hP 0 rfl rfl 10 (by decide) (ht _ k_233) (fun _ h9 => h9) rfl dX11_about_100 ?_
      refine W.widen (k := 0) (n := 0) (Nat.le_of_ble_eq_true rfl) (Nat.le_of_ble_eq_true rfl) ?_
      exact W.iret (v := 0) hx hb hr (fun t ht9 hW => ⟨⟨0, (), rfl, ⟨(by decide +kernel), trivial⟩, trivial⟩, hS.F ht9⟩) hS.2.2 dX11_about_103
    · obtain rfl : n = 6 := hj2
      have hl : lv_has ls 2 [(0, .ref x), (1, .int 6)] := hl
      refine lv_iload_n hx hb dX11_about_0 rfl (lv_at hl 1 rfl) ?_
      refine lv_tableIn (tgt := 104) hx hb dX11_about_1 (by decide +kernel) (by decide +kernel) rfl (by decide) ?_
      refine lv_aload_n hx hb dX11_about_104 rfl (lv_at hl 0 rfl) ?_
      refine va_get (ci := 11) (v := .int 0) (C := RX11) (T := TX11) (N := 14) hx hb ht iX11 hown hK hP 0 rfl rfl 1 (by decide) (ht _ k_119) (fun _ h9 => h9) rfl dX11_about_105 ?_
      refine W.widen (k := 0) (n := 0) (Nat.le_of_ble_eq_true rfl) (Nat.le_of_ble_eq_true rfl) ?_
      exact W.iret (v := 0) hx hb hr (fun t ht9 hW => ⟨⟨0, (), rfl, ⟨(by decide +kernel), trivial⟩, trivial⟩, hS.F ht9⟩) hS.2.2 dX11_about_108
    · obtain rfl : n = 7 := hj2
      have hl : lv_has ls 2 [(0, .ref x), (1, .int 7)] := hl
      refine lv_iload_n hx hb dX11_about_0 rfl (lv_at hl 1 rfl) ?_
      refine lv_tableIn (tgt := 109) hx hb dX11_about_1 (by decide +kernel) (by decide +kernel) rfl (by decide) ?_
      refine lv_aload_n hx hb dX11_about_109 rfl (lv_at hl 0 rfl) ?_
      refine va_get (ci := 11) (v := .ref (h 1)) (C := RX11) (T := TX11) (N := 14) hx hb ht iX11 hown hK hP 0 rfl rfl 2 (by decide) (ht _ k_82) (fun _ h9 => h9) rfl dX11_about_110 ?_
      refine va_getN (host := "TuneLocks") (ci := 9) (v := .int 0) (C := RX9) (T := TX9) (N := 9) hx hb ht iX9 hown hK hP 2 rfl rfl 7 (by decide) (va_Nw.use rfl (hN.1 _ ns_17)) (fun _ h9 => h9) rfl dX11_about_113 ?_
      refine W.widen (k := 0) (n := 0) (Nat.le_of_ble_eq_true rfl) (Nat.le_of_ble_eq_true rfl) ?_
      exact W.iret (v := 0) hx hb hr (fun t ht9 hW => ⟨⟨0, (), rfl, ⟨(by decide +kernel), trivial⟩, trivial⟩, hS.F ht9⟩) hS.2.2 dX11_about_116
  · skip
    have hl : lv_has ls 2 [(0, .ref x), (1, .int n)] := hl
    refine lv_iload_n hx hb dX11_about_0 rfl (lv_at hl 1 rfl) ?_
    refine lv_tableOut (tgt := 117) hx hb dX11_about_1 (by (try simp only [ow_lt, ow_le, ow_eq, true_and, and_true] at hout); omega) (by decide) ?_
    refine lv_iconst (v := (-1)) hx hb dX11_about_117 (by decide) ?_
    refine W.widen (k := 0) (n := 0) (Nat.le_of_ble_eq_true rfl) (Nat.le_of_ble_eq_true rfl) ?_
    exact W.iret (v := (-1)) hx hb hr (fun t ht9 hW => ⟨⟨(-1), (), rfl, ⟨(by unfold sp_rng; have z0 : (0 : Int32).toInt = 0 := (by decide); have z1 : (7 : Int32).toInt = 7 := (by decide); split <;> first | rfl | (exfalso; rename_i hc9; (try simp only [ow_lt, ow_le, ow_eq, true_and, and_true] at hc9 hout); omega)), trivial⟩, trivial⟩, hS.F ht9⟩) hS.2.2 dX11_about_118
