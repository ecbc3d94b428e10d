theorem k_0 : (Cond.methodLink RX4 3 objectInit) ∈ TBg := tb_mem 214 (by decide +kernel) (by decide +kernel)
theorem k_1 : (Cond.instanceMethod objectInit) ∈ TBg := tb_mem 111 (by decide +kernel) (by decide +kernel)
theorem k_2 : (Cond.code objectInit ⟨#[0xb1]⟩ 1 none) ∈ TBg := tb_mem 112 (by decide +kernel) (by decide +kernel)
theorem k_3 : (Cond.methodLink RX0 3 objectInit) ∈ TBg := tb_mem 399 (by decide +kernel) (by decide +kernel)
theorem k_4 : (Cond.arrayClass .int) ∈ TBg := tb_mem 151 (by decide +kernel) (by decide +kernel)
theorem k_5 : (Cond.fieldLink RX0 9 "TuneLocks$Canon" "moments" "[I") ∈ TBg := tb_mem 400 (by decide +kernel) (by decide +kernel)
theorem k_6 : (Cond.methodLink RX1 3 objectInit) ∈ TBg := tb_mem 353 (by decide +kernel) (by decide +kernel)
theorem k_7 : (Cond.fieldLink RX1 9 "TuneLocks$Deal" "nearBits" "[I") ∈ TBg := tb_mem 354 (by decide +kernel) (by decide +kernel)
theorem k_8 : (Cond.methodLink RX2 3 objectInit) ∈ TBg := tb_mem 185 (by decide +kernel) (by decide +kernel)
theorem k_9 : (Cond.fieldLink RX2 9 "TuneLocks$Hearing" "place" "[I") ∈ TBg := tb_mem 186 (by decide +kernel) (by decide +kernel)
theorem k_10 : (Cond.fieldLink RX2 15 "TuneLocks$Hearing" "least" "[I") ∈ TBg := tb_mem 188 (by decide +kernel) (by decide +kernel)
theorem k_11 : (Cond.fieldLink RX2 18 "TuneLocks$Hearing" "atFirst" "[I") ∈ TBg := tb_mem 192 (by decide +kernel) (by decide +kernel)
theorem k_12 : (Cond.fieldLink RX2 21 "TuneLocks$Hearing" "atLast" "[I") ∈ TBg := tb_mem 194 (by decide +kernel) (by decide +kernel)
theorem k_13 : (Cond.methodLink RX5 3 objectInit) ∈ TBg := tb_mem 130 (by decide +kernel) (by decide +kernel)
theorem k_14 : (Cond.fieldLink RX5 11 "TuneLocks$Questions" "sorts" "[I") ∈ TBg := tb_mem 131 (by decide +kernel) (by decide +kernel)
theorem k_15 : (Cond.fieldLink RX5 15 "TuneLocks$Questions" "values" "[I") ∈ TBg := tb_mem 132 (by decide +kernel) (by decide +kernel)
theorem k_16 : (Cond.fieldLink RX5 18 "TuneLocks$Questions" "stack" "[I") ∈ TBg := tb_mem 136 (by decide +kernel) (by decide +kernel)
theorem k_17 : (Cond.methodLink RX10 3 objectInit) ∈ TBg := tb_mem 327 (by decide +kernel) (by decide +kernel)
theorem k_18 : (Cond.fieldLink RX10 9 "TuneLocks$Watches" "watched" "[I") ∈ TBg := tb_mem 328 (by decide +kernel) (by decide +kernel)
theorem k_19 : (Cond.arrayClass .boolean) ∈ TBg := tb_mem 180 (by decide +kernel) (by decide +kernel)
theorem k_20 : (Cond.fieldLink RX10 15 "TuneLocks$Watches" "atNight" "[Z") ∈ TBg := tb_mem 329 (by decide +kernel) (by decide +kernel)
theorem k_21 : (Cond.fieldLink RX10 19 "TuneLocks$Watches" "didOpen" "[Z") ∈ TBg := tb_mem 330 (by decide +kernel) (by decide +kernel)
theorem k_22 : (Cond.fieldLink RX10 22 "TuneLocks$Watches" "toldAt" "[I") ∈ TBg := tb_mem 331 (by decide +kernel) (by decide +kernel)
theorem k_23 : (Cond.fieldLink RX10 25 "TuneLocks$Watches" "untoldAt" "[I") ∈ TBg := tb_mem 332 (by decide +kernel) (by decide +kernel)
theorem k_24 : (Cond.methodLink RX8 3 objectInit) ∈ TBg := tb_mem 156 (by decide +kernel) (by decide +kernel)
theorem k_25 : (Cond.methodLink RX8 9 Lib.Math.max.name) ∈ TBg := tb_mem 157 (by decide +kernel) (by decide +kernel)
theorem k_26 : (Cond.static Lib.Math.max.name) ∈ TBg := tb_mem 158 (by decide +kernel) (by decide +kernel)
theorem k_27 : (Cond.initialized "java/lang/Math") ∈ TBg := tb_mem 88 (by decide +kernel) (by decide +kernel)
theorem k_28 : (Cond.code Lib.Math.max.name Lib.Math.max.code 2 (some .int)) ∈ TBg := tb_mem 159 (by decide +kernel) (by decide +kernel)
theorem k_29 : (Cond.fieldLink RX8 15 "TuneLocks$Song" "high" "[I") ∈ TBg := tb_mem 160 (by decide +kernel) (by decide +kernel)
theorem k_30 : (Cond.fieldLink RX8 21 "TuneLocks$Song" "length" "[I") ∈ TBg := tb_mem 163 (by decide +kernel) (by decide +kernel)
theorem k_31 : (Cond.methodLink RX3 3 objectInit) ∈ TBg := tb_mem 369 (by decide +kernel) (by decide +kernel)
theorem k_32 : (Cond.fieldLink RX3 9 "TuneLocks$Laying" "members" "[I") ∈ TBg := tb_mem 372 (by decide +kernel) (by decide +kernel)
theorem k_33 : (Cond.fieldLink RX3 15 "TuneLocks$Laying" "lengths" "[I") ∈ TBg := tb_mem 373 (by decide +kernel) (by decide +kernel)
theorem k_34 : (Cond.classLink RX3 18 "[[I") ∈ TBg := tb_mem 370 (by decide +kernel) (by decide +kernel)
theorem k_35 : (Cond.fieldLink RX3 20 "TuneLocks$Laying" "overlaps" "[[I") ∈ TBg := tb_mem 375 (by decide +kernel) (by decide +kernel)
theorem k_36 : (Cond.fieldLink RX3 23 "TuneLocks$Laying" "row" "[I") ∈ TBg := tb_mem 376 (by decide +kernel) (by decide +kernel)
theorem k_37 : (Cond.fieldLink RX3 26 "TuneLocks$Laying" "bestRow" "[I") ∈ TBg := tb_mem 377 (by decide +kernel) (by decide +kernel)
theorem k_38 : (Cond.methodLink RX7 3 objectInit) ∈ TBg := tb_mem 295 (by decide +kernel) (by decide +kernel)
theorem k_39 : (Cond.classLink RX7 9 RX8) ∈ TBg := tb_mem 296 (by decide +kernel) (by decide +kernel)
theorem k_40 : (Cond.instantiable RX8 3) ∈ TBg := tb_mem 152 (by decide +kernel) (by decide +kernel)
theorem k_41 : (Cond.initialized RX8) ∈ TBg := tb_mem 87 (by decide +kernel) (by decide +kernel)
theorem k_42 : (Cond.code yX8_init cX8_init 2 none) ∈ TBg := tb_mem 155 (by decide +kernel) (by decide +kernel)
theorem k_43 : (Cond.methodLink RX7 11 yX8_init) ∈ TBg := tb_mem 297 (by decide +kernel) (by decide +kernel)
theorem k_44 : (Cond.instanceMethod yX8_init) ∈ TBg := tb_mem 154 (by decide +kernel) (by decide +kernel)
theorem k_45 : (Cond.fieldLink RX7 14 "TuneLocks$Scene" "voice" "LTuneLocks$Song;") ∈ TBg := tb_mem 298 (by decide +kernel) (by decide +kernel)
theorem k_46 : (Cond.fieldLink RX7 20 "TuneLocks$Scene" "worn" "[I") ∈ TBg := tb_mem 304 (by decide +kernel) (by decide +kernel)
theorem k_47 : (Cond.fieldLink RX9 49 "TuneLocks$Town" "tuneCount" "I") ∈ TBg := tb_mem 249 (by decide +kernel) (by decide +kernel)
theorem dX4_init_0 : decode cX4_init 0 = .ok (.aload_n 0, 1) := by decide +kernel
theorem dX4_init_1 : decode cX4_init 1 = .ok (.invokespecial 3, 3) := by decide +kernel
theorem dX4_init_4 : decode cX4_init 4 = .ok (.return_, 1) := by decide +kernel
theorem dX0_init_0 : decode cX0_init 0 = .ok (.aload_n 0, 1) := by decide +kernel
theorem dX0_init_1 : decode cX0_init 1 = .ok (.invokespecial 3, 3) := by decide +kernel
theorem dX0_init_4 : decode cX0_init 4 = .ok (.aload_n 0, 1) := by decide +kernel
theorem dX0_init_5 : decode cX0_init 5 = .ok (.bipush 108, 2) := by decide +kernel
theorem dX0_init_7 : decode cX0_init 7 = .ok (.newarray .int, 2) := by decide +kernel
theorem dX0_init_9 : decode cX0_init 9 = .ok (.putfield 9, 3) := by decide +kernel
theorem dX0_init_12 : decode cX0_init 12 = .ok (.return_, 1) := by decide +kernel
theorem dX1_init_0 : decode cX1_init 0 = .ok (.aload_n 0, 1) := by decide +kernel
theorem dX1_init_1 : decode cX1_init 1 = .ok (.invokespecial 3, 3) := by decide +kernel
theorem dX1_init_4 : decode cX1_init 4 = .ok (.aload_n 0, 1) := by decide +kernel
theorem dX1_init_5 : decode cX1_init 5 = .ok (.bipush 14, 2) := by decide +kernel
theorem dX1_init_7 : decode cX1_init 7 = .ok (.newarray .int, 2) := by decide +kernel
theorem dX1_init_9 : decode cX1_init 9 = .ok (.putfield 9, 3) := by decide +kernel
theorem dX1_init_12 : decode cX1_init 12 = .ok (.return_, 1) := by decide +kernel
theorem dX2_init_0 : decode cX2_init 0 = .ok (.aload_n 0, 1) := by decide +kernel
theorem dX2_init_1 : decode cX2_init 1 = .ok (.invokespecial 3, 3) := by decide +kernel
theorem dX2_init_4 : decode cX2_init 4 = .ok (.aload_n 0, 1) := by decide +kernel
theorem dX2_init_5 : decode cX2_init 5 = .ok (.bipush 14, 2) := by decide +kernel
theorem dX2_init_7 : decode cX2_init 7 = .ok (.newarray .int, 2) := by decide +kernel
theorem dX2_init_9 : decode cX2_init 9 = .ok (.putfield 9, 3) := by decide +kernel
theorem dX2_init_12 : decode cX2_init 12 = .ok (.aload_n 0, 1) := by decide +kernel
theorem dX2_init_13 : decode cX2_init 13 = .ok (.bipush 14, 2) := by decide +kernel
theorem dX2_init_15 : decode cX2_init 15 = .ok (.newarray .int, 2) := by decide +kernel
theorem dX2_init_17 : decode cX2_init 17 = .ok (.putfield 15, 3) := by decide +kernel
theorem dX2_init_20 : decode cX2_init 20 = .ok (.aload_n 0, 1) := by decide +kernel
theorem dX2_init_21 : decode cX2_init 21 = .ok (.bipush 14, 2) := by decide +kernel
theorem dX2_init_23 : decode cX2_init 23 = .ok (.newarray .int, 2) := by decide +kernel
theorem dX2_init_25 : decode cX2_init 25 = .ok (.putfield 18, 3) := by decide +kernel
theorem dX2_init_28 : decode cX2_init 28 = .ok (.aload_n 0, 1) := by decide +kernel
theorem dX2_init_29 : decode cX2_init 29 = .ok (.bipush 14, 2) := by decide +kernel
theorem dX2_init_31 : decode cX2_init 31 = .ok (.newarray .int, 2) := by decide +kernel
theorem dX2_init_33 : decode cX2_init 33 = .ok (.putfield 21, 3) := by decide +kernel
theorem dX2_init_36 : decode cX2_init 36 = .ok (.return_, 1) := by decide +kernel
theorem dX5_init_0 : decode cX5_init 0 = .ok (.aload_n 0, 1) := by decide +kernel
theorem dX5_init_1 : decode cX5_init 1 = .ok (.invokespecial 3, 3) := by decide +kernel
theorem dX5_init_4 : decode cX5_init 4 = .ok (.aload_n 0, 1) := by decide +kernel
theorem dX5_init_5 : decode cX5_init 5 = .ok (.sipush 540, 3) := by decide +kernel
theorem dX5_init_8 : decode cX5_init 8 = .ok (.newarray .int, 2) := by decide +kernel
theorem dX5_init_10 : decode cX5_init 10 = .ok (.putfield 11, 3) := by decide +kernel
theorem dX5_init_13 : decode cX5_init 13 = .ok (.aload_n 0, 1) := by decide +kernel
theorem dX5_init_14 : decode cX5_init 14 = .ok (.sipush 540, 3) := by decide +kernel
theorem dX5_init_17 : decode cX5_init 17 = .ok (.newarray .int, 2) := by decide +kernel
theorem dX5_init_19 : decode cX5_init 19 = .ok (.putfield 15, 3) := by decide +kernel
theorem dX5_init_22 : decode cX5_init 22 = .ok (.aload_n 0, 1) := by decide +kernel
theorem dX5_init_23 : decode cX5_init 23 = .ok (.bipush 61, 2) := by decide +kernel
theorem dX5_init_25 : decode cX5_init 25 = .ok (.newarray .int, 2) := by decide +kernel
theorem dX5_init_27 : decode cX5_init 27 = .ok (.putfield 18, 3) := by decide +kernel
theorem dX5_init_30 : decode cX5_init 30 = .ok (.return_, 1) := by decide +kernel
theorem dX10_init_0 : decode cX10_init 0 = .ok (.aload_n 0, 1) := by decide +kernel
theorem dX10_init_1 : decode cX10_init 1 = .ok (.invokespecial 3, 3) := by decide +kernel
theorem dX10_init_4 : decode cX10_init 4 = .ok (.aload_n 0, 1) := by decide +kernel
theorem dX10_init_5 : decode cX10_init 5 = .ok (.bipush 30, 2) := by decide +kernel
theorem dX10_init_7 : decode cX10_init 7 = .ok (.newarray .int, 2) := by decide +kernel
theorem dX10_init_9 : decode cX10_init 9 = .ok (.putfield 9, 3) := by decide +kernel
theorem dX10_init_12 : decode cX10_init 12 = .ok (.aload_n 0, 1) := by decide +kernel
theorem dX10_init_13 : decode cX10_init 13 = .ok (.bipush 30, 2) := by decide +kernel
theorem dX10_init_15 : decode cX10_init 15 = .ok (.newarray .boolean, 2) := by decide +kernel
theorem dX10_init_17 : decode cX10_init 17 = .ok (.putfield 15, 3) := by decide +kernel
theorem dX10_init_20 : decode cX10_init 20 = .ok (.aload_n 0, 1) := by decide +kernel
theorem dX10_init_21 : decode cX10_init 21 = .ok (.bipush 30, 2) := by decide +kernel
theorem dX10_init_23 : decode cX10_init 23 = .ok (.newarray .boolean, 2) := by decide +kernel
theorem dX10_init_25 : decode cX10_init 25 = .ok (.putfield 19, 3) := by decide +kernel
theorem dX10_init_28 : decode cX10_init 28 = .ok (.aload_n 0, 1) := by decide +kernel
theorem dX10_init_29 : decode cX10_init 29 = .ok (.bipush 30, 2) := by decide +kernel
theorem dX10_init_31 : decode cX10_init 31 = .ok (.newarray .int, 2) := by decide +kernel
theorem dX10_init_33 : decode cX10_init 33 = .ok (.putfield 22, 3) := by decide +kernel
theorem dX10_init_36 : decode cX10_init 36 = .ok (.aload_n 0, 1) := by decide +kernel
theorem dX10_init_37 : decode cX10_init 37 = .ok (.bipush 30, 2) := by decide +kernel
theorem dX10_init_39 : decode cX10_init 39 = .ok (.newarray .int, 2) := by decide +kernel
theorem dX10_init_41 : decode cX10_init 41 = .ok (.putfield 25, 3) := by decide +kernel
theorem dX10_init_44 : decode cX10_init 44 = .ok (.return_, 1) := by decide +kernel
theorem dX8_init_0 : decode cX8_init 0 = .ok (.aload_n 0, 1) := by decide +kernel
theorem dX8_init_1 : decode cX8_init 1 = .ok (.invokespecial 3, 3) := by decide +kernel
theorem dX8_init_4 : decode cX8_init 4 = .ok (.aload_n 0, 1) := by decide +kernel
theorem dX8_init_5 : decode cX8_init 5 = .ok (.iload_n 1, 1) := by decide +kernel
theorem dX8_init_6 : decode cX8_init 6 = .ok (.iconst 0, 1) := by decide +kernel
theorem dX8_init_7 : decode cX8_init 7 = .ok (.invokestatic 9, 3) := by decide +kernel
theorem dX8_init_10 : decode cX8_init 10 = .ok (.newarray .int, 2) := by decide +kernel
theorem dX8_init_12 : decode cX8_init 12 = .ok (.putfield 15, 3) := by decide +kernel
theorem dX8_init_15 : decode cX8_init 15 = .ok (.aload_n 0, 1) := by decide +kernel
theorem dX8_init_16 : decode cX8_init 16 = .ok (.iload_n 1, 1) := by decide +kernel
theorem dX8_init_17 : decode cX8_init 17 = .ok (.iconst 0, 1) := by decide +kernel
theorem dX8_init_18 : decode cX8_init 18 = .ok (.invokestatic 9, 3) := by decide +kernel
theorem dX8_init_21 : decode cX8_init 21 = .ok (.newarray .int, 2) := by decide +kernel
theorem dX8_init_23 : decode cX8_init 23 = .ok (.putfield 21, 3) := by decide +kernel
theorem dX8_init_26 : decode cX8_init 26 = .ok (.return_, 1) := by decide +kernel
theorem dX3_init_0 : decode cX3_init 0 = .ok (.aload_n 0, 1) := by decide +kernel
theorem dX3_init_1 : decode cX3_init 1 = .ok (.invokespecial 3, 3) := by decide +kernel
theorem dX3_init_4 : decode cX3_init 4 = .ok (.aload_n 0, 1) := by decide +kernel
theorem dX3_init_5 : decode cX3_init 5 = .ok (.bipush 6, 2) := by decide +kernel
theorem dX3_init_7 : decode cX3_init 7 = .ok (.newarray .int, 2) := by decide +kernel
theorem dX3_init_9 : decode cX3_init 9 = .ok (.putfield 9, 3) := by decide +kernel
theorem dX3_init_12 : decode cX3_init 12 = .ok (.aload_n 0, 1) := by decide +kernel
theorem dX3_init_13 : decode cX3_init 13 = .ok (.bipush 6, 2) := by decide +kernel
theorem dX3_init_15 : decode cX3_init 15 = .ok (.newarray .int, 2) := by decide +kernel
theorem dX3_init_17 : decode cX3_init 17 = .ok (.putfield 15, 3) := by decide +kernel
theorem dX3_init_20 : decode cX3_init 20 = .ok (.aload_n 0, 1) := by decide +kernel
theorem dX3_init_21 : decode cX3_init 21 = .ok (.bipush 6, 2) := by decide +kernel
theorem dX3_init_23 : decode cX3_init 23 = .ok (.bipush 6, 2) := by decide +kernel
theorem dX3_init_25 : decode cX3_init 25 = .ok (.multianewarray 18 2, 4) := by decide +kernel
theorem dX3_init_29 : decode cX3_init 29 = .ok (.putfield 20, 3) := by decide +kernel
theorem dX3_init_32 : decode cX3_init 32 = .ok (.aload_n 0, 1) := by decide +kernel
theorem dX3_init_33 : decode cX3_init 33 = .ok (.bipush 6, 2) := by decide +kernel
theorem dX3_init_35 : decode cX3_init 35 = .ok (.newarray .int, 2) := by decide +kernel
theorem dX3_init_37 : decode cX3_init 37 = .ok (.putfield 23, 3) := by decide +kernel
theorem dX3_init_40 : decode cX3_init 40 = .ok (.aload_n 0, 1) := by decide +kernel
theorem dX3_init_41 : decode cX3_init 41 = .ok (.bipush 6, 2) := by decide +kernel
theorem dX3_init_43 : decode cX3_init 43 = .ok (.newarray .int, 2) := by decide +kernel
theorem dX3_init_45 : decode cX3_init 45 = .ok (.putfield 26, 3) := by decide +kernel
theorem dX3_init_48 : decode cX3_init 48 = .ok (.return_, 1) := by decide +kernel
theorem dX7_init_0 : decode cX7_init 0 = .ok (.aload_n 0, 1) := by decide +kernel
theorem dX7_init_1 : decode cX7_init 1 = .ok (.invokespecial 3, 3) := by decide +kernel
theorem dX7_init_4 : decode cX7_init 4 = .ok (.aload_n 0, 1) := by decide +kernel
theorem dX7_init_5 : decode cX7_init 5 = .ok (.new 9, 3) := by decide +kernel
theorem dX7_init_8 : decode cX7_init 8 = .ok (.dup, 1) := by decide +kernel
theorem dX7_init_9 : decode cX7_init 9 = .ok (.bipush 40, 2) := by decide +kernel
theorem dX7_init_11 : decode cX7_init 11 = .ok (.invokespecial 11, 3) := by decide +kernel
theorem dX7_init_14 : decode cX7_init 14 = .ok (.putfield 14, 3) := by decide +kernel
theorem dX7_init_17 : decode cX7_init 17 = .ok (.aload_n 0, 1) := by decide +kernel
theorem dX7_init_18 : decode cX7_init 18 = .ok (.bipush 8, 2) := by decide +kernel
theorem dX7_init_20 : decode cX7_init 20 = .ok (.newarray .int, 2) := by decide +kernel
theorem dX7_init_22 : decode cX7_init 22 = .ok (.putfield 20, 3) := by decide +kernel
theorem dX7_init_25 : decode cX7_init 25 = .ok (.return_, 1) := by decide +kernel
theorem dX9_hasTune_0 : decode cX9_hasTune 0 = .ok (.iload_n 1, 1) := by decide +kernel
theorem dX9_hasTune_1 : decode cX9_hasTune 1 = .ok (.ifCond .lt 15, 3) := by decide +kernel
theorem dX9_hasTune_16 : decode cX9_hasTune 16 = .ok (.iconst 0, 1) := by decide +kernel
theorem dX9_hasTune_17 : decode cX9_hasTune 17 = .ok (.ireturn, 1) := by decide +kernel
theorem dX9_hasTune_4 : decode cX9_hasTune 4 = .ok (.iload_n 1, 1) := by decide +kernel
theorem dX9_hasTune_5 : decode cX9_hasTune 5 = .ok (.aload_n 0, 1) := by decide +kernel
theorem dX9_hasTune_6 : decode cX9_hasTune 6 = .ok (.getfield 49, 3) := by decide +kernel
theorem dX9_hasTune_9 : decode cX9_hasTune 9 = .ok (.if_icmp .ge 7, 3) := by decide +kernel
set_option maxHeartbeats 4000000 in
set_option maxRecDepth 100000 in
theorem c_Lock (l : Launch) (G : va_G) (cy : Nat → ClassId) (sz : Nat) (h : Nat)  : Met l yX4_init (.code yX4_init cX4_init 1 none :: TBg) ({ frames := 1, cells := 0, slots := 0, locals := 64 }) (va_Pc [.ref h] (En G cy [(h, .inr (4, [.long 0, .int 0, .int 0, .int 0, .int 0, .int 0]))] sz)) (va_Qv (fun u : Unit => True) (fun u t => Ex G (va_A [(h, .inr (4, [.long 0, .int 0, .int 0, .int 0, .int 0, .int 0]))] sz) [(h, .inr (4, [.long 0, .int 0, .int 0, .int 0, .int 0, .int 0]))] t) (va_A [(h, .inr (4, [.long 0, .int 0, .int 0, .int 0, .int 0, .int 0]))] sz)) 0 0 (va_A [(h, .inr (4, [.long 0, .int 0, .int 0, .int 0, .int 0, .int 0]))] sz) := by
  refine Met.ofW (cc := cX4_init) (maxL := 1) (ret := none) (by decide) rfl ?_
  intro p e s m args below meth c s₁ B hml hv
  obtain ⟨rfl, hsz, hP, hK, hD0, hN⟩ := hv
  have hx := B.exec
  have hb := B.bytes
  have hr := B.returns
  have hts := atoms_spec (ws := .code yX4_init cX4_init 1 none :: TBg) B.pre
  have ht : ∀ w ∈ TBg, w.before _ s = true := fun w h => hts w (List.mem_cons_of_mem _ h)
  have hown : s.vm.findClass RX4 = some m.cls := findClass_of_methodNamed B.named
  have hlocks := B.notSynchronized
  have hin : meth.name = "<init>" := (name_of_methodNamed B.named B.method).1
  subst hsz
  have hD := hD0.self (sz := s.heap.size)
  generalize hAe : va_A [(h, .inr (4, [.long 0, .int 0, .int 0, .int 0, .int 0, .int 0]))] s.heap.size = A at hD ⊢
  have hA : ∀ q : Nat, s.heap.size ≤ q → A q := fun q h => by rw [← hAe]; exact Or.inr h
  have hS : va_S A s.heap s.heap [] := va_S.rf
  have hl := lv_entry ([.ref h]) (n := 1) (Nat.le_of_ble_eq_true rfl)
  rw [lg_entry_eq]
  generalize (lg_sl ([.ref h]) ++ List.replicate (1 - (lg_sl ([.ref h])).length) Slot.unset).toArray = ls at hl ⊢
  have hl : lv_has ls 1 [(0, .ref h)] := hl
  refine lv_aload_n hx hb dX4_init_0 rfl (lv_at hl 0 rfl) ?_
  refine W.objInit hx hb hown (ht _ k_0) (ht _ k_1) (ht _ k_2) rfl (by rw [hml]; exact hl.1) rfl dX4_init_1 (Nat.le_of_ble_eq_true rfl) (Nat.le_of_ble_eq_true rfl) ?_
  refine W.eq (g2 := F0 m 4 ls []) rfl ?_
  refine W.widen (k := 0) (n := 0) (Nat.le_of_ble_eq_true rfl) (Nat.le_of_ble_eq_true rfl) ?_
  have hP9 : va_P G vwCl [(h, .inr (4, [.long 0, .int 0, .int 0, .int 0, .int 0, .int 0]))] _ := hP.sub [0] rfl
  have hD9 : va_D A [(h, .inr (4, [.long 0, .int 0, .int 0, .int 0, .int 0, .int 0]))] := hD.sub [0] (by decide) rfl
  exact W.vret hx hb hr (fun t ht9 hW => ⟨⟨(), rfl, trivial, ⟨by rw [ht9]; exact hP9, hD9⟩⟩, hS.F ht9⟩) hS.2.2 dX4_init_4
set_option maxHeartbeats 4000000 in
set_option maxRecDepth 100000 in
theorem c_Canon (l : Launch) (G : va_G) (cy : Nat → ClassId) (sz : Nat) (h : Nat)  : Met l yX0_init (.code yX0_init cX0_init 1 none :: TBg) ({ frames := 1, cells := 1, slots := 108, locals := 64 }) (va_Pc [.ref h] (En G cy [(h, .inr (0, [.null, .int 0]))] sz)) (va_Qv (fun u : Nat → Nat => True) (fun u t => Ex G (va_A [(h, .inr (0, [.null, .int 0]))] sz) [(h, .inr (0, [.ref (u 0), .int 0]))] t) (va_A [(h, .inr (0, [.null, .int 0]))] sz)) 1 108 (va_A [(h, .inr (0, [.null, .int 0]))] sz) := by
  refine Met.ofW (cc := cX0_init) (maxL := 1) (ret := none) (by decide) rfl ?_
  intro p e s m args below meth c s₁ B hml hv
  obtain ⟨rfl, hsz, hP, hK, hD0, hN⟩ := hv
  have hx := B.exec
  have hb := B.bytes
  have hr := B.returns
  have hts := atoms_spec (ws := .code yX0_init cX0_init 1 none :: TBg) B.pre
  have ht : ∀ w ∈ TBg, w.before _ s = true := fun w h => hts w (List.mem_cons_of_mem _ h)
  have hown : s.vm.findClass RX0 = some m.cls := findClass_of_methodNamed B.named
  have hlocks := B.notSynchronized
  have hin : meth.name = "<init>" := (name_of_methodNamed B.named B.method).1
  subst hsz
  have hD := hD0.self (sz := s.heap.size)
  generalize hAe : va_A [(h, .inr (0, [.null, .int 0]))] s.heap.size = A at hD ⊢
  have hA : ∀ q : Nat, s.heap.size ≤ q → A q := fun q h => by rw [← hAe]; exact Or.inr h
  have hS : va_S A s.heap s.heap [] := va_S.rf
  have hl := lv_entry ([.ref h]) (n := 1) (Nat.le_of_ble_eq_true rfl)
  rw [lg_entry_eq]
  generalize (lg_sl ([.ref h]) ++ List.replicate (1 - (lg_sl ([.ref h])).length) Slot.unset).toArray = ls at hl ⊢
  have hl : lv_has ls 1 [(0, .ref h)] := hl
  refine lv_aload_n hx hb dX0_init_0 rfl (lv_at hl 0 rfl) ?_
  refine W.objInit hx hb hown (ht _ k_3) (ht _ k_1) (ht _ k_2) rfl (by rw [hml]; exact hl.1) rfl dX0_init_1 (Nat.le_of_ble_eq_true rfl) (Nat.le_of_ble_eq_true rfl) ?_
  refine W.eq (g2 := F0 m 4 ls []) rfl ?_
  refine lv_aload_n hx hb dX0_init_4 rfl (lv_at hl 0 rfl) ?_
  refine lv_bipush (v := 108) hx hb dX0_init_5 (by decide) ?_
  refine ow_newa (N' := 108) (atype := .int) (ty := .int) (a0 := (108, .inl (fun _ => 0))) hx hb (ht _ k_4) rfl hK hP hD hS hA 0 rfl (fun _ => rfl) (by decide) (by decide +kernel) (by decide) (Nat.le_of_ble_eq_true rfl) (Nat.le_of_ble_eq_true rfl) dX0_init_7 (fun q_1 H hP hD hS => ?_)
  refine va_putF (ci := 0) (v := .ref q_1) (ty := .array (.int)) (C := RX0) (T := TX0) (N := 2) hx hb ht iX0 tyX0 tyX0_ok nmX0 hown hK hP hD hS 0 rfl rfl 0 (by decide) (ht _ k_5) (fun _ h9 => h9) rfl hin rfl (by decide +kernel) rfl rfl (Nat.le_of_ble_eq_true rfl) dX0_init_9 (fun H locs hP hD hS => ?_)
  have hP : va_P G vwCl [(h, .inr (0, [.ref q_1, .int 0])), (q_1, .inl (cy 0, 108, .inl (fun _ => 0)))] H := hP
  have hD : va_D A [(h, .inr (0, [.ref q_1, .int 0])), (q_1, .inl (cy 0, 108, .inl (fun _ => 0)))] := hD
  refine W.widen (k := 1) (n := 108) (Nat.le_of_ble_eq_true rfl) (Nat.le_of_ble_eq_true rfl) ?_
  have hP9 : va_P G vwCl [(h, .inr (0, [.ref ((lst [q_1]) 0), .int 0]))] _ := hP.sub [0] rfl
  have hD9 : va_D A [(h, .inr (0, [.ref ((lst [q_1]) 0), .int 0]))] := hD.sub [0] (by decide) rfl
  exact W.vret hx hb hr (fun t ht9 hW => ⟨⟨(lst [q_1]), rfl, trivial, ⟨by rw [ht9]; exact hP9, hD9⟩⟩, hS.F ht9⟩) hS.2.2 dX0_init_12
set_option maxHeartbeats 4000000 in
set_option maxRecDepth 100000 in
theorem c_Deal (l : Launch) (G : va_G) (cy : Nat → ClassId) (sz : Nat) (h : Nat)  : Met l yX1_init (.code yX1_init cX1_init 1 none :: TBg) ({ frames := 1, cells := 1, slots := 14, locals := 64 }) (va_Pc [.ref h] (En G cy [(h, .inr (1, [.null, .int 0, .int 0]))] sz)) (va_Qv (fun u : Nat → Nat => True) (fun u t => Ex G (va_A [(h, .inr (1, [.null, .int 0, .int 0]))] sz) [(h, .inr (1, [.ref (u 0), .int 0, .int 0]))] t) (va_A [(h, .inr (1, [.null, .int 0, .int 0]))] sz)) 1 14 (va_A [(h, .inr (1, [.null, .int 0, .int 0]))] sz) := by
  refine Met.ofW (cc := cX1_init) (maxL := 1) (ret := none) (by decide) rfl ?_
  intro p e s m args below meth c s₁ B hml hv
  obtain ⟨rfl, hsz, hP, hK, hD0, hN⟩ := hv
  have hx := B.exec
  have hb := B.bytes
  have hr := B.returns
  have hts := atoms_spec (ws := .code yX1_init cX1_init 1 none :: TBg) B.pre
  have ht : ∀ w ∈ TBg, w.before _ s = true := fun w h => hts w (List.mem_cons_of_mem _ h)
  have hown : s.vm.findClass RX1 = some m.cls := findClass_of_methodNamed B.named
  have hlocks := B.notSynchronized
  have hin : meth.name = "<init>" := (name_of_methodNamed B.named B.method).1
  subst hsz
  have hD := hD0.self (sz := s.heap.size)
  generalize hAe : va_A [(h, .inr (1, [.null, .int 0, .int 0]))] s.heap.size = A at hD ⊢
  have hA : ∀ q : Nat, s.heap.size ≤ q → A q := fun q h => by rw [← hAe]; exact Or.inr h
  have hS : va_S A s.heap s.heap [] := va_S.rf
  have hl := lv_entry ([.ref h]) (n := 1) (Nat.le_of_ble_eq_true rfl)
  rw [lg_entry_eq]
  generalize (lg_sl ([.ref h]) ++ List.replicate (1 - (lg_sl ([.ref h])).length) Slot.unset).toArray = ls at hl ⊢
  have hl : lv_has ls 1 [(0, .ref h)] := hl
  refine lv_aload_n hx hb dX1_init_0 rfl (lv_at hl 0 rfl) ?_
  refine W.objInit hx hb hown (ht _ k_6) (ht _ k_1) (ht _ k_2) rfl (by rw [hml]; exact hl.1) rfl dX1_init_1 (Nat.le_of_ble_eq_true rfl) (Nat.le_of_ble_eq_true rfl) ?_
  refine W.eq (g2 := F0 m 4 ls []) rfl ?_
  refine lv_aload_n hx hb dX1_init_4 rfl (lv_at hl 0 rfl) ?_
  refine lv_bipush (v := 14) hx hb dX1_init_5 (by decide) ?_
  refine ow_newa (N' := 14) (atype := .int) (ty := .int) (a0 := (14, .inl (fun _ => 0))) hx hb (ht _ k_4) rfl hK hP hD hS hA 0 rfl (fun _ => rfl) (by decide) (by decide +kernel) (by decide) (Nat.le_of_ble_eq_true rfl) (Nat.le_of_ble_eq_true rfl) dX1_init_7 (fun q_1 H hP hD hS => ?_)
  refine va_putF (ci := 1) (v := .ref q_1) (ty := .array (.int)) (C := RX1) (T := TX1) (N := 3) hx hb ht iX1 tyX1 tyX1_ok nmX1 hown hK hP hD hS 0 rfl rfl 0 (by decide) (ht _ k_7) (fun _ h9 => h9) rfl hin rfl (by decide +kernel) rfl rfl (Nat.le_of_ble_eq_true rfl) dX1_init_9 (fun H locs hP hD hS => ?_)
  have hP : va_P G vwCl [(h, .inr (1, [.ref q_1, .int 0, .int 0])), (q_1, .inl (cy 0, 14, .inl (fun _ => 0)))] H := hP
  have hD : va_D A [(h, .inr (1, [.ref q_1, .int 0, .int 0])), (q_1, .inl (cy 0, 14, .inl (fun _ => 0)))] := hD
  refine W.widen (k := 1) (n := 14) (Nat.le_of_ble_eq_true rfl) (Nat.le_of_ble_eq_true rfl) ?_
  have hP9 : va_P G vwCl [(h, .inr (1, [.ref ((lst [q_1]) 0), .int 0, .int 0]))] _ := hP.sub [0] rfl
  have hD9 : va_D A [(h, .inr (1, [.ref ((lst [q_1]) 0), .int 0, .int 0]))] := hD.sub [0] (by decide) rfl
  exact W.vret hx hb hr (fun t ht9 hW => ⟨⟨(lst [q_1]), rfl, trivial, ⟨by rw [ht9]; exact hP9, hD9⟩⟩, hS.F ht9⟩) hS.2.2 dX1_init_12
set_option maxHeartbeats 4000000 in
set_option maxRecDepth 100000 in
theorem c_Hearing (l : Launch) (G : va_G) (cy : Nat → ClassId) (sz : Nat) (h : Nat)  : Met l yX2_init (.code yX2_init cX2_init 1 none :: TBg) ({ frames := 1, cells := 4, slots := 56, locals := 64 }) (va_Pc [.ref h] (En G cy [(h, .inr (2, [.null, .null, .null, .null, .int 0]))] sz)) (va_Qv (fun u : Nat → Nat => True) (fun u t => Ex G (va_A [(h, .inr (2, [.null, .null, .null, .null, .int 0]))] sz) [(h, .inr (2, [.ref (u 0), .ref (u 1), .ref (u 2), .ref (u 3), .int 0]))] t) (va_A [(h, .inr (2, [.null, .null, .null, .null, .int 0]))] sz)) 4 56 (va_A [(h, .inr (2, [.null, .null, .null, .null, .int 0]))] sz) := by
  refine Met.ofW (cc := cX2_init) (maxL := 1) (ret := none) (by decide) rfl ?_
  intro p e s m args below meth c s₁ B hml hv
  obtain ⟨rfl, hsz, hP, hK, hD0, hN⟩ := hv
  have hx := B.exec
  have hb := B.bytes
  have hr := B.returns
  have hts := atoms_spec (ws := .code yX2_init cX2_init 1 none :: TBg) B.pre
  have ht : ∀ w ∈ TBg, w.before _ s = true := fun w h => hts w (List.mem_cons_of_mem _ h)
  have hown : s.vm.findClass RX2 = some m.cls := findClass_of_methodNamed B.named
  have hlocks := B.notSynchronized
  have hin : meth.name = "<init>" := (name_of_methodNamed B.named B.method).1
  subst hsz
  have hD := hD0.self (sz := s.heap.size)
  generalize hAe : va_A [(h, .inr (2, [.null, .null, .null, .null, .int 0]))] s.heap.size = A at hD ⊢
  have hA : ∀ q : Nat, s.heap.size ≤ q → A q := fun q h => by rw [← hAe]; exact Or.inr h
  have hS : va_S A s.heap s.heap [] := va_S.rf
  have hl := lv_entry ([.ref h]) (n := 1) (Nat.le_of_ble_eq_true rfl)
  rw [lg_entry_eq]
  generalize (lg_sl ([.ref h]) ++ List.replicate (1 - (lg_sl ([.ref h])).length) Slot.unset).toArray = ls at hl ⊢
  have hl : lv_has ls 1 [(0, .ref h)] := hl
  refine lv_aload_n hx hb dX2_init_0 rfl (lv_at hl 0 rfl) ?_
  refine W.objInit hx hb hown (ht _ k_8) (ht _ k_1) (ht _ k_2) rfl (by rw [hml]; exact hl.1) rfl dX2_init_1 (Nat.le_of_ble_eq_true rfl) (Nat.le_of_ble_eq_true rfl) ?_
  refine W.eq (g2 := F0 m 4 ls []) rfl ?_
  refine lv_aload_n hx hb dX2_init_4 rfl (lv_at hl 0 rfl) ?_
  refine lv_bipush (v := 14) hx hb dX2_init_5 (by decide) ?_
  refine ow_newa (N' := 14) (atype := .int) (ty := .int) (a0 := (14, .inl (fun _ => 0))) hx hb (ht _ k_4) rfl hK hP hD hS hA 0 rfl (fun _ => rfl) (by decide) (by decide +kernel) (by decide) (Nat.le_of_ble_eq_true rfl) (Nat.le_of_ble_eq_true rfl) dX2_init_7 (fun q_1 H hP hD hS => ?_)
  refine va_putF (ci := 2) (v := .ref q_1) (ty := .array (.int)) (C := RX2) (T := TX2) (N := 5) hx hb ht iX2 tyX2 tyX2_ok nmX2 hown hK hP hD hS 0 rfl rfl 0 (by decide) (ht _ k_9) (fun _ h9 => h9) rfl hin rfl (by decide +kernel) rfl rfl (Nat.le_of_ble_eq_true rfl) dX2_init_9 (fun H locs hP hD hS => ?_)
  have hP : va_P G vwCl [(h, .inr (2, [.ref q_1, .null, .null, .null, .int 0])), (q_1, .inl (cy 0, 14, .inl (fun _ => 0)))] H := hP
  have hD : va_D A [(h, .inr (2, [.ref q_1, .null, .null, .null, .int 0])), (q_1, .inl (cy 0, 14, .inl (fun _ => 0)))] := hD
  refine lv_aload_n hx hb dX2_init_12 rfl (lv_at hl 0 rfl) ?_
  refine lv_bipush (v := 14) hx hb dX2_init_13 (by decide) ?_
  refine ow_newa (N' := 14) (atype := .int) (ty := .int) (a0 := (14, .inl (fun _ => 0))) hx hb (ht _ k_4) rfl hK hP hD hS hA 0 rfl (fun _ => rfl) (by decide) (by decide +kernel) (by decide) (Nat.le_of_ble_eq_true rfl) (Nat.le_of_ble_eq_true rfl) dX2_init_15 (fun q_2 H hP hD hS => ?_)
  refine va_putF (ci := 2) (v := .ref q_2) (ty := .array (.int)) (C := RX2) (T := TX2) (N := 5) hx hb ht iX2 tyX2 tyX2_ok nmX2 hown hK hP hD hS 0 rfl rfl 1 (by decide) (ht _ k_10) (fun _ h9 => h9) rfl hin rfl (by decide +kernel) rfl rfl (Nat.le_of_ble_eq_true rfl) dX2_init_17 (fun H locs hP hD hS => ?_)
  have hP : va_P G vwCl [(h, .inr (2, [.ref q_1, .ref q_2, .null, .null, .int 0])), (q_1, .inl (cy 0, 14, .inl (fun _ => 0))), (q_2, .inl (cy 0, 14, .inl (fun _ => 0)))] H := hP
  have hD : va_D A [(h, .inr (2, [.ref q_1, .ref q_2, .null, .null, .int 0])), (q_1, .inl (cy 0, 14, .inl (fun _ => 0))), (q_2, .inl (cy 0, 14, .inl (fun _ => 0)))] := hD
  refine lv_aload_n hx hb dX2_init_20 rfl (lv_at hl 0 rfl) ?_
  refine lv_bipush (v := 14) hx hb dX2_init_21 (by decide) ?_
  refine ow_newa (N' := 14) (atype := .int) (ty := .int) (a0 := (14, .inl (fun _ => 0))) hx hb (ht _ k_4) rfl hK hP hD hS hA 0 rfl (fun _ => rfl) (by decide) (by decide +kernel) (by decide) (Nat.le_of_ble_eq_true rfl) (Nat.le_of_ble_eq_true rfl) dX2_init_23 (fun q_3 H hP hD hS => ?_)
  refine va_putF (ci := 2) (v := .ref q_3) (ty := .array (.int)) (C := RX2) (T := TX2) (N := 5) hx hb ht iX2 tyX2 tyX2_ok nmX2 hown hK hP hD hS 0 rfl rfl 2 (by decide) (ht _ k_11) (fun _ h9 => h9) rfl hin rfl (by decide +kernel) rfl rfl (Nat.le_of_ble_eq_true rfl) dX2_init_25 (fun H locs hP hD hS => ?_)
  have hP : va_P G vwCl [(h, .inr (2, [.ref q_1, .ref q_2, .ref q_3, .null, .int 0])), (q_1, .inl (cy 0, 14, .inl (fun _ => 0))), (q_2, .inl (cy 0, 14, .inl (fun _ => 0))), (q_3, .inl (cy 0, 14, .inl (fun _ => 0)))] H := hP
  have hD : va_D A [(h, .inr (2, [.ref q_1, .ref q_2, .ref q_3, .null, .int 0])), (q_1, .inl (cy 0, 14, .inl (fun _ => 0))), (q_2, .inl (cy 0, 14, .inl (fun _ => 0))), (q_3, .inl (cy 0, 14, .inl (fun _ => 0)))] := hD
  refine lv_aload_n hx hb dX2_init_28 rfl (lv_at hl 0 rfl) ?_
  refine lv_bipush (v := 14) hx hb dX2_init_29 (by decide) ?_
  refine ow_newa (N' := 14) (atype := .int) (ty := .int) (a0 := (14, .inl (fun _ => 0))) hx hb (ht _ k_4) rfl hK hP hD hS hA 0 rfl (fun _ => rfl) (by decide) (by decide +kernel) (by decide) (Nat.le_of_ble_eq_true rfl) (Nat.le_of_ble_eq_true rfl) dX2_init_31 (fun q_4 H hP hD hS => ?_)
  refine va_putF (ci := 2) (v := .ref q_4) (ty := .array (.int)) (C := RX2) (T := TX2) (N := 5) hx hb ht iX2 tyX2 tyX2_ok nmX2 hown hK hP hD hS 0 rfl rfl 3 (by decide) (ht _ k_12) (fun _ h9 => h9) rfl hin rfl (by decide +kernel) rfl rfl (Nat.le_of_ble_eq_true rfl) dX2_init_33 (fun H locs hP hD hS => ?_)
  have hP : va_P G vwCl [(h, .inr (2, [.ref q_1, .ref q_2, .ref q_3, .ref q_4, .int 0])), (q_1, .inl (cy 0, 14, .inl (fun _ => 0))), (q_2, .inl (cy 0, 14, .inl (fun _ => 0))), (q_3, .inl (cy 0, 14, .inl (fun _ => 0))), (q_4, .inl (cy 0, 14, .inl (fun _ => 0)))] H := hP
  have hD : va_D A [(h, .inr (2, [.ref q_1, .ref q_2, .ref q_3, .ref q_4, .int 0])), (q_1, .inl (cy 0, 14, .inl (fun _ => 0))), (q_2, .inl (cy 0, 14, .inl (fun _ => 0))), (q_3, .inl (cy 0, 14, .inl (fun _ => 0))), (q_4, .inl (cy 0, 14, .inl (fun _ => 0)))] := hD
  refine W.widen (k := 4) (n := 56) (Nat.le_of_ble_eq_true rfl) (Nat.le_of_ble_eq_true rfl) ?_
  have hP9 : va_P G vwCl [(h, .inr (2, [.ref ((lst [q_1, q_2, q_3, q_4]) 0), .ref ((lst [q_1, q_2, q_3, q_4]) 1), .ref ((lst [q_1, q_2, q_3, q_4]) 2), .ref ((lst [q_1, q_2, q_3, q_4]) 3), .int 0]))] _ := hP.sub [0] rfl
  have hD9 : va_D A [(h, .inr (2, [.ref ((lst [q_1, q_2, q_3, q_4]) 0), .ref ((lst [q_1, q_2, q_3, q_4]) 1), .ref ((lst [q_1, q_2, q_3, q_4]) 2), .ref ((lst [q_1, q_2, q_3, q_4]) 3), .int 0]))] := hD.sub [0] (by decide) rfl
  exact W.vret hx hb hr (fun t ht9 hW => ⟨⟨(lst [q_1, q_2, q_3, q_4]), rfl, trivial, ⟨by rw [ht9]; exact hP9, hD9⟩⟩, hS.F ht9⟩) hS.2.2 dX2_init_36
set_option maxHeartbeats 4000000 in
set_option maxRecDepth 100000 in
theorem c_Questions (l : Launch) (G : va_G) (cy : Nat → ClassId) (sz : Nat) (h : Nat)  : Met l yX5_init (.code yX5_init cX5_init 1 none :: TBg) ({ frames := 1, cells := 3, slots := 1141, locals := 64 }) (va_Pc [.ref h] (En G cy [(h, .inr (5, [.null, .null, .int 0, .null, .int 0]))] sz)) (va_Qv (fun u : Nat → Nat => True) (fun u t => Ex G (va_A [(h, .inr (5, [.null, .null, .int 0, .null, .int 0]))] sz) [(h, .inr (5, [.ref (u 0), .ref (u 1), .int 0, .ref (u 2), .int 0]))] t) (va_A [(h, .inr (5, [.null, .null, .int 0, .null, .int 0]))] sz)) 3 1141 (va_A [(h, .inr (5, [.null, .null, .int 0, .null, .int 0]))] sz) := by
  refine Met.ofW (cc := cX5_init) (maxL := 1) (ret := none) (by decide) rfl ?_
  intro p e s m args below meth c s₁ B hml hv
  obtain ⟨rfl, hsz, hP, hK, hD0, hN⟩ := hv
  have hx := B.exec
  have hb := B.bytes
  have hr := B.returns
  have hts := atoms_spec (ws := .code yX5_init cX5_init 1 none :: TBg) B.pre
  have ht : ∀ w ∈ TBg, w.before _ s = true := fun w h => hts w (List.mem_cons_of_mem _ h)
  have hown : s.vm.findClass RX5 = some m.cls := findClass_of_methodNamed B.named
  have hlocks := B.notSynchronized
  have hin : meth.name = "<init>" := (name_of_methodNamed B.named B.method).1
  subst hsz
  have hD := hD0.self (sz := s.heap.size)
  generalize hAe : va_A [(h, .inr (5, [.null, .null, .int 0, .null, .int 0]))] s.heap.size = A at hD ⊢
  have hA : ∀ q : Nat, s.heap.size ≤ q → A q := fun q h => by rw [← hAe]; exact Or.inr h
  have hS : va_S A s.heap s.heap [] := va_S.rf
  have hl := lv_entry ([.ref h]) (n := 1) (Nat.le_of_ble_eq_true rfl)
  rw [lg_entry_eq]
  generalize (lg_sl ([.ref h]) ++ List.replicate (1 - (lg_sl ([.ref h])).length) Slot.unset).toArray = ls at hl ⊢
  have hl : lv_has ls 1 [(0, .ref h)] := hl
  refine lv_aload_n hx hb dX5_init_0 rfl (lv_at hl 0 rfl) ?_
  refine W.objInit hx hb hown (ht _ k_13) (ht _ k_1) (ht _ k_2) rfl (by rw [hml]; exact hl.1) rfl dX5_init_1 (Nat.le_of_ble_eq_true rfl) (Nat.le_of_ble_eq_true rfl) ?_
  refine W.eq (g2 := F0 m 4 ls []) rfl ?_
  refine lv_aload_n hx hb dX5_init_4 rfl (lv_at hl 0 rfl) ?_
  refine lv_sipush (v := 540) hx hb dX5_init_5 (by decide) ?_
  refine ow_newa (N' := 540) (atype := .int) (ty := .int) (a0 := (540, .inl (fun _ => 0))) hx hb (ht _ k_4) rfl hK hP hD hS hA 0 rfl (fun _ => rfl) (by decide) (by decide +kernel) (by decide) (Nat.le_of_ble_eq_true rfl) (Nat.le_of_ble_eq_true rfl) dX5_init_8 (fun q_1 H hP hD hS => ?_)
  refine va_putF (ci := 5) (v := .ref q_1) (ty := .array (.int)) (C := RX5) (T := TX5) (N := 5) hx hb ht iX5 tyX5 tyX5_ok nmX5 hown hK hP hD hS 0 rfl rfl 0 (by decide) (ht _ k_14) (fun _ h9 => h9) rfl hin rfl (by decide +kernel) rfl rfl (Nat.le_of_ble_eq_true rfl) dX5_init_10 (fun H locs hP hD hS => ?_)
  have hP : va_P G vwCl [(h, .inr (5, [.ref q_1, .null, .int 0, .null, .int 0])), (q_1, .inl (cy 0, 540, .inl (fun _ => 0)))] H := hP
  have hD : va_D A [(h, .inr (5, [.ref q_1, .null, .int 0, .null, .int 0])), (q_1, .inl (cy 0, 540, .inl (fun _ => 0)))] := hD
  refine lv_aload_n hx hb dX5_init_13 rfl (lv_at hl 0 rfl) ?_
  refine lv_sipush (v := 540) hx hb dX5_init_14 (by decide) ?_
  refine ow_newa (N' := 540) (atype := .int) (ty := .int) (a0 := (540, .inl (fun _ => 0))) hx hb (ht _ k_4) rfl hK hP hD hS hA 0 rfl (fun _ => rfl) (by decide) (by decide +kernel) (by decide) (Nat.le_of_ble_eq_true rfl) (Nat.le_of_ble_eq_true rfl) dX5_init_17 (fun q_2 H hP hD hS => ?_)
  refine va_putF (ci := 5) (v := .ref q_2) (ty := .array (.int)) (C := RX5) (T := TX5) (N := 5) hx hb ht iX5 tyX5 tyX5_ok nmX5 hown hK hP hD hS 0 rfl rfl 1 (by decide) (ht _ k_15) (fun _ h9 => h9) rfl hin rfl (by decide +kernel) rfl rfl (Nat.le_of_ble_eq_true rfl) dX5_init_19 (fun H locs hP hD hS => ?_)
  have hP : va_P G vwCl [(h, .inr (5, [.ref q_1, .ref q_2, .int 0, .null, .int 0])), (q_1, .inl (cy 0, 540, .inl (fun _ => 0))), (q_2, .inl (cy 0, 540, .inl (fun _ => 0)))] H := hP
  have hD : va_D A [(h, .inr (5, [.ref q_1, .ref q_2, .int 0, .null, .int 0])), (q_1, .inl (cy 0, 540, .inl (fun _ => 0))), (q_2, .inl (cy 0, 540, .inl (fun _ => 0)))] := hD
  refine lv_aload_n hx hb dX5_init_22 rfl (lv_at hl 0 rfl) ?_
  refine lv_bipush (v := 61) hx hb dX5_init_23 (by decide) ?_
  refine ow_newa (N' := 61) (atype := .int) (ty := .int) (a0 := (61, .inl (fun _ => 0))) hx hb (ht _ k_4) rfl hK hP hD hS hA 0 rfl (fun _ => rfl) (by decide) (by decide +kernel) (by decide) (Nat.le_of_ble_eq_true rfl) (Nat.le_of_ble_eq_true rfl) dX5_init_25 (fun q_3 H hP hD hS => ?_)
  refine va_putF (ci := 5) (v := .ref q_3) (ty := .array (.int)) (C := RX5) (T := TX5) (N := 5) hx hb ht iX5 tyX5 tyX5_ok nmX5 hown hK hP hD hS 0 rfl rfl 3 (by decide) (ht _ k_16) (fun _ h9 => h9) rfl hin rfl (by decide +kernel) rfl rfl (Nat.le_of_ble_eq_true rfl) dX5_init_27 (fun H locs hP hD hS => ?_)
  have hP : va_P G vwCl [(h, .inr (5, [.ref q_1, .ref q_2, .int 0, .ref q_3, .int 0])), (q_1, .inl (cy 0, 540, .inl (fun _ => 0))), (q_2, .inl (cy 0, 540, .inl (fun _ => 0))), (q_3, .inl (cy 0, 61, .inl (fun _ => 0)))] H := hP
  have hD : va_D A [(h, .inr (5, [.ref q_1, .ref q_2, .int 0, .ref q_3, .int 0])), (q_1, .inl (cy 0, 540, .inl (fun _ => 0))), (q_2, .inl (cy 0, 540, .inl (fun _ => 0))), (q_3, .inl (cy 0, 61, .inl (fun _ => 0)))] := hD
  refine W.widen (k := 3) (n := 1141) (Nat.le_of_ble_eq_true rfl) (Nat.le_of_ble_eq_true rfl) ?_
  have hP9 : va_P G vwCl [(h, .inr (5, [.ref ((lst [q_1, q_2, q_3]) 0), .ref ((lst [q_1, q_2, q_3]) 1), .int 0, .ref ((lst [q_1, q_2, q_3]) 2), .int 0]))] _ := hP.sub [0] rfl
  have hD9 : va_D A [(h, .inr (5, [.ref ((lst [q_1, q_2, q_3]) 0), .ref ((lst [q_1, q_2, q_3]) 1), .int 0, .ref ((lst [q_1, q_2, q_3]) 2), .int 0]))] := hD.sub [0] (by decide) rfl
  exact W.vret hx hb hr (fun t ht9 hW => ⟨⟨(lst [q_1, q_2, q_3]), rfl, trivial, ⟨by rw [ht9]; exact hP9, hD9⟩⟩, hS.F ht9⟩) hS.2.2 dX5_init_30
set_option maxHeartbeats 4000000 in
set_option maxRecDepth 100000 in
theorem c_Watches (l : Launch) (G : va_G) (cy : Nat → ClassId) (sz : Nat) (h : Nat)  : Met l yX10_init (.code yX10_init cX10_init 1 none :: TBg) ({ frames := 1, cells := 5, slots := 150, locals := 64 }) (va_Pc [.ref h] (En G cy [(h, .inr (10, [.null, .null, .null, .null, .null, .int 0]))] sz)) (va_Qv (fun u : Nat → Nat => True) (fun u t => Ex G (va_A [(h, .inr (10, [.null, .null, .null, .null, .null, .int 0]))] sz) [(h, .inr (10, [.ref (u 0), .ref (u 1), .ref (u 2), .ref (u 3), .ref (u 4), .int 0]))] t) (va_A [(h, .inr (10, [.null, .null, .null, .null, .null, .int 0]))] sz)) 5 150 (va_A [(h, .inr (10, [.null, .null, .null, .null, .null, .int 0]))] sz) := by
  refine Met.ofW (cc := cX10_init) (maxL := 1) (ret := none) (by decide) rfl ?_
  intro p e s m args below meth c s₁ B hml hv
  obtain ⟨rfl, hsz, hP, hK, hD0, hN⟩ := hv
  have hx := B.exec
  have hb := B.bytes
  have hr := B.returns
  have hts := atoms_spec (ws := .code yX10_init cX10_init 1 none :: TBg) B.pre
  have ht : ∀ w ∈ TBg, w.before _ s = true := fun w h => hts w (List.mem_cons_of_mem _ h)
  have hown : s.vm.findClass RX10 = some m.cls := findClass_of_methodNamed B.named
  have hlocks := B.notSynchronized
  have hin : meth.name = "<init>" := (name_of_methodNamed B.named B.method).1
  subst hsz
  have hD := hD0.self (sz := s.heap.size)
  generalize hAe : va_A [(h, .inr (10, [.null, .null, .null, .null, .null, .int 0]))] s.heap.size = A at hD ⊢
  have hA : ∀ q : Nat, s.heap.size ≤ q → A q := fun q h => by rw [← hAe]; exact Or.inr h
  have hS : va_S A s.heap s.heap [] := va_S.rf
  have hl := lv_entry ([.ref h]) (n := 1) (Nat.le_of_ble_eq_true rfl)
  rw [lg_entry_eq]
  generalize (lg_sl ([.ref h]) ++ List.replicate (1 - (lg_sl ([.ref h])).length) Slot.unset).toArray = ls at hl ⊢
  have hl : lv_has ls 1 [(0, .ref h)] := hl
  refine lv_aload_n hx hb dX10_init_0 rfl (lv_at hl 0 rfl) ?_
  refine W.objInit hx hb hown (ht _ k_17) (ht _ k_1) (ht _ k_2) rfl (by rw [hml]; exact hl.1) rfl dX10_init_1 (Nat.le_of_ble_eq_true rfl) (Nat.le_of_ble_eq_true rfl) ?_
  refine W.eq (g2 := F0 m 4 ls []) rfl ?_
  refine lv_aload_n hx hb dX10_init_4 rfl (lv_at hl 0 rfl) ?_
  refine lv_bipush (v := 30) hx hb dX10_init_5 (by decide) ?_
  refine ow_newa (N' := 30) (atype := .int) (ty := .int) (a0 := (30, .inl (fun _ => 0))) hx hb (ht _ k_4) rfl hK hP hD hS hA 0 rfl (fun _ => rfl) (by decide) (by decide +kernel) (by decide) (Nat.le_of_ble_eq_true rfl) (Nat.le_of_ble_eq_true rfl) dX10_init_7 (fun q_1 H hP hD hS => ?_)
  refine va_putF (ci := 10) (v := .ref q_1) (ty := .array (.int)) (C := RX10) (T := TX10) (N := 6) hx hb ht iX10 tyX10 tyX10_ok nmX10 hown hK hP hD hS 0 rfl rfl 0 (by decide) (ht _ k_18) (fun _ h9 => h9) rfl hin rfl (by decide +kernel) rfl rfl (Nat.le_of_ble_eq_true rfl) dX10_init_9 (fun H locs hP hD hS => ?_)
  have hP : va_P G vwCl [(h, .inr (10, [.ref q_1, .null, .null, .null, .null, .int 0])), (q_1, .inl (cy 0, 30, .inl (fun _ => 0)))] H := hP
  have hD : va_D A [(h, .inr (10, [.ref q_1, .null, .null, .null, .null, .int 0])), (q_1, .inl (cy 0, 30, .inl (fun _ => 0)))] := hD
  refine lv_aload_n hx hb dX10_init_12 rfl (lv_at hl 0 rfl) ?_
  refine lv_bipush (v := 30) hx hb dX10_init_13 (by decide) ?_
  refine ow_newa (N' := 30) (atype := .boolean) (ty := .boolean) (a0 := (30, .inl (fun _ => 0))) hx hb (ht _ k_19) rfl hK hP hD hS hA 2 rfl (fun _ => rfl) (by decide) (by decide +kernel) (by decide) (Nat.le_of_ble_eq_true rfl) (Nat.le_of_ble_eq_true rfl) dX10_init_15 (fun q_2 H hP hD hS => ?_)
  refine va_putF (ci := 10) (v := .ref q_2) (ty := .array (.boolean)) (C := RX10) (T := TX10) (N := 6) hx hb ht iX10 tyX10 tyX10_ok nmX10 hown hK hP hD hS 0 rfl rfl 1 (by decide) (ht _ k_20) (fun _ h9 => h9) rfl hin rfl (by decide +kernel) rfl rfl (Nat.le_of_ble_eq_true rfl) dX10_init_17 (fun H locs hP hD hS => ?_)
  have hP : va_P G vwCl [(h, .inr (10, [.ref q_1, .ref q_2, .null, .null, .null, .int 0])), (q_1, .inl (cy 0, 30, .inl (fun _ => 0))), (q_2, .inl (cy 2, 30, .inl (fun _ => 0)))] H := hP
  have hD : va_D A [(h, .inr (10, [.ref q_1, .ref q_2, .null, .null, .null, .int 0])), (q_1, .inl (cy 0, 30, .inl (fun _ => 0))), (q_2, .inl (cy 2, 30, .inl (fun _ => 0)))] := hD
  refine lv_aload_n hx hb dX10_init_20 rfl (lv_at hl 0 rfl) ?_
  refine lv_bipush (v := 30) hx hb dX10_init_21 (by decide) ?_
  refine ow_newa (N' := 30) (atype := .boolean) (ty := .boolean) (a0 := (30, .inl (fun _ => 0))) hx hb (ht _ k_19) rfl hK hP hD hS hA 2 rfl (fun _ => rfl) (by decide) (by decide +kernel) (by decide) (Nat.le_of_ble_eq_true rfl) (Nat.le_of_ble_eq_true rfl) dX10_init_23 (fun q_3 H hP hD hS => ?_)
  refine va_putF (ci := 10) (v := .ref q_3) (ty := .array (.boolean)) (C := RX10) (T := TX10) (N := 6) hx hb ht iX10 tyX10 tyX10_ok nmX10 hown hK hP hD hS 0 rfl rfl 2 (by decide) (ht _ k_21) (fun _ h9 => h9) rfl hin rfl (by decide +kernel) rfl rfl (Nat.le_of_ble_eq_true rfl) dX10_init_25 (fun H locs hP hD hS => ?_)
  have hP : va_P G vwCl [(h, .inr (10, [.ref q_1, .ref q_2, .ref q_3, .null, .null, .int 0])), (q_1, .inl (cy 0, 30, .inl (fun _ => 0))), (q_2, .inl (cy 2, 30, .inl (fun _ => 0))), (q_3, .inl (cy 2, 30, .inl (fun _ => 0)))] H := hP
  have hD : va_D A [(h, .inr (10, [.ref q_1, .ref q_2, .ref q_3, .null, .null, .int 0])), (q_1, .inl (cy 0, 30, .inl (fun _ => 0))), (q_2, .inl (cy 2, 30, .inl (fun _ => 0))), (q_3, .inl (cy 2, 30, .inl (fun _ => 0)))] := hD
  refine lv_aload_n hx hb dX10_init_28 rfl (lv_at hl 0 rfl) ?_
  refine lv_bipush (v := 30) hx hb dX10_init_29 (by decide) ?_
  refine ow_newa (N' := 30) (atype := .int) (ty := .int) (a0 := (30, .inl (fun _ => 0))) hx hb (ht _ k_4) rfl hK hP hD hS hA 0 rfl (fun _ => rfl) (by decide) (by decide +kernel) (by decide) (Nat.le_of_ble_eq_true rfl) (Nat.le_of_ble_eq_true rfl) dX10_init_31 (fun q_4 H hP hD hS => ?_)
  refine va_putF (ci := 10) (v := .ref q_4) (ty := .array (.int)) (C := RX10) (T := TX10) (N := 6) hx hb ht iX10 tyX10 tyX10_ok nmX10 hown hK hP hD hS 0 rfl rfl 3 (by decide) (ht _ k_22) (fun _ h9 => h9) rfl hin rfl (by decide +kernel) rfl rfl (Nat.le_of_ble_eq_true rfl) dX10_init_33 (fun H locs hP hD hS => ?_)
  have hP : va_P G vwCl [(h, .inr (10, [.ref q_1, .ref q_2, .ref q_3, .ref q_4, .null, .int 0])), (q_1, .inl (cy 0, 30, .inl (fun _ => 0))), (q_2, .inl (cy 2, 30, .inl (fun _ => 0))), (q_3, .inl (cy 2, 30, .inl (fun _ => 0))), (q_4, .inl (cy 0, 30, .inl (fun _ => 0)))] H := hP
  have hD : va_D A [(h, .inr (10, [.ref q_1, .ref q_2, .ref q_3, .ref q_4, .null, .int 0])), (q_1, .inl (cy 0, 30, .inl (fun _ => 0))), (q_2, .inl (cy 2, 30, .inl (fun _ => 0))), (q_3, .inl (cy 2, 30, .inl (fun _ => 0))), (q_4, .inl (cy 0, 30, .inl (fun _ => 0)))] := hD
  refine lv_aload_n hx hb dX10_init_36 rfl (lv_at hl 0 rfl) ?_
  refine lv_bipush (v := 30) hx hb dX10_init_37 (by decide) ?_
  refine ow_newa (N' := 30) (atype := .int) (ty := .int) (a0 := (30, .inl (fun _ => 0))) hx hb (ht _ k_4) rfl hK hP hD hS hA 0 rfl (fun _ => rfl) (by decide) (by decide +kernel) (by decide) (Nat.le_of_ble_eq_true rfl) (Nat.le_of_ble_eq_true rfl) dX10_init_39 (fun q_5 H hP hD hS => ?_)
  refine va_putF (ci := 10) (v := .ref q_5) (ty := .array (.int)) (C := RX10) (T := TX10) (N := 6) hx hb ht iX10 tyX10 tyX10_ok nmX10 hown hK hP hD hS 0 rfl rfl 4 (by decide) (ht _ k_23) (fun _ h9 => h9) rfl hin rfl (by decide +kernel) rfl rfl (Nat.le_of_ble_eq_true rfl) dX10_init_41 (fun H locs hP hD hS => ?_)
  have hP : va_P G vwCl [(h, .inr (10, [.ref q_1, .ref q_2, .ref q_3, .ref q_4, .ref q_5, .int 0])), (q_1, .inl (cy 0, 30, .inl (fun _ => 0))), (q_2, .inl (cy 2, 30, .inl (fun _ => 0))), (q_3, .inl (cy 2, 30, .inl (fun _ => 0))), (q_4, .inl (cy 0, 30, .inl (fun _ => 0))), (q_5, .inl (cy 0, 30, .inl (fun _ => 0)))] H := hP
  have hD : va_D A [(h, .inr (10, [.ref q_1, .ref q_2, .ref q_3, .ref q_4, .ref q_5, .int 0])), (q_1, .inl (cy 0, 30, .inl (fun _ => 0))), (q_2, .inl (cy 2, 30, .inl (fun _ => 0))), (q_3, .inl (cy 2, 30, .inl (fun _ => 0))), (q_4, .inl (cy 0, 30, .inl (fun _ => 0))), (q_5, .inl (cy 0, 30, .inl (fun _ => 0)))] := hD
  refine W.widen (k := 5) (n := 150) (Nat.le_of_ble_eq_true rfl) (Nat.le_of_ble_eq_true rfl) ?_
  have hP9 : va_P G vwCl [(h, .inr (10, [.ref ((lst [q_1, q_2, q_3, q_4, q_5]) 0), .ref ((lst [q_1, q_2, q_3, q_4, q_5]) 1), .ref ((lst [q_1, q_2, q_3, q_4, q_5]) 2), .ref ((lst [q_1, q_2, q_3, q_4, q_5]) 3), .ref ((lst [q_1, q_2, q_3, q_4, q_5]) 4), .int 0]))] _ := hP.sub [0] rfl
  have hD9 : va_D A [(h, .inr (10, [.ref ((lst [q_1, q_2, q_3, q_4, q_5]) 0), .ref ((lst [q_1, q_2, q_3, q_4, q_5]) 1), .ref ((lst [q_1, q_2, q_3, q_4, q_5]) 2), .ref ((lst [q_1, q_2, q_3, q_4, q_5]) 3), .ref ((lst [q_1, q_2, q_3, q_4, q_5]) 4), .int 0]))] := hD.sub [0] (by decide) rfl
  exact W.vret hx hb hr (fun t ht9 hW => ⟨⟨(lst [q_1, q_2, q_3, q_4, q_5]), rfl, trivial, ⟨by rw [ht9]; exact hP9, hD9⟩⟩, hS.F ht9⟩) hS.2.2 dX10_init_44
set_option maxHeartbeats 4000000 in
set_option maxRecDepth 100000 in
theorem c_Song12 (l : Launch) (G : va_G) (cy : Nat → ClassId) (sz : Nat) (h : Nat)  : Met l yX8_init (.code yX8_init cX8_init 2 none :: TBg) ({ frames := 1, cells := 2, slots := 24, locals := 64 }) (va_Pc [.ref h, .int 12] (En G cy [(h, .inr (8, [.null, .null, .int 0]))] sz)) (va_Qv (fun u : Nat → Nat => True) (fun u t => Ex G (va_A [(h, .inr (8, [.null, .null, .int 0]))] sz) [(h, .inr (8, [.ref (u 0), .ref (u 1), .int 0])), ((u 0), .inl (cy 0, 12, .inl (fun _ => 0))), ((u 1), .inl (cy 0, 12, .inl (fun _ => 0)))] t) (va_A [(h, .inr (8, [.null, .null, .int 0]))] sz)) 2 24 (va_A [(h, .inr (8, [.null, .null, .int 0]))] sz) := by
  refine Met.ofW (cc := cX8_init) (maxL := 2) (ret := none) (by decide) rfl ?_
  intro p e s m args below meth c s₁ B hml hv
  obtain ⟨rfl, hsz, hP, hK, hD0, hN⟩ := hv
  have hx := B.exec
  have hb := B.bytes
  have hr := B.returns
  have hts := atoms_spec (ws := .code yX8_init cX8_init 2 none :: TBg) B.pre
  have ht : ∀ w ∈ TBg, w.before _ s = true := fun w h => hts w (List.mem_cons_of_mem _ h)
  have hown : s.vm.findClass RX8 = some m.cls := findClass_of_methodNamed B.named
  have hlocks := B.notSynchronized
  have hin : meth.name = "<init>" := (name_of_methodNamed B.named B.method).1
  subst hsz
  have hD := hD0.self (sz := s.heap.size)
  generalize hAe : va_A [(h, .inr (8, [.null, .null, .int 0]))] s.heap.size = A at hD ⊢
  have hA : ∀ q : Nat, s.heap.size ≤ q → A q := fun q h => by rw [← hAe]; exact Or.inr h
  have hS : va_S A s.heap s.heap [] := va_S.rf
  have hl := lv_entry ([.ref h, .int 12]) (n := 2) (Nat.le_of_ble_eq_true rfl)
  rw [lg_entry_eq]
  generalize (lg_sl ([.ref h, .int 12]) ++ List.replicate (2 - (lg_sl ([.ref h, .int 12])).length) Slot.unset).toArray = ls at hl ⊢
  have hl : lv_has ls 2 [(0, .ref h), (1, .int 12)] := hl
  refine lv_aload_n hx hb dX8_init_0 rfl (lv_at hl 0 rfl) ?_
  refine W.objInit hx hb hown (ht _ k_24) (ht _ k_1) (ht _ k_2) rfl (by rw [hml]; exact hl.1) rfl dX8_init_1 (Nat.le_of_ble_eq_true rfl) (Nat.le_of_ble_eq_true rfl) ?_
  refine W.eq (g2 := F0 m 4 ls []) rfl ?_
  refine lv_aload_n hx hb dX8_init_4 rfl (lv_at hl 0 rfl) ?_
  refine lv_iload_n hx hb dX8_init_5 rfl (lv_at hl 1 rfl) ?_
  refine lv_iconst (v := 0) hx hb dX8_init_6 (by decide) ?_
  refine va_mmax hx hb (by rw [hml]; exact hl.1.symm) hown (ht _ k_25) (ht _ k_26) (ht _ k_27) (ht _ k_28) (Nat.le_of_ble_eq_true rfl) (Nat.le_of_ble_eq_true rfl) (Nat.le_of_ble_eq_true rfl) (Nat.le_of_ble_eq_true rfl) dX8_init_7 ?_
  refine ow_top 12 (by decide +kernel) ?_
  refine ow_newa (N' := 12) (atype := .int) (ty := .int) (a0 := (12, .inl (fun _ => 0))) hx hb (ht _ k_4) rfl hK hP hD hS hA 0 rfl (fun _ => rfl) (by decide) (by decide +kernel) (by decide) (Nat.le_of_ble_eq_true rfl) (Nat.le_of_ble_eq_true rfl) dX8_init_10 (fun q_1 H hP hD hS => ?_)
  refine va_putF (ci := 8) (v := .ref q_1) (ty := .array (.int)) (C := RX8) (T := TX8) (N := 3) hx hb ht iX8 tyX8 tyX8_ok nmX8 hown hK hP hD hS 0 rfl rfl 0 (by decide) (ht _ k_29) (fun _ h9 => h9) rfl hin rfl (by decide +kernel) rfl rfl (Nat.le_of_ble_eq_true rfl) dX8_init_12 (fun H locs hP hD hS => ?_)
  have hP : va_P G vwCl [(h, .inr (8, [.ref q_1, .null, .int 0])), (q_1, .inl (cy 0, 12, .inl (fun _ => 0)))] H := hP
  have hD : va_D A [(h, .inr (8, [.ref q_1, .null, .int 0])), (q_1, .inl (cy 0, 12, .inl (fun _ => 0)))] := hD
  refine lv_aload_n hx hb dX8_init_15 rfl (lv_at hl 0 rfl) ?_
  refine lv_iload_n hx hb dX8_init_16 rfl (lv_at hl 1 rfl) ?_
  refine lv_iconst (v := 0) hx hb dX8_init_17 (by decide) ?_
  refine va_mmax hx hb (by rw [hml]; exact hl.1.symm) hown (ht _ k_25) (ht _ k_26) (ht _ k_27) (ht _ k_28) (Nat.le_of_ble_eq_true rfl) (Nat.le_of_ble_eq_true rfl) (Nat.le_of_ble_eq_true rfl) (Nat.le_of_ble_eq_true rfl) dX8_init_18 ?_
  refine ow_top 12 (by decide +kernel) ?_
  refine ow_newa (N' := 12) (atype := .int) (ty := .int) (a0 := (12, .inl (fun _ => 0))) hx hb (ht _ k_4) rfl hK hP hD hS hA 0 rfl (fun _ => rfl) (by decide) (by decide +kernel) (by decide) (Nat.le_of_ble_eq_true rfl) (Nat.le_of_ble_eq_true rfl) dX8_init_21 (fun q_2 H hP hD hS => ?_)
  refine va_putF (ci := 8) (v := .ref q_2) (ty := .array (.int)) (C := RX8) (T := TX8) (N := 3) hx hb ht iX8 tyX8 tyX8_ok nmX8 hown hK hP hD hS 0 rfl rfl 1 (by decide) (ht _ k_30) (fun _ h9 => h9) rfl hin rfl (by decide +kernel) rfl rfl (Nat.le_of_ble_eq_true rfl) dX8_init_23 (fun H locs hP hD hS => ?_)
  have hP : va_P G vwCl [(h, .inr (8, [.ref q_1, .ref q_2, .int 0])), (q_1, .inl (cy 0, 12, .inl (fun _ => 0))), (q_2, .inl (cy 0, 12, .inl (fun _ => 0)))] H := hP
  have hD : va_D A [(h, .inr (8, [.ref q_1, .ref q_2, .int 0])), (q_1, .inl (cy 0, 12, .inl (fun _ => 0))), (q_2, .inl (cy 0, 12, .inl (fun _ => 0)))] := hD
  refine W.widen (k := 2) (n := 24) (Nat.le_of_ble_eq_true rfl) (Nat.le_of_ble_eq_true rfl) ?_
  have hP9 : va_P G vwCl [(h, .inr (8, [.ref ((lst [q_1, q_2]) 0), .ref ((lst [q_1, q_2]) 1), .int 0])), (((lst [q_1, q_2]) 0), .inl (cy 0, 12, .inl (fun _ => 0))), (((lst [q_1, q_2]) 1), .inl (cy 0, 12, .inl (fun _ => 0)))] _ := hP.sub [0, 1, 2] rfl
  have hD9 : va_D A [(h, .inr (8, [.ref ((lst [q_1, q_2]) 0), .ref ((lst [q_1, q_2]) 1), .int 0])), (((lst [q_1, q_2]) 0), .inl (cy 0, 12, .inl (fun _ => 0))), (((lst [q_1, q_2]) 1), .inl (cy 0, 12, .inl (fun _ => 0)))] := hD.sub [0, 1, 2] (by decide) rfl
  exact W.vret hx hb hr (fun t ht9 hW => ⟨⟨(lst [q_1, q_2]), rfl, trivial, ⟨by rw [ht9]; exact hP9, hD9⟩⟩, hS.F ht9⟩) hS.2.2 dX8_init_26
set_option maxHeartbeats 4000000 in
set_option maxRecDepth 100000 in
theorem c_Song40 (l : Launch) (G : va_G) (cy : Nat → ClassId) (sz : Nat) (h : Nat)  : Met l yX8_init (.code yX8_init cX8_init 2 none :: TBg) ({ frames := 1, cells := 2, slots := 80, locals := 64 }) (va_Pc [.ref h, .int 40] (En G cy [(h, .inr (8, [.null, .null, .int 0]))] sz)) (va_Qv (fun u : Nat → Nat => True) (fun u t => Ex G (va_A [(h, .inr (8, [.null, .null, .int 0]))] sz) [(h, .inr (8, [.ref (u 0), .ref (u 1), .int 0])), ((u 0), .inl (cy 0, 40, .inl (fun _ => 0))), ((u 1), .inl (cy 0, 40, .inl (fun _ => 0)))] t) (va_A [(h, .inr (8, [.null, .null, .int 0]))] sz)) 2 80 (va_A [(h, .inr (8, [.null, .null, .int 0]))] sz) := by
  refine Met.ofW (cc := cX8_init) (maxL := 2) (ret := none) (by decide) rfl ?_
  intro p e s m args below meth c s₁ B hml hv
  obtain ⟨rfl, hsz, hP, hK, hD0, hN⟩ := hv
  have hx := B.exec
  have hb := B.bytes
  have hr := B.returns
  have hts := atoms_spec (ws := .code yX8_init cX8_init 2 none :: TBg) B.pre
  have ht : ∀ w ∈ TBg, w.before _ s = true := fun w h => hts w (List.mem_cons_of_mem _ h)
  have hown : s.vm.findClass RX8 = some m.cls := findClass_of_methodNamed B.named
  have hlocks := B.notSynchronized
  have hin : meth.name = "<init>" := (name_of_methodNamed B.named B.method).1
  subst hsz
  have hD := hD0.self (sz := s.heap.size)
  generalize hAe : va_A [(h, .inr (8, [.null, .null, .int 0]))] s.heap.size = A at hD ⊢
  have hA : ∀ q : Nat, s.heap.size ≤ q → A q := fun q h => by rw [← hAe]; exact Or.inr h
  have hS : va_S A s.heap s.heap [] := va_S.rf
  have hl := lv_entry ([.ref h, .int 40]) (n := 2) (Nat.le_of_ble_eq_true rfl)
  rw [lg_entry_eq]
  generalize (lg_sl ([.ref h, .int 40]) ++ List.replicate (2 - (lg_sl ([.ref h, .int 40])).length) Slot.unset).toArray = ls at hl ⊢
  have hl : lv_has ls 2 [(0, .ref h), (1, .int 40)] := hl
  refine lv_aload_n hx hb dX8_init_0 rfl (lv_at hl 0 rfl) ?_
  refine W.objInit hx hb hown (ht _ k_24) (ht _ k_1) (ht _ k_2) rfl (by rw [hml]; exact hl.1) rfl dX8_init_1 (Nat.le_of_ble_eq_true rfl) (Nat.le_of_ble_eq_true rfl) ?_
  refine W.eq (g2 := F0 m 4 ls []) rfl ?_
  refine lv_aload_n hx hb dX8_init_4 rfl (lv_at hl 0 rfl) ?_
  refine lv_iload_n hx hb dX8_init_5 rfl (lv_at hl 1 rfl) ?_
  refine lv_iconst (v := 0) hx hb dX8_init_6 (by decide) ?_
  refine va_mmax hx hb (by rw [hml]; exact hl.1.symm) hown (ht _ k_25) (ht _ k_26) (ht _ k_27) (ht _ k_28) (Nat.le_of_ble_eq_true rfl) (Nat.le_of_ble_eq_true rfl) (Nat.le_of_ble_eq_true rfl) (Nat.le_of_ble_eq_true rfl) dX8_init_7 ?_
  refine ow_top 40 (by decide +kernel) ?_
  refine ow_newa (N' := 40) (atype := .int) (ty := .int) (a0 := (40, .inl (fun _ => 0))) hx hb (ht _ k_4) rfl hK hP hD hS hA 0 rfl (fun _ => rfl) (by decide) (by decide +kernel) (by decide) (Nat.le_of_ble_eq_true rfl) (Nat.le_of_ble_eq_true rfl) dX8_init_10 (fun q_1 H hP hD hS => ?_)
  refine va_putF (ci := 8) (v := .ref q_1) (ty := .array (.int)) (C := RX8) (T := TX8) (N := 3) hx hb ht iX8 tyX8 tyX8_ok nmX8 hown hK hP hD hS 0 rfl rfl 0 (by decide) (ht _ k_29) (fun _ h9 => h9) rfl hin rfl (by decide +kernel) rfl rfl (Nat.le_of_ble_eq_true rfl) dX8_init_12 (fun H locs hP hD hS => ?_)
  have hP : va_P G vwCl [(h, .inr (8, [.ref q_1, .null, .int 0])), (q_1, .inl (cy 0, 40, .inl (fun _ => 0)))] H := hP
  have hD : va_D A [(h, .inr (8, [.ref q_1, .null, .int 0])), (q_1, .inl (cy 0, 40, .inl (fun _ => 0)))] := hD
  refine lv_aload_n hx hb dX8_init_15 rfl (lv_at hl 0 rfl) ?_
  refine lv_iload_n hx hb dX8_init_16 rfl (lv_at hl 1 rfl) ?_
  refine lv_iconst (v := 0) hx hb dX8_init_17 (by decide) ?_
  refine va_mmax hx hb (by rw [hml]; exact hl.1.symm) hown (ht _ k_25) (ht _ k_26) (ht _ k_27) (ht _ k_28) (Nat.le_of_ble_eq_true rfl) (Nat.le_of_ble_eq_true rfl) (Nat.le_of_ble_eq_true rfl) (Nat.le_of_ble_eq_true rfl) dX8_init_18 ?_
  refine ow_top 40 (by decide +kernel) ?_
  refine ow_newa (N' := 40) (atype := .int) (ty := .int) (a0 := (40, .inl (fun _ => 0))) hx hb (ht _ k_4) rfl hK hP hD hS hA 0 rfl (fun _ => rfl) (by decide) (by decide +kernel) (by decide) (Nat.le_of_ble_eq_true rfl) (Nat.le_of_ble_eq_true rfl) dX8_init_21 (fun q_2 H hP hD hS => ?_)
  refine va_putF (ci := 8) (v := .ref q_2) (ty := .array (.int)) (C := RX8) (T := TX8) (N := 3) hx hb ht iX8 tyX8 tyX8_ok nmX8 hown hK hP hD hS 0 rfl rfl 1 (by decide) (ht _ k_30) (fun _ h9 => h9) rfl hin rfl (by decide +kernel) rfl rfl (Nat.le_of_ble_eq_true rfl) dX8_init_23 (fun H locs hP hD hS => ?_)
  have hP : va_P G vwCl [(h, .inr (8, [.ref q_1, .ref q_2, .int 0])), (q_1, .inl (cy 0, 40, .inl (fun _ => 0))), (q_2, .inl (cy 0, 40, .inl (fun _ => 0)))] H := hP
  have hD : va_D A [(h, .inr (8, [.ref q_1, .ref q_2, .int 0])), (q_1, .inl (cy 0, 40, .inl (fun _ => 0))), (q_2, .inl (cy 0, 40, .inl (fun _ => 0)))] := hD
  refine W.widen (k := 2) (n := 80) (Nat.le_of_ble_eq_true rfl) (Nat.le_of_ble_eq_true rfl) ?_
  have hP9 : va_P G vwCl [(h, .inr (8, [.ref ((lst [q_1, q_2]) 0), .ref ((lst [q_1, q_2]) 1), .int 0])), (((lst [q_1, q_2]) 0), .inl (cy 0, 40, .inl (fun _ => 0))), (((lst [q_1, q_2]) 1), .inl (cy 0, 40, .inl (fun _ => 0)))] _ := hP.sub [0, 1, 2] rfl
  have hD9 : va_D A [(h, .inr (8, [.ref ((lst [q_1, q_2]) 0), .ref ((lst [q_1, q_2]) 1), .int 0])), (((lst [q_1, q_2]) 0), .inl (cy 0, 40, .inl (fun _ => 0))), (((lst [q_1, q_2]) 1), .inl (cy 0, 40, .inl (fun _ => 0)))] := hD.sub [0, 1, 2] (by decide) rfl
  exact W.vret hx hb hr (fun t ht9 hW => ⟨⟨(lst [q_1, q_2]), rfl, trivial, ⟨by rw [ht9]; exact hP9, hD9⟩⟩, hS.F ht9⟩) hS.2.2 dX8_init_26
set_option maxHeartbeats 4000000 in
set_option maxRecDepth 100000 in
theorem c_Laying (l : Launch) (G : va_G) (cy : Nat → ClassId) (sz : Nat) (h : Nat)  : Met l yX3_init (.code yX3_init cX3_init 1 none :: TBg) ({ frames := 1, cells := 11, slots := 66, locals := 64 }) (va_Pc [.ref h] (En G cy [(h, .inr (3, [.null, .null, .int 0, .null, .null, .null, .int 0]))] sz)) (va_Qv (fun u : Nat → Nat => True) (fun u t => Ex G (va_A [(h, .inr (3, [.null, .null, .int 0, .null, .null, .null, .int 0]))] sz) [(h, .inr (3, [.ref (u 0), .ref (u 1), .int 0, .ref (u 2), .ref (u 3), .ref (u 4), .int 0])), ((u 3), .inl (cy 0, 6, .inl (fun _ => 0))), ((u 4), .inl (cy 0, 6, .inl (fun _ => 0)))] t) (va_A [(h, .inr (3, [.null, .null, .int 0, .null, .null, .null, .int 0]))] sz)) 11 66 (va_A [(h, .inr (3, [.null, .null, .int 0, .null, .null, .null, .int 0]))] sz) := by
  refine Met.ofW (cc := cX3_init) (maxL := 1) (ret := none) (by decide) rfl ?_
  intro p e s m args below meth c s₁ B hml hv
  obtain ⟨rfl, hsz, hP, hK, hD0, hN⟩ := hv
  have hx := B.exec
  have hb := B.bytes
  have hr := B.returns
  have hts := atoms_spec (ws := .code yX3_init cX3_init 1 none :: TBg) B.pre
  have ht : ∀ w ∈ TBg, w.before _ s = true := fun w h => hts w (List.mem_cons_of_mem _ h)
  have hown : s.vm.findClass RX3 = some m.cls := findClass_of_methodNamed B.named
  have hlocks := B.notSynchronized
  have hin : meth.name = "<init>" := (name_of_methodNamed B.named B.method).1
  subst hsz
  have hD := hD0.self (sz := s.heap.size)
  generalize hAe : va_A [(h, .inr (3, [.null, .null, .int 0, .null, .null, .null, .int 0]))] s.heap.size = A at hD ⊢
  have hA : ∀ q : Nat, s.heap.size ≤ q → A q := fun q h => by rw [← hAe]; exact Or.inr h
  have hS : va_S A s.heap s.heap [] := va_S.rf
  have hl := lv_entry ([.ref h]) (n := 1) (Nat.le_of_ble_eq_true rfl)
  rw [lg_entry_eq]
  generalize (lg_sl ([.ref h]) ++ List.replicate (1 - (lg_sl ([.ref h])).length) Slot.unset).toArray = ls at hl ⊢
  have hl : lv_has ls 1 [(0, .ref h)] := hl
  refine lv_aload_n hx hb dX3_init_0 rfl (lv_at hl 0 rfl) ?_
  refine W.objInit hx hb hown (ht _ k_31) (ht _ k_1) (ht _ k_2) rfl (by rw [hml]; exact hl.1) rfl dX3_init_1 (Nat.le_of_ble_eq_true rfl) (Nat.le_of_ble_eq_true rfl) ?_
  refine W.eq (g2 := F0 m 4 ls []) rfl ?_
  refine lv_aload_n hx hb dX3_init_4 rfl (lv_at hl 0 rfl) ?_
  refine lv_bipush (v := 6) hx hb dX3_init_5 (by decide) ?_
  refine ow_newa (N' := 6) (atype := .int) (ty := .int) (a0 := (6, .inl (fun _ => 0))) hx hb (ht _ k_4) rfl hK hP hD hS hA 0 rfl (fun _ => rfl) (by decide) (by decide +kernel) (by decide) (Nat.le_of_ble_eq_true rfl) (Nat.le_of_ble_eq_true rfl) dX3_init_7 (fun q_1 H hP hD hS => ?_)
  refine va_putF (ci := 3) (v := .ref q_1) (ty := .array (.int)) (C := RX3) (T := TX3) (N := 7) hx hb ht iX3 tyX3 tyX3_ok nmX3 hown hK hP hD hS 0 rfl rfl 0 (by decide) (ht _ k_32) (fun _ h9 => h9) rfl hin rfl (by decide +kernel) rfl rfl (Nat.le_of_ble_eq_true rfl) dX3_init_9 (fun H locs hP hD hS => ?_)
  have hP : va_P G vwCl [(h, .inr (3, [.ref q_1, .null, .int 0, .null, .null, .null, .int 0])), (q_1, .inl (cy 0, 6, .inl (fun _ => 0)))] H := hP
  have hD : va_D A [(h, .inr (3, [.ref q_1, .null, .int 0, .null, .null, .null, .int 0])), (q_1, .inl (cy 0, 6, .inl (fun _ => 0)))] := hD
  refine lv_aload_n hx hb dX3_init_12 rfl (lv_at hl 0 rfl) ?_
  refine lv_bipush (v := 6) hx hb dX3_init_13 (by decide) ?_
  refine ow_newa (N' := 6) (atype := .int) (ty := .int) (a0 := (6, .inl (fun _ => 0))) hx hb (ht _ k_4) rfl hK hP hD hS hA 0 rfl (fun _ => rfl) (by decide) (by decide +kernel) (by decide) (Nat.le_of_ble_eq_true rfl) (Nat.le_of_ble_eq_true rfl) dX3_init_15 (fun q_2 H hP hD hS => ?_)
  refine va_putF (ci := 3) (v := .ref q_2) (ty := .array (.int)) (C := RX3) (T := TX3) (N := 7) hx hb ht iX3 tyX3 tyX3_ok nmX3 hown hK hP hD hS 0 rfl rfl 1 (by decide) (ht _ k_33) (fun _ h9 => h9) rfl hin rfl (by decide +kernel) rfl rfl (Nat.le_of_ble_eq_true rfl) dX3_init_17 (fun H locs hP hD hS => ?_)
  have hP : va_P G vwCl [(h, .inr (3, [.ref q_1, .ref q_2, .int 0, .null, .null, .null, .int 0])), (q_1, .inl (cy 0, 6, .inl (fun _ => 0))), (q_2, .inl (cy 0, 6, .inl (fun _ => 0)))] H := hP
  have hD : va_D A [(h, .inr (3, [.ref q_1, .ref q_2, .int 0, .null, .null, .null, .int 0])), (q_1, .inl (cy 0, 6, .inl (fun _ => 0))), (q_2, .inl (cy 0, 6, .inl (fun _ => 0)))] := hD
  refine lv_aload_n hx hb dX3_init_20 rfl (lv_at hl 0 rfl) ?_
  refine lv_bipush (v := 6) hx hb dX3_init_21 (by decide) ?_
  refine lv_bipush (v := 6) hx hb dX3_init_23 (by decide) ?_
  refine ow_mna (ty := .int) (N' := 6) (K' := 6) hx hb hown (ht _ k_34) hN.2.2.2.2.2 (ht _ k_4) hP hS (by decide) (by decide) (by decide +kernel) (by decide +kernel) (by decide) (by decide) (by decide) rfl rfl (Nat.le_of_ble_eq_true rfl) (Nat.le_of_ble_eq_true rfl) dX3_init_25 (fun q_3 H hP hS => ?_)
  refine va_putF (ci := 3) (v := .ref q_3) (ty := .array (.array (.int))) (C := RX3) (T := TX3) (N := 7) hx hb ht iX3 tyX3 tyX3_ok nmX3 hown hK hP hD hS 0 rfl rfl 3 (by decide) (ht _ k_35) (fun _ h9 => h9) rfl hin rfl (by decide +kernel) rfl rfl (Nat.le_of_ble_eq_true rfl) dX3_init_29 (fun H locs hP hD hS => ?_)
  have hP : va_P G vwCl [(h, .inr (3, [.ref q_1, .ref q_2, .int 0, .ref q_3, .null, .null, .int 0])), (q_1, .inl (cy 0, 6, .inl (fun _ => 0))), (q_2, .inl (cy 0, 6, .inl (fun _ => 0)))] H := hP
  have hD : va_D A [(h, .inr (3, [.ref q_1, .ref q_2, .int 0, .ref q_3, .null, .null, .int 0])), (q_1, .inl (cy 0, 6, .inl (fun _ => 0))), (q_2, .inl (cy 0, 6, .inl (fun _ => 0)))] := hD
  refine lv_aload_n hx hb dX3_init_32 rfl (lv_at hl 0 rfl) ?_
  refine lv_bipush (v := 6) hx hb dX3_init_33 (by decide) ?_
  refine ow_newa (N' := 6) (atype := .int) (ty := .int) (a0 := (6, .inl (fun _ => 0))) hx hb (ht _ k_4) rfl hK hP hD hS hA 0 rfl (fun _ => rfl) (by decide) (by decide +kernel) (by decide) (Nat.le_of_ble_eq_true rfl) (Nat.le_of_ble_eq_true rfl) dX3_init_35 (fun q_4 H hP hD hS => ?_)
  refine va_putF (ci := 3) (v := .ref q_4) (ty := .array (.int)) (C := RX3) (T := TX3) (N := 7) hx hb ht iX3 tyX3 tyX3_ok nmX3 hown hK hP hD hS 0 rfl rfl 4 (by decide) (ht _ k_36) (fun _ h9 => h9) rfl hin rfl (by decide +kernel) rfl rfl (Nat.le_of_ble_eq_true rfl) dX3_init_37 (fun H locs hP hD hS => ?_)
  have hP : va_P G vwCl [(h, .inr (3, [.ref q_1, .ref q_2, .int 0, .ref q_3, .ref q_4, .null, .int 0])), (q_1, .inl (cy 0, 6, .inl (fun _ => 0))), (q_2, .inl (cy 0, 6, .inl (fun _ => 0))), (q_4, .inl (cy 0, 6, .inl (fun _ => 0)))] H := hP
  have hD : va_D A [(h, .inr (3, [.ref q_1, .ref q_2, .int 0, .ref q_3, .ref q_4, .null, .int 0])), (q_1, .inl (cy 0, 6, .inl (fun _ => 0))), (q_2, .inl (cy 0, 6, .inl (fun _ => 0))), (q_4, .inl (cy 0, 6, .inl (fun _ => 0)))] := hD
  refine lv_aload_n hx hb dX3_init_40 rfl (lv_at hl 0 rfl) ?_
  refine lv_bipush (v := 6) hx hb dX3_init_41 (by decide) ?_
  refine ow_newa (N' := 6) (atype := .int) (ty := .int) (a0 := (6, .inl (fun _ => 0))) hx hb (ht _ k_4) rfl hK hP hD hS hA 0 rfl (fun _ => rfl) (by decide) (by decide +kernel) (by decide) (Nat.le_of_ble_eq_true rfl) (Nat.le_of_ble_eq_true rfl) dX3_init_43 (fun q_5 H hP hD hS => ?_)
  refine va_putF (ci := 3) (v := .ref q_5) (ty := .array (.int)) (C := RX3) (T := TX3) (N := 7) hx hb ht iX3 tyX3 tyX3_ok nmX3 hown hK hP hD hS 0 rfl rfl 5 (by decide) (ht _ k_37) (fun _ h9 => h9) rfl hin rfl (by decide +kernel) rfl rfl (Nat.le_of_ble_eq_true rfl) dX3_init_45 (fun H locs hP hD hS => ?_)
  have hP : va_P G vwCl [(h, .inr (3, [.ref q_1, .ref q_2, .int 0, .ref q_3, .ref q_4, .ref q_5, .int 0])), (q_1, .inl (cy 0, 6, .inl (fun _ => 0))), (q_2, .inl (cy 0, 6, .inl (fun _ => 0))), (q_4, .inl (cy 0, 6, .inl (fun _ => 0))), (q_5, .inl (cy 0, 6, .inl (fun _ => 0)))] H := hP
  have hD : va_D A [(h, .inr (3, [.ref q_1, .ref q_2, .int 0, .ref q_3, .ref q_4, .ref q_5, .int 0])), (q_1, .inl (cy 0, 6, .inl (fun _ => 0))), (q_2, .inl (cy 0, 6, .inl (fun _ => 0))), (q_4, .inl (cy 0, 6, .inl (fun _ => 0))), (q_5, .inl (cy 0, 6, .inl (fun _ => 0)))] := hD
  refine W.widen (k := 11) (n := 66) (Nat.le_of_ble_eq_true rfl) (Nat.le_of_ble_eq_true rfl) ?_
  have hP9 : va_P G vwCl [(h, .inr (3, [.ref ((lst [q_1, q_2, q_3, q_4, q_5]) 0), .ref ((lst [q_1, q_2, q_3, q_4, q_5]) 1), .int 0, .ref ((lst [q_1, q_2, q_3, q_4, q_5]) 2), .ref ((lst [q_1, q_2, q_3, q_4, q_5]) 3), .ref ((lst [q_1, q_2, q_3, q_4, q_5]) 4), .int 0])), (((lst [q_1, q_2, q_3, q_4, q_5]) 3), .inl (cy 0, 6, .inl (fun _ => 0))), (((lst [q_1, q_2, q_3, q_4, q_5]) 4), .inl (cy 0, 6, .inl (fun _ => 0)))] _ := hP.sub [0, 3, 4] rfl
  have hD9 : va_D A [(h, .inr (3, [.ref ((lst [q_1, q_2, q_3, q_4, q_5]) 0), .ref ((lst [q_1, q_2, q_3, q_4, q_5]) 1), .int 0, .ref ((lst [q_1, q_2, q_3, q_4, q_5]) 2), .ref ((lst [q_1, q_2, q_3, q_4, q_5]) 3), .ref ((lst [q_1, q_2, q_3, q_4, q_5]) 4), .int 0])), (((lst [q_1, q_2, q_3, q_4, q_5]) 3), .inl (cy 0, 6, .inl (fun _ => 0))), (((lst [q_1, q_2, q_3, q_4, q_5]) 4), .inl (cy 0, 6, .inl (fun _ => 0)))] := hD.sub [0, 3, 4] (by decide) rfl
  exact W.vret hx hb hr (fun t ht9 hW => ⟨⟨(lst [q_1, q_2, q_3, q_4, q_5]), rfl, trivial, ⟨by rw [ht9]; exact hP9, hD9⟩⟩, hS.F ht9⟩) hS.2.2 dX3_init_48
set_option maxHeartbeats 4000000 in
set_option maxRecDepth 100000 in
theorem c_Scene (l : Launch) (G : va_G) (cy : Nat → ClassId) (sz : Nat) (h : Nat)  : Met l yX7_init (.code yX7_init cX7_init 1 none :: TBg) ({ frames := 2, cells := 4, slots := 91, locals := 128 }) (va_Pc [.ref h] (En G cy [(h, .inr (7, [.null, .int 0, .int 0, .null, .int 0]))] sz)) (va_Qv (fun u : Nat → Nat => True) (fun u t => Ex G (va_A [(h, .inr (7, [.null, .int 0, .int 0, .null, .int 0]))] sz) [(h, .inr (7, [.ref (u 0), .int 0, .int 0, .ref (u 1), .int 0])), ((u 0), .inr (8, [.ref (u 2), .ref (u 3), .int 0])), ((u 2), .inl (cy 0, 40, .inl (fun _ => 0))), ((u 3), .inl (cy 0, 40, .inl (fun _ => 0))), ((u 1), .inl (cy 0, 8, .inl (fun _ => 0)))] t) (va_A [(h, .inr (7, [.null, .int 0, .int 0, .null, .int 0]))] sz)) 4 91 (va_A [(h, .inr (7, [.null, .int 0, .int 0, .null, .int 0]))] sz) := by
  refine Met.ofW (cc := cX7_init) (maxL := 1) (ret := none) (by decide) rfl ?_
  intro p e s m args below meth c s₁ B hml hv
  obtain ⟨rfl, hsz, hP, hK, hD0, hN⟩ := hv
  have hx := B.exec
  have hb := B.bytes
  have hr := B.returns
  have hts := atoms_spec (ws := .code yX7_init cX7_init 1 none :: TBg) B.pre
  have ht : ∀ w ∈ TBg, w.before _ s = true := fun w h => hts w (List.mem_cons_of_mem _ h)
  have hown : s.vm.findClass RX7 = some m.cls := findClass_of_methodNamed B.named
  have hlocks := B.notSynchronized
  have hin : meth.name = "<init>" := (name_of_methodNamed B.named B.method).1
  subst hsz
  have hD := hD0.self (sz := s.heap.size)
  generalize hAe : va_A [(h, .inr (7, [.null, .int 0, .int 0, .null, .int 0]))] s.heap.size = A at hD ⊢
  have hA : ∀ q : Nat, s.heap.size ≤ q → A q := fun q h => by rw [← hAe]; exact Or.inr h
  have hS : va_S A s.heap s.heap [] := va_S.rf
  have hl := lv_entry ([.ref h]) (n := 1) (Nat.le_of_ble_eq_true rfl)
  rw [lg_entry_eq]
  generalize (lg_sl ([.ref h]) ++ List.replicate (1 - (lg_sl ([.ref h])).length) Slot.unset).toArray = ls at hl ⊢
  have hl : lv_has ls 1 [(0, .ref h)] := hl
  refine lv_aload_n hx hb dX7_init_0 rfl (lv_at hl 0 rfl) ?_
  refine W.objInit hx hb hown (ht _ k_38) (ht _ k_1) (ht _ k_2) rfl (by rw [hml]; exact hl.1) rfl dX7_init_1 (Nat.le_of_ble_eq_true rfl) (Nat.le_of_ble_eq_true rfl) ?_
  refine W.eq (g2 := F0 m 4 ls []) rfl ?_
  refine lv_aload_n hx hb dX7_init_4 rfl (lv_at hl 0 rfl) ?_
  refine va_new (ci := 8) (fs := [.null, .null, .int 0]) (C := RX8) (T := TX8) (N := 3) hx hb ht iX8 tyX8 tyX8_ok hown (ht _ k_39) (ht _ k_40) (ht _ k_41) hK hP hD hS hA rfl df8 (Nat.le_of_ble_eq_true rfl) (Nat.le_of_ble_eq_true rfl) dX7_init_5 (fun q_1 H hP hD hS => ?_)
  refine lv_dup hx hb dX7_init_8 rfl ?_
  refine lv_bipush (v := 40) hx hb dX7_init_9 (by decide) ?_
  have hFc := fr_lastF hD hS hA
  have hPc := fr_lastP hP
  refine va_callv (va_runI (As := [.int 40]) (rest := [.ref q_1, .ref h]) ⟨hx, hb, hml, hown, ht⟩ (c_Song40 l G cy _ q_1 ) (cwI 1 ht (gc k_42) rfl rfl rfl (ht _ k_41) (ht _ k_43) (ht _ k_44) rfl (by decide +kernel) ⟨Nat.le_of_ble_eq_true rfl, Nat.le_of_ble_eq_true rfl⟩) ⟨En.blind, fun U hU hW => ⟨rfl, En.of hU hW hPc hK (fr_lastD (ws := [])) hN⟩⟩ rfl rfl hl.1 rfl (lv_room (Nat.le_of_ble_eq_true rfl)) dX7_init_11 ⟨Nat.le_of_ble_eq_true rfl, Nat.le_of_ble_eq_true rfl⟩) hS (fun q _ h => hFc q h) hFc (fun u_2 t H locs ht9 hvm hw hB hz1 hk1 hS => ?_)
  obtain ⟨hP1, hD1⟩ := hB
  rw [ht9] at hP1
  obtain ⟨hP, hD⟩ := fr_last hP hD hFc hk1 hP1 hD1
  clear hFc hPc hP1 hD1 hz1 hk1
  have hP : va_P G vwCl [(h, .inr (7, [.null, .int 0, .int 0, .null, .int 0])), (q_1, .inr (8, [.ref (u_2 0), .ref (u_2 1), .int 0])), ((u_2 0), .inl (cy 0, 40, .inl (fun _ => 0))), ((u_2 1), .inl (cy 0, 40, .inl (fun _ => 0)))] H := hP
  have hD : va_D A [(h, .inr (7, [.null, .int 0, .int 0, .null, .int 0])), (q_1, .inr (8, [.ref (u_2 0), .ref (u_2 1), .int 0])), ((u_2 0), .inl (cy 0, 40, .inl (fun _ => 0))), ((u_2 1), .inl (cy 0, 40, .inl (fun _ => 0)))] := hD
  refine va_putF (ci := 7) (v := .ref q_1) (ty := .object "TuneLocks$Song") (C := RX7) (T := TX7) (N := 5) hx hb ht iX7 tyX7 tyX7_ok nmX7 hown hK hP hD hS 0 rfl rfl 0 (by decide) (ht _ k_45) (fun _ h9 => h9) rfl hin rfl (by decide +kernel) rfl rfl (Nat.le_of_ble_eq_true rfl) dX7_init_14 (fun H locs hP hD hS => ?_)
  have hP : va_P G vwCl [(h, .inr (7, [.ref q_1, .int 0, .int 0, .null, .int 0])), (q_1, .inr (8, [.ref (u_2 0), .ref (u_2 1), .int 0])), ((u_2 0), .inl (cy 0, 40, .inl (fun _ => 0))), ((u_2 1), .inl (cy 0, 40, .inl (fun _ => 0)))] H := hP
  have hD : va_D A [(h, .inr (7, [.ref q_1, .int 0, .int 0, .null, .int 0])), (q_1, .inr (8, [.ref (u_2 0), .ref (u_2 1), .int 0])), ((u_2 0), .inl (cy 0, 40, .inl (fun _ => 0))), ((u_2 1), .inl (cy 0, 40, .inl (fun _ => 0)))] := hD
  refine lv_aload_n hx hb dX7_init_17 rfl (lv_at hl 0 rfl) ?_
  refine lv_bipush (v := 8) hx hb dX7_init_18 (by decide) ?_
  refine ow_newa (N' := 8) (atype := .int) (ty := .int) (a0 := (8, .inl (fun _ => 0))) hx hb (ht _ k_4) rfl hK hP hD hS hA 0 rfl (fun _ => rfl) (by decide) (by decide +kernel) (by decide) (Nat.le_of_ble_eq_true rfl) (Nat.le_of_ble_eq_true rfl) dX7_init_20 (fun q_3 H hP hD hS => ?_)
  refine va_putF (ci := 7) (v := .ref q_3) (ty := .array (.int)) (C := RX7) (T := TX7) (N := 5) hx hb ht iX7 tyX7 tyX7_ok nmX7 hown hK hP hD hS 0 rfl rfl 3 (by decide) (ht _ k_46) (fun _ h9 => h9) rfl hin rfl (by decide +kernel) rfl rfl (Nat.le_of_ble_eq_true rfl) dX7_init_22 (fun H locs hP hD hS => ?_)
  have hP : va_P G vwCl [(h, .inr (7, [.ref q_1, .int 0, .int 0, .ref q_3, .int 0])), (q_1, .inr (8, [.ref (u_2 0), .ref (u_2 1), .int 0])), ((u_2 0), .inl (cy 0, 40, .inl (fun _ => 0))), ((u_2 1), .inl (cy 0, 40, .inl (fun _ => 0))), (q_3, .inl (cy 0, 8, .inl (fun _ => 0)))] H := hP
  have hD : va_D A [(h, .inr (7, [.ref q_1, .int 0, .int 0, .ref q_3, .int 0])), (q_1, .inr (8, [.ref (u_2 0), .ref (u_2 1), .int 0])), ((u_2 0), .inl (cy 0, 40, .inl (fun _ => 0))), ((u_2 1), .inl (cy 0, 40, .inl (fun _ => 0))), (q_3, .inl (cy 0, 8, .inl (fun _ => 0)))] := hD
  refine W.widen (k := 4) (n := 91) (Nat.le_of_ble_eq_true rfl) (Nat.le_of_ble_eq_true rfl) ?_
  have hP9 : va_P G vwCl [(h, .inr (7, [.ref ((lst [q_1, q_3, (u_2 0), (u_2 1)]) 0), .int 0, .int 0, .ref ((lst [q_1, q_3, (u_2 0), (u_2 1)]) 1), .int 0])), (((lst [q_1, q_3, (u_2 0), (u_2 1)]) 0), .inr (8, [.ref ((lst [q_1, q_3, (u_2 0), (u_2 1)]) 2), .ref ((lst [q_1, q_3, (u_2 0), (u_2 1)]) 3), .int 0])), (((lst [q_1, q_3, (u_2 0), (u_2 1)]) 2), .inl (cy 0, 40, .inl (fun _ => 0))), (((lst [q_1, q_3, (u_2 0), (u_2 1)]) 3), .inl (cy 0, 40, .inl (fun _ => 0))), (((lst [q_1, q_3, (u_2 0), (u_2 1)]) 1), .inl (cy 0, 8, .inl (fun _ => 0)))] _ := hP.sub [0, 1, 2, 3, 4] rfl
  have hD9 : va_D A [(h, .inr (7, [.ref ((lst [q_1, q_3, (u_2 0), (u_2 1)]) 0), .int 0, .int 0, .ref ((lst [q_1, q_3, (u_2 0), (u_2 1)]) 1), .int 0])), (((lst [q_1, q_3, (u_2 0), (u_2 1)]) 0), .inr (8, [.ref ((lst [q_1, q_3, (u_2 0), (u_2 1)]) 2), .ref ((lst [q_1, q_3, (u_2 0), (u_2 1)]) 3), .int 0])), (((lst [q_1, q_3, (u_2 0), (u_2 1)]) 2), .inl (cy 0, 40, .inl (fun _ => 0))), (((lst [q_1, q_3, (u_2 0), (u_2 1)]) 3), .inl (cy 0, 40, .inl (fun _ => 0))), (((lst [q_1, q_3, (u_2 0), (u_2 1)]) 1), .inl (cy 0, 8, .inl (fun _ => 0)))] := hD.sub [0, 1, 2, 3, 4] (by decide) rfl
  exact W.vret hx hb hr (fun t ht9 hW => ⟨⟨(lst [q_1, q_3, (u_2 0), (u_2 1)]), rfl, trivial, ⟨by rw [ht9]; exact hP9, hD9⟩⟩, hS.F ht9⟩) hS.2.2 dX7_init_25
set_option maxHeartbeats 4000000 in
set_option maxRecDepth 100000 in
theorem c_hasTune (l : Launch) (G : va_G) (cy : Nat → ClassId) (sz : Nat) (h : Nat) (t : Int32) (v0 : Value) (v1 : Value) (v2 : Value) (v4 : Value) (v5 : Value) (v6 : Value) (v7 : Value) (v8 : Value)  : Met l yX9_hasTune (.code yX9_hasTune cX9_hasTune 2 (some .boolean) :: TBg) ({ frames := 1, cells := 0, slots := 0, locals := 64 }) (va_Pc [.ref h, .int t] (En G cy [(h, .inr (9, [v0, v1, v2, .int 0, v4, v5, v6, v7, v8]))] sz)) (va_Qi (fun (r : Int32) (_ : Unit) => r = 0 ∧ True) (fun _ _ => True) (va_A [] sz)) 0 0 (va_A [] sz) := by
  refine Met.ofW (cc := cX9_hasTune) (maxL := 2) (ret := (some .boolean)) (by decide) rfl ?_
  intro p e s m args below meth c s₁ B hml hv
  obtain ⟨rfl, hsz, hP, hK, hD0, hN⟩ := hv
  have hx := B.exec
  have hb := B.bytes
  have hr := B.returns
  have hts := atoms_spec (ws := .code yX9_hasTune cX9_hasTune 2 (some .boolean) :: TBg) B.pre
  have ht : ∀ w ∈ TBg, w.before _ s = true := fun w h => hts w (List.mem_cons_of_mem _ h)
  have hown : s.vm.findClass RX9 = some m.cls := findClass_of_methodNamed B.named
  have hlocks := B.notSynchronized
  subst hsz
  generalize hAe : va_A [] s.heap.size = A at ⊢
  have hA : ∀ q : Nat, s.heap.size ≤ q → A q := fun q h => by rw [← hAe]; exact Or.inr h
  have hS : va_S A s.heap s.heap [] := va_S.rf
  have hl := lv_entry ([.ref h, .int t]) (n := 2) (Nat.le_of_ble_eq_true rfl)
  rw [lg_entry_eq]
  generalize (lg_sl ([.ref h, .int t]) ++ List.replicate (2 - (lg_sl ([.ref h, .int t])).length) Slot.unset).toArray = ls at hl ⊢
  have hl : lv_has ls 2 [(0, .ref h), (1, .int t)] := hl
  refine lv_iload_n hx hb dX9_hasTune_0 rfl (lv_at hl 1 rfl) ?_
  refine lv_if_lt (tgt := 16) hx hb dX9_hasTune_1 (by decide) (fun c_1 => ?_) (fun c_1 => ?_)
  · skip
    refine lv_iconst (v := 0) hx hb dX9_hasTune_16 (by decide) ?_
    refine W.widen (k := 0) (n := 0) (Nat.le_of_ble_eq_true rfl) (Nat.le_of_ble_eq_true rfl) ?_
    exact W.zret (v := 0) hx hb hr (by first | rfl | decide) (fun t ht9 hW => ⟨⟨0, (), rfl, ⟨rfl, trivial⟩, trivial⟩, hS.F ht9⟩) hS.2.2 dX9_hasTune_17
  · skip
    refine lv_iload_n hx hb dX9_hasTune_4 rfl (lv_at hl 1 rfl) ?_
    refine lv_aload_n hx hb dX9_hasTune_5 rfl (lv_at hl 0 rfl) ?_
    refine va_get (ci := 9) (v := .int 0) (C := RX9) (T := TX9) (N := 9) hx hb ht iX9 hown hK hP 0 rfl rfl 3 (by decide) (ht _ k_47) (fun _ h9 => h9) rfl dX9_hasTune_6 ?_
    refine lv_icmp_ge (tgt := 16) hx hb dX9_hasTune_9 (by decide) (fun c_2 => ?_) (fun c_2 => ?_)
    · skip
      refine lv_iconst (v := 0) hx hb dX9_hasTune_16 (by decide) ?_
      refine W.widen (k := 0) (n := 0) (Nat.le_of_ble_eq_true rfl) (Nat.le_of_ble_eq_true rfl) ?_
      exact W.zret (v := 0) hx hb hr (by first | rfl | decide) (fun t ht9 hW => ⟨⟨0, (), rfl, ⟨rfl, trivial⟩, trivial⟩, hS.F ht9⟩) hS.2.2 dX9_hasTune_17
    · exfalso
      have z0 : (0 : Int32).toInt = 0 := (by decide); (try simp only [ow_lt, ow_le, ow_eq, true_and, and_true] at c_1 c_2); omega
