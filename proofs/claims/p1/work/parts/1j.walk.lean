theorem k_364 : (Cond.code yX12_goOn cX12_goOn 3 none) ∈ TBg := tb_mem 1199 (by decide +kernel) (by decide +kernel)
theorem k_365 : (Cond.methodLink RX12 212 yX12_goOn) ∈ TBg := tb_mem 1196 (by decide +kernel) (by decide +kernel)
theorem k_366 : (Cond.instanceMethod yX12_goOn) ∈ TBg := tb_mem 1198 (by decide +kernel) (by decide +kernel)
theorem k_367 : (Cond.selects RX12 yX12_goOn yX12_goOn) ∈ TBg := tb_mem 32 (by decide +kernel) (by decide +kernel)
theorem k_368 : (Cond.code yX12_isGood cX12_isGood 1 (some .boolean)) ∈ TBg := tb_mem 1234 (by decide +kernel) (by decide +kernel)
theorem k_369 : (Cond.methodLink RX12 208 yX12_isGood) ∈ TBg := tb_mem 1231 (by decide +kernel) (by decide +kernel)
theorem k_370 : (Cond.instanceMethod yX12_isGood) ∈ TBg := tb_mem 1233 (by decide +kernel) (by decide +kernel)
theorem k_371 : (Cond.selects RX12 yX12_isGood yX12_isGood) ∈ TBg := tb_mem 34 (by decide +kernel) (by decide +kernel)
theorem dX12_feed_0 : decode cX12_feed 0 = .ok (.aload_n 0, 1) := by decide +kernel
theorem dX12_feed_1 : decode cX12_feed 1 = .ok (.getfield 224, 3) := by decide +kernel
theorem dX12_feed_4 : decode cX12_feed 4 = .ok (.bipush 20, 2) := by decide +kernel
theorem dX12_feed_6 : decode cX12_feed 6 = .ok (.iadd, 1) := by decide +kernel
theorem dX12_feed_7 : decode cX12_feed 7 = .ok (.sipush 1700, 3) := by decide +kernel
theorem dX12_feed_10 : decode cX12_feed 10 = .ok (.if_icmp .le 5, 3) := by decide +kernel
theorem dX12_feed_15 : decode cX12_feed 15 = .ok (.iconst 0, 1) := by decide +kernel
theorem dX12_feed_16 : decode cX12_feed 16 = .ok (.istore 6, 2) := by decide +kernel
theorem dX12_feed_18 : decode cX12_feed 18 = .ok (.iload 6, 2) := by decide +kernel
theorem dX12_feed_20 : decode cX12_feed 20 = .ok (.bipush 20, 2) := by decide +kernel
theorem dX12_feed_22 : decode cX12_feed 22 = .ok (.if_icmp .ge 83, 3) := by decide +kernel
theorem dX12_feed_25 : decode cX12_feed 25 = .ok (.iload 6, 2) := by decide +kernel
theorem dX12_feed_27 : decode cX12_feed 27 = .ok (.iconst 4, 1) := by decide +kernel
theorem dX12_feed_28 : decode cX12_feed 28 = .ok (.if_icmp .ge 7, 3) := by decide +kernel
theorem dX12_feed_31 : decode cX12_feed 31 = .ok (.iload_n 1, 1) := by decide +kernel
theorem dX12_feed_32 : decode cX12_feed 32 = .ok (.goto 39, 3) := by decide +kernel
theorem dX12_feed_71 : decode cX12_feed 71 = .ok (.istore 7, 2) := by decide +kernel
theorem dX12_feed_73 : decode cX12_feed 73 = .ok (.aload_n 0, 1) := by decide +kernel
theorem dX12_feed_74 : decode cX12_feed 74 = .ok (.getfield 7, 3) := by decide +kernel
theorem dX12_feed_77 : decode cX12_feed 77 = .ok (.aload_n 0, 1) := by decide +kernel
theorem dX12_feed_78 : decode cX12_feed 78 = .ok (.getfield 224, 3) := by decide +kernel
theorem dX12_feed_81 : decode cX12_feed 81 = .ok (.iload 6, 2) := by decide +kernel
theorem dX12_feed_83 : decode cX12_feed 83 = .ok (.iadd, 1) := by decide +kernel
theorem dX12_feed_84 : decode cX12_feed 84 = .ok (.iload 7, 2) := by decide +kernel
theorem dX12_feed_86 : decode cX12_feed 86 = .ok (.bipush 24, 2) := by decide +kernel
theorem dX12_feed_88 : decode cX12_feed 88 = .ok (.bipush 8, 2) := by decide +kernel
theorem dX12_feed_90 : decode cX12_feed 90 = .ok (.iload 6, 2) := by decide +kernel
theorem dX12_feed_92 : decode cX12_feed 92 = .ok (.iconst 3, 1) := by decide +kernel
theorem dX12_feed_93 : decode cX12_feed 93 = .ok (.iand, 1) := by decide +kernel
theorem dX12_feed_94 : decode cX12_feed 94 = .ok (.imul, 1) := by decide +kernel
theorem dX12_feed_95 : decode cX12_feed 95 = .ok (.isub, 1) := by decide +kernel
theorem dX12_feed_96 : decode cX12_feed 96 = .ok (.ishr, 1) := by decide +kernel
theorem dX12_feed_97 : decode cX12_feed 97 = .ok (.i2b, 1) := by decide +kernel
theorem dX12_feed_98 : decode cX12_feed 98 = .ok (.bastore, 1) := by decide +kernel
theorem dX12_feed_99 : decode cX12_feed 99 = .ok (.iinc 6 1, 3) := by decide +kernel
theorem dX12_feed_102 : decode cX12_feed 102 = .ok (.goto (-84), 3) := by decide +kernel
theorem dX12_feed_35 : decode cX12_feed 35 = .ok (.iload 6, 2) := by decide +kernel
theorem dX12_feed_37 : decode cX12_feed 37 = .ok (.bipush 8, 2) := by decide +kernel
theorem dX12_feed_39 : decode cX12_feed 39 = .ok (.if_icmp .ge 7, 3) := by decide +kernel
theorem dX12_feed_42 : decode cX12_feed 42 = .ok (.iload_n 2, 1) := by decide +kernel
theorem dX12_feed_43 : decode cX12_feed 43 = .ok (.goto 28, 3) := by decide +kernel
theorem dX12_feed_46 : decode cX12_feed 46 = .ok (.iload 6, 2) := by decide +kernel
theorem dX12_feed_48 : decode cX12_feed 48 = .ok (.bipush 12, 2) := by decide +kernel
theorem dX12_feed_50 : decode cX12_feed 50 = .ok (.if_icmp .ge 7, 3) := by decide +kernel
theorem dX12_feed_53 : decode cX12_feed 53 = .ok (.iload_n 3, 1) := by decide +kernel
theorem dX12_feed_54 : decode cX12_feed 54 = .ok (.goto 17, 3) := by decide +kernel
theorem dX12_feed_57 : decode cX12_feed 57 = .ok (.iload 6, 2) := by decide +kernel
theorem dX12_feed_59 : decode cX12_feed 59 = .ok (.bipush 16, 2) := by decide +kernel
theorem dX12_feed_61 : decode cX12_feed 61 = .ok (.if_icmp .ge 8, 3) := by decide +kernel
theorem dX12_feed_64 : decode cX12_feed 64 = .ok (.iload 4, 2) := by decide +kernel
theorem dX12_feed_66 : decode cX12_feed 66 = .ok (.goto 5, 3) := by decide +kernel
theorem dX12_feed_69 : decode cX12_feed 69 = .ok (.iload 5, 2) := by decide +kernel
theorem dX12_feed_105 : decode cX12_feed 105 = .ok (.aload_n 0, 1) := by decide +kernel
theorem dX12_feed_106 : decode cX12_feed 106 = .ok (.dup, 1) := by decide +kernel
theorem dX12_feed_107 : decode cX12_feed 107 = .ok (.getfield 224, 3) := by decide +kernel
theorem dX12_feed_110 : decode cX12_feed 110 = .ok (.bipush 20, 2) := by decide +kernel
theorem dX12_feed_112 : decode cX12_feed 112 = .ok (.iadd, 1) := by decide +kernel
theorem dX12_feed_113 : decode cX12_feed 113 = .ok (.putfield 224, 3) := by decide +kernel
theorem dX12_feed_116 : decode cX12_feed 116 = .ok (.aload_n 0, 1) := by decide +kernel
theorem dX12_feed_117 : decode cX12_feed 117 = .ok (.getfield 224, 3) := by decide +kernel
theorem dX12_feed_120 : decode cX12_feed 120 = .ok (.ireturn, 1) := by decide +kernel
theorem dX12_town_0 : decode cX12_town 0 = .ok (.aload_n 0, 1) := by decide +kernel
theorem dX12_town_1 : decode cX12_town 1 = .ok (.iconst 0, 1) := by decide +kernel
theorem dX12_town_2 : decode cX12_town 2 = .ok (.putfield 137, 3) := by decide +kernel
theorem dX12_town_5 : decode cX12_town 5 = .ok (.aload_n 0, 1) := by decide +kernel
theorem dX12_town_6 : decode cX12_town 6 = .ok (.iconst (-1), 1) := by decide +kernel
theorem dX12_town_7 : decode cX12_town 7 = .ok (.putfield 16, 3) := by decide +kernel
theorem dX12_town_10 : decode cX12_town 10 = .ok (.aload_n 0, 1) := by decide +kernel
theorem dX12_town_11 : decode cX12_town 11 = .ok (.aload_n 0, 1) := by decide +kernel
theorem dX12_town_12 : decode cX12_town 12 = .ok (.getfield 224, 3) := by decide +kernel
theorem dX12_town_15 : decode cX12_town 15 = .ok (.putfield 134, 3) := by decide +kernel
theorem dX12_town_18 : decode cX12_town 18 = .ok (.iconst 0, 1) := by decide +kernel
theorem dX12_town_19 : decode cX12_town 19 = .ok (.istore_n 1, 1) := by decide +kernel
theorem dX12_town_20 : decode cX12_town 20 = .ok (.iload_n 1, 1) := by decide +kernel
theorem dX12_town_21 : decode cX12_town 21 = .ok (.aload_n 0, 1) := by decide +kernel
theorem dX12_town_22 : decode cX12_town 22 = .ok (.getfield 134, 3) := by decide +kernel
theorem dX12_town_25 : decode cX12_town 25 = .ok (.if_icmp .ge 21, 3) := by decide +kernel
theorem dX12_town_46 : decode cX12_town 46 = .ok (.aload_n 0, 1) := by decide +kernel
theorem dX12_town_47 : decode cX12_town 47 = .ok (.iconst 0, 1) := by decide +kernel
theorem dX12_town_48 : decode cX12_town 48 = .ok (.putfield 224, 3) := by decide +kernel
theorem dX12_town_51 : decode cX12_town 51 = .ok (.aload_n 0, 1) := by decide +kernel
theorem dX12_town_52 : decode cX12_town 52 = .ok (.iconst 0, 1) := by decide +kernel
theorem dX12_town_53 : decode cX12_town 53 = .ok (.putfield 170, 3) := by decide +kernel
theorem dX12_town_56 : decode cX12_town 56 = .ok (.aload_n 0, 1) := by decide +kernel
theorem dX12_town_57 : decode cX12_town 57 = .ok (.iconst 1, 1) := by decide +kernel
theorem dX12_town_58 : decode cX12_town 58 = .ok (.aload_n 0, 1) := by decide +kernel
theorem dX12_town_59 : decode cX12_town 59 = .ok (.getfield 227, 3) := by decide +kernel
theorem dX12_town_62 : decode cX12_town 62 = .ok (.isub, 1) := by decide +kernel
theorem dX12_town_63 : decode cX12_town 63 = .ok (.putfield 218, 3) := by decide +kernel
theorem dX12_town_66 : decode cX12_town 66 = .ok (.aload_n 0, 1) := by decide +kernel
theorem dX12_town_67 : decode cX12_town 67 = .ok (.invokevirtual 131, 3) := by decide +kernel
theorem dX12_town_70 : decode cX12_town 70 = .ok (.aload_n 0, 1) := by decide +kernel
theorem dX12_town_71 : decode cX12_town 71 = .ok (.invokevirtual 212, 3) := by decide +kernel
theorem dX12_town_74 : decode cX12_town 74 = .ok (.aload_n 0, 1) := by decide +kernel
theorem dX12_town_75 : decode cX12_town 75 = .ok (.invokevirtual 208, 3) := by decide +kernel
theorem dX12_town_78 : decode cX12_town 78 = .ok (.ifCond .eq 17, 3) := by decide +kernel
theorem dX12_town_81 : decode cX12_town 81 = .ok (.aload_n 0, 1) := by decide +kernel
theorem dX12_town_82 : decode cX12_town 82 = .ok (.getfield 180, 3) := by decide +kernel
theorem dX12_town_85 : decode cX12_town 85 = .ok (.ifCond .eq 10, 3) := by decide +kernel
theorem dX12_town_95 : decode cX12_town 95 = .ok (.aload_n 0, 1) := by decide +kernel
theorem dX12_town_96 : decode cX12_town 96 = .ok (.invokevirtual 208, 3) := by decide +kernel
theorem dX12_town_99 : decode cX12_town 99 = .ok (.ifCond .ne 5, 3) := by decide +kernel
theorem dX12_town_104 : decode cX12_town 104 = .ok (.aload_n 0, 1) := by decide +kernel
theorem dX12_town_105 : decode cX12_town 105 = .ok (.aload_n 0, 1) := by decide +kernel
theorem dX12_town_106 : decode cX12_town 106 = .ok (.getfield 218, 3) := by decide +kernel
theorem dX12_town_109 : decode cX12_town 109 = .ok (.putfield 227, 3) := by decide +kernel
theorem dX12_town_112 : decode cX12_town 112 = .ok (.aload_n 0, 1) := by decide +kernel
theorem dX12_town_113 : decode cX12_town 113 = .ok (.iconst 0, 1) := by decide +kernel
theorem dX12_town_114 : decode cX12_town 114 = .ok (.putfield 233, 3) := by decide +kernel
theorem dX12_town_117 : decode cX12_town 117 = .ok (.aload_n 0, 1) := by decide +kernel
theorem dX12_town_118 : decode cX12_town 118 = .ok (.iconst 0, 1) := by decide +kernel
theorem dX12_town_119 : decode cX12_town 119 = .ok (.putfield 236, 3) := by decide +kernel
theorem dX12_town_122 : decode cX12_town 122 = .ok (.aload_n 0, 1) := by decide +kernel
theorem dX12_town_123 : decode cX12_town 123 = .ok (.iconst 0, 1) := by decide +kernel
theorem dX12_town_124 : decode cX12_town 124 = .ok (.putfield 239, 3) := by decide +kernel
theorem dX12_town_127 : decode cX12_town 127 = .ok (.iconst 0, 1) := by decide +kernel
theorem dX12_town_128 : decode cX12_town 128 = .ok (.istore_n 1, 1) := by decide +kernel
theorem dX12_town_129 : decode cX12_town 129 = .ok (.iload_n 1, 1) := by decide +kernel
theorem dX12_town_130 : decode cX12_town 130 = .ok (.bipush 8, 2) := by decide +kernel
theorem dX12_town_132 : decode cX12_town 132 = .ok (.if_icmp .ge 23, 3) := by decide +kernel
theorem dX12_town_135 : decode cX12_town 135 = .ok (.aload_n 0, 1) := by decide +kernel
theorem dX12_town_136 : decode cX12_town 136 = .ok (.getfield 77, 3) := by decide +kernel
theorem dX12_town_139 : decode cX12_town 139 = .ok (.iload_n 1, 1) := by decide +kernel
theorem dX12_town_140 : decode cX12_town 140 = .ok (.iconst 0, 1) := by decide +kernel
theorem dX12_town_141 : decode cX12_town 141 = .ok (.bastore, 1) := by decide +kernel
theorem dX12_town_142 : decode cX12_town 142 = .ok (.aload_n 0, 1) := by decide +kernel
theorem dX12_town_143 : decode cX12_town 143 = .ok (.getfield 80, 3) := by decide +kernel
theorem dX12_town_146 : decode cX12_town 146 = .ok (.iload_n 1, 1) := by decide +kernel
theorem dX12_town_147 : decode cX12_town 147 = .ok (.iconst 0, 1) := by decide +kernel
theorem dX12_town_148 : decode cX12_town 148 = .ok (.iastore, 1) := by decide +kernel
theorem dX12_town_149 : decode cX12_town 149 = .ok (.iinc 1 1, 3) := by decide +kernel
theorem dX12_town_152 : decode cX12_town 152 = .ok (.goto (-23), 3) := by decide +kernel
theorem dX12_town_155 : decode cX12_town 155 = .ok (.iconst 0, 1) := by decide +kernel
theorem dX12_town_156 : decode cX12_town 156 = .ok (.istore_n 1, 1) := by decide +kernel
theorem dX12_town_157 : decode cX12_town 157 = .ok (.iload_n 1, 1) := by decide +kernel
theorem dX12_town_158 : decode cX12_town 158 = .ok (.iconst 3, 1) := by decide +kernel
theorem dX12_town_159 : decode cX12_town 159 = .ok (.if_icmp .ge 16, 3) := by decide +kernel
theorem dX12_town_162 : decode cX12_town 162 = .ok (.aload_n 0, 1) := by decide +kernel
theorem dX12_town_163 : decode cX12_town 163 = .ok (.getfield 113, 3) := by decide +kernel
theorem dX12_town_166 : decode cX12_town 166 = .ok (.iload_n 1, 1) := by decide +kernel
theorem dX12_town_167 : decode cX12_town 167 = .ok (.iconst (-1), 1) := by decide +kernel
theorem dX12_town_168 : decode cX12_town 168 = .ok (.iastore, 1) := by decide +kernel
theorem dX12_town_169 : decode cX12_town 169 = .ok (.iinc 1 1, 3) := by decide +kernel
theorem dX12_town_172 : decode cX12_town 172 = .ok (.goto (-15), 3) := by decide +kernel
theorem dX12_town_175 : decode cX12_town 175 = .ok (.aload_n 0, 1) := by decide +kernel
theorem dX12_town_176 : decode cX12_town 176 = .ok (.getfield 24, 3) := by decide +kernel
theorem dX12_town_179 : decode cX12_town 179 = .ok (.aload_n 0, 1) := by decide +kernel
theorem dX12_town_180 : decode cX12_town 180 = .ok (.getfield 227, 3) := by decide +kernel
theorem dX12_town_183 : decode cX12_town 183 = .ok (.iaload, 1) := by decide +kernel
theorem dX12_town_184 : decode cX12_town 184 = .ok (.ireturn, 1) := by decide +kernel
set_option maxHeartbeats 4000000 in
set_option maxRecDepth 100000 in
theorem m_feed (l : Launch) (G : va_G) (cy : Nat → ClassId) (sz : Nat) (mo : Nat) (h : Nat → Nat) (f : Nat → Nat → Int32) (a1 : Int32) (a2 : Int32) (a3 : Int32) (a4 : Int32) (a5 : Int32)  : Met l yX12_feed (.code yX12_feed cX12_feed 8 (some .int) :: TBg) ({ frames := 1, cells := 0, slots := 0, locals := 64 }) (va_Pc [.ref mo, .int a1, .int a2, .int a3, .int a4, .int a5] (En G cy (WM cy mo h f) sz)) (va_Qi (fun (r : Int32) (_ : Unit) => r = 20 ∧ True) (fun _ _ => True) (va_A (WM cy mo h f) sz)) 0 0 (va_A (WM cy mo h f) sz) := by
  refine Met.ofW (cc := cX12_feed) (maxL := 8) (ret := (some .int)) (by decide) rfl ?_
  intro p e s m args below meth c s₁ B hml hv
  obtain ⟨rfl, hsz, hP, hK, hD0, hN⟩ := hv
  have hx := B.exec
  have hb := B.bytes
  have hr := B.returns
  have hts := atoms_spec (ws := .code yX12_feed cX12_feed 8 (some .int) :: TBg) B.pre
  have ht : ∀ w ∈ TBg, w.before _ s = true := fun w h => hts w (List.mem_cons_of_mem _ h)
  have hown : s.vm.findClass RX12 = some m.cls := findClass_of_methodNamed B.named
  have hlocks := B.notSynchronized
  subst hsz
  have hD := hD0.self (sz := s.heap.size)
  generalize hAe : va_A (WM cy mo h f) s.heap.size = A at hD ⊢
  have hA : ∀ q : Nat, s.heap.size ≤ q → A q := fun q h => by rw [← hAe]; exact Or.inr h
  have hS : va_S A s.heap s.heap [] := va_S.rf
  have hl := lv_entry ([.ref mo, .int a1, .int a2, .int a3, .int a4, .int a5]) (n := 8) (Nat.le_of_ble_eq_true rfl)
  rw [lg_entry_eq]
  generalize (lg_sl ([.ref mo, .int a1, .int a2, .int a3, .int a4, .int a5]) ++ List.replicate (8 - (lg_sl ([.ref mo, .int a1, .int a2, .int a3, .int a4, .int a5])).length) Slot.unset).toArray = ls at hl ⊢
  have hl : lv_has ls 8 [(0, .ref mo), (1, .int a1), (2, .int a2), (3, .int a3), (4, .int a4), (5, .int a5)] := hl
  refine lv_aload_n hx hb dX12_feed_0 rfl (lv_at hl 0 rfl) ?_
  refine va_get (ci := 12) (v := .int 0) (C := RX12) (T := TX12) (N := 58) hx hb ht iX12 hown hK hP 0 rfl rfl 2 (by decide) (ht _ k_334) (fun _ h9 => h9) rfl dX12_feed_1 ?_
  refine lv_bipush (v := 20) hx hb dX12_feed_4 (by decide) ?_
  refine lv_iadd hx hb dX12_feed_6 ?_
  refine ow_top 20 (by decide +kernel) ?_
  refine lv_sipush (v := 1700) hx hb dX12_feed_7 (by decide) ?_
  refine lv_icmp_le (tgt := 15) hx hb dX12_feed_10 (by decide) (fun _ => ?_) (fun c9 => absurd (by decide) c9)
  refine lv_iconst (v := 0) hx hb dX12_feed_15 (by decide) ?_
  refine lv_istore (lv' := [(6, .int 0), (0, .ref mo), (1, .int a1), (2, .int a2), (3, .int a3), (4, .int a4), (5, .int a5)]) hx hb dX12_feed_16 hl (by decide) rfl ?_
  clear hl
  try clear ls
  intro ls hl
  refine lv_iload hx hb dX12_feed_18 (lv_at hl 0 rfl) ?_
  refine lv_bipush (v := 20) hx hb dX12_feed_20 (by decide) ?_
  refine lv_icmp_ge (tgt := 105) hx hb dX12_feed_22 (by decide) (fun c9 => absurd c9 (by decide)) (fun _ => ?_)
  refine lv_iload hx hb dX12_feed_25 (lv_at hl 0 rfl) ?_
  refine lv_iconst (v := 4) hx hb dX12_feed_27 (by decide) ?_
  refine lv_icmp_ge (tgt := 35) hx hb dX12_feed_28 (by decide) (fun c9 => absurd c9 (by decide)) (fun _ => ?_)
  refine lv_iload_n hx hb dX12_feed_31 rfl (lv_at hl 2 rfl) ?_
  refine lv_goto (tgt := 71) hx hb dX12_feed_32 (by decide) ?_
  refine lv_istore (lv' := [(7, .int a1), (6, .int 0), (0, .ref mo), (1, .int a1), (2, .int a2), (3, .int a3), (4, .int a4), (5, .int a5)]) hx hb dX12_feed_71 hl (by decide) rfl ?_
  clear hl
  try clear ls
  intro ls hl
  refine lv_aload_n hx hb dX12_feed_73 rfl (lv_at hl 2 rfl) ?_
  refine va_get (ci := 12) (v := .ref (h 0)) (C := RX12) (T := TX12) (N := 58) hx hb ht iX12 hown hK hP 0 rfl rfl 0 (by decide) (ht _ k_276) (fun _ h9 => h9) rfl dX12_feed_74 ?_
  refine lv_aload_n hx hb dX12_feed_77 rfl (lv_at hl 2 rfl) ?_
  refine va_get (ci := 12) (v := .int 0) (C := RX12) (T := TX12) (N := 58) hx hb ht iX12 hown hK hP 0 rfl rfl 2 (by decide) (ht _ k_334) (fun _ h9 => h9) rfl dX12_feed_78 ?_
  refine lv_iload hx hb dX12_feed_81 (lv_at hl 1 rfl) ?_
  refine lv_iadd hx hb dX12_feed_83 ?_
  refine ow_top 0 (by decide +kernel) ?_
  refine lv_iload hx hb dX12_feed_84 (lv_at hl 0 rfl) ?_
  refine lv_bipush (v := 24) hx hb dX12_feed_86 (by decide) ?_
  refine lv_bipush (v := 8) hx hb dX12_feed_88 (by decide) ?_
  refine lv_iload hx hb dX12_feed_90 (lv_at hl 1 rfl) ?_
  refine lv_iconst (v := 3) hx hb dX12_feed_92 (by decide) ?_
  refine lv_iand hx hb dX12_feed_93 ?_
  refine ow_top 0 (by decide +kernel) ?_
  refine lv_imul hx hb dX12_feed_94 ?_
  refine ow_top 0 (by decide +kernel) ?_
  refine lv_isub hx hb dX12_feed_95 ?_
  refine ow_top 24 (by decide +kernel) ?_
  refine lv_ishr hx hb dX12_feed_96 ?_
  refine lv_topi (fun v_1 ev_1 => ?_)
  refine lv_i2b hx hb dX12_feed_97 rfl ?_
  refine lv_topi (fun v_2 ev_2 => ?_)
  refine ow_bast hx hb hK hP hD hS 1 rfl (in_lit (by decide +kernel)) dX12_feed_98 ?_
  clear hP hD hS
  try clear H locs
  intro f_3 H locs hP hD hS
  replace hP : va_P G vwCl [(mo, .inr (12, [.ref (h 0), .ref (h 1), .int 0, .int 0, .int 0, .int (-1), .int 0, .int 0, .int 0, .int 0, .long 0, .ref (h 2), .ref (h 3), .ref (h 4), .ref (h 5), .ref (h 6), .ref (h 7), .ref (h 8), .ref (h 9), .ref (h 10), .ref (h 11), .ref (h 12), .ref (h 13), .ref (h 14), .ref (h 15), .ref (h 16), .ref (h 17), .ref (h 18), .ref (h 19), .int 0, .int 0, .int 0, .int 0, .int 0, .int 0, .ref (h 20), .ref (h 21), .int 0, .ref (h 22), .ref (h 23), .ref (h 24), .ref (h 25), .ref (h 26), .int 0, .int 0, .ref (h 27), .ref (h 28), .ref (h 29), .ref (h 30), .ref (h 31), .int 0, .int 0, .ref (h 32), .ref (h 33), .ref (h 34), .ref (h 35), .ref (h 36), .ref (h 37)])), ((h 0), .inl (cy 1, 1720, .inl f_3)), ((h 2), .inl (cy 0, 2, .inl (fun _ => 0))), ((h 3), .inl (cy 0, 2, .inl (fun _ => 0))), ((h 4), .inl (cy 0, 2, .inl (fun _ => 0))), ((h 5), .inl (cy 0, 2, .inl (f 0))), ((h 12), .inl (cy 2, 2, .inl (f 1))), ((h 7), .inl (cy 0, 1200, .inl (fun _ => 0))), ((h 8), .inl (cy 0, 1200, .inl (fun _ => 0))), ((h 20), .inl (cy 2, 8, .inl (fun _ => 0))), ((h 21), .inl (cy 0, 8, .inl (fun _ => 0))), ((h 32), .inl (cy 0, 3, .inl (f 2))), ((h 33), .inl (cy 0, 120, .inl (fun _ => 0))), ((h 34), .inl (cy 0, 120, .inl (fun _ => 0))), ((h 35), .inl (cy 0, 24, .inl (fun _ => 0))), ((h 36), .inl (cy 2, 24, .inl (fun _ => 0))), ((h 37), .inl (cy 2, 3, .inl (fun _ => 0)))] H := hP
  replace hD : va_D A [(mo, .inr (12, [.ref (h 0), .ref (h 1), .int 0, .int 0, .int 0, .int (-1), .int 0, .int 0, .int 0, .int 0, .long 0, .ref (h 2), .ref (h 3), .ref (h 4), .ref (h 5), .ref (h 6), .ref (h 7), .ref (h 8), .ref (h 9), .ref (h 10), .ref (h 11), .ref (h 12), .ref (h 13), .ref (h 14), .ref (h 15), .ref (h 16), .ref (h 17), .ref (h 18), .ref (h 19), .int 0, .int 0, .int 0, .int 0, .int 0, .int 0, .ref (h 20), .ref (h 21), .int 0, .ref (h 22), .ref (h 23), .ref (h 24), .ref (h 25), .ref (h 26), .int 0, .int 0, .ref (h 27), .ref (h 28), .ref (h 29), .ref (h 30), .ref (h 31), .int 0, .int 0, .ref (h 32), .ref (h 33), .ref (h 34), .ref (h 35), .ref (h 36), .ref (h 37)])), ((h 0), .inl (cy 1, 1720, .inl f_3)), ((h 2), .inl (cy 0, 2, .inl (fun _ => 0))), ((h 3), .inl (cy 0, 2, .inl (fun _ => 0))), ((h 4), .inl (cy 0, 2, .inl (fun _ => 0))), ((h 5), .inl (cy 0, 2, .inl (f 0))), ((h 12), .inl (cy 2, 2, .inl (f 1))), ((h 7), .inl (cy 0, 1200, .inl (fun _ => 0))), ((h 8), .inl (cy 0, 1200, .inl (fun _ => 0))), ((h 20), .inl (cy 2, 8, .inl (fun _ => 0))), ((h 21), .inl (cy 0, 8, .inl (fun _ => 0))), ((h 32), .inl (cy 0, 3, .inl (f 2))), ((h 33), .inl (cy 0, 120, .inl (fun _ => 0))), ((h 34), .inl (cy 0, 120, .inl (fun _ => 0))), ((h 35), .inl (cy 0, 24, .inl (fun _ => 0))), ((h 36), .inl (cy 2, 24, .inl (fun _ => 0))), ((h 37), .inl (cy 2, 3, .inl (fun _ => 0)))] := hD
  refine lv_iinc (v := 1) (lv' := [(6, .int 1), (7, .int a1), (0, .ref mo), (1, .int a1), (2, .int a2), (3, .int a3), (4, .int a4), (5, .int a5)]) hx hb dX12_feed_99 hl (k := 1) rfl (by decide) (by decide) rfl ?_
  clear hl
  try clear ls
  intro ls hl
  refine lv_goto (tgt := 18) hx hb dX12_feed_102 (by decide) ?_
  refine lv_iload hx hb dX12_feed_18 (lv_at hl 0 rfl) ?_
  refine lv_bipush (v := 20) hx hb dX12_feed_20 (by decide) ?_
  refine lv_icmp_ge (tgt := 105) hx hb dX12_feed_22 (by decide) (fun c9 => absurd c9 (by decide)) (fun _ => ?_)
  refine lv_iload hx hb dX12_feed_25 (lv_at hl 0 rfl) ?_
  refine lv_iconst (v := 4) hx hb dX12_feed_27 (by decide) ?_
  refine lv_icmp_ge (tgt := 35) hx hb dX12_feed_28 (by decide) (fun c9 => absurd c9 (by decide)) (fun _ => ?_)
  refine lv_iload_n hx hb dX12_feed_31 rfl (lv_at hl 3 rfl) ?_
  refine lv_goto (tgt := 71) hx hb dX12_feed_32 (by decide) ?_
  refine lv_istore (lv' := [(7, .int a1), (6, .int 1), (0, .ref mo), (1, .int a1), (2, .int a2), (3, .int a3), (4, .int a4), (5, .int a5)]) hx hb dX12_feed_71 hl (by decide) rfl ?_
  clear hl
  try clear ls
  intro ls hl
  refine lv_aload_n hx hb dX12_feed_73 rfl (lv_at hl 2 rfl) ?_
  refine va_get (ci := 12) (v := .ref (h 0)) (C := RX12) (T := TX12) (N := 58) hx hb ht iX12 hown hK hP 0 rfl rfl 0 (by decide) (ht _ k_276) (fun _ h9 => h9) rfl dX12_feed_74 ?_
  refine lv_aload_n hx hb dX12_feed_77 rfl (lv_at hl 2 rfl) ?_
  refine va_get (ci := 12) (v := .int 0) (C := RX12) (T := TX12) (N := 58) hx hb ht iX12 hown hK hP 0 rfl rfl 2 (by decide) (ht _ k_334) (fun _ h9 => h9) rfl dX12_feed_78 ?_
  refine lv_iload hx hb dX12_feed_81 (lv_at hl 1 rfl) ?_
  refine lv_iadd hx hb dX12_feed_83 ?_
  refine ow_top 1 (by decide +kernel) ?_
  refine lv_iload hx hb dX12_feed_84 (lv_at hl 0 rfl) ?_
  refine lv_bipush (v := 24) hx hb dX12_feed_86 (by decide) ?_
  refine lv_bipush (v := 8) hx hb dX12_feed_88 (by decide) ?_
  refine lv_iload hx hb dX12_feed_90 (lv_at hl 1 rfl) ?_
  refine lv_iconst (v := 3) hx hb dX12_feed_92 (by decide) ?_
  refine lv_iand hx hb dX12_feed_93 ?_
  refine ow_top 1 (by decide +kernel) ?_
  refine lv_imul hx hb dX12_feed_94 ?_
  refine ow_top 8 (by decide +kernel) ?_
  refine lv_isub hx hb dX12_feed_95 ?_
  refine ow_top 16 (by decide +kernel) ?_
  refine lv_ishr hx hb dX12_feed_96 ?_
  refine lv_topi (fun v_4 ev_4 => ?_)
  refine lv_i2b hx hb dX12_feed_97 rfl ?_
  refine lv_topi (fun v_5 ev_5 => ?_)
  refine ow_bast hx hb hK hP hD hS 1 rfl (in_lit (by decide +kernel)) dX12_feed_98 ?_
  clear hP hD hS
  try clear H locs
  intro f_6 H locs hP hD hS
  replace hP : va_P G vwCl [(mo, .inr (12, [.ref (h 0), .ref (h 1), .int 0, .int 0, .int 0, .int (-1), .int 0, .int 0, .int 0, .int 0, .long 0, .ref (h 2), .ref (h 3), .ref (h 4), .ref (h 5), .ref (h 6), .ref (h 7), .ref (h 8), .ref (h 9), .ref (h 10), .ref (h 11), .ref (h 12), .ref (h 13), .ref (h 14), .ref (h 15), .ref (h 16), .ref (h 17), .ref (h 18), .ref (h 19), .int 0, .int 0, .int 0, .int 0, .int 0, .int 0, .ref (h 20), .ref (h 21), .int 0, .ref (h 22), .ref (h 23), .ref (h 24), .ref (h 25), .ref (h 26), .int 0, .int 0, .ref (h 27), .ref (h 28), .ref (h 29), .ref (h 30), .ref (h 31), .int 0, .int 0, .ref (h 32), .ref (h 33), .ref (h 34), .ref (h 35), .ref (h 36), .ref (h 37)])), ((h 0), .inl (cy 1, 1720, .inl f_6)), ((h 2), .inl (cy 0, 2, .inl (fun _ => 0))), ((h 3), .inl (cy 0, 2, .inl (fun _ => 0))), ((h 4), .inl (cy 0, 2, .inl (fun _ => 0))), ((h 5), .inl (cy 0, 2, .inl (f 0))), ((h 12), .inl (cy 2, 2, .inl (f 1))), ((h 7), .inl (cy 0, 1200, .inl (fun _ => 0))), ((h 8), .inl (cy 0, 1200, .inl (fun _ => 0))), ((h 20), .inl (cy 2, 8, .inl (fun _ => 0))), ((h 21), .inl (cy 0, 8, .inl (fun _ => 0))), ((h 32), .inl (cy 0, 3, .inl (f 2))), ((h 33), .inl (cy 0, 120, .inl (fun _ => 0))), ((h 34), .inl (cy 0, 120, .inl (fun _ => 0))), ((h 35), .inl (cy 0, 24, .inl (fun _ => 0))), ((h 36), .inl (cy 2, 24, .inl (fun _ => 0))), ((h 37), .inl (cy 2, 3, .inl (fun _ => 0)))] H := hP
  replace hD : va_D A [(mo, .inr (12, [.ref (h 0), .ref (h 1), .int 0, .int 0, .int 0, .int (-1), .int 0, .int 0, .int 0, .int 0, .long 0, .ref (h 2), .ref (h 3), .ref (h 4), .ref (h 5), .ref (h 6), .ref (h 7), .ref (h 8), .ref (h 9), .ref (h 10), .ref (h 11), .ref (h 12), .ref (h 13), .ref (h 14), .ref (h 15), .ref (h 16), .ref (h 17), .ref (h 18), .ref (h 19), .int 0, .int 0, .int 0, .int 0, .int 0, .int 0, .ref (h 20), .ref (h 21), .int 0, .ref (h 22), .ref (h 23), .ref (h 24), .ref (h 25), .ref (h 26), .int 0, .int 0, .ref (h 27), .ref (h 28), .ref (h 29), .ref (h 30), .ref (h 31), .int 0, .int 0, .ref (h 32), .ref (h 33), .ref (h 34), .ref (h 35), .ref (h 36), .ref (h 37)])), ((h 0), .inl (cy 1, 1720, .inl f_6)), ((h 2), .inl (cy 0, 2, .inl (fun _ => 0))), ((h 3), .inl (cy 0, 2, .inl (fun _ => 0))), ((h 4), .inl (cy 0, 2, .inl (fun _ => 0))), ((h 5), .inl (cy 0, 2, .inl (f 0))), ((h 12), .inl (cy 2, 2, .inl (f 1))), ((h 7), .inl (cy 0, 1200, .inl (fun _ => 0))), ((h 8), .inl (cy 0, 1200, .inl (fun _ => 0))), ((h 20), .inl (cy 2, 8, .inl (fun _ => 0))), ((h 21), .inl (cy 0, 8, .inl (fun _ => 0))), ((h 32), .inl (cy 0, 3, .inl (f 2))), ((h 33), .inl (cy 0, 120, .inl (fun _ => 0))), ((h 34), .inl (cy 0, 120, .inl (fun _ => 0))), ((h 35), .inl (cy 0, 24, .inl (fun _ => 0))), ((h 36), .inl (cy 2, 24, .inl (fun _ => 0))), ((h 37), .inl (cy 2, 3, .inl (fun _ => 0)))] := hD
  refine lv_iinc (v := 2) (lv' := [(6, .int 2), (7, .int a1), (0, .ref mo), (1, .int a1), (2, .int a2), (3, .int a3), (4, .int a4), (5, .int a5)]) hx hb dX12_feed_99 hl (k := 1) rfl (by decide) (by decide) rfl ?_
  clear hl
  try clear ls
  intro ls hl
  refine lv_goto (tgt := 18) hx hb dX12_feed_102 (by decide) ?_
  refine lv_iload hx hb dX12_feed_18 (lv_at hl 0 rfl) ?_
  refine lv_bipush (v := 20) hx hb dX12_feed_20 (by decide) ?_
  refine lv_icmp_ge (tgt := 105) hx hb dX12_feed_22 (by decide) (fun c9 => absurd c9 (by decide)) (fun _ => ?_)
  refine lv_iload hx hb dX12_feed_25 (lv_at hl 0 rfl) ?_
  refine lv_iconst (v := 4) hx hb dX12_feed_27 (by decide) ?_
  refine lv_icmp_ge (tgt := 35) hx hb dX12_feed_28 (by decide) (fun c9 => absurd c9 (by decide)) (fun _ => ?_)
  refine lv_iload_n hx hb dX12_feed_31 rfl (lv_at hl 3 rfl) ?_
  refine lv_goto (tgt := 71) hx hb dX12_feed_32 (by decide) ?_
  refine lv_istore (lv' := [(7, .int a1), (6, .int 2), (0, .ref mo), (1, .int a1), (2, .int a2), (3, .int a3), (4, .int a4), (5, .int a5)]) hx hb dX12_feed_71 hl (by decide) rfl ?_
  clear hl
  try clear ls
  intro ls hl
  refine lv_aload_n hx hb dX12_feed_73 rfl (lv_at hl 2 rfl) ?_
  refine va_get (ci := 12) (v := .ref (h 0)) (C := RX12) (T := TX12) (N := 58) hx hb ht iX12 hown hK hP 0 rfl rfl 0 (by decide) (ht _ k_276) (fun _ h9 => h9) rfl dX12_feed_74 ?_
  refine lv_aload_n hx hb dX12_feed_77 rfl (lv_at hl 2 rfl) ?_
  refine va_get (ci := 12) (v := .int 0) (C := RX12) (T := TX12) (N := 58) hx hb ht iX12 hown hK hP 0 rfl rfl 2 (by decide) (ht _ k_334) (fun _ h9 => h9) rfl dX12_feed_78 ?_
  refine lv_iload hx hb dX12_feed_81 (lv_at hl 1 rfl) ?_
  refine lv_iadd hx hb dX12_feed_83 ?_
  refine ow_top 2 (by decide +kernel) ?_
  refine lv_iload hx hb dX12_feed_84 (lv_at hl 0 rfl) ?_
  refine lv_bipush (v := 24) hx hb dX12_feed_86 (by decide) ?_
  refine lv_bipush (v := 8) hx hb dX12_feed_88 (by decide) ?_
  refine lv_iload hx hb dX12_feed_90 (lv_at hl 1 rfl) ?_
  refine lv_iconst (v := 3) hx hb dX12_feed_92 (by decide) ?_
  refine lv_iand hx hb dX12_feed_93 ?_
  refine ow_top 2 (by decide +kernel) ?_
  refine lv_imul hx hb dX12_feed_94 ?_
  refine ow_top 16 (by decide +kernel) ?_
  refine lv_isub hx hb dX12_feed_95 ?_
  refine ow_top 8 (by decide +kernel) ?_
  refine lv_ishr hx hb dX12_feed_96 ?_
  refine lv_topi (fun v_7 ev_7 => ?_)
  refine lv_i2b hx hb dX12_feed_97 rfl ?_
  refine lv_topi (fun v_8 ev_8 => ?_)
  refine ow_bast hx hb hK hP hD hS 1 rfl (in_lit (by decide +kernel)) dX12_feed_98 ?_
  clear hP hD hS
  try clear H locs
  intro f_9 H locs hP hD hS
  replace hP : va_P G vwCl [(mo, .inr (12, [.ref (h 0), .ref (h 1), .int 0, .int 0, .int 0, .int (-1), .int 0, .int 0, .int 0, .int 0, .long 0, .ref (h 2), .ref (h 3), .ref (h 4), .ref (h 5), .ref (h 6), .ref (h 7), .ref (h 8), .ref (h 9), .ref (h 10), .ref (h 11), .ref (h 12), .ref (h 13), .ref (h 14), .ref (h 15), .ref (h 16), .ref (h 17), .ref (h 18), .ref (h 19), .int 0, .int 0, .int 0, .int 0, .int 0, .int 0, .ref (h 20), .ref (h 21), .int 0, .ref (h 22), .ref (h 23), .ref (h 24), .ref (h 25), .ref (h 26), .int 0, .int 0, .ref (h 27), .ref (h 28), .ref (h 29), .ref (h 30), .ref (h 31), .int 0, .int 0, .ref (h 32), .ref (h 33), .ref (h 34), .ref (h 35), .ref (h 36), .ref (h 37)])), ((h 0), .inl (cy 1, 1720, .inl f_9)), ((h 2), .inl (cy 0, 2, .inl (fun _ => 0))), ((h 3), .inl (cy 0, 2, .inl (fun _ => 0))), ((h 4), .inl (cy 0, 2, .inl (fun _ => 0))), ((h 5), .inl (cy 0, 2, .inl (f 0))), ((h 12), .inl (cy 2, 2, .inl (f 1))), ((h 7), .inl (cy 0, 1200, .inl (fun _ => 0))), ((h 8), .inl (cy 0, 1200, .inl (fun _ => 0))), ((h 20), .inl (cy 2, 8, .inl (fun _ => 0))), ((h 21), .inl (cy 0, 8, .inl (fun _ => 0))), ((h 32), .inl (cy 0, 3, .inl (f 2))), ((h 33), .inl (cy 0, 120, .inl (fun _ => 0))), ((h 34), .inl (cy 0, 120, .inl (fun _ => 0))), ((h 35), .inl (cy 0, 24, .inl (fun _ => 0))), ((h 36), .inl (cy 2, 24, .inl (fun _ => 0))), ((h 37), .inl (cy 2, 3, .inl (fun _ => 0)))] H := hP
  replace hD : va_D A [(mo, .inr (12, [.ref (h 0), .ref (h 1), .int 0, .int 0, .int 0, .int (-1), .int 0, .int 0, .int 0, .int 0, .long 0, .ref (h 2), .ref (h 3), .ref (h 4), .ref (h 5), .ref (h 6), .ref (h 7), .ref (h 8), .ref (h 9), .ref (h 10), .ref (h 11), .ref (h 12), .ref (h 13), .ref (h 14), .ref (h 15), .ref (h 16), .ref (h 17), .ref (h 18), .ref (h 19), .int 0, .int 0, .int 0, .int 0, .int 0, .int 0, .ref (h 20), .ref (h 21), .int 0, .ref (h 22), .ref (h 23), .ref (h 24), .ref (h 25), .ref (h 26), .int 0, .int 0, .ref (h 27), .ref (h 28), .ref (h 29), .ref (h 30), .ref (h 31), .int 0, .int 0, .ref (h 32), .ref (h 33), .ref (h 34), .ref (h 35), .ref (h 36), .ref (h 37)])), ((h 0), .inl (cy 1, 1720, .inl f_9)), ((h 2), .inl (cy 0, 2, .inl (fun _ => 0))), ((h 3), .inl (cy 0, 2, .inl (fun _ => 0))), ((h 4), .inl (cy 0, 2, .inl (fun _ => 0))), ((h 5), .inl (cy 0, 2, .inl (f 0))), ((h 12), .inl (cy 2, 2, .inl (f 1))), ((h 7), .inl (cy 0, 1200, .inl (fun _ => 0))), ((h 8), .inl (cy 0, 1200, .inl (fun _ => 0))), ((h 20), .inl (cy 2, 8, .inl (fun _ => 0))), ((h 21), .inl (cy 0, 8, .inl (fun _ => 0))), ((h 32), .inl (cy 0, 3, .inl (f 2))), ((h 33), .inl (cy 0, 120, .inl (fun _ => 0))), ((h 34), .inl (cy 0, 120, .inl (fun _ => 0))), ((h 35), .inl (cy 0, 24, .inl (fun _ => 0))), ((h 36), .inl (cy 2, 24, .inl (fun _ => 0))), ((h 37), .inl (cy 2, 3, .inl (fun _ => 0)))] := hD
  refine lv_iinc (v := 3) (lv' := [(6, .int 3), (7, .int a1), (0, .ref mo), (1, .int a1), (2, .int a2), (3, .int a3), (4, .int a4), (5, .int a5)]) hx hb dX12_feed_99 hl (k := 1) rfl (by decide) (by decide) rfl ?_
  clear hl
  try clear ls
  intro ls hl
  refine lv_goto (tgt := 18) hx hb dX12_feed_102 (by decide) ?_
  refine lv_iload hx hb dX12_feed_18 (lv_at hl 0 rfl) ?_
  refine lv_bipush (v := 20) hx hb dX12_feed_20 (by decide) ?_
  refine lv_icmp_ge (tgt := 105) hx hb dX12_feed_22 (by decide) (fun c9 => absurd c9 (by decide)) (fun _ => ?_)
  refine lv_iload hx hb dX12_feed_25 (lv_at hl 0 rfl) ?_
  refine lv_iconst (v := 4) hx hb dX12_feed_27 (by decide) ?_
  refine lv_icmp_ge (tgt := 35) hx hb dX12_feed_28 (by decide) (fun c9 => absurd c9 (by decide)) (fun _ => ?_)
  refine lv_iload_n hx hb dX12_feed_31 rfl (lv_at hl 3 rfl) ?_
  refine lv_goto (tgt := 71) hx hb dX12_feed_32 (by decide) ?_
  refine lv_istore (lv' := [(7, .int a1), (6, .int 3), (0, .ref mo), (1, .int a1), (2, .int a2), (3, .int a3), (4, .int a4), (5, .int a5)]) hx hb dX12_feed_71 hl (by decide) rfl ?_
  clear hl
  try clear ls
  intro ls hl
  refine lv_aload_n hx hb dX12_feed_73 rfl (lv_at hl 2 rfl) ?_
  refine va_get (ci := 12) (v := .ref (h 0)) (C := RX12) (T := TX12) (N := 58) hx hb ht iX12 hown hK hP 0 rfl rfl 0 (by decide) (ht _ k_276) (fun _ h9 => h9) rfl dX12_feed_74 ?_
  refine lv_aload_n hx hb dX12_feed_77 rfl (lv_at hl 2 rfl) ?_
  refine va_get (ci := 12) (v := .int 0) (C := RX12) (T := TX12) (N := 58) hx hb ht iX12 hown hK hP 0 rfl rfl 2 (by decide) (ht _ k_334) (fun _ h9 => h9) rfl dX12_feed_78 ?_
  refine lv_iload hx hb dX12_feed_81 (lv_at hl 1 rfl) ?_
  refine lv_iadd hx hb dX12_feed_83 ?_
  refine ow_top 3 (by decide +kernel) ?_
  refine lv_iload hx hb dX12_feed_84 (lv_at hl 0 rfl) ?_
  refine lv_bipush (v := 24) hx hb dX12_feed_86 (by decide) ?_
  refine lv_bipush (v := 8) hx hb dX12_feed_88 (by decide) ?_
  refine lv_iload hx hb dX12_feed_90 (lv_at hl 1 rfl) ?_
  refine lv_iconst (v := 3) hx hb dX12_feed_92 (by decide) ?_
  refine lv_iand hx hb dX12_feed_93 ?_
  refine ow_top 3 (by decide +kernel) ?_
  refine lv_imul hx hb dX12_feed_94 ?_
  refine ow_top 24 (by decide +kernel) ?_
  refine lv_isub hx hb dX12_feed_95 ?_
  refine ow_top 0 (by decide +kernel) ?_
  refine lv_ishr hx hb dX12_feed_96 ?_
  refine lv_topi (fun v_10 ev_10 => ?_)
  refine lv_i2b hx hb dX12_feed_97 rfl ?_
  refine lv_topi (fun v_11 ev_11 => ?_)
  refine ow_bast hx hb hK hP hD hS 1 rfl (in_lit (by decide +kernel)) dX12_feed_98 ?_
  clear hP hD hS
  try clear H locs
  intro f_12 H locs hP hD hS
  replace hP : va_P G vwCl [(mo, .inr (12, [.ref (h 0), .ref (h 1), .int 0, .int 0, .int 0, .int (-1), .int 0, .int 0, .int 0, .int 0, .long 0, .ref (h 2), .ref (h 3), .ref (h 4), .ref (h 5), .ref (h 6), .ref (h 7), .ref (h 8), .ref (h 9), .ref (h 10), .ref (h 11), .ref (h 12), .ref (h 13), .ref (h 14), .ref (h 15), .ref (h 16), .ref (h 17), .ref (h 18), .ref (h 19), .int 0, .int 0, .int 0, .int 0, .int 0, .int 0, .ref (h 20), .ref (h 21), .int 0, .ref (h 22), .ref (h 23), .ref (h 24), .ref (h 25), .ref (h 26), .int 0, .int 0, .ref (h 27), .ref (h 28), .ref (h 29), .ref (h 30), .ref (h 31), .int 0, .int 0, .ref (h 32), .ref (h 33), .ref (h 34), .ref (h 35), .ref (h 36), .ref (h 37)])), ((h 0), .inl (cy 1, 1720, .inl f_12)), ((h 2), .inl (cy 0, 2, .inl (fun _ => 0))), ((h 3), .inl (cy 0, 2, .inl (fun _ => 0))), ((h 4), .inl (cy 0, 2, .inl (fun _ => 0))), ((h 5), .inl (cy 0, 2, .inl (f 0))), ((h 12), .inl (cy 2, 2, .inl (f 1))), ((h 7), .inl (cy 0, 1200, .inl (fun _ => 0))), ((h 8), .inl (cy 0, 1200, .inl (fun _ => 0))), ((h 20), .inl (cy 2, 8, .inl (fun _ => 0))), ((h 21), .inl (cy 0, 8, .inl (fun _ => 0))), ((h 32), .inl (cy 0, 3, .inl (f 2))), ((h 33), .inl (cy 0, 120, .inl (fun _ => 0))), ((h 34), .inl (cy 0, 120, .inl (fun _ => 0))), ((h 35), .inl (cy 0, 24, .inl (fun _ => 0))), ((h 36), .inl (cy 2, 24, .inl (fun _ => 0))), ((h 37), .inl (cy 2, 3, .inl (fun _ => 0)))] H := hP
  replace hD : va_D A [(mo, .inr (12, [.ref (h 0), .ref (h 1), .int 0, .int 0, .int 0, .int (-1), .int 0, .int 0, .int 0, .int 0, .long 0, .ref (h 2), .ref (h 3), .ref (h 4), .ref (h 5), .ref (h 6), .ref (h 7), .ref (h 8), .ref (h 9), .ref (h 10), .ref (h 11), .ref (h 12), .ref (h 13), .ref (h 14), .ref (h 15), .ref (h 16), .ref (h 17), .ref (h 18), .ref (h 19), .int 0, .int 0, .int 0, .int 0, .int 0, .int 0, .ref (h 20), .ref (h 21), .int 0, .ref (h 22), .ref (h 23), .ref (h 24), .ref (h 25), .ref (h 26), .int 0, .int 0, .ref (h 27), .ref (h 28), .ref (h 29), .ref (h 30), .ref (h 31), .int 0, .int 0, .ref (h 32), .ref (h 33), .ref (h 34), .ref (h 35), .ref (h 36), .ref (h 37)])), ((h 0), .inl (cy 1, 1720, .inl f_12)), ((h 2), .inl (cy 0, 2, .inl (fun _ => 0))), ((h 3), .inl (cy 0, 2, .inl (fun _ => 0))), ((h 4), .inl (cy 0, 2, .inl (fun _ => 0))), ((h 5), .inl (cy 0, 2, .inl (f 0))), ((h 12), .inl (cy 2, 2, .inl (f 1))), ((h 7), .inl (cy 0, 1200, .inl (fun _ => 0))), ((h 8), .inl (cy 0, 1200, .inl (fun _ => 0))), ((h 20), .inl (cy 2, 8, .inl (fun _ => 0))), ((h 21), .inl (cy 0, 8, .inl (fun _ => 0))), ((h 32), .inl (cy 0, 3, .inl (f 2))), ((h 33), .inl (cy 0, 120, .inl (fun _ => 0))), ((h 34), .inl (cy 0, 120, .inl (fun _ => 0))), ((h 35), .inl (cy 0, 24, .inl (fun _ => 0))), ((h 36), .inl (cy 2, 24, .inl (fun _ => 0))), ((h 37), .inl (cy 2, 3, .inl (fun _ => 0)))] := hD
  refine lv_iinc (v := 4) (lv' := [(6, .int 4), (7, .int a1), (0, .ref mo), (1, .int a1), (2, .int a2), (3, .int a3), (4, .int a4), (5, .int a5)]) hx hb dX12_feed_99 hl (k := 1) rfl (by decide) (by decide) rfl ?_
  clear hl
  try clear ls
  intro ls hl
  refine lv_goto (tgt := 18) hx hb dX12_feed_102 (by decide) ?_
  refine lv_iload hx hb dX12_feed_18 (lv_at hl 0 rfl) ?_
  refine lv_bipush (v := 20) hx hb dX12_feed_20 (by decide) ?_
  refine lv_icmp_ge (tgt := 105) hx hb dX12_feed_22 (by decide) (fun c9 => absurd c9 (by decide)) (fun _ => ?_)
  refine lv_iload hx hb dX12_feed_25 (lv_at hl 0 rfl) ?_
  refine lv_iconst (v := 4) hx hb dX12_feed_27 (by decide) ?_
  refine lv_icmp_ge (tgt := 35) hx hb dX12_feed_28 (by decide) (fun _ => ?_) (fun c9 => absurd (by decide) c9)
  refine lv_iload hx hb dX12_feed_35 (lv_at hl 0 rfl) ?_
  refine lv_bipush (v := 8) hx hb dX12_feed_37 (by decide) ?_
  refine lv_icmp_ge (tgt := 46) hx hb dX12_feed_39 (by decide) (fun c9 => absurd c9 (by decide)) (fun _ => ?_)
  refine lv_iload_n hx hb dX12_feed_42 rfl (lv_at hl 4 rfl) ?_
  refine lv_goto (tgt := 71) hx hb dX12_feed_43 (by decide) ?_
  refine lv_istore (lv' := [(7, .int a2), (6, .int 4), (0, .ref mo), (1, .int a1), (2, .int a2), (3, .int a3), (4, .int a4), (5, .int a5)]) hx hb dX12_feed_71 hl (by decide) rfl ?_
  clear hl
  try clear ls
  intro ls hl
  refine lv_aload_n hx hb dX12_feed_73 rfl (lv_at hl 2 rfl) ?_
  refine va_get (ci := 12) (v := .ref (h 0)) (C := RX12) (T := TX12) (N := 58) hx hb ht iX12 hown hK hP 0 rfl rfl 0 (by decide) (ht _ k_276) (fun _ h9 => h9) rfl dX12_feed_74 ?_
  refine lv_aload_n hx hb dX12_feed_77 rfl (lv_at hl 2 rfl) ?_
  refine va_get (ci := 12) (v := .int 0) (C := RX12) (T := TX12) (N := 58) hx hb ht iX12 hown hK hP 0 rfl rfl 2 (by decide) (ht _ k_334) (fun _ h9 => h9) rfl dX12_feed_78 ?_
  refine lv_iload hx hb dX12_feed_81 (lv_at hl 1 rfl) ?_
  refine lv_iadd hx hb dX12_feed_83 ?_
  refine ow_top 4 (by decide +kernel) ?_
  refine lv_iload hx hb dX12_feed_84 (lv_at hl 0 rfl) ?_
  refine lv_bipush (v := 24) hx hb dX12_feed_86 (by decide) ?_
  refine lv_bipush (v := 8) hx hb dX12_feed_88 (by decide) ?_
  refine lv_iload hx hb dX12_feed_90 (lv_at hl 1 rfl) ?_
  refine lv_iconst (v := 3) hx hb dX12_feed_92 (by decide) ?_
  refine lv_iand hx hb dX12_feed_93 ?_
  refine ow_top 0 (by decide +kernel) ?_
  refine lv_imul hx hb dX12_feed_94 ?_
  refine ow_top 0 (by decide +kernel) ?_
  refine lv_isub hx hb dX12_feed_95 ?_
  refine ow_top 24 (by decide +kernel) ?_
  refine lv_ishr hx hb dX12_feed_96 ?_
  refine lv_topi (fun v_13 ev_13 => ?_)
  refine lv_i2b hx hb dX12_feed_97 rfl ?_
  refine lv_topi (fun v_14 ev_14 => ?_)
  refine ow_bast hx hb hK hP hD hS 1 rfl (in_lit (by decide +kernel)) dX12_feed_98 ?_
  clear hP hD hS
  try clear H locs
  intro f_15 H locs hP hD hS
  replace hP : va_P G vwCl [(mo, .inr (12, [.ref (h 0), .ref (h 1), .int 0, .int 0, .int 0, .int (-1), .int 0, .int 0, .int 0, .int 0, .long 0, .ref (h 2), .ref (h 3), .ref (h 4), .ref (h 5), .ref (h 6), .ref (h 7), .ref (h 8), .ref (h 9), .ref (h 10), .ref (h 11), .ref (h 12), .ref (h 13), .ref (h 14), .ref (h 15), .ref (h 16), .ref (h 17), .ref (h 18), .ref (h 19), .int 0, .int 0, .int 0, .int 0, .int 0, .int 0, .ref (h 20), .ref (h 21), .int 0, .ref (h 22), .ref (h 23), .ref (h 24), .ref (h 25), .ref (h 26), .int 0, .int 0, .ref (h 27), .ref (h 28), .ref (h 29), .ref (h 30), .ref (h 31), .int 0, .int 0, .ref (h 32), .ref (h 33), .ref (h 34), .ref (h 35), .ref (h 36), .ref (h 37)])), ((h 0), .inl (cy 1, 1720, .inl f_15)), ((h 2), .inl (cy 0, 2, .inl (fun _ => 0))), ((h 3), .inl (cy 0, 2, .inl (fun _ => 0))), ((h 4), .inl (cy 0, 2, .inl (fun _ => 0))), ((h 5), .inl (cy 0, 2, .inl (f 0))), ((h 12), .inl (cy 2, 2, .inl (f 1))), ((h 7), .inl (cy 0, 1200, .inl (fun _ => 0))), ((h 8), .inl (cy 0, 1200, .inl (fun _ => 0))), ((h 20), .inl (cy 2, 8, .inl (fun _ => 0))), ((h 21), .inl (cy 0, 8, .inl (fun _ => 0))), ((h 32), .inl (cy 0, 3, .inl (f 2))), ((h 33), .inl (cy 0, 120, .inl (fun _ => 0))), ((h 34), .inl (cy 0, 120, .inl (fun _ => 0))), ((h 35), .inl (cy 0, 24, .inl (fun _ => 0))), ((h 36), .inl (cy 2, 24, .inl (fun _ => 0))), ((h 37), .inl (cy 2, 3, .inl (fun _ => 0)))] H := hP
  replace hD : va_D A [(mo, .inr (12, [.ref (h 0), .ref (h 1), .int 0, .int 0, .int 0, .int (-1), .int 0, .int 0, .int 0, .int 0, .long 0, .ref (h 2), .ref (h 3), .ref (h 4), .ref (h 5), .ref (h 6), .ref (h 7), .ref (h 8), .ref (h 9), .ref (h 10), .ref (h 11), .ref (h 12), .ref (h 13), .ref (h 14), .ref (h 15), .ref (h 16), .ref (h 17), .ref (h 18), .ref (h 19), .int 0, .int 0, .int 0, .int 0, .int 0, .int 0, .ref (h 20), .ref (h 21), .int 0, .ref (h 22), .ref (h 23), .ref (h 24), .ref (h 25), .ref (h 26), .int 0, .int 0, .ref (h 27), .ref (h 28), .ref (h 29), .ref (h 30), .ref (h 31), .int 0, .int 0, .ref (h 32), .ref (h 33), .ref (h 34), .ref (h 35), .ref (h 36), .ref (h 37)])), ((h 0), .inl (cy 1, 1720, .inl f_15)), ((h 2), .inl (cy 0, 2, .inl (fun _ => 0))), ((h 3), .inl (cy 0, 2, .inl (fun _ => 0))), ((h 4), .inl (cy 0, 2, .inl (fun _ => 0))), ((h 5), .inl (cy 0, 2, .inl (f 0))), ((h 12), .inl (cy 2, 2, .inl (f 1))), ((h 7), .inl (cy 0, 1200, .inl (fun _ => 0))), ((h 8), .inl (cy 0, 1200, .inl (fun _ => 0))), ((h 20), .inl (cy 2, 8, .inl (fun _ => 0))), ((h 21), .inl (cy 0, 8, .inl (fun _ => 0))), ((h 32), .inl (cy 0, 3, .inl (f 2))), ((h 33), .inl (cy 0, 120, .inl (fun _ => 0))), ((h 34), .inl (cy 0, 120, .inl (fun _ => 0))), ((h 35), .inl (cy 0, 24, .inl (fun _ => 0))), ((h 36), .inl (cy 2, 24, .inl (fun _ => 0))), ((h 37), .inl (cy 2, 3, .inl (fun _ => 0)))] := hD
  refine lv_iinc (v := 5) (lv' := [(6, .int 5), (7, .int a2), (0, .ref mo), (1, .int a1), (2, .int a2), (3, .int a3), (4, .int a4), (5, .int a5)]) hx hb dX12_feed_99 hl (k := 1) rfl (by decide) (by decide) rfl ?_
  clear hl
  try clear ls
  intro ls hl
  refine lv_goto (tgt := 18) hx hb dX12_feed_102 (by decide) ?_
  refine lv_iload hx hb dX12_feed_18 (lv_at hl 0 rfl) ?_
  refine lv_bipush (v := 20) hx hb dX12_feed_20 (by decide) ?_
  refine lv_icmp_ge (tgt := 105) hx hb dX12_feed_22 (by decide) (fun c9 => absurd c9 (by decide)) (fun _ => ?_)
  refine lv_iload hx hb dX12_feed_25 (lv_at hl 0 rfl) ?_
  refine lv_iconst (v := 4) hx hb dX12_feed_27 (by decide) ?_
  refine lv_icmp_ge (tgt := 35) hx hb dX12_feed_28 (by decide) (fun _ => ?_) (fun c9 => absurd (by decide) c9)
  refine lv_iload hx hb dX12_feed_35 (lv_at hl 0 rfl) ?_
  refine lv_bipush (v := 8) hx hb dX12_feed_37 (by decide) ?_
  refine lv_icmp_ge (tgt := 46) hx hb dX12_feed_39 (by decide) (fun c9 => absurd c9 (by decide)) (fun _ => ?_)
  refine lv_iload_n hx hb dX12_feed_42 rfl (lv_at hl 4 rfl) ?_
  refine lv_goto (tgt := 71) hx hb dX12_feed_43 (by decide) ?_
  refine lv_istore (lv' := [(7, .int a2), (6, .int 5), (0, .ref mo), (1, .int a1), (2, .int a2), (3, .int a3), (4, .int a4), (5, .int a5)]) hx hb dX12_feed_71 hl (by decide) rfl ?_
  clear hl
  try clear ls
  intro ls hl
  refine lv_aload_n hx hb dX12_feed_73 rfl (lv_at hl 2 rfl) ?_
  refine va_get (ci := 12) (v := .ref (h 0)) (C := RX12) (T := TX12) (N := 58) hx hb ht iX12 hown hK hP 0 rfl rfl 0 (by decide) (ht _ k_276) (fun _ h9 => h9) rfl dX12_feed_74 ?_
  refine lv_aload_n hx hb dX12_feed_77 rfl (lv_at hl 2 rfl) ?_
  refine va_get (ci := 12) (v := .int 0) (C := RX12) (T := TX12) (N := 58) hx hb ht iX12 hown hK hP 0 rfl rfl 2 (by decide) (ht _ k_334) (fun _ h9 => h9) rfl dX12_feed_78 ?_
  refine lv_iload hx hb dX12_feed_81 (lv_at hl 1 rfl) ?_
  refine lv_iadd hx hb dX12_feed_83 ?_
  refine ow_top 5 (by decide +kernel) ?_
  refine lv_iload hx hb dX12_feed_84 (lv_at hl 0 rfl) ?_
  refine lv_bipush (v := 24) hx hb dX12_feed_86 (by decide) ?_
  refine lv_bipush (v := 8) hx hb dX12_feed_88 (by decide) ?_
  refine lv_iload hx hb dX12_feed_90 (lv_at hl 1 rfl) ?_
  refine lv_iconst (v := 3) hx hb dX12_feed_92 (by decide) ?_
  refine lv_iand hx hb dX12_feed_93 ?_
  refine ow_top 1 (by decide +kernel) ?_
  refine lv_imul hx hb dX12_feed_94 ?_
  refine ow_top 8 (by decide +kernel) ?_
  refine lv_isub hx hb dX12_feed_95 ?_
  refine ow_top 16 (by decide +kernel) ?_
  refine lv_ishr hx hb dX12_feed_96 ?_
  refine lv_topi (fun v_16 ev_16 => ?_)
  refine lv_i2b hx hb dX12_feed_97 rfl ?_
  refine lv_topi (fun v_17 ev_17 => ?_)
  refine ow_bast hx hb hK hP hD hS 1 rfl (in_lit (by decide +kernel)) dX12_feed_98 ?_
  clear hP hD hS
  try clear H locs
  intro f_18 H locs hP hD hS
  replace hP : va_P G vwCl [(mo, .inr (12, [.ref (h 0), .ref (h 1), .int 0, .int 0, .int 0, .int (-1), .int 0, .int 0, .int 0, .int 0, .long 0, .ref (h 2), .ref (h 3), .ref (h 4), .ref (h 5), .ref (h 6), .ref (h 7), .ref (h 8), .ref (h 9), .ref (h 10), .ref (h 11), .ref (h 12), .ref (h 13), .ref (h 14), .ref (h 15), .ref (h 16), .ref (h 17), .ref (h 18), .ref (h 19), .int 0, .int 0, .int 0, .int 0, .int 0, .int 0, .ref (h 20), .ref (h 21), .int 0, .ref (h 22), .ref (h 23), .ref (h 24), .ref (h 25), .ref (h 26), .int 0, .int 0, .ref (h 27), .ref (h 28), .ref (h 29), .ref (h 30), .ref (h 31), .int 0, .int 0, .ref (h 32), .ref (h 33), .ref (h 34), .ref (h 35), .ref (h 36), .ref (h 37)])), ((h 0), .inl (cy 1, 1720, .inl f_18)), ((h 2), .inl (cy 0, 2, .inl (fun _ => 0))), ((h 3), .inl (cy 0, 2, .inl (fun _ => 0))), ((h 4), .inl (cy 0, 2, .inl (fun _ => 0))), ((h 5), .inl (cy 0, 2, .inl (f 0))), ((h 12), .inl (cy 2, 2, .inl (f 1))), ((h 7), .inl (cy 0, 1200, .inl (fun _ => 0))), ((h 8), .inl (cy 0, 1200, .inl (fun _ => 0))), ((h 20), .inl (cy 2, 8, .inl (fun _ => 0))), ((h 21), .inl (cy 0, 8, .inl (fun _ => 0))), ((h 32), .inl (cy 0, 3, .inl (f 2))), ((h 33), .inl (cy 0, 120, .inl (fun _ => 0))), ((h 34), .inl (cy 0, 120, .inl (fun _ => 0))), ((h 35), .inl (cy 0, 24, .inl (fun _ => 0))), ((h 36), .inl (cy 2, 24, .inl (fun _ => 0))), ((h 37), .inl (cy 2, 3, .inl (fun _ => 0)))] H := hP
  replace hD : va_D A [(mo, .inr (12, [.ref (h 0), .ref (h 1), .int 0, .int 0, .int 0, .int (-1), .int 0, .int 0, .int 0, .int 0, .long 0, .ref (h 2), .ref (h 3), .ref (h 4), .ref (h 5), .ref (h 6), .ref (h 7), .ref (h 8), .ref (h 9), .ref (h 10), .ref (h 11), .ref (h 12), .ref (h 13), .ref (h 14), .ref (h 15), .ref (h 16), .ref (h 17), .ref (h 18), .ref (h 19), .int 0, .int 0, .int 0, .int 0, .int 0, .int 0, .ref (h 20), .ref (h 21), .int 0, .ref (h 22), .ref (h 23), .ref (h 24), .ref (h 25), .ref (h 26), .int 0, .int 0, .ref (h 27), .ref (h 28), .ref (h 29), .ref (h 30), .ref (h 31), .int 0, .int 0, .ref (h 32), .ref (h 33), .ref (h 34), .ref (h 35), .ref (h 36), .ref (h 37)])), ((h 0), .inl (cy 1, 1720, .inl f_18)), ((h 2), .inl (cy 0, 2, .inl (fun _ => 0))), ((h 3), .inl (cy 0, 2, .inl (fun _ => 0))), ((h 4), .inl (cy 0, 2, .inl (fun _ => 0))), ((h 5), .inl (cy 0, 2, .inl (f 0))), ((h 12), .inl (cy 2, 2, .inl (f 1))), ((h 7), .inl (cy 0, 1200, .inl (fun _ => 0))), ((h 8), .inl (cy 0, 1200, .inl (fun _ => 0))), ((h 20), .inl (cy 2, 8, .inl (fun _ => 0))), ((h 21), .inl (cy 0, 8, .inl (fun _ => 0))), ((h 32), .inl (cy 0, 3, .inl (f 2))), ((h 33), .inl (cy 0, 120, .inl (fun _ => 0))), ((h 34), .inl (cy 0, 120, .inl (fun _ => 0))), ((h 35), .inl (cy 0, 24, .inl (fun _ => 0))), ((h 36), .inl (cy 2, 24, .inl (fun _ => 0))), ((h 37), .inl (cy 2, 3, .inl (fun _ => 0)))] := hD
  refine lv_iinc (v := 6) (lv' := [(6, .int 6), (7, .int a2), (0, .ref mo), (1, .int a1), (2, .int a2), (3, .int a3), (4, .int a4), (5, .int a5)]) hx hb dX12_feed_99 hl (k := 1) rfl (by decide) (by decide) rfl ?_
  clear hl
  try clear ls
  intro ls hl
  refine lv_goto (tgt := 18) hx hb dX12_feed_102 (by decide) ?_
  refine lv_iload hx hb dX12_feed_18 (lv_at hl 0 rfl) ?_
  refine lv_bipush (v := 20) hx hb dX12_feed_20 (by decide) ?_
  refine lv_icmp_ge (tgt := 105) hx hb dX12_feed_22 (by decide) (fun c9 => absurd c9 (by decide)) (fun _ => ?_)
  refine lv_iload hx hb dX12_feed_25 (lv_at hl 0 rfl) ?_
  refine lv_iconst (v := 4) hx hb dX12_feed_27 (by decide) ?_
  refine lv_icmp_ge (tgt := 35) hx hb dX12_feed_28 (by decide) (fun _ => ?_) (fun c9 => absurd (by decide) c9)
  refine lv_iload hx hb dX12_feed_35 (lv_at hl 0 rfl) ?_
  refine lv_bipush (v := 8) hx hb dX12_feed_37 (by decide) ?_
  refine lv_icmp_ge (tgt := 46) hx hb dX12_feed_39 (by decide) (fun c9 => absurd c9 (by decide)) (fun _ => ?_)
  refine lv_iload_n hx hb dX12_feed_42 rfl (lv_at hl 4 rfl) ?_
  refine lv_goto (tgt := 71) hx hb dX12_feed_43 (by decide) ?_
  refine lv_istore (lv' := [(7, .int a2), (6, .int 6), (0, .ref mo), (1, .int a1), (2, .int a2), (3, .int a3), (4, .int a4), (5, .int a5)]) hx hb dX12_feed_71 hl (by decide) rfl ?_
  clear hl
  try clear ls
  intro ls hl
  refine lv_aload_n hx hb dX12_feed_73 rfl (lv_at hl 2 rfl) ?_
  refine va_get (ci := 12) (v := .ref (h 0)) (C := RX12) (T := TX12) (N := 58) hx hb ht iX12 hown hK hP 0 rfl rfl 0 (by decide) (ht _ k_276) (fun _ h9 => h9) rfl dX12_feed_74 ?_
  refine lv_aload_n hx hb dX12_feed_77 rfl (lv_at hl 2 rfl) ?_
  refine va_get (ci := 12) (v := .int 0) (C := RX12) (T := TX12) (N := 58) hx hb ht iX12 hown hK hP 0 rfl rfl 2 (by decide) (ht _ k_334) (fun _ h9 => h9) rfl dX12_feed_78 ?_
  refine lv_iload hx hb dX12_feed_81 (lv_at hl 1 rfl) ?_
  refine lv_iadd hx hb dX12_feed_83 ?_
  refine ow_top 6 (by decide +kernel) ?_
  refine lv_iload hx hb dX12_feed_84 (lv_at hl 0 rfl) ?_
  refine lv_bipush (v := 24) hx hb dX12_feed_86 (by decide) ?_
  refine lv_bipush (v := 8) hx hb dX12_feed_88 (by decide) ?_
  refine lv_iload hx hb dX12_feed_90 (lv_at hl 1 rfl) ?_
  refine lv_iconst (v := 3) hx hb dX12_feed_92 (by decide) ?_
  refine lv_iand hx hb dX12_feed_93 ?_
  refine ow_top 2 (by decide +kernel) ?_
  refine lv_imul hx hb dX12_feed_94 ?_
  refine ow_top 16 (by decide +kernel) ?_
  refine lv_isub hx hb dX12_feed_95 ?_
  refine ow_top 8 (by decide +kernel) ?_
  refine lv_ishr hx hb dX12_feed_96 ?_
  refine lv_topi (fun v_19 ev_19 => ?_)
  refine lv_i2b hx hb dX12_feed_97 rfl ?_
  refine lv_topi (fun v_20 ev_20 => ?_)
  refine ow_bast hx hb hK hP hD hS 1 rfl (in_lit (by decide +kernel)) dX12_feed_98 ?_
  clear hP hD hS
  try clear H locs
  intro f_21 H locs hP hD hS
  replace hP : va_P G vwCl [(mo, .inr (12, [.ref (h 0), .ref (h 1), .int 0, .int 0, .int 0, .int (-1), .int 0, .int 0, .int 0, .int 0, .long 0, .ref (h 2), .ref (h 3), .ref (h 4), .ref (h 5), .ref (h 6), .ref (h 7), .ref (h 8), .ref (h 9), .ref (h 10), .ref (h 11), .ref (h 12), .ref (h 13), .ref (h 14), .ref (h 15), .ref (h 16), .ref (h 17), .ref (h 18), .ref (h 19), .int 0, .int 0, .int 0, .int 0, .int 0, .int 0, .ref (h 20), .ref (h 21), .int 0, .ref (h 22), .ref (h 23), .ref (h 24), .ref (h 25), .ref (h 26), .int 0, .int 0, .ref (h 27), .ref (h 28), .ref (h 29), .ref (h 30), .ref (h 31), .int 0, .int 0, .ref (h 32), .ref (h 33), .ref (h 34), .ref (h 35), .ref (h 36), .ref (h 37)])), ((h 0), .inl (cy 1, 1720, .inl f_21)), ((h 2), .inl (cy 0, 2, .inl (fun _ => 0))), ((h 3), .inl (cy 0, 2, .inl (fun _ => 0))), ((h 4), .inl (cy 0, 2, .inl (fun _ => 0))), ((h 5), .inl (cy 0, 2, .inl (f 0))), ((h 12), .inl (cy 2, 2, .inl (f 1))), ((h 7), .inl (cy 0, 1200, .inl (fun _ => 0))), ((h 8), .inl (cy 0, 1200, .inl (fun _ => 0))), ((h 20), .inl (cy 2, 8, .inl (fun _ => 0))), ((h 21), .inl (cy 0, 8, .inl (fun _ => 0))), ((h 32), .inl (cy 0, 3, .inl (f 2))), ((h 33), .inl (cy 0, 120, .inl (fun _ => 0))), ((h 34), .inl (cy 0, 120, .inl (fun _ => 0))), ((h 35), .inl (cy 0, 24, .inl (fun _ => 0))), ((h 36), .inl (cy 2, 24, .inl (fun _ => 0))), ((h 37), .inl (cy 2, 3, .inl (fun _ => 0)))] H := hP
  replace hD : va_D A [(mo, .inr (12, [.ref (h 0), .ref (h 1), .int 0, .int 0, .int 0, .int (-1), .int 0, .int 0, .int 0, .int 0, .long 0, .ref (h 2), .ref (h 3), .ref (h 4), .ref (h 5), .ref (h 6), .ref (h 7), .ref (h 8), .ref (h 9), .ref (h 10), .ref (h 11), .ref (h 12), .ref (h 13), .ref (h 14), .ref (h 15), .ref (h 16), .ref (h 17), .ref (h 18), .ref (h 19), .int 0, .int 0, .int 0, .int 0, .int 0, .int 0, .ref (h 20), .ref (h 21), .int 0, .ref (h 22), .ref (h 23), .ref (h 24), .ref (h 25), .ref (h 26), .int 0, .int 0, .ref (h 27), .ref (h 28), .ref (h 29), .ref (h 30), .ref (h 31), .int 0, .int 0, .ref (h 32), .ref (h 33), .ref (h 34), .ref (h 35), .ref (h 36), .ref (h 37)])), ((h 0), .inl (cy 1, 1720, .inl f_21)), ((h 2), .inl (cy 0, 2, .inl (fun _ => 0))), ((h 3), .inl (cy 0, 2, .inl (fun _ => 0))), ((h 4), .inl (cy 0, 2, .inl (fun _ => 0))), ((h 5), .inl (cy 0, 2, .inl (f 0))), ((h 12), .inl (cy 2, 2, .inl (f 1))), ((h 7), .inl (cy 0, 1200, .inl (fun _ => 0))), ((h 8), .inl (cy 0, 1200, .inl (fun _ => 0))), ((h 20), .inl (cy 2, 8, .inl (fun _ => 0))), ((h 21), .inl (cy 0, 8, .inl (fun _ => 0))), ((h 32), .inl (cy 0, 3, .inl (f 2))), ((h 33), .inl (cy 0, 120, .inl (fun _ => 0))), ((h 34), .inl (cy 0, 120, .inl (fun _ => 0))), ((h 35), .inl (cy 0, 24, .inl (fun _ => 0))), ((h 36), .inl (cy 2, 24, .inl (fun _ => 0))), ((h 37), .inl (cy 2, 3, .inl (fun _ => 0)))] := hD
  refine lv_iinc (v := 7) (lv' := [(6, .int 7), (7, .int a2), (0, .ref mo), (1, .int a1), (2, .int a2), (3, .int a3), (4, .int a4), (5, .int a5)]) hx hb dX12_feed_99 hl (k := 1) rfl (by decide) (by decide) rfl ?_
  clear hl
  try clear ls
  intro ls hl
  refine lv_goto (tgt := 18) hx hb dX12_feed_102 (by decide) ?_
  refine lv_iload hx hb dX12_feed_18 (lv_at hl 0 rfl) ?_
  refine lv_bipush (v := 20) hx hb dX12_feed_20 (by decide) ?_
  refine lv_icmp_ge (tgt := 105) hx hb dX12_feed_22 (by decide) (fun c9 => absurd c9 (by decide)) (fun _ => ?_)
  refine lv_iload hx hb dX12_feed_25 (lv_at hl 0 rfl) ?_
  refine lv_iconst (v := 4) hx hb dX12_feed_27 (by decide) ?_
  refine lv_icmp_ge (tgt := 35) hx hb dX12_feed_28 (by decide) (fun _ => ?_) (fun c9 => absurd (by decide) c9)
  refine lv_iload hx hb dX12_feed_35 (lv_at hl 0 rfl) ?_
  refine lv_bipush (v := 8) hx hb dX12_feed_37 (by decide) ?_
  refine lv_icmp_ge (tgt := 46) hx hb dX12_feed_39 (by decide) (fun c9 => absurd c9 (by decide)) (fun _ => ?_)
  refine lv_iload_n hx hb dX12_feed_42 rfl (lv_at hl 4 rfl) ?_
  refine lv_goto (tgt := 71) hx hb dX12_feed_43 (by decide) ?_
  refine lv_istore (lv' := [(7, .int a2), (6, .int 7), (0, .ref mo), (1, .int a1), (2, .int a2), (3, .int a3), (4, .int a4), (5, .int a5)]) hx hb dX12_feed_71 hl (by decide) rfl ?_
  clear hl
  try clear ls
  intro ls hl
  refine lv_aload_n hx hb dX12_feed_73 rfl (lv_at hl 2 rfl) ?_
  refine va_get (ci := 12) (v := .ref (h 0)) (C := RX12) (T := TX12) (N := 58) hx hb ht iX12 hown hK hP 0 rfl rfl 0 (by decide) (ht _ k_276) (fun _ h9 => h9) rfl dX12_feed_74 ?_
  refine lv_aload_n hx hb dX12_feed_77 rfl (lv_at hl 2 rfl) ?_
  refine va_get (ci := 12) (v := .int 0) (C := RX12) (T := TX12) (N := 58) hx hb ht iX12 hown hK hP 0 rfl rfl 2 (by decide) (ht _ k_334) (fun _ h9 => h9) rfl dX12_feed_78 ?_
  refine lv_iload hx hb dX12_feed_81 (lv_at hl 1 rfl) ?_
  refine lv_iadd hx hb dX12_feed_83 ?_
  refine ow_top 7 (by decide +kernel) ?_
  refine lv_iload hx hb dX12_feed_84 (lv_at hl 0 rfl) ?_
  refine lv_bipush (v := 24) hx hb dX12_feed_86 (by decide) ?_
  refine lv_bipush (v := 8) hx hb dX12_feed_88 (by decide) ?_
  refine lv_iload hx hb dX12_feed_90 (lv_at hl 1 rfl) ?_
  refine lv_iconst (v := 3) hx hb dX12_feed_92 (by decide) ?_
  refine lv_iand hx hb dX12_feed_93 ?_
  refine ow_top 3 (by decide +kernel) ?_
  refine lv_imul hx hb dX12_feed_94 ?_
  refine ow_top 24 (by decide +kernel) ?_
  refine lv_isub hx hb dX12_feed_95 ?_
  refine ow_top 0 (by decide +kernel) ?_
  refine lv_ishr hx hb dX12_feed_96 ?_
  refine lv_topi (fun v_22 ev_22 => ?_)
  refine lv_i2b hx hb dX12_feed_97 rfl ?_
  refine lv_topi (fun v_23 ev_23 => ?_)
  refine ow_bast hx hb hK hP hD hS 1 rfl (in_lit (by decide +kernel)) dX12_feed_98 ?_
  clear hP hD hS
  try clear H locs
  intro f_24 H locs hP hD hS
  replace hP : va_P G vwCl [(mo, .inr (12, [.ref (h 0), .ref (h 1), .int 0, .int 0, .int 0, .int (-1), .int 0, .int 0, .int 0, .int 0, .long 0, .ref (h 2), .ref (h 3), .ref (h 4), .ref (h 5), .ref (h 6), .ref (h 7), .ref (h 8), .ref (h 9), .ref (h 10), .ref (h 11), .ref (h 12), .ref (h 13), .ref (h 14), .ref (h 15), .ref (h 16), .ref (h 17), .ref (h 18), .ref (h 19), .int 0, .int 0, .int 0, .int 0, .int 0, .int 0, .ref (h 20), .ref (h 21), .int 0, .ref (h 22), .ref (h 23), .ref (h 24), .ref (h 25), .ref (h 26), .int 0, .int 0, .ref (h 27), .ref (h 28), .ref (h 29), .ref (h 30), .ref (h 31), .int 0, .int 0, .ref (h 32), .ref (h 33), .ref (h 34), .ref (h 35), .ref (h 36), .ref (h 37)])), ((h 0), .inl (cy 1, 1720, .inl f_24)), ((h 2), .inl (cy 0, 2, .inl (fun _ => 0))), ((h 3), .inl (cy 0, 2, .inl (fun _ => 0))), ((h 4), .inl (cy 0, 2, .inl (fun _ => 0))), ((h 5), .inl (cy 0, 2, .inl (f 0))), ((h 12), .inl (cy 2, 2, .inl (f 1))), ((h 7), .inl (cy 0, 1200, .inl (fun _ => 0))), ((h 8), .inl (cy 0, 1200, .inl (fun _ => 0))), ((h 20), .inl (cy 2, 8, .inl (fun _ => 0))), ((h 21), .inl (cy 0, 8, .inl (fun _ => 0))), ((h 32), .inl (cy 0, 3, .inl (f 2))), ((h 33), .inl (cy 0, 120, .inl (fun _ => 0))), ((h 34), .inl (cy 0, 120, .inl (fun _ => 0))), ((h 35), .inl (cy 0, 24, .inl (fun _ => 0))), ((h 36), .inl (cy 2, 24, .inl (fun _ => 0))), ((h 37), .inl (cy 2, 3, .inl (fun _ => 0)))] H := hP
  replace hD : va_D A [(mo, .inr (12, [.ref (h 0), .ref (h 1), .int 0, .int 0, .int 0, .int (-1), .int 0, .int 0, .int 0, .int 0, .long 0, .ref (h 2), .ref (h 3), .ref (h 4), .ref (h 5), .ref (h 6), .ref (h 7), .ref (h 8), .ref (h 9), .ref (h 10), .ref (h 11), .ref (h 12), .ref (h 13), .ref (h 14), .ref (h 15), .ref (h 16), .ref (h 17), .ref (h 18), .ref (h 19), .int 0, .int 0, .int 0, .int 0, .int 0, .int 0, .ref (h 20), .ref (h 21), .int 0, .ref (h 22), .ref (h 23), .ref (h 24), .ref (h 25), .ref (h 26), .int 0, .int 0, .ref (h 27), .ref (h 28), .ref (h 29), .ref (h 30), .ref (h 31), .int 0, .int 0, .ref (h 32), .ref (h 33), .ref (h 34), .ref (h 35), .ref (h 36), .ref (h 37)])), ((h 0), .inl (cy 1, 1720, .inl f_24)), ((h 2), .inl (cy 0, 2, .inl (fun _ => 0))), ((h 3), .inl (cy 0, 2, .inl (fun _ => 0))), ((h 4), .inl (cy 0, 2, .inl (fun _ => 0))), ((h 5), .inl (cy 0, 2, .inl (f 0))), ((h 12), .inl (cy 2, 2, .inl (f 1))), ((h 7), .inl (cy 0, 1200, .inl (fun _ => 0))), ((h 8), .inl (cy 0, 1200, .inl (fun _ => 0))), ((h 20), .inl (cy 2, 8, .inl (fun _ => 0))), ((h 21), .inl (cy 0, 8, .inl (fun _ => 0))), ((h 32), .inl (cy 0, 3, .inl (f 2))), ((h 33), .inl (cy 0, 120, .inl (fun _ => 0))), ((h 34), .inl (cy 0, 120, .inl (fun _ => 0))), ((h 35), .inl (cy 0, 24, .inl (fun _ => 0))), ((h 36), .inl (cy 2, 24, .inl (fun _ => 0))), ((h 37), .inl (cy 2, 3, .inl (fun _ => 0)))] := hD
  refine lv_iinc (v := 8) (lv' := [(6, .int 8), (7, .int a2), (0, .ref mo), (1, .int a1), (2, .int a2), (3, .int a3), (4, .int a4), (5, .int a5)]) hx hb dX12_feed_99 hl (k := 1) rfl (by decide) (by decide) rfl ?_
  clear hl
  try clear ls
  intro ls hl
  refine lv_goto (tgt := 18) hx hb dX12_feed_102 (by decide) ?_
  refine lv_iload hx hb dX12_feed_18 (lv_at hl 0 rfl) ?_
  refine lv_bipush (v := 20) hx hb dX12_feed_20 (by decide) ?_
  refine lv_icmp_ge (tgt := 105) hx hb dX12_feed_22 (by decide) (fun c9 => absurd c9 (by decide)) (fun _ => ?_)
  refine lv_iload hx hb dX12_feed_25 (lv_at hl 0 rfl) ?_
  refine lv_iconst (v := 4) hx hb dX12_feed_27 (by decide) ?_
  refine lv_icmp_ge (tgt := 35) hx hb dX12_feed_28 (by decide) (fun _ => ?_) (fun c9 => absurd (by decide) c9)
  refine lv_iload hx hb dX12_feed_35 (lv_at hl 0 rfl) ?_
  refine lv_bipush (v := 8) hx hb dX12_feed_37 (by decide) ?_
  refine lv_icmp_ge (tgt := 46) hx hb dX12_feed_39 (by decide) (fun _ => ?_) (fun c9 => absurd (by decide) c9)
  refine lv_iload hx hb dX12_feed_46 (lv_at hl 0 rfl) ?_
  refine lv_bipush (v := 12) hx hb dX12_feed_48 (by decide) ?_
  refine lv_icmp_ge (tgt := 57) hx hb dX12_feed_50 (by decide) (fun c9 => absurd c9 (by decide)) (fun _ => ?_)
  refine lv_iload_n hx hb dX12_feed_53 rfl (lv_at hl 5 rfl) ?_
  refine lv_goto (tgt := 71) hx hb dX12_feed_54 (by decide) ?_
  refine lv_istore (lv' := [(7, .int a3), (6, .int 8), (0, .ref mo), (1, .int a1), (2, .int a2), (3, .int a3), (4, .int a4), (5, .int a5)]) hx hb dX12_feed_71 hl (by decide) rfl ?_
  clear hl
  try clear ls
  intro ls hl
  refine lv_aload_n hx hb dX12_feed_73 rfl (lv_at hl 2 rfl) ?_
  refine va_get (ci := 12) (v := .ref (h 0)) (C := RX12) (T := TX12) (N := 58) hx hb ht iX12 hown hK hP 0 rfl rfl 0 (by decide) (ht _ k_276) (fun _ h9 => h9) rfl dX12_feed_74 ?_
  refine lv_aload_n hx hb dX12_feed_77 rfl (lv_at hl 2 rfl) ?_
  refine va_get (ci := 12) (v := .int 0) (C := RX12) (T := TX12) (N := 58) hx hb ht iX12 hown hK hP 0 rfl rfl 2 (by decide) (ht _ k_334) (fun _ h9 => h9) rfl dX12_feed_78 ?_
  refine lv_iload hx hb dX12_feed_81 (lv_at hl 1 rfl) ?_
  refine lv_iadd hx hb dX12_feed_83 ?_
  refine ow_top 8 (by decide +kernel) ?_
  refine lv_iload hx hb dX12_feed_84 (lv_at hl 0 rfl) ?_
  refine lv_bipush (v := 24) hx hb dX12_feed_86 (by decide) ?_
  refine lv_bipush (v := 8) hx hb dX12_feed_88 (by decide) ?_
  refine lv_iload hx hb dX12_feed_90 (lv_at hl 1 rfl) ?_
  refine lv_iconst (v := 3) hx hb dX12_feed_92 (by decide) ?_
  refine lv_iand hx hb dX12_feed_93 ?_
  refine ow_top 0 (by decide +kernel) ?_
  refine lv_imul hx hb dX12_feed_94 ?_
  refine ow_top 0 (by decide +kernel) ?_
  refine lv_isub hx hb dX12_feed_95 ?_
  refine ow_top 24 (by decide +kernel) ?_
  refine lv_ishr hx hb dX12_feed_96 ?_
  refine lv_topi (fun v_25 ev_25 => ?_)
  refine lv_i2b hx hb dX12_feed_97 rfl ?_
  refine lv_topi (fun v_26 ev_26 => ?_)
  refine ow_bast hx hb hK hP hD hS 1 rfl (in_lit (by decide +kernel)) dX12_feed_98 ?_
  clear hP hD hS
  try clear H locs
  intro f_27 H locs hP hD hS
  replace hP : va_P G vwCl [(mo, .inr (12, [.ref (h 0), .ref (h 1), .int 0, .int 0, .int 0, .int (-1), .int 0, .int 0, .int 0, .int 0, .long 0, .ref (h 2), .ref (h 3), .ref (h 4), .ref (h 5), .ref (h 6), .ref (h 7), .ref (h 8), .ref (h 9), .ref (h 10), .ref (h 11), .ref (h 12), .ref (h 13), .ref (h 14), .ref (h 15), .ref (h 16), .ref (h 17), .ref (h 18), .ref (h 19), .int 0, .int 0, .int 0, .int 0, .int 0, .int 0, .ref (h 20), .ref (h 21), .int 0, .ref (h 22), .ref (h 23), .ref (h 24), .ref (h 25), .ref (h 26), .int 0, .int 0, .ref (h 27), .ref (h 28), .ref (h 29), .ref (h 30), .ref (h 31), .int 0, .int 0, .ref (h 32), .ref (h 33), .ref (h 34), .ref (h 35), .ref (h 36), .ref (h 37)])), ((h 0), .inl (cy 1, 1720, .inl f_27)), ((h 2), .inl (cy 0, 2, .inl (fun _ => 0))), ((h 3), .inl (cy 0, 2, .inl (fun _ => 0))), ((h 4), .inl (cy 0, 2, .inl (fun _ => 0))), ((h 5), .inl (cy 0, 2, .inl (f 0))), ((h 12), .inl (cy 2, 2, .inl (f 1))), ((h 7), .inl (cy 0, 1200, .inl (fun _ => 0))), ((h 8), .inl (cy 0, 1200, .inl (fun _ => 0))), ((h 20), .inl (cy 2, 8, .inl (fun _ => 0))), ((h 21), .inl (cy 0, 8, .inl (fun _ => 0))), ((h 32), .inl (cy 0, 3, .inl (f 2))), ((h 33), .inl (cy 0, 120, .inl (fun _ => 0))), ((h 34), .inl (cy 0, 120, .inl (fun _ => 0))), ((h 35), .inl (cy 0, 24, .inl (fun _ => 0))), ((h 36), .inl (cy 2, 24, .inl (fun _ => 0))), ((h 37), .inl (cy 2, 3, .inl (fun _ => 0)))] H := hP
  replace hD : va_D A [(mo, .inr (12, [.ref (h 0), .ref (h 1), .int 0, .int 0, .int 0, .int (-1), .int 0, .int 0, .int 0, .int 0, .long 0, .ref (h 2), .ref (h 3), .ref (h 4), .ref (h 5), .ref (h 6), .ref (h 7), .ref (h 8), .ref (h 9), .ref (h 10), .ref (h 11), .ref (h 12), .ref (h 13), .ref (h 14), .ref (h 15), .ref (h 16), .ref (h 17), .ref (h 18), .ref (h 19), .int 0, .int 0, .int 0, .int 0, .int 0, .int 0, .ref (h 20), .ref (h 21), .int 0, .ref (h 22), .ref (h 23), .ref (h 24), .ref (h 25), .ref (h 26), .int 0, .int 0, .ref (h 27), .ref (h 28), .ref (h 29), .ref (h 30), .ref (h 31), .int 0, .int 0, .ref (h 32), .ref (h 33), .ref (h 34), .ref (h 35), .ref (h 36), .ref (h 37)])), ((h 0), .inl (cy 1, 1720, .inl f_27)), ((h 2), .inl (cy 0, 2, .inl (fun _ => 0))), ((h 3), .inl (cy 0, 2, .inl (fun _ => 0))), ((h 4), .inl (cy 0, 2, .inl (fun _ => 0))), ((h 5), .inl (cy 0, 2, .inl (f 0))), ((h 12), .inl (cy 2, 2, .inl (f 1))), ((h 7), .inl (cy 0, 1200, .inl (fun _ => 0))), ((h 8), .inl (cy 0, 1200, .inl (fun _ => 0))), ((h 20), .inl (cy 2, 8, .inl (fun _ => 0))), ((h 21), .inl (cy 0, 8, .inl (fun _ => 0))), ((h 32), .inl (cy 0, 3, .inl (f 2))), ((h 33), .inl (cy 0, 120, .inl (fun _ => 0))), ((h 34), .inl (cy 0, 120, .inl (fun _ => 0))), ((h 35), .inl (cy 0, 24, .inl (fun _ => 0))), ((h 36), .inl (cy 2, 24, .inl (fun _ => 0))), ((h 37), .inl (cy 2, 3, .inl (fun _ => 0)))] := hD
  refine lv_iinc (v := 9) (lv' := [(6, .int 9), (7, .int a3), (0, .ref mo), (1, .int a1), (2, .int a2), (3, .int a3), (4, .int a4), (5, .int a5)]) hx hb dX12_feed_99 hl (k := 1) rfl (by decide) (by decide) rfl ?_
  clear hl
  try clear ls
  intro ls hl
  refine lv_goto (tgt := 18) hx hb dX12_feed_102 (by decide) ?_
  refine lv_iload hx hb dX12_feed_18 (lv_at hl 0 rfl) ?_
  refine lv_bipush (v := 20) hx hb dX12_feed_20 (by decide) ?_
  refine lv_icmp_ge (tgt := 105) hx hb dX12_feed_22 (by decide) (fun c9 => absurd c9 (by decide)) (fun _ => ?_)
  refine lv_iload hx hb dX12_feed_25 (lv_at hl 0 rfl) ?_
  refine lv_iconst (v := 4) hx hb dX12_feed_27 (by decide) ?_
  refine lv_icmp_ge (tgt := 35) hx hb dX12_feed_28 (by decide) (fun _ => ?_) (fun c9 => absurd (by decide) c9)
  refine lv_iload hx hb dX12_feed_35 (lv_at hl 0 rfl) ?_
  refine lv_bipush (v := 8) hx hb dX12_feed_37 (by decide) ?_
  refine lv_icmp_ge (tgt := 46) hx hb dX12_feed_39 (by decide) (fun _ => ?_) (fun c9 => absurd (by decide) c9)
  refine lv_iload hx hb dX12_feed_46 (lv_at hl 0 rfl) ?_
  refine lv_bipush (v := 12) hx hb dX12_feed_48 (by decide) ?_
  refine lv_icmp_ge (tgt := 57) hx hb dX12_feed_50 (by decide) (fun c9 => absurd c9 (by decide)) (fun _ => ?_)
  refine lv_iload_n hx hb dX12_feed_53 rfl (lv_at hl 5 rfl) ?_
  refine lv_goto (tgt := 71) hx hb dX12_feed_54 (by decide) ?_
  refine lv_istore (lv' := [(7, .int a3), (6, .int 9), (0, .ref mo), (1, .int a1), (2, .int a2), (3, .int a3), (4, .int a4), (5, .int a5)]) hx hb dX12_feed_71 hl (by decide) rfl ?_
  clear hl
  try clear ls
  intro ls hl
  refine lv_aload_n hx hb dX12_feed_73 rfl (lv_at hl 2 rfl) ?_
  refine va_get (ci := 12) (v := .ref (h 0)) (C := RX12) (T := TX12) (N := 58) hx hb ht iX12 hown hK hP 0 rfl rfl 0 (by decide) (ht _ k_276) (fun _ h9 => h9) rfl dX12_feed_74 ?_
  refine lv_aload_n hx hb dX12_feed_77 rfl (lv_at hl 2 rfl) ?_
  refine va_get (ci := 12) (v := .int 0) (C := RX12) (T := TX12) (N := 58) hx hb ht iX12 hown hK hP 0 rfl rfl 2 (by decide) (ht _ k_334) (fun _ h9 => h9) rfl dX12_feed_78 ?_
  refine lv_iload hx hb dX12_feed_81 (lv_at hl 1 rfl) ?_
  refine lv_iadd hx hb dX12_feed_83 ?_
  refine ow_top 9 (by decide +kernel) ?_
  refine lv_iload hx hb dX12_feed_84 (lv_at hl 0 rfl) ?_
  refine lv_bipush (v := 24) hx hb dX12_feed_86 (by decide) ?_
  refine lv_bipush (v := 8) hx hb dX12_feed_88 (by decide) ?_
  refine lv_iload hx hb dX12_feed_90 (lv_at hl 1 rfl) ?_
  refine lv_iconst (v := 3) hx hb dX12_feed_92 (by decide) ?_
  refine lv_iand hx hb dX12_feed_93 ?_
  refine ow_top 1 (by decide +kernel) ?_
  refine lv_imul hx hb dX12_feed_94 ?_
  refine ow_top 8 (by decide +kernel) ?_
  refine lv_isub hx hb dX12_feed_95 ?_
  refine ow_top 16 (by decide +kernel) ?_
  refine lv_ishr hx hb dX12_feed_96 ?_
  refine lv_topi (fun v_28 ev_28 => ?_)
  refine lv_i2b hx hb dX12_feed_97 rfl ?_
  refine lv_topi (fun v_29 ev_29 => ?_)
  refine ow_bast hx hb hK hP hD hS 1 rfl (in_lit (by decide +kernel)) dX12_feed_98 ?_
  clear hP hD hS
  try clear H locs
  intro f_30 H locs hP hD hS
  replace hP : va_P G vwCl [(mo, .inr (12, [.ref (h 0), .ref (h 1), .int 0, .int 0, .int 0, .int (-1), .int 0, .int 0, .int 0, .int 0, .long 0, .ref (h 2), .ref (h 3), .ref (h 4), .ref (h 5), .ref (h 6), .ref (h 7), .ref (h 8), .ref (h 9), .ref (h 10), .ref (h 11), .ref (h 12), .ref (h 13), .ref (h 14), .ref (h 15), .ref (h 16), .ref (h 17), .ref (h 18), .ref (h 19), .int 0, .int 0, .int 0, .int 0, .int 0, .int 0, .ref (h 20), .ref (h 21), .int 0, .ref (h 22), .ref (h 23), .ref (h 24), .ref (h 25), .ref (h 26), .int 0, .int 0, .ref (h 27), .ref (h 28), .ref (h 29), .ref (h 30), .ref (h 31), .int 0, .int 0, .ref (h 32), .ref (h 33), .ref (h 34), .ref (h 35), .ref (h 36), .ref (h 37)])), ((h 0), .inl (cy 1, 1720, .inl f_30)), ((h 2), .inl (cy 0, 2, .inl (fun _ => 0))), ((h 3), .inl (cy 0, 2, .inl (fun _ => 0))), ((h 4), .inl (cy 0, 2, .inl (fun _ => 0))), ((h 5), .inl (cy 0, 2, .inl (f 0))), ((h 12), .inl (cy 2, 2, .inl (f 1))), ((h 7), .inl (cy 0, 1200, .inl (fun _ => 0))), ((h 8), .inl (cy 0, 1200, .inl (fun _ => 0))), ((h 20), .inl (cy 2, 8, .inl (fun _ => 0))), ((h 21), .inl (cy 0, 8, .inl (fun _ => 0))), ((h 32), .inl (cy 0, 3, .inl (f 2))), ((h 33), .inl (cy 0, 120, .inl (fun _ => 0))), ((h 34), .inl (cy 0, 120, .inl (fun _ => 0))), ((h 35), .inl (cy 0, 24, .inl (fun _ => 0))), ((h 36), .inl (cy 2, 24, .inl (fun _ => 0))), ((h 37), .inl (cy 2, 3, .inl (fun _ => 0)))] H := hP
  replace hD : va_D A [(mo, .inr (12, [.ref (h 0), .ref (h 1), .int 0, .int 0, .int 0, .int (-1), .int 0, .int 0, .int 0, .int 0, .long 0, .ref (h 2), .ref (h 3), .ref (h 4), .ref (h 5), .ref (h 6), .ref (h 7), .ref (h 8), .ref (h 9), .ref (h 10), .ref (h 11), .ref (h 12), .ref (h 13), .ref (h 14), .ref (h 15), .ref (h 16), .ref (h 17), .ref (h 18), .ref (h 19), .int 0, .int 0, .int 0, .int 0, .int 0, .int 0, .ref (h 20), .ref (h 21), .int 0, .ref (h 22), .ref (h 23), .ref (h 24), .ref (h 25), .ref (h 26), .int 0, .int 0, .ref (h 27), .ref (h 28), .ref (h 29), .ref (h 30), .ref (h 31), .int 0, .int 0, .ref (h 32), .ref (h 33), .ref (h 34), .ref (h 35), .ref (h 36), .ref (h 37)])), ((h 0), .inl (cy 1, 1720, .inl f_30)), ((h 2), .inl (cy 0, 2, .inl (fun _ => 0))), ((h 3), .inl (cy 0, 2, .inl (fun _ => 0))), ((h 4), .inl (cy 0, 2, .inl (fun _ => 0))), ((h 5), .inl (cy 0, 2, .inl (f 0))), ((h 12), .inl (cy 2, 2, .inl (f 1))), ((h 7), .inl (cy 0, 1200, .inl (fun _ => 0))), ((h 8), .inl (cy 0, 1200, .inl (fun _ => 0))), ((h 20), .inl (cy 2, 8, .inl (fun _ => 0))), ((h 21), .inl (cy 0, 8, .inl (fun _ => 0))), ((h 32), .inl (cy 0, 3, .inl (f 2))), ((h 33), .inl (cy 0, 120, .inl (fun _ => 0))), ((h 34), .inl (cy 0, 120, .inl (fun _ => 0))), ((h 35), .inl (cy 0, 24, .inl (fun _ => 0))), ((h 36), .inl (cy 2, 24, .inl (fun _ => 0))), ((h 37), .inl (cy 2, 3, .inl (fun _ => 0)))] := hD
  refine lv_iinc (v := 10) (lv' := [(6, .int 10), (7, .int a3), (0, .ref mo), (1, .int a1), (2, .int a2), (3, .int a3), (4, .int a4), (5, .int a5)]) hx hb dX12_feed_99 hl (k := 1) rfl (by decide) (by decide) rfl ?_
  clear hl
  try clear ls
  intro ls hl
  refine lv_goto (tgt := 18) hx hb dX12_feed_102 (by decide) ?_
  refine lv_iload hx hb dX12_feed_18 (lv_at hl 0 rfl) ?_
  refine lv_bipush (v := 20) hx hb dX12_feed_20 (by decide) ?_
  refine lv_icmp_ge (tgt := 105) hx hb dX12_feed_22 (by decide) (fun c9 => absurd c9 (by decide)) (fun _ => ?_)
  refine lv_iload hx hb dX12_feed_25 (lv_at hl 0 rfl) ?_
  refine lv_iconst (v := 4) hx hb dX12_feed_27 (by decide) ?_
  refine lv_icmp_ge (tgt := 35) hx hb dX12_feed_28 (by decide) (fun _ => ?_) (fun c9 => absurd (by decide) c9)
  refine lv_iload hx hb dX12_feed_35 (lv_at hl 0 rfl) ?_
  refine lv_bipush (v := 8) hx hb dX12_feed_37 (by decide) ?_
  refine lv_icmp_ge (tgt := 46) hx hb dX12_feed_39 (by decide) (fun _ => ?_) (fun c9 => absurd (by decide) c9)
  refine lv_iload hx hb dX12_feed_46 (lv_at hl 0 rfl) ?_
  refine lv_bipush (v := 12) hx hb dX12_feed_48 (by decide) ?_
  refine lv_icmp_ge (tgt := 57) hx hb dX12_feed_50 (by decide) (fun c9 => absurd c9 (by decide)) (fun _ => ?_)
  refine lv_iload_n hx hb dX12_feed_53 rfl (lv_at hl 5 rfl) ?_
  refine lv_goto (tgt := 71) hx hb dX12_feed_54 (by decide) ?_
  refine lv_istore (lv' := [(7, .int a3), (6, .int 10), (0, .ref mo), (1, .int a1), (2, .int a2), (3, .int a3), (4, .int a4), (5, .int a5)]) hx hb dX12_feed_71 hl (by decide) rfl ?_
  clear hl
  try clear ls
  intro ls hl
  refine lv_aload_n hx hb dX12_feed_73 rfl (lv_at hl 2 rfl) ?_
  refine va_get (ci := 12) (v := .ref (h 0)) (C := RX12) (T := TX12) (N := 58) hx hb ht iX12 hown hK hP 0 rfl rfl 0 (by decide) (ht _ k_276) (fun _ h9 => h9) rfl dX12_feed_74 ?_
  refine lv_aload_n hx hb dX12_feed_77 rfl (lv_at hl 2 rfl) ?_
  refine va_get (ci := 12) (v := .int 0) (C := RX12) (T := TX12) (N := 58) hx hb ht iX12 hown hK hP 0 rfl rfl 2 (by decide) (ht _ k_334) (fun _ h9 => h9) rfl dX12_feed_78 ?_
  refine lv_iload hx hb dX12_feed_81 (lv_at hl 1 rfl) ?_
  refine lv_iadd hx hb dX12_feed_83 ?_
  refine ow_top 10 (by decide +kernel) ?_
  refine lv_iload hx hb dX12_feed_84 (lv_at hl 0 rfl) ?_
  refine lv_bipush (v := 24) hx hb dX12_feed_86 (by decide) ?_
  refine lv_bipush (v := 8) hx hb dX12_feed_88 (by decide) ?_
  refine lv_iload hx hb dX12_feed_90 (lv_at hl 1 rfl) ?_
  refine lv_iconst (v := 3) hx hb dX12_feed_92 (by decide) ?_
  refine lv_iand hx hb dX12_feed_93 ?_
  refine ow_top 2 (by decide +kernel) ?_
  refine lv_imul hx hb dX12_feed_94 ?_
  refine ow_top 16 (by decide +kernel) ?_
  refine lv_isub hx hb dX12_feed_95 ?_
  refine ow_top 8 (by decide +kernel) ?_
  refine lv_ishr hx hb dX12_feed_96 ?_
  refine lv_topi (fun v_31 ev_31 => ?_)
  refine lv_i2b hx hb dX12_feed_97 rfl ?_
  refine lv_topi (fun v_32 ev_32 => ?_)
  refine ow_bast hx hb hK hP hD hS 1 rfl (in_lit (by decide +kernel)) dX12_feed_98 ?_
  clear hP hD hS
  try clear H locs
  intro f_33 H locs hP hD hS
  replace hP : va_P G vwCl [(mo, .inr (12, [.ref (h 0), .ref (h 1), .int 0, .int 0, .int 0, .int (-1), .int 0, .int 0, .int 0, .int 0, .long 0, .ref (h 2), .ref (h 3), .ref (h 4), .ref (h 5), .ref (h 6), .ref (h 7), .ref (h 8), .ref (h 9), .ref (h 10), .ref (h 11), .ref (h 12), .ref (h 13), .ref (h 14), .ref (h 15), .ref (h 16), .ref (h 17), .ref (h 18), .ref (h 19), .int 0, .int 0, .int 0, .int 0, .int 0, .int 0, .ref (h 20), .ref (h 21), .int 0, .ref (h 22), .ref (h 23), .ref (h 24), .ref (h 25), .ref (h 26), .int 0, .int 0, .ref (h 27), .ref (h 28), .ref (h 29), .ref (h 30), .ref (h 31), .int 0, .int 0, .ref (h 32), .ref (h 33), .ref (h 34), .ref (h 35), .ref (h 36), .ref (h 37)])), ((h 0), .inl (cy 1, 1720, .inl f_33)), ((h 2), .inl (cy 0, 2, .inl (fun _ => 0))), ((h 3), .inl (cy 0, 2, .inl (fun _ => 0))), ((h 4), .inl (cy 0, 2, .inl (fun _ => 0))), ((h 5), .inl (cy 0, 2, .inl (f 0))), ((h 12), .inl (cy 2, 2, .inl (f 1))), ((h 7), .inl (cy 0, 1200, .inl (fun _ => 0))), ((h 8), .inl (cy 0, 1200, .inl (fun _ => 0))), ((h 20), .inl (cy 2, 8, .inl (fun _ => 0))), ((h 21), .inl (cy 0, 8, .inl (fun _ => 0))), ((h 32), .inl (cy 0, 3, .inl (f 2))), ((h 33), .inl (cy 0, 120, .inl (fun _ => 0))), ((h 34), .inl (cy 0, 120, .inl (fun _ => 0))), ((h 35), .inl (cy 0, 24, .inl (fun _ => 0))), ((h 36), .inl (cy 2, 24, .inl (fun _ => 0))), ((h 37), .inl (cy 2, 3, .inl (fun _ => 0)))] H := hP
  replace hD : va_D A [(mo, .inr (12, [.ref (h 0), .ref (h 1), .int 0, .int 0, .int 0, .int (-1), .int 0, .int 0, .int 0, .int 0, .long 0, .ref (h 2), .ref (h 3), .ref (h 4), .ref (h 5), .ref (h 6), .ref (h 7), .ref (h 8), .ref (h 9), .ref (h 10), .ref (h 11), .ref (h 12), .ref (h 13), .ref (h 14), .ref (h 15), .ref (h 16), .ref (h 17), .ref (h 18), .ref (h 19), .int 0, .int 0, .int 0, .int 0, .int 0, .int 0, .ref (h 20), .ref (h 21), .int 0, .ref (h 22), .ref (h 23), .ref (h 24), .ref (h 25), .ref (h 26), .int 0, .int 0, .ref (h 27), .ref (h 28), .ref (h 29), .ref (h 30), .ref (h 31), .int 0, .int 0, .ref (h 32), .ref (h 33), .ref (h 34), .ref (h 35), .ref (h 36), .ref (h 37)])), ((h 0), .inl (cy 1, 1720, .inl f_33)), ((h 2), .inl (cy 0, 2, .inl (fun _ => 0))), ((h 3), .inl (cy 0, 2, .inl (fun _ => 0))), ((h 4), .inl (cy 0, 2, .inl (fun _ => 0))), ((h 5), .inl (cy 0, 2, .inl (f 0))), ((h 12), .inl (cy 2, 2, .inl (f 1))), ((h 7), .inl (cy 0, 1200, .inl (fun _ => 0))), ((h 8), .inl (cy 0, 1200, .inl (fun _ => 0))), ((h 20), .inl (cy 2, 8, .inl (fun _ => 0))), ((h 21), .inl (cy 0, 8, .inl (fun _ => 0))), ((h 32), .inl (cy 0, 3, .inl (f 2))), ((h 33), .inl (cy 0, 120, .inl (fun _ => 0))), ((h 34), .inl (cy 0, 120, .inl (fun _ => 0))), ((h 35), .inl (cy 0, 24, .inl (fun _ => 0))), ((h 36), .inl (cy 2, 24, .inl (fun _ => 0))), ((h 37), .inl (cy 2, 3, .inl (fun _ => 0)))] := hD
  refine lv_iinc (v := 11) (lv' := [(6, .int 11), (7, .int a3), (0, .ref mo), (1, .int a1), (2, .int a2), (3, .int a3), (4, .int a4), (5, .int a5)]) hx hb dX12_feed_99 hl (k := 1) rfl (by decide) (by decide) rfl ?_
  clear hl
  try clear ls
  intro ls hl
  refine lv_goto (tgt := 18) hx hb dX12_feed_102 (by decide) ?_
  refine lv_iload hx hb dX12_feed_18 (lv_at hl 0 rfl) ?_
  refine lv_bipush (v := 20) hx hb dX12_feed_20 (by decide) ?_
  refine lv_icmp_ge (tgt := 105) hx hb dX12_feed_22 (by decide) (fun c9 => absurd c9 (by decide)) (fun _ => ?_)
  refine lv_iload hx hb dX12_feed_25 (lv_at hl 0 rfl) ?_
  refine lv_iconst (v := 4) hx hb dX12_feed_27 (by decide) ?_
  refine lv_icmp_ge (tgt := 35) hx hb dX12_feed_28 (by decide) (fun _ => ?_) (fun c9 => absurd (by decide) c9)
  refine lv_iload hx hb dX12_feed_35 (lv_at hl 0 rfl) ?_
  refine lv_bipush (v := 8) hx hb dX12_feed_37 (by decide) ?_
  refine lv_icmp_ge (tgt := 46) hx hb dX12_feed_39 (by decide) (fun _ => ?_) (fun c9 => absurd (by decide) c9)
  refine lv_iload hx hb dX12_feed_46 (lv_at hl 0 rfl) ?_
  refine lv_bipush (v := 12) hx hb dX12_feed_48 (by decide) ?_
  refine lv_icmp_ge (tgt := 57) hx hb dX12_feed_50 (by decide) (fun c9 => absurd c9 (by decide)) (fun _ => ?_)
  refine lv_iload_n hx hb dX12_feed_53 rfl (lv_at hl 5 rfl) ?_
  refine lv_goto (tgt := 71) hx hb dX12_feed_54 (by decide) ?_
  refine lv_istore (lv' := [(7, .int a3), (6, .int 11), (0, .ref mo), (1, .int a1), (2, .int a2), (3, .int a3), (4, .int a4), (5, .int a5)]) hx hb dX12_feed_71 hl (by decide) rfl ?_
  clear hl
  try clear ls
  intro ls hl
  refine lv_aload_n hx hb dX12_feed_73 rfl (lv_at hl 2 rfl) ?_
  refine va_get (ci := 12) (v := .ref (h 0)) (C := RX12) (T := TX12) (N := 58) hx hb ht iX12 hown hK hP 0 rfl rfl 0 (by decide) (ht _ k_276) (fun _ h9 => h9) rfl dX12_feed_74 ?_
  refine lv_aload_n hx hb dX12_feed_77 rfl (lv_at hl 2 rfl) ?_
  refine va_get (ci := 12) (v := .int 0) (C := RX12) (T := TX12) (N := 58) hx hb ht iX12 hown hK hP 0 rfl rfl 2 (by decide) (ht _ k_334) (fun _ h9 => h9) rfl dX12_feed_78 ?_
  refine lv_iload hx hb dX12_feed_81 (lv_at hl 1 rfl) ?_
  refine lv_iadd hx hb dX12_feed_83 ?_
  refine ow_top 11 (by decide +kernel) ?_
  refine lv_iload hx hb dX12_feed_84 (lv_at hl 0 rfl) ?_
  refine lv_bipush (v := 24) hx hb dX12_feed_86 (by decide) ?_
  refine lv_bipush (v := 8) hx hb dX12_feed_88 (by decide) ?_
  refine lv_iload hx hb dX12_feed_90 (lv_at hl 1 rfl) ?_
  refine lv_iconst (v := 3) hx hb dX12_feed_92 (by decide) ?_
  refine lv_iand hx hb dX12_feed_93 ?_
  refine ow_top 3 (by decide +kernel) ?_
  refine lv_imul hx hb dX12_feed_94 ?_
  refine ow_top 24 (by decide +kernel) ?_
  refine lv_isub hx hb dX12_feed_95 ?_
  refine ow_top 0 (by decide +kernel) ?_
  refine lv_ishr hx hb dX12_feed_96 ?_
  refine lv_topi (fun v_34 ev_34 => ?_)
  refine lv_i2b hx hb dX12_feed_97 rfl ?_
  refine lv_topi (fun v_35 ev_35 => ?_)
  refine ow_bast hx hb hK hP hD hS 1 rfl (in_lit (by decide +kernel)) dX12_feed_98 ?_
  clear hP hD hS
  try clear H locs
  intro f_36 H locs hP hD hS
  replace hP : va_P G vwCl [(mo, .inr (12, [.ref (h 0), .ref (h 1), .int 0, .int 0, .int 0, .int (-1), .int 0, .int 0, .int 0, .int 0, .long 0, .ref (h 2), .ref (h 3), .ref (h 4), .ref (h 5), .ref (h 6), .ref (h 7), .ref (h 8), .ref (h 9), .ref (h 10), .ref (h 11), .ref (h 12), .ref (h 13), .ref (h 14), .ref (h 15), .ref (h 16), .ref (h 17), .ref (h 18), .ref (h 19), .int 0, .int 0, .int 0, .int 0, .int 0, .int 0, .ref (h 20), .ref (h 21), .int 0, .ref (h 22), .ref (h 23), .ref (h 24), .ref (h 25), .ref (h 26), .int 0, .int 0, .ref (h 27), .ref (h 28), .ref (h 29), .ref (h 30), .ref (h 31), .int 0, .int 0, .ref (h 32), .ref (h 33), .ref (h 34), .ref (h 35), .ref (h 36), .ref (h 37)])), ((h 0), .inl (cy 1, 1720, .inl f_36)), ((h 2), .inl (cy 0, 2, .inl (fun _ => 0))), ((h 3), .inl (cy 0, 2, .inl (fun _ => 0))), ((h 4), .inl (cy 0, 2, .inl (fun _ => 0))), ((h 5), .inl (cy 0, 2, .inl (f 0))), ((h 12), .inl (cy 2, 2, .inl (f 1))), ((h 7), .inl (cy 0, 1200, .inl (fun _ => 0))), ((h 8), .inl (cy 0, 1200, .inl (fun _ => 0))), ((h 20), .inl (cy 2, 8, .inl (fun _ => 0))), ((h 21), .inl (cy 0, 8, .inl (fun _ => 0))), ((h 32), .inl (cy 0, 3, .inl (f 2))), ((h 33), .inl (cy 0, 120, .inl (fun _ => 0))), ((h 34), .inl (cy 0, 120, .inl (fun _ => 0))), ((h 35), .inl (cy 0, 24, .inl (fun _ => 0))), ((h 36), .inl (cy 2, 24, .inl (fun _ => 0))), ((h 37), .inl (cy 2, 3, .inl (fun _ => 0)))] H := hP
  replace hD : va_D A [(mo, .inr (12, [.ref (h 0), .ref (h 1), .int 0, .int 0, .int 0, .int (-1), .int 0, .int 0, .int 0, .int 0, .long 0, .ref (h 2), .ref (h 3), .ref (h 4), .ref (h 5), .ref (h 6), .ref (h 7), .ref (h 8), .ref (h 9), .ref (h 10), .ref (h 11), .ref (h 12), .ref (h 13), .ref (h 14), .ref (h 15), .ref (h 16), .ref (h 17), .ref (h 18), .ref (h 19), .int 0, .int 0, .int 0, .int 0, .int 0, .int 0, .ref (h 20), .ref (h 21), .int 0, .ref (h 22), .ref (h 23), .ref (h 24), .ref (h 25), .ref (h 26), .int 0, .int 0, .ref (h 27), .ref (h 28), .ref (h 29), .ref (h 30), .ref (h 31), .int 0, .int 0, .ref (h 32), .ref (h 33), .ref (h 34), .ref (h 35), .ref (h 36), .ref (h 37)])), ((h 0), .inl (cy 1, 1720, .inl f_36)), ((h 2), .inl (cy 0, 2, .inl (fun _ => 0))), ((h 3), .inl (cy 0, 2, .inl (fun _ => 0))), ((h 4), .inl (cy 0, 2, .inl (fun _ => 0))), ((h 5), .inl (cy 0, 2, .inl (f 0))), ((h 12), .inl (cy 2, 2, .inl (f 1))), ((h 7), .inl (cy 0, 1200, .inl (fun _ => 0))), ((h 8), .inl (cy 0, 1200, .inl (fun _ => 0))), ((h 20), .inl (cy 2, 8, .inl (fun _ => 0))), ((h 21), .inl (cy 0, 8, .inl (fun _ => 0))), ((h 32), .inl (cy 0, 3, .inl (f 2))), ((h 33), .inl (cy 0, 120, .inl (fun _ => 0))), ((h 34), .inl (cy 0, 120, .inl (fun _ => 0))), ((h 35), .inl (cy 0, 24, .inl (fun _ => 0))), ((h 36), .inl (cy 2, 24, .inl (fun _ => 0))), ((h 37), .inl (cy 2, 3, .inl (fun _ => 0)))] := hD
  refine lv_iinc (v := 12) (lv' := [(6, .int 12), (7, .int a3), (0, .ref mo), (1, .int a1), (2, .int a2), (3, .int a3), (4, .int a4), (5, .int a5)]) hx hb dX12_feed_99 hl (k := 1) rfl (by decide) (by decide) rfl ?_
  clear hl
  try clear ls
  intro ls hl
  refine lv_goto (tgt := 18) hx hb dX12_feed_102 (by decide) ?_
  refine lv_iload hx hb dX12_feed_18 (lv_at hl 0 rfl) ?_
  refine lv_bipush (v := 20) hx hb dX12_feed_20 (by decide) ?_
  refine lv_icmp_ge (tgt := 105) hx hb dX12_feed_22 (by decide) (fun c9 => absurd c9 (by decide)) (fun _ => ?_)
  refine lv_iload hx hb dX12_feed_25 (lv_at hl 0 rfl) ?_
  refine lv_iconst (v := 4) hx hb dX12_feed_27 (by decide) ?_
  refine lv_icmp_ge (tgt := 35) hx hb dX12_feed_28 (by decide) (fun _ => ?_) (fun c9 => absurd (by decide) c9)
  refine lv_iload hx hb dX12_feed_35 (lv_at hl 0 rfl) ?_
  refine lv_bipush (v := 8) hx hb dX12_feed_37 (by decide) ?_
  refine lv_icmp_ge (tgt := 46) hx hb dX12_feed_39 (by decide) (fun _ => ?_) (fun c9 => absurd (by decide) c9)
  refine lv_iload hx hb dX12_feed_46 (lv_at hl 0 rfl) ?_
  refine lv_bipush (v := 12) hx hb dX12_feed_48 (by decide) ?_
  refine lv_icmp_ge (tgt := 57) hx hb dX12_feed_50 (by decide) (fun _ => ?_) (fun c9 => absurd (by decide) c9)
  refine lv_iload hx hb dX12_feed_57 (lv_at hl 0 rfl) ?_
  refine lv_bipush (v := 16) hx hb dX12_feed_59 (by decide) ?_
  refine lv_icmp_ge (tgt := 69) hx hb dX12_feed_61 (by decide) (fun c9 => absurd c9 (by decide)) (fun _ => ?_)
  refine lv_iload hx hb dX12_feed_64 (lv_at hl 6 rfl) ?_
  refine lv_goto (tgt := 71) hx hb dX12_feed_66 (by decide) ?_
  refine lv_istore (lv' := [(7, .int a4), (6, .int 12), (0, .ref mo), (1, .int a1), (2, .int a2), (3, .int a3), (4, .int a4), (5, .int a5)]) hx hb dX12_feed_71 hl (by decide) rfl ?_
  clear hl
  try clear ls
  intro ls hl
  refine lv_aload_n hx hb dX12_feed_73 rfl (lv_at hl 2 rfl) ?_
  refine va_get (ci := 12) (v := .ref (h 0)) (C := RX12) (T := TX12) (N := 58) hx hb ht iX12 hown hK hP 0 rfl rfl 0 (by decide) (ht _ k_276) (fun _ h9 => h9) rfl dX12_feed_74 ?_
  refine lv_aload_n hx hb dX12_feed_77 rfl (lv_at hl 2 rfl) ?_
  refine va_get (ci := 12) (v := .int 0) (C := RX12) (T := TX12) (N := 58) hx hb ht iX12 hown hK hP 0 rfl rfl 2 (by decide) (ht _ k_334) (fun _ h9 => h9) rfl dX12_feed_78 ?_
  refine lv_iload hx hb dX12_feed_81 (lv_at hl 1 rfl) ?_
  refine lv_iadd hx hb dX12_feed_83 ?_
  refine ow_top 12 (by decide +kernel) ?_
  refine lv_iload hx hb dX12_feed_84 (lv_at hl 0 rfl) ?_
  refine lv_bipush (v := 24) hx hb dX12_feed_86 (by decide) ?_
  refine lv_bipush (v := 8) hx hb dX12_feed_88 (by decide) ?_
  refine lv_iload hx hb dX12_feed_90 (lv_at hl 1 rfl) ?_
  refine lv_iconst (v := 3) hx hb dX12_feed_92 (by decide) ?_
  refine lv_iand hx hb dX12_feed_93 ?_
  refine ow_top 0 (by decide +kernel) ?_
  refine lv_imul hx hb dX12_feed_94 ?_
  refine ow_top 0 (by decide +kernel) ?_
  refine lv_isub hx hb dX12_feed_95 ?_
  refine ow_top 24 (by decide +kernel) ?_
  refine lv_ishr hx hb dX12_feed_96 ?_
  refine lv_topi (fun v_37 ev_37 => ?_)
  refine lv_i2b hx hb dX12_feed_97 rfl ?_
  refine lv_topi (fun v_38 ev_38 => ?_)
  refine ow_bast hx hb hK hP hD hS 1 rfl (in_lit (by decide +kernel)) dX12_feed_98 ?_
  clear hP hD hS
  try clear H locs
  intro f_39 H locs hP hD hS
  replace hP : va_P G vwCl [(mo, .inr (12, [.ref (h 0), .ref (h 1), .int 0, .int 0, .int 0, .int (-1), .int 0, .int 0, .int 0, .int 0, .long 0, .ref (h 2), .ref (h 3), .ref (h 4), .ref (h 5), .ref (h 6), .ref (h 7), .ref (h 8), .ref (h 9), .ref (h 10), .ref (h 11), .ref (h 12), .ref (h 13), .ref (h 14), .ref (h 15), .ref (h 16), .ref (h 17), .ref (h 18), .ref (h 19), .int 0, .int 0, .int 0, .int 0, .int 0, .int 0, .ref (h 20), .ref (h 21), .int 0, .ref (h 22), .ref (h 23), .ref (h 24), .ref (h 25), .ref (h 26), .int 0, .int 0, .ref (h 27), .ref (h 28), .ref (h 29), .ref (h 30), .ref (h 31), .int 0, .int 0, .ref (h 32), .ref (h 33), .ref (h 34), .ref (h 35), .ref (h 36), .ref (h 37)])), ((h 0), .inl (cy 1, 1720, .inl f_39)), ((h 2), .inl (cy 0, 2, .inl (fun _ => 0))), ((h 3), .inl (cy 0, 2, .inl (fun _ => 0))), ((h 4), .inl (cy 0, 2, .inl (fun _ => 0))), ((h 5), .inl (cy 0, 2, .inl (f 0))), ((h 12), .inl (cy 2, 2, .inl (f 1))), ((h 7), .inl (cy 0, 1200, .inl (fun _ => 0))), ((h 8), .inl (cy 0, 1200, .inl (fun _ => 0))), ((h 20), .inl (cy 2, 8, .inl (fun _ => 0))), ((h 21), .inl (cy 0, 8, .inl (fun _ => 0))), ((h 32), .inl (cy 0, 3, .inl (f 2))), ((h 33), .inl (cy 0, 120, .inl (fun _ => 0))), ((h 34), .inl (cy 0, 120, .inl (fun _ => 0))), ((h 35), .inl (cy 0, 24, .inl (fun _ => 0))), ((h 36), .inl (cy 2, 24, .inl (fun _ => 0))), ((h 37), .inl (cy 2, 3, .inl (fun _ => 0)))] H := hP
  replace hD : va_D A [(mo, .inr (12, [.ref (h 0), .ref (h 1), .int 0, .int 0, .int 0, .int (-1), .int 0, .int 0, .int 0, .int 0, .long 0, .ref (h 2), .ref (h 3), .ref (h 4), .ref (h 5), .ref (h 6), .ref (h 7), .ref (h 8), .ref (h 9), .ref (h 10), .ref (h 11), .ref (h 12), .ref (h 13), .ref (h 14), .ref (h 15), .ref (h 16), .ref (h 17), .ref (h 18), .ref (h 19), .int 0, .int 0, .int 0, .int 0, .int 0, .int 0, .ref (h 20), .ref (h 21), .int 0, .ref (h 22), .ref (h 23), .ref (h 24), .ref (h 25), .ref (h 26), .int 0, .int 0, .ref (h 27), .ref (h 28), .ref (h 29), .ref (h 30), .ref (h 31), .int 0, .int 0, .ref (h 32), .ref (h 33), .ref (h 34), .ref (h 35), .ref (h 36), .ref (h 37)])), ((h 0), .inl (cy 1, 1720, .inl f_39)), ((h 2), .inl (cy 0, 2, .inl (fun _ => 0))), ((h 3), .inl (cy 0, 2, .inl (fun _ => 0))), ((h 4), .inl (cy 0, 2, .inl (fun _ => 0))), ((h 5), .inl (cy 0, 2, .inl (f 0))), ((h 12), .inl (cy 2, 2, .inl (f 1))), ((h 7), .inl (cy 0, 1200, .inl (fun _ => 0))), ((h 8), .inl (cy 0, 1200, .inl (fun _ => 0))), ((h 20), .inl (cy 2, 8, .inl (fun _ => 0))), ((h 21), .inl (cy 0, 8, .inl (fun _ => 0))), ((h 32), .inl (cy 0, 3, .inl (f 2))), ((h 33), .inl (cy 0, 120, .inl (fun _ => 0))), ((h 34), .inl (cy 0, 120, .inl (fun _ => 0))), ((h 35), .inl (cy 0, 24, .inl (fun _ => 0))), ((h 36), .inl (cy 2, 24, .inl (fun _ => 0))), ((h 37), .inl (cy 2, 3, .inl (fun _ => 0)))] := hD
  refine lv_iinc (v := 13) (lv' := [(6, .int 13), (7, .int a4), (0, .ref mo), (1, .int a1), (2, .int a2), (3, .int a3), (4, .int a4), (5, .int a5)]) hx hb dX12_feed_99 hl (k := 1) rfl (by decide) (by decide) rfl ?_
  clear hl
  try clear ls
  intro ls hl
  refine lv_goto (tgt := 18) hx hb dX12_feed_102 (by decide) ?_
  refine lv_iload hx hb dX12_feed_18 (lv_at hl 0 rfl) ?_
  refine lv_bipush (v := 20) hx hb dX12_feed_20 (by decide) ?_
  refine lv_icmp_ge (tgt := 105) hx hb dX12_feed_22 (by decide) (fun c9 => absurd c9 (by decide)) (fun _ => ?_)
  refine lv_iload hx hb dX12_feed_25 (lv_at hl 0 rfl) ?_
  refine lv_iconst (v := 4) hx hb dX12_feed_27 (by decide) ?_
  refine lv_icmp_ge (tgt := 35) hx hb dX12_feed_28 (by decide) (fun _ => ?_) (fun c9 => absurd (by decide) c9)
  refine lv_iload hx hb dX12_feed_35 (lv_at hl 0 rfl) ?_
  refine lv_bipush (v := 8) hx hb dX12_feed_37 (by decide) ?_
  refine lv_icmp_ge (tgt := 46) hx hb dX12_feed_39 (by decide) (fun _ => ?_) (fun c9 => absurd (by decide) c9)
  refine lv_iload hx hb dX12_feed_46 (lv_at hl 0 rfl) ?_
  refine lv_bipush (v := 12) hx hb dX12_feed_48 (by decide) ?_
  refine lv_icmp_ge (tgt := 57) hx hb dX12_feed_50 (by decide) (fun _ => ?_) (fun c9 => absurd (by decide) c9)
  refine lv_iload hx hb dX12_feed_57 (lv_at hl 0 rfl) ?_
  refine lv_bipush (v := 16) hx hb dX12_feed_59 (by decide) ?_
  refine lv_icmp_ge (tgt := 69) hx hb dX12_feed_61 (by decide) (fun c9 => absurd c9 (by decide)) (fun _ => ?_)
  refine lv_iload hx hb dX12_feed_64 (lv_at hl 6 rfl) ?_
  refine lv_goto (tgt := 71) hx hb dX12_feed_66 (by decide) ?_
  refine lv_istore (lv' := [(7, .int a4), (6, .int 13), (0, .ref mo), (1, .int a1), (2, .int a2), (3, .int a3), (4, .int a4), (5, .int a5)]) hx hb dX12_feed_71 hl (by decide) rfl ?_
  clear hl
  try clear ls
  intro ls hl
  refine lv_aload_n hx hb dX12_feed_73 rfl (lv_at hl 2 rfl) ?_
  refine va_get (ci := 12) (v := .ref (h 0)) (C := RX12) (T := TX12) (N := 58) hx hb ht iX12 hown hK hP 0 rfl rfl 0 (by decide) (ht _ k_276) (fun _ h9 => h9) rfl dX12_feed_74 ?_
  refine lv_aload_n hx hb dX12_feed_77 rfl (lv_at hl 2 rfl) ?_
  refine va_get (ci := 12) (v := .int 0) (C := RX12) (T := TX12) (N := 58) hx hb ht iX12 hown hK hP 0 rfl rfl 2 (by decide) (ht _ k_334) (fun _ h9 => h9) rfl dX12_feed_78 ?_
  refine lv_iload hx hb dX12_feed_81 (lv_at hl 1 rfl) ?_
  refine lv_iadd hx hb dX12_feed_83 ?_
  refine ow_top 13 (by decide +kernel) ?_
  refine lv_iload hx hb dX12_feed_84 (lv_at hl 0 rfl) ?_
  refine lv_bipush (v := 24) hx hb dX12_feed_86 (by decide) ?_
  refine lv_bipush (v := 8) hx hb dX12_feed_88 (by decide) ?_
  refine lv_iload hx hb dX12_feed_90 (lv_at hl 1 rfl) ?_
  refine lv_iconst (v := 3) hx hb dX12_feed_92 (by decide) ?_
  refine lv_iand hx hb dX12_feed_93 ?_
  refine ow_top 1 (by decide +kernel) ?_
  refine lv_imul hx hb dX12_feed_94 ?_
  refine ow_top 8 (by decide +kernel) ?_
  refine lv_isub hx hb dX12_feed_95 ?_
  refine ow_top 16 (by decide +kernel) ?_
  refine lv_ishr hx hb dX12_feed_96 ?_
  refine lv_topi (fun v_40 ev_40 => ?_)
  refine lv_i2b hx hb dX12_feed_97 rfl ?_
  refine lv_topi (fun v_41 ev_41 => ?_)
  refine ow_bast hx hb hK hP hD hS 1 rfl (in_lit (by decide +kernel)) dX12_feed_98 ?_
  clear hP hD hS
  try clear H locs
  intro f_42 H locs hP hD hS
  replace hP : va_P G vwCl [(mo, .inr (12, [.ref (h 0), .ref (h 1), .int 0, .int 0, .int 0, .int (-1), .int 0, .int 0, .int 0, .int 0, .long 0, .ref (h 2), .ref (h 3), .ref (h 4), .ref (h 5), .ref (h 6), .ref (h 7), .ref (h 8), .ref (h 9), .ref (h 10), .ref (h 11), .ref (h 12), .ref (h 13), .ref (h 14), .ref (h 15), .ref (h 16), .ref (h 17), .ref (h 18), .ref (h 19), .int 0, .int 0, .int 0, .int 0, .int 0, .int 0, .ref (h 20), .ref (h 21), .int 0, .ref (h 22), .ref (h 23), .ref (h 24), .ref (h 25), .ref (h 26), .int 0, .int 0, .ref (h 27), .ref (h 28), .ref (h 29), .ref (h 30), .ref (h 31), .int 0, .int 0, .ref (h 32), .ref (h 33), .ref (h 34), .ref (h 35), .ref (h 36), .ref (h 37)])), ((h 0), .inl (cy 1, 1720, .inl f_42)), ((h 2), .inl (cy 0, 2, .inl (fun _ => 0))), ((h 3), .inl (cy 0, 2, .inl (fun _ => 0))), ((h 4), .inl (cy 0, 2, .inl (fun _ => 0))), ((h 5), .inl (cy 0, 2, .inl (f 0))), ((h 12), .inl (cy 2, 2, .inl (f 1))), ((h 7), .inl (cy 0, 1200, .inl (fun _ => 0))), ((h 8), .inl (cy 0, 1200, .inl (fun _ => 0))), ((h 20), .inl (cy 2, 8, .inl (fun _ => 0))), ((h 21), .inl (cy 0, 8, .inl (fun _ => 0))), ((h 32), .inl (cy 0, 3, .inl (f 2))), ((h 33), .inl (cy 0, 120, .inl (fun _ => 0))), ((h 34), .inl (cy 0, 120, .inl (fun _ => 0))), ((h 35), .inl (cy 0, 24, .inl (fun _ => 0))), ((h 36), .inl (cy 2, 24, .inl (fun _ => 0))), ((h 37), .inl (cy 2, 3, .inl (fun _ => 0)))] H := hP
  replace hD : va_D A [(mo, .inr (12, [.ref (h 0), .ref (h 1), .int 0, .int 0, .int 0, .int (-1), .int 0, .int 0, .int 0, .int 0, .long 0, .ref (h 2), .ref (h 3), .ref (h 4), .ref (h 5), .ref (h 6), .ref (h 7), .ref (h 8), .ref (h 9), .ref (h 10), .ref (h 11), .ref (h 12), .ref (h 13), .ref (h 14), .ref (h 15), .ref (h 16), .ref (h 17), .ref (h 18), .ref (h 19), .int 0, .int 0, .int 0, .int 0, .int 0, .int 0, .ref (h 20), .ref (h 21), .int 0, .ref (h 22), .ref (h 23), .ref (h 24), .ref (h 25), .ref (h 26), .int 0, .int 0, .ref (h 27), .ref (h 28), .ref (h 29), .ref (h 30), .ref (h 31), .int 0, .int 0, .ref (h 32), .ref (h 33), .ref (h 34), .ref (h 35), .ref (h 36), .ref (h 37)])), ((h 0), .inl (cy 1, 1720, .inl f_42)), ((h 2), .inl (cy 0, 2, .inl (fun _ => 0))), ((h 3), .inl (cy 0, 2, .inl (fun _ => 0))), ((h 4), .inl (cy 0, 2, .inl (fun _ => 0))), ((h 5), .inl (cy 0, 2, .inl (f 0))), ((h 12), .inl (cy 2, 2, .inl (f 1))), ((h 7), .inl (cy 0, 1200, .inl (fun _ => 0))), ((h 8), .inl (cy 0, 1200, .inl (fun _ => 0))), ((h 20), .inl (cy 2, 8, .inl (fun _ => 0))), ((h 21), .inl (cy 0, 8, .inl (fun _ => 0))), ((h 32), .inl (cy 0, 3, .inl (f 2))), ((h 33), .inl (cy 0, 120, .inl (fun _ => 0))), ((h 34), .inl (cy 0, 120, .inl (fun _ => 0))), ((h 35), .inl (cy 0, 24, .inl (fun _ => 0))), ((h 36), .inl (cy 2, 24, .inl (fun _ => 0))), ((h 37), .inl (cy 2, 3, .inl (fun _ => 0)))] := hD
  refine lv_iinc (v := 14) (lv' := [(6, .int 14), (7, .int a4), (0, .ref mo), (1, .int a1), (2, .int a2), (3, .int a3), (4, .int a4), (5, .int a5)]) hx hb dX12_feed_99 hl (k := 1) rfl (by decide) (by decide) rfl ?_
  clear hl
  try clear ls
  intro ls hl
  refine lv_goto (tgt := 18) hx hb dX12_feed_102 (by decide) ?_
  refine lv_iload hx hb dX12_feed_18 (lv_at hl 0 rfl) ?_
  refine lv_bipush (v := 20) hx hb dX12_feed_20 (by decide) ?_
  refine lv_icmp_ge (tgt := 105) hx hb dX12_feed_22 (by decide) (fun c9 => absurd c9 (by decide)) (fun _ => ?_)
  refine lv_iload hx hb dX12_feed_25 (lv_at hl 0 rfl) ?_
  refine lv_iconst (v := 4) hx hb dX12_feed_27 (by decide) ?_
  refine lv_icmp_ge (tgt := 35) hx hb dX12_feed_28 (by decide) (fun _ => ?_) (fun c9 => absurd (by decide) c9)
  refine lv_iload hx hb dX12_feed_35 (lv_at hl 0 rfl) ?_
  refine lv_bipush (v := 8) hx hb dX12_feed_37 (by decide) ?_
  refine lv_icmp_ge (tgt := 46) hx hb dX12_feed_39 (by decide) (fun _ => ?_) (fun c9 => absurd (by decide) c9)
  refine lv_iload hx hb dX12_feed_46 (lv_at hl 0 rfl) ?_
  refine lv_bipush (v := 12) hx hb dX12_feed_48 (by decide) ?_
  refine lv_icmp_ge (tgt := 57) hx hb dX12_feed_50 (by decide) (fun _ => ?_) (fun c9 => absurd (by decide) c9)
  refine lv_iload hx hb dX12_feed_57 (lv_at hl 0 rfl) ?_
  refine lv_bipush (v := 16) hx hb dX12_feed_59 (by decide) ?_
  refine lv_icmp_ge (tgt := 69) hx hb dX12_feed_61 (by decide) (fun c9 => absurd c9 (by decide)) (fun _ => ?_)
  refine lv_iload hx hb dX12_feed_64 (lv_at hl 6 rfl) ?_
  refine lv_goto (tgt := 71) hx hb dX12_feed_66 (by decide) ?_
  refine lv_istore (lv' := [(7, .int a4), (6, .int 14), (0, .ref mo), (1, .int a1), (2, .int a2), (3, .int a3), (4, .int a4), (5, .int a5)]) hx hb dX12_feed_71 hl (by decide) rfl ?_
  clear hl
  try clear ls
  intro ls hl
  refine lv_aload_n hx hb dX12_feed_73 rfl (lv_at hl 2 rfl) ?_
  refine va_get (ci := 12) (v := .ref (h 0)) (C := RX12) (T := TX12) (N := 58) hx hb ht iX12 hown hK hP 0 rfl rfl 0 (by decide) (ht _ k_276) (fun _ h9 => h9) rfl dX12_feed_74 ?_
  refine lv_aload_n hx hb dX12_feed_77 rfl (lv_at hl 2 rfl) ?_
  refine va_get (ci := 12) (v := .int 0) (C := RX12) (T := TX12) (N := 58) hx hb ht iX12 hown hK hP 0 rfl rfl 2 (by decide) (ht _ k_334) (fun _ h9 => h9) rfl dX12_feed_78 ?_
  refine lv_iload hx hb dX12_feed_81 (lv_at hl 1 rfl) ?_
  refine lv_iadd hx hb dX12_feed_83 ?_
  refine ow_top 14 (by decide +kernel) ?_
  refine lv_iload hx hb dX12_feed_84 (lv_at hl 0 rfl) ?_
  refine lv_bipush (v := 24) hx hb dX12_feed_86 (by decide) ?_
  refine lv_bipush (v := 8) hx hb dX12_feed_88 (by decide) ?_
  refine lv_iload hx hb dX12_feed_90 (lv_at hl 1 rfl) ?_
  refine lv_iconst (v := 3) hx hb dX12_feed_92 (by decide) ?_
  refine lv_iand hx hb dX12_feed_93 ?_
  refine ow_top 2 (by decide +kernel) ?_
  refine lv_imul hx hb dX12_feed_94 ?_
  refine ow_top 16 (by decide +kernel) ?_
  refine lv_isub hx hb dX12_feed_95 ?_
  refine ow_top 8 (by decide +kernel) ?_
  refine lv_ishr hx hb dX12_feed_96 ?_
  refine lv_topi (fun v_43 ev_43 => ?_)
  refine lv_i2b hx hb dX12_feed_97 rfl ?_
  refine lv_topi (fun v_44 ev_44 => ?_)
  refine ow_bast hx hb hK hP hD hS 1 rfl (in_lit (by decide +kernel)) dX12_feed_98 ?_
  clear hP hD hS
  try clear H locs
  intro f_45 H locs hP hD hS
  replace hP : va_P G vwCl [(mo, .inr (12, [.ref (h 0), .ref (h 1), .int 0, .int 0, .int 0, .int (-1), .int 0, .int 0, .int 0, .int 0, .long 0, .ref (h 2), .ref (h 3), .ref (h 4), .ref (h 5), .ref (h 6), .ref (h 7), .ref (h 8), .ref (h 9), .ref (h 10), .ref (h 11), .ref (h 12), .ref (h 13), .ref (h 14), .ref (h 15), .ref (h 16), .ref (h 17), .ref (h 18), .ref (h 19), .int 0, .int 0, .int 0, .int 0, .int 0, .int 0, .ref (h 20), .ref (h 21), .int 0, .ref (h 22), .ref (h 23), .ref (h 24), .ref (h 25), .ref (h 26), .int 0, .int 0, .ref (h 27), .ref (h 28), .ref (h 29), .ref (h 30), .ref (h 31), .int 0, .int 0, .ref (h 32), .ref (h 33), .ref (h 34), .ref (h 35), .ref (h 36), .ref (h 37)])), ((h 0), .inl (cy 1, 1720, .inl f_45)), ((h 2), .inl (cy 0, 2, .inl (fun _ => 0))), ((h 3), .inl (cy 0, 2, .inl (fun _ => 0))), ((h 4), .inl (cy 0, 2, .inl (fun _ => 0))), ((h 5), .inl (cy 0, 2, .inl (f 0))), ((h 12), .inl (cy 2, 2, .inl (f 1))), ((h 7), .inl (cy 0, 1200, .inl (fun _ => 0))), ((h 8), .inl (cy 0, 1200, .inl (fun _ => 0))), ((h 20), .inl (cy 2, 8, .inl (fun _ => 0))), ((h 21), .inl (cy 0, 8, .inl (fun _ => 0))), ((h 32), .inl (cy 0, 3, .inl (f 2))), ((h 33), .inl (cy 0, 120, .inl (fun _ => 0))), ((h 34), .inl (cy 0, 120, .inl (fun _ => 0))), ((h 35), .inl (cy 0, 24, .inl (fun _ => 0))), ((h 36), .inl (cy 2, 24, .inl (fun _ => 0))), ((h 37), .inl (cy 2, 3, .inl (fun _ => 0)))] H := hP
  replace hD : va_D A [(mo, .inr (12, [.ref (h 0), .ref (h 1), .int 0, .int 0, .int 0, .int (-1), .int 0, .int 0, .int 0, .int 0, .long 0, .ref (h 2), .ref (h 3), .ref (h 4), .ref (h 5), .ref (h 6), .ref (h 7), .ref (h 8), .ref (h 9), .ref (h 10), .ref (h 11), .ref (h 12), .ref (h 13), .ref (h 14), .ref (h 15), .ref (h 16), .ref (h 17), .ref (h 18), .ref (h 19), .int 0, .int 0, .int 0, .int 0, .int 0, .int 0, .ref (h 20), .ref (h 21), .int 0, .ref (h 22), .ref (h 23), .ref (h 24), .ref (h 25), .ref (h 26), .int 0, .int 0, .ref (h 27), .ref (h 28), .ref (h 29), .ref (h 30), .ref (h 31), .int 0, .int 0, .ref (h 32), .ref (h 33), .ref (h 34), .ref (h 35), .ref (h 36), .ref (h 37)])), ((h 0), .inl (cy 1, 1720, .inl f_45)), ((h 2), .inl (cy 0, 2, .inl (fun _ => 0))), ((h 3), .inl (cy 0, 2, .inl (fun _ => 0))), ((h 4), .inl (cy 0, 2, .inl (fun _ => 0))), ((h 5), .inl (cy 0, 2, .inl (f 0))), ((h 12), .inl (cy 2, 2, .inl (f 1))), ((h 7), .inl (cy 0, 1200, .inl (fun _ => 0))), ((h 8), .inl (cy 0, 1200, .inl (fun _ => 0))), ((h 20), .inl (cy 2, 8, .inl (fun _ => 0))), ((h 21), .inl (cy 0, 8, .inl (fun _ => 0))), ((h 32), .inl (cy 0, 3, .inl (f 2))), ((h 33), .inl (cy 0, 120, .inl (fun _ => 0))), ((h 34), .inl (cy 0, 120, .inl (fun _ => 0))), ((h 35), .inl (cy 0, 24, .inl (fun _ => 0))), ((h 36), .inl (cy 2, 24, .inl (fun _ => 0))), ((h 37), .inl (cy 2, 3, .inl (fun _ => 0)))] := hD
  refine lv_iinc (v := 15) (lv' := [(6, .int 15), (7, .int a4), (0, .ref mo), (1, .int a1), (2, .int a2), (3, .int a3), (4, .int a4), (5, .int a5)]) hx hb dX12_feed_99 hl (k := 1) rfl (by decide) (by decide) rfl ?_
  clear hl
  try clear ls
  intro ls hl
  refine lv_goto (tgt := 18) hx hb dX12_feed_102 (by decide) ?_
  refine lv_iload hx hb dX12_feed_18 (lv_at hl 0 rfl) ?_
  refine lv_bipush (v := 20) hx hb dX12_feed_20 (by decide) ?_
  refine lv_icmp_ge (tgt := 105) hx hb dX12_feed_22 (by decide) (fun c9 => absurd c9 (by decide)) (fun _ => ?_)
  refine lv_iload hx hb dX12_feed_25 (lv_at hl 0 rfl) ?_
  refine lv_iconst (v := 4) hx hb dX12_feed_27 (by decide) ?_
  refine lv_icmp_ge (tgt := 35) hx hb dX12_feed_28 (by decide) (fun _ => ?_) (fun c9 => absurd (by decide) c9)
  refine lv_iload hx hb dX12_feed_35 (lv_at hl 0 rfl) ?_
  refine lv_bipush (v := 8) hx hb dX12_feed_37 (by decide) ?_
  refine lv_icmp_ge (tgt := 46) hx hb dX12_feed_39 (by decide) (fun _ => ?_) (fun c9 => absurd (by decide) c9)
  refine lv_iload hx hb dX12_feed_46 (lv_at hl 0 rfl) ?_
  refine lv_bipush (v := 12) hx hb dX12_feed_48 (by decide) ?_
  refine lv_icmp_ge (tgt := 57) hx hb dX12_feed_50 (by decide) (fun _ => ?_) (fun c9 => absurd (by decide) c9)
  refine lv_iload hx hb dX12_feed_57 (lv_at hl 0 rfl) ?_
  refine lv_bipush (v := 16) hx hb dX12_feed_59 (by decide) ?_
  refine lv_icmp_ge (tgt := 69) hx hb dX12_feed_61 (by decide) (fun c9 => absurd c9 (by decide)) (fun _ => ?_)
  refine lv_iload hx hb dX12_feed_64 (lv_at hl 6 rfl) ?_
  refine lv_goto (tgt := 71) hx hb dX12_feed_66 (by decide) ?_
  refine lv_istore (lv' := [(7, .int a4), (6, .int 15), (0, .ref mo), (1, .int a1), (2, .int a2), (3, .int a3), (4, .int a4), (5, .int a5)]) hx hb dX12_feed_71 hl (by decide) rfl ?_
  clear hl
  try clear ls
  intro ls hl
  refine lv_aload_n hx hb dX12_feed_73 rfl (lv_at hl 2 rfl) ?_
  refine va_get (ci := 12) (v := .ref (h 0)) (C := RX12) (T := TX12) (N := 58) hx hb ht iX12 hown hK hP 0 rfl rfl 0 (by decide) (ht _ k_276) (fun _ h9 => h9) rfl dX12_feed_74 ?_
  refine lv_aload_n hx hb dX12_feed_77 rfl (lv_at hl 2 rfl) ?_
  refine va_get (ci := 12) (v := .int 0) (C := RX12) (T := TX12) (N := 58) hx hb ht iX12 hown hK hP 0 rfl rfl 2 (by decide) (ht _ k_334) (fun _ h9 => h9) rfl dX12_feed_78 ?_
  refine lv_iload hx hb dX12_feed_81 (lv_at hl 1 rfl) ?_
  refine lv_iadd hx hb dX12_feed_83 ?_
  refine ow_top 15 (by decide +kernel) ?_
  refine lv_iload hx hb dX12_feed_84 (lv_at hl 0 rfl) ?_
  refine lv_bipush (v := 24) hx hb dX12_feed_86 (by decide) ?_
  refine lv_bipush (v := 8) hx hb dX12_feed_88 (by decide) ?_
  refine lv_iload hx hb dX12_feed_90 (lv_at hl 1 rfl) ?_
  refine lv_iconst (v := 3) hx hb dX12_feed_92 (by decide) ?_
  refine lv_iand hx hb dX12_feed_93 ?_
  refine ow_top 3 (by decide +kernel) ?_
  refine lv_imul hx hb dX12_feed_94 ?_
  refine ow_top 24 (by decide +kernel) ?_
  refine lv_isub hx hb dX12_feed_95 ?_
  refine ow_top 0 (by decide +kernel) ?_
  refine lv_ishr hx hb dX12_feed_96 ?_
  refine lv_topi (fun v_46 ev_46 => ?_)
  refine lv_i2b hx hb dX12_feed_97 rfl ?_
  refine lv_topi (fun v_47 ev_47 => ?_)
  refine ow_bast hx hb hK hP hD hS 1 rfl (in_lit (by decide +kernel)) dX12_feed_98 ?_
  clear hP hD hS
  try clear H locs
  intro f_48 H locs hP hD hS
  replace hP : va_P G vwCl [(mo, .inr (12, [.ref (h 0), .ref (h 1), .int 0, .int 0, .int 0, .int (-1), .int 0, .int 0, .int 0, .int 0, .long 0, .ref (h 2), .ref (h 3), .ref (h 4), .ref (h 5), .ref (h 6), .ref (h 7), .ref (h 8), .ref (h 9), .ref (h 10), .ref (h 11), .ref (h 12), .ref (h 13), .ref (h 14), .ref (h 15), .ref (h 16), .ref (h 17), .ref (h 18), .ref (h 19), .int 0, .int 0, .int 0, .int 0, .int 0, .int 0, .ref (h 20), .ref (h 21), .int 0, .ref (h 22), .ref (h 23), .ref (h 24), .ref (h 25), .ref (h 26), .int 0, .int 0, .ref (h 27), .ref (h 28), .ref (h 29), .ref (h 30), .ref (h 31), .int 0, .int 0, .ref (h 32), .ref (h 33), .ref (h 34), .ref (h 35), .ref (h 36), .ref (h 37)])), ((h 0), .inl (cy 1, 1720, .inl f_48)), ((h 2), .inl (cy 0, 2, .inl (fun _ => 0))), ((h 3), .inl (cy 0, 2, .inl (fun _ => 0))), ((h 4), .inl (cy 0, 2, .inl (fun _ => 0))), ((h 5), .inl (cy 0, 2, .inl (f 0))), ((h 12), .inl (cy 2, 2, .inl (f 1))), ((h 7), .inl (cy 0, 1200, .inl (fun _ => 0))), ((h 8), .inl (cy 0, 1200, .inl (fun _ => 0))), ((h 20), .inl (cy 2, 8, .inl (fun _ => 0))), ((h 21), .inl (cy 0, 8, .inl (fun _ => 0))), ((h 32), .inl (cy 0, 3, .inl (f 2))), ((h 33), .inl (cy 0, 120, .inl (fun _ => 0))), ((h 34), .inl (cy 0, 120, .inl (fun _ => 0))), ((h 35), .inl (cy 0, 24, .inl (fun _ => 0))), ((h 36), .inl (cy 2, 24, .inl (fun _ => 0))), ((h 37), .inl (cy 2, 3, .inl (fun _ => 0)))] H := hP
  replace hD : va_D A [(mo, .inr (12, [.ref (h 0), .ref (h 1), .int 0, .int 0, .int 0, .int (-1), .int 0, .int 0, .int 0, .int 0, .long 0, .ref (h 2), .ref (h 3), .ref (h 4), .ref (h 5), .ref (h 6), .ref (h 7), .ref (h 8), .ref (h 9), .ref (h 10), .ref (h 11), .ref (h 12), .ref (h 13), .ref (h 14), .ref (h 15), .ref (h 16), .ref (h 17), .ref (h 18), .ref (h 19), .int 0, .int 0, .int 0, .int 0, .int 0, .int 0, .ref (h 20), .ref (h 21), .int 0, .ref (h 22), .ref (h 23), .ref (h 24), .ref (h 25), .ref (h 26), .int 0, .int 0, .ref (h 27), .ref (h 28), .ref (h 29), .ref (h 30), .ref (h 31), .int 0, .int 0, .ref (h 32), .ref (h 33), .ref (h 34), .ref (h 35), .ref (h 36), .ref (h 37)])), ((h 0), .inl (cy 1, 1720, .inl f_48)), ((h 2), .inl (cy 0, 2, .inl (fun _ => 0))), ((h 3), .inl (cy 0, 2, .inl (fun _ => 0))), ((h 4), .inl (cy 0, 2, .inl (fun _ => 0))), ((h 5), .inl (cy 0, 2, .inl (f 0))), ((h 12), .inl (cy 2, 2, .inl (f 1))), ((h 7), .inl (cy 0, 1200, .inl (fun _ => 0))), ((h 8), .inl (cy 0, 1200, .inl (fun _ => 0))), ((h 20), .inl (cy 2, 8, .inl (fun _ => 0))), ((h 21), .inl (cy 0, 8, .inl (fun _ => 0))), ((h 32), .inl (cy 0, 3, .inl (f 2))), ((h 33), .inl (cy 0, 120, .inl (fun _ => 0))), ((h 34), .inl (cy 0, 120, .inl (fun _ => 0))), ((h 35), .inl (cy 0, 24, .inl (fun _ => 0))), ((h 36), .inl (cy 2, 24, .inl (fun _ => 0))), ((h 37), .inl (cy 2, 3, .inl (fun _ => 0)))] := hD
  refine lv_iinc (v := 16) (lv' := [(6, .int 16), (7, .int a4), (0, .ref mo), (1, .int a1), (2, .int a2), (3, .int a3), (4, .int a4), (5, .int a5)]) hx hb dX12_feed_99 hl (k := 1) rfl (by decide) (by decide) rfl ?_
  clear hl
  try clear ls
  intro ls hl
  refine lv_goto (tgt := 18) hx hb dX12_feed_102 (by decide) ?_
  refine lv_iload hx hb dX12_feed_18 (lv_at hl 0 rfl) ?_
  refine lv_bipush (v := 20) hx hb dX12_feed_20 (by decide) ?_
  refine lv_icmp_ge (tgt := 105) hx hb dX12_feed_22 (by decide) (fun c9 => absurd c9 (by decide)) (fun _ => ?_)
  refine lv_iload hx hb dX12_feed_25 (lv_at hl 0 rfl) ?_
  refine lv_iconst (v := 4) hx hb dX12_feed_27 (by decide) ?_
  refine lv_icmp_ge (tgt := 35) hx hb dX12_feed_28 (by decide) (fun _ => ?_) (fun c9 => absurd (by decide) c9)
  refine lv_iload hx hb dX12_feed_35 (lv_at hl 0 rfl) ?_
  refine lv_bipush (v := 8) hx hb dX12_feed_37 (by decide) ?_
  refine lv_icmp_ge (tgt := 46) hx hb dX12_feed_39 (by decide) (fun _ => ?_) (fun c9 => absurd (by decide) c9)
  refine lv_iload hx hb dX12_feed_46 (lv_at hl 0 rfl) ?_
  refine lv_bipush (v := 12) hx hb dX12_feed_48 (by decide) ?_
  refine lv_icmp_ge (tgt := 57) hx hb dX12_feed_50 (by decide) (fun _ => ?_) (fun c9 => absurd (by decide) c9)
  refine lv_iload hx hb dX12_feed_57 (lv_at hl 0 rfl) ?_
  refine lv_bipush (v := 16) hx hb dX12_feed_59 (by decide) ?_
  refine lv_icmp_ge (tgt := 69) hx hb dX12_feed_61 (by decide) (fun _ => ?_) (fun c9 => absurd (by decide) c9)
  refine lv_iload hx hb dX12_feed_69 (lv_at hl 7 rfl) ?_
  refine lv_istore (lv' := [(7, .int a5), (6, .int 16), (0, .ref mo), (1, .int a1), (2, .int a2), (3, .int a3), (4, .int a4), (5, .int a5)]) hx hb dX12_feed_71 hl (by decide) rfl ?_
  clear hl
  try clear ls
  intro ls hl
  refine lv_aload_n hx hb dX12_feed_73 rfl (lv_at hl 2 rfl) ?_
  refine va_get (ci := 12) (v := .ref (h 0)) (C := RX12) (T := TX12) (N := 58) hx hb ht iX12 hown hK hP 0 rfl rfl 0 (by decide) (ht _ k_276) (fun _ h9 => h9) rfl dX12_feed_74 ?_
  refine lv_aload_n hx hb dX12_feed_77 rfl (lv_at hl 2 rfl) ?_
  refine va_get (ci := 12) (v := .int 0) (C := RX12) (T := TX12) (N := 58) hx hb ht iX12 hown hK hP 0 rfl rfl 2 (by decide) (ht _ k_334) (fun _ h9 => h9) rfl dX12_feed_78 ?_
  refine lv_iload hx hb dX12_feed_81 (lv_at hl 1 rfl) ?_
  refine lv_iadd hx hb dX12_feed_83 ?_
  refine ow_top 16 (by decide +kernel) ?_
  refine lv_iload hx hb dX12_feed_84 (lv_at hl 0 rfl) ?_
  refine lv_bipush (v := 24) hx hb dX12_feed_86 (by decide) ?_
  refine lv_bipush (v := 8) hx hb dX12_feed_88 (by decide) ?_
  refine lv_iload hx hb dX12_feed_90 (lv_at hl 1 rfl) ?_
  refine lv_iconst (v := 3) hx hb dX12_feed_92 (by decide) ?_
  refine lv_iand hx hb dX12_feed_93 ?_
  refine ow_top 0 (by decide +kernel) ?_
  refine lv_imul hx hb dX12_feed_94 ?_
  refine ow_top 0 (by decide +kernel) ?_
  refine lv_isub hx hb dX12_feed_95 ?_
  refine ow_top 24 (by decide +kernel) ?_
  refine lv_ishr hx hb dX12_feed_96 ?_
  refine lv_topi (fun v_49 ev_49 => ?_)
  refine lv_i2b hx hb dX12_feed_97 rfl ?_
  refine lv_topi (fun v_50 ev_50 => ?_)
  refine ow_bast hx hb hK hP hD hS 1 rfl (in_lit (by decide +kernel)) dX12_feed_98 ?_
  clear hP hD hS
  try clear H locs
  intro f_51 H locs hP hD hS
  replace hP : va_P G vwCl [(mo, .inr (12, [.ref (h 0), .ref (h 1), .int 0, .int 0, .int 0, .int (-1), .int 0, .int 0, .int 0, .int 0, .long 0, .ref (h 2), .ref (h 3), .ref (h 4), .ref (h 5), .ref (h 6), .ref (h 7), .ref (h 8), .ref (h 9), .ref (h 10), .ref (h 11), .ref (h 12), .ref (h 13), .ref (h 14), .ref (h 15), .ref (h 16), .ref (h 17), .ref (h 18), .ref (h 19), .int 0, .int 0, .int 0, .int 0, .int 0, .int 0, .ref (h 20), .ref (h 21), .int 0, .ref (h 22), .ref (h 23), .ref (h 24), .ref (h 25), .ref (h 26), .int 0, .int 0, .ref (h 27), .ref (h 28), .ref (h 29), .ref (h 30), .ref (h 31), .int 0, .int 0, .ref (h 32), .ref (h 33), .ref (h 34), .ref (h 35), .ref (h 36), .ref (h 37)])), ((h 0), .inl (cy 1, 1720, .inl f_51)), ((h 2), .inl (cy 0, 2, .inl (fun _ => 0))), ((h 3), .inl (cy 0, 2, .inl (fun _ => 0))), ((h 4), .inl (cy 0, 2, .inl (fun _ => 0))), ((h 5), .inl (cy 0, 2, .inl (f 0))), ((h 12), .inl (cy 2, 2, .inl (f 1))), ((h 7), .inl (cy 0, 1200, .inl (fun _ => 0))), ((h 8), .inl (cy 0, 1200, .inl (fun _ => 0))), ((h 20), .inl (cy 2, 8, .inl (fun _ => 0))), ((h 21), .inl (cy 0, 8, .inl (fun _ => 0))), ((h 32), .inl (cy 0, 3, .inl (f 2))), ((h 33), .inl (cy 0, 120, .inl (fun _ => 0))), ((h 34), .inl (cy 0, 120, .inl (fun _ => 0))), ((h 35), .inl (cy 0, 24, .inl (fun _ => 0))), ((h 36), .inl (cy 2, 24, .inl (fun _ => 0))), ((h 37), .inl (cy 2, 3, .inl (fun _ => 0)))] H := hP
  replace hD : va_D A [(mo, .inr (12, [.ref (h 0), .ref (h 1), .int 0, .int 0, .int 0, .int (-1), .int 0, .int 0, .int 0, .int 0, .long 0, .ref (h 2), .ref (h 3), .ref (h 4), .ref (h 5), .ref (h 6), .ref (h 7), .ref (h 8), .ref (h 9), .ref (h 10), .ref (h 11), .ref (h 12), .ref (h 13), .ref (h 14), .ref (h 15), .ref (h 16), .ref (h 17), .ref (h 18), .ref (h 19), .int 0, .int 0, .int 0, .int 0, .int 0, .int 0, .ref (h 20), .ref (h 21), .int 0, .ref (h 22), .ref (h 23), .ref (h 24), .ref (h 25), .ref (h 26), .int 0, .int 0, .ref (h 27), .ref (h 28), .ref (h 29), .ref (h 30), .ref (h 31), .int 0, .int 0, .ref (h 32), .ref (h 33), .ref (h 34), .ref (h 35), .ref (h 36), .ref (h 37)])), ((h 0), .inl (cy 1, 1720, .inl f_51)), ((h 2), .inl (cy 0, 2, .inl (fun _ => 0))), ((h 3), .inl (cy 0, 2, .inl (fun _ => 0))), ((h 4), .inl (cy 0, 2, .inl (fun _ => 0))), ((h 5), .inl (cy 0, 2, .inl (f 0))), ((h 12), .inl (cy 2, 2, .inl (f 1))), ((h 7), .inl (cy 0, 1200, .inl (fun _ => 0))), ((h 8), .inl (cy 0, 1200, .inl (fun _ => 0))), ((h 20), .inl (cy 2, 8, .inl (fun _ => 0))), ((h 21), .inl (cy 0, 8, .inl (fun _ => 0))), ((h 32), .inl (cy 0, 3, .inl (f 2))), ((h 33), .inl (cy 0, 120, .inl (fun _ => 0))), ((h 34), .inl (cy 0, 120, .inl (fun _ => 0))), ((h 35), .inl (cy 0, 24, .inl (fun _ => 0))), ((h 36), .inl (cy 2, 24, .inl (fun _ => 0))), ((h 37), .inl (cy 2, 3, .inl (fun _ => 0)))] := hD
  refine lv_iinc (v := 17) (lv' := [(6, .int 17), (7, .int a5), (0, .ref mo), (1, .int a1), (2, .int a2), (3, .int a3), (4, .int a4), (5, .int a5)]) hx hb dX12_feed_99 hl (k := 1) rfl (by decide) (by decide) rfl ?_
  clear hl
  try clear ls
  intro ls hl
  refine lv_goto (tgt := 18) hx hb dX12_feed_102 (by decide) ?_
  refine lv_iload hx hb dX12_feed_18 (lv_at hl 0 rfl) ?_
  refine lv_bipush (v := 20) hx hb dX12_feed_20 (by decide) ?_
  refine lv_icmp_ge (tgt := 105) hx hb dX12_feed_22 (by decide) (fun c9 => absurd c9 (by decide)) (fun _ => ?_)
  refine lv_iload hx hb dX12_feed_25 (lv_at hl 0 rfl) ?_
  refine lv_iconst (v := 4) hx hb dX12_feed_27 (by decide) ?_
  refine lv_icmp_ge (tgt := 35) hx hb dX12_feed_28 (by decide) (fun _ => ?_) (fun c9 => absurd (by decide) c9)
  refine lv_iload hx hb dX12_feed_35 (lv_at hl 0 rfl) ?_
  refine lv_bipush (v := 8) hx hb dX12_feed_37 (by decide) ?_
  refine lv_icmp_ge (tgt := 46) hx hb dX12_feed_39 (by decide) (fun _ => ?_) (fun c9 => absurd (by decide) c9)
  refine lv_iload hx hb dX12_feed_46 (lv_at hl 0 rfl) ?_
  refine lv_bipush (v := 12) hx hb dX12_feed_48 (by decide) ?_
  refine lv_icmp_ge (tgt := 57) hx hb dX12_feed_50 (by decide) (fun _ => ?_) (fun c9 => absurd (by decide) c9)
  refine lv_iload hx hb dX12_feed_57 (lv_at hl 0 rfl) ?_
  refine lv_bipush (v := 16) hx hb dX12_feed_59 (by decide) ?_
  refine lv_icmp_ge (tgt := 69) hx hb dX12_feed_61 (by decide) (fun _ => ?_) (fun c9 => absurd (by decide) c9)
  refine lv_iload hx hb dX12_feed_69 (lv_at hl 7 rfl) ?_
  refine lv_istore (lv' := [(7, .int a5), (6, .int 17), (0, .ref mo), (1, .int a1), (2, .int a2), (3, .int a3), (4, .int a4), (5, .int a5)]) hx hb dX12_feed_71 hl (by decide) rfl ?_
  clear hl
  try clear ls
  intro ls hl
  refine lv_aload_n hx hb dX12_feed_73 rfl (lv_at hl 2 rfl) ?_
  refine va_get (ci := 12) (v := .ref (h 0)) (C := RX12) (T := TX12) (N := 58) hx hb ht iX12 hown hK hP 0 rfl rfl 0 (by decide) (ht _ k_276) (fun _ h9 => h9) rfl dX12_feed_74 ?_
  refine lv_aload_n hx hb dX12_feed_77 rfl (lv_at hl 2 rfl) ?_
  refine va_get (ci := 12) (v := .int 0) (C := RX12) (T := TX12) (N := 58) hx hb ht iX12 hown hK hP 0 rfl rfl 2 (by decide) (ht _ k_334) (fun _ h9 => h9) rfl dX12_feed_78 ?_
  refine lv_iload hx hb dX12_feed_81 (lv_at hl 1 rfl) ?_
  refine lv_iadd hx hb dX12_feed_83 ?_
  refine ow_top 17 (by decide +kernel) ?_
  refine lv_iload hx hb dX12_feed_84 (lv_at hl 0 rfl) ?_
  refine lv_bipush (v := 24) hx hb dX12_feed_86 (by decide) ?_
  refine lv_bipush (v := 8) hx hb dX12_feed_88 (by decide) ?_
  refine lv_iload hx hb dX12_feed_90 (lv_at hl 1 rfl) ?_
  refine lv_iconst (v := 3) hx hb dX12_feed_92 (by decide) ?_
  refine lv_iand hx hb dX12_feed_93 ?_
  refine ow_top 1 (by decide +kernel) ?_
  refine lv_imul hx hb dX12_feed_94 ?_
  refine ow_top 8 (by decide +kernel) ?_
  refine lv_isub hx hb dX12_feed_95 ?_
  refine ow_top 16 (by decide +kernel) ?_
  refine lv_ishr hx hb dX12_feed_96 ?_
  refine lv_topi (fun v_52 ev_52 => ?_)
  refine lv_i2b hx hb dX12_feed_97 rfl ?_
  refine lv_topi (fun v_53 ev_53 => ?_)
  refine ow_bast hx hb hK hP hD hS 1 rfl (in_lit (by decide +kernel)) dX12_feed_98 ?_
  clear hP hD hS
  try clear H locs
  intro f_54 H locs hP hD hS
  replace hP : va_P G vwCl [(mo, .inr (12, [.ref (h 0), .ref (h 1), .int 0, .int 0, .int 0, .int (-1), .int 0, .int 0, .int 0, .int 0, .long 0, .ref (h 2), .ref (h 3), .ref (h 4), .ref (h 5), .ref (h 6), .ref (h 7), .ref (h 8), .ref (h 9), .ref (h 10), .ref (h 11), .ref (h 12), .ref (h 13), .ref (h 14), .ref (h 15), .ref (h 16), .ref (h 17), .ref (h 18), .ref (h 19), .int 0, .int 0, .int 0, .int 0, .int 0, .int 0, .ref (h 20), .ref (h 21), .int 0, .ref (h 22), .ref (h 23), .ref (h 24), .ref (h 25), .ref (h 26), .int 0, .int 0, .ref (h 27), .ref (h 28), .ref (h 29), .ref (h 30), .ref (h 31), .int 0, .int 0, .ref (h 32), .ref (h 33), .ref (h 34), .ref (h 35), .ref (h 36), .ref (h 37)])), ((h 0), .inl (cy 1, 1720, .inl f_54)), ((h 2), .inl (cy 0, 2, .inl (fun _ => 0))), ((h 3), .inl (cy 0, 2, .inl (fun _ => 0))), ((h 4), .inl (cy 0, 2, .inl (fun _ => 0))), ((h 5), .inl (cy 0, 2, .inl (f 0))), ((h 12), .inl (cy 2, 2, .inl (f 1))), ((h 7), .inl (cy 0, 1200, .inl (fun _ => 0))), ((h 8), .inl (cy 0, 1200, .inl (fun _ => 0))), ((h 20), .inl (cy 2, 8, .inl (fun _ => 0))), ((h 21), .inl (cy 0, 8, .inl (fun _ => 0))), ((h 32), .inl (cy 0, 3, .inl (f 2))), ((h 33), .inl (cy 0, 120, .inl (fun _ => 0))), ((h 34), .inl (cy 0, 120, .inl (fun _ => 0))), ((h 35), .inl (cy 0, 24, .inl (fun _ => 0))), ((h 36), .inl (cy 2, 24, .inl (fun _ => 0))), ((h 37), .inl (cy 2, 3, .inl (fun _ => 0)))] H := hP
  replace hD : va_D A [(mo, .inr (12, [.ref (h 0), .ref (h 1), .int 0, .int 0, .int 0, .int (-1), .int 0, .int 0, .int 0, .int 0, .long 0, .ref (h 2), .ref (h 3), .ref (h 4), .ref (h 5), .ref (h 6), .ref (h 7), .ref (h 8), .ref (h 9), .ref (h 10), .ref (h 11), .ref (h 12), .ref (h 13), .ref (h 14), .ref (h 15), .ref (h 16), .ref (h 17), .ref (h 18), .ref (h 19), .int 0, .int 0, .int 0, .int 0, .int 0, .int 0, .ref (h 20), .ref (h 21), .int 0, .ref (h 22), .ref (h 23), .ref (h 24), .ref (h 25), .ref (h 26), .int 0, .int 0, .ref (h 27), .ref (h 28), .ref (h 29), .ref (h 30), .ref (h 31), .int 0, .int 0, .ref (h 32), .ref (h 33), .ref (h 34), .ref (h 35), .ref (h 36), .ref (h 37)])), ((h 0), .inl (cy 1, 1720, .inl f_54)), ((h 2), .inl (cy 0, 2, .inl (fun _ => 0))), ((h 3), .inl (cy 0, 2, .inl (fun _ => 0))), ((h 4), .inl (cy 0, 2, .inl (fun _ => 0))), ((h 5), .inl (cy 0, 2, .inl (f 0))), ((h 12), .inl (cy 2, 2, .inl (f 1))), ((h 7), .inl (cy 0, 1200, .inl (fun _ => 0))), ((h 8), .inl (cy 0, 1200, .inl (fun _ => 0))), ((h 20), .inl (cy 2, 8, .inl (fun _ => 0))), ((h 21), .inl (cy 0, 8, .inl (fun _ => 0))), ((h 32), .inl (cy 0, 3, .inl (f 2))), ((h 33), .inl (cy 0, 120, .inl (fun _ => 0))), ((h 34), .inl (cy 0, 120, .inl (fun _ => 0))), ((h 35), .inl (cy 0, 24, .inl (fun _ => 0))), ((h 36), .inl (cy 2, 24, .inl (fun _ => 0))), ((h 37), .inl (cy 2, 3, .inl (fun _ => 0)))] := hD
  refine lv_iinc (v := 18) (lv' := [(6, .int 18), (7, .int a5), (0, .ref mo), (1, .int a1), (2, .int a2), (3, .int a3), (4, .int a4), (5, .int a5)]) hx hb dX12_feed_99 hl (k := 1) rfl (by decide) (by decide) rfl ?_
  clear hl
  try clear ls
  intro ls hl
  refine lv_goto (tgt := 18) hx hb dX12_feed_102 (by decide) ?_
  refine lv_iload hx hb dX12_feed_18 (lv_at hl 0 rfl) ?_
  refine lv_bipush (v := 20) hx hb dX12_feed_20 (by decide) ?_
  refine lv_icmp_ge (tgt := 105) hx hb dX12_feed_22 (by decide) (fun c9 => absurd c9 (by decide)) (fun _ => ?_)
  refine lv_iload hx hb dX12_feed_25 (lv_at hl 0 rfl) ?_
  refine lv_iconst (v := 4) hx hb dX12_feed_27 (by decide) ?_
  refine lv_icmp_ge (tgt := 35) hx hb dX12_feed_28 (by decide) (fun _ => ?_) (fun c9 => absurd (by decide) c9)
  refine lv_iload hx hb dX12_feed_35 (lv_at hl 0 rfl) ?_
  refine lv_bipush (v := 8) hx hb dX12_feed_37 (by decide) ?_
  refine lv_icmp_ge (tgt := 46) hx hb dX12_feed_39 (by decide) (fun _ => ?_) (fun c9 => absurd (by decide) c9)
  refine lv_iload hx hb dX12_feed_46 (lv_at hl 0 rfl) ?_
  refine lv_bipush (v := 12) hx hb dX12_feed_48 (by decide) ?_
  refine lv_icmp_ge (tgt := 57) hx hb dX12_feed_50 (by decide) (fun _ => ?_) (fun c9 => absurd (by decide) c9)
  refine lv_iload hx hb dX12_feed_57 (lv_at hl 0 rfl) ?_
  refine lv_bipush (v := 16) hx hb dX12_feed_59 (by decide) ?_
  refine lv_icmp_ge (tgt := 69) hx hb dX12_feed_61 (by decide) (fun _ => ?_) (fun c9 => absurd (by decide) c9)
  refine lv_iload hx hb dX12_feed_69 (lv_at hl 7 rfl) ?_
  refine lv_istore (lv' := [(7, .int a5), (6, .int 18), (0, .ref mo), (1, .int a1), (2, .int a2), (3, .int a3), (4, .int a4), (5, .int a5)]) hx hb dX12_feed_71 hl (by decide) rfl ?_
  clear hl
  try clear ls
  intro ls hl
  refine lv_aload_n hx hb dX12_feed_73 rfl (lv_at hl 2 rfl) ?_
  refine va_get (ci := 12) (v := .ref (h 0)) (C := RX12) (T := TX12) (N := 58) hx hb ht iX12 hown hK hP 0 rfl rfl 0 (by decide) (ht _ k_276) (fun _ h9 => h9) rfl dX12_feed_74 ?_
  refine lv_aload_n hx hb dX12_feed_77 rfl (lv_at hl 2 rfl) ?_
  refine va_get (ci := 12) (v := .int 0) (C := RX12) (T := TX12) (N := 58) hx hb ht iX12 hown hK hP 0 rfl rfl 2 (by decide) (ht _ k_334) (fun _ h9 => h9) rfl dX12_feed_78 ?_
  refine lv_iload hx hb dX12_feed_81 (lv_at hl 1 rfl) ?_
  refine lv_iadd hx hb dX12_feed_83 ?_
  refine ow_top 18 (by decide +kernel) ?_
  refine lv_iload hx hb dX12_feed_84 (lv_at hl 0 rfl) ?_
  refine lv_bipush (v := 24) hx hb dX12_feed_86 (by decide) ?_
  refine lv_bipush (v := 8) hx hb dX12_feed_88 (by decide) ?_
  refine lv_iload hx hb dX12_feed_90 (lv_at hl 1 rfl) ?_
  refine lv_iconst (v := 3) hx hb dX12_feed_92 (by decide) ?_
  refine lv_iand hx hb dX12_feed_93 ?_
  refine ow_top 2 (by decide +kernel) ?_
  refine lv_imul hx hb dX12_feed_94 ?_
  refine ow_top 16 (by decide +kernel) ?_
  refine lv_isub hx hb dX12_feed_95 ?_
  refine ow_top 8 (by decide +kernel) ?_
  refine lv_ishr hx hb dX12_feed_96 ?_
  refine lv_topi (fun v_55 ev_55 => ?_)
  refine lv_i2b hx hb dX12_feed_97 rfl ?_
  refine lv_topi (fun v_56 ev_56 => ?_)
  refine ow_bast hx hb hK hP hD hS 1 rfl (in_lit (by decide +kernel)) dX12_feed_98 ?_
  clear hP hD hS
  try clear H locs
  intro f_57 H locs hP hD hS
  replace hP : va_P G vwCl [(mo, .inr (12, [.ref (h 0), .ref (h 1), .int 0, .int 0, .int 0, .int (-1), .int 0, .int 0, .int 0, .int 0, .long 0, .ref (h 2), .ref (h 3), .ref (h 4), .ref (h 5), .ref (h 6), .ref (h 7), .ref (h 8), .ref (h 9), .ref (h 10), .ref (h 11), .ref (h 12), .ref (h 13), .ref (h 14), .ref (h 15), .ref (h 16), .ref (h 17), .ref (h 18), .ref (h 19), .int 0, .int 0, .int 0, .int 0, .int 0, .int 0, .ref (h 20), .ref (h 21), .int 0, .ref (h 22), .ref (h 23), .ref (h 24), .ref (h 25), .ref (h 26), .int 0, .int 0, .ref (h 27), .ref (h 28), .ref (h 29), .ref (h 30), .ref (h 31), .int 0, .int 0, .ref (h 32), .ref (h 33), .ref (h 34), .ref (h 35), .ref (h 36), .ref (h 37)])), ((h 0), .inl (cy 1, 1720, .inl f_57)), ((h 2), .inl (cy 0, 2, .inl (fun _ => 0))), ((h 3), .inl (cy 0, 2, .inl (fun _ => 0))), ((h 4), .inl (cy 0, 2, .inl (fun _ => 0))), ((h 5), .inl (cy 0, 2, .inl (f 0))), ((h 12), .inl (cy 2, 2, .inl (f 1))), ((h 7), .inl (cy 0, 1200, .inl (fun _ => 0))), ((h 8), .inl (cy 0, 1200, .inl (fun _ => 0))), ((h 20), .inl (cy 2, 8, .inl (fun _ => 0))), ((h 21), .inl (cy 0, 8, .inl (fun _ => 0))), ((h 32), .inl (cy 0, 3, .inl (f 2))), ((h 33), .inl (cy 0, 120, .inl (fun _ => 0))), ((h 34), .inl (cy 0, 120, .inl (fun _ => 0))), ((h 35), .inl (cy 0, 24, .inl (fun _ => 0))), ((h 36), .inl (cy 2, 24, .inl (fun _ => 0))), ((h 37), .inl (cy 2, 3, .inl (fun _ => 0)))] H := hP
  replace hD : va_D A [(mo, .inr (12, [.ref (h 0), .ref (h 1), .int 0, .int 0, .int 0, .int (-1), .int 0, .int 0, .int 0, .int 0, .long 0, .ref (h 2), .ref (h 3), .ref (h 4), .ref (h 5), .ref (h 6), .ref (h 7), .ref (h 8), .ref (h 9), .ref (h 10), .ref (h 11), .ref (h 12), .ref (h 13), .ref (h 14), .ref (h 15), .ref (h 16), .ref (h 17), .ref (h 18), .ref (h 19), .int 0, .int 0, .int 0, .int 0, .int 0, .int 0, .ref (h 20), .ref (h 21), .int 0, .ref (h 22), .ref (h 23), .ref (h 24), .ref (h 25), .ref (h 26), .int 0, .int 0, .ref (h 27), .ref (h 28), .ref (h 29), .ref (h 30), .ref (h 31), .int 0, .int 0, .ref (h 32), .ref (h 33), .ref (h 34), .ref (h 35), .ref (h 36), .ref (h 37)])), ((h 0), .inl (cy 1, 1720, .inl f_57)), ((h 2), .inl (cy 0, 2, .inl (fun _ => 0))), ((h 3), .inl (cy 0, 2, .inl (fun _ => 0))), ((h 4), .inl (cy 0, 2, .inl (fun _ => 0))), ((h 5), .inl (cy 0, 2, .inl (f 0))), ((h 12), .inl (cy 2, 2, .inl (f 1))), ((h 7), .inl (cy 0, 1200, .inl (fun _ => 0))), ((h 8), .inl (cy 0, 1200, .inl (fun _ => 0))), ((h 20), .inl (cy 2, 8, .inl (fun _ => 0))), ((h 21), .inl (cy 0, 8, .inl (fun _ => 0))), ((h 32), .inl (cy 0, 3, .inl (f 2))), ((h 33), .inl (cy 0, 120, .inl (fun _ => 0))), ((h 34), .inl (cy 0, 120, .inl (fun _ => 0))), ((h 35), .inl (cy 0, 24, .inl (fun _ => 0))), ((h 36), .inl (cy 2, 24, .inl (fun _ => 0))), ((h 37), .inl (cy 2, 3, .inl (fun _ => 0)))] := hD
  refine lv_iinc (v := 19) (lv' := [(6, .int 19), (7, .int a5), (0, .ref mo), (1, .int a1), (2, .int a2), (3, .int a3), (4, .int a4), (5, .int a5)]) hx hb dX12_feed_99 hl (k := 1) rfl (by decide) (by decide) rfl ?_
  clear hl
  try clear ls
  intro ls hl
  refine lv_goto (tgt := 18) hx hb dX12_feed_102 (by decide) ?_
  refine lv_iload hx hb dX12_feed_18 (lv_at hl 0 rfl) ?_
  refine lv_bipush (v := 20) hx hb dX12_feed_20 (by decide) ?_
  refine lv_icmp_ge (tgt := 105) hx hb dX12_feed_22 (by decide) (fun c9 => absurd c9 (by decide)) (fun _ => ?_)
  refine lv_iload hx hb dX12_feed_25 (lv_at hl 0 rfl) ?_
  refine lv_iconst (v := 4) hx hb dX12_feed_27 (by decide) ?_
  refine lv_icmp_ge (tgt := 35) hx hb dX12_feed_28 (by decide) (fun _ => ?_) (fun c9 => absurd (by decide) c9)
  refine lv_iload hx hb dX12_feed_35 (lv_at hl 0 rfl) ?_
  refine lv_bipush (v := 8) hx hb dX12_feed_37 (by decide) ?_
  refine lv_icmp_ge (tgt := 46) hx hb dX12_feed_39 (by decide) (fun _ => ?_) (fun c9 => absurd (by decide) c9)
  refine lv_iload hx hb dX12_feed_46 (lv_at hl 0 rfl) ?_
  refine lv_bipush (v := 12) hx hb dX12_feed_48 (by decide) ?_
  refine lv_icmp_ge (tgt := 57) hx hb dX12_feed_50 (by decide) (fun _ => ?_) (fun c9 => absurd (by decide) c9)
  refine lv_iload hx hb dX12_feed_57 (lv_at hl 0 rfl) ?_
  refine lv_bipush (v := 16) hx hb dX12_feed_59 (by decide) ?_
  refine lv_icmp_ge (tgt := 69) hx hb dX12_feed_61 (by decide) (fun _ => ?_) (fun c9 => absurd (by decide) c9)
  refine lv_iload hx hb dX12_feed_69 (lv_at hl 7 rfl) ?_
  refine lv_istore (lv' := [(7, .int a5), (6, .int 19), (0, .ref mo), (1, .int a1), (2, .int a2), (3, .int a3), (4, .int a4), (5, .int a5)]) hx hb dX12_feed_71 hl (by decide) rfl ?_
  clear hl
  try clear ls
  intro ls hl
  refine lv_aload_n hx hb dX12_feed_73 rfl (lv_at hl 2 rfl) ?_
  refine va_get (ci := 12) (v := .ref (h 0)) (C := RX12) (T := TX12) (N := 58) hx hb ht iX12 hown hK hP 0 rfl rfl 0 (by decide) (ht _ k_276) (fun _ h9 => h9) rfl dX12_feed_74 ?_
  refine lv_aload_n hx hb dX12_feed_77 rfl (lv_at hl 2 rfl) ?_
  refine va_get (ci := 12) (v := .int 0) (C := RX12) (T := TX12) (N := 58) hx hb ht iX12 hown hK hP 0 rfl rfl 2 (by decide) (ht _ k_334) (fun _ h9 => h9) rfl dX12_feed_78 ?_
  refine lv_iload hx hb dX12_feed_81 (lv_at hl 1 rfl) ?_
  refine lv_iadd hx hb dX12_feed_83 ?_
  refine ow_top 19 (by decide +kernel) ?_
  refine lv_iload hx hb dX12_feed_84 (lv_at hl 0 rfl) ?_
  refine lv_bipush (v := 24) hx hb dX12_feed_86 (by decide) ?_
  refine lv_bipush (v := 8) hx hb dX12_feed_88 (by decide) ?_
  refine lv_iload hx hb dX12_feed_90 (lv_at hl 1 rfl) ?_
  refine lv_iconst (v := 3) hx hb dX12_feed_92 (by decide) ?_
  refine lv_iand hx hb dX12_feed_93 ?_
  refine ow_top 3 (by decide +kernel) ?_
  refine lv_imul hx hb dX12_feed_94 ?_
  refine ow_top 24 (by decide +kernel) ?_
  refine lv_isub hx hb dX12_feed_95 ?_
  refine ow_top 0 (by decide +kernel) ?_
  refine lv_ishr hx hb dX12_feed_96 ?_
  refine lv_topi (fun v_58 ev_58 => ?_)
  refine lv_i2b hx hb dX12_feed_97 rfl ?_
  refine lv_topi (fun v_59 ev_59 => ?_)
  refine ow_bast hx hb hK hP hD hS 1 rfl (in_lit (by decide +kernel)) dX12_feed_98 ?_
  clear hP hD hS
  try clear H locs
  intro f_60 H locs hP hD hS
  replace hP : va_P G vwCl [(mo, .inr (12, [.ref (h 0), .ref (h 1), .int 0, .int 0, .int 0, .int (-1), .int 0, .int 0, .int 0, .int 0, .long 0, .ref (h 2), .ref (h 3), .ref (h 4), .ref (h 5), .ref (h 6), .ref (h 7), .ref (h 8), .ref (h 9), .ref (h 10), .ref (h 11), .ref (h 12), .ref (h 13), .ref (h 14), .ref (h 15), .ref (h 16), .ref (h 17), .ref (h 18), .ref (h 19), .int 0, .int 0, .int 0, .int 0, .int 0, .int 0, .ref (h 20), .ref (h 21), .int 0, .ref (h 22), .ref (h 23), .ref (h 24), .ref (h 25), .ref (h 26), .int 0, .int 0, .ref (h 27), .ref (h 28), .ref (h 29), .ref (h 30), .ref (h 31), .int 0, .int 0, .ref (h 32), .ref (h 33), .ref (h 34), .ref (h 35), .ref (h 36), .ref (h 37)])), ((h 0), .inl (cy 1, 1720, .inl f_60)), ((h 2), .inl (cy 0, 2, .inl (fun _ => 0))), ((h 3), .inl (cy 0, 2, .inl (fun _ => 0))), ((h 4), .inl (cy 0, 2, .inl (fun _ => 0))), ((h 5), .inl (cy 0, 2, .inl (f 0))), ((h 12), .inl (cy 2, 2, .inl (f 1))), ((h 7), .inl (cy 0, 1200, .inl (fun _ => 0))), ((h 8), .inl (cy 0, 1200, .inl (fun _ => 0))), ((h 20), .inl (cy 2, 8, .inl (fun _ => 0))), ((h 21), .inl (cy 0, 8, .inl (fun _ => 0))), ((h 32), .inl (cy 0, 3, .inl (f 2))), ((h 33), .inl (cy 0, 120, .inl (fun _ => 0))), ((h 34), .inl (cy 0, 120, .inl (fun _ => 0))), ((h 35), .inl (cy 0, 24, .inl (fun _ => 0))), ((h 36), .inl (cy 2, 24, .inl (fun _ => 0))), ((h 37), .inl (cy 2, 3, .inl (fun _ => 0)))] H := hP
  replace hD : va_D A [(mo, .inr (12, [.ref (h 0), .ref (h 1), .int 0, .int 0, .int 0, .int (-1), .int 0, .int 0, .int 0, .int 0, .long 0, .ref (h 2), .ref (h 3), .ref (h 4), .ref (h 5), .ref (h 6), .ref (h 7), .ref (h 8), .ref (h 9), .ref (h 10), .ref (h 11), .ref (h 12), .ref (h 13), .ref (h 14), .ref (h 15), .ref (h 16), .ref (h 17), .ref (h 18), .ref (h 19), .int 0, .int 0, .int 0, .int 0, .int 0, .int 0, .ref (h 20), .ref (h 21), .int 0, .ref (h 22), .ref (h 23), .ref (h 24), .ref (h 25), .ref (h 26), .int 0, .int 0, .ref (h 27), .ref (h 28), .ref (h 29), .ref (h 30), .ref (h 31), .int 0, .int 0, .ref (h 32), .ref (h 33), .ref (h 34), .ref (h 35), .ref (h 36), .ref (h 37)])), ((h 0), .inl (cy 1, 1720, .inl f_60)), ((h 2), .inl (cy 0, 2, .inl (fun _ => 0))), ((h 3), .inl (cy 0, 2, .inl (fun _ => 0))), ((h 4), .inl (cy 0, 2, .inl (fun _ => 0))), ((h 5), .inl (cy 0, 2, .inl (f 0))), ((h 12), .inl (cy 2, 2, .inl (f 1))), ((h 7), .inl (cy 0, 1200, .inl (fun _ => 0))), ((h 8), .inl (cy 0, 1200, .inl (fun _ => 0))), ((h 20), .inl (cy 2, 8, .inl (fun _ => 0))), ((h 21), .inl (cy 0, 8, .inl (fun _ => 0))), ((h 32), .inl (cy 0, 3, .inl (f 2))), ((h 33), .inl (cy 0, 120, .inl (fun _ => 0))), ((h 34), .inl (cy 0, 120, .inl (fun _ => 0))), ((h 35), .inl (cy 0, 24, .inl (fun _ => 0))), ((h 36), .inl (cy 2, 24, .inl (fun _ => 0))), ((h 37), .inl (cy 2, 3, .inl (fun _ => 0)))] := hD
  refine lv_iinc (v := 20) (lv' := [(6, .int 20), (7, .int a5), (0, .ref mo), (1, .int a1), (2, .int a2), (3, .int a3), (4, .int a4), (5, .int a5)]) hx hb dX12_feed_99 hl (k := 1) rfl (by decide) (by decide) rfl ?_
  clear hl
  try clear ls
  intro ls hl
  refine lv_goto (tgt := 18) hx hb dX12_feed_102 (by decide) ?_
  refine lv_iload hx hb dX12_feed_18 (lv_at hl 0 rfl) ?_
  refine lv_bipush (v := 20) hx hb dX12_feed_20 (by decide) ?_
  refine lv_icmp_ge (tgt := 105) hx hb dX12_feed_22 (by decide) (fun _ => ?_) (fun c9 => absurd (by decide) c9)
  refine lv_aload_n hx hb dX12_feed_105 rfl (lv_at hl 2 rfl) ?_
  refine lv_dup hx hb dX12_feed_106 rfl ?_
  refine va_get (ci := 12) (v := .int 0) (C := RX12) (T := TX12) (N := 58) hx hb ht iX12 hown hK hP 0 rfl rfl 2 (by decide) (ht _ k_334) (fun _ h9 => h9) rfl dX12_feed_107 ?_
  refine lv_bipush (v := 20) hx hb dX12_feed_110 (by decide) ?_
  refine lv_iadd hx hb dX12_feed_112 ?_
  refine ow_top 20 (by decide +kernel) ?_
  refine va_put (ci := 12) (v := .int 20) (ty := .int) (C := RX12) (T := TX12) (N := 58) hx hb ht iX12 tyX12 tyX12_ok nmX12 hown hK hP hD hS 0 rfl rfl 2 (by decide) (ht _ k_334) (fun _ h9 => h9) rfl (by decide +kernel) rfl rfl (Nat.le_of_ble_eq_true rfl) dX12_feed_113 ?_
  clear hP hD hS
  try clear H locs
  intro H locs hP hD hS
  replace hP : va_P G vwCl [(mo, .inr (12, [.ref (h 0), .ref (h 1), .int 20, .int 0, .int 0, .int (-1), .int 0, .int 0, .int 0, .int 0, .long 0, .ref (h 2), .ref (h 3), .ref (h 4), .ref (h 5), .ref (h 6), .ref (h 7), .ref (h 8), .ref (h 9), .ref (h 10), .ref (h 11), .ref (h 12), .ref (h 13), .ref (h 14), .ref (h 15), .ref (h 16), .ref (h 17), .ref (h 18), .ref (h 19), .int 0, .int 0, .int 0, .int 0, .int 0, .int 0, .ref (h 20), .ref (h 21), .int 0, .ref (h 22), .ref (h 23), .ref (h 24), .ref (h 25), .ref (h 26), .int 0, .int 0, .ref (h 27), .ref (h 28), .ref (h 29), .ref (h 30), .ref (h 31), .int 0, .int 0, .ref (h 32), .ref (h 33), .ref (h 34), .ref (h 35), .ref (h 36), .ref (h 37)])), ((h 0), .inl (cy 1, 1720, .inl f_60)), ((h 2), .inl (cy 0, 2, .inl (fun _ => 0))), ((h 3), .inl (cy 0, 2, .inl (fun _ => 0))), ((h 4), .inl (cy 0, 2, .inl (fun _ => 0))), ((h 5), .inl (cy 0, 2, .inl (f 0))), ((h 12), .inl (cy 2, 2, .inl (f 1))), ((h 7), .inl (cy 0, 1200, .inl (fun _ => 0))), ((h 8), .inl (cy 0, 1200, .inl (fun _ => 0))), ((h 20), .inl (cy 2, 8, .inl (fun _ => 0))), ((h 21), .inl (cy 0, 8, .inl (fun _ => 0))), ((h 32), .inl (cy 0, 3, .inl (f 2))), ((h 33), .inl (cy 0, 120, .inl (fun _ => 0))), ((h 34), .inl (cy 0, 120, .inl (fun _ => 0))), ((h 35), .inl (cy 0, 24, .inl (fun _ => 0))), ((h 36), .inl (cy 2, 24, .inl (fun _ => 0))), ((h 37), .inl (cy 2, 3, .inl (fun _ => 0)))] H := hP
  replace hD : va_D A [(mo, .inr (12, [.ref (h 0), .ref (h 1), .int 20, .int 0, .int 0, .int (-1), .int 0, .int 0, .int 0, .int 0, .long 0, .ref (h 2), .ref (h 3), .ref (h 4), .ref (h 5), .ref (h 6), .ref (h 7), .ref (h 8), .ref (h 9), .ref (h 10), .ref (h 11), .ref (h 12), .ref (h 13), .ref (h 14), .ref (h 15), .ref (h 16), .ref (h 17), .ref (h 18), .ref (h 19), .int 0, .int 0, .int 0, .int 0, .int 0, .int 0, .ref (h 20), .ref (h 21), .int 0, .ref (h 22), .ref (h 23), .ref (h 24), .ref (h 25), .ref (h 26), .int 0, .int 0, .ref (h 27), .ref (h 28), .ref (h 29), .ref (h 30), .ref (h 31), .int 0, .int 0, .ref (h 32), .ref (h 33), .ref (h 34), .ref (h 35), .ref (h 36), .ref (h 37)])), ((h 0), .inl (cy 1, 1720, .inl f_60)), ((h 2), .inl (cy 0, 2, .inl (fun _ => 0))), ((h 3), .inl (cy 0, 2, .inl (fun _ => 0))), ((h 4), .inl (cy 0, 2, .inl (fun _ => 0))), ((h 5), .inl (cy 0, 2, .inl (f 0))), ((h 12), .inl (cy 2, 2, .inl (f 1))), ((h 7), .inl (cy 0, 1200, .inl (fun _ => 0))), ((h 8), .inl (cy 0, 1200, .inl (fun _ => 0))), ((h 20), .inl (cy 2, 8, .inl (fun _ => 0))), ((h 21), .inl (cy 0, 8, .inl (fun _ => 0))), ((h 32), .inl (cy 0, 3, .inl (f 2))), ((h 33), .inl (cy 0, 120, .inl (fun _ => 0))), ((h 34), .inl (cy 0, 120, .inl (fun _ => 0))), ((h 35), .inl (cy 0, 24, .inl (fun _ => 0))), ((h 36), .inl (cy 2, 24, .inl (fun _ => 0))), ((h 37), .inl (cy 2, 3, .inl (fun _ => 0)))] := hD
  refine lv_aload_n hx hb dX12_feed_116 rfl (lv_at hl 2 rfl) ?_
  refine va_get (ci := 12) (v := .int 20) (C := RX12) (T := TX12) (N := 58) hx hb ht iX12 hown hK hP 0 rfl rfl 2 (by decide) (ht _ k_334) (fun _ h9 => h9) rfl dX12_feed_117 ?_
  refine W.widen (k := 0) (n := 0) (Nat.le_of_ble_eq_true rfl) (Nat.le_of_ble_eq_true rfl) ?_
  exact W.iret (v := 20) hx hb hr (fun t ht9 hW => ⟨⟨20, (), rfl, ⟨rfl, trivial⟩, trivial⟩, hS.F ht9⟩) hS.2.2 dX12_feed_120
set_option maxHeartbeats 4000000 in
set_option maxRecDepth 100000 in
theorem m_town (l : Launch) (G : va_G) (cy : Nat → ClassId) (sz : Nat) (mo : Nat) (h : Nat → Nat) (f : Nat → Nat → Int32)  : Met l yX12_town (.code yX12_town cX12_town 2 (some .int) :: TBg) ({ frames := 3, cells := 0, slots := 0, locals := 192 }) (va_Pc [.ref mo] (En G cy (WM cy mo h f) sz)) (va_Qi (fun (r : Int32) (_ : Unit) => r = 0 ∧ True) (fun _ _ => True) (va_A (WM cy mo h f) sz)) 0 0 (va_A (WM cy mo h f) sz) := by
  refine Met.ofW (cc := cX12_town) (maxL := 2) (ret := (some .int)) (by decide) rfl ?_
  intro p e s m args below meth c s₁ B hml hv
  obtain ⟨rfl, hsz, hP, hK, hD0, hN⟩ := hv
  have hx := B.exec
  have hb := B.bytes
  have hr := B.returns
  have hts := atoms_spec (ws := .code yX12_town cX12_town 2 (some .int) :: TBg) B.pre
  have ht : ∀ w ∈ TBg, w.before _ s = true := fun w h => hts w (List.mem_cons_of_mem _ h)
  have hown : s.vm.findClass RX12 = some m.cls := findClass_of_methodNamed B.named
  have hlocks := B.notSynchronized
  subst hsz
  have hD := hD0.self (sz := s.heap.size)
  generalize hAe : va_A (WM cy mo h f) s.heap.size = A at hD ⊢
  have hA : ∀ q : Nat, s.heap.size ≤ q → A q := fun q h => by rw [← hAe]; exact Or.inr h
  have hS : va_S A s.heap s.heap [] := va_S.rf
  have hl := lv_entry ([.ref mo]) (n := 2) (Nat.le_of_ble_eq_true rfl)
  rw [lg_entry_eq]
  generalize (lg_sl ([.ref mo]) ++ List.replicate (2 - (lg_sl ([.ref mo])).length) Slot.unset).toArray = ls at hl ⊢
  have hl : lv_has ls 2 [(0, .ref mo)] := hl
  refine lv_aload_n hx hb dX12_town_0 rfl (lv_at hl 0 rfl) ?_
  refine lv_iconst (v := 0) hx hb dX12_town_1 (by decide) ?_
  refine va_put (ci := 12) (v := .int 0) (ty := .int) (C := RX12) (T := TX12) (N := 58) hx hb ht iX12 tyX12 tyX12_ok nmX12 hown hK hP hD hS 0 rfl rfl 4 (by decide) (ht _ k_319) (fun _ h9 => h9) rfl (by decide +kernel) rfl rfl (Nat.le_of_ble_eq_true rfl) dX12_town_2 ?_
  clear hP hD hS
  try clear H locs
  intro H locs hP hD hS
  replace hP : va_P G vwCl [(mo, .inr (12, [.ref (h 0), .ref (h 1), .int 0, .int 0, .int 0, .int (-1), .int 0, .int 0, .int 0, .int 0, .long 0, .ref (h 2), .ref (h 3), .ref (h 4), .ref (h 5), .ref (h 6), .ref (h 7), .ref (h 8), .ref (h 9), .ref (h 10), .ref (h 11), .ref (h 12), .ref (h 13), .ref (h 14), .ref (h 15), .ref (h 16), .ref (h 17), .ref (h 18), .ref (h 19), .int 0, .int 0, .int 0, .int 0, .int 0, .int 0, .ref (h 20), .ref (h 21), .int 0, .ref (h 22), .ref (h 23), .ref (h 24), .ref (h 25), .ref (h 26), .int 0, .int 0, .ref (h 27), .ref (h 28), .ref (h 29), .ref (h 30), .ref (h 31), .int 0, .int 0, .ref (h 32), .ref (h 33), .ref (h 34), .ref (h 35), .ref (h 36), .ref (h 37)])), ((h 0), .inl (cy 1, 1720, .inl (fun _ => 0))), ((h 2), .inl (cy 0, 2, .inl (fun _ => 0))), ((h 3), .inl (cy 0, 2, .inl (fun _ => 0))), ((h 4), .inl (cy 0, 2, .inl (fun _ => 0))), ((h 5), .inl (cy 0, 2, .inl (f 0))), ((h 12), .inl (cy 2, 2, .inl (f 1))), ((h 7), .inl (cy 0, 1200, .inl (fun _ => 0))), ((h 8), .inl (cy 0, 1200, .inl (fun _ => 0))), ((h 20), .inl (cy 2, 8, .inl (fun _ => 0))), ((h 21), .inl (cy 0, 8, .inl (fun _ => 0))), ((h 32), .inl (cy 0, 3, .inl (f 2))), ((h 33), .inl (cy 0, 120, .inl (fun _ => 0))), ((h 34), .inl (cy 0, 120, .inl (fun _ => 0))), ((h 35), .inl (cy 0, 24, .inl (fun _ => 0))), ((h 36), .inl (cy 2, 24, .inl (fun _ => 0))), ((h 37), .inl (cy 2, 3, .inl (fun _ => 0)))] H := hP
  replace hD : va_D A [(mo, .inr (12, [.ref (h 0), .ref (h 1), .int 0, .int 0, .int 0, .int (-1), .int 0, .int 0, .int 0, .int 0, .long 0, .ref (h 2), .ref (h 3), .ref (h 4), .ref (h 5), .ref (h 6), .ref (h 7), .ref (h 8), .ref (h 9), .ref (h 10), .ref (h 11), .ref (h 12), .ref (h 13), .ref (h 14), .ref (h 15), .ref (h 16), .ref (h 17), .ref (h 18), .ref (h 19), .int 0, .int 0, .int 0, .int 0, .int 0, .int 0, .ref (h 20), .ref (h 21), .int 0, .ref (h 22), .ref (h 23), .ref (h 24), .ref (h 25), .ref (h 26), .int 0, .int 0, .ref (h 27), .ref (h 28), .ref (h 29), .ref (h 30), .ref (h 31), .int 0, .int 0, .ref (h 32), .ref (h 33), .ref (h 34), .ref (h 35), .ref (h 36), .ref (h 37)])), ((h 0), .inl (cy 1, 1720, .inl (fun _ => 0))), ((h 2), .inl (cy 0, 2, .inl (fun _ => 0))), ((h 3), .inl (cy 0, 2, .inl (fun _ => 0))), ((h 4), .inl (cy 0, 2, .inl (fun _ => 0))), ((h 5), .inl (cy 0, 2, .inl (f 0))), ((h 12), .inl (cy 2, 2, .inl (f 1))), ((h 7), .inl (cy 0, 1200, .inl (fun _ => 0))), ((h 8), .inl (cy 0, 1200, .inl (fun _ => 0))), ((h 20), .inl (cy 2, 8, .inl (fun _ => 0))), ((h 21), .inl (cy 0, 8, .inl (fun _ => 0))), ((h 32), .inl (cy 0, 3, .inl (f 2))), ((h 33), .inl (cy 0, 120, .inl (fun _ => 0))), ((h 34), .inl (cy 0, 120, .inl (fun _ => 0))), ((h 35), .inl (cy 0, 24, .inl (fun _ => 0))), ((h 36), .inl (cy 2, 24, .inl (fun _ => 0))), ((h 37), .inl (cy 2, 3, .inl (fun _ => 0)))] := hD
  refine lv_aload_n hx hb dX12_town_5 rfl (lv_at hl 0 rfl) ?_
  refine lv_iconst (v := (-1)) hx hb dX12_town_6 (by decide) ?_
  refine va_put (ci := 12) (v := .int (-1)) (ty := .int) (C := RX12) (T := TX12) (N := 58) hx hb ht iX12 tyX12 tyX12_ok nmX12 hown hK hP hD hS 0 rfl rfl 5 (by decide) (ht _ k_278) (fun _ h9 => h9) rfl (by decide +kernel) rfl rfl (Nat.le_of_ble_eq_true rfl) dX12_town_7 ?_
  clear hP hD hS
  try clear H locs
  intro H locs hP hD hS
  replace hP : va_P G vwCl [(mo, .inr (12, [.ref (h 0), .ref (h 1), .int 0, .int 0, .int 0, .int (-1), .int 0, .int 0, .int 0, .int 0, .long 0, .ref (h 2), .ref (h 3), .ref (h 4), .ref (h 5), .ref (h 6), .ref (h 7), .ref (h 8), .ref (h 9), .ref (h 10), .ref (h 11), .ref (h 12), .ref (h 13), .ref (h 14), .ref (h 15), .ref (h 16), .ref (h 17), .ref (h 18), .ref (h 19), .int 0, .int 0, .int 0, .int 0, .int 0, .int 0, .ref (h 20), .ref (h 21), .int 0, .ref (h 22), .ref (h 23), .ref (h 24), .ref (h 25), .ref (h 26), .int 0, .int 0, .ref (h 27), .ref (h 28), .ref (h 29), .ref (h 30), .ref (h 31), .int 0, .int 0, .ref (h 32), .ref (h 33), .ref (h 34), .ref (h 35), .ref (h 36), .ref (h 37)])), ((h 0), .inl (cy 1, 1720, .inl (fun _ => 0))), ((h 2), .inl (cy 0, 2, .inl (fun _ => 0))), ((h 3), .inl (cy 0, 2, .inl (fun _ => 0))), ((h 4), .inl (cy 0, 2, .inl (fun _ => 0))), ((h 5), .inl (cy 0, 2, .inl (f 0))), ((h 12), .inl (cy 2, 2, .inl (f 1))), ((h 7), .inl (cy 0, 1200, .inl (fun _ => 0))), ((h 8), .inl (cy 0, 1200, .inl (fun _ => 0))), ((h 20), .inl (cy 2, 8, .inl (fun _ => 0))), ((h 21), .inl (cy 0, 8, .inl (fun _ => 0))), ((h 32), .inl (cy 0, 3, .inl (f 2))), ((h 33), .inl (cy 0, 120, .inl (fun _ => 0))), ((h 34), .inl (cy 0, 120, .inl (fun _ => 0))), ((h 35), .inl (cy 0, 24, .inl (fun _ => 0))), ((h 36), .inl (cy 2, 24, .inl (fun _ => 0))), ((h 37), .inl (cy 2, 3, .inl (fun _ => 0)))] H := hP
  replace hD : va_D A [(mo, .inr (12, [.ref (h 0), .ref (h 1), .int 0, .int 0, .int 0, .int (-1), .int 0, .int 0, .int 0, .int 0, .long 0, .ref (h 2), .ref (h 3), .ref (h 4), .ref (h 5), .ref (h 6), .ref (h 7), .ref (h 8), .ref (h 9), .ref (h 10), .ref (h 11), .ref (h 12), .ref (h 13), .ref (h 14), .ref (h 15), .ref (h 16), .ref (h 17), .ref (h 18), .ref (h 19), .int 0, .int 0, .int 0, .int 0, .int 0, .int 0, .ref (h 20), .ref (h 21), .int 0, .ref (h 22), .ref (h 23), .ref (h 24), .ref (h 25), .ref (h 26), .int 0, .int 0, .ref (h 27), .ref (h 28), .ref (h 29), .ref (h 30), .ref (h 31), .int 0, .int 0, .ref (h 32), .ref (h 33), .ref (h 34), .ref (h 35), .ref (h 36), .ref (h 37)])), ((h 0), .inl (cy 1, 1720, .inl (fun _ => 0))), ((h 2), .inl (cy 0, 2, .inl (fun _ => 0))), ((h 3), .inl (cy 0, 2, .inl (fun _ => 0))), ((h 4), .inl (cy 0, 2, .inl (fun _ => 0))), ((h 5), .inl (cy 0, 2, .inl (f 0))), ((h 12), .inl (cy 2, 2, .inl (f 1))), ((h 7), .inl (cy 0, 1200, .inl (fun _ => 0))), ((h 8), .inl (cy 0, 1200, .inl (fun _ => 0))), ((h 20), .inl (cy 2, 8, .inl (fun _ => 0))), ((h 21), .inl (cy 0, 8, .inl (fun _ => 0))), ((h 32), .inl (cy 0, 3, .inl (f 2))), ((h 33), .inl (cy 0, 120, .inl (fun _ => 0))), ((h 34), .inl (cy 0, 120, .inl (fun _ => 0))), ((h 35), .inl (cy 0, 24, .inl (fun _ => 0))), ((h 36), .inl (cy 2, 24, .inl (fun _ => 0))), ((h 37), .inl (cy 2, 3, .inl (fun _ => 0)))] := hD
  refine lv_aload_n hx hb dX12_town_10 rfl (lv_at hl 0 rfl) ?_
  refine lv_aload_n hx hb dX12_town_11 rfl (lv_at hl 0 rfl) ?_
  refine va_get (ci := 12) (v := .int 0) (C := RX12) (T := TX12) (N := 58) hx hb ht iX12 hown hK hP 0 rfl rfl 2 (by decide) (ht _ k_334) (fun _ h9 => h9) rfl dX12_town_12 ?_
  refine va_put (ci := 12) (v := .int 0) (ty := .int) (C := RX12) (T := TX12) (N := 58) hx hb ht iX12 tyX12 tyX12_ok nmX12 hown hK hP hD hS 0 rfl rfl 3 (by decide) (ht _ k_320) (fun _ h9 => h9) rfl (by decide +kernel) rfl rfl (Nat.le_of_ble_eq_true rfl) dX12_town_15 ?_
  clear hP hD hS
  try clear H locs
  intro H locs hP hD hS
  replace hP : va_P G vwCl [(mo, .inr (12, [.ref (h 0), .ref (h 1), .int 0, .int 0, .int 0, .int (-1), .int 0, .int 0, .int 0, .int 0, .long 0, .ref (h 2), .ref (h 3), .ref (h 4), .ref (h 5), .ref (h 6), .ref (h 7), .ref (h 8), .ref (h 9), .ref (h 10), .ref (h 11), .ref (h 12), .ref (h 13), .ref (h 14), .ref (h 15), .ref (h 16), .ref (h 17), .ref (h 18), .ref (h 19), .int 0, .int 0, .int 0, .int 0, .int 0, .int 0, .ref (h 20), .ref (h 21), .int 0, .ref (h 22), .ref (h 23), .ref (h 24), .ref (h 25), .ref (h 26), .int 0, .int 0, .ref (h 27), .ref (h 28), .ref (h 29), .ref (h 30), .ref (h 31), .int 0, .int 0, .ref (h 32), .ref (h 33), .ref (h 34), .ref (h 35), .ref (h 36), .ref (h 37)])), ((h 0), .inl (cy 1, 1720, .inl (fun _ => 0))), ((h 2), .inl (cy 0, 2, .inl (fun _ => 0))), ((h 3), .inl (cy 0, 2, .inl (fun _ => 0))), ((h 4), .inl (cy 0, 2, .inl (fun _ => 0))), ((h 5), .inl (cy 0, 2, .inl (f 0))), ((h 12), .inl (cy 2, 2, .inl (f 1))), ((h 7), .inl (cy 0, 1200, .inl (fun _ => 0))), ((h 8), .inl (cy 0, 1200, .inl (fun _ => 0))), ((h 20), .inl (cy 2, 8, .inl (fun _ => 0))), ((h 21), .inl (cy 0, 8, .inl (fun _ => 0))), ((h 32), .inl (cy 0, 3, .inl (f 2))), ((h 33), .inl (cy 0, 120, .inl (fun _ => 0))), ((h 34), .inl (cy 0, 120, .inl (fun _ => 0))), ((h 35), .inl (cy 0, 24, .inl (fun _ => 0))), ((h 36), .inl (cy 2, 24, .inl (fun _ => 0))), ((h 37), .inl (cy 2, 3, .inl (fun _ => 0)))] H := hP
  replace hD : va_D A [(mo, .inr (12, [.ref (h 0), .ref (h 1), .int 0, .int 0, .int 0, .int (-1), .int 0, .int 0, .int 0, .int 0, .long 0, .ref (h 2), .ref (h 3), .ref (h 4), .ref (h 5), .ref (h 6), .ref (h 7), .ref (h 8), .ref (h 9), .ref (h 10), .ref (h 11), .ref (h 12), .ref (h 13), .ref (h 14), .ref (h 15), .ref (h 16), .ref (h 17), .ref (h 18), .ref (h 19), .int 0, .int 0, .int 0, .int 0, .int 0, .int 0, .ref (h 20), .ref (h 21), .int 0, .ref (h 22), .ref (h 23), .ref (h 24), .ref (h 25), .ref (h 26), .int 0, .int 0, .ref (h 27), .ref (h 28), .ref (h 29), .ref (h 30), .ref (h 31), .int 0, .int 0, .ref (h 32), .ref (h 33), .ref (h 34), .ref (h 35), .ref (h 36), .ref (h 37)])), ((h 0), .inl (cy 1, 1720, .inl (fun _ => 0))), ((h 2), .inl (cy 0, 2, .inl (fun _ => 0))), ((h 3), .inl (cy 0, 2, .inl (fun _ => 0))), ((h 4), .inl (cy 0, 2, .inl (fun _ => 0))), ((h 5), .inl (cy 0, 2, .inl (f 0))), ((h 12), .inl (cy 2, 2, .inl (f 1))), ((h 7), .inl (cy 0, 1200, .inl (fun _ => 0))), ((h 8), .inl (cy 0, 1200, .inl (fun _ => 0))), ((h 20), .inl (cy 2, 8, .inl (fun _ => 0))), ((h 21), .inl (cy 0, 8, .inl (fun _ => 0))), ((h 32), .inl (cy 0, 3, .inl (f 2))), ((h 33), .inl (cy 0, 120, .inl (fun _ => 0))), ((h 34), .inl (cy 0, 120, .inl (fun _ => 0))), ((h 35), .inl (cy 0, 24, .inl (fun _ => 0))), ((h 36), .inl (cy 2, 24, .inl (fun _ => 0))), ((h 37), .inl (cy 2, 3, .inl (fun _ => 0)))] := hD
  refine lv_iconst (v := 0) hx hb dX12_town_18 (by decide) ?_
  refine lv_istore_n (lv' := [(1, .int 0), (0, .ref mo)]) hx hb dX12_town_19 rfl hl (by decide) rfl ?_
  clear hl
  try clear ls
  intro ls hl
  refine lv_iload_n hx hb dX12_town_20 rfl (lv_at hl 0 rfl) ?_
  refine lv_aload_n hx hb dX12_town_21 rfl (lv_at hl 1 rfl) ?_
  refine va_get (ci := 12) (v := .int 0) (C := RX12) (T := TX12) (N := 58) hx hb ht iX12 hown hK hP 0 rfl rfl 3 (by decide) (ht _ k_320) (fun _ h9 => h9) rfl dX12_town_22 ?_
  refine lv_icmp_ge (tgt := 46) hx hb dX12_town_25 (by decide) (fun _ => ?_) (fun c9 => absurd (by decide) c9)
  refine lv_aload_n hx hb dX12_town_46 rfl (lv_at hl 1 rfl) ?_
  refine lv_iconst (v := 0) hx hb dX12_town_47 (by decide) ?_
  refine va_put (ci := 12) (v := .int 0) (ty := .int) (C := RX12) (T := TX12) (N := 58) hx hb ht iX12 tyX12 tyX12_ok nmX12 hown hK hP hD hS 0 rfl rfl 2 (by decide) (ht _ k_334) (fun _ h9 => h9) rfl (by decide +kernel) rfl rfl (Nat.le_of_ble_eq_true rfl) dX12_town_48 ?_
  clear hP hD hS
  try clear H locs
  intro H locs hP hD hS
  replace hP : va_P G vwCl [(mo, .inr (12, [.ref (h 0), .ref (h 1), .int 0, .int 0, .int 0, .int (-1), .int 0, .int 0, .int 0, .int 0, .long 0, .ref (h 2), .ref (h 3), .ref (h 4), .ref (h 5), .ref (h 6), .ref (h 7), .ref (h 8), .ref (h 9), .ref (h 10), .ref (h 11), .ref (h 12), .ref (h 13), .ref (h 14), .ref (h 15), .ref (h 16), .ref (h 17), .ref (h 18), .ref (h 19), .int 0, .int 0, .int 0, .int 0, .int 0, .int 0, .ref (h 20), .ref (h 21), .int 0, .ref (h 22), .ref (h 23), .ref (h 24), .ref (h 25), .ref (h 26), .int 0, .int 0, .ref (h 27), .ref (h 28), .ref (h 29), .ref (h 30), .ref (h 31), .int 0, .int 0, .ref (h 32), .ref (h 33), .ref (h 34), .ref (h 35), .ref (h 36), .ref (h 37)])), ((h 0), .inl (cy 1, 1720, .inl (fun _ => 0))), ((h 2), .inl (cy 0, 2, .inl (fun _ => 0))), ((h 3), .inl (cy 0, 2, .inl (fun _ => 0))), ((h 4), .inl (cy 0, 2, .inl (fun _ => 0))), ((h 5), .inl (cy 0, 2, .inl (f 0))), ((h 12), .inl (cy 2, 2, .inl (f 1))), ((h 7), .inl (cy 0, 1200, .inl (fun _ => 0))), ((h 8), .inl (cy 0, 1200, .inl (fun _ => 0))), ((h 20), .inl (cy 2, 8, .inl (fun _ => 0))), ((h 21), .inl (cy 0, 8, .inl (fun _ => 0))), ((h 32), .inl (cy 0, 3, .inl (f 2))), ((h 33), .inl (cy 0, 120, .inl (fun _ => 0))), ((h 34), .inl (cy 0, 120, .inl (fun _ => 0))), ((h 35), .inl (cy 0, 24, .inl (fun _ => 0))), ((h 36), .inl (cy 2, 24, .inl (fun _ => 0))), ((h 37), .inl (cy 2, 3, .inl (fun _ => 0)))] H := hP
  replace hD : va_D A [(mo, .inr (12, [.ref (h 0), .ref (h 1), .int 0, .int 0, .int 0, .int (-1), .int 0, .int 0, .int 0, .int 0, .long 0, .ref (h 2), .ref (h 3), .ref (h 4), .ref (h 5), .ref (h 6), .ref (h 7), .ref (h 8), .ref (h 9), .ref (h 10), .ref (h 11), .ref (h 12), .ref (h 13), .ref (h 14), .ref (h 15), .ref (h 16), .ref (h 17), .ref (h 18), .ref (h 19), .int 0, .int 0, .int 0, .int 0, .int 0, .int 0, .ref (h 20), .ref (h 21), .int 0, .ref (h 22), .ref (h 23), .ref (h 24), .ref (h 25), .ref (h 26), .int 0, .int 0, .ref (h 27), .ref (h 28), .ref (h 29), .ref (h 30), .ref (h 31), .int 0, .int 0, .ref (h 32), .ref (h 33), .ref (h 34), .ref (h 35), .ref (h 36), .ref (h 37)])), ((h 0), .inl (cy 1, 1720, .inl (fun _ => 0))), ((h 2), .inl (cy 0, 2, .inl (fun _ => 0))), ((h 3), .inl (cy 0, 2, .inl (fun _ => 0))), ((h 4), .inl (cy 0, 2, .inl (fun _ => 0))), ((h 5), .inl (cy 0, 2, .inl (f 0))), ((h 12), .inl (cy 2, 2, .inl (f 1))), ((h 7), .inl (cy 0, 1200, .inl (fun _ => 0))), ((h 8), .inl (cy 0, 1200, .inl (fun _ => 0))), ((h 20), .inl (cy 2, 8, .inl (fun _ => 0))), ((h 21), .inl (cy 0, 8, .inl (fun _ => 0))), ((h 32), .inl (cy 0, 3, .inl (f 2))), ((h 33), .inl (cy 0, 120, .inl (fun _ => 0))), ((h 34), .inl (cy 0, 120, .inl (fun _ => 0))), ((h 35), .inl (cy 0, 24, .inl (fun _ => 0))), ((h 36), .inl (cy 2, 24, .inl (fun _ => 0))), ((h 37), .inl (cy 2, 3, .inl (fun _ => 0)))] := hD
  refine lv_aload_n hx hb dX12_town_51 rfl (lv_at hl 1 rfl) ?_
  refine lv_iconst (v := 0) hx hb dX12_town_52 (by decide) ?_
  refine va_put (ci := 12) (v := .int 0) (ty := .int) (C := RX12) (T := TX12) (N := 58) hx hb ht iX12 tyX12 tyX12_ok nmX12 hown hK hP hD hS 0 rfl rfl 7 (by decide) (ht _ k_321) (fun _ h9 => h9) rfl (by decide +kernel) rfl rfl (Nat.le_of_ble_eq_true rfl) dX12_town_53 ?_
  clear hP hD hS
  try clear H locs
  intro H locs hP hD hS
  replace hP : va_P G vwCl [(mo, .inr (12, [.ref (h 0), .ref (h 1), .int 0, .int 0, .int 0, .int (-1), .int 0, .int 0, .int 0, .int 0, .long 0, .ref (h 2), .ref (h 3), .ref (h 4), .ref (h 5), .ref (h 6), .ref (h 7), .ref (h 8), .ref (h 9), .ref (h 10), .ref (h 11), .ref (h 12), .ref (h 13), .ref (h 14), .ref (h 15), .ref (h 16), .ref (h 17), .ref (h 18), .ref (h 19), .int 0, .int 0, .int 0, .int 0, .int 0, .int 0, .ref (h 20), .ref (h 21), .int 0, .ref (h 22), .ref (h 23), .ref (h 24), .ref (h 25), .ref (h 26), .int 0, .int 0, .ref (h 27), .ref (h 28), .ref (h 29), .ref (h 30), .ref (h 31), .int 0, .int 0, .ref (h 32), .ref (h 33), .ref (h 34), .ref (h 35), .ref (h 36), .ref (h 37)])), ((h 0), .inl (cy 1, 1720, .inl (fun _ => 0))), ((h 2), .inl (cy 0, 2, .inl (fun _ => 0))), ((h 3), .inl (cy 0, 2, .inl (fun _ => 0))), ((h 4), .inl (cy 0, 2, .inl (fun _ => 0))), ((h 5), .inl (cy 0, 2, .inl (f 0))), ((h 12), .inl (cy 2, 2, .inl (f 1))), ((h 7), .inl (cy 0, 1200, .inl (fun _ => 0))), ((h 8), .inl (cy 0, 1200, .inl (fun _ => 0))), ((h 20), .inl (cy 2, 8, .inl (fun _ => 0))), ((h 21), .inl (cy 0, 8, .inl (fun _ => 0))), ((h 32), .inl (cy 0, 3, .inl (f 2))), ((h 33), .inl (cy 0, 120, .inl (fun _ => 0))), ((h 34), .inl (cy 0, 120, .inl (fun _ => 0))), ((h 35), .inl (cy 0, 24, .inl (fun _ => 0))), ((h 36), .inl (cy 2, 24, .inl (fun _ => 0))), ((h 37), .inl (cy 2, 3, .inl (fun _ => 0)))] H := hP
  replace hD : va_D A [(mo, .inr (12, [.ref (h 0), .ref (h 1), .int 0, .int 0, .int 0, .int (-1), .int 0, .int 0, .int 0, .int 0, .long 0, .ref (h 2), .ref (h 3), .ref (h 4), .ref (h 5), .ref (h 6), .ref (h 7), .ref (h 8), .ref (h 9), .ref (h 10), .ref (h 11), .ref (h 12), .ref (h 13), .ref (h 14), .ref (h 15), .ref (h 16), .ref (h 17), .ref (h 18), .ref (h 19), .int 0, .int 0, .int 0, .int 0, .int 0, .int 0, .ref (h 20), .ref (h 21), .int 0, .ref (h 22), .ref (h 23), .ref (h 24), .ref (h 25), .ref (h 26), .int 0, .int 0, .ref (h 27), .ref (h 28), .ref (h 29), .ref (h 30), .ref (h 31), .int 0, .int 0, .ref (h 32), .ref (h 33), .ref (h 34), .ref (h 35), .ref (h 36), .ref (h 37)])), ((h 0), .inl (cy 1, 1720, .inl (fun _ => 0))), ((h 2), .inl (cy 0, 2, .inl (fun _ => 0))), ((h 3), .inl (cy 0, 2, .inl (fun _ => 0))), ((h 4), .inl (cy 0, 2, .inl (fun _ => 0))), ((h 5), .inl (cy 0, 2, .inl (f 0))), ((h 12), .inl (cy 2, 2, .inl (f 1))), ((h 7), .inl (cy 0, 1200, .inl (fun _ => 0))), ((h 8), .inl (cy 0, 1200, .inl (fun _ => 0))), ((h 20), .inl (cy 2, 8, .inl (fun _ => 0))), ((h 21), .inl (cy 0, 8, .inl (fun _ => 0))), ((h 32), .inl (cy 0, 3, .inl (f 2))), ((h 33), .inl (cy 0, 120, .inl (fun _ => 0))), ((h 34), .inl (cy 0, 120, .inl (fun _ => 0))), ((h 35), .inl (cy 0, 24, .inl (fun _ => 0))), ((h 36), .inl (cy 2, 24, .inl (fun _ => 0))), ((h 37), .inl (cy 2, 3, .inl (fun _ => 0)))] := hD
  refine lv_aload_n hx hb dX12_town_56 rfl (lv_at hl 1 rfl) ?_
  refine lv_iconst (v := 1) hx hb dX12_town_57 (by decide) ?_
  refine lv_aload_n hx hb dX12_town_58 rfl (lv_at hl 1 rfl) ?_
  refine va_get (ci := 12) (v := .int 0) (C := RX12) (T := TX12) (N := 58) hx hb ht iX12 hown hK hP 0 rfl rfl 29 (by decide) (ht _ k_315) (fun _ h9 => h9) rfl dX12_town_59 ?_
  refine lv_isub hx hb dX12_town_62 ?_
  refine ow_top 1 (by decide +kernel) ?_
  refine va_put (ci := 12) (v := .int 1) (ty := .int) (C := RX12) (T := TX12) (N := 58) hx hb ht iX12 tyX12 tyX12_ok nmX12 hown hK hP hD hS 0 rfl rfl 30 (by decide) (ht _ k_269) (fun _ h9 => h9) rfl (by decide +kernel) rfl rfl (Nat.le_of_ble_eq_true rfl) dX12_town_63 ?_
  clear hP hD hS
  try clear H locs
  intro H locs hP hD hS
  replace hP : va_P G vwCl [(mo, .inr (12, [.ref (h 0), .ref (h 1), .int 0, .int 0, .int 0, .int (-1), .int 0, .int 0, .int 0, .int 0, .long 0, .ref (h 2), .ref (h 3), .ref (h 4), .ref (h 5), .ref (h 6), .ref (h 7), .ref (h 8), .ref (h 9), .ref (h 10), .ref (h 11), .ref (h 12), .ref (h 13), .ref (h 14), .ref (h 15), .ref (h 16), .ref (h 17), .ref (h 18), .ref (h 19), .int 0, .int 1, .int 0, .int 0, .int 0, .int 0, .ref (h 20), .ref (h 21), .int 0, .ref (h 22), .ref (h 23), .ref (h 24), .ref (h 25), .ref (h 26), .int 0, .int 0, .ref (h 27), .ref (h 28), .ref (h 29), .ref (h 30), .ref (h 31), .int 0, .int 0, .ref (h 32), .ref (h 33), .ref (h 34), .ref (h 35), .ref (h 36), .ref (h 37)])), ((h 0), .inl (cy 1, 1720, .inl (fun _ => 0))), ((h 2), .inl (cy 0, 2, .inl (fun _ => 0))), ((h 3), .inl (cy 0, 2, .inl (fun _ => 0))), ((h 4), .inl (cy 0, 2, .inl (fun _ => 0))), ((h 5), .inl (cy 0, 2, .inl (f 0))), ((h 12), .inl (cy 2, 2, .inl (f 1))), ((h 7), .inl (cy 0, 1200, .inl (fun _ => 0))), ((h 8), .inl (cy 0, 1200, .inl (fun _ => 0))), ((h 20), .inl (cy 2, 8, .inl (fun _ => 0))), ((h 21), .inl (cy 0, 8, .inl (fun _ => 0))), ((h 32), .inl (cy 0, 3, .inl (f 2))), ((h 33), .inl (cy 0, 120, .inl (fun _ => 0))), ((h 34), .inl (cy 0, 120, .inl (fun _ => 0))), ((h 35), .inl (cy 0, 24, .inl (fun _ => 0))), ((h 36), .inl (cy 2, 24, .inl (fun _ => 0))), ((h 37), .inl (cy 2, 3, .inl (fun _ => 0)))] H := hP
  replace hD : va_D A [(mo, .inr (12, [.ref (h 0), .ref (h 1), .int 0, .int 0, .int 0, .int (-1), .int 0, .int 0, .int 0, .int 0, .long 0, .ref (h 2), .ref (h 3), .ref (h 4), .ref (h 5), .ref (h 6), .ref (h 7), .ref (h 8), .ref (h 9), .ref (h 10), .ref (h 11), .ref (h 12), .ref (h 13), .ref (h 14), .ref (h 15), .ref (h 16), .ref (h 17), .ref (h 18), .ref (h 19), .int 0, .int 1, .int 0, .int 0, .int 0, .int 0, .ref (h 20), .ref (h 21), .int 0, .ref (h 22), .ref (h 23), .ref (h 24), .ref (h 25), .ref (h 26), .int 0, .int 0, .ref (h 27), .ref (h 28), .ref (h 29), .ref (h 30), .ref (h 31), .int 0, .int 0, .ref (h 32), .ref (h 33), .ref (h 34), .ref (h 35), .ref (h 36), .ref (h 37)])), ((h 0), .inl (cy 1, 1720, .inl (fun _ => 0))), ((h 2), .inl (cy 0, 2, .inl (fun _ => 0))), ((h 3), .inl (cy 0, 2, .inl (fun _ => 0))), ((h 4), .inl (cy 0, 2, .inl (fun _ => 0))), ((h 5), .inl (cy 0, 2, .inl (f 0))), ((h 12), .inl (cy 2, 2, .inl (f 1))), ((h 7), .inl (cy 0, 1200, .inl (fun _ => 0))), ((h 8), .inl (cy 0, 1200, .inl (fun _ => 0))), ((h 20), .inl (cy 2, 8, .inl (fun _ => 0))), ((h 21), .inl (cy 0, 8, .inl (fun _ => 0))), ((h 32), .inl (cy 0, 3, .inl (f 2))), ((h 33), .inl (cy 0, 120, .inl (fun _ => 0))), ((h 34), .inl (cy 0, 120, .inl (fun _ => 0))), ((h 35), .inl (cy 0, 24, .inl (fun _ => 0))), ((h 36), .inl (cy 2, 24, .inl (fun _ => 0))), ((h 37), .inl (cy 2, 3, .inl (fun _ => 0)))] := hD
  refine lv_aload_n hx hb dX12_town_66 rfl (lv_at hl 1 rfl) ?_
  have hFc := va_free (wc := [(mo, .inr (12, [.ref (h 0), .ref (h 1), .int 0, .int 0, .int 0, .int (-1), .int 0, .int 0, .int 0, .int 0, .long 0, .ref (h 2), .ref (h 3), .ref (h 4), .ref (h 5), .ref (h 6), .ref (h 7), .ref (h 8), .ref (h 9), .ref (h 10), .ref (h 11), .ref (h 12), .ref (h 13), .ref (h 14), .ref (h 15), .ref (h 16), .ref (h 17), .ref (h 18), .ref (h 19), .int 0, .int 1, .int 0, .int 0, .int 0, .int 0, .ref (h 20), .ref (h 21), .int 0, .ref (h 22), .ref (h 23), .ref (h 24), .ref (h 25), .ref (h 26), .int 0, .int 0, .ref (h 27), .ref (h 28), .ref (h 29), .ref (h 30), .ref (h 31), .int 0, .int 0, .ref (h 32), .ref (h 33), .ref (h 34), .ref (h 35), .ref (h 36), .ref (h 37)])), ((h 2), .inl (cy 0, 2, .inl (fun _ => 0))), ((h 3), .inl (cy 0, 2, .inl (fun _ => 0))), ((h 4), .inl (cy 0, 2, .inl (fun _ => 0))), ((h 5), .inl (cy 0, 2, .inl (f 0))), ((h 12), .inl (cy 2, 2, .inl (f 1)))]) hD hS hA [0, 2, 3, 4, 5, 6] rfl
  have hPc := hP.sub (ws' := [(mo, .inr (12, [.ref (h 0), .ref (h 1), .int 0, .int 0, .int 0, .int (-1), .int 0, .int 0, .int 0, .int 0, .long 0, .ref (h 2), .ref (h 3), .ref (h 4), .ref (h 5), .ref (h 6), .ref (h 7), .ref (h 8), .ref (h 9), .ref (h 10), .ref (h 11), .ref (h 12), .ref (h 13), .ref (h 14), .ref (h 15), .ref (h 16), .ref (h 17), .ref (h 18), .ref (h 19), .int 0, .int 1, .int 0, .int 0, .int 0, .int 0, .ref (h 20), .ref (h 21), .int 0, .ref (h 22), .ref (h 23), .ref (h 24), .ref (h 25), .ref (h 26), .int 0, .int 0, .ref (h 27), .ref (h 28), .ref (h 29), .ref (h 30), .ref (h 31), .int 0, .int 0, .ref (h 32), .ref (h 33), .ref (h 34), .ref (h 35), .ref (h 36), .ref (h 37)])), ((h 2), .inl (cy 0, 2, .inl (fun _ => 0))), ((h 3), .inl (cy 0, 2, .inl (fun _ => 0))), ((h 4), .inl (cy 0, 2, .inl (fun _ => 0))), ((h 5), .inl (cy 0, 2, .inl (f 0))), ((h 12), .inl (cy 2, 2, .inl (f 1)))]) [0, 2, 3, 4, 5, 6] rfl
  have hDc := hD.sub (ws' := [(mo, .inr (12, [.ref (h 0), .ref (h 1), .int 0, .int 0, .int 0, .int (-1), .int 0, .int 0, .int 0, .int 0, .long 0, .ref (h 2), .ref (h 3), .ref (h 4), .ref (h 5), .ref (h 6), .ref (h 7), .ref (h 8), .ref (h 9), .ref (h 10), .ref (h 11), .ref (h 12), .ref (h 13), .ref (h 14), .ref (h 15), .ref (h 16), .ref (h 17), .ref (h 18), .ref (h 19), .int 0, .int 1, .int 0, .int 0, .int 0, .int 0, .ref (h 20), .ref (h 21), .int 0, .ref (h 22), .ref (h 23), .ref (h 24), .ref (h 25), .ref (h 26), .int 0, .int 0, .ref (h 27), .ref (h 28), .ref (h 29), .ref (h 30), .ref (h 31), .int 0, .int 0, .ref (h 32), .ref (h 33), .ref (h 34), .ref (h 35), .ref (h 36), .ref (h 37)])), ((h 2), .inl (cy 0, 2, .inl (fun _ => 0))), ((h 3), .inl (cy 0, 2, .inl (fun _ => 0))), ((h 4), .inl (cy 0, 2, .inl (fun _ => 0))), ((h 5), .inl (cy 0, 2, .inl (f 0))), ((h 12), .inl (cy 2, 2, .inl (f 1)))]) [0, 2, 3, 4, 5, 6] (by decide) rfl
  refine va_callv (va_runV (As := []) (rest := []) ⟨hx, hb, hml, hown, ht⟩ (m_clear1 l G cy _ mo (h 2) (h 3) (h 4) (h 5) (h 12) (f 0) (f 1) (.ref (h 0)) (.ref (h 1)) (.int 0) (.int 0) (.int 0) (.int (-1)) (.int 0) (.int 0) (.int 0) (.int 0) (.long 0) (.ref (h 6)) (.ref (h 7)) (.ref (h 8)) (.ref (h 9)) (.ref (h 10)) (.ref (h 11)) (.ref (h 13)) (.ref (h 14)) (.ref (h 15)) (.ref (h 16)) (.ref (h 17)) (.ref (h 18)) (.ref (h 19)) (.int 0) (.int 0) (.int 0) (.int 0) (.int 0) (.ref (h 20)) (.ref (h 21)) (.int 0) (.ref (h 22)) (.ref (h 23)) (.ref (h 24)) (.ref (h 25)) (.ref (h 26)) (.int 0) (.int 0) (.ref (h 27)) (.ref (h 28)) (.ref (h 29)) (.ref (h 30)) (.ref (h 31)) (.int 0) (.int 0) (.ref (h 32)) (.ref (h 33)) (.ref (h 34)) (.ref (h 35)) (.ref (h 36)) (.ref (h 37)) ) (cwV 0 ht (gv k_311 k_312 k_313 k_314 k_310) rfl rfl rfl (by decide +kernel) ⟨Nat.le_of_ble_eq_true rfl, Nat.le_of_ble_eq_true rfl⟩) ⟨En.blind, va_recv hK hP (ci := 12) (q0 := 0) rfl rfl, fun U hU hW => ⟨rfl, En.of hU hW hPc hK hDc hN⟩⟩ rfl rfl hl.1 rfl (lv_room (Nat.le_of_ble_eq_true rfl)) dX12_town_67 ⟨Nat.le_of_ble_eq_true rfl, Nat.le_of_ble_eq_true rfl⟩) hS (fun q _ h => hFc q h) hFc (fun u_1 t H locs ht9 hvm hw hB hz1 hk1 hS => ?_)
  obtain ⟨hP1, hD1⟩ := hB
  rw [ht9] at hP1
  obtain ⟨hP, hD⟩ := fr_put (wc := [(mo, .inr (12, [.ref (h 0), .ref (h 1), .int 0, .int 0, .int 0, .int (-1), .int 0, .int 0, .int 0, .int 0, .long 0, .ref (h 2), .ref (h 3), .ref (h 4), .ref (h 5), .ref (h 6), .ref (h 7), .ref (h 8), .ref (h 9), .ref (h 10), .ref (h 11), .ref (h 12), .ref (h 13), .ref (h 14), .ref (h 15), .ref (h 16), .ref (h 17), .ref (h 18), .ref (h 19), .int 0, .int 1, .int 0, .int 0, .int 0, .int 0, .ref (h 20), .ref (h 21), .int 0, .ref (h 22), .ref (h 23), .ref (h 24), .ref (h 25), .ref (h 26), .int 0, .int 0, .ref (h 27), .ref (h 28), .ref (h 29), .ref (h 30), .ref (h 31), .int 0, .int 0, .ref (h 32), .ref (h 33), .ref (h 34), .ref (h 35), .ref (h 36), .ref (h 37)])), ((h 2), .inl (cy 0, 2, .inl (fun _ => 0))), ((h 3), .inl (cy 0, 2, .inl (fun _ => 0))), ((h 4), .inl (cy 0, 2, .inl (fun _ => 0))), ((h 5), .inl (cy 0, 2, .inl (f 0))), ((h 12), .inl (cy 2, 2, .inl (f 1)))]) (w1 := [(mo, .inr (12, [.ref (h 0), .ref (h 1), .int 0, .int 0, .int 0, .int (-1), .int 0, .int 0, .int 0, .int 0, .long 0, .ref (h 2), .ref (h 3), .ref (h 4), .ref (h 5), .ref (h 6), .ref (h 7), .ref (h 8), .ref (h 9), .ref (h 10), .ref (h 11), .ref (h 12), .ref (h 13), .ref (h 14), .ref (h 15), .ref (h 16), .ref (h 17), .ref (h 18), .ref (h 19), .int 0, .int 1, .int 600, .int 0, .int 0, .int 0, .ref (h 20), .ref (h 21), .int 0, .ref (h 22), .ref (h 23), .ref (h 24), .ref (h 25), .ref (h 26), .int 0, .int 0, .ref (h 27), .ref (h 28), .ref (h 29), .ref (h 30), .ref (h 31), .int 0, .int 0, .ref (h 32), .ref (h 33), .ref (h 34), .ref (h 35), .ref (h 36), .ref (h 37)])), ((h 2), .inl (cy 0, 2, .inl (fun _ => 0))), ((h 3), .inl (cy 0, 2, .inl (fun _ => 0))), ((h 4), .inl (cy 0, 2, .inl (fun _ => 0))), ((h 5), .inl (cy 0, 2, .inl (u_1 0))), ((h 12), .inl (cy 2, 2, .inl (u_1 1)))]) hP hD [0, 2, 3, 4, 5, 6] rfl rfl rfl hk1 hP1
  clear hFc hPc hDc hP1 hD1 hz1 hk1
  replace hP : va_P G vwCl [(mo, .inr (12, [.ref (h 0), .ref (h 1), .int 0, .int 0, .int 0, .int (-1), .int 0, .int 0, .int 0, .int 0, .long 0, .ref (h 2), .ref (h 3), .ref (h 4), .ref (h 5), .ref (h 6), .ref (h 7), .ref (h 8), .ref (h 9), .ref (h 10), .ref (h 11), .ref (h 12), .ref (h 13), .ref (h 14), .ref (h 15), .ref (h 16), .ref (h 17), .ref (h 18), .ref (h 19), .int 0, .int 1, .int 600, .int 0, .int 0, .int 0, .ref (h 20), .ref (h 21), .int 0, .ref (h 22), .ref (h 23), .ref (h 24), .ref (h 25), .ref (h 26), .int 0, .int 0, .ref (h 27), .ref (h 28), .ref (h 29), .ref (h 30), .ref (h 31), .int 0, .int 0, .ref (h 32), .ref (h 33), .ref (h 34), .ref (h 35), .ref (h 36), .ref (h 37)])), ((h 0), .inl (cy 1, 1720, .inl (fun _ => 0))), ((h 2), .inl (cy 0, 2, .inl (fun _ => 0))), ((h 3), .inl (cy 0, 2, .inl (fun _ => 0))), ((h 4), .inl (cy 0, 2, .inl (fun _ => 0))), ((h 5), .inl (cy 0, 2, .inl (u_1 0))), ((h 12), .inl (cy 2, 2, .inl (u_1 1))), ((h 7), .inl (cy 0, 1200, .inl (fun _ => 0))), ((h 8), .inl (cy 0, 1200, .inl (fun _ => 0))), ((h 20), .inl (cy 2, 8, .inl (fun _ => 0))), ((h 21), .inl (cy 0, 8, .inl (fun _ => 0))), ((h 32), .inl (cy 0, 3, .inl (f 2))), ((h 33), .inl (cy 0, 120, .inl (fun _ => 0))), ((h 34), .inl (cy 0, 120, .inl (fun _ => 0))), ((h 35), .inl (cy 0, 24, .inl (fun _ => 0))), ((h 36), .inl (cy 2, 24, .inl (fun _ => 0))), ((h 37), .inl (cy 2, 3, .inl (fun _ => 0)))] H := hP
  replace hD : va_D A [(mo, .inr (12, [.ref (h 0), .ref (h 1), .int 0, .int 0, .int 0, .int (-1), .int 0, .int 0, .int 0, .int 0, .long 0, .ref (h 2), .ref (h 3), .ref (h 4), .ref (h 5), .ref (h 6), .ref (h 7), .ref (h 8), .ref (h 9), .ref (h 10), .ref (h 11), .ref (h 12), .ref (h 13), .ref (h 14), .ref (h 15), .ref (h 16), .ref (h 17), .ref (h 18), .ref (h 19), .int 0, .int 1, .int 600, .int 0, .int 0, .int 0, .ref (h 20), .ref (h 21), .int 0, .ref (h 22), .ref (h 23), .ref (h 24), .ref (h 25), .ref (h 26), .int 0, .int 0, .ref (h 27), .ref (h 28), .ref (h 29), .ref (h 30), .ref (h 31), .int 0, .int 0, .ref (h 32), .ref (h 33), .ref (h 34), .ref (h 35), .ref (h 36), .ref (h 37)])), ((h 0), .inl (cy 1, 1720, .inl (fun _ => 0))), ((h 2), .inl (cy 0, 2, .inl (fun _ => 0))), ((h 3), .inl (cy 0, 2, .inl (fun _ => 0))), ((h 4), .inl (cy 0, 2, .inl (fun _ => 0))), ((h 5), .inl (cy 0, 2, .inl (u_1 0))), ((h 12), .inl (cy 2, 2, .inl (u_1 1))), ((h 7), .inl (cy 0, 1200, .inl (fun _ => 0))), ((h 8), .inl (cy 0, 1200, .inl (fun _ => 0))), ((h 20), .inl (cy 2, 8, .inl (fun _ => 0))), ((h 21), .inl (cy 0, 8, .inl (fun _ => 0))), ((h 32), .inl (cy 0, 3, .inl (f 2))), ((h 33), .inl (cy 0, 120, .inl (fun _ => 0))), ((h 34), .inl (cy 0, 120, .inl (fun _ => 0))), ((h 35), .inl (cy 0, 24, .inl (fun _ => 0))), ((h 36), .inl (cy 2, 24, .inl (fun _ => 0))), ((h 37), .inl (cy 2, 3, .inl (fun _ => 0)))] := hD
  refine lv_aload_n hx hb dX12_town_70 rfl (lv_at hl 1 rfl) ?_
  have hFc := va_free (wc := [(mo, .inr (12, [.ref (h 0), .ref (h 1), .int 0, .int 0, .int 0, .int (-1), .int 0, .int 0, .int 0, .int 0, .long 0, .ref (h 2), .ref (h 3), .ref (h 4), .ref (h 5), .ref (h 6), .ref (h 7), .ref (h 8), .ref (h 9), .ref (h 10), .ref (h 11), .ref (h 12), .ref (h 13), .ref (h 14), .ref (h 15), .ref (h 16), .ref (h 17), .ref (h 18), .ref (h 19), .int 0, .int 1, .int 600, .int 0, .int 0, .int 0, .ref (h 20), .ref (h 21), .int 0, .ref (h 22), .ref (h 23), .ref (h 24), .ref (h 25), .ref (h 26), .int 0, .int 0, .ref (h 27), .ref (h 28), .ref (h 29), .ref (h 30), .ref (h 31), .int 0, .int 0, .ref (h 32), .ref (h 33), .ref (h 34), .ref (h 35), .ref (h 36), .ref (h 37)]))]) hD hS hA [0] rfl
  have hPc := hP.sub (ws' := [(mo, .inr (12, [.ref (h 0), .ref (h 1), .int 0, .int 0, .int 0, .int (-1), .int 0, .int 0, .int 0, .int 0, .long 0, .ref (h 2), .ref (h 3), .ref (h 4), .ref (h 5), .ref (h 6), .ref (h 7), .ref (h 8), .ref (h 9), .ref (h 10), .ref (h 11), .ref (h 12), .ref (h 13), .ref (h 14), .ref (h 15), .ref (h 16), .ref (h 17), .ref (h 18), .ref (h 19), .int 0, .int 1, .int 600, .int 0, .int 0, .int 0, .ref (h 20), .ref (h 21), .int 0, .ref (h 22), .ref (h 23), .ref (h 24), .ref (h 25), .ref (h 26), .int 0, .int 0, .ref (h 27), .ref (h 28), .ref (h 29), .ref (h 30), .ref (h 31), .int 0, .int 0, .ref (h 32), .ref (h 33), .ref (h 34), .ref (h 35), .ref (h 36), .ref (h 37)]))]) [0] rfl
  have hDc := hD.sub (ws' := [(mo, .inr (12, [.ref (h 0), .ref (h 1), .int 0, .int 0, .int 0, .int (-1), .int 0, .int 0, .int 0, .int 0, .long 0, .ref (h 2), .ref (h 3), .ref (h 4), .ref (h 5), .ref (h 6), .ref (h 7), .ref (h 8), .ref (h 9), .ref (h 10), .ref (h 11), .ref (h 12), .ref (h 13), .ref (h 14), .ref (h 15), .ref (h 16), .ref (h 17), .ref (h 18), .ref (h 19), .int 0, .int 1, .int 600, .int 0, .int 0, .int 0, .ref (h 20), .ref (h 21), .int 0, .ref (h 22), .ref (h 23), .ref (h 24), .ref (h 25), .ref (h 26), .int 0, .int 0, .ref (h 27), .ref (h 28), .ref (h 29), .ref (h 30), .ref (h 31), .int 0, .int 0, .ref (h 32), .ref (h 33), .ref (h 34), .ref (h 35), .ref (h 36), .ref (h 37)]))]) [0] (by decide) rfl
  refine va_callv (va_runV (As := []) (rest := []) ⟨hx, hb, hml, hown, ht⟩ (m_goOn l G cy _ mo (.ref (h 0)) (.ref (h 1)) (.int 0) (.int 0) (.int (-1)) (.int 0) (.long 0) (.ref (h 2)) (.ref (h 3)) (.ref (h 4)) (.ref (h 5)) (.ref (h 6)) (.ref (h 7)) (.ref (h 8)) (.ref (h 9)) (.ref (h 10)) (.ref (h 11)) (.ref (h 12)) (.ref (h 13)) (.ref (h 14)) (.ref (h 15)) (.ref (h 16)) (.ref (h 17)) (.ref (h 18)) (.ref (h 19)) (.int 0) (.int 1) (.int 600) (.int 0) (.int 0) (.int 0) (.ref (h 20)) (.ref (h 21)) (.int 0) (.ref (h 22)) (.ref (h 23)) (.ref (h 24)) (.ref (h 25)) (.ref (h 26)) (.int 0) (.int 0) (.ref (h 27)) (.ref (h 28)) (.ref (h 29)) (.ref (h 30)) (.ref (h 31)) (.int 0) (.int 0) (.ref (h 32)) (.ref (h 33)) (.ref (h 34)) (.ref (h 35)) (.ref (h 36)) (.ref (h 37)) ) (cwV 0 ht (gv k_365 k_366 k_367 k_314 k_364) rfl rfl rfl (by decide +kernel) ⟨Nat.le_of_ble_eq_true rfl, Nat.le_of_ble_eq_true rfl⟩) ⟨En.blind, va_recv hK hP (ci := 12) (q0 := 0) rfl rfl, fun U hU hW => ⟨rfl, En.of hU hW hPc hK hDc hN⟩⟩ rfl rfl hl.1 rfl (lv_room (Nat.le_of_ble_eq_true rfl)) dX12_town_71 ⟨Nat.le_of_ble_eq_true rfl, Nat.le_of_ble_eq_true rfl⟩) hS (fun q _ h => hFc q h) hFc (fun u_2 t H locs ht9 hvm hw hB hz1 hk1 hS => ?_)
  obtain ⟨hP1, hD1⟩ := hB
  rw [ht9] at hP1
  obtain ⟨hP, hD⟩ := fr_put (wc := [(mo, .inr (12, [.ref (h 0), .ref (h 1), .int 0, .int 0, .int 0, .int (-1), .int 0, .int 0, .int 0, .int 0, .long 0, .ref (h 2), .ref (h 3), .ref (h 4), .ref (h 5), .ref (h 6), .ref (h 7), .ref (h 8), .ref (h 9), .ref (h 10), .ref (h 11), .ref (h 12), .ref (h 13), .ref (h 14), .ref (h 15), .ref (h 16), .ref (h 17), .ref (h 18), .ref (h 19), .int 0, .int 1, .int 600, .int 0, .int 0, .int 0, .ref (h 20), .ref (h 21), .int 0, .ref (h 22), .ref (h 23), .ref (h 24), .ref (h 25), .ref (h 26), .int 0, .int 0, .ref (h 27), .ref (h 28), .ref (h 29), .ref (h 30), .ref (h 31), .int 0, .int 0, .ref (h 32), .ref (h 33), .ref (h 34), .ref (h 35), .ref (h 36), .ref (h 37)]))]) (w1 := [(mo, .inr (12, [.ref (h 0), .ref (h 1), .int 0, .int 0, .int 0, .int (-1), .int 0, .int 0, .int 0, .int 0, .long 0, .ref (h 2), .ref (h 3), .ref (h 4), .ref (h 5), .ref (h 6), .ref (h 7), .ref (h 8), .ref (h 9), .ref (h 10), .ref (h 11), .ref (h 12), .ref (h 13), .ref (h 14), .ref (h 15), .ref (h 16), .ref (h 17), .ref (h 18), .ref (h 19), .int 0, .int 1, .int 600, .int 0, .int 0, .int 0, .ref (h 20), .ref (h 21), .int 0, .ref (h 22), .ref (h 23), .ref (h 24), .ref (h 25), .ref (h 26), .int 0, .int 0, .ref (h 27), .ref (h 28), .ref (h 29), .ref (h 30), .ref (h 31), .int 0, .int 0, .ref (h 32), .ref (h 33), .ref (h 34), .ref (h 35), .ref (h 36), .ref (h 37)]))]) hP hD [0] rfl rfl rfl hk1 hP1
  clear hFc hPc hDc hP1 hD1 hz1 hk1
  replace hP : va_P G vwCl [(mo, .inr (12, [.ref (h 0), .ref (h 1), .int 0, .int 0, .int 0, .int (-1), .int 0, .int 0, .int 0, .int 0, .long 0, .ref (h 2), .ref (h 3), .ref (h 4), .ref (h 5), .ref (h 6), .ref (h 7), .ref (h 8), .ref (h 9), .ref (h 10), .ref (h 11), .ref (h 12), .ref (h 13), .ref (h 14), .ref (h 15), .ref (h 16), .ref (h 17), .ref (h 18), .ref (h 19), .int 0, .int 1, .int 600, .int 0, .int 0, .int 0, .ref (h 20), .ref (h 21), .int 0, .ref (h 22), .ref (h 23), .ref (h 24), .ref (h 25), .ref (h 26), .int 0, .int 0, .ref (h 27), .ref (h 28), .ref (h 29), .ref (h 30), .ref (h 31), .int 0, .int 0, .ref (h 32), .ref (h 33), .ref (h 34), .ref (h 35), .ref (h 36), .ref (h 37)])), ((h 0), .inl (cy 1, 1720, .inl (fun _ => 0))), ((h 2), .inl (cy 0, 2, .inl (fun _ => 0))), ((h 3), .inl (cy 0, 2, .inl (fun _ => 0))), ((h 4), .inl (cy 0, 2, .inl (fun _ => 0))), ((h 5), .inl (cy 0, 2, .inl (u_1 0))), ((h 12), .inl (cy 2, 2, .inl (u_1 1))), ((h 7), .inl (cy 0, 1200, .inl (fun _ => 0))), ((h 8), .inl (cy 0, 1200, .inl (fun _ => 0))), ((h 20), .inl (cy 2, 8, .inl (fun _ => 0))), ((h 21), .inl (cy 0, 8, .inl (fun _ => 0))), ((h 32), .inl (cy 0, 3, .inl (f 2))), ((h 33), .inl (cy 0, 120, .inl (fun _ => 0))), ((h 34), .inl (cy 0, 120, .inl (fun _ => 0))), ((h 35), .inl (cy 0, 24, .inl (fun _ => 0))), ((h 36), .inl (cy 2, 24, .inl (fun _ => 0))), ((h 37), .inl (cy 2, 3, .inl (fun _ => 0)))] H := hP
  replace hD : va_D A [(mo, .inr (12, [.ref (h 0), .ref (h 1), .int 0, .int 0, .int 0, .int (-1), .int 0, .int 0, .int 0, .int 0, .long 0, .ref (h 2), .ref (h 3), .ref (h 4), .ref (h 5), .ref (h 6), .ref (h 7), .ref (h 8), .ref (h 9), .ref (h 10), .ref (h 11), .ref (h 12), .ref (h 13), .ref (h 14), .ref (h 15), .ref (h 16), .ref (h 17), .ref (h 18), .ref (h 19), .int 0, .int 1, .int 600, .int 0, .int 0, .int 0, .ref (h 20), .ref (h 21), .int 0, .ref (h 22), .ref (h 23), .ref (h 24), .ref (h 25), .ref (h 26), .int 0, .int 0, .ref (h 27), .ref (h 28), .ref (h 29), .ref (h 30), .ref (h 31), .int 0, .int 0, .ref (h 32), .ref (h 33), .ref (h 34), .ref (h 35), .ref (h 36), .ref (h 37)])), ((h 0), .inl (cy 1, 1720, .inl (fun _ => 0))), ((h 2), .inl (cy 0, 2, .inl (fun _ => 0))), ((h 3), .inl (cy 0, 2, .inl (fun _ => 0))), ((h 4), .inl (cy 0, 2, .inl (fun _ => 0))), ((h 5), .inl (cy 0, 2, .inl (u_1 0))), ((h 12), .inl (cy 2, 2, .inl (u_1 1))), ((h 7), .inl (cy 0, 1200, .inl (fun _ => 0))), ((h 8), .inl (cy 0, 1200, .inl (fun _ => 0))), ((h 20), .inl (cy 2, 8, .inl (fun _ => 0))), ((h 21), .inl (cy 0, 8, .inl (fun _ => 0))), ((h 32), .inl (cy 0, 3, .inl (f 2))), ((h 33), .inl (cy 0, 120, .inl (fun _ => 0))), ((h 34), .inl (cy 0, 120, .inl (fun _ => 0))), ((h 35), .inl (cy 0, 24, .inl (fun _ => 0))), ((h 36), .inl (cy 2, 24, .inl (fun _ => 0))), ((h 37), .inl (cy 2, 3, .inl (fun _ => 0)))] := hD
  refine lv_aload_n hx hb dX12_town_74 rfl (lv_at hl 1 rfl) ?_
  have hFc := fr_new hS hA
  have hPc := hP.sub (ws' := [(mo, .inr (12, [.ref (h 0), .ref (h 1), .int 0, .int 0, .int 0, .int (-1), .int 0, .int 0, .int 0, .int 0, .long 0, .ref (h 2), .ref (h 3), .ref (h 4), .ref (h 5), .ref (h 6), .ref (h 7), .ref (h 8), .ref (h 9), .ref (h 10), .ref (h 11), .ref (h 12), .ref (h 13), .ref (h 14), .ref (h 15), .ref (h 16), .ref (h 17), .ref (h 18), .ref (h 19), .int 0, .int 1, .int 600, .int 0, .int 0, .int 0, .ref (h 20), .ref (h 21), .int 0, .ref (h 22), .ref (h 23), .ref (h 24), .ref (h 25), .ref (h 26), .int 0, .int 0, .ref (h 27), .ref (h 28), .ref (h 29), .ref (h 30), .ref (h 31), .int 0, .int 0, .ref (h 32), .ref (h 33), .ref (h 34), .ref (h 35), .ref (h 36), .ref (h 37)]))]) [0] rfl
  have hDc := hD.sub (ws' := [(mo, .inr (12, [.ref (h 0), .ref (h 1), .int 0, .int 0, .int 0, .int (-1), .int 0, .int 0, .int 0, .int 0, .long 0, .ref (h 2), .ref (h 3), .ref (h 4), .ref (h 5), .ref (h 6), .ref (h 7), .ref (h 8), .ref (h 9), .ref (h 10), .ref (h 11), .ref (h 12), .ref (h 13), .ref (h 14), .ref (h 15), .ref (h 16), .ref (h 17), .ref (h 18), .ref (h 19), .int 0, .int 1, .int 600, .int 0, .int 0, .int 0, .ref (h 20), .ref (h 21), .int 0, .ref (h 22), .ref (h 23), .ref (h 24), .ref (h 25), .ref (h 26), .int 0, .int 0, .ref (h 27), .ref (h 28), .ref (h 29), .ref (h 30), .ref (h 31), .int 0, .int 0, .ref (h 32), .ref (h 33), .ref (h 34), .ref (h 35), .ref (h 36), .ref (h 37)]))]) [0] (by decide) rfl
  refine va_calli (va_runV (As := []) (rest := []) ⟨hx, hb, hml, hown, ht⟩ (m_isGood l G cy _ mo (.ref (h 0)) (.ref (h 1)) (.int 0) (.int 0) (.int (-1)) (.int 0) (.int 0) (.int 0) (.int 0) (.long 0) (.ref (h 2)) (.ref (h 3)) (.ref (h 4)) (.ref (h 5)) (.ref (h 6)) (.ref (h 7)) (.ref (h 8)) (.ref (h 9)) (.ref (h 10)) (.ref (h 11)) (.ref (h 12)) (.ref (h 13)) (.ref (h 14)) (.ref (h 15)) (.ref (h 16)) (.ref (h 17)) (.ref (h 18)) (.ref (h 19)) (.int 0) (.int 1) (.int 600) (.int 0) (.int 0) (.int 0) (.ref (h 20)) (.ref (h 21)) (.int 0) (.ref (h 22)) (.ref (h 23)) (.ref (h 24)) (.ref (h 25)) (.ref (h 26)) (.int 0) (.int 0) (.ref (h 27)) (.ref (h 28)) (.ref (h 29)) (.ref (h 30)) (.ref (h 31)) (.int 0) (.int 0) (.ref (h 32)) (.ref (h 33)) (.ref (h 34)) (.ref (h 35)) (.ref (h 36)) (.ref (h 37)) ) (cwV 0 ht (gv k_369 k_370 k_371 k_314 k_368) rfl rfl rfl (by decide +kernel) ⟨Nat.le_of_ble_eq_true rfl, Nat.le_of_ble_eq_true rfl⟩) ⟨En.blind, va_recv hK hP (ci := 12) (q0 := 0) rfl rfl, fun U hU hW => ⟨rfl, En.of hU hW hPc hK hDc hN⟩⟩ rfl rfl hl.1 rfl (lv_room (Nat.le_of_ble_eq_true rfl)) dX12_town_75 ⟨Nat.le_of_ble_eq_true rfl, Nat.le_of_ble_eq_true rfl⟩) hS (fun q _ h => hFc q h) hFc (fun r_4 u_3 t H locs ht9 hvm hw hB hz1 hk1 hS => ?_)
  have hP := fr_keep hP hk1
  obtain rfl : r_4 = 1 := hw.1
  refine lv_if_eq (tgt := 95) hx hb dX12_town_78 (by decide) (fun c9 => absurd c9 (by decide)) (fun _ => ?_)
  refine lv_aload_n hx hb dX12_town_81 rfl (lv_at hl 1 rfl) ?_
  refine va_get (ci := 12) (v := .int 0) (C := RX12) (T := TX12) (N := 58) hx hb ht iX12 hown hK hP 0 rfl rfl 8 (by decide) (ht _ k_327) (fun _ h9 => h9) rfl dX12_town_82 ?_
  refine lv_if_eq (tgt := 95) hx hb dX12_town_85 (by decide) (fun _ => ?_) (fun c9 => absurd (by decide) c9)
  refine lv_aload_n hx hb dX12_town_95 rfl (lv_at hl 1 rfl) ?_
  have hFc := fr_new hS hA
  have hPc := hP.sub (ws' := [(mo, .inr (12, [.ref (h 0), .ref (h 1), .int 0, .int 0, .int 0, .int (-1), .int 0, .int 0, .int 0, .int 0, .long 0, .ref (h 2), .ref (h 3), .ref (h 4), .ref (h 5), .ref (h 6), .ref (h 7), .ref (h 8), .ref (h 9), .ref (h 10), .ref (h 11), .ref (h 12), .ref (h 13), .ref (h 14), .ref (h 15), .ref (h 16), .ref (h 17), .ref (h 18), .ref (h 19), .int 0, .int 1, .int 600, .int 0, .int 0, .int 0, .ref (h 20), .ref (h 21), .int 0, .ref (h 22), .ref (h 23), .ref (h 24), .ref (h 25), .ref (h 26), .int 0, .int 0, .ref (h 27), .ref (h 28), .ref (h 29), .ref (h 30), .ref (h 31), .int 0, .int 0, .ref (h 32), .ref (h 33), .ref (h 34), .ref (h 35), .ref (h 36), .ref (h 37)]))]) [0] rfl
  have hDc := hD.sub (ws' := [(mo, .inr (12, [.ref (h 0), .ref (h 1), .int 0, .int 0, .int 0, .int (-1), .int 0, .int 0, .int 0, .int 0, .long 0, .ref (h 2), .ref (h 3), .ref (h 4), .ref (h 5), .ref (h 6), .ref (h 7), .ref (h 8), .ref (h 9), .ref (h 10), .ref (h 11), .ref (h 12), .ref (h 13), .ref (h 14), .ref (h 15), .ref (h 16), .ref (h 17), .ref (h 18), .ref (h 19), .int 0, .int 1, .int 600, .int 0, .int 0, .int 0, .ref (h 20), .ref (h 21), .int 0, .ref (h 22), .ref (h 23), .ref (h 24), .ref (h 25), .ref (h 26), .int 0, .int 0, .ref (h 27), .ref (h 28), .ref (h 29), .ref (h 30), .ref (h 31), .int 0, .int 0, .ref (h 32), .ref (h 33), .ref (h 34), .ref (h 35), .ref (h 36), .ref (h 37)]))]) [0] (by decide) rfl
  refine va_calli (va_runV (As := []) (rest := []) ⟨hx, hb, hml, hown, ht⟩ (m_isGood l G cy _ mo (.ref (h 0)) (.ref (h 1)) (.int 0) (.int 0) (.int (-1)) (.int 0) (.int 0) (.int 0) (.int 0) (.long 0) (.ref (h 2)) (.ref (h 3)) (.ref (h 4)) (.ref (h 5)) (.ref (h 6)) (.ref (h 7)) (.ref (h 8)) (.ref (h 9)) (.ref (h 10)) (.ref (h 11)) (.ref (h 12)) (.ref (h 13)) (.ref (h 14)) (.ref (h 15)) (.ref (h 16)) (.ref (h 17)) (.ref (h 18)) (.ref (h 19)) (.int 0) (.int 1) (.int 600) (.int 0) (.int 0) (.int 0) (.ref (h 20)) (.ref (h 21)) (.int 0) (.ref (h 22)) (.ref (h 23)) (.ref (h 24)) (.ref (h 25)) (.ref (h 26)) (.int 0) (.int 0) (.ref (h 27)) (.ref (h 28)) (.ref (h 29)) (.ref (h 30)) (.ref (h 31)) (.int 0) (.int 0) (.ref (h 32)) (.ref (h 33)) (.ref (h 34)) (.ref (h 35)) (.ref (h 36)) (.ref (h 37)) ) (cwV 0 ht (gv k_369 k_370 k_371 k_314 k_368) rfl rfl rfl (by decide +kernel) ⟨Nat.le_of_ble_eq_true rfl, Nat.le_of_ble_eq_true rfl⟩) ⟨En.blind, va_recv hK hP (ci := 12) (q0 := 0) rfl rfl, fun U hU hW => ⟨rfl, En.of hU hW hPc hK hDc hN⟩⟩ rfl rfl hl.1 rfl (lv_room (Nat.le_of_ble_eq_true rfl)) dX12_town_96 ⟨Nat.le_of_ble_eq_true rfl, Nat.le_of_ble_eq_true rfl⟩) hS (fun q _ h => hFc q h) hFc (fun r_6 u_5 t H locs ht9 hvm hw hB hz1 hk1 hS => ?_)
  have hP := fr_keep hP hk1
  obtain rfl : r_6 = 1 := hw.1
  refine lv_if_ne (tgt := 104) hx hb dX12_town_99 (by decide) (fun _ => ?_) (fun c9 => absurd c9 (by decide))
  refine lv_aload_n hx hb dX12_town_104 rfl (lv_at hl 1 rfl) ?_
  refine lv_aload_n hx hb dX12_town_105 rfl (lv_at hl 1 rfl) ?_
  refine va_get (ci := 12) (v := .int 1) (C := RX12) (T := TX12) (N := 58) hx hb ht iX12 hown hK hP 0 rfl rfl 30 (by decide) (ht _ k_269) (fun _ h9 => h9) rfl dX12_town_106 ?_
  refine va_put (ci := 12) (v := .int 1) (ty := .int) (C := RX12) (T := TX12) (N := 58) hx hb ht iX12 tyX12 tyX12_ok nmX12 hown hK hP hD hS 0 rfl rfl 29 (by decide) (ht _ k_315) (fun _ h9 => h9) rfl (by decide +kernel) rfl rfl (Nat.le_of_ble_eq_true rfl) dX12_town_109 ?_
  clear hP hD hS
  try clear H locs
  intro H locs hP hD hS
  replace hP : va_P G vwCl [(mo, .inr (12, [.ref (h 0), .ref (h 1), .int 0, .int 0, .int 0, .int (-1), .int 0, .int 0, .int 0, .int 0, .long 0, .ref (h 2), .ref (h 3), .ref (h 4), .ref (h 5), .ref (h 6), .ref (h 7), .ref (h 8), .ref (h 9), .ref (h 10), .ref (h 11), .ref (h 12), .ref (h 13), .ref (h 14), .ref (h 15), .ref (h 16), .ref (h 17), .ref (h 18), .ref (h 19), .int 1, .int 1, .int 600, .int 0, .int 0, .int 0, .ref (h 20), .ref (h 21), .int 0, .ref (h 22), .ref (h 23), .ref (h 24), .ref (h 25), .ref (h 26), .int 0, .int 0, .ref (h 27), .ref (h 28), .ref (h 29), .ref (h 30), .ref (h 31), .int 0, .int 0, .ref (h 32), .ref (h 33), .ref (h 34), .ref (h 35), .ref (h 36), .ref (h 37)])), ((h 0), .inl (cy 1, 1720, .inl (fun _ => 0))), ((h 2), .inl (cy 0, 2, .inl (fun _ => 0))), ((h 3), .inl (cy 0, 2, .inl (fun _ => 0))), ((h 4), .inl (cy 0, 2, .inl (fun _ => 0))), ((h 5), .inl (cy 0, 2, .inl (u_1 0))), ((h 12), .inl (cy 2, 2, .inl (u_1 1))), ((h 7), .inl (cy 0, 1200, .inl (fun _ => 0))), ((h 8), .inl (cy 0, 1200, .inl (fun _ => 0))), ((h 20), .inl (cy 2, 8, .inl (fun _ => 0))), ((h 21), .inl (cy 0, 8, .inl (fun _ => 0))), ((h 32), .inl (cy 0, 3, .inl (f 2))), ((h 33), .inl (cy 0, 120, .inl (fun _ => 0))), ((h 34), .inl (cy 0, 120, .inl (fun _ => 0))), ((h 35), .inl (cy 0, 24, .inl (fun _ => 0))), ((h 36), .inl (cy 2, 24, .inl (fun _ => 0))), ((h 37), .inl (cy 2, 3, .inl (fun _ => 0)))] H := hP
  replace hD : va_D A [(mo, .inr (12, [.ref (h 0), .ref (h 1), .int 0, .int 0, .int 0, .int (-1), .int 0, .int 0, .int 0, .int 0, .long 0, .ref (h 2), .ref (h 3), .ref (h 4), .ref (h 5), .ref (h 6), .ref (h 7), .ref (h 8), .ref (h 9), .ref (h 10), .ref (h 11), .ref (h 12), .ref (h 13), .ref (h 14), .ref (h 15), .ref (h 16), .ref (h 17), .ref (h 18), .ref (h 19), .int 1, .int 1, .int 600, .int 0, .int 0, .int 0, .ref (h 20), .ref (h 21), .int 0, .ref (h 22), .ref (h 23), .ref (h 24), .ref (h 25), .ref (h 26), .int 0, .int 0, .ref (h 27), .ref (h 28), .ref (h 29), .ref (h 30), .ref (h 31), .int 0, .int 0, .ref (h 32), .ref (h 33), .ref (h 34), .ref (h 35), .ref (h 36), .ref (h 37)])), ((h 0), .inl (cy 1, 1720, .inl (fun _ => 0))), ((h 2), .inl (cy 0, 2, .inl (fun _ => 0))), ((h 3), .inl (cy 0, 2, .inl (fun _ => 0))), ((h 4), .inl (cy 0, 2, .inl (fun _ => 0))), ((h 5), .inl (cy 0, 2, .inl (u_1 0))), ((h 12), .inl (cy 2, 2, .inl (u_1 1))), ((h 7), .inl (cy 0, 1200, .inl (fun _ => 0))), ((h 8), .inl (cy 0, 1200, .inl (fun _ => 0))), ((h 20), .inl (cy 2, 8, .inl (fun _ => 0))), ((h 21), .inl (cy 0, 8, .inl (fun _ => 0))), ((h 32), .inl (cy 0, 3, .inl (f 2))), ((h 33), .inl (cy 0, 120, .inl (fun _ => 0))), ((h 34), .inl (cy 0, 120, .inl (fun _ => 0))), ((h 35), .inl (cy 0, 24, .inl (fun _ => 0))), ((h 36), .inl (cy 2, 24, .inl (fun _ => 0))), ((h 37), .inl (cy 2, 3, .inl (fun _ => 0)))] := hD
  refine lv_aload_n hx hb dX12_town_112 rfl (lv_at hl 1 rfl) ?_
  refine lv_iconst (v := 0) hx hb dX12_town_113 (by decide) ?_
  refine va_put (ci := 12) (v := .int 0) (ty := .int) (C := RX12) (T := TX12) (N := 58) hx hb ht iX12 tyX12 tyX12_ok nmX12 hown hK hP hD hS 0 rfl rfl 50 (by decide) (ht _ k_357) (fun _ h9 => h9) rfl (by decide +kernel) rfl rfl (Nat.le_of_ble_eq_true rfl) dX12_town_114 ?_
  clear hP hD hS
  try clear H locs
  intro H locs hP hD hS
  replace hP : va_P G vwCl [(mo, .inr (12, [.ref (h 0), .ref (h 1), .int 0, .int 0, .int 0, .int (-1), .int 0, .int 0, .int 0, .int 0, .long 0, .ref (h 2), .ref (h 3), .ref (h 4), .ref (h 5), .ref (h 6), .ref (h 7), .ref (h 8), .ref (h 9), .ref (h 10), .ref (h 11), .ref (h 12), .ref (h 13), .ref (h 14), .ref (h 15), .ref (h 16), .ref (h 17), .ref (h 18), .ref (h 19), .int 1, .int 1, .int 600, .int 0, .int 0, .int 0, .ref (h 20), .ref (h 21), .int 0, .ref (h 22), .ref (h 23), .ref (h 24), .ref (h 25), .ref (h 26), .int 0, .int 0, .ref (h 27), .ref (h 28), .ref (h 29), .ref (h 30), .ref (h 31), .int 0, .int 0, .ref (h 32), .ref (h 33), .ref (h 34), .ref (h 35), .ref (h 36), .ref (h 37)])), ((h 0), .inl (cy 1, 1720, .inl (fun _ => 0))), ((h 2), .inl (cy 0, 2, .inl (fun _ => 0))), ((h 3), .inl (cy 0, 2, .inl (fun _ => 0))), ((h 4), .inl (cy 0, 2, .inl (fun _ => 0))), ((h 5), .inl (cy 0, 2, .inl (u_1 0))), ((h 12), .inl (cy 2, 2, .inl (u_1 1))), ((h 7), .inl (cy 0, 1200, .inl (fun _ => 0))), ((h 8), .inl (cy 0, 1200, .inl (fun _ => 0))), ((h 20), .inl (cy 2, 8, .inl (fun _ => 0))), ((h 21), .inl (cy 0, 8, .inl (fun _ => 0))), ((h 32), .inl (cy 0, 3, .inl (f 2))), ((h 33), .inl (cy 0, 120, .inl (fun _ => 0))), ((h 34), .inl (cy 0, 120, .inl (fun _ => 0))), ((h 35), .inl (cy 0, 24, .inl (fun _ => 0))), ((h 36), .inl (cy 2, 24, .inl (fun _ => 0))), ((h 37), .inl (cy 2, 3, .inl (fun _ => 0)))] H := hP
  replace hD : va_D A [(mo, .inr (12, [.ref (h 0), .ref (h 1), .int 0, .int 0, .int 0, .int (-1), .int 0, .int 0, .int 0, .int 0, .long 0, .ref (h 2), .ref (h 3), .ref (h 4), .ref (h 5), .ref (h 6), .ref (h 7), .ref (h 8), .ref (h 9), .ref (h 10), .ref (h 11), .ref (h 12), .ref (h 13), .ref (h 14), .ref (h 15), .ref (h 16), .ref (h 17), .ref (h 18), .ref (h 19), .int 1, .int 1, .int 600, .int 0, .int 0, .int 0, .ref (h 20), .ref (h 21), .int 0, .ref (h 22), .ref (h 23), .ref (h 24), .ref (h 25), .ref (h 26), .int 0, .int 0, .ref (h 27), .ref (h 28), .ref (h 29), .ref (h 30), .ref (h 31), .int 0, .int 0, .ref (h 32), .ref (h 33), .ref (h 34), .ref (h 35), .ref (h 36), .ref (h 37)])), ((h 0), .inl (cy 1, 1720, .inl (fun _ => 0))), ((h 2), .inl (cy 0, 2, .inl (fun _ => 0))), ((h 3), .inl (cy 0, 2, .inl (fun _ => 0))), ((h 4), .inl (cy 0, 2, .inl (fun _ => 0))), ((h 5), .inl (cy 0, 2, .inl (u_1 0))), ((h 12), .inl (cy 2, 2, .inl (u_1 1))), ((h 7), .inl (cy 0, 1200, .inl (fun _ => 0))), ((h 8), .inl (cy 0, 1200, .inl (fun _ => 0))), ((h 20), .inl (cy 2, 8, .inl (fun _ => 0))), ((h 21), .inl (cy 0, 8, .inl (fun _ => 0))), ((h 32), .inl (cy 0, 3, .inl (f 2))), ((h 33), .inl (cy 0, 120, .inl (fun _ => 0))), ((h 34), .inl (cy 0, 120, .inl (fun _ => 0))), ((h 35), .inl (cy 0, 24, .inl (fun _ => 0))), ((h 36), .inl (cy 2, 24, .inl (fun _ => 0))), ((h 37), .inl (cy 2, 3, .inl (fun _ => 0)))] := hD
  refine lv_aload_n hx hb dX12_town_117 rfl (lv_at hl 1 rfl) ?_
  refine lv_iconst (v := 0) hx hb dX12_town_118 (by decide) ?_
  refine va_put (ci := 12) (v := .int 0) (ty := .int) (C := RX12) (T := TX12) (N := 58) hx hb ht iX12 tyX12 tyX12_ok nmX12 hown hK hP hD hS 0 rfl rfl 34 (by decide) (ht _ k_355) (fun _ h9 => h9) rfl (by decide +kernel) rfl rfl (Nat.le_of_ble_eq_true rfl) dX12_town_119 ?_
  clear hP hD hS
  try clear H locs
  intro H locs hP hD hS
  replace hP : va_P G vwCl [(mo, .inr (12, [.ref (h 0), .ref (h 1), .int 0, .int 0, .int 0, .int (-1), .int 0, .int 0, .int 0, .int 0, .long 0, .ref (h 2), .ref (h 3), .ref (h 4), .ref (h 5), .ref (h 6), .ref (h 7), .ref (h 8), .ref (h 9), .ref (h 10), .ref (h 11), .ref (h 12), .ref (h 13), .ref (h 14), .ref (h 15), .ref (h 16), .ref (h 17), .ref (h 18), .ref (h 19), .int 1, .int 1, .int 600, .int 0, .int 0, .int 0, .ref (h 20), .ref (h 21), .int 0, .ref (h 22), .ref (h 23), .ref (h 24), .ref (h 25), .ref (h 26), .int 0, .int 0, .ref (h 27), .ref (h 28), .ref (h 29), .ref (h 30), .ref (h 31), .int 0, .int 0, .ref (h 32), .ref (h 33), .ref (h 34), .ref (h 35), .ref (h 36), .ref (h 37)])), ((h 0), .inl (cy 1, 1720, .inl (fun _ => 0))), ((h 2), .inl (cy 0, 2, .inl (fun _ => 0))), ((h 3), .inl (cy 0, 2, .inl (fun _ => 0))), ((h 4), .inl (cy 0, 2, .inl (fun _ => 0))), ((h 5), .inl (cy 0, 2, .inl (u_1 0))), ((h 12), .inl (cy 2, 2, .inl (u_1 1))), ((h 7), .inl (cy 0, 1200, .inl (fun _ => 0))), ((h 8), .inl (cy 0, 1200, .inl (fun _ => 0))), ((h 20), .inl (cy 2, 8, .inl (fun _ => 0))), ((h 21), .inl (cy 0, 8, .inl (fun _ => 0))), ((h 32), .inl (cy 0, 3, .inl (f 2))), ((h 33), .inl (cy 0, 120, .inl (fun _ => 0))), ((h 34), .inl (cy 0, 120, .inl (fun _ => 0))), ((h 35), .inl (cy 0, 24, .inl (fun _ => 0))), ((h 36), .inl (cy 2, 24, .inl (fun _ => 0))), ((h 37), .inl (cy 2, 3, .inl (fun _ => 0)))] H := hP
  replace hD : va_D A [(mo, .inr (12, [.ref (h 0), .ref (h 1), .int 0, .int 0, .int 0, .int (-1), .int 0, .int 0, .int 0, .int 0, .long 0, .ref (h 2), .ref (h 3), .ref (h 4), .ref (h 5), .ref (h 6), .ref (h 7), .ref (h 8), .ref (h 9), .ref (h 10), .ref (h 11), .ref (h 12), .ref (h 13), .ref (h 14), .ref (h 15), .ref (h 16), .ref (h 17), .ref (h 18), .ref (h 19), .int 1, .int 1, .int 600, .int 0, .int 0, .int 0, .ref (h 20), .ref (h 21), .int 0, .ref (h 22), .ref (h 23), .ref (h 24), .ref (h 25), .ref (h 26), .int 0, .int 0, .ref (h 27), .ref (h 28), .ref (h 29), .ref (h 30), .ref (h 31), .int 0, .int 0, .ref (h 32), .ref (h 33), .ref (h 34), .ref (h 35), .ref (h 36), .ref (h 37)])), ((h 0), .inl (cy 1, 1720, .inl (fun _ => 0))), ((h 2), .inl (cy 0, 2, .inl (fun _ => 0))), ((h 3), .inl (cy 0, 2, .inl (fun _ => 0))), ((h 4), .inl (cy 0, 2, .inl (fun _ => 0))), ((h 5), .inl (cy 0, 2, .inl (u_1 0))), ((h 12), .inl (cy 2, 2, .inl (u_1 1))), ((h 7), .inl (cy 0, 1200, .inl (fun _ => 0))), ((h 8), .inl (cy 0, 1200, .inl (fun _ => 0))), ((h 20), .inl (cy 2, 8, .inl (fun _ => 0))), ((h 21), .inl (cy 0, 8, .inl (fun _ => 0))), ((h 32), .inl (cy 0, 3, .inl (f 2))), ((h 33), .inl (cy 0, 120, .inl (fun _ => 0))), ((h 34), .inl (cy 0, 120, .inl (fun _ => 0))), ((h 35), .inl (cy 0, 24, .inl (fun _ => 0))), ((h 36), .inl (cy 2, 24, .inl (fun _ => 0))), ((h 37), .inl (cy 2, 3, .inl (fun _ => 0)))] := hD
  refine lv_aload_n hx hb dX12_town_122 rfl (lv_at hl 1 rfl) ?_
  refine lv_iconst (v := 0) hx hb dX12_town_123 (by decide) ?_
  refine va_put (ci := 12) (v := .int 0) (ty := .boolean) (C := RX12) (T := TX12) (N := 58) hx hb ht iX12 tyX12 tyX12_ok nmX12 hown hK hP hD hS 0 rfl rfl 37 (by decide) (ht _ k_356) (fun _ h9 => h9) rfl (by decide +kernel) rfl rfl (Nat.le_of_ble_eq_true rfl) dX12_town_124 ?_
  clear hP hD hS
  try clear H locs
  intro H locs hP hD hS
  replace hP : va_P G vwCl [(mo, .inr (12, [.ref (h 0), .ref (h 1), .int 0, .int 0, .int 0, .int (-1), .int 0, .int 0, .int 0, .int 0, .long 0, .ref (h 2), .ref (h 3), .ref (h 4), .ref (h 5), .ref (h 6), .ref (h 7), .ref (h 8), .ref (h 9), .ref (h 10), .ref (h 11), .ref (h 12), .ref (h 13), .ref (h 14), .ref (h 15), .ref (h 16), .ref (h 17), .ref (h 18), .ref (h 19), .int 1, .int 1, .int 600, .int 0, .int 0, .int 0, .ref (h 20), .ref (h 21), .int 0, .ref (h 22), .ref (h 23), .ref (h 24), .ref (h 25), .ref (h 26), .int 0, .int 0, .ref (h 27), .ref (h 28), .ref (h 29), .ref (h 30), .ref (h 31), .int 0, .int 0, .ref (h 32), .ref (h 33), .ref (h 34), .ref (h 35), .ref (h 36), .ref (h 37)])), ((h 0), .inl (cy 1, 1720, .inl (fun _ => 0))), ((h 2), .inl (cy 0, 2, .inl (fun _ => 0))), ((h 3), .inl (cy 0, 2, .inl (fun _ => 0))), ((h 4), .inl (cy 0, 2, .inl (fun _ => 0))), ((h 5), .inl (cy 0, 2, .inl (u_1 0))), ((h 12), .inl (cy 2, 2, .inl (u_1 1))), ((h 7), .inl (cy 0, 1200, .inl (fun _ => 0))), ((h 8), .inl (cy 0, 1200, .inl (fun _ => 0))), ((h 20), .inl (cy 2, 8, .inl (fun _ => 0))), ((h 21), .inl (cy 0, 8, .inl (fun _ => 0))), ((h 32), .inl (cy 0, 3, .inl (f 2))), ((h 33), .inl (cy 0, 120, .inl (fun _ => 0))), ((h 34), .inl (cy 0, 120, .inl (fun _ => 0))), ((h 35), .inl (cy 0, 24, .inl (fun _ => 0))), ((h 36), .inl (cy 2, 24, .inl (fun _ => 0))), ((h 37), .inl (cy 2, 3, .inl (fun _ => 0)))] H := hP
  replace hD : va_D A [(mo, .inr (12, [.ref (h 0), .ref (h 1), .int 0, .int 0, .int 0, .int (-1), .int 0, .int 0, .int 0, .int 0, .long 0, .ref (h 2), .ref (h 3), .ref (h 4), .ref (h 5), .ref (h 6), .ref (h 7), .ref (h 8), .ref (h 9), .ref (h 10), .ref (h 11), .ref (h 12), .ref (h 13), .ref (h 14), .ref (h 15), .ref (h 16), .ref (h 17), .ref (h 18), .ref (h 19), .int 1, .int 1, .int 600, .int 0, .int 0, .int 0, .ref (h 20), .ref (h 21), .int 0, .ref (h 22), .ref (h 23), .ref (h 24), .ref (h 25), .ref (h 26), .int 0, .int 0, .ref (h 27), .ref (h 28), .ref (h 29), .ref (h 30), .ref (h 31), .int 0, .int 0, .ref (h 32), .ref (h 33), .ref (h 34), .ref (h 35), .ref (h 36), .ref (h 37)])), ((h 0), .inl (cy 1, 1720, .inl (fun _ => 0))), ((h 2), .inl (cy 0, 2, .inl (fun _ => 0))), ((h 3), .inl (cy 0, 2, .inl (fun _ => 0))), ((h 4), .inl (cy 0, 2, .inl (fun _ => 0))), ((h 5), .inl (cy 0, 2, .inl (u_1 0))), ((h 12), .inl (cy 2, 2, .inl (u_1 1))), ((h 7), .inl (cy 0, 1200, .inl (fun _ => 0))), ((h 8), .inl (cy 0, 1200, .inl (fun _ => 0))), ((h 20), .inl (cy 2, 8, .inl (fun _ => 0))), ((h 21), .inl (cy 0, 8, .inl (fun _ => 0))), ((h 32), .inl (cy 0, 3, .inl (f 2))), ((h 33), .inl (cy 0, 120, .inl (fun _ => 0))), ((h 34), .inl (cy 0, 120, .inl (fun _ => 0))), ((h 35), .inl (cy 0, 24, .inl (fun _ => 0))), ((h 36), .inl (cy 2, 24, .inl (fun _ => 0))), ((h 37), .inl (cy 2, 3, .inl (fun _ => 0)))] := hD
  refine lv_iconst (v := 0) hx hb dX12_town_127 (by decide) ?_
  refine lv_istore_n (lv' := [(1, .int 0), (0, .ref mo)]) hx hb dX12_town_128 rfl hl (by decide) rfl ?_
  clear hl
  try clear ls
  intro ls hl
  refine lv_iload_n hx hb dX12_town_129 rfl (lv_at hl 0 rfl) ?_
  refine lv_bipush (v := 8) hx hb dX12_town_130 (by decide) ?_
  refine lv_icmp_ge (tgt := 155) hx hb dX12_town_132 (by decide) (fun c9 => absurd c9 (by decide)) (fun _ => ?_)
  refine lv_aload_n hx hb dX12_town_135 rfl (lv_at hl 1 rfl) ?_
  refine va_get (ci := 12) (v := .ref (h 20)) (C := RX12) (T := TX12) (N := 58) hx hb ht iX12 hown hK hP 0 rfl rfl 35 (by decide) (ht _ k_292) (fun _ h9 => h9) rfl dX12_town_136 ?_
  refine lv_iload_n hx hb dX12_town_139 rfl (lv_at hl 0 rfl) ?_
  refine lv_iconst (v := 0) hx hb dX12_town_140 (by decide) ?_
  refine ow_zast hx hb hK hP hD hS 9 rfl (in_lit (by decide +kernel)) dX12_town_141 ?_
  clear hP hD hS
  try clear H locs
  intro f_7 H locs hP hD hS
  replace hP : va_P G vwCl [(mo, .inr (12, [.ref (h 0), .ref (h 1), .int 0, .int 0, .int 0, .int (-1), .int 0, .int 0, .int 0, .int 0, .long 0, .ref (h 2), .ref (h 3), .ref (h 4), .ref (h 5), .ref (h 6), .ref (h 7), .ref (h 8), .ref (h 9), .ref (h 10), .ref (h 11), .ref (h 12), .ref (h 13), .ref (h 14), .ref (h 15), .ref (h 16), .ref (h 17), .ref (h 18), .ref (h 19), .int 1, .int 1, .int 600, .int 0, .int 0, .int 0, .ref (h 20), .ref (h 21), .int 0, .ref (h 22), .ref (h 23), .ref (h 24), .ref (h 25), .ref (h 26), .int 0, .int 0, .ref (h 27), .ref (h 28), .ref (h 29), .ref (h 30), .ref (h 31), .int 0, .int 0, .ref (h 32), .ref (h 33), .ref (h 34), .ref (h 35), .ref (h 36), .ref (h 37)])), ((h 0), .inl (cy 1, 1720, .inl (fun _ => 0))), ((h 2), .inl (cy 0, 2, .inl (fun _ => 0))), ((h 3), .inl (cy 0, 2, .inl (fun _ => 0))), ((h 4), .inl (cy 0, 2, .inl (fun _ => 0))), ((h 5), .inl (cy 0, 2, .inl (u_1 0))), ((h 12), .inl (cy 2, 2, .inl (u_1 1))), ((h 7), .inl (cy 0, 1200, .inl (fun _ => 0))), ((h 8), .inl (cy 0, 1200, .inl (fun _ => 0))), ((h 20), .inl (cy 2, 8, .inl f_7)), ((h 21), .inl (cy 0, 8, .inl (fun _ => 0))), ((h 32), .inl (cy 0, 3, .inl (f 2))), ((h 33), .inl (cy 0, 120, .inl (fun _ => 0))), ((h 34), .inl (cy 0, 120, .inl (fun _ => 0))), ((h 35), .inl (cy 0, 24, .inl (fun _ => 0))), ((h 36), .inl (cy 2, 24, .inl (fun _ => 0))), ((h 37), .inl (cy 2, 3, .inl (fun _ => 0)))] H := hP
  replace hD : va_D A [(mo, .inr (12, [.ref (h 0), .ref (h 1), .int 0, .int 0, .int 0, .int (-1), .int 0, .int 0, .int 0, .int 0, .long 0, .ref (h 2), .ref (h 3), .ref (h 4), .ref (h 5), .ref (h 6), .ref (h 7), .ref (h 8), .ref (h 9), .ref (h 10), .ref (h 11), .ref (h 12), .ref (h 13), .ref (h 14), .ref (h 15), .ref (h 16), .ref (h 17), .ref (h 18), .ref (h 19), .int 1, .int 1, .int 600, .int 0, .int 0, .int 0, .ref (h 20), .ref (h 21), .int 0, .ref (h 22), .ref (h 23), .ref (h 24), .ref (h 25), .ref (h 26), .int 0, .int 0, .ref (h 27), .ref (h 28), .ref (h 29), .ref (h 30), .ref (h 31), .int 0, .int 0, .ref (h 32), .ref (h 33), .ref (h 34), .ref (h 35), .ref (h 36), .ref (h 37)])), ((h 0), .inl (cy 1, 1720, .inl (fun _ => 0))), ((h 2), .inl (cy 0, 2, .inl (fun _ => 0))), ((h 3), .inl (cy 0, 2, .inl (fun _ => 0))), ((h 4), .inl (cy 0, 2, .inl (fun _ => 0))), ((h 5), .inl (cy 0, 2, .inl (u_1 0))), ((h 12), .inl (cy 2, 2, .inl (u_1 1))), ((h 7), .inl (cy 0, 1200, .inl (fun _ => 0))), ((h 8), .inl (cy 0, 1200, .inl (fun _ => 0))), ((h 20), .inl (cy 2, 8, .inl f_7)), ((h 21), .inl (cy 0, 8, .inl (fun _ => 0))), ((h 32), .inl (cy 0, 3, .inl (f 2))), ((h 33), .inl (cy 0, 120, .inl (fun _ => 0))), ((h 34), .inl (cy 0, 120, .inl (fun _ => 0))), ((h 35), .inl (cy 0, 24, .inl (fun _ => 0))), ((h 36), .inl (cy 2, 24, .inl (fun _ => 0))), ((h 37), .inl (cy 2, 3, .inl (fun _ => 0)))] := hD
  refine lv_aload_n hx hb dX12_town_142 rfl (lv_at hl 1 rfl) ?_
  refine va_get (ci := 12) (v := .ref (h 21)) (C := RX12) (T := TX12) (N := 58) hx hb ht iX12 hown hK hP 0 rfl rfl 36 (by decide) (ht _ k_293) (fun _ h9 => h9) rfl dX12_town_143 ?_
  refine lv_iload_n hx hb dX12_town_146 rfl (lv_at hl 0 rfl) ?_
  refine lv_iconst (v := 0) hx hb dX12_town_147 (by decide) ?_
  refine ow_iastS hx hb hK hP hD hS 10 rfl (in_lit (by decide +kernel)) dX12_town_148 ?_
  clear hP hD hS
  try clear H locs
  intro H locs hP hD hS
  replace hP : va_P G vwCl [(mo, .inr (12, [.ref (h 0), .ref (h 1), .int 0, .int 0, .int 0, .int (-1), .int 0, .int 0, .int 0, .int 0, .long 0, .ref (h 2), .ref (h 3), .ref (h 4), .ref (h 5), .ref (h 6), .ref (h 7), .ref (h 8), .ref (h 9), .ref (h 10), .ref (h 11), .ref (h 12), .ref (h 13), .ref (h 14), .ref (h 15), .ref (h 16), .ref (h 17), .ref (h 18), .ref (h 19), .int 1, .int 1, .int 600, .int 0, .int 0, .int 0, .ref (h 20), .ref (h 21), .int 0, .ref (h 22), .ref (h 23), .ref (h 24), .ref (h 25), .ref (h 26), .int 0, .int 0, .ref (h 27), .ref (h 28), .ref (h 29), .ref (h 30), .ref (h 31), .int 0, .int 0, .ref (h 32), .ref (h 33), .ref (h 34), .ref (h 35), .ref (h 36), .ref (h 37)])), ((h 0), .inl (cy 1, 1720, .inl (fun _ => 0))), ((h 2), .inl (cy 0, 2, .inl (fun _ => 0))), ((h 3), .inl (cy 0, 2, .inl (fun _ => 0))), ((h 4), .inl (cy 0, 2, .inl (fun _ => 0))), ((h 5), .inl (cy 0, 2, .inl (u_1 0))), ((h 12), .inl (cy 2, 2, .inl (u_1 1))), ((h 7), .inl (cy 0, 1200, .inl (fun _ => 0))), ((h 8), .inl (cy 0, 1200, .inl (fun _ => 0))), ((h 20), .inl (cy 2, 8, .inl f_7)), ((h 21), .inl (cy 0, 8, .inl (fun _ => 0))), ((h 32), .inl (cy 0, 3, .inl (f 2))), ((h 33), .inl (cy 0, 120, .inl (fun _ => 0))), ((h 34), .inl (cy 0, 120, .inl (fun _ => 0))), ((h 35), .inl (cy 0, 24, .inl (fun _ => 0))), ((h 36), .inl (cy 2, 24, .inl (fun _ => 0))), ((h 37), .inl (cy 2, 3, .inl (fun _ => 0)))] H := hP
  replace hD : va_D A [(mo, .inr (12, [.ref (h 0), .ref (h 1), .int 0, .int 0, .int 0, .int (-1), .int 0, .int 0, .int 0, .int 0, .long 0, .ref (h 2), .ref (h 3), .ref (h 4), .ref (h 5), .ref (h 6), .ref (h 7), .ref (h 8), .ref (h 9), .ref (h 10), .ref (h 11), .ref (h 12), .ref (h 13), .ref (h 14), .ref (h 15), .ref (h 16), .ref (h 17), .ref (h 18), .ref (h 19), .int 1, .int 1, .int 600, .int 0, .int 0, .int 0, .ref (h 20), .ref (h 21), .int 0, .ref (h 22), .ref (h 23), .ref (h 24), .ref (h 25), .ref (h 26), .int 0, .int 0, .ref (h 27), .ref (h 28), .ref (h 29), .ref (h 30), .ref (h 31), .int 0, .int 0, .ref (h 32), .ref (h 33), .ref (h 34), .ref (h 35), .ref (h 36), .ref (h 37)])), ((h 0), .inl (cy 1, 1720, .inl (fun _ => 0))), ((h 2), .inl (cy 0, 2, .inl (fun _ => 0))), ((h 3), .inl (cy 0, 2, .inl (fun _ => 0))), ((h 4), .inl (cy 0, 2, .inl (fun _ => 0))), ((h 5), .inl (cy 0, 2, .inl (u_1 0))), ((h 12), .inl (cy 2, 2, .inl (u_1 1))), ((h 7), .inl (cy 0, 1200, .inl (fun _ => 0))), ((h 8), .inl (cy 0, 1200, .inl (fun _ => 0))), ((h 20), .inl (cy 2, 8, .inl f_7)), ((h 21), .inl (cy 0, 8, .inl (fun _ => 0))), ((h 32), .inl (cy 0, 3, .inl (f 2))), ((h 33), .inl (cy 0, 120, .inl (fun _ => 0))), ((h 34), .inl (cy 0, 120, .inl (fun _ => 0))), ((h 35), .inl (cy 0, 24, .inl (fun _ => 0))), ((h 36), .inl (cy 2, 24, .inl (fun _ => 0))), ((h 37), .inl (cy 2, 3, .inl (fun _ => 0)))] := hD
  refine lv_iinc (v := 1) (lv' := [(1, .int 1), (0, .ref mo)]) hx hb dX12_town_149 hl (k := 0) rfl (by decide) (by decide) rfl ?_
  clear hl
  try clear ls
  intro ls hl
  refine lv_goto (tgt := 129) hx hb dX12_town_152 (by decide) ?_
  refine lv_iload_n hx hb dX12_town_129 rfl (lv_at hl 0 rfl) ?_
  refine lv_bipush (v := 8) hx hb dX12_town_130 (by decide) ?_
  refine lv_icmp_ge (tgt := 155) hx hb dX12_town_132 (by decide) (fun c9 => absurd c9 (by decide)) (fun _ => ?_)
  refine lv_aload_n hx hb dX12_town_135 rfl (lv_at hl 1 rfl) ?_
  refine va_get (ci := 12) (v := .ref (h 20)) (C := RX12) (T := TX12) (N := 58) hx hb ht iX12 hown hK hP 0 rfl rfl 35 (by decide) (ht _ k_292) (fun _ h9 => h9) rfl dX12_town_136 ?_
  refine lv_iload_n hx hb dX12_town_139 rfl (lv_at hl 0 rfl) ?_
  refine lv_iconst (v := 0) hx hb dX12_town_140 (by decide) ?_
  refine ow_zast hx hb hK hP hD hS 9 rfl (in_lit (by decide +kernel)) dX12_town_141 ?_
  clear hP hD hS
  try clear H locs
  intro f_8 H locs hP hD hS
  replace hP : va_P G vwCl [(mo, .inr (12, [.ref (h 0), .ref (h 1), .int 0, .int 0, .int 0, .int (-1), .int 0, .int 0, .int 0, .int 0, .long 0, .ref (h 2), .ref (h 3), .ref (h 4), .ref (h 5), .ref (h 6), .ref (h 7), .ref (h 8), .ref (h 9), .ref (h 10), .ref (h 11), .ref (h 12), .ref (h 13), .ref (h 14), .ref (h 15), .ref (h 16), .ref (h 17), .ref (h 18), .ref (h 19), .int 1, .int 1, .int 600, .int 0, .int 0, .int 0, .ref (h 20), .ref (h 21), .int 0, .ref (h 22), .ref (h 23), .ref (h 24), .ref (h 25), .ref (h 26), .int 0, .int 0, .ref (h 27), .ref (h 28), .ref (h 29), .ref (h 30), .ref (h 31), .int 0, .int 0, .ref (h 32), .ref (h 33), .ref (h 34), .ref (h 35), .ref (h 36), .ref (h 37)])), ((h 0), .inl (cy 1, 1720, .inl (fun _ => 0))), ((h 2), .inl (cy 0, 2, .inl (fun _ => 0))), ((h 3), .inl (cy 0, 2, .inl (fun _ => 0))), ((h 4), .inl (cy 0, 2, .inl (fun _ => 0))), ((h 5), .inl (cy 0, 2, .inl (u_1 0))), ((h 12), .inl (cy 2, 2, .inl (u_1 1))), ((h 7), .inl (cy 0, 1200, .inl (fun _ => 0))), ((h 8), .inl (cy 0, 1200, .inl (fun _ => 0))), ((h 20), .inl (cy 2, 8, .inl f_8)), ((h 21), .inl (cy 0, 8, .inl (fun _ => 0))), ((h 32), .inl (cy 0, 3, .inl (f 2))), ((h 33), .inl (cy 0, 120, .inl (fun _ => 0))), ((h 34), .inl (cy 0, 120, .inl (fun _ => 0))), ((h 35), .inl (cy 0, 24, .inl (fun _ => 0))), ((h 36), .inl (cy 2, 24, .inl (fun _ => 0))), ((h 37), .inl (cy 2, 3, .inl (fun _ => 0)))] H := hP
  replace hD : va_D A [(mo, .inr (12, [.ref (h 0), .ref (h 1), .int 0, .int 0, .int 0, .int (-1), .int 0, .int 0, .int 0, .int 0, .long 0, .ref (h 2), .ref (h 3), .ref (h 4), .ref (h 5), .ref (h 6), .ref (h 7), .ref (h 8), .ref (h 9), .ref (h 10), .ref (h 11), .ref (h 12), .ref (h 13), .ref (h 14), .ref (h 15), .ref (h 16), .ref (h 17), .ref (h 18), .ref (h 19), .int 1, .int 1, .int 600, .int 0, .int 0, .int 0, .ref (h 20), .ref (h 21), .int 0, .ref (h 22), .ref (h 23), .ref (h 24), .ref (h 25), .ref (h 26), .int 0, .int 0, .ref (h 27), .ref (h 28), .ref (h 29), .ref (h 30), .ref (h 31), .int 0, .int 0, .ref (h 32), .ref (h 33), .ref (h 34), .ref (h 35), .ref (h 36), .ref (h 37)])), ((h 0), .inl (cy 1, 1720, .inl (fun _ => 0))), ((h 2), .inl (cy 0, 2, .inl (fun _ => 0))), ((h 3), .inl (cy 0, 2, .inl (fun _ => 0))), ((h 4), .inl (cy 0, 2, .inl (fun _ => 0))), ((h 5), .inl (cy 0, 2, .inl (u_1 0))), ((h 12), .inl (cy 2, 2, .inl (u_1 1))), ((h 7), .inl (cy 0, 1200, .inl (fun _ => 0))), ((h 8), .inl (cy 0, 1200, .inl (fun _ => 0))), ((h 20), .inl (cy 2, 8, .inl f_8)), ((h 21), .inl (cy 0, 8, .inl (fun _ => 0))), ((h 32), .inl (cy 0, 3, .inl (f 2))), ((h 33), .inl (cy 0, 120, .inl (fun _ => 0))), ((h 34), .inl (cy 0, 120, .inl (fun _ => 0))), ((h 35), .inl (cy 0, 24, .inl (fun _ => 0))), ((h 36), .inl (cy 2, 24, .inl (fun _ => 0))), ((h 37), .inl (cy 2, 3, .inl (fun _ => 0)))] := hD
  refine lv_aload_n hx hb dX12_town_142 rfl (lv_at hl 1 rfl) ?_
  refine va_get (ci := 12) (v := .ref (h 21)) (C := RX12) (T := TX12) (N := 58) hx hb ht iX12 hown hK hP 0 rfl rfl 36 (by decide) (ht _ k_293) (fun _ h9 => h9) rfl dX12_town_143 ?_
  refine lv_iload_n hx hb dX12_town_146 rfl (lv_at hl 0 rfl) ?_
  refine lv_iconst (v := 0) hx hb dX12_town_147 (by decide) ?_
  refine ow_iastS hx hb hK hP hD hS 10 rfl (in_lit (by decide +kernel)) dX12_town_148 ?_
  clear hP hD hS
  try clear H locs
  intro H locs hP hD hS
  replace hP : va_P G vwCl [(mo, .inr (12, [.ref (h 0), .ref (h 1), .int 0, .int 0, .int 0, .int (-1), .int 0, .int 0, .int 0, .int 0, .long 0, .ref (h 2), .ref (h 3), .ref (h 4), .ref (h 5), .ref (h 6), .ref (h 7), .ref (h 8), .ref (h 9), .ref (h 10), .ref (h 11), .ref (h 12), .ref (h 13), .ref (h 14), .ref (h 15), .ref (h 16), .ref (h 17), .ref (h 18), .ref (h 19), .int 1, .int 1, .int 600, .int 0, .int 0, .int 0, .ref (h 20), .ref (h 21), .int 0, .ref (h 22), .ref (h 23), .ref (h 24), .ref (h 25), .ref (h 26), .int 0, .int 0, .ref (h 27), .ref (h 28), .ref (h 29), .ref (h 30), .ref (h 31), .int 0, .int 0, .ref (h 32), .ref (h 33), .ref (h 34), .ref (h 35), .ref (h 36), .ref (h 37)])), ((h 0), .inl (cy 1, 1720, .inl (fun _ => 0))), ((h 2), .inl (cy 0, 2, .inl (fun _ => 0))), ((h 3), .inl (cy 0, 2, .inl (fun _ => 0))), ((h 4), .inl (cy 0, 2, .inl (fun _ => 0))), ((h 5), .inl (cy 0, 2, .inl (u_1 0))), ((h 12), .inl (cy 2, 2, .inl (u_1 1))), ((h 7), .inl (cy 0, 1200, .inl (fun _ => 0))), ((h 8), .inl (cy 0, 1200, .inl (fun _ => 0))), ((h 20), .inl (cy 2, 8, .inl f_8)), ((h 21), .inl (cy 0, 8, .inl (fun _ => 0))), ((h 32), .inl (cy 0, 3, .inl (f 2))), ((h 33), .inl (cy 0, 120, .inl (fun _ => 0))), ((h 34), .inl (cy 0, 120, .inl (fun _ => 0))), ((h 35), .inl (cy 0, 24, .inl (fun _ => 0))), ((h 36), .inl (cy 2, 24, .inl (fun _ => 0))), ((h 37), .inl (cy 2, 3, .inl (fun _ => 0)))] H := hP
  replace hD : va_D A [(mo, .inr (12, [.ref (h 0), .ref (h 1), .int 0, .int 0, .int 0, .int (-1), .int 0, .int 0, .int 0, .int 0, .long 0, .ref (h 2), .ref (h 3), .ref (h 4), .ref (h 5), .ref (h 6), .ref (h 7), .ref (h 8), .ref (h 9), .ref (h 10), .ref (h 11), .ref (h 12), .ref (h 13), .ref (h 14), .ref (h 15), .ref (h 16), .ref (h 17), .ref (h 18), .ref (h 19), .int 1, .int 1, .int 600, .int 0, .int 0, .int 0, .ref (h 20), .ref (h 21), .int 0, .ref (h 22), .ref (h 23), .ref (h 24), .ref (h 25), .ref (h 26), .int 0, .int 0, .ref (h 27), .ref (h 28), .ref (h 29), .ref (h 30), .ref (h 31), .int 0, .int 0, .ref (h 32), .ref (h 33), .ref (h 34), .ref (h 35), .ref (h 36), .ref (h 37)])), ((h 0), .inl (cy 1, 1720, .inl (fun _ => 0))), ((h 2), .inl (cy 0, 2, .inl (fun _ => 0))), ((h 3), .inl (cy 0, 2, .inl (fun _ => 0))), ((h 4), .inl (cy 0, 2, .inl (fun _ => 0))), ((h 5), .inl (cy 0, 2, .inl (u_1 0))), ((h 12), .inl (cy 2, 2, .inl (u_1 1))), ((h 7), .inl (cy 0, 1200, .inl (fun _ => 0))), ((h 8), .inl (cy 0, 1200, .inl (fun _ => 0))), ((h 20), .inl (cy 2, 8, .inl f_8)), ((h 21), .inl (cy 0, 8, .inl (fun _ => 0))), ((h 32), .inl (cy 0, 3, .inl (f 2))), ((h 33), .inl (cy 0, 120, .inl (fun _ => 0))), ((h 34), .inl (cy 0, 120, .inl (fun _ => 0))), ((h 35), .inl (cy 0, 24, .inl (fun _ => 0))), ((h 36), .inl (cy 2, 24, .inl (fun _ => 0))), ((h 37), .inl (cy 2, 3, .inl (fun _ => 0)))] := hD
  refine lv_iinc (v := 2) (lv' := [(1, .int 2), (0, .ref mo)]) hx hb dX12_town_149 hl (k := 0) rfl (by decide) (by decide) rfl ?_
  clear hl
  try clear ls
  intro ls hl
  refine lv_goto (tgt := 129) hx hb dX12_town_152 (by decide) ?_
  refine lv_iload_n hx hb dX12_town_129 rfl (lv_at hl 0 rfl) ?_
  refine lv_bipush (v := 8) hx hb dX12_town_130 (by decide) ?_
  refine lv_icmp_ge (tgt := 155) hx hb dX12_town_132 (by decide) (fun c9 => absurd c9 (by decide)) (fun _ => ?_)
  refine lv_aload_n hx hb dX12_town_135 rfl (lv_at hl 1 rfl) ?_
  refine va_get (ci := 12) (v := .ref (h 20)) (C := RX12) (T := TX12) (N := 58) hx hb ht iX12 hown hK hP 0 rfl rfl 35 (by decide) (ht _ k_292) (fun _ h9 => h9) rfl dX12_town_136 ?_
  refine lv_iload_n hx hb dX12_town_139 rfl (lv_at hl 0 rfl) ?_
  refine lv_iconst (v := 0) hx hb dX12_town_140 (by decide) ?_
  refine ow_zast hx hb hK hP hD hS 9 rfl (in_lit (by decide +kernel)) dX12_town_141 ?_
  clear hP hD hS
  try clear H locs
  intro f_9 H locs hP hD hS
  replace hP : va_P G vwCl [(mo, .inr (12, [.ref (h 0), .ref (h 1), .int 0, .int 0, .int 0, .int (-1), .int 0, .int 0, .int 0, .int 0, .long 0, .ref (h 2), .ref (h 3), .ref (h 4), .ref (h 5), .ref (h 6), .ref (h 7), .ref (h 8), .ref (h 9), .ref (h 10), .ref (h 11), .ref (h 12), .ref (h 13), .ref (h 14), .ref (h 15), .ref (h 16), .ref (h 17), .ref (h 18), .ref (h 19), .int 1, .int 1, .int 600, .int 0, .int 0, .int 0, .ref (h 20), .ref (h 21), .int 0, .ref (h 22), .ref (h 23), .ref (h 24), .ref (h 25), .ref (h 26), .int 0, .int 0, .ref (h 27), .ref (h 28), .ref (h 29), .ref (h 30), .ref (h 31), .int 0, .int 0, .ref (h 32), .ref (h 33), .ref (h 34), .ref (h 35), .ref (h 36), .ref (h 37)])), ((h 0), .inl (cy 1, 1720, .inl (fun _ => 0))), ((h 2), .inl (cy 0, 2, .inl (fun _ => 0))), ((h 3), .inl (cy 0, 2, .inl (fun _ => 0))), ((h 4), .inl (cy 0, 2, .inl (fun _ => 0))), ((h 5), .inl (cy 0, 2, .inl (u_1 0))), ((h 12), .inl (cy 2, 2, .inl (u_1 1))), ((h 7), .inl (cy 0, 1200, .inl (fun _ => 0))), ((h 8), .inl (cy 0, 1200, .inl (fun _ => 0))), ((h 20), .inl (cy 2, 8, .inl f_9)), ((h 21), .inl (cy 0, 8, .inl (fun _ => 0))), ((h 32), .inl (cy 0, 3, .inl (f 2))), ((h 33), .inl (cy 0, 120, .inl (fun _ => 0))), ((h 34), .inl (cy 0, 120, .inl (fun _ => 0))), ((h 35), .inl (cy 0, 24, .inl (fun _ => 0))), ((h 36), .inl (cy 2, 24, .inl (fun _ => 0))), ((h 37), .inl (cy 2, 3, .inl (fun _ => 0)))] H := hP
  replace hD : va_D A [(mo, .inr (12, [.ref (h 0), .ref (h 1), .int 0, .int 0, .int 0, .int (-1), .int 0, .int 0, .int 0, .int 0, .long 0, .ref (h 2), .ref (h 3), .ref (h 4), .ref (h 5), .ref (h 6), .ref (h 7), .ref (h 8), .ref (h 9), .ref (h 10), .ref (h 11), .ref (h 12), .ref (h 13), .ref (h 14), .ref (h 15), .ref (h 16), .ref (h 17), .ref (h 18), .ref (h 19), .int 1, .int 1, .int 600, .int 0, .int 0, .int 0, .ref (h 20), .ref (h 21), .int 0, .ref (h 22), .ref (h 23), .ref (h 24), .ref (h 25), .ref (h 26), .int 0, .int 0, .ref (h 27), .ref (h 28), .ref (h 29), .ref (h 30), .ref (h 31), .int 0, .int 0, .ref (h 32), .ref (h 33), .ref (h 34), .ref (h 35), .ref (h 36), .ref (h 37)])), ((h 0), .inl (cy 1, 1720, .inl (fun _ => 0))), ((h 2), .inl (cy 0, 2, .inl (fun _ => 0))), ((h 3), .inl (cy 0, 2, .inl (fun _ => 0))), ((h 4), .inl (cy 0, 2, .inl (fun _ => 0))), ((h 5), .inl (cy 0, 2, .inl (u_1 0))), ((h 12), .inl (cy 2, 2, .inl (u_1 1))), ((h 7), .inl (cy 0, 1200, .inl (fun _ => 0))), ((h 8), .inl (cy 0, 1200, .inl (fun _ => 0))), ((h 20), .inl (cy 2, 8, .inl f_9)), ((h 21), .inl (cy 0, 8, .inl (fun _ => 0))), ((h 32), .inl (cy 0, 3, .inl (f 2))), ((h 33), .inl (cy 0, 120, .inl (fun _ => 0))), ((h 34), .inl (cy 0, 120, .inl (fun _ => 0))), ((h 35), .inl (cy 0, 24, .inl (fun _ => 0))), ((h 36), .inl (cy 2, 24, .inl (fun _ => 0))), ((h 37), .inl (cy 2, 3, .inl (fun _ => 0)))] := hD
  refine lv_aload_n hx hb dX12_town_142 rfl (lv_at hl 1 rfl) ?_
  refine va_get (ci := 12) (v := .ref (h 21)) (C := RX12) (T := TX12) (N := 58) hx hb ht iX12 hown hK hP 0 rfl rfl 36 (by decide) (ht _ k_293) (fun _ h9 => h9) rfl dX12_town_143 ?_
  refine lv_iload_n hx hb dX12_town_146 rfl (lv_at hl 0 rfl) ?_
  refine lv_iconst (v := 0) hx hb dX12_town_147 (by decide) ?_
  refine ow_iastS hx hb hK hP hD hS 10 rfl (in_lit (by decide +kernel)) dX12_town_148 ?_
  clear hP hD hS
  try clear H locs
  intro H locs hP hD hS
  replace hP : va_P G vwCl [(mo, .inr (12, [.ref (h 0), .ref (h 1), .int 0, .int 0, .int 0, .int (-1), .int 0, .int 0, .int 0, .int 0, .long 0, .ref (h 2), .ref (h 3), .ref (h 4), .ref (h 5), .ref (h 6), .ref (h 7), .ref (h 8), .ref (h 9), .ref (h 10), .ref (h 11), .ref (h 12), .ref (h 13), .ref (h 14), .ref (h 15), .ref (h 16), .ref (h 17), .ref (h 18), .ref (h 19), .int 1, .int 1, .int 600, .int 0, .int 0, .int 0, .ref (h 20), .ref (h 21), .int 0, .ref (h 22), .ref (h 23), .ref (h 24), .ref (h 25), .ref (h 26), .int 0, .int 0, .ref (h 27), .ref (h 28), .ref (h 29), .ref (h 30), .ref (h 31), .int 0, .int 0, .ref (h 32), .ref (h 33), .ref (h 34), .ref (h 35), .ref (h 36), .ref (h 37)])), ((h 0), .inl (cy 1, 1720, .inl (fun _ => 0))), ((h 2), .inl (cy 0, 2, .inl (fun _ => 0))), ((h 3), .inl (cy 0, 2, .inl (fun _ => 0))), ((h 4), .inl (cy 0, 2, .inl (fun _ => 0))), ((h 5), .inl (cy 0, 2, .inl (u_1 0))), ((h 12), .inl (cy 2, 2, .inl (u_1 1))), ((h 7), .inl (cy 0, 1200, .inl (fun _ => 0))), ((h 8), .inl (cy 0, 1200, .inl (fun _ => 0))), ((h 20), .inl (cy 2, 8, .inl f_9)), ((h 21), .inl (cy 0, 8, .inl (fun _ => 0))), ((h 32), .inl (cy 0, 3, .inl (f 2))), ((h 33), .inl (cy 0, 120, .inl (fun _ => 0))), ((h 34), .inl (cy 0, 120, .inl (fun _ => 0))), ((h 35), .inl (cy 0, 24, .inl (fun _ => 0))), ((h 36), .inl (cy 2, 24, .inl (fun _ => 0))), ((h 37), .inl (cy 2, 3, .inl (fun _ => 0)))] H := hP
  replace hD : va_D A [(mo, .inr (12, [.ref (h 0), .ref (h 1), .int 0, .int 0, .int 0, .int (-1), .int 0, .int 0, .int 0, .int 0, .long 0, .ref (h 2), .ref (h 3), .ref (h 4), .ref (h 5), .ref (h 6), .ref (h 7), .ref (h 8), .ref (h 9), .ref (h 10), .ref (h 11), .ref (h 12), .ref (h 13), .ref (h 14), .ref (h 15), .ref (h 16), .ref (h 17), .ref (h 18), .ref (h 19), .int 1, .int 1, .int 600, .int 0, .int 0, .int 0, .ref (h 20), .ref (h 21), .int 0, .ref (h 22), .ref (h 23), .ref (h 24), .ref (h 25), .ref (h 26), .int 0, .int 0, .ref (h 27), .ref (h 28), .ref (h 29), .ref (h 30), .ref (h 31), .int 0, .int 0, .ref (h 32), .ref (h 33), .ref (h 34), .ref (h 35), .ref (h 36), .ref (h 37)])), ((h 0), .inl (cy 1, 1720, .inl (fun _ => 0))), ((h 2), .inl (cy 0, 2, .inl (fun _ => 0))), ((h 3), .inl (cy 0, 2, .inl (fun _ => 0))), ((h 4), .inl (cy 0, 2, .inl (fun _ => 0))), ((h 5), .inl (cy 0, 2, .inl (u_1 0))), ((h 12), .inl (cy 2, 2, .inl (u_1 1))), ((h 7), .inl (cy 0, 1200, .inl (fun _ => 0))), ((h 8), .inl (cy 0, 1200, .inl (fun _ => 0))), ((h 20), .inl (cy 2, 8, .inl f_9)), ((h 21), .inl (cy 0, 8, .inl (fun _ => 0))), ((h 32), .inl (cy 0, 3, .inl (f 2))), ((h 33), .inl (cy 0, 120, .inl (fun _ => 0))), ((h 34), .inl (cy 0, 120, .inl (fun _ => 0))), ((h 35), .inl (cy 0, 24, .inl (fun _ => 0))), ((h 36), .inl (cy 2, 24, .inl (fun _ => 0))), ((h 37), .inl (cy 2, 3, .inl (fun _ => 0)))] := hD
  refine lv_iinc (v := 3) (lv' := [(1, .int 3), (0, .ref mo)]) hx hb dX12_town_149 hl (k := 0) rfl (by decide) (by decide) rfl ?_
  clear hl
  try clear ls
  intro ls hl
  refine lv_goto (tgt := 129) hx hb dX12_town_152 (by decide) ?_
  refine lv_iload_n hx hb dX12_town_129 rfl (lv_at hl 0 rfl) ?_
  refine lv_bipush (v := 8) hx hb dX12_town_130 (by decide) ?_
  refine lv_icmp_ge (tgt := 155) hx hb dX12_town_132 (by decide) (fun c9 => absurd c9 (by decide)) (fun _ => ?_)
  refine lv_aload_n hx hb dX12_town_135 rfl (lv_at hl 1 rfl) ?_
  refine va_get (ci := 12) (v := .ref (h 20)) (C := RX12) (T := TX12) (N := 58) hx hb ht iX12 hown hK hP 0 rfl rfl 35 (by decide) (ht _ k_292) (fun _ h9 => h9) rfl dX12_town_136 ?_
  refine lv_iload_n hx hb dX12_town_139 rfl (lv_at hl 0 rfl) ?_
  refine lv_iconst (v := 0) hx hb dX12_town_140 (by decide) ?_
  refine ow_zast hx hb hK hP hD hS 9 rfl (in_lit (by decide +kernel)) dX12_town_141 ?_
  clear hP hD hS
  try clear H locs
  intro f_10 H locs hP hD hS
  replace hP : va_P G vwCl [(mo, .inr (12, [.ref (h 0), .ref (h 1), .int 0, .int 0, .int 0, .int (-1), .int 0, .int 0, .int 0, .int 0, .long 0, .ref (h 2), .ref (h 3), .ref (h 4), .ref (h 5), .ref (h 6), .ref (h 7), .ref (h 8), .ref (h 9), .ref (h 10), .ref (h 11), .ref (h 12), .ref (h 13), .ref (h 14), .ref (h 15), .ref (h 16), .ref (h 17), .ref (h 18), .ref (h 19), .int 1, .int 1, .int 600, .int 0, .int 0, .int 0, .ref (h 20), .ref (h 21), .int 0, .ref (h 22), .ref (h 23), .ref (h 24), .ref (h 25), .ref (h 26), .int 0, .int 0, .ref (h 27), .ref (h 28), .ref (h 29), .ref (h 30), .ref (h 31), .int 0, .int 0, .ref (h 32), .ref (h 33), .ref (h 34), .ref (h 35), .ref (h 36), .ref (h 37)])), ((h 0), .inl (cy 1, 1720, .inl (fun _ => 0))), ((h 2), .inl (cy 0, 2, .inl (fun _ => 0))), ((h 3), .inl (cy 0, 2, .inl (fun _ => 0))), ((h 4), .inl (cy 0, 2, .inl (fun _ => 0))), ((h 5), .inl (cy 0, 2, .inl (u_1 0))), ((h 12), .inl (cy 2, 2, .inl (u_1 1))), ((h 7), .inl (cy 0, 1200, .inl (fun _ => 0))), ((h 8), .inl (cy 0, 1200, .inl (fun _ => 0))), ((h 20), .inl (cy 2, 8, .inl f_10)), ((h 21), .inl (cy 0, 8, .inl (fun _ => 0))), ((h 32), .inl (cy 0, 3, .inl (f 2))), ((h 33), .inl (cy 0, 120, .inl (fun _ => 0))), ((h 34), .inl (cy 0, 120, .inl (fun _ => 0))), ((h 35), .inl (cy 0, 24, .inl (fun _ => 0))), ((h 36), .inl (cy 2, 24, .inl (fun _ => 0))), ((h 37), .inl (cy 2, 3, .inl (fun _ => 0)))] H := hP
  replace hD : va_D A [(mo, .inr (12, [.ref (h 0), .ref (h 1), .int 0, .int 0, .int 0, .int (-1), .int 0, .int 0, .int 0, .int 0, .long 0, .ref (h 2), .ref (h 3), .ref (h 4), .ref (h 5), .ref (h 6), .ref (h 7), .ref (h 8), .ref (h 9), .ref (h 10), .ref (h 11), .ref (h 12), .ref (h 13), .ref (h 14), .ref (h 15), .ref (h 16), .ref (h 17), .ref (h 18), .ref (h 19), .int 1, .int 1, .int 600, .int 0, .int 0, .int 0, .ref (h 20), .ref (h 21), .int 0, .ref (h 22), .ref (h 23), .ref (h 24), .ref (h 25), .ref (h 26), .int 0, .int 0, .ref (h 27), .ref (h 28), .ref (h 29), .ref (h 30), .ref (h 31), .int 0, .int 0, .ref (h 32), .ref (h 33), .ref (h 34), .ref (h 35), .ref (h 36), .ref (h 37)])), ((h 0), .inl (cy 1, 1720, .inl (fun _ => 0))), ((h 2), .inl (cy 0, 2, .inl (fun _ => 0))), ((h 3), .inl (cy 0, 2, .inl (fun _ => 0))), ((h 4), .inl (cy 0, 2, .inl (fun _ => 0))), ((h 5), .inl (cy 0, 2, .inl (u_1 0))), ((h 12), .inl (cy 2, 2, .inl (u_1 1))), ((h 7), .inl (cy 0, 1200, .inl (fun _ => 0))), ((h 8), .inl (cy 0, 1200, .inl (fun _ => 0))), ((h 20), .inl (cy 2, 8, .inl f_10)), ((h 21), .inl (cy 0, 8, .inl (fun _ => 0))), ((h 32), .inl (cy 0, 3, .inl (f 2))), ((h 33), .inl (cy 0, 120, .inl (fun _ => 0))), ((h 34), .inl (cy 0, 120, .inl (fun _ => 0))), ((h 35), .inl (cy 0, 24, .inl (fun _ => 0))), ((h 36), .inl (cy 2, 24, .inl (fun _ => 0))), ((h 37), .inl (cy 2, 3, .inl (fun _ => 0)))] := hD
  refine lv_aload_n hx hb dX12_town_142 rfl (lv_at hl 1 rfl) ?_
  refine va_get (ci := 12) (v := .ref (h 21)) (C := RX12) (T := TX12) (N := 58) hx hb ht iX12 hown hK hP 0 rfl rfl 36 (by decide) (ht _ k_293) (fun _ h9 => h9) rfl dX12_town_143 ?_
  refine lv_iload_n hx hb dX12_town_146 rfl (lv_at hl 0 rfl) ?_
  refine lv_iconst (v := 0) hx hb dX12_town_147 (by decide) ?_
  refine ow_iastS hx hb hK hP hD hS 10 rfl (in_lit (by decide +kernel)) dX12_town_148 ?_
  clear hP hD hS
  try clear H locs
  intro H locs hP hD hS
  replace hP : va_P G vwCl [(mo, .inr (12, [.ref (h 0), .ref (h 1), .int 0, .int 0, .int 0, .int (-1), .int 0, .int 0, .int 0, .int 0, .long 0, .ref (h 2), .ref (h 3), .ref (h 4), .ref (h 5), .ref (h 6), .ref (h 7), .ref (h 8), .ref (h 9), .ref (h 10), .ref (h 11), .ref (h 12), .ref (h 13), .ref (h 14), .ref (h 15), .ref (h 16), .ref (h 17), .ref (h 18), .ref (h 19), .int 1, .int 1, .int 600, .int 0, .int 0, .int 0, .ref (h 20), .ref (h 21), .int 0, .ref (h 22), .ref (h 23), .ref (h 24), .ref (h 25), .ref (h 26), .int 0, .int 0, .ref (h 27), .ref (h 28), .ref (h 29), .ref (h 30), .ref (h 31), .int 0, .int 0, .ref (h 32), .ref (h 33), .ref (h 34), .ref (h 35), .ref (h 36), .ref (h 37)])), ((h 0), .inl (cy 1, 1720, .inl (fun _ => 0))), ((h 2), .inl (cy 0, 2, .inl (fun _ => 0))), ((h 3), .inl (cy 0, 2, .inl (fun _ => 0))), ((h 4), .inl (cy 0, 2, .inl (fun _ => 0))), ((h 5), .inl (cy 0, 2, .inl (u_1 0))), ((h 12), .inl (cy 2, 2, .inl (u_1 1))), ((h 7), .inl (cy 0, 1200, .inl (fun _ => 0))), ((h 8), .inl (cy 0, 1200, .inl (fun _ => 0))), ((h 20), .inl (cy 2, 8, .inl f_10)), ((h 21), .inl (cy 0, 8, .inl (fun _ => 0))), ((h 32), .inl (cy 0, 3, .inl (f 2))), ((h 33), .inl (cy 0, 120, .inl (fun _ => 0))), ((h 34), .inl (cy 0, 120, .inl (fun _ => 0))), ((h 35), .inl (cy 0, 24, .inl (fun _ => 0))), ((h 36), .inl (cy 2, 24, .inl (fun _ => 0))), ((h 37), .inl (cy 2, 3, .inl (fun _ => 0)))] H := hP
  replace hD : va_D A [(mo, .inr (12, [.ref (h 0), .ref (h 1), .int 0, .int 0, .int 0, .int (-1), .int 0, .int 0, .int 0, .int 0, .long 0, .ref (h 2), .ref (h 3), .ref (h 4), .ref (h 5), .ref (h 6), .ref (h 7), .ref (h 8), .ref (h 9), .ref (h 10), .ref (h 11), .ref (h 12), .ref (h 13), .ref (h 14), .ref (h 15), .ref (h 16), .ref (h 17), .ref (h 18), .ref (h 19), .int 1, .int 1, .int 600, .int 0, .int 0, .int 0, .ref (h 20), .ref (h 21), .int 0, .ref (h 22), .ref (h 23), .ref (h 24), .ref (h 25), .ref (h 26), .int 0, .int 0, .ref (h 27), .ref (h 28), .ref (h 29), .ref (h 30), .ref (h 31), .int 0, .int 0, .ref (h 32), .ref (h 33), .ref (h 34), .ref (h 35), .ref (h 36), .ref (h 37)])), ((h 0), .inl (cy 1, 1720, .inl (fun _ => 0))), ((h 2), .inl (cy 0, 2, .inl (fun _ => 0))), ((h 3), .inl (cy 0, 2, .inl (fun _ => 0))), ((h 4), .inl (cy 0, 2, .inl (fun _ => 0))), ((h 5), .inl (cy 0, 2, .inl (u_1 0))), ((h 12), .inl (cy 2, 2, .inl (u_1 1))), ((h 7), .inl (cy 0, 1200, .inl (fun _ => 0))), ((h 8), .inl (cy 0, 1200, .inl (fun _ => 0))), ((h 20), .inl (cy 2, 8, .inl f_10)), ((h 21), .inl (cy 0, 8, .inl (fun _ => 0))), ((h 32), .inl (cy 0, 3, .inl (f 2))), ((h 33), .inl (cy 0, 120, .inl (fun _ => 0))), ((h 34), .inl (cy 0, 120, .inl (fun _ => 0))), ((h 35), .inl (cy 0, 24, .inl (fun _ => 0))), ((h 36), .inl (cy 2, 24, .inl (fun _ => 0))), ((h 37), .inl (cy 2, 3, .inl (fun _ => 0)))] := hD
  refine lv_iinc (v := 4) (lv' := [(1, .int 4), (0, .ref mo)]) hx hb dX12_town_149 hl (k := 0) rfl (by decide) (by decide) rfl ?_
  clear hl
  try clear ls
  intro ls hl
  refine lv_goto (tgt := 129) hx hb dX12_town_152 (by decide) ?_
  refine lv_iload_n hx hb dX12_town_129 rfl (lv_at hl 0 rfl) ?_
  refine lv_bipush (v := 8) hx hb dX12_town_130 (by decide) ?_
  refine lv_icmp_ge (tgt := 155) hx hb dX12_town_132 (by decide) (fun c9 => absurd c9 (by decide)) (fun _ => ?_)
  refine lv_aload_n hx hb dX12_town_135 rfl (lv_at hl 1 rfl) ?_
  refine va_get (ci := 12) (v := .ref (h 20)) (C := RX12) (T := TX12) (N := 58) hx hb ht iX12 hown hK hP 0 rfl rfl 35 (by decide) (ht _ k_292) (fun _ h9 => h9) rfl dX12_town_136 ?_
  refine lv_iload_n hx hb dX12_town_139 rfl (lv_at hl 0 rfl) ?_
  refine lv_iconst (v := 0) hx hb dX12_town_140 (by decide) ?_
  refine ow_zast hx hb hK hP hD hS 9 rfl (in_lit (by decide +kernel)) dX12_town_141 ?_
  clear hP hD hS
  try clear H locs
  intro f_11 H locs hP hD hS
  replace hP : va_P G vwCl [(mo, .inr (12, [.ref (h 0), .ref (h 1), .int 0, .int 0, .int 0, .int (-1), .int 0, .int 0, .int 0, .int 0, .long 0, .ref (h 2), .ref (h 3), .ref (h 4), .ref (h 5), .ref (h 6), .ref (h 7), .ref (h 8), .ref (h 9), .ref (h 10), .ref (h 11), .ref (h 12), .ref (h 13), .ref (h 14), .ref (h 15), .ref (h 16), .ref (h 17), .ref (h 18), .ref (h 19), .int 1, .int 1, .int 600, .int 0, .int 0, .int 0, .ref (h 20), .ref (h 21), .int 0, .ref (h 22), .ref (h 23), .ref (h 24), .ref (h 25), .ref (h 26), .int 0, .int 0, .ref (h 27), .ref (h 28), .ref (h 29), .ref (h 30), .ref (h 31), .int 0, .int 0, .ref (h 32), .ref (h 33), .ref (h 34), .ref (h 35), .ref (h 36), .ref (h 37)])), ((h 0), .inl (cy 1, 1720, .inl (fun _ => 0))), ((h 2), .inl (cy 0, 2, .inl (fun _ => 0))), ((h 3), .inl (cy 0, 2, .inl (fun _ => 0))), ((h 4), .inl (cy 0, 2, .inl (fun _ => 0))), ((h 5), .inl (cy 0, 2, .inl (u_1 0))), ((h 12), .inl (cy 2, 2, .inl (u_1 1))), ((h 7), .inl (cy 0, 1200, .inl (fun _ => 0))), ((h 8), .inl (cy 0, 1200, .inl (fun _ => 0))), ((h 20), .inl (cy 2, 8, .inl f_11)), ((h 21), .inl (cy 0, 8, .inl (fun _ => 0))), ((h 32), .inl (cy 0, 3, .inl (f 2))), ((h 33), .inl (cy 0, 120, .inl (fun _ => 0))), ((h 34), .inl (cy 0, 120, .inl (fun _ => 0))), ((h 35), .inl (cy 0, 24, .inl (fun _ => 0))), ((h 36), .inl (cy 2, 24, .inl (fun _ => 0))), ((h 37), .inl (cy 2, 3, .inl (fun _ => 0)))] H := hP
  replace hD : va_D A [(mo, .inr (12, [.ref (h 0), .ref (h 1), .int 0, .int 0, .int 0, .int (-1), .int 0, .int 0, .int 0, .int 0, .long 0, .ref (h 2), .ref (h 3), .ref (h 4), .ref (h 5), .ref (h 6), .ref (h 7), .ref (h 8), .ref (h 9), .ref (h 10), .ref (h 11), .ref (h 12), .ref (h 13), .ref (h 14), .ref (h 15), .ref (h 16), .ref (h 17), .ref (h 18), .ref (h 19), .int 1, .int 1, .int 600, .int 0, .int 0, .int 0, .ref (h 20), .ref (h 21), .int 0, .ref (h 22), .ref (h 23), .ref (h 24), .ref (h 25), .ref (h 26), .int 0, .int 0, .ref (h 27), .ref (h 28), .ref (h 29), .ref (h 30), .ref (h 31), .int 0, .int 0, .ref (h 32), .ref (h 33), .ref (h 34), .ref (h 35), .ref (h 36), .ref (h 37)])), ((h 0), .inl (cy 1, 1720, .inl (fun _ => 0))), ((h 2), .inl (cy 0, 2, .inl (fun _ => 0))), ((h 3), .inl (cy 0, 2, .inl (fun _ => 0))), ((h 4), .inl (cy 0, 2, .inl (fun _ => 0))), ((h 5), .inl (cy 0, 2, .inl (u_1 0))), ((h 12), .inl (cy 2, 2, .inl (u_1 1))), ((h 7), .inl (cy 0, 1200, .inl (fun _ => 0))), ((h 8), .inl (cy 0, 1200, .inl (fun _ => 0))), ((h 20), .inl (cy 2, 8, .inl f_11)), ((h 21), .inl (cy 0, 8, .inl (fun _ => 0))), ((h 32), .inl (cy 0, 3, .inl (f 2))), ((h 33), .inl (cy 0, 120, .inl (fun _ => 0))), ((h 34), .inl (cy 0, 120, .inl (fun _ => 0))), ((h 35), .inl (cy 0, 24, .inl (fun _ => 0))), ((h 36), .inl (cy 2, 24, .inl (fun _ => 0))), ((h 37), .inl (cy 2, 3, .inl (fun _ => 0)))] := hD
  refine lv_aload_n hx hb dX12_town_142 rfl (lv_at hl 1 rfl) ?_
  refine va_get (ci := 12) (v := .ref (h 21)) (C := RX12) (T := TX12) (N := 58) hx hb ht iX12 hown hK hP 0 rfl rfl 36 (by decide) (ht _ k_293) (fun _ h9 => h9) rfl dX12_town_143 ?_
  refine lv_iload_n hx hb dX12_town_146 rfl (lv_at hl 0 rfl) ?_
  refine lv_iconst (v := 0) hx hb dX12_town_147 (by decide) ?_
  refine ow_iastS hx hb hK hP hD hS 10 rfl (in_lit (by decide +kernel)) dX12_town_148 ?_
  clear hP hD hS
  try clear H locs
  intro H locs hP hD hS
  replace hP : va_P G vwCl [(mo, .inr (12, [.ref (h 0), .ref (h 1), .int 0, .int 0, .int 0, .int (-1), .int 0, .int 0, .int 0, .int 0, .long 0, .ref (h 2), .ref (h 3), .ref (h 4), .ref (h 5), .ref (h 6), .ref (h 7), .ref (h 8), .ref (h 9), .ref (h 10), .ref (h 11), .ref (h 12), .ref (h 13), .ref (h 14), .ref (h 15), .ref (h 16), .ref (h 17), .ref (h 18), .ref (h 19), .int 1, .int 1, .int 600, .int 0, .int 0, .int 0, .ref (h 20), .ref (h 21), .int 0, .ref (h 22), .ref (h 23), .ref (h 24), .ref (h 25), .ref (h 26), .int 0, .int 0, .ref (h 27), .ref (h 28), .ref (h 29), .ref (h 30), .ref (h 31), .int 0, .int 0, .ref (h 32), .ref (h 33), .ref (h 34), .ref (h 35), .ref (h 36), .ref (h 37)])), ((h 0), .inl (cy 1, 1720, .inl (fun _ => 0))), ((h 2), .inl (cy 0, 2, .inl (fun _ => 0))), ((h 3), .inl (cy 0, 2, .inl (fun _ => 0))), ((h 4), .inl (cy 0, 2, .inl (fun _ => 0))), ((h 5), .inl (cy 0, 2, .inl (u_1 0))), ((h 12), .inl (cy 2, 2, .inl (u_1 1))), ((h 7), .inl (cy 0, 1200, .inl (fun _ => 0))), ((h 8), .inl (cy 0, 1200, .inl (fun _ => 0))), ((h 20), .inl (cy 2, 8, .inl f_11)), ((h 21), .inl (cy 0, 8, .inl (fun _ => 0))), ((h 32), .inl (cy 0, 3, .inl (f 2))), ((h 33), .inl (cy 0, 120, .inl (fun _ => 0))), ((h 34), .inl (cy 0, 120, .inl (fun _ => 0))), ((h 35), .inl (cy 0, 24, .inl (fun _ => 0))), ((h 36), .inl (cy 2, 24, .inl (fun _ => 0))), ((h 37), .inl (cy 2, 3, .inl (fun _ => 0)))] H := hP
  replace hD : va_D A [(mo, .inr (12, [.ref (h 0), .ref (h 1), .int 0, .int 0, .int 0, .int (-1), .int 0, .int 0, .int 0, .int 0, .long 0, .ref (h 2), .ref (h 3), .ref (h 4), .ref (h 5), .ref (h 6), .ref (h 7), .ref (h 8), .ref (h 9), .ref (h 10), .ref (h 11), .ref (h 12), .ref (h 13), .ref (h 14), .ref (h 15), .ref (h 16), .ref (h 17), .ref (h 18), .ref (h 19), .int 1, .int 1, .int 600, .int 0, .int 0, .int 0, .ref (h 20), .ref (h 21), .int 0, .ref (h 22), .ref (h 23), .ref (h 24), .ref (h 25), .ref (h 26), .int 0, .int 0, .ref (h 27), .ref (h 28), .ref (h 29), .ref (h 30), .ref (h 31), .int 0, .int 0, .ref (h 32), .ref (h 33), .ref (h 34), .ref (h 35), .ref (h 36), .ref (h 37)])), ((h 0), .inl (cy 1, 1720, .inl (fun _ => 0))), ((h 2), .inl (cy 0, 2, .inl (fun _ => 0))), ((h 3), .inl (cy 0, 2, .inl (fun _ => 0))), ((h 4), .inl (cy 0, 2, .inl (fun _ => 0))), ((h 5), .inl (cy 0, 2, .inl (u_1 0))), ((h 12), .inl (cy 2, 2, .inl (u_1 1))), ((h 7), .inl (cy 0, 1200, .inl (fun _ => 0))), ((h 8), .inl (cy 0, 1200, .inl (fun _ => 0))), ((h 20), .inl (cy 2, 8, .inl f_11)), ((h 21), .inl (cy 0, 8, .inl (fun _ => 0))), ((h 32), .inl (cy 0, 3, .inl (f 2))), ((h 33), .inl (cy 0, 120, .inl (fun _ => 0))), ((h 34), .inl (cy 0, 120, .inl (fun _ => 0))), ((h 35), .inl (cy 0, 24, .inl (fun _ => 0))), ((h 36), .inl (cy 2, 24, .inl (fun _ => 0))), ((h 37), .inl (cy 2, 3, .inl (fun _ => 0)))] := hD
  refine lv_iinc (v := 5) (lv' := [(1, .int 5), (0, .ref mo)]) hx hb dX12_town_149 hl (k := 0) rfl (by decide) (by decide) rfl ?_
  clear hl
  try clear ls
  intro ls hl
  refine lv_goto (tgt := 129) hx hb dX12_town_152 (by decide) ?_
  refine lv_iload_n hx hb dX12_town_129 rfl (lv_at hl 0 rfl) ?_
  refine lv_bipush (v := 8) hx hb dX12_town_130 (by decide) ?_
  refine lv_icmp_ge (tgt := 155) hx hb dX12_town_132 (by decide) (fun c9 => absurd c9 (by decide)) (fun _ => ?_)
  refine lv_aload_n hx hb dX12_town_135 rfl (lv_at hl 1 rfl) ?_
  refine va_get (ci := 12) (v := .ref (h 20)) (C := RX12) (T := TX12) (N := 58) hx hb ht iX12 hown hK hP 0 rfl rfl 35 (by decide) (ht _ k_292) (fun _ h9 => h9) rfl dX12_town_136 ?_
  refine lv_iload_n hx hb dX12_town_139 rfl (lv_at hl 0 rfl) ?_
  refine lv_iconst (v := 0) hx hb dX12_town_140 (by decide) ?_
  refine ow_zast hx hb hK hP hD hS 9 rfl (in_lit (by decide +kernel)) dX12_town_141 ?_
  clear hP hD hS
  try clear H locs
  intro f_12 H locs hP hD hS
  replace hP : va_P G vwCl [(mo, .inr (12, [.ref (h 0), .ref (h 1), .int 0, .int 0, .int 0, .int (-1), .int 0, .int 0, .int 0, .int 0, .long 0, .ref (h 2), .ref (h 3), .ref (h 4), .ref (h 5), .ref (h 6), .ref (h 7), .ref (h 8), .ref (h 9), .ref (h 10), .ref (h 11), .ref (h 12), .ref (h 13), .ref (h 14), .ref (h 15), .ref (h 16), .ref (h 17), .ref (h 18), .ref (h 19), .int 1, .int 1, .int 600, .int 0, .int 0, .int 0, .ref (h 20), .ref (h 21), .int 0, .ref (h 22), .ref (h 23), .ref (h 24), .ref (h 25), .ref (h 26), .int 0, .int 0, .ref (h 27), .ref (h 28), .ref (h 29), .ref (h 30), .ref (h 31), .int 0, .int 0, .ref (h 32), .ref (h 33), .ref (h 34), .ref (h 35), .ref (h 36), .ref (h 37)])), ((h 0), .inl (cy 1, 1720, .inl (fun _ => 0))), ((h 2), .inl (cy 0, 2, .inl (fun _ => 0))), ((h 3), .inl (cy 0, 2, .inl (fun _ => 0))), ((h 4), .inl (cy 0, 2, .inl (fun _ => 0))), ((h 5), .inl (cy 0, 2, .inl (u_1 0))), ((h 12), .inl (cy 2, 2, .inl (u_1 1))), ((h 7), .inl (cy 0, 1200, .inl (fun _ => 0))), ((h 8), .inl (cy 0, 1200, .inl (fun _ => 0))), ((h 20), .inl (cy 2, 8, .inl f_12)), ((h 21), .inl (cy 0, 8, .inl (fun _ => 0))), ((h 32), .inl (cy 0, 3, .inl (f 2))), ((h 33), .inl (cy 0, 120, .inl (fun _ => 0))), ((h 34), .inl (cy 0, 120, .inl (fun _ => 0))), ((h 35), .inl (cy 0, 24, .inl (fun _ => 0))), ((h 36), .inl (cy 2, 24, .inl (fun _ => 0))), ((h 37), .inl (cy 2, 3, .inl (fun _ => 0)))] H := hP
  replace hD : va_D A [(mo, .inr (12, [.ref (h 0), .ref (h 1), .int 0, .int 0, .int 0, .int (-1), .int 0, .int 0, .int 0, .int 0, .long 0, .ref (h 2), .ref (h 3), .ref (h 4), .ref (h 5), .ref (h 6), .ref (h 7), .ref (h 8), .ref (h 9), .ref (h 10), .ref (h 11), .ref (h 12), .ref (h 13), .ref (h 14), .ref (h 15), .ref (h 16), .ref (h 17), .ref (h 18), .ref (h 19), .int 1, .int 1, .int 600, .int 0, .int 0, .int 0, .ref (h 20), .ref (h 21), .int 0, .ref (h 22), .ref (h 23), .ref (h 24), .ref (h 25), .ref (h 26), .int 0, .int 0, .ref (h 27), .ref (h 28), .ref (h 29), .ref (h 30), .ref (h 31), .int 0, .int 0, .ref (h 32), .ref (h 33), .ref (h 34), .ref (h 35), .ref (h 36), .ref (h 37)])), ((h 0), .inl (cy 1, 1720, .inl (fun _ => 0))), ((h 2), .inl (cy 0, 2, .inl (fun _ => 0))), ((h 3), .inl (cy 0, 2, .inl (fun _ => 0))), ((h 4), .inl (cy 0, 2, .inl (fun _ => 0))), ((h 5), .inl (cy 0, 2, .inl (u_1 0))), ((h 12), .inl (cy 2, 2, .inl (u_1 1))), ((h 7), .inl (cy 0, 1200, .inl (fun _ => 0))), ((h 8), .inl (cy 0, 1200, .inl (fun _ => 0))), ((h 20), .inl (cy 2, 8, .inl f_12)), ((h 21), .inl (cy 0, 8, .inl (fun _ => 0))), ((h 32), .inl (cy 0, 3, .inl (f 2))), ((h 33), .inl (cy 0, 120, .inl (fun _ => 0))), ((h 34), .inl (cy 0, 120, .inl (fun _ => 0))), ((h 35), .inl (cy 0, 24, .inl (fun _ => 0))), ((h 36), .inl (cy 2, 24, .inl (fun _ => 0))), ((h 37), .inl (cy 2, 3, .inl (fun _ => 0)))] := hD
  refine lv_aload_n hx hb dX12_town_142 rfl (lv_at hl 1 rfl) ?_
  refine va_get (ci := 12) (v := .ref (h 21)) (C := RX12) (T := TX12) (N := 58) hx hb ht iX12 hown hK hP 0 rfl rfl 36 (by decide) (ht _ k_293) (fun _ h9 => h9) rfl dX12_town_143 ?_
  refine lv_iload_n hx hb dX12_town_146 rfl (lv_at hl 0 rfl) ?_
  refine lv_iconst (v := 0) hx hb dX12_town_147 (by decide) ?_
  refine ow_iastS hx hb hK hP hD hS 10 rfl (in_lit (by decide +kernel)) dX12_town_148 ?_
  clear hP hD hS
  try clear H locs
  intro H locs hP hD hS
  replace hP : va_P G vwCl [(mo, .inr (12, [.ref (h 0), .ref (h 1), .int 0, .int 0, .int 0, .int (-1), .int 0, .int 0, .int 0, .int 0, .long 0, .ref (h 2), .ref (h 3), .ref (h 4), .ref (h 5), .ref (h 6), .ref (h 7), .ref (h 8), .ref (h 9), .ref (h 10), .ref (h 11), .ref (h 12), .ref (h 13), .ref (h 14), .ref (h 15), .ref (h 16), .ref (h 17), .ref (h 18), .ref (h 19), .int 1, .int 1, .int 600, .int 0, .int 0, .int 0, .ref (h 20), .ref (h 21), .int 0, .ref (h 22), .ref (h 23), .ref (h 24), .ref (h 25), .ref (h 26), .int 0, .int 0, .ref (h 27), .ref (h 28), .ref (h 29), .ref (h 30), .ref (h 31), .int 0, .int 0, .ref (h 32), .ref (h 33), .ref (h 34), .ref (h 35), .ref (h 36), .ref (h 37)])), ((h 0), .inl (cy 1, 1720, .inl (fun _ => 0))), ((h 2), .inl (cy 0, 2, .inl (fun _ => 0))), ((h 3), .inl (cy 0, 2, .inl (fun _ => 0))), ((h 4), .inl (cy 0, 2, .inl (fun _ => 0))), ((h 5), .inl (cy 0, 2, .inl (u_1 0))), ((h 12), .inl (cy 2, 2, .inl (u_1 1))), ((h 7), .inl (cy 0, 1200, .inl (fun _ => 0))), ((h 8), .inl (cy 0, 1200, .inl (fun _ => 0))), ((h 20), .inl (cy 2, 8, .inl f_12)), ((h 21), .inl (cy 0, 8, .inl (fun _ => 0))), ((h 32), .inl (cy 0, 3, .inl (f 2))), ((h 33), .inl (cy 0, 120, .inl (fun _ => 0))), ((h 34), .inl (cy 0, 120, .inl (fun _ => 0))), ((h 35), .inl (cy 0, 24, .inl (fun _ => 0))), ((h 36), .inl (cy 2, 24, .inl (fun _ => 0))), ((h 37), .inl (cy 2, 3, .inl (fun _ => 0)))] H := hP
  replace hD : va_D A [(mo, .inr (12, [.ref (h 0), .ref (h 1), .int 0, .int 0, .int 0, .int (-1), .int 0, .int 0, .int 0, .int 0, .long 0, .ref (h 2), .ref (h 3), .ref (h 4), .ref (h 5), .ref (h 6), .ref (h 7), .ref (h 8), .ref (h 9), .ref (h 10), .ref (h 11), .ref (h 12), .ref (h 13), .ref (h 14), .ref (h 15), .ref (h 16), .ref (h 17), .ref (h 18), .ref (h 19), .int 1, .int 1, .int 600, .int 0, .int 0, .int 0, .ref (h 20), .ref (h 21), .int 0, .ref (h 22), .ref (h 23), .ref (h 24), .ref (h 25), .ref (h 26), .int 0, .int 0, .ref (h 27), .ref (h 28), .ref (h 29), .ref (h 30), .ref (h 31), .int 0, .int 0, .ref (h 32), .ref (h 33), .ref (h 34), .ref (h 35), .ref (h 36), .ref (h 37)])), ((h 0), .inl (cy 1, 1720, .inl (fun _ => 0))), ((h 2), .inl (cy 0, 2, .inl (fun _ => 0))), ((h 3), .inl (cy 0, 2, .inl (fun _ => 0))), ((h 4), .inl (cy 0, 2, .inl (fun _ => 0))), ((h 5), .inl (cy 0, 2, .inl (u_1 0))), ((h 12), .inl (cy 2, 2, .inl (u_1 1))), ((h 7), .inl (cy 0, 1200, .inl (fun _ => 0))), ((h 8), .inl (cy 0, 1200, .inl (fun _ => 0))), ((h 20), .inl (cy 2, 8, .inl f_12)), ((h 21), .inl (cy 0, 8, .inl (fun _ => 0))), ((h 32), .inl (cy 0, 3, .inl (f 2))), ((h 33), .inl (cy 0, 120, .inl (fun _ => 0))), ((h 34), .inl (cy 0, 120, .inl (fun _ => 0))), ((h 35), .inl (cy 0, 24, .inl (fun _ => 0))), ((h 36), .inl (cy 2, 24, .inl (fun _ => 0))), ((h 37), .inl (cy 2, 3, .inl (fun _ => 0)))] := hD
  refine lv_iinc (v := 6) (lv' := [(1, .int 6), (0, .ref mo)]) hx hb dX12_town_149 hl (k := 0) rfl (by decide) (by decide) rfl ?_
  clear hl
  try clear ls
  intro ls hl
  refine lv_goto (tgt := 129) hx hb dX12_town_152 (by decide) ?_
  refine lv_iload_n hx hb dX12_town_129 rfl (lv_at hl 0 rfl) ?_
  refine lv_bipush (v := 8) hx hb dX12_town_130 (by decide) ?_
  refine lv_icmp_ge (tgt := 155) hx hb dX12_town_132 (by decide) (fun c9 => absurd c9 (by decide)) (fun _ => ?_)
  refine lv_aload_n hx hb dX12_town_135 rfl (lv_at hl 1 rfl) ?_
  refine va_get (ci := 12) (v := .ref (h 20)) (C := RX12) (T := TX12) (N := 58) hx hb ht iX12 hown hK hP 0 rfl rfl 35 (by decide) (ht _ k_292) (fun _ h9 => h9) rfl dX12_town_136 ?_
  refine lv_iload_n hx hb dX12_town_139 rfl (lv_at hl 0 rfl) ?_
  refine lv_iconst (v := 0) hx hb dX12_town_140 (by decide) ?_
  refine ow_zast hx hb hK hP hD hS 9 rfl (in_lit (by decide +kernel)) dX12_town_141 ?_
  clear hP hD hS
  try clear H locs
  intro f_13 H locs hP hD hS
  replace hP : va_P G vwCl [(mo, .inr (12, [.ref (h 0), .ref (h 1), .int 0, .int 0, .int 0, .int (-1), .int 0, .int 0, .int 0, .int 0, .long 0, .ref (h 2), .ref (h 3), .ref (h 4), .ref (h 5), .ref (h 6), .ref (h 7), .ref (h 8), .ref (h 9), .ref (h 10), .ref (h 11), .ref (h 12), .ref (h 13), .ref (h 14), .ref (h 15), .ref (h 16), .ref (h 17), .ref (h 18), .ref (h 19), .int 1, .int 1, .int 600, .int 0, .int 0, .int 0, .ref (h 20), .ref (h 21), .int 0, .ref (h 22), .ref (h 23), .ref (h 24), .ref (h 25), .ref (h 26), .int 0, .int 0, .ref (h 27), .ref (h 28), .ref (h 29), .ref (h 30), .ref (h 31), .int 0, .int 0, .ref (h 32), .ref (h 33), .ref (h 34), .ref (h 35), .ref (h 36), .ref (h 37)])), ((h 0), .inl (cy 1, 1720, .inl (fun _ => 0))), ((h 2), .inl (cy 0, 2, .inl (fun _ => 0))), ((h 3), .inl (cy 0, 2, .inl (fun _ => 0))), ((h 4), .inl (cy 0, 2, .inl (fun _ => 0))), ((h 5), .inl (cy 0, 2, .inl (u_1 0))), ((h 12), .inl (cy 2, 2, .inl (u_1 1))), ((h 7), .inl (cy 0, 1200, .inl (fun _ => 0))), ((h 8), .inl (cy 0, 1200, .inl (fun _ => 0))), ((h 20), .inl (cy 2, 8, .inl f_13)), ((h 21), .inl (cy 0, 8, .inl (fun _ => 0))), ((h 32), .inl (cy 0, 3, .inl (f 2))), ((h 33), .inl (cy 0, 120, .inl (fun _ => 0))), ((h 34), .inl (cy 0, 120, .inl (fun _ => 0))), ((h 35), .inl (cy 0, 24, .inl (fun _ => 0))), ((h 36), .inl (cy 2, 24, .inl (fun _ => 0))), ((h 37), .inl (cy 2, 3, .inl (fun _ => 0)))] H := hP
  replace hD : va_D A [(mo, .inr (12, [.ref (h 0), .ref (h 1), .int 0, .int 0, .int 0, .int (-1), .int 0, .int 0, .int 0, .int 0, .long 0, .ref (h 2), .ref (h 3), .ref (h 4), .ref (h 5), .ref (h 6), .ref (h 7), .ref (h 8), .ref (h 9), .ref (h 10), .ref (h 11), .ref (h 12), .ref (h 13), .ref (h 14), .ref (h 15), .ref (h 16), .ref (h 17), .ref (h 18), .ref (h 19), .int 1, .int 1, .int 600, .int 0, .int 0, .int 0, .ref (h 20), .ref (h 21), .int 0, .ref (h 22), .ref (h 23), .ref (h 24), .ref (h 25), .ref (h 26), .int 0, .int 0, .ref (h 27), .ref (h 28), .ref (h 29), .ref (h 30), .ref (h 31), .int 0, .int 0, .ref (h 32), .ref (h 33), .ref (h 34), .ref (h 35), .ref (h 36), .ref (h 37)])), ((h 0), .inl (cy 1, 1720, .inl (fun _ => 0))), ((h 2), .inl (cy 0, 2, .inl (fun _ => 0))), ((h 3), .inl (cy 0, 2, .inl (fun _ => 0))), ((h 4), .inl (cy 0, 2, .inl (fun _ => 0))), ((h 5), .inl (cy 0, 2, .inl (u_1 0))), ((h 12), .inl (cy 2, 2, .inl (u_1 1))), ((h 7), .inl (cy 0, 1200, .inl (fun _ => 0))), ((h 8), .inl (cy 0, 1200, .inl (fun _ => 0))), ((h 20), .inl (cy 2, 8, .inl f_13)), ((h 21), .inl (cy 0, 8, .inl (fun _ => 0))), ((h 32), .inl (cy 0, 3, .inl (f 2))), ((h 33), .inl (cy 0, 120, .inl (fun _ => 0))), ((h 34), .inl (cy 0, 120, .inl (fun _ => 0))), ((h 35), .inl (cy 0, 24, .inl (fun _ => 0))), ((h 36), .inl (cy 2, 24, .inl (fun _ => 0))), ((h 37), .inl (cy 2, 3, .inl (fun _ => 0)))] := hD
  refine lv_aload_n hx hb dX12_town_142 rfl (lv_at hl 1 rfl) ?_
  refine va_get (ci := 12) (v := .ref (h 21)) (C := RX12) (T := TX12) (N := 58) hx hb ht iX12 hown hK hP 0 rfl rfl 36 (by decide) (ht _ k_293) (fun _ h9 => h9) rfl dX12_town_143 ?_
  refine lv_iload_n hx hb dX12_town_146 rfl (lv_at hl 0 rfl) ?_
  refine lv_iconst (v := 0) hx hb dX12_town_147 (by decide) ?_
  refine ow_iastS hx hb hK hP hD hS 10 rfl (in_lit (by decide +kernel)) dX12_town_148 ?_
  clear hP hD hS
  try clear H locs
  intro H locs hP hD hS
  replace hP : va_P G vwCl [(mo, .inr (12, [.ref (h 0), .ref (h 1), .int 0, .int 0, .int 0, .int (-1), .int 0, .int 0, .int 0, .int 0, .long 0, .ref (h 2), .ref (h 3), .ref (h 4), .ref (h 5), .ref (h 6), .ref (h 7), .ref (h 8), .ref (h 9), .ref (h 10), .ref (h 11), .ref (h 12), .ref (h 13), .ref (h 14), .ref (h 15), .ref (h 16), .ref (h 17), .ref (h 18), .ref (h 19), .int 1, .int 1, .int 600, .int 0, .int 0, .int 0, .ref (h 20), .ref (h 21), .int 0, .ref (h 22), .ref (h 23), .ref (h 24), .ref (h 25), .ref (h 26), .int 0, .int 0, .ref (h 27), .ref (h 28), .ref (h 29), .ref (h 30), .ref (h 31), .int 0, .int 0, .ref (h 32), .ref (h 33), .ref (h 34), .ref (h 35), .ref (h 36), .ref (h 37)])), ((h 0), .inl (cy 1, 1720, .inl (fun _ => 0))), ((h 2), .inl (cy 0, 2, .inl (fun _ => 0))), ((h 3), .inl (cy 0, 2, .inl (fun _ => 0))), ((h 4), .inl (cy 0, 2, .inl (fun _ => 0))), ((h 5), .inl (cy 0, 2, .inl (u_1 0))), ((h 12), .inl (cy 2, 2, .inl (u_1 1))), ((h 7), .inl (cy 0, 1200, .inl (fun _ => 0))), ((h 8), .inl (cy 0, 1200, .inl (fun _ => 0))), ((h 20), .inl (cy 2, 8, .inl f_13)), ((h 21), .inl (cy 0, 8, .inl (fun _ => 0))), ((h 32), .inl (cy 0, 3, .inl (f 2))), ((h 33), .inl (cy 0, 120, .inl (fun _ => 0))), ((h 34), .inl (cy 0, 120, .inl (fun _ => 0))), ((h 35), .inl (cy 0, 24, .inl (fun _ => 0))), ((h 36), .inl (cy 2, 24, .inl (fun _ => 0))), ((h 37), .inl (cy 2, 3, .inl (fun _ => 0)))] H := hP
  replace hD : va_D A [(mo, .inr (12, [.ref (h 0), .ref (h 1), .int 0, .int 0, .int 0, .int (-1), .int 0, .int 0, .int 0, .int 0, .long 0, .ref (h 2), .ref (h 3), .ref (h 4), .ref (h 5), .ref (h 6), .ref (h 7), .ref (h 8), .ref (h 9), .ref (h 10), .ref (h 11), .ref (h 12), .ref (h 13), .ref (h 14), .ref (h 15), .ref (h 16), .ref (h 17), .ref (h 18), .ref (h 19), .int 1, .int 1, .int 600, .int 0, .int 0, .int 0, .ref (h 20), .ref (h 21), .int 0, .ref (h 22), .ref (h 23), .ref (h 24), .ref (h 25), .ref (h 26), .int 0, .int 0, .ref (h 27), .ref (h 28), .ref (h 29), .ref (h 30), .ref (h 31), .int 0, .int 0, .ref (h 32), .ref (h 33), .ref (h 34), .ref (h 35), .ref (h 36), .ref (h 37)])), ((h 0), .inl (cy 1, 1720, .inl (fun _ => 0))), ((h 2), .inl (cy 0, 2, .inl (fun _ => 0))), ((h 3), .inl (cy 0, 2, .inl (fun _ => 0))), ((h 4), .inl (cy 0, 2, .inl (fun _ => 0))), ((h 5), .inl (cy 0, 2, .inl (u_1 0))), ((h 12), .inl (cy 2, 2, .inl (u_1 1))), ((h 7), .inl (cy 0, 1200, .inl (fun _ => 0))), ((h 8), .inl (cy 0, 1200, .inl (fun _ => 0))), ((h 20), .inl (cy 2, 8, .inl f_13)), ((h 21), .inl (cy 0, 8, .inl (fun _ => 0))), ((h 32), .inl (cy 0, 3, .inl (f 2))), ((h 33), .inl (cy 0, 120, .inl (fun _ => 0))), ((h 34), .inl (cy 0, 120, .inl (fun _ => 0))), ((h 35), .inl (cy 0, 24, .inl (fun _ => 0))), ((h 36), .inl (cy 2, 24, .inl (fun _ => 0))), ((h 37), .inl (cy 2, 3, .inl (fun _ => 0)))] := hD
  refine lv_iinc (v := 7) (lv' := [(1, .int 7), (0, .ref mo)]) hx hb dX12_town_149 hl (k := 0) rfl (by decide) (by decide) rfl ?_
  clear hl
  try clear ls
  intro ls hl
  refine lv_goto (tgt := 129) hx hb dX12_town_152 (by decide) ?_
  refine lv_iload_n hx hb dX12_town_129 rfl (lv_at hl 0 rfl) ?_
  refine lv_bipush (v := 8) hx hb dX12_town_130 (by decide) ?_
  refine lv_icmp_ge (tgt := 155) hx hb dX12_town_132 (by decide) (fun c9 => absurd c9 (by decide)) (fun _ => ?_)
  refine lv_aload_n hx hb dX12_town_135 rfl (lv_at hl 1 rfl) ?_
  refine va_get (ci := 12) (v := .ref (h 20)) (C := RX12) (T := TX12) (N := 58) hx hb ht iX12 hown hK hP 0 rfl rfl 35 (by decide) (ht _ k_292) (fun _ h9 => h9) rfl dX12_town_136 ?_
  refine lv_iload_n hx hb dX12_town_139 rfl (lv_at hl 0 rfl) ?_
  refine lv_iconst (v := 0) hx hb dX12_town_140 (by decide) ?_
  refine ow_zast hx hb hK hP hD hS 9 rfl (in_lit (by decide +kernel)) dX12_town_141 ?_
  clear hP hD hS
  try clear H locs
  intro f_14 H locs hP hD hS
  replace hP : va_P G vwCl [(mo, .inr (12, [.ref (h 0), .ref (h 1), .int 0, .int 0, .int 0, .int (-1), .int 0, .int 0, .int 0, .int 0, .long 0, .ref (h 2), .ref (h 3), .ref (h 4), .ref (h 5), .ref (h 6), .ref (h 7), .ref (h 8), .ref (h 9), .ref (h 10), .ref (h 11), .ref (h 12), .ref (h 13), .ref (h 14), .ref (h 15), .ref (h 16), .ref (h 17), .ref (h 18), .ref (h 19), .int 1, .int 1, .int 600, .int 0, .int 0, .int 0, .ref (h 20), .ref (h 21), .int 0, .ref (h 22), .ref (h 23), .ref (h 24), .ref (h 25), .ref (h 26), .int 0, .int 0, .ref (h 27), .ref (h 28), .ref (h 29), .ref (h 30), .ref (h 31), .int 0, .int 0, .ref (h 32), .ref (h 33), .ref (h 34), .ref (h 35), .ref (h 36), .ref (h 37)])), ((h 0), .inl (cy 1, 1720, .inl (fun _ => 0))), ((h 2), .inl (cy 0, 2, .inl (fun _ => 0))), ((h 3), .inl (cy 0, 2, .inl (fun _ => 0))), ((h 4), .inl (cy 0, 2, .inl (fun _ => 0))), ((h 5), .inl (cy 0, 2, .inl (u_1 0))), ((h 12), .inl (cy 2, 2, .inl (u_1 1))), ((h 7), .inl (cy 0, 1200, .inl (fun _ => 0))), ((h 8), .inl (cy 0, 1200, .inl (fun _ => 0))), ((h 20), .inl (cy 2, 8, .inl f_14)), ((h 21), .inl (cy 0, 8, .inl (fun _ => 0))), ((h 32), .inl (cy 0, 3, .inl (f 2))), ((h 33), .inl (cy 0, 120, .inl (fun _ => 0))), ((h 34), .inl (cy 0, 120, .inl (fun _ => 0))), ((h 35), .inl (cy 0, 24, .inl (fun _ => 0))), ((h 36), .inl (cy 2, 24, .inl (fun _ => 0))), ((h 37), .inl (cy 2, 3, .inl (fun _ => 0)))] H := hP
  replace hD : va_D A [(mo, .inr (12, [.ref (h 0), .ref (h 1), .int 0, .int 0, .int 0, .int (-1), .int 0, .int 0, .int 0, .int 0, .long 0, .ref (h 2), .ref (h 3), .ref (h 4), .ref (h 5), .ref (h 6), .ref (h 7), .ref (h 8), .ref (h 9), .ref (h 10), .ref (h 11), .ref (h 12), .ref (h 13), .ref (h 14), .ref (h 15), .ref (h 16), .ref (h 17), .ref (h 18), .ref (h 19), .int 1, .int 1, .int 600, .int 0, .int 0, .int 0, .ref (h 20), .ref (h 21), .int 0, .ref (h 22), .ref (h 23), .ref (h 24), .ref (h 25), .ref (h 26), .int 0, .int 0, .ref (h 27), .ref (h 28), .ref (h 29), .ref (h 30), .ref (h 31), .int 0, .int 0, .ref (h 32), .ref (h 33), .ref (h 34), .ref (h 35), .ref (h 36), .ref (h 37)])), ((h 0), .inl (cy 1, 1720, .inl (fun _ => 0))), ((h 2), .inl (cy 0, 2, .inl (fun _ => 0))), ((h 3), .inl (cy 0, 2, .inl (fun _ => 0))), ((h 4), .inl (cy 0, 2, .inl (fun _ => 0))), ((h 5), .inl (cy 0, 2, .inl (u_1 0))), ((h 12), .inl (cy 2, 2, .inl (u_1 1))), ((h 7), .inl (cy 0, 1200, .inl (fun _ => 0))), ((h 8), .inl (cy 0, 1200, .inl (fun _ => 0))), ((h 20), .inl (cy 2, 8, .inl f_14)), ((h 21), .inl (cy 0, 8, .inl (fun _ => 0))), ((h 32), .inl (cy 0, 3, .inl (f 2))), ((h 33), .inl (cy 0, 120, .inl (fun _ => 0))), ((h 34), .inl (cy 0, 120, .inl (fun _ => 0))), ((h 35), .inl (cy 0, 24, .inl (fun _ => 0))), ((h 36), .inl (cy 2, 24, .inl (fun _ => 0))), ((h 37), .inl (cy 2, 3, .inl (fun _ => 0)))] := hD
  refine lv_aload_n hx hb dX12_town_142 rfl (lv_at hl 1 rfl) ?_
  refine va_get (ci := 12) (v := .ref (h 21)) (C := RX12) (T := TX12) (N := 58) hx hb ht iX12 hown hK hP 0 rfl rfl 36 (by decide) (ht _ k_293) (fun _ h9 => h9) rfl dX12_town_143 ?_
  refine lv_iload_n hx hb dX12_town_146 rfl (lv_at hl 0 rfl) ?_
  refine lv_iconst (v := 0) hx hb dX12_town_147 (by decide) ?_
  refine ow_iastS hx hb hK hP hD hS 10 rfl (in_lit (by decide +kernel)) dX12_town_148 ?_
  clear hP hD hS
  try clear H locs
  intro H locs hP hD hS
  replace hP : va_P G vwCl [(mo, .inr (12, [.ref (h 0), .ref (h 1), .int 0, .int 0, .int 0, .int (-1), .int 0, .int 0, .int 0, .int 0, .long 0, .ref (h 2), .ref (h 3), .ref (h 4), .ref (h 5), .ref (h 6), .ref (h 7), .ref (h 8), .ref (h 9), .ref (h 10), .ref (h 11), .ref (h 12), .ref (h 13), .ref (h 14), .ref (h 15), .ref (h 16), .ref (h 17), .ref (h 18), .ref (h 19), .int 1, .int 1, .int 600, .int 0, .int 0, .int 0, .ref (h 20), .ref (h 21), .int 0, .ref (h 22), .ref (h 23), .ref (h 24), .ref (h 25), .ref (h 26), .int 0, .int 0, .ref (h 27), .ref (h 28), .ref (h 29), .ref (h 30), .ref (h 31), .int 0, .int 0, .ref (h 32), .ref (h 33), .ref (h 34), .ref (h 35), .ref (h 36), .ref (h 37)])), ((h 0), .inl (cy 1, 1720, .inl (fun _ => 0))), ((h 2), .inl (cy 0, 2, .inl (fun _ => 0))), ((h 3), .inl (cy 0, 2, .inl (fun _ => 0))), ((h 4), .inl (cy 0, 2, .inl (fun _ => 0))), ((h 5), .inl (cy 0, 2, .inl (u_1 0))), ((h 12), .inl (cy 2, 2, .inl (u_1 1))), ((h 7), .inl (cy 0, 1200, .inl (fun _ => 0))), ((h 8), .inl (cy 0, 1200, .inl (fun _ => 0))), ((h 20), .inl (cy 2, 8, .inl f_14)), ((h 21), .inl (cy 0, 8, .inl (fun _ => 0))), ((h 32), .inl (cy 0, 3, .inl (f 2))), ((h 33), .inl (cy 0, 120, .inl (fun _ => 0))), ((h 34), .inl (cy 0, 120, .inl (fun _ => 0))), ((h 35), .inl (cy 0, 24, .inl (fun _ => 0))), ((h 36), .inl (cy 2, 24, .inl (fun _ => 0))), ((h 37), .inl (cy 2, 3, .inl (fun _ => 0)))] H := hP
  replace hD : va_D A [(mo, .inr (12, [.ref (h 0), .ref (h 1), .int 0, .int 0, .int 0, .int (-1), .int 0, .int 0, .int 0, .int 0, .long 0, .ref (h 2), .ref (h 3), .ref (h 4), .ref (h 5), .ref (h 6), .ref (h 7), .ref (h 8), .ref (h 9), .ref (h 10), .ref (h 11), .ref (h 12), .ref (h 13), .ref (h 14), .ref (h 15), .ref (h 16), .ref (h 17), .ref (h 18), .ref (h 19), .int 1, .int 1, .int 600, .int 0, .int 0, .int 0, .ref (h 20), .ref (h 21), .int 0, .ref (h 22), .ref (h 23), .ref (h 24), .ref (h 25), .ref (h 26), .int 0, .int 0, .ref (h 27), .ref (h 28), .ref (h 29), .ref (h 30), .ref (h 31), .int 0, .int 0, .ref (h 32), .ref (h 33), .ref (h 34), .ref (h 35), .ref (h 36), .ref (h 37)])), ((h 0), .inl (cy 1, 1720, .inl (fun _ => 0))), ((h 2), .inl (cy 0, 2, .inl (fun _ => 0))), ((h 3), .inl (cy 0, 2, .inl (fun _ => 0))), ((h 4), .inl (cy 0, 2, .inl (fun _ => 0))), ((h 5), .inl (cy 0, 2, .inl (u_1 0))), ((h 12), .inl (cy 2, 2, .inl (u_1 1))), ((h 7), .inl (cy 0, 1200, .inl (fun _ => 0))), ((h 8), .inl (cy 0, 1200, .inl (fun _ => 0))), ((h 20), .inl (cy 2, 8, .inl f_14)), ((h 21), .inl (cy 0, 8, .inl (fun _ => 0))), ((h 32), .inl (cy 0, 3, .inl (f 2))), ((h 33), .inl (cy 0, 120, .inl (fun _ => 0))), ((h 34), .inl (cy 0, 120, .inl (fun _ => 0))), ((h 35), .inl (cy 0, 24, .inl (fun _ => 0))), ((h 36), .inl (cy 2, 24, .inl (fun _ => 0))), ((h 37), .inl (cy 2, 3, .inl (fun _ => 0)))] := hD
  refine lv_iinc (v := 8) (lv' := [(1, .int 8), (0, .ref mo)]) hx hb dX12_town_149 hl (k := 0) rfl (by decide) (by decide) rfl ?_
  clear hl
  try clear ls
  intro ls hl
  refine lv_goto (tgt := 129) hx hb dX12_town_152 (by decide) ?_
  refine lv_iload_n hx hb dX12_town_129 rfl (lv_at hl 0 rfl) ?_
  refine lv_bipush (v := 8) hx hb dX12_town_130 (by decide) ?_
  refine lv_icmp_ge (tgt := 155) hx hb dX12_town_132 (by decide) (fun _ => ?_) (fun c9 => absurd (by decide) c9)
  refine lv_iconst (v := 0) hx hb dX12_town_155 (by decide) ?_
  refine lv_istore_n (lv' := [(1, .int 0), (0, .ref mo)]) hx hb dX12_town_156 rfl hl (by decide) rfl ?_
  clear hl
  try clear ls
  intro ls hl
  refine lv_iload_n hx hb dX12_town_157 rfl (lv_at hl 0 rfl) ?_
  refine lv_iconst (v := 3) hx hb dX12_town_158 (by decide) ?_
  refine lv_icmp_ge (tgt := 175) hx hb dX12_town_159 (by decide) (fun c9 => absurd c9 (by decide)) (fun _ => ?_)
  refine lv_aload_n hx hb dX12_town_162 rfl (lv_at hl 1 rfl) ?_
  refine va_get (ci := 12) (v := .ref (h 32)) (C := RX12) (T := TX12) (N := 58) hx hb ht iX12 hown hK hP 0 rfl rfl 52 (by decide) (ht _ k_304) (fun _ h9 => h9) rfl dX12_town_163 ?_
  refine lv_iload_n hx hb dX12_town_166 rfl (lv_at hl 0 rfl) ?_
  refine lv_iconst (v := (-1)) hx hb dX12_town_167 (by decide) ?_
  refine ow_iast hx hb hK hP hD hS 11 rfl (in_lit (by decide +kernel)) dX12_town_168 ?_
  clear hP hD hS
  try clear H locs
  intro f_15 H locs hP hD hS
  replace hP : va_P G vwCl [(mo, .inr (12, [.ref (h 0), .ref (h 1), .int 0, .int 0, .int 0, .int (-1), .int 0, .int 0, .int 0, .int 0, .long 0, .ref (h 2), .ref (h 3), .ref (h 4), .ref (h 5), .ref (h 6), .ref (h 7), .ref (h 8), .ref (h 9), .ref (h 10), .ref (h 11), .ref (h 12), .ref (h 13), .ref (h 14), .ref (h 15), .ref (h 16), .ref (h 17), .ref (h 18), .ref (h 19), .int 1, .int 1, .int 600, .int 0, .int 0, .int 0, .ref (h 20), .ref (h 21), .int 0, .ref (h 22), .ref (h 23), .ref (h 24), .ref (h 25), .ref (h 26), .int 0, .int 0, .ref (h 27), .ref (h 28), .ref (h 29), .ref (h 30), .ref (h 31), .int 0, .int 0, .ref (h 32), .ref (h 33), .ref (h 34), .ref (h 35), .ref (h 36), .ref (h 37)])), ((h 0), .inl (cy 1, 1720, .inl (fun _ => 0))), ((h 2), .inl (cy 0, 2, .inl (fun _ => 0))), ((h 3), .inl (cy 0, 2, .inl (fun _ => 0))), ((h 4), .inl (cy 0, 2, .inl (fun _ => 0))), ((h 5), .inl (cy 0, 2, .inl (u_1 0))), ((h 12), .inl (cy 2, 2, .inl (u_1 1))), ((h 7), .inl (cy 0, 1200, .inl (fun _ => 0))), ((h 8), .inl (cy 0, 1200, .inl (fun _ => 0))), ((h 20), .inl (cy 2, 8, .inl f_14)), ((h 21), .inl (cy 0, 8, .inl (fun _ => 0))), ((h 32), .inl (cy 0, 3, .inl f_15)), ((h 33), .inl (cy 0, 120, .inl (fun _ => 0))), ((h 34), .inl (cy 0, 120, .inl (fun _ => 0))), ((h 35), .inl (cy 0, 24, .inl (fun _ => 0))), ((h 36), .inl (cy 2, 24, .inl (fun _ => 0))), ((h 37), .inl (cy 2, 3, .inl (fun _ => 0)))] H := hP
  replace hD : va_D A [(mo, .inr (12, [.ref (h 0), .ref (h 1), .int 0, .int 0, .int 0, .int (-1), .int 0, .int 0, .int 0, .int 0, .long 0, .ref (h 2), .ref (h 3), .ref (h 4), .ref (h 5), .ref (h 6), .ref (h 7), .ref (h 8), .ref (h 9), .ref (h 10), .ref (h 11), .ref (h 12), .ref (h 13), .ref (h 14), .ref (h 15), .ref (h 16), .ref (h 17), .ref (h 18), .ref (h 19), .int 1, .int 1, .int 600, .int 0, .int 0, .int 0, .ref (h 20), .ref (h 21), .int 0, .ref (h 22), .ref (h 23), .ref (h 24), .ref (h 25), .ref (h 26), .int 0, .int 0, .ref (h 27), .ref (h 28), .ref (h 29), .ref (h 30), .ref (h 31), .int 0, .int 0, .ref (h 32), .ref (h 33), .ref (h 34), .ref (h 35), .ref (h 36), .ref (h 37)])), ((h 0), .inl (cy 1, 1720, .inl (fun _ => 0))), ((h 2), .inl (cy 0, 2, .inl (fun _ => 0))), ((h 3), .inl (cy 0, 2, .inl (fun _ => 0))), ((h 4), .inl (cy 0, 2, .inl (fun _ => 0))), ((h 5), .inl (cy 0, 2, .inl (u_1 0))), ((h 12), .inl (cy 2, 2, .inl (u_1 1))), ((h 7), .inl (cy 0, 1200, .inl (fun _ => 0))), ((h 8), .inl (cy 0, 1200, .inl (fun _ => 0))), ((h 20), .inl (cy 2, 8, .inl f_14)), ((h 21), .inl (cy 0, 8, .inl (fun _ => 0))), ((h 32), .inl (cy 0, 3, .inl f_15)), ((h 33), .inl (cy 0, 120, .inl (fun _ => 0))), ((h 34), .inl (cy 0, 120, .inl (fun _ => 0))), ((h 35), .inl (cy 0, 24, .inl (fun _ => 0))), ((h 36), .inl (cy 2, 24, .inl (fun _ => 0))), ((h 37), .inl (cy 2, 3, .inl (fun _ => 0)))] := hD
  refine lv_iinc (v := 1) (lv' := [(1, .int 1), (0, .ref mo)]) hx hb dX12_town_169 hl (k := 0) rfl (by decide) (by decide) rfl ?_
  clear hl
  try clear ls
  intro ls hl
  refine lv_goto (tgt := 157) hx hb dX12_town_172 (by decide) ?_
  refine lv_iload_n hx hb dX12_town_157 rfl (lv_at hl 0 rfl) ?_
  refine lv_iconst (v := 3) hx hb dX12_town_158 (by decide) ?_
  refine lv_icmp_ge (tgt := 175) hx hb dX12_town_159 (by decide) (fun c9 => absurd c9 (by decide)) (fun _ => ?_)
  refine lv_aload_n hx hb dX12_town_162 rfl (lv_at hl 1 rfl) ?_
  refine va_get (ci := 12) (v := .ref (h 32)) (C := RX12) (T := TX12) (N := 58) hx hb ht iX12 hown hK hP 0 rfl rfl 52 (by decide) (ht _ k_304) (fun _ h9 => h9) rfl dX12_town_163 ?_
  refine lv_iload_n hx hb dX12_town_166 rfl (lv_at hl 0 rfl) ?_
  refine lv_iconst (v := (-1)) hx hb dX12_town_167 (by decide) ?_
  refine ow_iast hx hb hK hP hD hS 11 rfl (in_lit (by decide +kernel)) dX12_town_168 ?_
  clear hP hD hS
  try clear H locs
  intro f_16 H locs hP hD hS
  replace hP : va_P G vwCl [(mo, .inr (12, [.ref (h 0), .ref (h 1), .int 0, .int 0, .int 0, .int (-1), .int 0, .int 0, .int 0, .int 0, .long 0, .ref (h 2), .ref (h 3), .ref (h 4), .ref (h 5), .ref (h 6), .ref (h 7), .ref (h 8), .ref (h 9), .ref (h 10), .ref (h 11), .ref (h 12), .ref (h 13), .ref (h 14), .ref (h 15), .ref (h 16), .ref (h 17), .ref (h 18), .ref (h 19), .int 1, .int 1, .int 600, .int 0, .int 0, .int 0, .ref (h 20), .ref (h 21), .int 0, .ref (h 22), .ref (h 23), .ref (h 24), .ref (h 25), .ref (h 26), .int 0, .int 0, .ref (h 27), .ref (h 28), .ref (h 29), .ref (h 30), .ref (h 31), .int 0, .int 0, .ref (h 32), .ref (h 33), .ref (h 34), .ref (h 35), .ref (h 36), .ref (h 37)])), ((h 0), .inl (cy 1, 1720, .inl (fun _ => 0))), ((h 2), .inl (cy 0, 2, .inl (fun _ => 0))), ((h 3), .inl (cy 0, 2, .inl (fun _ => 0))), ((h 4), .inl (cy 0, 2, .inl (fun _ => 0))), ((h 5), .inl (cy 0, 2, .inl (u_1 0))), ((h 12), .inl (cy 2, 2, .inl (u_1 1))), ((h 7), .inl (cy 0, 1200, .inl (fun _ => 0))), ((h 8), .inl (cy 0, 1200, .inl (fun _ => 0))), ((h 20), .inl (cy 2, 8, .inl f_14)), ((h 21), .inl (cy 0, 8, .inl (fun _ => 0))), ((h 32), .inl (cy 0, 3, .inl f_16)), ((h 33), .inl (cy 0, 120, .inl (fun _ => 0))), ((h 34), .inl (cy 0, 120, .inl (fun _ => 0))), ((h 35), .inl (cy 0, 24, .inl (fun _ => 0))), ((h 36), .inl (cy 2, 24, .inl (fun _ => 0))), ((h 37), .inl (cy 2, 3, .inl (fun _ => 0)))] H := hP
  replace hD : va_D A [(mo, .inr (12, [.ref (h 0), .ref (h 1), .int 0, .int 0, .int 0, .int (-1), .int 0, .int 0, .int 0, .int 0, .long 0, .ref (h 2), .ref (h 3), .ref (h 4), .ref (h 5), .ref (h 6), .ref (h 7), .ref (h 8), .ref (h 9), .ref (h 10), .ref (h 11), .ref (h 12), .ref (h 13), .ref (h 14), .ref (h 15), .ref (h 16), .ref (h 17), .ref (h 18), .ref (h 19), .int 1, .int 1, .int 600, .int 0, .int 0, .int 0, .ref (h 20), .ref (h 21), .int 0, .ref (h 22), .ref (h 23), .ref (h 24), .ref (h 25), .ref (h 26), .int 0, .int 0, .ref (h 27), .ref (h 28), .ref (h 29), .ref (h 30), .ref (h 31), .int 0, .int 0, .ref (h 32), .ref (h 33), .ref (h 34), .ref (h 35), .ref (h 36), .ref (h 37)])), ((h 0), .inl (cy 1, 1720, .inl (fun _ => 0))), ((h 2), .inl (cy 0, 2, .inl (fun _ => 0))), ((h 3), .inl (cy 0, 2, .inl (fun _ => 0))), ((h 4), .inl (cy 0, 2, .inl (fun _ => 0))), ((h 5), .inl (cy 0, 2, .inl (u_1 0))), ((h 12), .inl (cy 2, 2, .inl (u_1 1))), ((h 7), .inl (cy 0, 1200, .inl (fun _ => 0))), ((h 8), .inl (cy 0, 1200, .inl (fun _ => 0))), ((h 20), .inl (cy 2, 8, .inl f_14)), ((h 21), .inl (cy 0, 8, .inl (fun _ => 0))), ((h 32), .inl (cy 0, 3, .inl f_16)), ((h 33), .inl (cy 0, 120, .inl (fun _ => 0))), ((h 34), .inl (cy 0, 120, .inl (fun _ => 0))), ((h 35), .inl (cy 0, 24, .inl (fun _ => 0))), ((h 36), .inl (cy 2, 24, .inl (fun _ => 0))), ((h 37), .inl (cy 2, 3, .inl (fun _ => 0)))] := hD
  refine lv_iinc (v := 2) (lv' := [(1, .int 2), (0, .ref mo)]) hx hb dX12_town_169 hl (k := 0) rfl (by decide) (by decide) rfl ?_
  clear hl
  try clear ls
  intro ls hl
  refine lv_goto (tgt := 157) hx hb dX12_town_172 (by decide) ?_
  refine lv_iload_n hx hb dX12_town_157 rfl (lv_at hl 0 rfl) ?_
  refine lv_iconst (v := 3) hx hb dX12_town_158 (by decide) ?_
  refine lv_icmp_ge (tgt := 175) hx hb dX12_town_159 (by decide) (fun c9 => absurd c9 (by decide)) (fun _ => ?_)
  refine lv_aload_n hx hb dX12_town_162 rfl (lv_at hl 1 rfl) ?_
  refine va_get (ci := 12) (v := .ref (h 32)) (C := RX12) (T := TX12) (N := 58) hx hb ht iX12 hown hK hP 0 rfl rfl 52 (by decide) (ht _ k_304) (fun _ h9 => h9) rfl dX12_town_163 ?_
  refine lv_iload_n hx hb dX12_town_166 rfl (lv_at hl 0 rfl) ?_
  refine lv_iconst (v := (-1)) hx hb dX12_town_167 (by decide) ?_
  refine ow_iast hx hb hK hP hD hS 11 rfl (in_lit (by decide +kernel)) dX12_town_168 ?_
  clear hP hD hS
  try clear H locs
  intro f_17 H locs hP hD hS
  replace hP : va_P G vwCl [(mo, .inr (12, [.ref (h 0), .ref (h 1), .int 0, .int 0, .int 0, .int (-1), .int 0, .int 0, .int 0, .int 0, .long 0, .ref (h 2), .ref (h 3), .ref (h 4), .ref (h 5), .ref (h 6), .ref (h 7), .ref (h 8), .ref (h 9), .ref (h 10), .ref (h 11), .ref (h 12), .ref (h 13), .ref (h 14), .ref (h 15), .ref (h 16), .ref (h 17), .ref (h 18), .ref (h 19), .int 1, .int 1, .int 600, .int 0, .int 0, .int 0, .ref (h 20), .ref (h 21), .int 0, .ref (h 22), .ref (h 23), .ref (h 24), .ref (h 25), .ref (h 26), .int 0, .int 0, .ref (h 27), .ref (h 28), .ref (h 29), .ref (h 30), .ref (h 31), .int 0, .int 0, .ref (h 32), .ref (h 33), .ref (h 34), .ref (h 35), .ref (h 36), .ref (h 37)])), ((h 0), .inl (cy 1, 1720, .inl (fun _ => 0))), ((h 2), .inl (cy 0, 2, .inl (fun _ => 0))), ((h 3), .inl (cy 0, 2, .inl (fun _ => 0))), ((h 4), .inl (cy 0, 2, .inl (fun _ => 0))), ((h 5), .inl (cy 0, 2, .inl (u_1 0))), ((h 12), .inl (cy 2, 2, .inl (u_1 1))), ((h 7), .inl (cy 0, 1200, .inl (fun _ => 0))), ((h 8), .inl (cy 0, 1200, .inl (fun _ => 0))), ((h 20), .inl (cy 2, 8, .inl f_14)), ((h 21), .inl (cy 0, 8, .inl (fun _ => 0))), ((h 32), .inl (cy 0, 3, .inl f_17)), ((h 33), .inl (cy 0, 120, .inl (fun _ => 0))), ((h 34), .inl (cy 0, 120, .inl (fun _ => 0))), ((h 35), .inl (cy 0, 24, .inl (fun _ => 0))), ((h 36), .inl (cy 2, 24, .inl (fun _ => 0))), ((h 37), .inl (cy 2, 3, .inl (fun _ => 0)))] H := hP
  replace hD : va_D A [(mo, .inr (12, [.ref (h 0), .ref (h 1), .int 0, .int 0, .int 0, .int (-1), .int 0, .int 0, .int 0, .int 0, .long 0, .ref (h 2), .ref (h 3), .ref (h 4), .ref (h 5), .ref (h 6), .ref (h 7), .ref (h 8), .ref (h 9), .ref (h 10), .ref (h 11), .ref (h 12), .ref (h 13), .ref (h 14), .ref (h 15), .ref (h 16), .ref (h 17), .ref (h 18), .ref (h 19), .int 1, .int 1, .int 600, .int 0, .int 0, .int 0, .ref (h 20), .ref (h 21), .int 0, .ref (h 22), .ref (h 23), .ref (h 24), .ref (h 25), .ref (h 26), .int 0, .int 0, .ref (h 27), .ref (h 28), .ref (h 29), .ref (h 30), .ref (h 31), .int 0, .int 0, .ref (h 32), .ref (h 33), .ref (h 34), .ref (h 35), .ref (h 36), .ref (h 37)])), ((h 0), .inl (cy 1, 1720, .inl (fun _ => 0))), ((h 2), .inl (cy 0, 2, .inl (fun _ => 0))), ((h 3), .inl (cy 0, 2, .inl (fun _ => 0))), ((h 4), .inl (cy 0, 2, .inl (fun _ => 0))), ((h 5), .inl (cy 0, 2, .inl (u_1 0))), ((h 12), .inl (cy 2, 2, .inl (u_1 1))), ((h 7), .inl (cy 0, 1200, .inl (fun _ => 0))), ((h 8), .inl (cy 0, 1200, .inl (fun _ => 0))), ((h 20), .inl (cy 2, 8, .inl f_14)), ((h 21), .inl (cy 0, 8, .inl (fun _ => 0))), ((h 32), .inl (cy 0, 3, .inl f_17)), ((h 33), .inl (cy 0, 120, .inl (fun _ => 0))), ((h 34), .inl (cy 0, 120, .inl (fun _ => 0))), ((h 35), .inl (cy 0, 24, .inl (fun _ => 0))), ((h 36), .inl (cy 2, 24, .inl (fun _ => 0))), ((h 37), .inl (cy 2, 3, .inl (fun _ => 0)))] := hD
  refine lv_iinc (v := 3) (lv' := [(1, .int 3), (0, .ref mo)]) hx hb dX12_town_169 hl (k := 0) rfl (by decide) (by decide) rfl ?_
  clear hl
  try clear ls
  intro ls hl
  refine lv_goto (tgt := 157) hx hb dX12_town_172 (by decide) ?_
  refine lv_iload_n hx hb dX12_town_157 rfl (lv_at hl 0 rfl) ?_
  refine lv_iconst (v := 3) hx hb dX12_town_158 (by decide) ?_
  refine lv_icmp_ge (tgt := 175) hx hb dX12_town_159 (by decide) (fun _ => ?_) (fun c9 => absurd (by decide) c9)
  refine lv_aload_n hx hb dX12_town_175 rfl (lv_at hl 1 rfl) ?_
  refine va_get (ci := 12) (v := .ref (h 3)) (C := RX12) (T := TX12) (N := 58) hx hb ht iX12 hown hK hP 0 rfl rfl 12 (by decide) (ht _ k_270) (fun _ h9 => h9) rfl dX12_town_176 ?_
  refine lv_aload_n hx hb dX12_town_179 rfl (lv_at hl 1 rfl) ?_
  refine va_get (ci := 12) (v := .int 1) (C := RX12) (T := TX12) (N := 58) hx hb ht iX12 hown hK hP 0 rfl rfl 29 (by decide) (ht _ k_315) (fun _ h9 => h9) rfl dX12_town_180 ?_
  refine va_iald hx hb hK hP 3 0 rfl rfl (in_lit (by decide +kernel)) dX12_town_183 ?_
  refine ow_top 0 rfl ?_
  refine W.widen (k := 0) (n := 0) (Nat.le_of_ble_eq_true rfl) (Nat.le_of_ble_eq_true rfl) ?_
  exact W.iret (v := 0) hx hb hr (fun t ht9 hW => ⟨⟨0, (), rfl, ⟨rfl, trivial⟩, trivial⟩, hS.F ht9⟩) hS.2.2 dX12_town_184
