theorem k_716 : (Cond.code yX9_hasLockNamed cX9_hasLockNamed 4 (some .boolean)) ∈ TBg := tb_mem 635 (by decide +kernel) (by decide +kernel)
theorem k_717 : (Cond.methodLink RX6 112 yX9_hasLockNamed) ∈ TBg := tb_mem 632 (by decide +kernel) (by decide +kernel)
theorem k_718 : (Cond.instanceMethod yX9_hasLockNamed) ∈ TBg := tb_mem 633 (by decide +kernel) (by decide +kernel)
theorem k_719 : (Cond.selects RX9 yX9_hasLockNamed yX9_hasLockNamed) ∈ TBg := tb_mem 634 (by decide +kernel) (by decide +kernel)
theorem k_720 : (Cond.code yX9_clear cX9_clear 2 none) ∈ TBg := tb_mem 518 (by decide +kernel) (by decide +kernel)
theorem k_721 : (Cond.methodLink RX6 32 yX9_clear) ∈ TBg := tb_mem 515 (by decide +kernel) (by decide +kernel)
theorem k_722 : (Cond.instanceMethod yX9_clear) ∈ TBg := tb_mem 516 (by decide +kernel) (by decide +kernel)
theorem k_723 : (Cond.selects RX9 yX9_clear yX9_clear) ∈ TBg := tb_mem 517 (by decide +kernel) (by decide +kernel)
theorem k_724 : (Cond.code yX9_sweetenUntold cX9_sweetenUntold 2 none) ∈ TBg := tb_mem 675 (by decide +kernel) (by decide +kernel)
theorem k_725 : (Cond.methodLink RX6 60 yX9_sweetenUntold) ∈ TBg := tb_mem 672 (by decide +kernel) (by decide +kernel)
theorem k_726 : (Cond.instanceMethod yX9_sweetenUntold) ∈ TBg := tb_mem 673 (by decide +kernel) (by decide +kernel)
theorem k_727 : (Cond.selects RX9 yX9_sweetenUntold yX9_sweetenUntold) ∈ TBg := tb_mem 674 (by decide +kernel) (by decide +kernel)
theorem k_728 : (Cond.code yX6_readTune cX6_readTune 1 (some .boolean)) ∈ TBg := tb_mem 599 (by decide +kernel) (by decide +kernel)
theorem k_729 : (Cond.methodLink RX6 43 yX6_readTune) ∈ TBg := tb_mem 596 (by decide +kernel) (by decide +kernel)
theorem k_730 : (Cond.instanceMethod yX6_readTune) ∈ TBg := tb_mem 598 (by decide +kernel) (by decide +kernel)
theorem k_731 : (Cond.selects RX6 yX6_readTune yX6_readTune) ∈ TBg := tb_mem 7 (by decide +kernel) (by decide +kernel)
theorem k_732 : (Cond.code yX6_readLock cX6_readLock 2 (some .boolean)) ∈ TBg := tb_mem 631 (by decide +kernel) (by decide +kernel)
theorem k_733 : (Cond.methodLink RX6 47 yX6_readLock) ∈ TBg := tb_mem 628 (by decide +kernel) (by decide +kernel)
theorem k_734 : (Cond.instanceMethod yX6_readLock) ∈ TBg := tb_mem 630 (by decide +kernel) (by decide +kernel)
theorem k_735 : (Cond.selects RX6 yX6_readLock yX6_readLock) ∈ TBg := tb_mem 13 (by decide +kernel) (by decide +kernel)
theorem k_736 : (Cond.code yX6_readSweet cX6_readSweet 3 (some .boolean)) ∈ TBg := tb_mem 671 (by decide +kernel) (by decide +kernel)
theorem k_737 : (Cond.methodLink RX6 50 yX6_readSweet) ∈ TBg := tb_mem 668 (by decide +kernel) (by decide +kernel)
theorem k_738 : (Cond.instanceMethod yX6_readSweet) ∈ TBg := tb_mem 670 (by decide +kernel) (by decide +kernel)
theorem k_739 : (Cond.selects RX6 yX6_readSweet yX6_readSweet) ∈ TBg := tb_mem 21 (by decide +kernel) (by decide +kernel)
theorem dX6_readLock_0 : decode cX6_readLock 0 = .ok (.aload_n 0, 1) := by decide +kernel
theorem dX6_readLock_1 : decode cX6_readLock 1 = .ok (.getfield 28, 3) := by decide +kernel
theorem dX6_readLock_4 : decode cX6_readLock 4 = .ok (.getfield 109, 3) := by decide +kernel
theorem dX6_readLock_7 : decode cX6_readLock 7 = .ok (.bipush 8, 2) := by decide +kernel
theorem dX6_readLock_9 : decode cX6_readLock 9 = .ok (.if_icmp .lt 8, 3) := by decide +kernel
theorem dX6_readLock_17 : decode cX6_readLock 17 = .ok (.aload_n 0, 1) := by decide +kernel
theorem dX6_readLock_18 : decode cX6_readLock 18 = .ok (.invokevirtual 37, 3) := by decide +kernel
theorem dX6_readLock_21 : decode cX6_readLock 21 = .ok (.aload_n 0, 1) := by decide +kernel
theorem dX6_readLock_22 : decode cX6_readLock 22 = .ok (.getfield 40, 3) := by decide +kernel
theorem dX6_readLock_25 : decode cX6_readLock 25 = .ok (.bipush 15, 2) := by decide +kernel
theorem dX6_readLock_27 : decode cX6_readLock 27 = .ok (.if_icmp .eq 8, 3) := by decide +kernel
theorem dX6_readLock_35 : decode cX6_readLock 35 = .ok (.aload_n 0, 1) := by decide +kernel
theorem dX6_readLock_36 : decode cX6_readLock 36 = .ok (.getfield 28, 3) := by decide +kernel
theorem dX6_readLock_39 : decode cX6_readLock 39 = .ok (.aload_n 0, 1) := by decide +kernel
theorem dX6_readLock_40 : decode cX6_readLock 40 = .ok (.getfield 66, 3) := by decide +kernel
theorem dX6_readLock_43 : decode cX6_readLock 43 = .ok (.invokevirtual 112, 3) := by decide +kernel
theorem dX6_readLock_46 : decode cX6_readLock 46 = .ok (.ifCond .eq 9, 3) := by decide +kernel
theorem dX6_readLock_55 : decode cX6_readLock 55 = .ok (.aload_n 0, 1) := by decide +kernel
theorem dX6_readLock_56 : decode cX6_readLock 56 = .ok (.getfield 28, 3) := by decide +kernel
theorem dX6_readLock_59 : decode cX6_readLock 59 = .ok (.getfield 116, 3) := by decide +kernel
theorem dX6_readLock_62 : decode cX6_readLock 62 = .ok (.aload_n 0, 1) := by decide +kernel
theorem dX6_readLock_63 : decode cX6_readLock 63 = .ok (.getfield 28, 3) := by decide +kernel
theorem dX6_readLock_66 : decode cX6_readLock 66 = .ok (.getfield 109, 3) := by decide +kernel
theorem dX6_readLock_69 : decode cX6_readLock 69 = .ok (.aaload, 1) := by decide +kernel
theorem dX6_readLock_70 : decode cX6_readLock 70 = .ok (.astore_n 1, 1) := by decide +kernel
theorem dX6_readLock_71 : decode cX6_readLock 71 = .ok (.aload_n 1, 1) := by decide +kernel
theorem dX6_readLock_72 : decode cX6_readLock 72 = .ok (.aload_n 0, 1) := by decide +kernel
theorem dX6_readLock_73 : decode cX6_readLock 73 = .ok (.getfield 66, 3) := by decide +kernel
theorem dX6_readLock_76 : decode cX6_readLock 76 = .ok (.putfield 120, 3) := by decide +kernel
theorem dX6_readLock_79 : decode cX6_readLock 79 = .ok (.aload_n 0, 1) := by decide +kernel
theorem dX6_readLock_80 : decode cX6_readLock 80 = .ok (.invokevirtual 37, 3) := by decide +kernel
theorem dX6_readLock_83 : decode cX6_readLock 83 = .ok (.aload_n 0, 1) := by decide +kernel
theorem dX6_readLock_84 : decode cX6_readLock 84 = .ok (.iconst 4, 1) := by decide +kernel
theorem dX6_readLock_85 : decode cX6_readLock 85 = .ok (.invokevirtual 82, 3) := by decide +kernel
theorem dX6_readLock_88 : decode cX6_readLock 88 = .ok (.ifCond .ne 5, 3) := by decide +kernel
theorem dX6_readLock_93 : decode cX6_readLock 93 = .ok (.aload_n 1, 1) := by decide +kernel
theorem dX6_readLock_94 : decode cX6_readLock 94 = .ok (.aload_n 0, 1) := by decide +kernel
theorem dX6_readLock_95 : decode cX6_readLock 95 = .ok (.getfield 98, 3) := by decide +kernel
theorem dX6_readLock_98 : decode cX6_readLock 98 = .ok (.putfield 125, 3) := by decide +kernel
theorem dX6_readLock_101 : decode cX6_readLock 101 = .ok (.aload_n 0, 1) := by decide +kernel
theorem dX6_readLock_102 : decode cX6_readLock 102 = .ok (.iconst 0, 1) := by decide +kernel
theorem dX6_readLock_103 : decode cX6_readLock 103 = .ok (.bipush 20, 2) := by decide +kernel
theorem dX6_readLock_105 : decode cX6_readLock 105 = .ok (.invokevirtual 101, 3) := by decide +kernel
theorem dX6_readLock_108 : decode cX6_readLock 108 = .ok (.ifCond .eq 11, 3) := by decide +kernel
theorem dX6_readLock_119 : decode cX6_readLock 119 = .ok (.iconst 0, 1) := by decide +kernel
theorem dX6_readLock_120 : decode cX6_readLock 120 = .ok (.ireturn, 1) := by decide +kernel
theorem dX6_readLock_111 : decode cX6_readLock 111 = .ok (.aload_n 0, 1) := by decide +kernel
theorem dX6_readLock_112 : decode cX6_readLock 112 = .ok (.iconst 5, 1) := by decide +kernel
theorem dX6_readLock_113 : decode cX6_readLock 113 = .ok (.invokevirtual 82, 3) := by decide +kernel
theorem dX6_readLock_116 : decode cX6_readLock 116 = .ok (.ifCond .ne 5, 3) := by decide +kernel
theorem dX6_readLock_121 : decode cX6_readLock 121 = .ok (.aload_n 1, 1) := by decide +kernel
theorem dX6_readLock_122 : decode cX6_readLock 122 = .ok (.aload_n 0, 1) := by decide +kernel
theorem dX6_readLock_123 : decode cX6_readLock 123 = .ok (.getfield 28, 3) := by decide +kernel
theorem dX6_readLock_126 : decode cX6_readLock 126 = .ok (.getfield 128, 3) := by decide +kernel
theorem dX6_readLock_129 : decode cX6_readLock 129 = .ok (.getfield 132, 3) := by decide +kernel
theorem dX6_readLock_132 : decode cX6_readLock 132 = .ok (.putfield 135, 3) := by decide +kernel
theorem dX6_readLock_135 : decode cX6_readLock 135 = .ok (.aload_n 0, 1) := by decide +kernel
theorem dX6_readLock_136 : decode cX6_readLock 136 = .ok (.iconst 0, 1) := by decide +kernel
theorem dX6_readLock_137 : decode cX6_readLock 137 = .ok (.invokevirtual 138, 3) := by decide +kernel
theorem dX6_readLock_140 : decode cX6_readLock 140 = .ok (.ifCond .eq 12, 3) := by decide +kernel
theorem dX6_readLock_152 : decode cX6_readLock 152 = .ok (.iconst 0, 1) := by decide +kernel
theorem dX6_readLock_153 : decode cX6_readLock 153 = .ok (.ireturn, 1) := by decide +kernel
theorem dX6_readLock_143 : decode cX6_readLock 143 = .ok (.aload_n 0, 1) := by decide +kernel
theorem dX6_readLock_144 : decode cX6_readLock 144 = .ok (.bipush 59, 2) := by decide +kernel
theorem dX6_readLock_146 : decode cX6_readLock 146 = .ok (.invokevirtual 82, 3) := by decide +kernel
theorem dX6_readLock_149 : decode cX6_readLock 149 = .ok (.ifCond .ne 5, 3) := by decide +kernel
theorem dX6_readLock_154 : decode cX6_readLock 154 = .ok (.aload_n 1, 1) := by decide +kernel
theorem dX6_readLock_155 : decode cX6_readLock 155 = .ok (.aload_n 0, 1) := by decide +kernel
theorem dX6_readLock_156 : decode cX6_readLock 156 = .ok (.getfield 28, 3) := by decide +kernel
theorem dX6_readLock_159 : decode cX6_readLock 159 = .ok (.getfield 128, 3) := by decide +kernel
theorem dX6_readLock_162 : decode cX6_readLock 162 = .ok (.getfield 132, 3) := by decide +kernel
theorem dX6_readLock_165 : decode cX6_readLock 165 = .ok (.putfield 141, 3) := by decide +kernel
theorem dX6_readLock_168 : decode cX6_readLock 168 = .ok (.aload_n 0, 1) := by decide +kernel
theorem dX6_readLock_169 : decode cX6_readLock 169 = .ok (.getfield 28, 3) := by decide +kernel
theorem dX6_readLock_172 : decode cX6_readLock 172 = .ok (.dup, 1) := by decide +kernel
theorem dX6_readLock_173 : decode cX6_readLock 173 = .ok (.getfield 109, 3) := by decide +kernel
theorem dX6_readLock_176 : decode cX6_readLock 176 = .ok (.iconst 1, 1) := by decide +kernel
theorem dX6_readLock_177 : decode cX6_readLock 177 = .ok (.iadd, 1) := by decide +kernel
theorem dX6_readLock_178 : decode cX6_readLock 178 = .ok (.putfield 109, 3) := by decide +kernel
theorem dX6_readLock_181 : decode cX6_readLock 181 = .ok (.iconst 1, 1) := by decide +kernel
theorem dX6_readLock_182 : decode cX6_readLock 182 = .ok (.ireturn, 1) := by decide +kernel
theorem dX6_readLock_91 : decode cX6_readLock 91 = .ok (.iconst 0, 1) := by decide +kernel
theorem dX6_readLock_92 : decode cX6_readLock 92 = .ok (.ireturn, 1) := by decide +kernel
theorem dX6_readLock_49 : decode cX6_readLock 49 = .ok (.aload_n 0, 1) := by decide +kernel
theorem dX6_readLock_50 : decode cX6_readLock 50 = .ok (.iconst 3, 1) := by decide +kernel
theorem dX6_readLock_51 : decode cX6_readLock 51 = .ok (.invokevirtual 74, 3) := by decide +kernel
theorem dX6_readLock_54 : decode cX6_readLock 54 = .ok (.ireturn, 1) := by decide +kernel
theorem dX6_readLock_30 : decode cX6_readLock 30 = .ok (.aload_n 0, 1) := by decide +kernel
theorem dX6_readLock_31 : decode cX6_readLock 31 = .ok (.invokevirtual 53, 3) := by decide +kernel
theorem dX6_readLock_34 : decode cX6_readLock 34 = .ok (.ireturn, 1) := by decide +kernel
theorem dX6_readLock_12 : decode cX6_readLock 12 = .ok (.aload_n 0, 1) := by decide +kernel
theorem dX6_readLock_13 : decode cX6_readLock 13 = .ok (.invokevirtual 53, 3) := by decide +kernel
theorem dX6_readLock_16 : decode cX6_readLock 16 = .ok (.ireturn, 1) := by decide +kernel
theorem dX6_readTown_0 : decode cX6_readTown 0 = .ok (.aload_n 0, 1) := by decide +kernel
theorem dX6_readTown_1 : decode cX6_readTown 1 = .ok (.getfield 28, 3) := by decide +kernel
theorem dX6_readTown_4 : decode cX6_readTown 4 = .ok (.invokevirtual 32, 3) := by decide +kernel
theorem dX6_readTown_7 : decode cX6_readTown 7 = .ok (.aload_n 0, 1) := by decide +kernel
theorem dX6_readTown_8 : decode cX6_readTown 8 = .ok (.invokevirtual 37, 3) := by decide +kernel
theorem dX6_readTown_11 : decode cX6_readTown 11 = .ok (.iconst 1, 1) := by decide +kernel
theorem dX6_readTown_12 : decode cX6_readTown 12 = .ok (.istore_n 1, 1) := by decide +kernel
theorem dX6_readTown_13 : decode cX6_readTown 13 = .ok (.iconst 0, 1) := by decide +kernel
theorem dX6_readTown_14 : decode cX6_readTown 14 = .ok (.istore_n 2, 1) := by decide +kernel
theorem dX6_readTown_15 : decode cX6_readTown 15 = .ok (.iload_n 2, 1) := by decide +kernel
theorem dX6_readTown_16 : decode cX6_readTown 16 = .ok (.sipush 1700, 3) := by decide +kernel
theorem dX6_readTown_19 : decode cX6_readTown 19 = .ok (.if_icmp .ge 80, 3) := by decide +kernel
theorem dX6_readTown_99 : decode cX6_readTown 99 = .ok (.aload_n 0, 1) := by decide +kernel
theorem dX6_readTown_100 : decode cX6_readTown 100 = .ok (.getfield 56, 3) := by decide +kernel
theorem dX6_readTown_103 : decode cX6_readTown 103 = .ok (.ifCond .ne 10, 3) := by decide +kernel
theorem dX6_readTown_113 : decode cX6_readTown 113 = .ok (.iload_n 1, 1) := by decide +kernel
theorem dX6_readTown_114 : decode cX6_readTown 114 = .ok (.ireturn, 1) := by decide +kernel
theorem dX6_readTown_106 : decode cX6_readTown 106 = .ok (.aload_n 0, 1) := by decide +kernel
theorem dX6_readTown_107 : decode cX6_readTown 107 = .ok (.getfield 28, 3) := by decide +kernel
theorem dX6_readTown_110 : decode cX6_readTown 110 = .ok (.invokevirtual 60, 3) := by decide +kernel
theorem dX6_readTown_22 : decode cX6_readTown 22 = .ok (.iload_n 1, 1) := by decide +kernel
theorem dX6_readTown_23 : decode cX6_readTown 23 = .ok (.ifCond .eq 76, 3) := by decide +kernel
theorem dX6_readTown_26 : decode cX6_readTown 26 = .ok (.aload_n 0, 1) := by decide +kernel
theorem dX6_readTown_27 : decode cX6_readTown 27 = .ok (.getfield 40, 3) := by decide +kernel
theorem dX6_readTown_30 : decode cX6_readTown 30 = .ok (.bipush 17, 2) := by decide +kernel
theorem dX6_readTown_32 : decode cX6_readTown 32 = .ok (.if_icmp .eq 67, 3) := by decide +kernel
theorem dX6_readTown_35 : decode cX6_readTown 35 = .ok (.aload_n 0, 1) := by decide +kernel
theorem dX6_readTown_36 : decode cX6_readTown 36 = .ok (.getfield 40, 3) := by decide +kernel
theorem dX6_readTown_39 : decode cX6_readTown 39 = .ok (.tableswitch 49 0 2 #[25, 33, 41], 25) := by decide +kernel
theorem dX6_readTown_88 : decode cX6_readTown 88 = .ok (.aload_n 0, 1) := by decide +kernel
theorem dX6_readTown_89 : decode cX6_readTown 89 = .ok (.invokevirtual 53, 3) := by decide +kernel
theorem dX6_readTown_92 : decode cX6_readTown 92 = .ok (.istore_n 1, 1) := by decide +kernel
theorem dX6_readTown_93 : decode cX6_readTown 93 = .ok (.iinc 2 1, 3) := by decide +kernel
theorem dX6_readTown_96 : decode cX6_readTown 96 = .ok (.goto (-81), 3) := by decide +kernel
theorem dX6_readTown_64 : decode cX6_readTown 64 = .ok (.aload_n 0, 1) := by decide +kernel
theorem dX6_readTown_65 : decode cX6_readTown 65 = .ok (.invokevirtual 43, 3) := by decide +kernel
theorem dX6_readTown_68 : decode cX6_readTown 68 = .ok (.istore_n 1, 1) := by decide +kernel
theorem dX6_readTown_69 : decode cX6_readTown 69 = .ok (.goto 24, 3) := by decide +kernel
theorem dX6_readTown_72 : decode cX6_readTown 72 = .ok (.aload_n 0, 1) := by decide +kernel
theorem dX6_readTown_73 : decode cX6_readTown 73 = .ok (.invokevirtual 47, 3) := by decide +kernel
theorem dX6_readTown_76 : decode cX6_readTown 76 = .ok (.istore_n 1, 1) := by decide +kernel
theorem dX6_readTown_77 : decode cX6_readTown 77 = .ok (.goto 16, 3) := by decide +kernel
theorem dX6_readTown_80 : decode cX6_readTown 80 = .ok (.aload_n 0, 1) := by decide +kernel
theorem dX6_readTown_81 : decode cX6_readTown 81 = .ok (.invokevirtual 50, 3) := by decide +kernel
theorem dX6_readTown_84 : decode cX6_readTown 84 = .ok (.istore_n 1, 1) := by decide +kernel
theorem dX6_readTown_85 : decode cX6_readTown 85 = .ok (.goto 8, 3) := by decide +kernel
set_option maxHeartbeats 4000000 in
set_option maxRecDepth 100000 in
theorem r_readLock (l : Launch) (G : va_G) (cy : Nat → ClassId) (sz : Nat) (tq qq wq : Nat) (fo : Option Nat) (L : List Nat) (K : Nat → Nat) (R : Nat → Nat → Nat) (T : Int) (I E : Nat → Nat → Int32) (J B : Nat → Nat → Int64) (this : Nat)  (hRT : RT L K R) (hI : IV T L K I) (hE : EV L K E) (hthis1 : this ∈ L) (hthis2 : K this = 12) : Met l yX6_readLock (.code yX6_readLock cX6_readLock 2 (some .boolean) :: TBg) ({ frames := 47, cells := 0, slots := 0, locals := 3008 }) (va_Pc [.ref this] (EnX G cy (WC cy L K R I J E B) sz tq qq wq fo (va_A (WC cy L K R I J E B) sz))) (va_Qi (fun (r : Int32) (u : (Nat → Nat → Int32) × (Nat → Nat → Int64) × (Nat → Nat → Int32) × (Nat → Nat → Int64)) => IV T L K u.1 ∧ EV L K u.2.2.1 ∧ FI [(1, 5), (1, 7), (5, 1), (5, 2), (5, 3), (6, 2), (12, 3), (12, 4), (12, 5), (12, 6), (12, 9), (12, 10)] K I u.1 ∧ ((r.toInt = 0 ∨ r.toInt = 1))) (fun u t => Ex G (va_A (WC cy L K R I J E B) sz) (WC cy L K R u.1 u.2.1 u.2.2.1 u.2.2.2) t) (va_A (WC cy L K R I J E B) sz)) 0 0 (va_A (WC cy L K R I J E B) sz) := by
  have hthis : this ∈ L ∧ K this = 12 := ⟨hthis1, hthis2⟩
  refine Met.ofW (cc := cX6_readLock) (maxL := 2) (ret := (some .boolean)) (by decide) rfl ?_
  intro p e s m args below meth c s₁ B9 hml hv9
  obtain ⟨rfl, ⟨hsz, hP, hK, hD0, hN⟩, hX⟩ := hv9
  have hx := B9.exec
  have hb := B9.bytes
  have hr := B9.returns
  have hts := atoms_spec (ws := .code yX6_readLock cX6_readLock 2 (some .boolean) :: TBg) B9.pre
  have ht : ∀ w ∈ TBg, w.before _ s = true := fun w h => hts w (List.mem_cons_of_mem _ h)
  have hown : s.vm.findClass RX6 = some m.cls := findClass_of_methodNamed B9.named
  have hlocks := B9.notSynchronized
  subst hsz
  have hD := hD0.self (sz := s.heap.size)
  generalize hAe : va_A (WC cy L K R I J E B) s.heap.size = A at hD hX ⊢
  have hA : ∀ q : Nat, s.heap.size ≤ q → A q := fun q h => by rw [← hAe]; exact Or.inr h
  have hS : va_S A s.heap s.heap [] := va_S.rf
  have hl := lv_entry ([.ref this]) (n := 2) (Nat.le_of_ble_eq_true rfl)
  rw [lg_entry_eq]
  generalize (lg_sl ([.ref this]) ++ List.replicate (2 - (lg_sl ([.ref this])).length) Slot.unset).toArray = ls at hl ⊢
  have hl : lv_has ls 2 [(0, .ref this)] := hl
  have z0 : (0 : Int32).toInt = 0 := by decide
  have z1 : (1 : Int32).toInt = 1 := by decide
  have z2 : (3 : Int32).toInt = 3 := by decide
  have z3 : (4 : Int32).toInt = 4 := by decide
  have z4 : (5 : Int32).toInt = 5 := by decide
  have z5 : (8 : Int32).toInt = 8 := by decide
  have z6 : (15 : Int32).toInt = 15 := by decide
  have z7 : (20 : Int32).toInt = 20 := by decide
  have z8 : (59 : Int32).toInt = 59 := by decide
  have hC_0 : FI [(1, 5), (1, 7), (5, 1), (5, 2), (5, 3), (6, 2), (12, 3), (12, 4), (12, 5), (12, 6), (12, 9), (12, 10)] K I I := FI.rf
  refine lv_aload_n hx hb dX6_readLock_0 rfl (lv_at hl 0 rfl) ?_
  refine cg_12_2_6 hx hb ht hown hK hN hP hthis.1 hthis.2 dX6_readLock_1 ?_
  have hm_1 : (R this 2) ∈ L ∧ K (R this 2) = 1 := RT.o hRT hthis.1 hthis.2 2 (by decide)
  refine cg_1_5_6 hx hb ht hown hK hN hP hm_1.1 hm_1.2 dX6_readLock_4 ?_
  have q_2 : 0 ≤ (I (R this 2) 5).toInt ∧ (I (R this 2) 5).toInt ≤ 8 := IV.rd hI hm_1.1 hm_1.2 5
  refine lv_bipush (v := 8) hx hb dX6_readLock_7 (by decide) ?_
  refine lv_icmp_lt (tgt := 17) hx hb dX6_readLock_9 (by decide) (fun c_3 => ?_) (fun c_3 => ?_)
  · have q_4 : (I (R this 2) 5).toInt < (8 : Int32).toInt := (ow_lt _ _).mp c_3
    refine lv_aload_n hx hb dX6_readLock_17 rfl (lv_at hl 0 rfl) ?_
    have hFc := fr_free hD hS hA
    refine va_callv (va_runV (As := []) (rest := []) ⟨hx, hb, hml, hown, ht⟩ (r_takeToken l G cy _ tq qq wq fo L K R T I E J B this hRT hI hE hthis.1 hthis.2) (cwV 0 ht (gv k_659 k_660 k_661 k_633 k_658) rfl rfl rfl (by decide +kernel) ⟨Nat.le_of_ble_eq_true rfl, Nat.le_of_ble_eq_true rfl⟩) ⟨EnX.blind, cr_12 hK hP hthis.1 hthis.2, fun U hU hW => ⟨rfl, En.of hU hW hP hK hD hN, XK.of hX hS hFc hU hW⟩⟩ rfl rfl hl.1 rfl (lv_room (Nat.le_of_ble_eq_true rfl)) dX6_readLock_18 ⟨Nat.le_of_ble_eq_true rfl, Nat.le_of_ble_eq_true rfl⟩) hS (fun q _ h => hFc q h) hFc (fun u_5 t9 H locs ht9 hvm hw hB hz1 hk1 hS => ?_)
    obtain ⟨I5, J5, E5, B5⟩ := u_5
    obtain ⟨hP1, hD1⟩ := hB
    rw [ht9] at hP1
    clear hI hE
    obtain ⟨hI, hE, xu_5I, wu_5⟩ := hw
    dsimp only at hI hE xu_5I wu_5
    have hP : va_P G vwCl (WC cy L K R I5 J5 E5 B5) H := hP1
    have hD : va_D A (WC cy L K R I5 J5 E5 B5) := hD1.weaken (fun _ _ _ h => hFc _ h)
    clear hFc hk1 hz1 hP1 hD1
    replace hC_0 := FI.tr hC_0 xu_5I (by decide)
    replace wu_5 : ((I5 this 4).toInt ≠ 16 ∨ 0 ≤ (I5 this 6).toInt) := by
      have h9 : ((I5 this 4).toInt ≠ 16 ∨ 0 ≤ (I5 this 6).toInt) := wu_5
      exact h9
    refine lv_aload_n hx hb dX6_readLock_21 rfl (lv_at hl 0 rfl) ?_
    refine cg_12_4_6 hx hb ht hown hK hN hP hthis.1 hthis.2 dX6_readLock_22 ?_
    refine lv_bipush (v := 15) hx hb dX6_readLock_25 (by decide) ?_
    refine lv_icmp_eq (tgt := 35) hx hb dX6_readLock_27 (by decide) (fun c_6 => ?_) (fun c_6 => ?_)
    · have q_7 : (I5 this 4).toInt = (15 : Int32).toInt := (ow_eq _ _).mp c_6
      refine lv_aload_n hx hb dX6_readLock_35 rfl (lv_at hl 0 rfl) ?_
      refine cg_12_2_6 hx hb ht hown hK hN hP hthis.1 hthis.2 dX6_readLock_36 ?_
      refine lv_aload_n hx hb dX6_readLock_39 rfl (lv_at hl 0 rfl) ?_
      refine cg_12_7_6 hx hb ht hown hK hN hP hthis.1 hthis.2 dX6_readLock_40 ?_
      refine lv_topl (fun v_8 ev_8 => ?_)
      have hFc := fr_new hS hA
      refine va_calli (va_runV (As := [.long v_8]) (rest := []) ⟨hx, hb, hml, hown, ht⟩ (c_lockNamed l G cy _ L K R T I5 E5 J5 B5 (R this 2) v_8 hRT hI hE hm_1.1 hm_1.2) (cwV 1 ht (gv k_717 k_718 k_719 k_461 k_716) rfl rfl rfl (by decide +kernel) ⟨Nat.le_of_ble_eq_true rfl, Nat.le_of_ble_eq_true rfl⟩) ⟨En.blind, cr_1 hK hP hm_1.1 hm_1.2, fun U hU hW => ⟨rfl, En.of hU hW hP hK hD hN⟩⟩ rfl rfl hl.1 rfl (lv_room (Nat.le_of_ble_eq_true rfl)) dX6_readLock_43 ⟨Nat.le_of_ble_eq_true rfl, Nat.le_of_ble_eq_true rfl⟩) hS (fun q _ h => hFc q h) hFc (fun r_u_9 u_9 t9 H locs ht9 hvm hw hB hz1 hk1 hS => ?_)
      have hP := fr_keep hP hk1
      have wu_9 := hw
      clear hFc hk1 hz1 hB hw
      refine lv_if_eq (tgt := 55) hx hb dX6_readLock_46 (by decide) (fun c_10 => ?_) (fun c_10 => ?_)
      · have q_11 : r_u_9.toInt = (0 : Int32).toInt := (ow_eq _ _).mp c_10
        refine lv_aload_n hx hb dX6_readLock_55 rfl (lv_at hl 0 rfl) ?_
        refine cg_12_2_6 hx hb ht hown hK hN hP hthis.1 hthis.2 dX6_readLock_56 ?_
        refine cg_1_4_6 hx hb ht hown hK hN hP hm_1.1 hm_1.2 dX6_readLock_59 ?_
        have hm_12 : (R (R this 2) 4) ∈ L ∧ K (R (R this 2) 4) = 32 := RT.o hRT hm_1.1 hm_1.2 4 (by decide)
        refine lv_aload_n hx hb dX6_readLock_62 rfl (lv_at hl 0 rfl) ?_
        refine cg_12_2_6 hx hb ht hown hK hN hP hthis.1 hthis.2 dX6_readLock_63 ?_
        refine cg_1_5_6 hx hb ht hown hK hN hP hm_1.1 hm_1.2 dX6_readLock_66 ?_
        refine ow_top (I (R this 2) 5) (xu_5I (R this 2) 5 (by rw [hm_1.2]; decide)) ?_
        have q_13 : vp_in (I (R this 2) 5) 8 := vp_in_iff.mpr ⟨by omega, by omega⟩
        refine cl_32 hx hb hK hP hm_12.1 hm_12.2 q_13 dX6_readLock_69 ?_
        have hm_14 : (R (R (R this 2) 4) (Int32.toNatClampNeg (I (R this 2) 5))) ∈ L ∧ K (R (R (R this 2) 4) (Int32.toNatClampNeg (I (R this 2) 5))) = 5 := RT.a hRT hm_12.1 hm_12.2 (by decide) q_13
        refine lv_astore_n (lv' := [(1, .ref (R (R (R this 2) 4) (Int32.toNatClampNeg (I (R this 2) 5)))), (0, .ref this)]) hx hb dX6_readLock_70 rfl hl (by decide) rfl (fun ls hl => ?_)
        refine lv_aload_n hx hb dX6_readLock_71 rfl (lv_at hl 0 rfl) ?_
        refine lv_aload_n hx hb dX6_readLock_72 rfl (lv_at hl 1 rfl) ?_
        refine cg_12_7_6 hx hb ht hown hK hN hP hthis.1 hthis.2 dX6_readLock_73 ?_
        refine lv_topl (fun v_15 ev_15 => ?_)
        refine cp_5_0_6 hx hb ht hown hK hN hP hD hS hm_14.1 hm_14.2 dX6_readLock_76 (fun H locs hP hD hS => ?_)
        generalize (va_up J5 (R (R (R this 2) 4) (Int32.toNatClampNeg (I (R this 2) 5))) (va_up (J5 (R (R (R this 2) 4) (Int32.toNatClampNeg (I (R this 2) 5)))) 0 v_15)) = J_16 at hP hD
        refine lv_aload_n hx hb dX6_readLock_79 rfl (lv_at hl 1 rfl) ?_
        have hFc := fr_free hD hS hA
        refine va_callv (va_runV (As := []) (rest := []) ⟨hx, hb, hml, hown, ht⟩ (r_takeToken l G cy _ tq qq wq fo L K R T I5 E5 J_16 B5 this hRT hI hE hthis.1 hthis.2) (cwV 0 ht (gv k_659 k_660 k_661 k_633 k_658) rfl rfl rfl (by decide +kernel) ⟨Nat.le_of_ble_eq_true rfl, Nat.le_of_ble_eq_true rfl⟩) ⟨EnX.blind, cr_12 hK hP hthis.1 hthis.2, fun U hU hW => ⟨rfl, En.of hU hW hP hK hD hN, XK.of hX hS hFc hU hW⟩⟩ rfl rfl hl.1 rfl (lv_room (Nat.le_of_ble_eq_true rfl)) dX6_readLock_80 ⟨Nat.le_of_ble_eq_true rfl, Nat.le_of_ble_eq_true rfl⟩) hS (fun q _ h => hFc q h) hFc (fun u_17 t9 H locs ht9 hvm hw hB hz1 hk1 hS => ?_)
        obtain ⟨I17, J17, E17, B17⟩ := u_17
        obtain ⟨hP1, hD1⟩ := hB
        rw [ht9] at hP1
        clear hI hE
        obtain ⟨hI, hE, xu_17I, wu_17⟩ := hw
        dsimp only at hI hE xu_17I wu_17
        have hP : va_P G vwCl (WC cy L K R I17 J17 E17 B17) H := hP1
        have hD : va_D A (WC cy L K R I17 J17 E17 B17) := hD1.weaken (fun _ _ _ h => hFc _ h)
        clear hFc hk1 hz1 hP1 hD1
        replace hC_0 := FI.tr hC_0 xu_17I (by decide)
        replace wu_17 : ((I17 this 4).toInt ≠ 16 ∨ 0 ≤ (I17 this 6).toInt) := by
          have h9 : ((I17 this 4).toInt ≠ 16 ∨ 0 ≤ (I17 this 6).toInt) := wu_17
          exact h9
        refine lv_aload_n hx hb dX6_readLock_83 rfl (lv_at hl 1 rfl) ?_
        refine lv_iconst (v := 4) hx hb dX6_readLock_84 (by decide) ?_
        have hFc := fr_free hD hS hA
        refine va_calli (va_runV (As := [.int 4]) (rest := []) ⟨hx, hb, hml, hown, ht⟩ (r_take l G cy _ tq qq wq fo L K R T I17 E17 J17 B17 this (4) hRT hI hE hthis.1 hthis.2) (cwV 1 ht (gv k_676 k_677 k_678 k_633 k_675) rfl rfl rfl (by decide +kernel) ⟨Nat.le_of_ble_eq_true rfl, Nat.le_of_ble_eq_true rfl⟩) ⟨EnX.blind, cr_12 hK hP hthis.1 hthis.2, fun U hU hW => ⟨rfl, En.of hU hW hP hK hD hN, XK.of hX hS hFc hU hW⟩⟩ rfl rfl hl.1 rfl (lv_room (Nat.le_of_ble_eq_true rfl)) dX6_readLock_85 ⟨Nat.le_of_ble_eq_true rfl, Nat.le_of_ble_eq_true rfl⟩) hS (fun q _ h => hFc q h) hFc (fun r_u_18 u_18 t9 H locs ht9 hvm hw hB hz1 hk1 hS => ?_)
        obtain ⟨I18, J18, E18, B18⟩ := u_18
        obtain ⟨hP1, hD1⟩ := hB
        rw [ht9] at hP1
        clear hI hE
        obtain ⟨hI, hE, xu_18I, wu_18⟩ := hw
        dsimp only at hI hE xu_18I wu_18
        have hP : va_P G vwCl (WC cy L K R I18 J18 E18 B18) H := hP1
        have hD : va_D A (WC cy L K R I18 J18 E18 B18) := hD1.weaken (fun _ _ _ h => hFc _ h)
        clear hFc hk1 hz1 hP1 hD1
        replace hC_0 := FI.tr hC_0 xu_18I (by decide)
        refine lv_if_ne (tgt := 93) hx hb dX6_readLock_88 (by decide) (fun c_19 => ?_) (fun c_19 => ?_)
        · have q_20 : ¬ r_u_18.toInt = (0 : Int32).toInt := by have := (not_congr (ow_eq _ _)).mp c_19; omega
          refine lv_aload_n hx hb dX6_readLock_93 rfl (lv_at hl 0 rfl) ?_
          refine lv_aload_n hx hb dX6_readLock_94 rfl (lv_at hl 1 rfl) ?_
          refine cg_12_6_6 hx hb ht hown hK hN hP hthis.1 hthis.2 dX6_readLock_95 ?_
          refine cp_5_1_6 hx hb ht hown hK hN hP hD hS hm_14.1 hm_14.2 dX6_readLock_98 (fun H locs hP hD hS => ?_)
          replace hI := IV.up hI hm_14.2 1 (ow_any (I18 this 6))
          have f_21 : FI [(5, 1)] K I18 (va_up I18 (R (R (R this 2) 4) (Int32.toNatClampNeg (I (R this 2) 5))) (va_up (I18 (R (R (R this 2) 4) (Int32.toNatClampNeg (I (R this 2) 5)))) 1 (I18 this 6))) := FI.up hm_14.2 1 (I18 this 6)
          have e_22 : (va_up I18 (R (R (R this 2) 4) (Int32.toNatClampNeg (I (R this 2) 5))) (va_up (I18 (R (R (R this 2) 4) (Int32.toNatClampNeg (I (R this 2) 5)))) 1 (I18 this 6))) (R (R (R this 2) 4) (Int32.toNatClampNeg (I (R this 2) 5))) 1 = (I18 this 6) := FI.at I18 (R (R (R this 2) 4) (Int32.toNatClampNeg (I (R this 2) 5))) 1 (I18 this 6)
          replace hC_0 := FI.tr hC_0 f_21 (by decide)
          generalize (va_up I18 (R (R (R this 2) 4) (Int32.toNatClampNeg (I (R this 2) 5))) (va_up (I18 (R (R (R this 2) 4) (Int32.toNatClampNeg (I (R this 2) 5)))) 1 (I18 this 6))) = I_23 at hP hD hI f_21 e_22 hC_0
          refine lv_aload_n hx hb dX6_readLock_101 rfl (lv_at hl 1 rfl) ?_
          refine lv_iconst (v := 0) hx hb dX6_readLock_102 (by decide) ?_
          refine lv_bipush (v := 20) hx hb dX6_readLock_103 (by decide) ?_
          have hFc := fr_free hD hS hA
          refine va_calli (va_runV (As := [.int 0, .int 20]) (rest := []) ⟨hx, hb, hml, hown, ht⟩ (r_takeNumber l G cy _ tq qq wq fo L K R T I_23 E18 J18 B18 this (0) (20) hRT hI hE hthis.1 hthis.2) (cwV 2 ht (gv k_667 k_668 k_669 k_633 k_666) rfl rfl rfl (by decide +kernel) ⟨Nat.le_of_ble_eq_true rfl, Nat.le_of_ble_eq_true rfl⟩) ⟨EnX.blind, cr_12 hK hP hthis.1 hthis.2, fun U hU hW => ⟨rfl, En.of hU hW hP hK hD hN, XK.of hX hS hFc hU hW⟩⟩ rfl rfl hl.1 rfl (lv_room (Nat.le_of_ble_eq_true rfl)) dX6_readLock_105 ⟨Nat.le_of_ble_eq_true rfl, Nat.le_of_ble_eq_true rfl⟩) hS (fun q _ h => hFc q h) hFc (fun r_u_24 u_24 t9 H locs ht9 hvm hw hB hz1 hk1 hS => ?_)
          obtain ⟨I24, J24, E24, B24⟩ := u_24
          obtain ⟨hP1, hD1⟩ := hB
          rw [ht9] at hP1
          clear hI hE
          obtain ⟨hI, hE, xu_24I, wu_24⟩ := hw
          dsimp only at hI hE xu_24I wu_24
          have hP : va_P G vwCl (WC cy L K R I24 J24 E24 B24) H := hP1
          have hD : va_D A (WC cy L K R I24 J24 E24 B24) := hD1.weaken (fun _ _ _ h => hFc _ h)
          clear hFc hk1 hz1 hP1 hD1
          replace hC_0 := FI.tr hC_0 xu_24I (by decide)
          replace wu_24 : (r_u_24.toInt = 0 ∨ r_u_24.toInt = 1) ∧ (r_u_24.toInt = 0 ∨ ((0 : Int32).toInt ≤ (I18 this 6).toInt ∧ (I18 this 6).toInt ≤ (20 : Int32).toInt ∧ ((I24 this 4).toInt ≠ 16 ∨ 0 ≤ (I24 this 6).toInt))) := by
            have h9 : (r_u_24.toInt = 0 ∨ r_u_24.toInt = 1) ∧ (r_u_24.toInt = 0 ∨ ((0 : Int32).toInt ≤ (I_23 this 6).toInt ∧ (I_23 this 6).toInt ≤ (20 : Int32).toInt ∧ ((I24 this 4).toInt ≠ 16 ∨ 0 ≤ (I24 this 6).toInt))) := wu_24
            rw [(show I_23 this 6 = (I18 this 6) from (f_21 this 6 (by rw [hthis.2]; decide)))] at h9
            exact h9
          refine lv_if_eq (tgt := 119) hx hb dX6_readLock_108 (by decide) (fun c_25 => ?_) (fun c_25 => ?_)
          · have q_26 : r_u_24.toInt = (0 : Int32).toInt := (ow_eq _ _).mp c_25
            refine lv_iconst (v := 0) hx hb dX6_readLock_119 (by decide) ?_
            refine W.widen (k := 0) (n := 0) (Nat.le_of_ble_eq_true rfl) (Nat.le_of_ble_eq_true rfl) ?_
            exact W.zret (v := 0) hx hb hr rfl (fun t ht9 hW => ⟨⟨0, (I24, J24, E24, B24), rfl, ⟨hI, hE, hC_0, (by omega)⟩, ⟨by rw [ht9]; exact hP, hD⟩⟩, hS.F ht9⟩) hS.2.2 dX6_readLock_120
          · have q_27 : ¬ r_u_24.toInt = (0 : Int32).toInt := by have := (not_congr (ow_eq _ _)).mp c_25; omega
            refine lv_aload_n hx hb dX6_readLock_111 rfl (lv_at hl 1 rfl) ?_
            refine lv_iconst (v := 5) hx hb dX6_readLock_112 (by decide) ?_
            have hFc := fr_free hD hS hA
            refine va_calli (va_runV (As := [.int 5]) (rest := []) ⟨hx, hb, hml, hown, ht⟩ (r_take l G cy _ tq qq wq fo L K R T I24 E24 J24 B24 this (5) hRT hI hE hthis.1 hthis.2) (cwV 1 ht (gv k_676 k_677 k_678 k_633 k_675) rfl rfl rfl (by decide +kernel) ⟨Nat.le_of_ble_eq_true rfl, Nat.le_of_ble_eq_true rfl⟩) ⟨EnX.blind, cr_12 hK hP hthis.1 hthis.2, fun U hU hW => ⟨rfl, En.of hU hW hP hK hD hN, XK.of hX hS hFc hU hW⟩⟩ rfl rfl hl.1 rfl (lv_room (Nat.le_of_ble_eq_true rfl)) dX6_readLock_113 ⟨Nat.le_of_ble_eq_true rfl, Nat.le_of_ble_eq_true rfl⟩) hS (fun q _ h => hFc q h) hFc (fun r_u_28 u_28 t9 H locs ht9 hvm hw hB hz1 hk1 hS => ?_)
            obtain ⟨I28, J28, E28, B28⟩ := u_28
            obtain ⟨hP1, hD1⟩ := hB
            rw [ht9] at hP1
            clear hI hE
            obtain ⟨hI, hE, xu_28I, wu_28⟩ := hw
            dsimp only at hI hE xu_28I wu_28
            have hP : va_P G vwCl (WC cy L K R I28 J28 E28 B28) H := hP1
            have hD : va_D A (WC cy L K R I28 J28 E28 B28) := hD1.weaken (fun _ _ _ h => hFc _ h)
            clear hFc hk1 hz1 hP1 hD1
            replace hC_0 := FI.tr hC_0 xu_28I (by decide)
            refine lv_if_ne (tgt := 121) hx hb dX6_readLock_116 (by decide) (fun c_29 => ?_) (fun c_29 => ?_)
            · have q_30 : ¬ r_u_28.toInt = (0 : Int32).toInt := by have := (not_congr (ow_eq _ _)).mp c_29; omega
              refine lv_aload_n hx hb dX6_readLock_121 rfl (lv_at hl 0 rfl) ?_
              refine lv_aload_n hx hb dX6_readLock_122 rfl (lv_at hl 1 rfl) ?_
              refine cg_12_2_6 hx hb ht hown hK hN hP hthis.1 hthis.2 dX6_readLock_123 ?_
              refine cg_1_6_6 hx hb ht hown hK hN hP hm_1.1 hm_1.2 dX6_readLock_126 ?_
              have hm_31 : (R (R this 2) 6) ∈ L ∧ K (R (R this 2) 6) = 6 := RT.o hRT hm_1.1 hm_1.2 6 (by decide)
              refine cg_6_2_6 hx hb ht hown hK hN hP hm_31.1 hm_31.2 dX6_readLock_129 ?_
              have q_32 : 0 ≤ (I28 (R (R this 2) 6) 2).toInt ∧ (I28 (R (R this 2) 6) 2).toInt ≤ 540 := IV.rd hI hm_31.1 hm_31.2 2
              refine cp_5_2_6 hx hb ht hown hK hN hP hD hS hm_14.1 hm_14.2 dX6_readLock_132 (fun H locs hP hD hS => ?_)
              replace hI := IV.up hI hm_14.2 2 (show 0 ≤ (I28 (R (R this 2) 6) 2).toInt ∧ (I28 (R (R this 2) 6) 2).toInt ≤ 540 from by omega)
              have f_33 : FI [(5, 2)] K I28 (va_up I28 (R (R (R this 2) 4) (Int32.toNatClampNeg (I (R this 2) 5))) (va_up (I28 (R (R (R this 2) 4) (Int32.toNatClampNeg (I (R this 2) 5)))) 2 (I28 (R (R this 2) 6) 2))) := FI.up hm_14.2 2 (I28 (R (R this 2) 6) 2)
              have e_34 : (va_up I28 (R (R (R this 2) 4) (Int32.toNatClampNeg (I (R this 2) 5))) (va_up (I28 (R (R (R this 2) 4) (Int32.toNatClampNeg (I (R this 2) 5)))) 2 (I28 (R (R this 2) 6) 2))) (R (R (R this 2) 4) (Int32.toNatClampNeg (I (R this 2) 5))) 2 = (I28 (R (R this 2) 6) 2) := FI.at I28 (R (R (R this 2) 4) (Int32.toNatClampNeg (I (R this 2) 5))) 2 (I28 (R (R this 2) 6) 2)
              replace hC_0 := FI.tr hC_0 f_33 (by decide)
              generalize (va_up I28 (R (R (R this 2) 4) (Int32.toNatClampNeg (I (R this 2) 5))) (va_up (I28 (R (R (R this 2) 4) (Int32.toNatClampNeg (I (R this 2) 5)))) 2 (I28 (R (R this 2) 6) 2))) = I_35 at hP hD hI f_33 e_34 hC_0
              refine lv_aload_n hx hb dX6_readLock_135 rfl (lv_at hl 1 rfl) ?_
              refine lv_iconst (v := 0) hx hb dX6_readLock_136 (by decide) ?_
              have hFc := fr_free hD hS hA
              refine va_calli (va_runV (As := [.int 0]) (rest := []) ⟨hx, hb, hml, hown, ht⟩ (r_e0 l G cy _ tq qq wq fo L K R T I_35 E28 J28 B28 this (0) hRT hI hE hthis.1 hthis.2 (by omega)) (cwV 1 ht (gv k_713 k_714 k_715 k_633 k_712) rfl rfl rfl (by decide +kernel) ⟨Nat.le_of_ble_eq_true rfl, Nat.le_of_ble_eq_true rfl⟩) ⟨EnX.blind, cr_12 hK hP hthis.1 hthis.2, fun U hU hW => ⟨rfl, En.of hU hW hP hK hD hN, XK.of hX hS hFc hU hW⟩⟩ rfl rfl hl.1 rfl (lv_room (Nat.le_of_ble_eq_true rfl)) dX6_readLock_137 ⟨Nat.le_of_ble_eq_true rfl, Nat.le_of_ble_eq_true rfl⟩) hS (fun q _ h => hFc q h) hFc (fun r_u_36 u_36 t9 H locs ht9 hvm hw hB hz1 hk1 hS => ?_)
              obtain ⟨I36, J36, E36, B36⟩ := u_36
              obtain ⟨hP1, hD1⟩ := hB
              rw [ht9] at hP1
              clear hI hE
              obtain ⟨hI, hE, xu_36I, wu_36⟩ := hw
              dsimp only at hI hE xu_36I wu_36
              have hP : va_P G vwCl (WC cy L K R I36 J36 E36 B36) H := hP1
              have hD : va_D A (WC cy L K R I36 J36 E36 B36) := hD1.weaken (fun _ _ _ h => hFc _ h)
              clear hFc hk1 hz1 hP1 hD1
              replace hC_0 := FI.tr hC_0 xu_36I (by decide)
              refine lv_if_eq (tgt := 152) hx hb dX6_readLock_140 (by decide) (fun c_37 => ?_) (fun c_37 => ?_)
              · have q_38 : r_u_36.toInt = (0 : Int32).toInt := (ow_eq _ _).mp c_37
                refine lv_iconst (v := 0) hx hb dX6_readLock_152 (by decide) ?_
                refine W.widen (k := 0) (n := 0) (Nat.le_of_ble_eq_true rfl) (Nat.le_of_ble_eq_true rfl) ?_
                exact W.zret (v := 0) hx hb hr rfl (fun t ht9 hW => ⟨⟨0, (I36, J36, E36, B36), rfl, ⟨hI, hE, hC_0, (by omega)⟩, ⟨by rw [ht9]; exact hP, hD⟩⟩, hS.F ht9⟩) hS.2.2 dX6_readLock_153
              · have q_39 : ¬ r_u_36.toInt = (0 : Int32).toInt := by have := (not_congr (ow_eq _ _)).mp c_37; omega
                refine lv_aload_n hx hb dX6_readLock_143 rfl (lv_at hl 1 rfl) ?_
                refine lv_bipush (v := 59) hx hb dX6_readLock_144 (by decide) ?_
                have hFc := fr_free hD hS hA
                refine va_calli (va_runV (As := [.int 59]) (rest := []) ⟨hx, hb, hml, hown, ht⟩ (r_take l G cy _ tq qq wq fo L K R T I36 E36 J36 B36 this (59) hRT hI hE hthis.1 hthis.2) (cwV 1 ht (gv k_676 k_677 k_678 k_633 k_675) rfl rfl rfl (by decide +kernel) ⟨Nat.le_of_ble_eq_true rfl, Nat.le_of_ble_eq_true rfl⟩) ⟨EnX.blind, cr_12 hK hP hthis.1 hthis.2, fun U hU hW => ⟨rfl, En.of hU hW hP hK hD hN, XK.of hX hS hFc hU hW⟩⟩ rfl rfl hl.1 rfl (lv_room (Nat.le_of_ble_eq_true rfl)) dX6_readLock_146 ⟨Nat.le_of_ble_eq_true rfl, Nat.le_of_ble_eq_true rfl⟩) hS (fun q _ h => hFc q h) hFc (fun r_u_40 u_40 t9 H locs ht9 hvm hw hB hz1 hk1 hS => ?_)
                obtain ⟨I40, J40, E40, B40⟩ := u_40
                obtain ⟨hP1, hD1⟩ := hB
                rw [ht9] at hP1
                clear hI hE
                obtain ⟨hI, hE, xu_40I, wu_40⟩ := hw
                dsimp only at hI hE xu_40I wu_40
                have hP : va_P G vwCl (WC cy L K R I40 J40 E40 B40) H := hP1
                have hD : va_D A (WC cy L K R I40 J40 E40 B40) := hD1.weaken (fun _ _ _ h => hFc _ h)
                clear hFc hk1 hz1 hP1 hD1
                replace hC_0 := FI.tr hC_0 xu_40I (by decide)
                refine lv_if_ne (tgt := 154) hx hb dX6_readLock_149 (by decide) (fun c_41 => ?_) (fun c_41 => ?_)
                · have q_42 : ¬ r_u_40.toInt = (0 : Int32).toInt := by have := (not_congr (ow_eq _ _)).mp c_41; omega
                  refine lv_aload_n hx hb dX6_readLock_154 rfl (lv_at hl 0 rfl) ?_
                  refine lv_aload_n hx hb dX6_readLock_155 rfl (lv_at hl 1 rfl) ?_
                  refine cg_12_2_6 hx hb ht hown hK hN hP hthis.1 hthis.2 dX6_readLock_156 ?_
                  refine cg_1_6_6 hx hb ht hown hK hN hP hm_1.1 hm_1.2 dX6_readLock_159 ?_
                  refine cg_6_2_6 hx hb ht hown hK hN hP hm_31.1 hm_31.2 dX6_readLock_162 ?_
                  refine ow_top (I36 (R (R this 2) 6) 2) (xu_40I (R (R this 2) 6) 2 (by rw [hm_31.2]; decide)) ?_
                  have q_43 : 0 ≤ (I36 (R (R this 2) 6) 2).toInt ∧ (I36 (R (R this 2) 6) 2).toInt ≤ 540 := by have h9 : I40 (R (R this 2) 6) 2 = (I36 (R (R this 2) 6) 2) := (xu_40I (R (R this 2) 6) 2 (by rw [hm_31.2]; decide)); rw [← h9]; exact IV.rd hI hm_31.1 hm_31.2 2
                  refine cp_5_3_6 hx hb ht hown hK hN hP hD hS hm_14.1 hm_14.2 dX6_readLock_165 (fun H locs hP hD hS => ?_)
                  replace hI := IV.up hI hm_14.2 3 (ow_any (I36 (R (R this 2) 6) 2))
                  have f_44 : FI [(5, 3)] K I40 (va_up I40 (R (R (R this 2) 4) (Int32.toNatClampNeg (I (R this 2) 5))) (va_up (I40 (R (R (R this 2) 4) (Int32.toNatClampNeg (I (R this 2) 5)))) 3 (I36 (R (R this 2) 6) 2))) := FI.up hm_14.2 3 (I36 (R (R this 2) 6) 2)
                  have e_45 : (va_up I40 (R (R (R this 2) 4) (Int32.toNatClampNeg (I (R this 2) 5))) (va_up (I40 (R (R (R this 2) 4) (Int32.toNatClampNeg (I (R this 2) 5)))) 3 (I36 (R (R this 2) 6) 2))) (R (R (R this 2) 4) (Int32.toNatClampNeg (I (R this 2) 5))) 3 = (I36 (R (R this 2) 6) 2) := FI.at I40 (R (R (R this 2) 4) (Int32.toNatClampNeg (I (R this 2) 5))) 3 (I36 (R (R this 2) 6) 2)
                  replace hC_0 := FI.tr hC_0 f_44 (by decide)
                  generalize (va_up I40 (R (R (R this 2) 4) (Int32.toNatClampNeg (I (R this 2) 5))) (va_up (I40 (R (R (R this 2) 4) (Int32.toNatClampNeg (I (R this 2) 5)))) 3 (I36 (R (R this 2) 6) 2))) = I_46 at hP hD hI f_44 e_45 hC_0
                  refine lv_aload_n hx hb dX6_readLock_168 rfl (lv_at hl 1 rfl) ?_
                  refine cg_12_2_6 hx hb ht hown hK hN hP hthis.1 hthis.2 dX6_readLock_169 ?_
                  refine lv_dup hx hb dX6_readLock_172 rfl ?_
                  refine cg_1_5_6 hx hb ht hown hK hN hP hm_1.1 hm_1.2 dX6_readLock_173 ?_
                  refine ow_top (I (R this 2) 5) ((f_44 (R this 2) 5 (by rw [hm_1.2]; decide)).trans ((xu_40I (R this 2) 5 (by rw [hm_1.2]; decide)).trans ((xu_36I (R this 2) 5 (by rw [hm_1.2]; decide)).trans ((f_33 (R this 2) 5 (by rw [hm_1.2]; decide)).trans ((xu_28I (R this 2) 5 (by rw [hm_1.2]; decide)).trans ((xu_24I (R this 2) 5 (by rw [hm_1.2]; decide)).trans ((f_21 (R this 2) 5 (by rw [hm_1.2]; decide)).trans ((xu_18I (R this 2) 5 (by rw [hm_1.2]; decide)).trans ((xu_17I (R this 2) 5 (by rw [hm_1.2]; decide)).trans (xu_5I (R this 2) 5 (by rw [hm_1.2]; decide))))))))))) ?_
                  refine lv_iconst (v := 1) hx hb dX6_readLock_176 (by decide) ?_
                  refine lv_iadd hx hb dX6_readLock_177 ?_
                  refine lv_topi (fun v_47 ev_47 => ?_)
                  have q_48 : v_47.toInt = (I (R this 2) 5).toInt + (1 : Int32).toInt := ow_add ev_47 (by omega) (by omega)
                  refine cp_1_5_6 hx hb ht hown hK hN hP hD hS hm_1.1 hm_1.2 dX6_readLock_178 (fun H locs hP hD hS => ?_)
                  replace hI := IV.up hI hm_1.2 5 (show 0 ≤ v_47.toInt ∧ v_47.toInt ≤ 8 from by omega)
                  have f_49 : FI [(1, 5)] K I_46 (va_up I_46 (R this 2) (va_up (I_46 (R this 2)) 5 v_47)) := FI.up hm_1.2 5 v_47
                  have e_50 : (va_up I_46 (R this 2) (va_up (I_46 (R this 2)) 5 v_47)) (R this 2) 5 = v_47 := FI.at I_46 (R this 2) 5 v_47
                  replace hC_0 := FI.tr hC_0 f_49 (by decide)
                  generalize (va_up I_46 (R this 2) (va_up (I_46 (R this 2)) 5 v_47)) = I_51 at hP hD hI f_49 e_50 hC_0
                  refine lv_iconst (v := 1) hx hb dX6_readLock_181 (by decide) ?_
                  refine W.widen (k := 0) (n := 0) (Nat.le_of_ble_eq_true rfl) (Nat.le_of_ble_eq_true rfl) ?_
                  exact W.zret (v := 1) hx hb hr rfl (fun t ht9 hW => ⟨⟨1, (I_51, J40, E40, B40), rfl, ⟨hI, hE, hC_0, (by omega)⟩, ⟨by rw [ht9]; exact hP, hD⟩⟩, hS.F ht9⟩) hS.2.2 dX6_readLock_182
                · have q_52 : r_u_40.toInt = (0 : Int32).toInt := (ow_eq _ _).mp c_41
                  refine lv_iconst (v := 0) hx hb dX6_readLock_152 (by decide) ?_
                  refine W.widen (k := 0) (n := 0) (Nat.le_of_ble_eq_true rfl) (Nat.le_of_ble_eq_true rfl) ?_
                  exact W.zret (v := 0) hx hb hr rfl (fun t ht9 hW => ⟨⟨0, (I40, J40, E40, B40), rfl, ⟨hI, hE, hC_0, (by omega)⟩, ⟨by rw [ht9]; exact hP, hD⟩⟩, hS.F ht9⟩) hS.2.2 dX6_readLock_153
            · have q_53 : r_u_28.toInt = (0 : Int32).toInt := (ow_eq _ _).mp c_29
              refine lv_iconst (v := 0) hx hb dX6_readLock_119 (by decide) ?_
              refine W.widen (k := 0) (n := 0) (Nat.le_of_ble_eq_true rfl) (Nat.le_of_ble_eq_true rfl) ?_
              exact W.zret (v := 0) hx hb hr rfl (fun t ht9 hW => ⟨⟨0, (I28, J28, E28, B28), rfl, ⟨hI, hE, hC_0, (by omega)⟩, ⟨by rw [ht9]; exact hP, hD⟩⟩, hS.F ht9⟩) hS.2.2 dX6_readLock_120
        · have q_54 : r_u_18.toInt = (0 : Int32).toInt := (ow_eq _ _).mp c_19
          refine lv_iconst (v := 0) hx hb dX6_readLock_91 (by decide) ?_
          refine W.widen (k := 0) (n := 0) (Nat.le_of_ble_eq_true rfl) (Nat.le_of_ble_eq_true rfl) ?_
          exact W.zret (v := 0) hx hb hr rfl (fun t ht9 hW => ⟨⟨0, (I18, J18, E18, B18), rfl, ⟨hI, hE, hC_0, (by omega)⟩, ⟨by rw [ht9]; exact hP, hD⟩⟩, hS.F ht9⟩) hS.2.2 dX6_readLock_92
      · have q_55 : ¬ r_u_9.toInt = (0 : Int32).toInt := by have := (not_congr (ow_eq _ _)).mp c_10; omega
        refine lv_aload_n hx hb dX6_readLock_49 rfl (lv_at hl 0 rfl) ?_
        refine lv_iconst (v := 3) hx hb dX6_readLock_50 (by decide) ?_
        have hFc := fr_free hD hS hA
        refine va_calli (va_runV (As := [.int 3]) (rest := []) ⟨hx, hb, hml, hown, ht⟩ (r_fail l G cy _ L K R T I5 E5 J5 B5 this (3) hRT hI hE hthis.1 hthis.2) (cwV 1 ht (gv k_655 k_656 k_657 k_633 k_654) rfl rfl rfl (by decide +kernel) ⟨Nat.le_of_ble_eq_true rfl, Nat.le_of_ble_eq_true rfl⟩) ⟨En.blind, cr_12 hK hP hthis.1 hthis.2, fun U hU hW => ⟨rfl, En.of hU hW hP hK hD hN⟩⟩ rfl rfl hl.1 rfl (lv_room (Nat.le_of_ble_eq_true rfl)) dX6_readLock_51 ⟨Nat.le_of_ble_eq_true rfl, Nat.le_of_ble_eq_true rfl⟩) hS (fun q _ h => hFc q h) hFc (fun r_u_56 u_56 t9 H locs ht9 hvm hw hB hz1 hk1 hS => ?_)
        obtain ⟨I56, J56, E56, B56⟩ := u_56
        obtain ⟨hP1, hD1⟩ := hB
        rw [ht9] at hP1
        clear hI hE
        obtain ⟨hI, hE, xu_56I, wu_56⟩ := hw
        dsimp only at hI hE xu_56I wu_56
        have hP : va_P G vwCl (WC cy L K R I56 J56 E56 B56) H := hP1
        have hD : va_D A (WC cy L K R I56 J56 E56 B56) := hD1.weaken (fun _ _ _ h => hFc _ h)
        clear hFc hk1 hz1 hP1 hD1
        replace hC_0 := FI.tr hC_0 xu_56I (by decide)
        obtain rfl : r_u_56 = 0 := (ow_eq _ _).mpr (by omega)
        refine W.widen (k := 0) (n := 0) (Nat.le_of_ble_eq_true rfl) (Nat.le_of_ble_eq_true rfl) ?_
        exact W.zret (v := 0) hx hb hr rfl (fun t ht9 hW => ⟨⟨0, (I56, J56, E56, B56), rfl, ⟨hI, hE, hC_0, (by omega)⟩, ⟨by rw [ht9]; exact hP, hD⟩⟩, hS.F ht9⟩) hS.2.2 dX6_readLock_54
    · have q_57 : ¬ (I5 this 4).toInt = (15 : Int32).toInt := by have := (not_congr (ow_eq _ _)).mp c_6; omega
      refine lv_aload_n hx hb dX6_readLock_30 rfl (lv_at hl 0 rfl) ?_
      have hFc := fr_free hD hS hA
      refine va_calli (va_runV (As := []) (rest := []) ⟨hx, hb, hml, hown, ht⟩ (r_refuse l G cy _ L K R T I5 E5 J5 B5 this hRT hI hE hthis.1 hthis.2) (cwV 0 ht (gv k_663 k_664 k_665 k_633 k_662) rfl rfl rfl (by decide +kernel) ⟨Nat.le_of_ble_eq_true rfl, Nat.le_of_ble_eq_true rfl⟩) ⟨En.blind, cr_12 hK hP hthis.1 hthis.2, fun U hU hW => ⟨rfl, En.of hU hW hP hK hD hN⟩⟩ rfl rfl hl.1 rfl (lv_room (Nat.le_of_ble_eq_true rfl)) dX6_readLock_31 ⟨Nat.le_of_ble_eq_true rfl, Nat.le_of_ble_eq_true rfl⟩) hS (fun q _ h => hFc q h) hFc (fun r_u_58 u_58 t9 H locs ht9 hvm hw hB hz1 hk1 hS => ?_)
      obtain ⟨I58, J58, E58, B58⟩ := u_58
      obtain ⟨hP1, hD1⟩ := hB
      rw [ht9] at hP1
      clear hI hE
      obtain ⟨hI, hE, xu_58I, wu_58⟩ := hw
      dsimp only at hI hE xu_58I wu_58
      have hP : va_P G vwCl (WC cy L K R I58 J58 E58 B58) H := hP1
      have hD : va_D A (WC cy L K R I58 J58 E58 B58) := hD1.weaken (fun _ _ _ h => hFc _ h)
      clear hFc hk1 hz1 hP1 hD1
      replace hC_0 := FI.tr hC_0 xu_58I (by decide)
      obtain rfl : r_u_58 = 0 := (ow_eq _ _).mpr (by omega)
      refine W.widen (k := 0) (n := 0) (Nat.le_of_ble_eq_true rfl) (Nat.le_of_ble_eq_true rfl) ?_
      exact W.zret (v := 0) hx hb hr rfl (fun t ht9 hW => ⟨⟨0, (I58, J58, E58, B58), rfl, ⟨hI, hE, hC_0, (by omega)⟩, ⟨by rw [ht9]; exact hP, hD⟩⟩, hS.F ht9⟩) hS.2.2 dX6_readLock_34
  · have q_59 : (8 : Int32).toInt ≤ (I (R this 2) 5).toInt := by have := (not_congr (ow_lt _ _)).mp c_3; omega
    refine lv_aload_n hx hb dX6_readLock_12 rfl (lv_at hl 0 rfl) ?_
    have hFc := fr_free hD hS hA
    refine va_calli (va_runV (As := []) (rest := []) ⟨hx, hb, hml, hown, ht⟩ (r_refuse l G cy _ L K R T I E J B this hRT hI hE hthis.1 hthis.2) (cwV 0 ht (gv k_663 k_664 k_665 k_633 k_662) rfl rfl rfl (by decide +kernel) ⟨Nat.le_of_ble_eq_true rfl, Nat.le_of_ble_eq_true rfl⟩) ⟨En.blind, cr_12 hK hP hthis.1 hthis.2, fun U hU hW => ⟨rfl, En.of hU hW hP hK hD hN⟩⟩ rfl rfl hl.1 rfl (lv_room (Nat.le_of_ble_eq_true rfl)) dX6_readLock_13 ⟨Nat.le_of_ble_eq_true rfl, Nat.le_of_ble_eq_true rfl⟩) hS (fun q _ h => hFc q h) hFc (fun r_u_60 u_60 t9 H locs ht9 hvm hw hB hz1 hk1 hS => ?_)
    obtain ⟨I60, J60, E60, B60⟩ := u_60
    obtain ⟨hP1, hD1⟩ := hB
    rw [ht9] at hP1
    clear hI hE
    obtain ⟨hI, hE, xu_60I, wu_60⟩ := hw
    dsimp only at hI hE xu_60I wu_60
    have hP : va_P G vwCl (WC cy L K R I60 J60 E60 B60) H := hP1
    have hD : va_D A (WC cy L K R I60 J60 E60 B60) := hD1.weaken (fun _ _ _ h => hFc _ h)
    clear hFc hk1 hz1 hP1 hD1
    replace hC_0 := FI.tr hC_0 xu_60I (by decide)
    obtain rfl : r_u_60 = 0 := (ow_eq _ _).mpr (by omega)
    refine W.widen (k := 0) (n := 0) (Nat.le_of_ble_eq_true rfl) (Nat.le_of_ble_eq_true rfl) ?_
    exact W.zret (v := 0) hx hb hr rfl (fun t ht9 hW => ⟨⟨0, (I60, J60, E60, B60), rfl, ⟨hI, hE, hC_0, (by omega)⟩, ⟨by rw [ht9]; exact hP, hD⟩⟩, hS.F ht9⟩) hS.2.2 dX6_readLock_16
set_option maxHeartbeats 4000000 in
set_option maxRecDepth 100000 in
theorem r_readTown (l : Launch) (G : va_G) (cy : Nat → ClassId) (sz : Nat) (tq qq wq : Nat) (fo : Option Nat) (L : List Nat) (K : Nat → Nat) (R : Nat → Nat → Nat) (T : Int) (I E : Nat → Nat → Int32) (J B : Nat → Nat → Int64) (this : Nat)  (hRT : RT L K R) (hI : IV T L K I) (hE : EV L K E) (hthis1 : this ∈ L) (hthis2 : K this = 12) : Met l yX6_readTown (.code yX6_readTown cX6_readTown 3 (some .boolean) :: TBg) ({ frames := 48, cells := 0, slots := 0, locals := 3072 }) (va_Pc [.ref this] (EnX G cy (WC cy L K R I J E B) sz tq qq wq fo (va_A (WC cy L K R I J E B) sz))) (va_Qi (fun (r : Int32) (u : (Nat → Nat → Int32) × (Nat → Nat → Int64) × (Nat → Nat → Int32) × (Nat → Nat → Int64)) => IV T L K u.1 ∧ EV L K u.2.2.1 ∧ FI [(1, 3), (1, 5), (1, 7), (2, 2), (5, 1), (5, 2), (5, 3), (6, 2), (12, 3), (12, 4), (12, 5), (12, 6), (12, 8), (12, 9), (12, 10)] K I u.1 ∧ ((r.toInt = 0 ∨ r.toInt = 1))) (fun u t => Ex G (va_A (WC cy L K R I J E B) sz) (WC cy L K R u.1 u.2.1 u.2.2.1 u.2.2.2) t) (va_A (WC cy L K R I J E B) sz)) 0 0 (va_A (WC cy L K R I J E B) sz) := by
  have hthis : this ∈ L ∧ K this = 12 := ⟨hthis1, hthis2⟩
  refine Met.ofW (cc := cX6_readTown) (maxL := 3) (ret := (some .boolean)) (by decide) rfl ?_
  intro p e s m args below meth c s₁ B9 hml hv9
  obtain ⟨rfl, ⟨hsz, hP, hK, hD0, hN⟩, hX⟩ := hv9
  have hx := B9.exec
  have hb := B9.bytes
  have hr := B9.returns
  have hts := atoms_spec (ws := .code yX6_readTown cX6_readTown 3 (some .boolean) :: TBg) B9.pre
  have ht : ∀ w ∈ TBg, w.before _ s = true := fun w h => hts w (List.mem_cons_of_mem _ h)
  have hown : s.vm.findClass RX6 = some m.cls := findClass_of_methodNamed B9.named
  have hlocks := B9.notSynchronized
  subst hsz
  have hD := hD0.self (sz := s.heap.size)
  generalize hAe : va_A (WC cy L K R I J E B) s.heap.size = A at hD hX ⊢
  have hA : ∀ q : Nat, s.heap.size ≤ q → A q := fun q h => by rw [← hAe]; exact Or.inr h
  have hS : va_S A s.heap s.heap [] := va_S.rf
  have hl := lv_entry ([.ref this]) (n := 3) (Nat.le_of_ble_eq_true rfl)
  rw [lg_entry_eq]
  generalize (lg_sl ([.ref this]) ++ List.replicate (3 - (lg_sl ([.ref this])).length) Slot.unset).toArray = ls at hl ⊢
  have hl : lv_has ls 3 [(0, .ref this)] := hl
  have z0 : (0 : Int32).toInt = 0 := by decide
  have z1 : (1 : Int32).toInt = 1 := by decide
  have z2 : (17 : Int32).toInt = 17 := by decide
  have z3 : (1700 : Int32).toInt = 1700 := by decide
  have hC_0 : FI [(1, 3), (1, 5), (1, 7), (2, 2), (5, 1), (5, 2), (5, 3), (6, 2), (12, 3), (12, 4), (12, 5), (12, 6), (12, 8), (12, 9), (12, 10)] K I I := FI.rf
  refine lv_aload_n hx hb dX6_readTown_0 rfl (lv_at hl 0 rfl) ?_
  refine cg_12_2_6 hx hb ht hown hK hN hP hthis.1 hthis.2 dX6_readTown_1 ?_
  have hm_1 : (R this 2) ∈ L ∧ K (R this 2) = 1 := RT.o hRT hthis.1 hthis.2 2 (by decide)
  have hFc := fr_free hD hS hA
  refine va_callv (va_runV (As := []) (rest := []) ⟨hx, hb, hml, hown, ht⟩ (c_tclear l G cy _ L K R T I E J B (R this 2) hRT hI hE hm_1.1 hm_1.2) (cwV 0 ht (gv k_721 k_722 k_723 k_461 k_720) rfl rfl rfl (by decide +kernel) ⟨Nat.le_of_ble_eq_true rfl, Nat.le_of_ble_eq_true rfl⟩) ⟨En.blind, cr_1 hK hP hm_1.1 hm_1.2, fun U hU hW => ⟨rfl, En.of hU hW hP hK hD hN⟩⟩ rfl rfl hl.1 rfl (lv_room (Nat.le_of_ble_eq_true rfl)) dX6_readTown_4 ⟨Nat.le_of_ble_eq_true rfl, Nat.le_of_ble_eq_true rfl⟩) hS (fun q _ h => hFc q h) hFc (fun u_2 t9 H locs ht9 hvm hw hB hz1 hk1 hS => ?_)
  obtain ⟨I2, J2, E2, B2⟩ := u_2
  obtain ⟨hP1, hD1⟩ := hB
  rw [ht9] at hP1
  clear hI hE
  obtain ⟨hI, hE, xu_2I, wu_2⟩ := hw
  dsimp only at hI hE xu_2I wu_2
  have hP : va_P G vwCl (WC cy L K R I2 J2 E2 B2) H := hP1
  have hD : va_D A (WC cy L K R I2 J2 E2 B2) := hD1.weaken (fun _ _ _ h => hFc _ h)
  clear hFc hk1 hz1 hP1 hD1
  replace hC_0 := FI.tr hC_0 xu_2I (by decide)
  refine lv_aload_n hx hb dX6_readTown_7 rfl (lv_at hl 0 rfl) ?_
  have hFc := fr_free hD hS hA
  refine va_callv (va_runV (As := []) (rest := []) ⟨hx, hb, hml, hown, ht⟩ (r_takeToken l G cy _ tq qq wq fo L K R T I2 E2 J2 B2 this hRT hI hE hthis.1 hthis.2) (cwV 0 ht (gv k_659 k_660 k_661 k_633 k_658) rfl rfl rfl (by decide +kernel) ⟨Nat.le_of_ble_eq_true rfl, Nat.le_of_ble_eq_true rfl⟩) ⟨EnX.blind, cr_12 hK hP hthis.1 hthis.2, fun U hU hW => ⟨rfl, En.of hU hW hP hK hD hN, XK.of hX hS hFc hU hW⟩⟩ rfl rfl hl.1 rfl (lv_room (Nat.le_of_ble_eq_true rfl)) dX6_readTown_8 ⟨Nat.le_of_ble_eq_true rfl, Nat.le_of_ble_eq_true rfl⟩) hS (fun q _ h => hFc q h) hFc (fun u_3 t9 H locs ht9 hvm hw hB hz1 hk1 hS => ?_)
  obtain ⟨I3, J3, E3, B3⟩ := u_3
  obtain ⟨hP1, hD1⟩ := hB
  rw [ht9] at hP1
  clear hI hE
  obtain ⟨hI, hE, xu_3I, wu_3⟩ := hw
  dsimp only at hI hE xu_3I wu_3
  have hP : va_P G vwCl (WC cy L K R I3 J3 E3 B3) H := hP1
  have hD : va_D A (WC cy L K R I3 J3 E3 B3) := hD1.weaken (fun _ _ _ h => hFc _ h)
  clear hFc hk1 hz1 hP1 hD1
  replace hC_0 := FI.tr hC_0 xu_3I (by decide)
  replace wu_3 : ((I3 this 4).toInt ≠ 16 ∨ 0 ≤ (I3 this 6).toInt) := by
    have h9 : ((I3 this 4).toInt ≠ 16 ∨ 0 ≤ (I3 this 6).toInt) := wu_3
    exact h9
  refine lv_iconst (v := 1) hx hb dX6_readTown_11 (by decide) ?_
  refine lv_istore_n (lv' := [(1, .int 1), (0, .ref this)]) hx hb dX6_readTown_12 rfl hl (by decide) rfl (fun ls hl => ?_)
  refine lv_iconst (v := 0) hx hb dX6_readTown_13 (by decide) ?_
  refine lv_istore_n (lv' := [(2, .int 0), (1, .int 1), (0, .ref this)]) hx hb dX6_readTown_14 rfl hl (by decide) rfl (fun ls hl => ?_)
  refine W.widen (k := 0) (n := 0) (Nat.le_of_ble_eq_true rfl) (Nat.le_of_ble_eq_true rfl) ?_
  have lp_4 : ∀ (N_4 : Nat) (x2_4 : Int32) (x1_4 : Int32) (I4 : Nat → Nat → Int32) (J4 : Nat → Nat → Int64) (E4 : Nat → Nat → Int32) (B4 : Nat → Nat → Int64) (H : Heap) (locs : List Loc) (ls : Array Slot), IV T L K I4 → EV L K E4 → FI [(1, 3), (1, 5), (1, 7), (2, 2), (5, 1), (5, 2), (5, 3), (6, 2), (12, 3), (12, 4), (12, 5), (12, 6), (12, 8), (12, 9), (12, 10)] K I3 I4 → (0 ≤ x2_4.toInt ∧ x2_4.toInt ≤ 1700) → (0 ≤ x1_4.toInt ∧ x1_4.toInt ≤ 1) → (1700 - x2_4.toInt).toNat < N_4 → va_P G vwCl (WC cy L K R I4 J4 E4 B4) H → va_D A (WC cy L K R I4 J4 E4 B4) → va_S A s.heap H locs → lv_has ls 3 [(2, .int x2_4), (1, .int x1_4), (0, .ref this)] → W p l e (headSpec (.code yX6_readTown cX6_readTown 3 (some .boolean) :: TBg) ({ frames := 48, cells := 0, slots := 0, locals := 3072 })).room s m ([.ref this] : List Value).toArray below meth c H locs 0 0 (MQ below (va_Qi (fun (r : Int32) (u : (Nat → Nat → Int32) × (Nat → Nat → Int64) × (Nat → Nat → Int32) × (Nat → Nat → Int64)) => IV T L K u.1 ∧ EV L K u.2.2.1 ∧ FI [(1, 3), (1, 5), (1, 7), (2, 2), (5, 1), (5, 2), (5, 3), (6, 2), (12, 3), (12, 4), (12, 5), (12, 6), (12, 8), (12, 9), (12, 10)] K I u.1 ∧ ((r.toInt = 0 ∨ r.toInt = 1))) (fun u t => Ex G A (WC cy L K R u.1 u.2.1 u.2.2.1 u.2.2.2) t) A) ([.ref this] : List Value).toArray s 0 0 A) (F0 m 15 ls []) := by
    intro N_4
    induction N_4 with
    | zero => intro x2_4 x1_4 I4 J4 E4 B4 H locs ls hI hE hC_4 qf4_0 qf4_1 hm9 hP hD hS hl; exact absurd hm9 (Nat.not_lt_zero _)
    | succ N_4 ih_4 =>
      intro x2_4 x1_4 I4 J4 E4 B4 H locs ls hI hE hC_4 qf4_0 qf4_1 hm9 hP hD hS hl
      replace hC_0 := FI.tr hC_0 hC_4 (by decide)
      have hX_4 := hC_4
      refine lv_iload_n hx hb dX6_readTown_15 rfl (lv_at hl 0 rfl) ?_
      refine lv_sipush (v := 1700) hx hb dX6_readTown_16 (by decide) ?_
      refine lv_icmp_ge (tgt := 99) hx hb dX6_readTown_19 (by decide) (fun c_5 => ?_) (fun c_5 => ?_)
      · have q_6 : (1700 : Int32).toInt ≤ x2_4.toInt := (ow_le _ _).mp c_5
        refine lv_aload_n hx hb dX6_readTown_99 rfl (lv_at hl 2 rfl) ?_
        refine cg_12_8_6 hx hb ht hown hK hN hP hthis.1 hthis.2 dX6_readTown_100 ?_
        have q_7 : 0 ≤ (I4 this 8).toInt ∧ (I4 this 8).toInt ≤ 1 := IV.rd hI hthis.1 hthis.2 8
        refine lv_if_ne (tgt := 113) hx hb dX6_readTown_103 (by decide) (fun c_8 => ?_) (fun c_8 => ?_)
        · have q_9 : ¬ (I4 this 8).toInt = (0 : Int32).toInt := by have := (not_congr (ow_eq _ _)).mp c_8; omega
          refine lv_iload_n hx hb dX6_readTown_113 rfl (lv_at hl 1 rfl) ?_
          refine W.widen (k := 0) (n := 0) (Nat.le_of_ble_eq_true rfl) (Nat.le_of_ble_eq_true rfl) ?_
          exact W.zret (v := x1_4) hx hb hr (ow_nb (by omega)) (fun t ht9 hW => ⟨⟨x1_4, (I4, J4, E4, B4), rfl, ⟨hI, hE, hC_0, (by omega)⟩, ⟨by rw [ht9]; exact hP, hD⟩⟩, hS.F ht9⟩) hS.2.2 dX6_readTown_114
        · have q_10 : (I4 this 8).toInt = (0 : Int32).toInt := (ow_eq _ _).mp c_8
          refine lv_aload_n hx hb dX6_readTown_106 rfl (lv_at hl 2 rfl) ?_
          refine cg_12_2_6 hx hb ht hown hK hN hP hthis.1 hthis.2 dX6_readTown_107 ?_
          have hFc := fr_free hD hS hA
          refine va_callv (va_runV (As := []) (rest := []) ⟨hx, hb, hml, hown, ht⟩ (r_sweeten l G cy _ tq qq wq fo L K R T I4 E4 J4 B4 (R this 2) hRT hI hE hm_1.1 hm_1.2) (cwV 0 ht (gv k_725 k_726 k_727 k_461 k_724) rfl rfl rfl (by decide +kernel) ⟨Nat.le_of_ble_eq_true rfl, Nat.le_of_ble_eq_true rfl⟩) ⟨EnX.blind, cr_1 hK hP hm_1.1 hm_1.2, fun U hU hW => ⟨rfl, En.of hU hW hP hK hD hN, XK.of hX hS hFc hU hW⟩⟩ rfl rfl hl.1 rfl (lv_room (Nat.le_of_ble_eq_true rfl)) dX6_readTown_110 ⟨Nat.le_of_ble_eq_true rfl, Nat.le_of_ble_eq_true rfl⟩) hS (fun q _ h => hFc q h) hFc (fun u_11 t9 H locs ht9 hvm hw hB hz1 hk1 hS => ?_)
          obtain ⟨I11, J11, E11, B11⟩ := u_11
          obtain ⟨hP1, hD1⟩ := hB
          rw [ht9] at hP1
          clear hI hE
          obtain ⟨hI, hE, xu_11I, wu_11⟩ := hw
          dsimp only at hI hE xu_11I wu_11
          have hP : va_P G vwCl (WC cy L K R I11 J11 E11 B11) H := hP1
          have hD : va_D A (WC cy L K R I11 J11 E11 B11) := hD1.weaken (fun _ _ _ h => hFc _ h)
          clear hFc hk1 hz1 hP1 hD1
          replace hC_0 := FI.tr hC_0 xu_11I (by decide)
          replace hX_4 := FI.tr hX_4 xu_11I (by decide)
          refine lv_iload_n hx hb dX6_readTown_113 rfl (lv_at hl 1 rfl) ?_
          refine W.widen (k := 0) (n := 0) (Nat.le_of_ble_eq_true rfl) (Nat.le_of_ble_eq_true rfl) ?_
          exact W.zret (v := x1_4) hx hb hr (ow_nb (by omega)) (fun t ht9 hW => ⟨⟨x1_4, (I11, J11, E11, B11), rfl, ⟨hI, hE, hC_0, (by omega)⟩, ⟨by rw [ht9]; exact hP, hD⟩⟩, hS.F ht9⟩) hS.2.2 dX6_readTown_114
      · have q_12 : x2_4.toInt < (1700 : Int32).toInt := by have := (not_congr (ow_le _ _)).mp c_5; omega
        refine lv_iload_n hx hb dX6_readTown_22 rfl (lv_at hl 1 rfl) ?_
        refine lv_if_eq (tgt := 99) hx hb dX6_readTown_23 (by decide) (fun c_13 => ?_) (fun c_13 => ?_)
        · have q_14 : x1_4.toInt = (0 : Int32).toInt := (ow_eq _ _).mp c_13
          refine lv_aload_n hx hb dX6_readTown_99 rfl (lv_at hl 2 rfl) ?_
          refine cg_12_8_6 hx hb ht hown hK hN hP hthis.1 hthis.2 dX6_readTown_100 ?_
          have q_15 : 0 ≤ (I4 this 8).toInt ∧ (I4 this 8).toInt ≤ 1 := IV.rd hI hthis.1 hthis.2 8
          refine lv_if_ne (tgt := 113) hx hb dX6_readTown_103 (by decide) (fun c_16 => ?_) (fun c_16 => ?_)
          · have q_17 : ¬ (I4 this 8).toInt = (0 : Int32).toInt := by have := (not_congr (ow_eq _ _)).mp c_16; omega
            refine lv_iload_n hx hb dX6_readTown_113 rfl (lv_at hl 1 rfl) ?_
            refine W.widen (k := 0) (n := 0) (Nat.le_of_ble_eq_true rfl) (Nat.le_of_ble_eq_true rfl) ?_
            exact W.zret (v := x1_4) hx hb hr (ow_nb (by omega)) (fun t ht9 hW => ⟨⟨x1_4, (I4, J4, E4, B4), rfl, ⟨hI, hE, hC_0, (by omega)⟩, ⟨by rw [ht9]; exact hP, hD⟩⟩, hS.F ht9⟩) hS.2.2 dX6_readTown_114
          · have q_18 : (I4 this 8).toInt = (0 : Int32).toInt := (ow_eq _ _).mp c_16
            refine lv_aload_n hx hb dX6_readTown_106 rfl (lv_at hl 2 rfl) ?_
            refine cg_12_2_6 hx hb ht hown hK hN hP hthis.1 hthis.2 dX6_readTown_107 ?_
            have hFc := fr_free hD hS hA
            refine va_callv (va_runV (As := []) (rest := []) ⟨hx, hb, hml, hown, ht⟩ (r_sweeten l G cy _ tq qq wq fo L K R T I4 E4 J4 B4 (R this 2) hRT hI hE hm_1.1 hm_1.2) (cwV 0 ht (gv k_725 k_726 k_727 k_461 k_724) rfl rfl rfl (by decide +kernel) ⟨Nat.le_of_ble_eq_true rfl, Nat.le_of_ble_eq_true rfl⟩) ⟨EnX.blind, cr_1 hK hP hm_1.1 hm_1.2, fun U hU hW => ⟨rfl, En.of hU hW hP hK hD hN, XK.of hX hS hFc hU hW⟩⟩ rfl rfl hl.1 rfl (lv_room (Nat.le_of_ble_eq_true rfl)) dX6_readTown_110 ⟨Nat.le_of_ble_eq_true rfl, Nat.le_of_ble_eq_true rfl⟩) hS (fun q _ h => hFc q h) hFc (fun u_19 t9 H locs ht9 hvm hw hB hz1 hk1 hS => ?_)
            obtain ⟨I19, J19, E19, B19⟩ := u_19
            obtain ⟨hP1, hD1⟩ := hB
            rw [ht9] at hP1
            clear hI hE
            obtain ⟨hI, hE, xu_19I, wu_19⟩ := hw
            dsimp only at hI hE xu_19I wu_19
            have hP : va_P G vwCl (WC cy L K R I19 J19 E19 B19) H := hP1
            have hD : va_D A (WC cy L K R I19 J19 E19 B19) := hD1.weaken (fun _ _ _ h => hFc _ h)
            clear hFc hk1 hz1 hP1 hD1
            replace hC_0 := FI.tr hC_0 xu_19I (by decide)
            replace hX_4 := FI.tr hX_4 xu_19I (by decide)
            refine lv_iload_n hx hb dX6_readTown_113 rfl (lv_at hl 1 rfl) ?_
            refine W.widen (k := 0) (n := 0) (Nat.le_of_ble_eq_true rfl) (Nat.le_of_ble_eq_true rfl) ?_
            exact W.zret (v := x1_4) hx hb hr (ow_nb (by omega)) (fun t ht9 hW => ⟨⟨x1_4, (I19, J19, E19, B19), rfl, ⟨hI, hE, hC_0, (by omega)⟩, ⟨by rw [ht9]; exact hP, hD⟩⟩, hS.F ht9⟩) hS.2.2 dX6_readTown_114
        · have q_20 : ¬ x1_4.toInt = (0 : Int32).toInt := by have := (not_congr (ow_eq _ _)).mp c_13; omega
          refine lv_aload_n hx hb dX6_readTown_26 rfl (lv_at hl 2 rfl) ?_
          refine cg_12_4_6 hx hb ht hown hK hN hP hthis.1 hthis.2 dX6_readTown_27 ?_
          refine lv_bipush (v := 17) hx hb dX6_readTown_30 (by decide) ?_
          refine lv_icmp_eq (tgt := 99) hx hb dX6_readTown_32 (by decide) (fun c_21 => ?_) (fun c_21 => ?_)
          · have q_22 : (I4 this 4).toInt = (17 : Int32).toInt := (ow_eq _ _).mp c_21
            refine lv_aload_n hx hb dX6_readTown_99 rfl (lv_at hl 2 rfl) ?_
            refine cg_12_8_6 hx hb ht hown hK hN hP hthis.1 hthis.2 dX6_readTown_100 ?_
            have q_23 : 0 ≤ (I4 this 8).toInt ∧ (I4 this 8).toInt ≤ 1 := IV.rd hI hthis.1 hthis.2 8
            refine lv_if_ne (tgt := 113) hx hb dX6_readTown_103 (by decide) (fun c_24 => ?_) (fun c_24 => ?_)
            · have q_25 : ¬ (I4 this 8).toInt = (0 : Int32).toInt := by have := (not_congr (ow_eq _ _)).mp c_24; omega
              refine lv_iload_n hx hb dX6_readTown_113 rfl (lv_at hl 1 rfl) ?_
              refine W.widen (k := 0) (n := 0) (Nat.le_of_ble_eq_true rfl) (Nat.le_of_ble_eq_true rfl) ?_
              exact W.zret (v := x1_4) hx hb hr (ow_nb (by omega)) (fun t ht9 hW => ⟨⟨x1_4, (I4, J4, E4, B4), rfl, ⟨hI, hE, hC_0, (by omega)⟩, ⟨by rw [ht9]; exact hP, hD⟩⟩, hS.F ht9⟩) hS.2.2 dX6_readTown_114
            · have q_26 : (I4 this 8).toInt = (0 : Int32).toInt := (ow_eq _ _).mp c_24
              refine lv_aload_n hx hb dX6_readTown_106 rfl (lv_at hl 2 rfl) ?_
              refine cg_12_2_6 hx hb ht hown hK hN hP hthis.1 hthis.2 dX6_readTown_107 ?_
              have hFc := fr_free hD hS hA
              refine va_callv (va_runV (As := []) (rest := []) ⟨hx, hb, hml, hown, ht⟩ (r_sweeten l G cy _ tq qq wq fo L K R T I4 E4 J4 B4 (R this 2) hRT hI hE hm_1.1 hm_1.2) (cwV 0 ht (gv k_725 k_726 k_727 k_461 k_724) rfl rfl rfl (by decide +kernel) ⟨Nat.le_of_ble_eq_true rfl, Nat.le_of_ble_eq_true rfl⟩) ⟨EnX.blind, cr_1 hK hP hm_1.1 hm_1.2, fun U hU hW => ⟨rfl, En.of hU hW hP hK hD hN, XK.of hX hS hFc hU hW⟩⟩ rfl rfl hl.1 rfl (lv_room (Nat.le_of_ble_eq_true rfl)) dX6_readTown_110 ⟨Nat.le_of_ble_eq_true rfl, Nat.le_of_ble_eq_true rfl⟩) hS (fun q _ h => hFc q h) hFc (fun u_27 t9 H locs ht9 hvm hw hB hz1 hk1 hS => ?_)
              obtain ⟨I27, J27, E27, B27⟩ := u_27
              obtain ⟨hP1, hD1⟩ := hB
              rw [ht9] at hP1
              clear hI hE
              obtain ⟨hI, hE, xu_27I, wu_27⟩ := hw
              dsimp only at hI hE xu_27I wu_27
              have hP : va_P G vwCl (WC cy L K R I27 J27 E27 B27) H := hP1
              have hD : va_D A (WC cy L K R I27 J27 E27 B27) := hD1.weaken (fun _ _ _ h => hFc _ h)
              clear hFc hk1 hz1 hP1 hD1
              replace hC_0 := FI.tr hC_0 xu_27I (by decide)
              replace hX_4 := FI.tr hX_4 xu_27I (by decide)
              refine lv_iload_n hx hb dX6_readTown_113 rfl (lv_at hl 1 rfl) ?_
              refine W.widen (k := 0) (n := 0) (Nat.le_of_ble_eq_true rfl) (Nat.le_of_ble_eq_true rfl) ?_
              exact W.zret (v := x1_4) hx hb hr (ow_nb (by omega)) (fun t ht9 hW => ⟨⟨x1_4, (I27, J27, E27, B27), rfl, ⟨hI, hE, hC_0, (by omega)⟩, ⟨by rw [ht9]; exact hP, hD⟩⟩, hS.F ht9⟩) hS.2.2 dX6_readTown_114
          · have q_28 : ¬ (I4 this 4).toInt = (17 : Int32).toInt := by have := (not_congr (ow_eq _ _)).mp c_21; omega
            refine lv_aload_n hx hb dX6_readTown_35 rfl (lv_at hl 2 rfl) ?_
            refine cg_12_4_6 hx hb ht hown hK hN hP hthis.1 hthis.2 dX6_readTown_36 ?_
            by_cases sw_29 : (I4 this 4).toInt < 0 ∨ 2 < (I4 this 4).toInt
            · refine lv_tableOut (tgt := 88) hx hb dX6_readTown_39 (by omega) (by decide) ?_
              refine lv_aload_n hx hb dX6_readTown_88 rfl (lv_at hl 2 rfl) ?_
              have hFc := fr_free hD hS hA
              refine va_calli (va_runV (As := []) (rest := []) ⟨hx, hb, hml, hown, ht⟩ (r_refuse l G cy _ L K R T I4 E4 J4 B4 this hRT hI hE hthis.1 hthis.2) (cwV 0 ht (gv k_663 k_664 k_665 k_633 k_662) rfl rfl rfl (by decide +kernel) ⟨Nat.le_of_ble_eq_true rfl, Nat.le_of_ble_eq_true rfl⟩) ⟨En.blind, cr_12 hK hP hthis.1 hthis.2, fun U hU hW => ⟨rfl, En.of hU hW hP hK hD hN⟩⟩ rfl rfl hl.1 rfl (lv_room (Nat.le_of_ble_eq_true rfl)) dX6_readTown_89 ⟨Nat.le_of_ble_eq_true rfl, Nat.le_of_ble_eq_true rfl⟩) hS (fun q _ h => hFc q h) hFc (fun r_u_30 u_30 t9 H locs ht9 hvm hw hB hz1 hk1 hS => ?_)
              obtain ⟨I30, J30, E30, B30⟩ := u_30
              obtain ⟨hP1, hD1⟩ := hB
              rw [ht9] at hP1
              clear hI hE
              obtain ⟨hI, hE, xu_30I, wu_30⟩ := hw
              dsimp only at hI hE xu_30I wu_30
              have hP : va_P G vwCl (WC cy L K R I30 J30 E30 B30) H := hP1
              have hD : va_D A (WC cy L K R I30 J30 E30 B30) := hD1.weaken (fun _ _ _ h => hFc _ h)
              clear hFc hk1 hz1 hP1 hD1
              replace hC_0 := FI.tr hC_0 xu_30I (by decide)
              replace hX_4 := FI.tr hX_4 xu_30I (by decide)
              obtain rfl : r_u_30 = 0 := (ow_eq _ _).mpr (by omega)
              refine lv_istore_n (lv' := [(1, .int 0), (2, .int x2_4), (0, .ref this)]) hx hb dX6_readTown_92 rfl hl (by decide) rfl (fun ls hl => ?_)
              obtain ⟨v_31, ev_31⟩ : ∃ y : Int32, y = x2_4 + 1 := ⟨_, rfl⟩
              refine lv_iinc (v := v_31) (lv' := [(2, .int v_31), (1, .int 0), (0, .ref this)]) hx hb dX6_readTown_93 hl (k := 1) rfl (by rw [ev_31]; rfl) (by decide) rfl (fun ls hl => ?_)
              have q_32 : v_31.toInt = x2_4.toInt + 1 := by have := ow_add ev_31 (by omega) (by omega); omega
              refine lv_goto (tgt := 15) hx hb dX6_readTown_96 (by decide) ?_
              refine W.widen (k := 0) (n := 0) (Nat.le_of_ble_eq_true rfl) (Nat.le_of_ble_eq_true rfl) ?_
              exact ih_4 v_31 (0) I30 J30 E30 B30 _ _ _ hI hE hX_4 (by omega) (by omega) (by omega) hP hD hS (lv_sub hl [0, 1, 2] rfl)
            · have h3sw_29 : (I4 this 4).toInt = 0 ∨ (I4 this 4).toInt = 1 ∨ (I4 this 4).toInt = 2 := by omega
              rcases h3sw_29 with h3sw_29 | h3sw_29 | h3sw_29
              · refine ow_top 0 ((ow_eq _ _).mpr (by rw [h3sw_29]; decide)) ?_
                refine lv_tableIn (tgt := 64) hx hb dX6_readTown_39 (by decide +kernel) (by decide +kernel) rfl (by decide) ?_
                refine lv_aload_n hx hb dX6_readTown_64 rfl (lv_at hl 2 rfl) ?_
                have hFc := fr_free hD hS hA
                refine va_calli (va_runV (As := []) (rest := []) ⟨hx, hb, hml, hown, ht⟩ (r_readTune l G cy _ tq qq wq fo L K R T I4 E4 J4 B4 this hRT hI hE hthis.1 hthis.2) (cwV 0 ht (gv k_729 k_730 k_731 k_633 k_728) rfl rfl rfl (by decide +kernel) ⟨Nat.le_of_ble_eq_true rfl, Nat.le_of_ble_eq_true rfl⟩) ⟨EnX.blind, cr_12 hK hP hthis.1 hthis.2, fun U hU hW => ⟨rfl, En.of hU hW hP hK hD hN, XK.of hX hS hFc hU hW⟩⟩ rfl rfl hl.1 rfl (lv_room (Nat.le_of_ble_eq_true rfl)) dX6_readTown_65 ⟨Nat.le_of_ble_eq_true rfl, Nat.le_of_ble_eq_true rfl⟩) hS (fun q _ h => hFc q h) hFc (fun r_u_33 u_33 t9 H locs ht9 hvm hw hB hz1 hk1 hS => ?_)
                obtain ⟨I33, J33, E33, B33⟩ := u_33
                obtain ⟨hP1, hD1⟩ := hB
                rw [ht9] at hP1
                clear hI hE
                obtain ⟨hI, hE, xu_33I, wu_33⟩ := hw
                dsimp only at hI hE xu_33I wu_33
                have hP : va_P G vwCl (WC cy L K R I33 J33 E33 B33) H := hP1
                have hD : va_D A (WC cy L K R I33 J33 E33 B33) := hD1.weaken (fun _ _ _ h => hFc _ h)
                clear hFc hk1 hz1 hP1 hD1
                replace hC_0 := FI.tr hC_0 xu_33I (by decide)
                replace hX_4 := FI.tr hX_4 xu_33I (by decide)
                refine lv_istore_n (lv' := [(1, .int r_u_33), (2, .int x2_4), (0, .ref this)]) hx hb dX6_readTown_68 rfl hl (by decide) rfl (fun ls hl => ?_)
                refine lv_goto (tgt := 93) hx hb dX6_readTown_69 (by decide) ?_
                obtain ⟨v_34, ev_34⟩ : ∃ y : Int32, y = x2_4 + 1 := ⟨_, rfl⟩
                refine lv_iinc (v := v_34) (lv' := [(2, .int v_34), (1, .int r_u_33), (0, .ref this)]) hx hb dX6_readTown_93 hl (k := 1) rfl (by rw [ev_34]; rfl) (by decide) rfl (fun ls hl => ?_)
                have q_35 : v_34.toInt = x2_4.toInt + 1 := by have := ow_add ev_34 (by omega) (by omega); omega
                refine lv_goto (tgt := 15) hx hb dX6_readTown_96 (by decide) ?_
                refine W.widen (k := 0) (n := 0) (Nat.le_of_ble_eq_true rfl) (Nat.le_of_ble_eq_true rfl) ?_
                exact ih_4 v_34 r_u_33 I33 J33 E33 B33 _ _ _ hI hE hX_4 (by omega) (by omega) (by omega) hP hD hS (lv_sub hl [0, 1, 2] rfl)
              · refine ow_top 1 ((ow_eq _ _).mpr (by rw [h3sw_29]; decide)) ?_
                refine lv_tableIn (tgt := 72) hx hb dX6_readTown_39 (by decide +kernel) (by decide +kernel) rfl (by decide) ?_
                refine lv_aload_n hx hb dX6_readTown_72 rfl (lv_at hl 2 rfl) ?_
                have hFc := fr_free hD hS hA
                refine va_calli (va_runV (As := []) (rest := []) ⟨hx, hb, hml, hown, ht⟩ (r_readLock l G cy _ tq qq wq fo L K R T I4 E4 J4 B4 this hRT hI hE hthis.1 hthis.2) (cwV 0 ht (gv k_733 k_734 k_735 k_633 k_732) rfl rfl rfl (by decide +kernel) ⟨Nat.le_of_ble_eq_true rfl, Nat.le_of_ble_eq_true rfl⟩) ⟨EnX.blind, cr_12 hK hP hthis.1 hthis.2, fun U hU hW => ⟨rfl, En.of hU hW hP hK hD hN, XK.of hX hS hFc hU hW⟩⟩ rfl rfl hl.1 rfl (lv_room (Nat.le_of_ble_eq_true rfl)) dX6_readTown_73 ⟨Nat.le_of_ble_eq_true rfl, Nat.le_of_ble_eq_true rfl⟩) hS (fun q _ h => hFc q h) hFc (fun r_u_36 u_36 t9 H locs ht9 hvm hw hB hz1 hk1 hS => ?_)
                obtain ⟨I36, J36, E36, B36⟩ := u_36
                obtain ⟨hP1, hD1⟩ := hB
                rw [ht9] at hP1
                clear hI hE
                obtain ⟨hI, hE, xu_36I, wu_36⟩ := hw
                dsimp only at hI hE xu_36I wu_36
                have hP : va_P G vwCl (WC cy L K R I36 J36 E36 B36) H := hP1
                have hD : va_D A (WC cy L K R I36 J36 E36 B36) := hD1.weaken (fun _ _ _ h => hFc _ h)
                clear hFc hk1 hz1 hP1 hD1
                replace hC_0 := FI.tr hC_0 xu_36I (by decide)
                replace hX_4 := FI.tr hX_4 xu_36I (by decide)
                refine lv_istore_n (lv' := [(1, .int r_u_36), (2, .int x2_4), (0, .ref this)]) hx hb dX6_readTown_76 rfl hl (by decide) rfl (fun ls hl => ?_)
                refine lv_goto (tgt := 93) hx hb dX6_readTown_77 (by decide) ?_
                obtain ⟨v_37, ev_37⟩ : ∃ y : Int32, y = x2_4 + 1 := ⟨_, rfl⟩
                refine lv_iinc (v := v_37) (lv' := [(2, .int v_37), (1, .int r_u_36), (0, .ref this)]) hx hb dX6_readTown_93 hl (k := 1) rfl (by rw [ev_37]; rfl) (by decide) rfl (fun ls hl => ?_)
                have q_38 : v_37.toInt = x2_4.toInt + 1 := by have := ow_add ev_37 (by omega) (by omega); omega
                refine lv_goto (tgt := 15) hx hb dX6_readTown_96 (by decide) ?_
                refine W.widen (k := 0) (n := 0) (Nat.le_of_ble_eq_true rfl) (Nat.le_of_ble_eq_true rfl) ?_
                exact ih_4 v_37 r_u_36 I36 J36 E36 B36 _ _ _ hI hE hX_4 (by omega) (by omega) (by omega) hP hD hS (lv_sub hl [0, 1, 2] rfl)
              · refine ow_top 2 ((ow_eq _ _).mpr (by rw [h3sw_29]; decide)) ?_
                refine lv_tableIn (tgt := 80) hx hb dX6_readTown_39 (by decide +kernel) (by decide +kernel) rfl (by decide) ?_
                refine lv_aload_n hx hb dX6_readTown_80 rfl (lv_at hl 2 rfl) ?_
                have hFc := fr_free hD hS hA
                refine va_calli (va_runV (As := []) (rest := []) ⟨hx, hb, hml, hown, ht⟩ (r_readSweet l G cy _ tq qq wq fo L K R T I4 E4 J4 B4 this hRT hI hE hthis.1 hthis.2) (cwV 0 ht (gv k_737 k_738 k_739 k_633 k_736) rfl rfl rfl (by decide +kernel) ⟨Nat.le_of_ble_eq_true rfl, Nat.le_of_ble_eq_true rfl⟩) ⟨EnX.blind, cr_12 hK hP hthis.1 hthis.2, fun U hU hW => ⟨rfl, En.of hU hW hP hK hD hN, XK.of hX hS hFc hU hW⟩⟩ rfl rfl hl.1 rfl (lv_room (Nat.le_of_ble_eq_true rfl)) dX6_readTown_81 ⟨Nat.le_of_ble_eq_true rfl, Nat.le_of_ble_eq_true rfl⟩) hS (fun q _ h => hFc q h) hFc (fun r_u_39 u_39 t9 H locs ht9 hvm hw hB hz1 hk1 hS => ?_)
                obtain ⟨I39, J39, E39, B39⟩ := u_39
                obtain ⟨hP1, hD1⟩ := hB
                rw [ht9] at hP1
                clear hI hE
                obtain ⟨hI, hE, xu_39I, wu_39⟩ := hw
                dsimp only at hI hE xu_39I wu_39
                have hP : va_P G vwCl (WC cy L K R I39 J39 E39 B39) H := hP1
                have hD : va_D A (WC cy L K R I39 J39 E39 B39) := hD1.weaken (fun _ _ _ h => hFc _ h)
                clear hFc hk1 hz1 hP1 hD1
                replace hC_0 := FI.tr hC_0 xu_39I (by decide)
                replace hX_4 := FI.tr hX_4 xu_39I (by decide)
                refine lv_istore_n (lv' := [(1, .int r_u_39), (2, .int x2_4), (0, .ref this)]) hx hb dX6_readTown_84 rfl hl (by decide) rfl (fun ls hl => ?_)
                refine lv_goto (tgt := 93) hx hb dX6_readTown_85 (by decide) ?_
                obtain ⟨v_40, ev_40⟩ : ∃ y : Int32, y = x2_4 + 1 := ⟨_, rfl⟩
                refine lv_iinc (v := v_40) (lv' := [(2, .int v_40), (1, .int r_u_39), (0, .ref this)]) hx hb dX6_readTown_93 hl (k := 1) rfl (by rw [ev_40]; rfl) (by decide) rfl (fun ls hl => ?_)
                have q_41 : v_40.toInt = x2_4.toInt + 1 := by have := ow_add ev_40 (by omega) (by omega); omega
                refine lv_goto (tgt := 15) hx hb dX6_readTown_96 (by decide) ?_
                refine W.widen (k := 0) (n := 0) (Nat.le_of_ble_eq_true rfl) (Nat.le_of_ble_eq_true rfl) ?_
                exact ih_4 v_40 r_u_39 I39 J39 E39 B39 _ _ _ hI hE hX_4 (by omega) (by omega) (by omega) hP hD hS (lv_sub hl [0, 1, 2] rfl)
  exact lp_4 _ (0) (1) I3 J3 E3 B3 _ _ _ hI hE FI.rf (by omega) (by omega) (Nat.lt_succ_self _) hP hD hS (lv_sub hl [0, 1, 2] rfl)
