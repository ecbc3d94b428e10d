theorem k_766 : (Cond.methodLink RX6 3 objectInit) ∈ TBg := tb_mem 471 (by decide +kernel) (by decide +kernel)
theorem k_767 : (Cond.instanceMethod objectInit) ∈ TBg := tb_mem 111 (by decide +kernel) (by decide +kernel)
theorem k_768 : (Cond.code objectInit ⟨#[0xb1]⟩ 1 none) ∈ TBg := tb_mem 112 (by decide +kernel) (by decide +kernel)
theorem k_769 : (Cond.methodLink RX6 19 Lib.Math.min.name) ∈ TBg := tb_mem 472 (by decide +kernel) (by decide +kernel)
theorem k_770 : (Cond.classLink RX11 80 RX6) ∈ TBg := tb_mem 466 (by decide +kernel) (by decide +kernel)
theorem k_771 : (Cond.instantiable RX6 11) ∈ TBg := tb_mem 467 (by decide +kernel) (by decide +kernel)
theorem k_772 : (Cond.code yX6_init cX6_init 4 none) ∈ TBg := tb_mem 470 (by decide +kernel) (by decide +kernel)
theorem k_773 : (Cond.methodLink RX11 82 yX6_init) ∈ TBg := tb_mem 468 (by decide +kernel) (by decide +kernel)
theorem k_774 : (Cond.instanceMethod yX6_init) ∈ TBg := tb_mem 469 (by decide +kernel) (by decide +kernel)
theorem k_775 : (Cond.code yX6_readTown cX6_readTown 3 (some .boolean)) ∈ TBg := tb_mem 514 (by decide +kernel) (by decide +kernel)
theorem k_776 : (Cond.methodLink RX11 85 yX6_readTown) ∈ TBg := tb_mem 511 (by decide +kernel) (by decide +kernel)
theorem k_777 : (Cond.instanceMethod yX6_readTown) ∈ TBg := tb_mem 512 (by decide +kernel) (by decide +kernel)
theorem k_778 : (Cond.selects RX6 yX6_readTown yX6_readTown) ∈ TBg := tb_mem 513 (by decide +kernel) (by decide +kernel)
theorem k_779 : (Cond.code yX9_prepare cX9_prepare 2 none) ∈ TBg := tb_mem 681 (by decide +kernel) (by decide +kernel)
theorem k_780 : (Cond.methodLink RX11 98 yX9_prepare) ∈ TBg := tb_mem 678 (by decide +kernel) (by decide +kernel)
theorem k_781 : (Cond.instanceMethod yX9_prepare) ∈ TBg := tb_mem 679 (by decide +kernel) (by decide +kernel)
theorem k_782 : (Cond.selects RX9 yX9_prepare yX9_prepare) ∈ TBg := tb_mem 680 (by decide +kernel) (by decide +kernel)
theorem k_783 : (Cond.code yX7_clear cX7_clear 1 none) ∈ TBg := tb_mem 747 (by decide +kernel) (by decide +kernel)
theorem k_784 : (Cond.methodLink RX11 101 yX7_clear) ∈ TBg := tb_mem 744 (by decide +kernel) (by decide +kernel)
theorem k_785 : (Cond.instanceMethod yX7_clear) ∈ TBg := tb_mem 745 (by decide +kernel) (by decide +kernel)
theorem k_786 : (Cond.selects RX7 yX7_clear yX7_clear) ∈ TBg := tb_mem 746 (by decide +kernel) (by decide +kernel)
theorem k_787 : (Cond.code yX10_clear cX10_clear 1 none) ∈ TBg := tb_mem 755 (by decide +kernel) (by decide +kernel)
theorem k_788 : (Cond.methodLink RX11 112 yX10_clear) ∈ TBg := tb_mem 752 (by decide +kernel) (by decide +kernel)
theorem k_789 : (Cond.instanceMethod yX10_clear) ∈ TBg := tb_mem 753 (by decide +kernel) (by decide +kernel)
theorem k_790 : (Cond.selects RX10 yX10_clear yX10_clear) ∈ TBg := tb_mem 754 (by decide +kernel) (by decide +kernel)
theorem dX6_init_0 : decode cX6_init 0 = .ok (.aload_n 0, 1) := by decide +kernel
theorem dX6_init_1 : decode cX6_init 1 = .ok (.invokespecial 3, 3) := by decide +kernel
theorem dX6_init_4 : decode cX6_init 4 = .ok (.aload_n 0, 1) := by decide +kernel
theorem dX6_init_5 : decode cX6_init 5 = .ok (.iconst (-1), 1) := by decide +kernel
theorem dX6_init_6 : decode cX6_init 6 = .ok (.putfield 9, 3) := by decide +kernel
theorem dX6_init_9 : decode cX6_init 9 = .ok (.aload_n 0, 1) := by decide +kernel
theorem dX6_init_10 : decode cX6_init 10 = .ok (.aload_n 1, 1) := by decide +kernel
theorem dX6_init_11 : decode cX6_init 11 = .ok (.putfield 15, 3) := by decide +kernel
theorem dX6_init_14 : decode cX6_init 14 = .ok (.aload_n 0, 1) := by decide +kernel
theorem dX6_init_15 : decode cX6_init 15 = .ok (.iload_n 2, 1) := by decide +kernel
theorem dX6_init_16 : decode cX6_init 16 = .ok (.aload_n 1, 1) := by decide +kernel
theorem dX6_init_17 : decode cX6_init 17 = .ok (.arraylength, 1) := by decide +kernel
theorem dX6_init_18 : decode cX6_init 18 = .ok (.invokestatic 19, 3) := by decide +kernel
theorem dX6_init_21 : decode cX6_init 21 = .ok (.putfield 25, 3) := by decide +kernel
theorem dX6_init_24 : decode cX6_init 24 = .ok (.aload_n 0, 1) := by decide +kernel
theorem dX6_init_25 : decode cX6_init 25 = .ok (.aload_n 3, 1) := by decide +kernel
theorem dX6_init_26 : decode cX6_init 26 = .ok (.putfield 28, 3) := by decide +kernel
theorem dX6_init_29 : decode cX6_init 29 = .ok (.return_, 1) := by decide +kernel
theorem dX11_town_0 : decode cX11_town 0 = .ok (.new 80, 3) := by decide +kernel
theorem dX11_town_3 : decode cX11_town 3 = .ok (.dup, 1) := by decide +kernel
theorem dX11_town_4 : decode cX11_town 4 = .ok (.aload_n 0, 1) := by decide +kernel
theorem dX11_town_5 : decode cX11_town 5 = .ok (.getfield 9, 3) := by decide +kernel
theorem dX11_town_8 : decode cX11_town 8 = .ok (.aload_n 0, 1) := by decide +kernel
theorem dX11_town_9 : decode cX11_town 9 = .ok (.getfield 73, 3) := by decide +kernel
theorem dX11_town_12 : decode cX11_town 12 = .ok (.aload_n 0, 1) := by decide +kernel
theorem dX11_town_13 : decode cX11_town 13 = .ok (.getfield 20, 3) := by decide +kernel
theorem dX11_town_16 : decode cX11_town 16 = .ok (.invokespecial 82, 3) := by decide +kernel
theorem dX11_town_19 : decode cX11_town 19 = .ok (.astore_n 1, 1) := by decide +kernel
theorem dX11_town_20 : decode cX11_town 20 = .ok (.aload_n 1, 1) := by decide +kernel
theorem dX11_town_21 : decode cX11_town 21 = .ok (.invokevirtual 85, 3) := by decide +kernel
theorem dX11_town_24 : decode cX11_town 24 = .ok (.istore_n 2, 1) := by decide +kernel
theorem dX11_town_25 : decode cX11_town 25 = .ok (.aload_n 0, 1) := by decide +kernel
theorem dX11_town_26 : decode cX11_town 26 = .ok (.aload_n 1, 1) := by decide +kernel
theorem dX11_town_27 : decode cX11_town 27 = .ok (.getfield 89, 3) := by decide +kernel
theorem dX11_town_30 : decode cX11_town 30 = .ok (.putfield 92, 3) := by decide +kernel
theorem dX11_town_33 : decode cX11_town 33 = .ok (.aload_n 0, 1) := by decide +kernel
theorem dX11_town_34 : decode cX11_town 34 = .ok (.aload_n 1, 1) := by decide +kernel
theorem dX11_town_35 : decode cX11_town 35 = .ok (.getfield 95, 3) := by decide +kernel
theorem dX11_town_38 : decode cX11_town 38 = .ok (.putfield 23, 3) := by decide +kernel
theorem dX11_town_41 : decode cX11_town 41 = .ok (.iload_n 2, 1) := by decide +kernel
theorem dX11_town_42 : decode cX11_town 42 = .ok (.ifCond .ne 5, 3) := by decide +kernel
theorem dX11_town_47 : decode cX11_town 47 = .ok (.aload_n 0, 1) := by decide +kernel
theorem dX11_town_48 : decode cX11_town 48 = .ok (.getfield 20, 3) := by decide +kernel
theorem dX11_town_51 : decode cX11_town 51 = .ok (.astore_n 3, 1) := by decide +kernel
theorem dX11_town_52 : decode cX11_town 52 = .ok (.aload_n 0, 1) := by decide +kernel
theorem dX11_town_53 : decode cX11_town 53 = .ok (.aload_n 0, 1) := by decide +kernel
theorem dX11_town_54 : decode cX11_town 54 = .ok (.getfield 16, 3) := by decide +kernel
theorem dX11_town_57 : decode cX11_town 57 = .ok (.putfield 20, 3) := by decide +kernel
theorem dX11_town_60 : decode cX11_town 60 = .ok (.aload_n 0, 1) := by decide +kernel
theorem dX11_town_61 : decode cX11_town 61 = .ok (.aload_n 3, 1) := by decide +kernel
theorem dX11_town_62 : decode cX11_town 62 = .ok (.putfield 16, 3) := by decide +kernel
theorem dX11_town_65 : decode cX11_town 65 = .ok (.aload_n 0, 1) := by decide +kernel
theorem dX11_town_66 : decode cX11_town 66 = .ok (.getfield 16, 3) := by decide +kernel
theorem dX11_town_69 : decode cX11_town 69 = .ok (.invokevirtual 98, 3) := by decide +kernel
theorem dX11_town_72 : decode cX11_town 72 = .ok (.aload_n 0, 1) := by decide +kernel
theorem dX11_town_73 : decode cX11_town 73 = .ok (.iconst 0, 1) := by decide +kernel
theorem dX11_town_74 : decode cX11_town 74 = .ok (.putfield 73, 3) := by decide +kernel
theorem dX11_town_77 : decode cX11_town 77 = .ok (.aload_n 0, 1) := by decide +kernel
theorem dX11_town_78 : decode cX11_town 78 = .ok (.getfield 30, 3) := by decide +kernel
theorem dX11_town_81 : decode cX11_town 81 = .ok (.invokevirtual 101, 3) := by decide +kernel
theorem dX11_town_84 : decode cX11_town 84 = .ok (.aload_n 0, 1) := by decide +kernel
theorem dX11_town_85 : decode cX11_town 85 = .ok (.getfield 41, 3) := by decide +kernel
theorem dX11_town_88 : decode cX11_town 88 = .ok (.aload_n 0, 1) := by decide +kernel
theorem dX11_town_89 : decode cX11_town 89 = .ok (.getfield 30, 3) := by decide +kernel
theorem dX11_town_92 : decode cX11_town 92 = .ok (.getfield 104, 3) := by decide +kernel
theorem dX11_town_95 : decode cX11_town 95 = .ok (.aload_n 0, 1) := by decide +kernel
theorem dX11_town_96 : decode cX11_town 96 = .ok (.getfield 16, 3) := by decide +kernel
theorem dX11_town_99 : decode cX11_town 99 = .ok (.invokevirtual 108, 3) := by decide +kernel
theorem dX11_town_102 : decode cX11_town 102 = .ok (.aload_n 0, 1) := by decide +kernel
theorem dX11_town_103 : decode cX11_town 103 = .ok (.getfield 48, 3) := by decide +kernel
theorem dX11_town_106 : decode cX11_town 106 = .ok (.invokevirtual 112, 3) := by decide +kernel
theorem dX11_town_109 : decode cX11_town 109 = .ok (.iconst 0, 1) := by decide +kernel
theorem dX11_town_110 : decode cX11_town 110 = .ok (.istore 4, 2) := by decide +kernel
theorem dX11_town_112 : decode cX11_town 112 = .ok (.iload 4, 2) := by decide +kernel
theorem dX11_town_114 : decode cX11_town 114 = .ok (.aload_n 0, 1) := by decide +kernel
theorem dX11_town_115 : decode cX11_town 115 = .ok (.getfield 34, 3) := by decide +kernel
theorem dX11_town_118 : decode cX11_town 118 = .ok (.arraylength, 1) := by decide +kernel
theorem dX11_town_119 : decode cX11_town 119 = .ok (.if_icmp .ge 19, 3) := by decide +kernel
theorem dX11_town_138 : decode cX11_town 138 = .ok (.aload_n 0, 1) := by decide +kernel
theorem dX11_town_139 : decode cX11_town 139 = .ok (.getfield 16, 3) := by decide +kernel
theorem dX11_town_142 : decode cX11_town 142 = .ok (.getfield 113, 3) := by decide +kernel
theorem dX11_town_145 : decode cX11_town 145 = .ok (.ireturn, 1) := by decide +kernel
theorem dX11_town_122 : decode cX11_town 122 = .ok (.aload_n 0, 1) := by decide +kernel
theorem dX11_town_123 : decode cX11_town 123 = .ok (.getfield 34, 3) := by decide +kernel
theorem dX11_town_126 : decode cX11_town 126 = .ok (.iload 4, 2) := by decide +kernel
theorem dX11_town_128 : decode cX11_town 128 = .ok (.aaload, 1) := by decide +kernel
theorem dX11_town_129 : decode cX11_town 129 = .ok (.invokevirtual 101, 3) := by decide +kernel
theorem dX11_town_132 : decode cX11_town 132 = .ok (.iinc 4 1, 3) := by decide +kernel
theorem dX11_town_135 : decode cX11_town 135 = .ok (.goto (-23), 3) := by decide +kernel
theorem dX11_town_45 : decode cX11_town 45 = .ok (.iconst (-1), 1) := by decide +kernel
theorem dX11_town_46 : decode cX11_town 46 = .ok (.ireturn, 1) := by decide +kernel
theorem lastAt (X : va_W) (q : Nat) (e : va_E) : (X ++ [(q, e)])[X.length]? = some (q, e) := by simp
theorem lastSet (X : va_W) (q : Nat) (e e' : va_E) : (X ++ [(q, e)]).set X.length (q, e') = X ++ [(q, e')] := by simp
theorem leftAt {X Y : va_W} {k : Nat} {x : Nat × va_E} (h : X[k]? = some x) : (X ++ Y)[k]? = some x := by
  rw [List.getElem?_append_left ((List.getElem?_eq_some_iff.mp h).1)]
  exact h
def rdR (tp tw : Nat) (j : Nat) : Nat := match j with | 0 => tp | 2 => tw | _ => 0
def rdI (u : Int32) (j : Nat) : Int32 := match j with | 1 => u | 10 => -1 | _ => 0
abbrev rdF (tp tw : Nat) (u : Int32) : List Value := [.ref tp, .int u, .ref tw, .int 0, .int 0, .int 0, .int 0, .long 0, .int 0, .int 0, .int (-1)]
theorem nq {L : List Nat} {q z : Nat} (hq : q ∉ L) (hz : z ∈ L) : z ≠ q := fun e => hq (by rw [← e]; exact hz)
section PUSH
variable {cy : Nat → ClassId} {L : List Nat} {K : Nat → Nat} {R : Nat → Nat → Nat} {I E : Nat → Nat → Int32} {J B : Nat → Nat → Int64} {q tp tw : Nat} {u : Int32} {T : Int} {G : va_G} {A : Nat → Prop} {H : Heap}
theorem wc_push (hq : q ∉ L) : WC cy L K R I J E B ++ [(q, .inr (6, rdF tp tw u))] = WC cy (L ++ [q]) (va_up K q 12) (va_up R q (rdR tp tw)) (va_up I q (rdI u)) (va_up J q (fun _ => 0)) E B := by
  refine (va_pl_push hq).trans (va_pl_congr (fun z => ?_))
  by_cases e : z = q
  · subst e
    rw [upeq, upeq, upeq, upeq, upeq]
    rfl
  · rw [upne e, upne e, upne e, upne e, upne e]
theorem rkO12 (j : Nat) (h : rkO 12 j ≠ 99) : j = 0 ∨ j = 2 := by
  unfold rkO at h
  split at h <;> first | exact absurd rfl h | simp_all
theorem rkO_no (k j : Nat) : rkO k j ≠ 12 := by
  unfold rkO
  split <;> decide
theorem rkA_no (k : Nat) : rkA k ≠ 12 := by
  unfold rkA
  split <;> decide
theorem RT.push (h : RT L K R) (hq : q ∉ L) (h1 : tp ∈ L) (h2 : K tp = 20) (h3 : tw ∈ L) (h4 : K tw = 1) : RT (L ++ [q]) (va_up K q 12) (va_up R q (rdR tp tw)) := fun z hz => by
  rcases List.mem_append.mp hz with hz | hz
  · have e : z ≠ q := nq hq hz
    rw [upne e, upne e]
    refine ⟨fun j hj => ?_, fun ha j hj => ?_⟩
    · obtain ⟨a1, a2⟩ := (h z hz).1 j hj
      exact ⟨List.mem_append_left _ a1, by rw [upne (nq hq a1)]; exact a2⟩
    · obtain ⟨a1, a2⟩ := (h z hz).2 ha j hj
      exact ⟨List.mem_append_left _ a1, by rw [upne (nq hq a1)]; exact a2⟩
  · obtain rfl := List.mem_singleton.mp hz
    rw [upeq, upeq]
    refine ⟨fun j hj => ?_, fun ha => absurd rfl ha⟩
    rcases rkO12 j hj with rfl | rfl
    · exact ⟨List.mem_append_left _ h1, by rw [show rdR tp tw 0 = tp from rfl, upne (nq hq h1)]; exact h2⟩
    · exact ⟨List.mem_append_left _ h3, by rw [show rdR tp tw 2 = tw from rfl, upne (nq hq h3)]; exact h4⟩
theorem rd_rg (hu : 0 ≤ u.toInt ∧ u.toInt ≤ 1700) (j : Nat) : loI T 12 j ≤ (rdI u j).toInt ∧ (rdI u j).toInt ≤ hiI T 12 j := by
  rcases j with _ | _ | _ | _ | _ | _ | _ | _ | _ | _ | _ | j
  · exact ow_any 0
  · exact hu
  · exact ow_any 0
  · exact ⟨show (0 : Int) ≤ (0 : Int32).toInt by decide, show (0 : Int32).toInt ≤ 1700 by decide⟩
  · exact ow_any 0
  · exact ⟨show (0 : Int) ≤ (0 : Int32).toInt by decide, show (0 : Int32).toInt ≤ 1700 by decide⟩
  · exact ow_any 0
  · exact ow_any 0
  · exact ⟨show (0 : Int) ≤ (0 : Int32).toInt by decide, show (0 : Int32).toInt ≤ 1 by decide⟩
  · exact ow_any 0
  · exact ow_any (-1)
  · exact ow_any 0
theorem IV.push (h : IV T L K I) (hq : q ∉ L) (hu : 0 ≤ u.toInt ∧ u.toInt ≤ 1700) : IV T (L ++ [q]) (va_up K q 12) (va_up I q (rdI u)) := fun z hz j => by
  rcases List.mem_append.mp hz with hz | hz
  · have e : z ≠ q := nq hq hz
    rw [upne e, upne e]
    exact h z hz j
  · obtain rfl := List.mem_singleton.mp hz
    rw [upeq, upeq]
    exact rd_rg hu j
theorem EV.push (h : EV L K E) (hq : q ∉ L) : EV (L ++ [q]) (va_up K q 12) E := fun z hz j hj => by
  rcases List.mem_append.mp hz with hz | hz
  · have e : z ≠ q := nq hq hz
    rw [upne e] at hj ⊢
    exact h z hz j hj
  · obtain rfl := List.mem_singleton.mp hz
    rw [upeq] at hj
    exact absurd hj (Nat.not_lt_zero _)
theorem IV.pop (hq : q ∉ L) (h : IV T (L ++ [q]) (va_up K q 12) I) : IV T L K I := fun z hz j => by
  have h1 := h z (List.mem_append_left _ hz) j
  rw [upne (nq hq hz)] at h1
  exact h1
theorem EV.pop (hq : q ∉ L) (h : EV (L ++ [q]) (va_up K q 12) E) : EV L K E := fun z hz j hj => by
  have h1 := h z (List.mem_append_left _ hz) j
  rw [upne (nq hq hz)] at h1
  exact h1 hj
theorem RT.pop (hq : q ∉ L) (h : RT (L ++ [q]) (va_up K q 12) R) : RT L K R := fun z hz => by
  have h1 := h z (List.mem_append_left _ hz)
  rw [upne (nq hq hz)] at h1
  refine ⟨fun j hj => ?_, fun ha j hj => ?_⟩
  · obtain ⟨a1, a2⟩ := h1.1 j hj
    have e : R z j ≠ q := fun e => by
      rw [e, upeq] at a2
      exact rkO_no _ _ a2.symm
    rw [upne e] at a2
    rcases List.mem_append.mp a1 with a1 | a1
    · exact ⟨a1, a2⟩
    · exact absurd (List.mem_singleton.mp a1) e
  · obtain ⟨a1, a2⟩ := h1.2 ha j hj
    have e : R z j ≠ q := fun e => by
      rw [e, upeq] at a2
      exact rkA_no _ a2.symm
    rw [upne e] at a2
    rcases List.mem_append.mp a1 with a1 | a1
    · exact ⟨a1, a2⟩
    · exact absurd (List.mem_singleton.mp a1) e
theorem wc_pop (hq : q ∉ L) (hP : va_P G vwCl (WC cy (L ++ [q]) (va_up K q 12) R I J E B) H) (hD : va_D A (WC cy (L ++ [q]) (va_up K q 12) R I J E B)) : va_P G vwCl (WC cy L K R I J E B) H ∧ va_D A (WC cy L K R I J E B) := by
  have e : WC cy (L ++ [q]) (va_up K q 12) R I J E B = WC cy L K R I J E B ++ [(q, mkE cy 12 (R q) (I q) (J q) (E q) (B q))] := by
    show (L ++ [q]).map _ = L.map _ ++ _
    rw [List.map_append]
    congr 1
    · refine List.map_congr_left (fun z hz => ?_)
      show (z, mkE cy (va_up K q 12 z) _ _ _ _ _) = (z, mkE cy (K z) _ _ _ _ _)
      rw [upne (nq hq hz)]
    · show [(q, mkE cy (va_up K q 12 q) _ _ _ _ _)] = _
      rw [upeq]
  rw [e] at hP hD
  exact fr_left hP hD
end PUSH
set_option maxHeartbeats 4000000 in
set_option maxRecDepth 100000 in
theorem r_init (l : Launch) (G : va_G) (cy : Nat → ClassId) (sz : Nat) (L : List Nat) (K : Nat → Nat) (R : Nat → Nat → Nat) (I E : Nat → Nat → Int32) (J B : Nat → Nat → Int64) (q tp tw : Nat) (n : Int32) (htp1 : tp ∈ L) (htp2 : K tp = 20) (hn : 0 ≤ n.toInt ∧ n.toInt ≤ 1700) : Met l yX6_init (.code yX6_init cX6_init 4 none :: TBg) ({ frames := 2, cells := 0, slots := 0, locals := 128 }) (va_Pc [.ref q, .ref tp, .int n, .ref tw] (En G cy ((WC cy L K R I J E B) ++ [(q, .inr (6, [.null, .int 0, .null, .int 0, .int 0, .int 0, .int 0, .long 0, .int 0, .int 0, .int 0]))]) sz)) (va_Qv (fun u : Int32 => 0 ≤ u.toInt ∧ u.toInt ≤ 1700) (fun u t => Ex G (va_A ((WC cy L K R I J E B) ++ [(q, .inr (6, [.null, .int 0, .null, .int 0, .int 0, .int 0, .int 0, .long 0, .int 0, .int 0, .int 0]))]) sz) ((WC cy L K R I J E B) ++ [(q, .inr (6, rdF tp tw u))]) t) (va_A ((WC cy L K R I J E B) ++ [(q, .inr (6, [.null, .int 0, .null, .int 0, .int 0, .int 0, .int 0, .long 0, .int 0, .int 0, .int 0]))]) sz)) 0 0 (va_A ((WC cy L K R I J E B) ++ [(q, .inr (6, [.null, .int 0, .null, .int 0, .int 0, .int 0, .int 0, .long 0, .int 0, .int 0, .int 0]))]) sz) := by
  refine Met.ofW (cc := cX6_init) (maxL := 4) (ret := none) (by decide) rfl ?_
  intro p e s m args below meth c s₁ B9 hml hv9
  obtain ⟨rfl, hsz, hP, hK, hD0, hN⟩ := hv9
  have hx := B9.exec
  have hb := B9.bytes
  have hr := B9.returns
  have hts := atoms_spec (ws := .code yX6_init cX6_init 4 none :: TBg) B9.pre
  have ht : ∀ w ∈ TBg, w.before _ s = true := fun w h => hts w (List.mem_cons_of_mem _ h)
  have hown : s.vm.findClass RX6 = some m.cls := findClass_of_methodNamed B9.named
  have hin : meth.name = "<init>" := (name_of_methodNamed B9.named B9.method).1
  subst hsz
  have hD := hD0.self (sz := s.heap.size)
  generalize hAe : va_A ((WC cy L K R I J E B) ++ [(q, .inr (6, [.null, .int 0, .null, .int 0, .int 0, .int 0, .int 0, .long 0, .int 0, .int 0, .int 0]))]) s.heap.size = A at hD ⊢
  have hA : ∀ q : Nat, s.heap.size ≤ q → A q := fun q h => by rw [← hAe]; exact Or.inr h
  have hS : va_S A s.heap s.heap [] := va_S.rf
  have hl := lv_entry ([.ref q, .ref tp, .int n, .ref tw]) (n := 4) (Nat.le_of_ble_eq_true rfl)
  rw [lg_entry_eq]
  generalize (lg_sl ([.ref q, .ref tp, .int n, .ref tw]) ++ List.replicate (4 - (lg_sl ([.ref q, .ref tp, .int n, .ref tw])).length) Slot.unset).toArray = ls at hl ⊢
  have hl : lv_has ls 4 [(0, .ref q), (1, .ref tp), (2, .int n), (3, .ref tw)] := hl
  refine lv_aload_n hx hb dX6_init_0 rfl (lv_at hl 0 rfl) ?_
  refine W.objInit hx hb hown (ht _ k_766) (ht _ k_767) (ht _ k_768) rfl (by rw [hml]; exact hl.1) rfl dX6_init_1 (Nat.le_of_ble_eq_true rfl) (Nat.le_of_ble_eq_true rfl) ?_
  refine W.eq (g2 := F0 m 4 ls []) rfl ?_
  refine lv_aload_n hx hb dX6_init_4 rfl (lv_at hl 0 rfl) ?_
  refine lv_iconst (v := -1) hx hb dX6_init_5 (by decide) ?_
  refine va_put (ci := 6) (v := .int (-1)) (ty := .int) (C := RX6) (T := TX6) (N := 11) hx hb ht iX6 tyX6 tyX6_ok nmX6 hown hK hP hD hS (WC cy L K R I J E B).length (lastAt _ _ _) rfl 10 (by decide) (ht _ k_358) (fun _ h9 => h9) rfl (by decide +kernel) rfl rfl (Nat.le_of_ble_eq_true rfl) dX6_init_6 (fun H locs hP hD hS => ?_)
  rw [lastSet] at hP hD
  have hP : va_P G vwCl ((WC cy L K R I J E B) ++ [(q, .inr (6, [.null, .int 0, .null, .int 0, .int 0, .int 0, .int 0, .long 0, .int 0, .int 0, .int (-1)]))]) H := hP
  have hD : va_D A ((WC cy L K R I J E B) ++ [(q, .inr (6, [.null, .int 0, .null, .int 0, .int 0, .int 0, .int 0, .long 0, .int 0, .int 0, .int (-1)]))]) := hD
  refine lv_aload_n hx hb dX6_init_9 rfl (lv_at hl 0 rfl) ?_
  refine lv_aload_n hx hb dX6_init_10 rfl (lv_at hl 1 rfl) ?_
  refine va_putF (ci := 6) (v := .ref tp) (ty := (.array .byte)) (C := RX6) (T := TX6) (N := 11) hx hb ht iX6 tyX6 tyX6_ok nmX6 hown hK hP hD hS (WC cy L K R I J E B).length (lastAt _ _ _) rfl 0 (by decide) (ht _ k_359) (fun _ h9 => h9) rfl hin rfl (by decide +kernel) rfl rfl (Nat.le_of_ble_eq_true rfl) dX6_init_11 (fun H locs hP hD hS => ?_)
  rw [lastSet] at hP hD
  have hP : va_P G vwCl ((WC cy L K R I J E B) ++ [(q, .inr (6, [.ref tp, .int 0, .null, .int 0, .int 0, .int 0, .int 0, .long 0, .int 0, .int 0, .int (-1)]))]) H := hP
  have hD : va_D A ((WC cy L K R I J E B) ++ [(q, .inr (6, [.ref tp, .int 0, .null, .int 0, .int 0, .int 0, .int 0, .long 0, .int 0, .int 0, .int (-1)]))]) := hD
  refine lv_aload_n hx hb dX6_init_14 rfl (lv_at hl 0 rfl) ?_
  refine lv_iload_n hx hb dX6_init_15 rfl (lv_at hl 2 rfl) ?_
  refine lv_aload_n hx hb dX6_init_16 rfl (lv_at hl 1 rfl) ?_
  obtain ⟨q0, he0⟩ := wc_at (cy := cy) (R := R) (I := I) (J := J) (E := E) (B := B) (e9 := .inl (cy 1, 1700, .inl (E tp))) htp1 htp2 rfl
  refine va_alen (v := 1700) hx hb hK hP q0 1 (leftAt he0) rfl rfl dX6_init_17 ?_
  refine va_mmin hx hb (by rw [hml]; exact hl.1.symm) hown (ht _ k_769) (ht _ k_417) (ht _ k_402) (ht _ k_418) (Nat.le_of_ble_eq_true rfl) (Nat.le_of_ble_eq_true rfl) (Nat.le_of_ble_eq_true rfl) (Nat.le_of_ble_eq_true rfl) dX6_init_18 ?_
  refine lv_topi (fun w ew => ?_)
  have hw := ow_mmin ew
  have z1700 : (1700 : Int32).toInt = 1700 := by decide
  refine va_putF (ci := 6) (v := .int w) (ty := .int) (C := RX6) (T := TX6) (N := 11) hx hb ht iX6 tyX6 tyX6_ok nmX6 hown hK hP hD hS (WC cy L K R I J E B).length (lastAt _ _ _) rfl 1 (by decide) (ht _ k_360) (fun _ h9 => h9) rfl hin rfl (by decide +kernel) rfl rfl (Nat.le_of_ble_eq_true rfl) dX6_init_21 (fun H locs hP hD hS => ?_)
  rw [lastSet] at hP hD
  have hP : va_P G vwCl ((WC cy L K R I J E B) ++ [(q, .inr (6, [.ref tp, .int w, .null, .int 0, .int 0, .int 0, .int 0, .long 0, .int 0, .int 0, .int (-1)]))]) H := hP
  have hD : va_D A ((WC cy L K R I J E B) ++ [(q, .inr (6, [.ref tp, .int w, .null, .int 0, .int 0, .int 0, .int 0, .long 0, .int 0, .int 0, .int (-1)]))]) := hD
  refine lv_aload_n hx hb dX6_init_24 rfl (lv_at hl 0 rfl) ?_
  refine lv_aload_n hx hb dX6_init_25 rfl (lv_at hl 3 rfl) ?_
  refine va_putF (ci := 6) (v := .ref tw) (ty := (.object "TuneLocks$Town")) (C := RX6) (T := TX6) (N := 11) hx hb ht iX6 tyX6 tyX6_ok nmX6 hown hK hP hD hS (WC cy L K R I J E B).length (lastAt _ _ _) rfl 2 (by decide) (ht _ k_361) (fun _ h9 => h9) rfl hin rfl (by decide +kernel) rfl rfl (Nat.le_of_ble_eq_true rfl) dX6_init_26 (fun H locs hP hD hS => ?_)
  rw [lastSet] at hP hD
  have hP : va_P G vwCl ((WC cy L K R I J E B) ++ [(q, .inr (6, [.ref tp, .int w, .ref tw, .int 0, .int 0, .int 0, .int 0, .long 0, .int 0, .int 0, .int (-1)]))]) H := hP
  have hD : va_D A ((WC cy L K R I J E B) ++ [(q, .inr (6, [.ref tp, .int w, .ref tw, .int 0, .int 0, .int 0, .int 0, .long 0, .int 0, .int 0, .int (-1)]))]) := hD
  refine W.widen (k := 0) (n := 0) (Nat.le_of_ble_eq_true rfl) (Nat.le_of_ble_eq_true rfl) ?_
  exact W.vret hx hb hr (fun t ht9 hW => ⟨⟨w, rfl, by omega, ⟨by rw [ht9]; exact hP, hD⟩⟩, hS.F ht9⟩) hS.2.2 dX6_init_29
set_option maxHeartbeats 4000000 in
set_option maxRecDepth 100000 in
theorem x_town (l : Launch) (G : va_G) (cy : Nat → ClassId) (sz : Nat) (tq qq wq : Nat) (fo : Option Nat) (L : List Nat) (K : Nat → Nat) (R : Nat → Nat → Nat) (T : Int) (I E : Nat → Nat → Int32) (J B : Nat → Nat → Int64) (this : Nat)  (hRT : RT L K R) (hI : IV T L K I) (hE : EV L K E) (hthis1 : this ∈ L) (hthis2 : K this = 0) : Met l yX11_town (.code yX11_town cX11_town 5 (some .int) :: TBg) ({ frames := 49, cells := 1, slots := 11, locals := 3136 }) (va_Pc [.ref this] (EnX G cy (WC cy L K R I J E B) sz tq qq wq fo (va_A (WC cy L K R I J E B) sz))) (va_Qi (fun (r : Int32) (u : (Nat → Nat → Nat) × (Nat → Nat → Int32) × (Nat → Nat → Int64) × (Nat → Nat → Int32) × (Nat → Nat → Int64)) => RT L K u.1 ∧ IV T L K u.2.1 ∧ EV L K u.2.2.2.1 ∧ (True)) (fun u t => Ex G (va_A (WC cy L K R I J E B) sz) (WC cy L K u.1 u.2.1 u.2.2.1 u.2.2.2.1 u.2.2.2.2) t) (va_A (WC cy L K R I J E B) sz)) 1 11 (va_A (WC cy L K R I J E B) sz) := by
  have hthis : this ∈ L ∧ K this = 0 := ⟨hthis1, hthis2⟩
  refine Met.ofW (cc := cX11_town) (maxL := 5) (ret := (some .int)) (by decide) rfl ?_
  intro p e s m args below meth c s₁ B9 hml hv9
  obtain ⟨rfl, ⟨hsz, hP, hK, hD0, hN⟩, hX⟩ := hv9
  have hx := B9.exec
  have hb := B9.bytes
  have hr := B9.returns
  have hts := atoms_spec (ws := .code yX11_town cX11_town 5 (some .int) :: TBg) B9.pre
  have ht : ∀ w ∈ TBg, w.before _ s = true := fun w h => hts w (List.mem_cons_of_mem _ h)
  have hown : s.vm.findClass RX11 = some m.cls := findClass_of_methodNamed B9.named
  have hlocks := B9.notSynchronized
  subst hsz
  have hD := hD0.self (sz := s.heap.size)
  generalize hAe : va_A (WC cy L K R I J E B) s.heap.size = A at hD hX ⊢
  have hA : ∀ q : Nat, s.heap.size ≤ q → A q := fun q h => by rw [← hAe]; exact Or.inr h
  have hS : va_S A s.heap s.heap [] := va_S.rf
  have hl := lv_entry ([.ref this]) (n := 5) (Nat.le_of_ble_eq_true rfl)
  rw [lg_entry_eq]
  generalize (lg_sl ([.ref this]) ++ List.replicate (5 - (lg_sl ([.ref this])).length) Slot.unset).toArray = ls at hl ⊢
  have hl : lv_has ls 5 [(0, .ref this)] := hl
  have z0 : (-1 : Int32).toInt = -1 := by decide
  have z1 : (0 : Int32).toInt = 0 := by decide
  have z2 : (1 : Int32).toInt = 1 := by decide
  have z3 : (3 : Int32).toInt = 3 := by decide
  refine va_new (ci := 6) (fs := [.null, .int 0, .null, .int 0, .int 0, .int 0, .int 0, .long 0, .int 0, .int 0, .int 0]) (C := RX6) (T := TX6) (N := 11) hx hb ht iX6 tyX6 tyX6_ok hown (ht _ k_770) (ht _ k_771) (ht _ k_633) hK hP hD hS hA rfl df6 (Nat.le_of_ble_eq_true rfl) (Nat.le_of_ble_eq_true rfl) dX11_town_0 (fun q9 H hP hD hS => ?_)
  obtain ⟨hPX, hDX⟩ := fr_left hP hD
  have hq9 := va_pl_fresh2 (X := []) hD
  refine lv_dup hx hb dX11_town_3 rfl ?_
  refine lv_aload_n hx hb dX11_town_4 rfl (lv_at hl 0 rfl) ?_
  refine cg_0_0_11 hx hb ht hown hK hN hPX hthis.1 hthis.2 dX11_town_5 ?_
  have hm_1 : (R this 0) ∈ L ∧ K (R this 0) = 20 := RT.o hRT hthis.1 hthis.2 0 (by decide)
  refine lv_aload_n hx hb dX11_town_8 rfl (lv_at hl 0 rfl) ?_
  refine cg_0_1_11 hx hb ht hown hK hN hPX hthis.1 hthis.2 dX11_town_9 ?_
  have q_2 : 0 ≤ (I this 1).toInt ∧ (I this 1).toInt ≤ 1700 := IV.rd hI hthis.1 hthis.2 1
  refine lv_aload_n hx hb dX11_town_12 rfl (lv_at hl 0 rfl) ?_
  refine cg_0_3_11 hx hb ht hown hK hN hPX hthis.1 hthis.2 dX11_town_13 ?_
  have hm_3 : (R this 3) ∈ L ∧ K (R this 3) = 1 := RT.o hRT hthis.1 hthis.2 3 (by decide)
  have hFc := fr_free hD hS hA
  refine va_callv (va_runI (As := [.ref (R this 0), .int (I this 1), .ref (R this 3)]) (rest := [.ref q9]) ⟨hx, hb, hml, hown, ht⟩ (r_init l G cy _ L K R I E J B q9 (R this 0) (R this 3) (I this 1) hm_1.1 hm_1.2 (by omega)) (cwI 3 ht (gc k_772) rfl rfl rfl (ht _ k_633) (ht _ k_773) (ht _ k_774) rfl (by decide +kernel) ⟨Nat.le_of_ble_eq_true rfl, Nat.le_of_ble_eq_true rfl⟩) ⟨En.blind, fun U hU hW => ⟨rfl, En.of hU hW hP hK hD hN⟩⟩ rfl rfl hl.1 rfl (lv_room (Nat.le_of_ble_eq_true rfl)) dX11_town_16 ⟨Nat.le_of_ble_eq_true rfl, Nat.le_of_ble_eq_true rfl⟩) hS (fun q _ h => hFc q h) hFc (fun u9 t9 H locs ht9 hvm hw hB hz1 hk1 hS => ?_)
  obtain ⟨hP1, hD1⟩ := hB
  rw [ht9] at hP1
  have hD1 := hD1.weaken (fun _ _ _ h => hFc _ h)
  rw [wc_push hq9] at hP1 hD1
  have hRT1 := RT.push hRT hq9 hm_1.1 hm_1.2 hm_3.1 hm_3.2
  have hI1 := IV.push hI hq9 hw
  have hE1 := EV.push hE hq9
  have hthis2 : this ∈ L ++ [q9] ∧ va_up K q9 12 this = 0 := ⟨List.mem_append_left _ hthis.1, by rw [upne (nq hq9 hthis.1)]; exact hthis.2⟩
  have hmq9 : q9 ∈ L ++ [q9] ∧ va_up K q9 12 q9 = 12 := ⟨List.mem_append_right _ (List.mem_singleton.mpr rfl), upeq⟩
  have hIth : ∀ j, va_up I q9 (rdI u9) this j = I this j := fun j => by rw [upne (nq hq9 hthis.1)]
  clear hI hE hRT hP hD hPX hDX hFc hk1 hz1
  have hRT := hRT1
  have hI := hI1
  have hE := hE1
  have hP := hP1
  have hD := hD1
  clear hRT1 hI1 hE1 hP1 hD1
  generalize (va_up R q9 (rdR (R this 0) (R this 3))) = R_4 at hRT hP hD
  generalize (va_up I q9 (rdI u9)) = I_5 at hI hP hD hIth
  generalize (va_up J q9 (fun _ => 0)) = J_6 at hP hD
  refine lv_astore_n (lv' := [(1, .ref q9), (0, .ref this)]) hx hb dX11_town_19 rfl hl (by decide) rfl (fun ls hl => ?_)
  refine lv_aload_n hx hb dX11_town_20 rfl (lv_at hl 0 rfl) ?_
  have hFc := fr_free hD hS hA
  refine va_calli (va_runV (As := []) (rest := []) ⟨hx, hb, hml, hown, ht⟩ (r_readTown l G cy _ tq qq wq fo (L ++ [q9]) (va_up K q9 12) R_4 T I_5 E J_6 B q9 hRT hI hE hmq9.1 hmq9.2) (cwV 0 ht (gv k_776 k_777 k_778 k_633 k_775) rfl rfl rfl (by decide +kernel) ⟨Nat.le_of_ble_eq_true rfl, Nat.le_of_ble_eq_true rfl⟩) ⟨EnX.blind, cr_12 hK hP hmq9.1 hmq9.2, fun U hU hW => ⟨rfl, En.of hU hW hP hK hD hN, XK.of hX hS hFc hU hW⟩⟩ rfl rfl hl.1 rfl (lv_room (Nat.le_of_ble_eq_true rfl)) dX11_town_21 ⟨Nat.le_of_ble_eq_true rfl, Nat.le_of_ble_eq_true rfl⟩) hS (fun q _ h => hFc q h) hFc (fun r_u_7 u_7 t9 H locs ht9 hvm hw hB hz1 hk1 hS => ?_)
  obtain ⟨I7, J7, E7, B7⟩ := u_7
  obtain ⟨hP1, hD1⟩ := hB
  rw [ht9] at hP1
  clear hI hE
  obtain ⟨hI, hE, xu_7I, wu_7⟩ := hw
  dsimp only at hI hE xu_7I wu_7
  have hP : va_P G vwCl (WC cy (L ++ [q9]) (va_up K q9 12) R_4 I7 J7 E7 B7) H := hP1
  have hD : va_D A (WC cy (L ++ [q9]) (va_up K q9 12) R_4 I7 J7 E7 B7) := hD1.weaken (fun _ _ _ h => hFc _ h)
  clear hFc hk1 hz1 hP1 hD1
  refine lv_istore_n (lv' := [(2, .int r_u_7), (1, .ref q9), (0, .ref this)]) hx hb dX11_town_24 rfl hl (by decide) rfl (fun ls hl => ?_)
  refine lv_aload_n hx hb dX11_town_25 rfl (lv_at hl 2 rfl) ?_
  refine lv_aload_n hx hb dX11_town_26 rfl (lv_at hl 1 rfl) ?_
  refine cg_12_9_11 hx hb ht hown hK hN hP hmq9.1 hmq9.2 dX11_town_27 ?_
  refine cp_0_4_11 hx hb ht hown hK hN hP hD hS hthis2.1 hthis2.2 dX11_town_30 (fun H locs hP hD hS => ?_)
  replace hI := IV.up hI hthis2.2 4 (ow_any (I7 q9 9))
  have f_8 : FI [(0, 4)] (va_up K q9 12) I7 (va_up I7 this (va_up (I7 this) 4 (I7 q9 9))) := FI.up hthis2.2 4 (I7 q9 9)
  have e_9 : (va_up I7 this (va_up (I7 this) 4 (I7 q9 9))) this 4 = (I7 q9 9) := FI.at I7 this 4 (I7 q9 9)
  generalize (va_up I7 this (va_up (I7 this) 4 (I7 q9 9))) = I_10 at hP hD hI f_8 e_9 
  refine lv_aload_n hx hb dX11_town_33 rfl (lv_at hl 2 rfl) ?_
  refine lv_aload_n hx hb dX11_town_34 rfl (lv_at hl 1 rfl) ?_
  refine cg_12_10_11 hx hb ht hown hK hN hP hmq9.1 hmq9.2 dX11_town_35 ?_
  refine cp_0_5_11 hx hb ht hown hK hN hP hD hS hthis2.1 hthis2.2 dX11_town_38 (fun H locs hP hD hS => ?_)
  replace hI := IV.up hI hthis2.2 5 (ow_any (I_10 q9 10))
  have f_11 : FI [(0, 5)] (va_up K q9 12) I_10 (va_up I_10 this (va_up (I_10 this) 5 (I_10 q9 10))) := FI.up hthis2.2 5 (I_10 q9 10)
  have e_12 : (va_up I_10 this (va_up (I_10 this) 5 (I_10 q9 10))) this 5 = (I_10 q9 10) := FI.at I_10 this 5 (I_10 q9 10)
  generalize (va_up I_10 this (va_up (I_10 this) 5 (I_10 q9 10))) = I_13 at hP hD hI f_11 e_12 
  refine lv_iload_n hx hb dX11_town_41 rfl (lv_at hl 0 rfl) ?_
  refine lv_if_ne (tgt := 47) hx hb dX11_town_42 (by decide) (fun c_14 => ?_) (fun c_14 => ?_)
  · have q_15 : ¬ r_u_7.toInt = (0 : Int32).toInt := by have := (not_congr (ow_eq _ _)).mp c_14; omega
    refine lv_aload_n hx hb dX11_town_47 rfl (lv_at hl 2 rfl) ?_
    refine cg_0_3_11 hx hb ht hown hK hN hP hthis2.1 hthis2.2 dX11_town_48 ?_
    have hm_16 : (R_4 this 3) ∈ (L ++ [q9]) ∧ (va_up K q9 12) (R_4 this 3) = 1 := RT.o hRT hthis2.1 hthis2.2 3 (by decide)
    refine lv_astore_n (lv' := [(3, .ref (R_4 this 3)), (2, .int r_u_7), (1, .ref q9), (0, .ref this)]) hx hb dX11_town_51 rfl hl (by decide) rfl (fun ls hl => ?_)
    refine lv_aload_n hx hb dX11_town_52 rfl (lv_at hl 3 rfl) ?_
    refine lv_aload_n hx hb dX11_town_53 rfl (lv_at hl 3 rfl) ?_
    refine cg_0_2_11 hx hb ht hown hK hN hP hthis2.1 hthis2.2 dX11_town_54 ?_
    have hm_17 : (R_4 this 2) ∈ (L ++ [q9]) ∧ (va_up K q9 12) (R_4 this 2) = 1 := RT.o hRT hthis2.1 hthis2.2 2 (by decide)
    refine cp_0_3_11 hx hb ht hown hK hN hP hD hS hthis2.1 hthis2.2 dX11_town_57 (fun H locs hP hD hS => ?_)
    replace hRT := RT.up hRT hthis2.2 3 rfl hm_17.1 hm_17.2
    generalize (va_up R_4 this (va_up (R_4 this) 3 (R_4 this 2))) = R_18 at hP hD hRT
    refine lv_aload_n hx hb dX11_town_60 rfl (lv_at hl 3 rfl) ?_
    refine lv_aload_n hx hb dX11_town_61 rfl (lv_at hl 0 rfl) ?_
    refine cp_0_2_11 hx hb ht hown hK hN hP hD hS hthis2.1 hthis2.2 dX11_town_62 (fun H locs hP hD hS => ?_)
    replace hRT := RT.up hRT hthis2.2 2 rfl hm_16.1 hm_16.2
    generalize (va_up R_18 this (va_up (R_18 this) 2 (R_4 this 3))) = R_19 at hP hD hRT
    refine lv_aload_n hx hb dX11_town_65 rfl (lv_at hl 3 rfl) ?_
    refine cg_0_2_11 hx hb ht hown hK hN hP hthis2.1 hthis2.2 dX11_town_66 ?_
    have hm_20 : (R_19 this 2) ∈ (L ++ [q9]) ∧ (va_up K q9 12) (R_19 this 2) = 1 := RT.o hRT hthis2.1 hthis2.2 2 (by decide)
    have hFc := fr_free hD hS hA
    refine va_callv (va_runV (As := []) (rest := []) ⟨hx, hb, hml, hown, ht⟩ (c_prepare l G cy _ (L ++ [q9]) (va_up K q9 12) R_19 T I_13 E7 J7 B7 (R_19 this 2) hRT hI hE hm_20.1 hm_20.2) (cwV 0 ht (gv k_780 k_781 k_782 k_461 k_779) rfl rfl rfl (by decide +kernel) ⟨Nat.le_of_ble_eq_true rfl, Nat.le_of_ble_eq_true rfl⟩) ⟨En.blind, cr_1 hK hP hm_20.1 hm_20.2, fun U hU hW => ⟨rfl, En.of hU hW hP hK hD hN⟩⟩ rfl rfl hl.1 rfl (lv_room (Nat.le_of_ble_eq_true rfl)) dX11_town_69 ⟨Nat.le_of_ble_eq_true rfl, Nat.le_of_ble_eq_true rfl⟩) hS (fun q _ h => hFc q h) hFc (fun u_21 t9 H locs ht9 hvm hw hB hz1 hk1 hS => ?_)
    obtain ⟨I21, J21, E21, B21⟩ := u_21
    obtain ⟨hP1, hD1⟩ := hB
    rw [ht9] at hP1
    clear hI hE
    obtain ⟨hI, hE, xu_21I, wu_21⟩ := hw
    dsimp only at hI hE xu_21I wu_21
    have hP : va_P G vwCl (WC cy (L ++ [q9]) (va_up K q9 12) R_19 I21 J21 E21 B21) H := hP1
    have hD : va_D A (WC cy (L ++ [q9]) (va_up K q9 12) R_19 I21 J21 E21 B21) := hD1.weaken (fun _ _ _ h => hFc _ h)
    clear hFc hk1 hz1 hP1 hD1
    refine lv_aload_n hx hb dX11_town_72 rfl (lv_at hl 3 rfl) ?_
    refine lv_iconst (v := 0) hx hb dX11_town_73 (by decide) ?_
    refine cp_0_1_11 hx hb ht hown hK hN hP hD hS hthis2.1 hthis2.2 dX11_town_74 (fun H locs hP hD hS => ?_)
    replace hI := IV.up hI hthis2.2 1 (show 0 ≤ (0 : Int32).toInt ∧ (0 : Int32).toInt ≤ 1700 from by omega)
    have f_22 : FI [(0, 1)] (va_up K q9 12) I21 (va_up I21 this (va_up (I21 this) 1 0)) := FI.up hthis2.2 1 (0 : Int32)
    have e_23 : (va_up I21 this (va_up (I21 this) 1 0)) this 1 = 0 := FI.at I21 this 1 (0 : Int32)
    generalize (va_up I21 this (va_up (I21 this) 1 0)) = I_24 at hP hD hI f_22 e_23 
    refine lv_aload_n hx hb dX11_town_77 rfl (lv_at hl 3 rfl) ?_
    refine cg_0_6_11 hx hb ht hown hK hN hP hthis2.1 hthis2.2 dX11_town_78 ?_
    have hm_25 : (R_19 this 6) ∈ (L ++ [q9]) ∧ (va_up K q9 12) (R_19 this 6) = 7 := RT.o hRT hthis2.1 hthis2.2 6 (by decide)
    have hFc := fr_free hD hS hA
    refine va_callv (va_runV (As := []) (rest := []) ⟨hx, hb, hml, hown, ht⟩ (c_sclear l G cy _ (L ++ [q9]) (va_up K q9 12) R_19 T I_24 E21 J21 B21 (R_19 this 6) hRT hI hE hm_25.1 hm_25.2) (cwV 0 ht (gv k_784 k_785 k_786 k_596 k_783) rfl rfl rfl (by decide +kernel) ⟨Nat.le_of_ble_eq_true rfl, Nat.le_of_ble_eq_true rfl⟩) ⟨En.blind, cr_7 hK hP hm_25.1 hm_25.2, fun U hU hW => ⟨rfl, En.of hU hW hP hK hD hN⟩⟩ rfl rfl hl.1 rfl (lv_room (Nat.le_of_ble_eq_true rfl)) dX11_town_81 ⟨Nat.le_of_ble_eq_true rfl, Nat.le_of_ble_eq_true rfl⟩) hS (fun q _ h => hFc q h) hFc (fun u_26 t9 H locs ht9 hvm hw hB hz1 hk1 hS => ?_)
    obtain ⟨I26, J26, E26, B26⟩ := u_26
    obtain ⟨hP1, hD1⟩ := hB
    rw [ht9] at hP1
    clear hI hE
    obtain ⟨hI, hE, xu_26I, wu_26⟩ := hw
    dsimp only at hI hE xu_26I wu_26
    have hP : va_P G vwCl (WC cy (L ++ [q9]) (va_up K q9 12) R_19 I26 J26 E26 B26) H := hP1
    have hD : va_D A (WC cy (L ++ [q9]) (va_up K q9 12) R_19 I26 J26 E26 B26) := hD1.weaken (fun _ _ _ h => hFc _ h)
    clear hFc hk1 hz1 hP1 hD1
    refine lv_aload_n hx hb dX11_town_84 rfl (lv_at hl 3 rfl) ?_
    refine cg_0_8_11 hx hb ht hown hK hN hP hthis2.1 hthis2.2 dX11_town_85 ?_
    have hm_27 : (R_19 this 8) ∈ (L ++ [q9]) ∧ (va_up K q9 12) (R_19 this 8) = 4 := RT.o hRT hthis2.1 hthis2.2 8 (by decide)
    refine lv_aload_n hx hb dX11_town_88 rfl (lv_at hl 3 rfl) ?_
    refine cg_0_6_11 hx hb ht hown hK hN hP hthis2.1 hthis2.2 dX11_town_89 ?_
    refine cg_7_0_11 hx hb ht hown hK hN hP hm_25.1 hm_25.2 dX11_town_92 ?_
    have hm_28 : (R_19 (R_19 this 6) 0) ∈ (L ++ [q9]) ∧ (va_up K q9 12) (R_19 (R_19 this 6) 0) = 3 := RT.o hRT hm_25.1 hm_25.2 0 (by decide)
    refine lv_aload_n hx hb dX11_town_95 rfl (lv_at hl 3 rfl) ?_
    refine cg_0_2_11 hx hb ht hown hK hN hP hthis2.1 hthis2.2 dX11_town_96 ?_
    have hFc := fr_free hD hS hA
    refine va_callv (va_runV (As := [.ref (R_19 (R_19 this 6) 0), .ref (R_19 this 2)]) (rest := []) ⟨hx, hb, hml, hown, ht⟩ (c_hearAll3 l G cy _ (L ++ [q9]) (va_up K q9 12) R_19 T I26 E26 J26 B26 (R_19 this 8) (R_19 (R_19 this 6) 0) (R_19 this 2) hRT hI hE hm_27.1 hm_27.2 hm_28.1 hm_28.2 hm_20.1 hm_20.2) (cwV 2 ht (gv k_569 k_472 k_473 k_431 k_470) rfl rfl rfl (by decide +kernel) ⟨Nat.le_of_ble_eq_true rfl, Nat.le_of_ble_eq_true rfl⟩) ⟨En.blind, cr_4 hK hP hm_27.1 hm_27.2, fun U hU hW => ⟨rfl, En.of hU hW hP hK hD hN⟩⟩ rfl rfl hl.1 rfl (lv_room (Nat.le_of_ble_eq_true rfl)) dX11_town_99 ⟨Nat.le_of_ble_eq_true rfl, Nat.le_of_ble_eq_true rfl⟩) hS (fun q _ h => hFc q h) hFc (fun u_29 t9 H locs ht9 hvm hw hB hz1 hk1 hS => ?_)
    obtain ⟨I29, J29, E29, B29⟩ := u_29
    obtain ⟨hP1, hD1⟩ := hB
    rw [ht9] at hP1
    clear hI hE
    obtain ⟨hI, hE, xu_29I, wu_29⟩ := hw
    dsimp only at hI hE xu_29I wu_29
    have hP : va_P G vwCl (WC cy (L ++ [q9]) (va_up K q9 12) R_19 I29 J29 E29 B29) H := hP1
    have hD : va_D A (WC cy (L ++ [q9]) (va_up K q9 12) R_19 I29 J29 E29 B29) := hD1.weaken (fun _ _ _ h => hFc _ h)
    clear hFc hk1 hz1 hP1 hD1
    refine lv_aload_n hx hb dX11_town_102 rfl (lv_at hl 3 rfl) ?_
    refine cg_0_9_11 hx hb ht hown hK hN hP hthis2.1 hthis2.2 dX11_town_103 ?_
    have hm_30 : (R_19 this 9) ∈ (L ++ [q9]) ∧ (va_up K q9 12) (R_19 this 9) = 8 := RT.o hRT hthis2.1 hthis2.2 9 (by decide)
    have hFc := fr_free hD hS hA
    refine va_callv (va_runV (As := []) (rest := []) ⟨hx, hb, hml, hown, ht⟩ (c_wclear l G cy _ (L ++ [q9]) (va_up K q9 12) R_19 T I29 E29 J29 B29 (R_19 this 9) hRT hI hE hm_30.1 hm_30.2) (cwV 0 ht (gv k_788 k_789 k_790 k_482 k_787) rfl rfl rfl (by decide +kernel) ⟨Nat.le_of_ble_eq_true rfl, Nat.le_of_ble_eq_true rfl⟩) ⟨En.blind, cr_8 hK hP hm_30.1 hm_30.2, fun U hU hW => ⟨rfl, En.of hU hW hP hK hD hN⟩⟩ rfl rfl hl.1 rfl (lv_room (Nat.le_of_ble_eq_true rfl)) dX11_town_106 ⟨Nat.le_of_ble_eq_true rfl, Nat.le_of_ble_eq_true rfl⟩) hS (fun q _ h => hFc q h) hFc (fun u_31 t9 H locs ht9 hvm hw hB hz1 hk1 hS => ?_)
    obtain ⟨I31, J31, E31, B31⟩ := u_31
    obtain ⟨hP1, hD1⟩ := hB
    rw [ht9] at hP1
    clear hI hE
    obtain ⟨hI, hE, xu_31I, wu_31⟩ := hw
    dsimp only at hI hE xu_31I wu_31
    have hP : va_P G vwCl (WC cy (L ++ [q9]) (va_up K q9 12) R_19 I31 J31 E31 B31) H := hP1
    have hD : va_D A (WC cy (L ++ [q9]) (va_up K q9 12) R_19 I31 J31 E31 B31) := hD1.weaken (fun _ _ _ h => hFc _ h)
    clear hFc hk1 hz1 hP1 hD1
    refine lv_iconst (v := 0) hx hb dX11_town_109 (by decide) ?_
    refine lv_istore (lv' := [(4, .int 0), (3, .ref (R_4 this 3)), (2, .int r_u_7), (1, .ref q9), (0, .ref this)]) hx hb dX11_town_110 hl (by decide) rfl (fun ls hl => ?_)
    refine W.widen (k := 1) (n := 11) (Nat.le_of_ble_eq_true rfl) (Nat.le_of_ble_eq_true rfl) ?_
    have lp_32 : ∀ (N_32 : Nat) (x4_32 : Int32) (I32 : Nat → Nat → Int32) (J32 : Nat → Nat → Int64) (E32 : Nat → Nat → Int32) (B32 : Nat → Nat → Int64) (H : Heap) (locs : List Loc) (ls : Array Slot), IV T (L ++ [q9]) (va_up K q9 12) I32 → EV (L ++ [q9]) (va_up K q9 12) E32 → FI [(0, 1), (0, 4), (0, 5), (1, 3), (1, 5), (1, 7), (2, 2), (3, 2), (4, 4), (5, 1), (5, 2), (5, 3), (5, 4), (5, 5), (6, 2), (6, 4), (7, 1), (7, 2), (7, 4), (8, 5), (12, 3), (12, 4), (12, 5), (12, 6), (12, 8), (12, 9), (12, 10)] (va_up K q9 12) I31 I32 → (0 ≤ x4_32.toInt ∧ x4_32.toInt ≤ 3) → (3 - x4_32.toInt).toNat < N_32 → va_P G vwCl (WC cy (L ++ [q9]) (va_up K q9 12) R_19 I32 J32 E32 B32) H → va_D A (WC cy (L ++ [q9]) (va_up K q9 12) R_19 I32 J32 E32 B32) → va_S A s.heap H locs → lv_has ls 5 [(4, .int x4_32), (3, .ref (R_4 this 3)), (2, .int r_u_7), (1, .ref q9), (0, .ref this)] → W p l e (headSpec (.code yX11_town cX11_town 5 (some .int) :: TBg) ({ frames := 49, cells := 1, slots := 11, locals := 3136 })).room s m ([.ref this] : List Value).toArray below meth c H locs 1 11 (MQ below (va_Qi (fun (r : Int32) (u : (Nat → Nat → Nat) × (Nat → Nat → Int32) × (Nat → Nat → Int64) × (Nat → Nat → Int32) × (Nat → Nat → Int64)) => RT L K u.1 ∧ IV T L K u.2.1 ∧ EV L K u.2.2.2.1 ∧ (True)) (fun u t => Ex G A (WC cy L K u.1 u.2.1 u.2.2.1 u.2.2.2.1 u.2.2.2.2) t) A) ([.ref this] : List Value).toArray s 1 11 A) (F0 m 112 ls []) := by
      intro N_32
      induction N_32 with
      | zero => intro x4_32 I32 J32 E32 B32 H locs ls hI hE hC_32 qf32_0 hm9 hP hD hS hl; exact absurd hm9 (Nat.not_lt_zero _)
      | succ N_32 ih_32 =>
        intro x4_32 I32 J32 E32 B32 H locs ls hI hE hC_32 qf32_0 hm9 hP hD hS hl
        have hX_32 := hC_32
        refine lv_iload hx hb dX11_town_112 (lv_at hl 0 rfl) ?_
        refine lv_aload_n hx hb dX11_town_114 rfl (lv_at hl 4 rfl) ?_
        refine cg_0_7_11 hx hb ht hown hK hN hP hthis2.1 hthis2.2 dX11_town_115 ?_
        have hm_33 : (R_19 this 7) ∈ (L ++ [q9]) ∧ (va_up K q9 12) (R_19 this 7) = 35 := RT.o hRT hthis2.1 hthis2.2 7 (by decide)
        refine cn_35 hx hb hK hP hm_33.1 hm_33.2 dX11_town_118 ?_
        refine lv_icmp_ge (tgt := 138) hx hb dX11_town_119 (by decide) (fun c_34 => ?_) (fun c_34 => ?_)
        · have q_35 : (3 : Int32).toInt ≤ x4_32.toInt := (ow_le _ _).mp c_34
          refine lv_aload_n hx hb dX11_town_138 rfl (lv_at hl 4 rfl) ?_
          refine cg_0_2_11 hx hb ht hown hK hN hP hthis2.1 hthis2.2 dX11_town_139 ?_
          refine cg_1_5_11 hx hb ht hown hK hN hP hm_20.1 hm_20.2 dX11_town_142 ?_
          have q_36 : 0 ≤ (I32 (R_19 this 2) 5).toInt ∧ (I32 (R_19 this 2) 5).toInt ≤ 8 := IV.rd hI hm_20.1 hm_20.2 5
          refine W.widen (k := 1) (n := 11) (Nat.le_of_ble_eq_true rfl) (Nat.le_of_ble_eq_true rfl) ?_
          obtain ⟨hPz, hDz⟩ := wc_pop hq9 hP hD
          have hIz := IV.pop hq9 hI
          have hEz := EV.pop hq9 hE
          have hRz := RT.pop hq9 hRT
          exact W.iret (v := (I32 (R_19 this 2) 5)) hx hb hr (fun t ht9 hW => ⟨⟨(I32 (R_19 this 2) 5), (R_19, I32, J32, E32, B32), rfl, ⟨hRz, hIz, hEz, trivial⟩, ⟨by rw [ht9]; exact hPz, hDz⟩⟩, hS.F ht9⟩) hS.2.2 dX11_town_145
        · have q_37 : x4_32.toInt < (3 : Int32).toInt := by have := (not_congr (ow_le _ _)).mp c_34; omega
          refine lv_aload_n hx hb dX11_town_122 rfl (lv_at hl 4 rfl) ?_
          refine cg_0_7_11 hx hb ht hown hK hN hP hthis2.1 hthis2.2 dX11_town_123 ?_
          refine lv_iload hx hb dX11_town_126 (lv_at hl 0 rfl) ?_
          have q_38 : vp_in x4_32 3 := vp_in_iff.mpr ⟨by omega, by omega⟩
          refine cl_35 hx hb hK hP hm_33.1 hm_33.2 q_38 dX11_town_128 ?_
          have hm_39 : (R_19 (R_19 this 7) (Int32.toNatClampNeg x4_32)) ∈ (L ++ [q9]) ∧ (va_up K q9 12) (R_19 (R_19 this 7) (Int32.toNatClampNeg x4_32)) = 7 := RT.a hRT hm_33.1 hm_33.2 (by decide) q_38
          have hFc := fr_free hD hS hA
          refine va_callv (va_runV (As := []) (rest := []) ⟨hx, hb, hml, hown, ht⟩ (c_sclear l G cy _ (L ++ [q9]) (va_up K q9 12) R_19 T I32 E32 J32 B32 (R_19 (R_19 this 7) (Int32.toNatClampNeg x4_32)) hRT hI hE hm_39.1 hm_39.2) (cwV 0 ht (gv k_784 k_785 k_786 k_596 k_783) rfl rfl rfl (by decide +kernel) ⟨Nat.le_of_ble_eq_true rfl, Nat.le_of_ble_eq_true rfl⟩) ⟨En.blind, cr_7 hK hP hm_39.1 hm_39.2, fun U hU hW => ⟨rfl, En.of hU hW hP hK hD hN⟩⟩ rfl rfl hl.1 rfl (lv_room (Nat.le_of_ble_eq_true rfl)) dX11_town_129 ⟨Nat.le_of_ble_eq_true rfl, Nat.le_of_ble_eq_true rfl⟩) hS (fun q _ h => hFc q h) hFc (fun u_40 t9 H locs ht9 hvm hw hB hz1 hk1 hS => ?_)
          obtain ⟨I40, J40, E40, B40⟩ := u_40
          obtain ⟨hP1, hD1⟩ := hB
          rw [ht9] at hP1
          clear hI hE
          obtain ⟨hI, hE, xu_40I, wu_40⟩ := hw
          dsimp only at hI hE xu_40I wu_40
          have hP : va_P G vwCl (WC cy (L ++ [q9]) (va_up K q9 12) R_19 I40 J40 E40 B40) H := hP1
          have hD : va_D A (WC cy (L ++ [q9]) (va_up K q9 12) R_19 I40 J40 E40 B40) := hD1.weaken (fun _ _ _ h => hFc _ h)
          clear hFc hk1 hz1 hP1 hD1
          replace hX_32 := FI.tr hX_32 xu_40I (by decide)
          obtain ⟨v_41, ev_41⟩ : ∃ y : Int32, y = x4_32 + 1 := ⟨_, rfl⟩
          refine lv_iinc (v := v_41) (lv' := [(4, .int v_41), (3, .ref (R_4 this 3)), (2, .int r_u_7), (1, .ref q9), (0, .ref this)]) hx hb dX11_town_132 hl (k := 0) rfl (by rw [ev_41]; rfl) (by decide) rfl (fun ls hl => ?_)
          have q_42 : v_41.toInt = x4_32.toInt + 1 := by have := ow_add ev_41 (by omega) (by omega); omega
          refine lv_goto (tgt := 112) hx hb dX11_town_135 (by decide) ?_
          refine W.widen (k := 1) (n := 11) (Nat.le_of_ble_eq_true rfl) (Nat.le_of_ble_eq_true rfl) ?_
          exact ih_32 v_41 I40 J40 E40 B40 _ _ _ hI hE hX_32 (by omega) (by omega) hP hD hS (lv_sub hl [0, 1, 2, 3, 4] rfl)
    exact lp_32 _ (0) I31 J31 E31 B31 _ _ _ hI hE FI.rf (by omega) (Nat.lt_succ_self _) hP hD hS (lv_sub hl [0, 1, 2, 3, 4] rfl)
  · have q_43 : r_u_7.toInt = (0 : Int32).toInt := (ow_eq _ _).mp c_14
    refine lv_iconst (v := (-1)) hx hb dX11_town_45 (by decide) ?_
    refine W.widen (k := 1) (n := 11) (Nat.le_of_ble_eq_true rfl) (Nat.le_of_ble_eq_true rfl) ?_
    obtain ⟨hPz, hDz⟩ := wc_pop hq9 hP hD
    have hIz := IV.pop hq9 hI
    have hEz := EV.pop hq9 hE
    have hRz := RT.pop hq9 hRT
    exact W.iret (v := (-1)) hx hb hr (fun t ht9 hW => ⟨⟨(-1), (R_4, I_13, J7, E7, B7), rfl, ⟨hRz, hIz, hEz, trivial⟩, ⟨by rw [ht9]; exact hPz, hDz⟩⟩, hS.F ht9⟩) hS.2.2 dX11_town_46
