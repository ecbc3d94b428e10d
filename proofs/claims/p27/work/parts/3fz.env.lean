/-! what lies beside the class: its words, its constant row, the class of int[][] -/
def wdT : String := "tune    lock    sweet   of      near    opens   or      and     not     in      begins  ends    night   notes   worn    "
def wdB : List Int32 := [116, 117, 110, 101, 32, 32, 32, 32, 108, 111, 99, 107, 32, 32, 32, 32, 115, 119, 101, 101, 116, 32, 32, 32, 111, 102, 32, 32, 32, 32, 32, 32, 110, 101, 97, 114, 32, 32, 32, 32, 111, 112, 101, 110, 115, 32, 32, 32, 111, 114, 32, 32, 32, 32, 32, 32, 97, 110, 100, 32, 32, 32, 32, 32, 110, 111, 116, 32, 32, 32, 32, 32, 105, 110, 32, 32, 32, 32, 32, 32, 98, 101, 103, 105, 110, 115, 32, 32, 101, 110, 100, 115, 32, 32, 32, 32, 110, 105, 103, 104, 116, 32, 32, 32, 110, 111, 116, 101, 115, 32, 32, 32, 119, 111, 114, 110, 32, 32, 32, 32]
def ST (q w : Nat) (fo : Option Nat) (A : Nat → Prop) (U : State) : Prop := vk_R RX6 200 wdT q U ∧ va_O "java/lang/String" q A U U.heap ∧ va_OF "java/lang/String" "coder" "B" (.int 0) q A U U.heap ∧ va_OF "java/lang/String" "value" "[B" (.ref w) q A U U.heap ∧ va_T .byte w 120 (fun j => .int (wdB.getD j 0)) A U U.heap ∧ va_Z "java/lang/String" "COMPACT_STRINGS" "Z" (.int 1) A U U.heap ∧ va_Z "jdk/internal/util/Preconditions" "SIOOBE_FORMATTER" "Ljava/util/function/BiFunction;" (va_rf fo) A U U.heap
def XK (cy : Nat → ClassId) (t q w : Nat) (fo : Option Nat) (A : Nat → Prop) (U : State) : Prop := SWt t A U ∧ ST q w fo A U ∧ ArrOfT U (cy 8) (.array .int)
theorem XK.of {cy : Nat → ClassId} {t q w : Nat} {fo : Option Nat} {A A1 : Nat → Prop} {s U : State} {H : Heap} {locs : List Loc} (h : XK cy t q w fo A s) (hS : va_S A s.heap H locs) (hF : ∀ q, A1 q → A q) (hU : U.heap = H) (hW : s.WarmedH U.vm) : XK cy t q w fo A1 U := by
  obtain ⟨h0, ⟨h1, h2, h3, h4, h5, h6, h7⟩, h9⟩ := h
  have g2 := va_O.moved hW.alike (va_O.narrow (va_O.kept h2 hS.2.1) hF)
  have g3 := va_OF.moved hW.alike (va_OF.narrow (va_OF.kept h3 hS.2.1) hF)
  have g4 := va_OF.moved hW.alike (va_OF.narrow (va_OF.kept h4 hS.2.1) hF)
  have g5 := va_T.moved hW.alike (va_T.narrow (va_T.kept h5 hS.2.1) hF)
  have g6 := va_Z.moved hW.alike (va_Z.narrow (va_Z.kept h6 hS.2.1) hF)
  have g7 := va_Z.moved hW.alike (va_Z.narrow (va_Z.kept h7 hS.2.1) hF)
  rw [← hU] at g2 g3 g4 g5 g6 g7
  exact ⟨SWt.of h0 hS hF hU hW, ⟨vk_R.warm hW h1, g2, g3, g4, g5, g6, g7⟩, arrOfT_moved hW.alike h9⟩
def EnX (G : va_G) (cy : Nat → ClassId) (ws : va_W) (sz : Nat) (t q w : Nat) (fo : Option Nat) (A : Nat → Prop) (U : State) : Prop := En G cy ws sz U ∧ XK cy t q w fo A U
theorem EnX.blind {G : va_G} {cy : Nat → ClassId} {ws : va_W} {sz t q w : Nat} {fo : Option Nat} {A : Nat → Prop} {av : List Value} : FrameBlind (va_Pc av (EnX G cy ws sz t q w fo A)) := fun a U g mk q9 => by
  obtain ⟨q0, q1, q2, ⟨h1, h2, h3, h4, h5, h6, h7⟩, q4⟩ := q9
  obtain ⟨-, q1'⟩ := En.blind (av := a.toList) a U g mk ⟨by simp, q1⟩
  have hv := Vm.Alike.refl U.vm
  exact ⟨q0, q1', ⟨va_Z.moved (u := U) (U := U.calling g mk a) hv q2.1, va_T.moved (u := U) (U := U.calling g mk a) hv q2.2⟩, ⟨vk_R.same (u := U) (U := U.calling g mk a) rfl h1, va_O.moved (u := U) (U := U.calling g mk a) hv h2, va_OF.moved (u := U) (U := U.calling g mk a) hv h3, va_OF.moved (u := U) (U := U.calling g mk a) hv h4, va_T.moved (u := U) (U := U.calling g mk a) hv h5, va_Z.moved (u := U) (U := U.calling g mk a) hv h6, va_Z.moved (u := U) (U := U.calling g mk a) hv h7⟩, (show ArrOfT (U.calling g mk a) (cy 8) (.array .int) from arrOfT_moved (show U.vm.Alike (U.calling g mk a).vm from hv) q4)⟩
theorem str_recv {cy : Nat → ClassId} {t q w : Nat} {fo : Option Nat} {A : Nat → Prop} {s : State} {H : Heap} {locs : List Loc} (h : XK cy t q w fo A s) (hS : va_S A s.heap H locs) : ∃ cell : Cell, H[q]? = some cell ∧ cell.vm.isStatics = false ∧ s.vm.findClass "java/lang/String" = some cell.cls := by
  obtain ⟨cell, h1, h2, h3, -⟩ := va_O.kept h.2.1.2.1 hS.2.1
  exact ⟨cell, h1, h2, h3⟩
theorem ow_nc {x v : Int32} (e : v = (x.toUInt32 % 65536).toInt32) : narrow .char (.int v) = .int v := by
  subst e
  show Value.int _ = Value.int _
  congr 1
  apply Int32.toBitVec_inj.mp
  simp
  apply BitVec.eq_of_toNat_eq
  simp only [BitVec.toNat_umod]
  exact Nat.mod_mod _ _
theorem sw_rg (j : Nat) : ∃ x : Int32, swF j = .int x ∧ 0 ≤ x.toInt ∧ x.toInt ≤ 11 := by
  refine ⟨([0, 3, 4, 7, 8, 9] : List Int32).getD j 0, rfl, ?_⟩
  rcases j with _ | _ | _ | _ | _ | _ | j
  · decide
  · decide
  · decide
  · decide
  · decide
  · decide
  · rw [show ([0, 3, 4, 7, 8, 9] : List Int32).getD (j + 1 + 1 + 1 + 1 + 1 + 1) 0 = 0 from rfl]
    decide
