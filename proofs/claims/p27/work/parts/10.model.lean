theorem k_0 : (Cond.fieldLink RX12 7 "TuneLocksModel" "tape" "[B") ∈ TBg := tb_mem 1017 (by decide +kernel) (by decide +kernel)
theorem k_1 : (Cond.fieldLink RX12 13 "TuneLocksModel" "text" "[B") ∈ TBg := tb_mem 1018 (by decide +kernel) (by decide +kernel)
theorem k_2 : (Cond.fieldLink RX12 224 "TuneLocksModel" "taped" "I") ∈ TBg := tb_mem 1019 (by decide +kernel) (by decide +kernel)
theorem k_3 : (Cond.fieldLink RX12 134 "TuneLocksModel" "size" "I") ∈ TBg := tb_mem 1020 (by decide +kernel) (by decide +kernel)
theorem k_4 : (Cond.fieldLink RX12 137 "TuneLocksModel" "faultKind" "I") ∈ TBg := tb_mem 1021 (by decide +kernel) (by decide +kernel)
theorem k_5 : (Cond.fieldLink RX12 16 "TuneLocksModel" "faultPlace" "I") ∈ TBg := tb_mem 1022 (by decide +kernel) (by decide +kernel)
theorem k_6 : (Cond.fieldLink RX12 173 "TuneLocksModel" "at" "I") ∈ TBg := tb_mem 1023 (by decide +kernel) (by decide +kernel)
theorem k_7 : (Cond.fieldLink RX12 170 "TuneLocksModel" "end" "I") ∈ TBg := tb_mem 1024 (by decide +kernel) (by decide +kernel)
theorem k_8 : (Cond.fieldLink RX12 180 "TuneLocksModel" "token" "I") ∈ TBg := tb_mem 1025 (by decide +kernel) (by decide +kernel)
theorem k_9 : (Cond.fieldLink RX12 198 "TuneLocksModel" "number" "I") ∈ TBg := tb_mem 1026 (by decide +kernel) (by decide +kernel)
theorem k_10 : (Cond.fieldLink RX12 187 "TuneLocksModel" "name" "J") ∈ TBg := tb_mem 1027 (by decide +kernel) (by decide +kernel)
theorem k_11 : (Cond.fieldLink RX12 20 "TuneLocksModel" "tunes" "[I") ∈ TBg := tb_mem 1028 (by decide +kernel) (by decide +kernel)
theorem k_12 : (Cond.fieldLink RX12 24 "TuneLocksModel" "locks" "[I") ∈ TBg := tb_mem 1029 (by decide +kernel) (by decide +kernel)
theorem k_13 : (Cond.fieldLink RX12 27 "TuneLocksModel" "unitsOf" "[I") ∈ TBg := tb_mem 1030 (by decide +kernel) (by decide +kernel)
theorem k_14 : (Cond.fieldLink RX12 30 "TuneLocksModel" "sweets" "[I") ∈ TBg := tb_mem 1031 (by decide +kernel) (by decide +kernel)
theorem k_15 : (Cond.fieldLink RX12 33 "TuneLocksModel" "songMany" "[I") ∈ TBg := tb_mem 1032 (by decide +kernel) (by decide +kernel)
theorem k_16 : (Cond.fieldLink RX12 36 "TuneLocksModel" "high" "[I") ∈ TBg := tb_mem 1033 (by decide +kernel) (by decide +kernel)
theorem k_17 : (Cond.fieldLink RX12 39 "TuneLocksModel" "length" "[I") ∈ TBg := tb_mem 1034 (by decide +kernel) (by decide +kernel)
theorem k_18 : (Cond.fieldLink RX12 42 "TuneLocksModel" "near" "[I") ∈ TBg := tb_mem 1035 (by decide +kernel) (by decide +kernel)
theorem k_19 : (Cond.fieldLink RX12 45 "TuneLocksModel" "lFrom" "[I") ∈ TBg := tb_mem 1036 (by decide +kernel) (by decide +kernel)
theorem k_20 : (Cond.fieldLink RX12 48 "TuneLocksModel" "lTo" "[I") ∈ TBg := tb_mem 1037 (by decide +kernel) (by decide +kernel)
theorem k_21 : (Cond.fieldLink RX12 51 "TuneLocksModel" "isSweet" "[Z") ∈ TBg := tb_mem 1038 (by decide +kernel) (by decide +kernel)
theorem k_22 : (Cond.fieldLink RX12 55 "TuneLocksModel" "tName" "[J") ∈ TBg := tb_mem 1039 (by decide +kernel) (by decide +kernel)
theorem k_23 : (Cond.fieldLink RX12 59 "TuneLocksModel" "lName" "[J") ∈ TBg := tb_mem 1040 (by decide +kernel) (by decide +kernel)
theorem k_24 : (Cond.fieldLink RX12 62 "TuneLocksModel" "code" "[I") ∈ TBg := tb_mem 1041 (by decide +kernel) (by decide +kernel)
theorem k_25 : (Cond.fieldLink RX12 65 "TuneLocksModel" "codeNumber" "[I") ∈ TBg := tb_mem 1042 (by decide +kernel) (by decide +kernel)
theorem k_26 : (Cond.fieldLink RX12 68 "TuneLocksModel" "eWhat" "[I") ∈ TBg := tb_mem 1043 (by decide +kernel) (by decide +kernel)
theorem k_27 : (Cond.fieldLink RX12 71 "TuneLocksModel" "eSign" "[I") ∈ TBg := tb_mem 1044 (by decide +kernel) (by decide +kernel)
theorem k_28 : (Cond.fieldLink RX12 74 "TuneLocksModel" "pile" "[I") ∈ TBg := tb_mem 1045 (by decide +kernel) (by decide +kernel)
theorem k_29 : (Cond.fieldLink RX12 227 "TuneLocksModel" "bank" "I") ∈ TBg := tb_mem 1046 (by decide +kernel) (by decide +kernel)
theorem k_30 : (Cond.fieldLink RX12 218 "TuneLocksModel" "rb" "I") ∈ TBg := tb_mem 1047 (by decide +kernel) (by decide +kernel)
theorem k_31 : (Cond.fieldLink RX12 221 "TuneLocksModel" "codes" "I") ∈ TBg := tb_mem 1048 (by decide +kernel) (by decide +kernel)
theorem k_32 : (Cond.fieldLink RX12 287 "TuneLocksModel" "within" "I") ∈ TBg := tb_mem 1049 (by decide +kernel) (by decide +kernel)
theorem k_33 : (Cond.fieldLink RX12 284 "TuneLocksModel" "piled" "I") ∈ TBg := tb_mem 1050 (by decide +kernel) (by decide +kernel)
theorem k_34 : (Cond.fieldLink RX12 236 "TuneLocksModel" "voice" "I") ∈ TBg := tb_mem 1051 (by decide +kernel) (by decide +kernel)
theorem k_35 : (Cond.fieldLink RX12 77 "TuneLocksModel" "isOpen" "[Z") ∈ TBg := tb_mem 1052 (by decide +kernel) (by decide +kernel)
theorem k_36 : (Cond.fieldLink RX12 80 "TuneLocksModel" "worn" "[I") ∈ TBg := tb_mem 1053 (by decide +kernel) (by decide +kernel)
theorem k_37 : (Cond.fieldLink RX12 239 "TuneLocksModel" "isNight" "Z") ∈ TBg := tb_mem 1054 (by decide +kernel) (by decide +kernel)
theorem k_38 : (Cond.fieldLink RX12 83 "TuneLocksModel" "nears" "[I") ∈ TBg := tb_mem 1055 (by decide +kernel) (by decide +kernel)
theorem k_39 : (Cond.fieldLink RX12 86 "TuneLocksModel" "laid" "[I") ∈ TBg := tb_mem 1056 (by decide +kernel) (by decide +kernel)
theorem k_40 : (Cond.fieldLink RX12 89 "TuneLocksModel" "tried" "[I") ∈ TBg := tb_mem 1057 (by decide +kernel) (by decide +kernel)
theorem k_41 : (Cond.fieldLink RX12 92 "TuneLocksModel" "kept" "[I") ∈ TBg := tb_mem 1058 (by decide +kernel) (by decide +kernel)
theorem k_42 : (Cond.fieldLink RX12 95 "TuneLocksModel" "over" "[I") ∈ TBg := tb_mem 1059 (by decide +kernel) (by decide +kernel)
theorem k_43 : (Cond.fieldLink RX12 378 "TuneLocksModel" "keptMany" "I") ∈ TBg := tb_mem 1060 (by decide +kernel) (by decide +kernel)
theorem k_44 : (Cond.fieldLink RX12 388 "TuneLocksModel" "fewNotes" "I") ∈ TBg := tb_mem 1061 (by decide +kernel) (by decide +kernel)
theorem k_45 : (Cond.fieldLink RX12 98 "TuneLocksModel" "wLock" "[I") ∈ TBg := tb_mem 1062 (by decide +kernel) (by decide +kernel)
theorem k_46 : (Cond.fieldLink RX12 101 "TuneLocksModel" "wTold" "[I") ∈ TBg := tb_mem 1063 (by decide +kernel) (by decide +kernel)
theorem k_47 : (Cond.fieldLink RX12 104 "TuneLocksModel" "wUntold" "[I") ∈ TBg := tb_mem 1064 (by decide +kernel) (by decide +kernel)
theorem k_48 : (Cond.fieldLink RX12 107 "TuneLocksModel" "wNight" "[Z") ∈ TBg := tb_mem 1065 (by decide +kernel) (by decide +kernel)
theorem k_49 : (Cond.fieldLink RX12 110 "TuneLocksModel" "wOpened" "[Z") ∈ TBg := tb_mem 1066 (by decide +kernel) (by decide +kernel)
theorem k_50 : (Cond.fieldLink RX12 233 "TuneLocksModel" "watches" "I") ∈ TBg := tb_mem 1067 (by decide +kernel) (by decide +kernel)
theorem k_51 : (Cond.fieldLink RX12 423 "TuneLocksModel" "time" "I") ∈ TBg := tb_mem 1068 (by decide +kernel) (by decide +kernel)
theorem k_52 : (Cond.fieldLink RX12 113 "TuneLocksModel" "boxMany" "[I") ∈ TBg := tb_mem 1069 (by decide +kernel) (by decide +kernel)
theorem k_53 : (Cond.fieldLink RX12 116 "TuneLocksModel" "boxHigh" "[I") ∈ TBg := tb_mem 1070 (by decide +kernel) (by decide +kernel)
theorem k_54 : (Cond.fieldLink RX12 119 "TuneLocksModel" "boxLength" "[I") ∈ TBg := tb_mem 1071 (by decide +kernel) (by decide +kernel)
theorem k_55 : (Cond.fieldLink RX12 122 "TuneLocksModel" "boxWorn" "[I") ∈ TBg := tb_mem 1072 (by decide +kernel) (by decide +kernel)
theorem k_56 : (Cond.fieldLink RX12 125 "TuneLocksModel" "boxOpen" "[Z") ∈ TBg := tb_mem 1073 (by decide +kernel) (by decide +kernel)
theorem k_57 : (Cond.fieldLink RX12 128 "TuneLocksModel" "boxNight" "[Z") ∈ TBg := tb_mem 1074 (by decide +kernel) (by decide +kernel)
/-! the reference: its object and arrays as one world, its numbers by slots; what they keep to, by tables -/
abbrev MF (h : Nat → Nat) (v : Nat → Int32) (nm : Int64) : List Value := [.ref (h 0), .ref (h 1), .int (v 2), .int (v 3), .int (v 4), .int (v 5), .int (v 6), .int (v 7), .int (v 8), .int (v 9), .long nm, .ref (h 11), .ref (h 12), .ref (h 13), .ref (h 14), .ref (h 15), .ref (h 16), .ref (h 17), .ref (h 18), .ref (h 19), .ref (h 20), .ref (h 21), .ref (h 22), .ref (h 23), .ref (h 24), .ref (h 25), .ref (h 26), .ref (h 27), .ref (h 28), .int (v 29), .int (v 30), .int (v 31), .int (v 32), .int (v 33), .int (v 34), .ref (h 35), .ref (h 36), .int (v 37), .ref (h 38), .ref (h 39), .ref (h 40), .ref (h 41), .ref (h 42), .int (v 43), .int (v 44), .ref (h 45), .ref (h 46), .ref (h 47), .ref (h 48), .ref (h 49), .int (v 50), .int (v 51), .ref (h 52), .ref (h 53), .ref (h 54), .ref (h 55), .ref (h 56), .ref (h 57)]
abbrev WMs (cy : Nat → ClassId) (mo : Nat) (h : Nat → Nat) (v : Nat → Int32) (nm : Int64) (f : Nat → Nat → Int32) (g : Nat → Nat → Int64) : va_W := [(mo, .inr (12, MF h v nm)), (h 0, .inl (cy 1, 1720, .inl (f 0))), (h 1, .inl (cy 1, 1700, .inl (f 1))), (h 11, .inl (cy 0, 2, .inl (f 11))), (h 12, .inl (cy 0, 2, .inl (f 12))), (h 13, .inl (cy 0, 2, .inl (f 13))), (h 14, .inl (cy 0, 2, .inl (f 14))), (h 15, .inl (cy 0, 30, .inl (f 15))), (h 16, .inl (cy 0, 1200, .inl (f 16))), (h 17, .inl (cy 0, 1200, .inl (f 17))), (h 18, .inl (cy 0, 16, .inl (f 18))), (h 19, .inl (cy 0, 16, .inl (f 19))), (h 20, .inl (cy 0, 16, .inl (f 20))), (h 21, .inl (cy 2, 2, .inl (f 21))), (h 22, .inl (cy 3, 28, .inr (.inl (g 22)))), (h 23, .inl (cy 3, 16, .inr (.inl (g 23)))), (h 24, .inl (cy 0, 1200, .inl (f 24))), (h 25, .inl (cy 0, 1200, .inl (f 25))), (h 26, .inl (cy 0, 120, .inl (f 26))), (h 27, .inl (cy 0, 120, .inl (f 27))), (h 28, .inl (cy 0, 120, .inl (f 28))), (h 35, .inl (cy 2, 8, .inl (f 35))), (h 36, .inl (cy 0, 8, .inl (f 36))), (h 38, .inl (cy 0, 14, .inl (f 38))), (h 39, .inl (cy 0, 6, .inl (f 39))), (h 40, .inl (cy 0, 6, .inl (f 40))), (h 41, .inl (cy 0, 6, .inl (f 41))), (h 42, .inl (cy 0, 36, .inl (f 42))), (h 45, .inl (cy 0, 30, .inl (f 45))), (h 46, .inl (cy 0, 30, .inl (f 46))), (h 47, .inl (cy 0, 30, .inl (f 47))), (h 48, .inl (cy 2, 30, .inl (f 48))), (h 49, .inl (cy 2, 30, .inl (f 49))), (h 52, .inl (cy 0, 3, .inl (f 52))), (h 53, .inl (cy 0, 120, .inl (f 53))), (h 54, .inl (cy 0, 120, .inl (f 54))), (h 55, .inl (cy 0, 24, .inl (f 55))), (h 56, .inl (cy 2, 24, .inl (f 56))), (h 57, .inl (cy 2, 3, .inl (f 57)))]
def loV (T : Int) (k : Nat) : Int := match k with | 2 => 0 | 3 => 0 | 6 => 0 | 7 => 0 | 29 => 0 | 30 => 0 | 31 => 0 | 32 => 0 | 33 => 0 | 34 => 0 | 37 => 0 | 43 => 0 | 50 => 0 | 51 => T | 4 => 0 | _ => (-2147483648)
def hiV (T : Int) (k : Nat) : Int := match k with | 2 => 1700 | 3 => 1700 | 6 => 1700 | 7 => 1701 | 29 => 1 | 30 => 1 | 31 => 1200 | 32 => 7 | 33 => 120 | 34 => 40 | 37 => 1 | 43 => 6 | 50 => 30 | 51 => T | 4 => 5 | _ => 2147483647
def loA (k : Nat) : Int := match k with | 11 => 0 | 12 => 0 | 13 => 0 | 15 => 0 | 17 => 0 | 54 => 0 | 19 => 0 | 20 => 0 | 41 => 0 | 40 => 0 | 45 => 0 | 52 => (-1) | 57 => 0 | 35 => 0 | 48 => 0 | 49 => 0 | 56 => 0 | _ => (-2147483648)
def hiA (k : Nat) : Int := match k with | 11 => 14 | 12 => 8 | 13 => 60 | 15 => 12 | 17 => 9 | 54 => 9 | 19 => 1200 | 20 => 1200 | 41 => 13 | 40 => 5 | 45 => 7 | 52 => 40 | 57 => 1 | 35 => 1 | 48 => 1 | 49 => 1 | 56 => 1 | _ => 2147483647
def lenA (k : Nat) : Nat := match k with | 0 => 1720 | 1 => 1700 | 11 => 2 | 12 => 2 | 13 => 2 | 14 => 2 | 15 => 30 | 16 => 1200 | 17 => 1200 | 18 => 16 | 19 => 16 | 20 => 16 | 21 => 2 | 22 => 28 | 23 => 16 | 24 => 1200 | 25 => 1200 | 26 => 120 | 27 => 120 | 28 => 120 | 35 => 8 | 36 => 8 | 38 => 14 | 39 => 6 | 40 => 6 | 41 => 6 | 42 => 36 | 45 => 30 | 46 => 30 | 47 => 30 | 48 => 30 | 49 => 30 | 52 => 3 | 53 => 120 | 54 => 120 | 55 => 24 | 56 => 24 | 57 => 3 | _ => 0
def MIv (T : Int) (v : Nat → Int32) : Prop := ∀ k, loV T k ≤ (v k).toInt ∧ (v k).toInt ≤ hiV T k
def MIf (f : Nat → Nat → Int32) : Prop := ∀ a j, j < lenA a → loA a ≤ (f a j).toInt ∧ (f a j).toInt ≤ hiA a
theorem MIv.up {T : Int} {v : Nat → Int32} (k : Nat) {x : Int32} (h : MIv T v) (hx : loV T k ≤ x.toInt ∧ x.toInt ≤ hiV T k) : MIv T (va_up v k x) := fun j => by
  by_cases e : j = k
  · subst e
    rw [show va_up v j x j = x from if_pos rfl]
    exact hx
  · rw [show va_up v k x j = v j from if_neg e]
    exact h j
theorem MIf.up {f : Nat → Nat → Int32} (a : Nat) {i : Nat} {x : Int32} (h : MIf f) (hx : loA a ≤ x.toInt ∧ x.toInt ≤ hiA a) : MIf (va_up f a (upd (f a) i x)) := fun b j hj => by
  by_cases e : b = a
  · subst e
    rw [show va_up f b (upd (f b) i x) b = upd (f b) i x from if_pos rfl]
    by_cases e2 : j = i
    · subst e2
      rw [pk_us]
      exact hx
    · rw [pk_un e2]
      exact h b j hj
  · rw [show va_up f a (upd (f a) i x) b = f b from if_neg e]
    exact h b j hj
theorem MIf.rd {f : Nat → Nat → Int32} (a : Nat) {i : Int32} (h : MIf f) (hin : vp_in i (lenA a)) : loA a ≤ (f a i.toNatClampNeg).toInt ∧ (f a i.toNatClampNeg).toInt ≤ hiA a := h a _ (by
  unfold vp_in at hin
  omega)
theorem ow_tn' (x : Int32) : Int32.toNatClampNeg x = x.toInt.toNat := rfl
theorem ow_any (x : Int32) : -2147483648 ≤ x.toInt ∧ x.toInt ≤ 2147483647 := ⟨Int32.le_toInt x, by have := Int32.toInt_lt x; omega⟩
theorem ow_add {a b w : Int32} (e : w = a + b) (h1 : -2147483648 ≤ a.toInt + b.toInt) (h2 : a.toInt + b.toInt ≤ 2147483647) : w.toInt = a.toInt + b.toInt := by
  rw [e, Int32.toInt_add, Int.bmod_eq_of_le] <;> omega
theorem ow_sub {a b w : Int32} (e : w = a - b) (h1 : -2147483648 ≤ a.toInt - b.toInt) (h2 : a.toInt - b.toInt ≤ 2147483647) : w.toInt = a.toInt - b.toInt := by
  rw [e, Int32.toInt_sub, Int.bmod_eq_of_le] <;> omega
theorem ow_mul {a b w : Int32} {k : Int} (e : w = a * b) (ha : a.toInt = k) (h1 : -2147483648 ≤ k * b.toInt) (h2 : k * b.toInt ≤ 2147483647) : w.toInt = k * b.toInt := by
  rw [e, Int32.toInt_mul, ha, Int.bmod_eq_of_le] <;> omega
theorem ow_mul2 {a b w : Int32} {k : Int} (e : w = b * a) (ha : a.toInt = k) (h1 : -2147483648 ≤ k * b.toInt) (h2 : k * b.toInt ≤ 2147483647) : w.toInt = k * b.toInt := by
  rw [e, Int32.toInt_mul, ha, Int.mul_comm, Int.bmod_eq_of_le] <;> omega
theorem MIv.time {T : Int} {v : Nat → Int32} (h : MIv T v) (x : Int32) : MIv x.toInt (va_up v 51 x) := fun j => by
  by_cases e : j = 51
  · subst e
    rw [show va_up v 51 x 51 = x from if_pos rfl]
    exact ⟨Int.le_refl _, Int.le_refl _⟩
  · rw [show va_up v 51 x j = v j from if_neg e]
    have h1 := h j
    have e1 : ∀ a b : Int, loV a j = loV b j := fun a b => by
      unfold loV
      split <;> first | rfl | exact absurd rfl e
    have e2 : ∀ a b : Int, hiV a j = hiV b j := fun a b => by
      unfold hiV
      split <;> first | rfl | exact absurd rfl e
    rw [e1 x.toInt T, e2 x.toInt T]
    exact h1
def spT (T n : Int) : Int := if 0 ≤ n ∧ n ≤ 1000 ∧ T + n ≤ 100000 then T + n else T
def spR (T n : Int) : Int := if 0 ≤ n ∧ n ≤ 1000 ∧ T + n ≤ 100000 then T + n else -1
theorem ow_div {a b w : Int32} {k : Int} (e : w = a / b) (hb : b.toInt = k) (h0 : 0 ≤ a.toInt) (hk : 0 < k) : w.toInt = a.toInt / k := by
  have h9 := ow_any a
  have h1 : 0 ≤ a.toInt / k := Int.ediv_nonneg h0 (by omega)
  have h2 : a.toInt / k ≤ a.toInt := Int.ediv_le_self _ h0
  rw [e, Int32.toInt_div, hb, Int.tdiv_eq_ediv_of_nonneg h0, Int.bmod_eq_of_le] <;> omega
theorem ow_rem {a b w : Int32} {k : Int} (e : w = a - a / b * b) (hb : b.toInt = k) (h0 : 0 ≤ a.toInt) (hk : 0 < k) : 0 ≤ w.toInt ∧ w.toInt < k := by
  have h9 := ow_any a
  have hd := ow_div (w := a / b) rfl hb h0 hk
  have h3 := Int.emod_add_mul_ediv a.toInt k
  have h4 := Int.emod_nonneg a.toInt (by omega : k ≠ 0)
  have h5 := Int.emod_lt_of_pos a.toInt hk
  have h1 : 0 ≤ a.toInt / k := Int.ediv_nonneg h0 (by omega)
  have h6 : 0 ≤ k * (a.toInt / k) := Int.mul_nonneg (by omega) h1
  have hm : (a / b * b).toInt = k * (a / b).toInt := ow_mul2 rfl hb (by rw [hd]; omega) (by rw [hd]; omega)
  rw [hd] at hm
  have hs := ow_sub e (by omega) (by omega)
  omega
theorem ow_nz (x : Int32) : 0 ≤ (vp_nar .boolean x).toInt ∧ (vp_nar .boolean x).toInt ≤ 1 := by
  have e : vp_nar .boolean x = x &&& 1 := rfl
  rw [e, pk_and x (m := 1) 1 (by decide), nI_toInt (by omega)]
  omega
theorem va_P0 {G : va_G} {H : Heap} : va_P G vwCl [] H := fun k q h => by simp at h
theorem va_D0 : va_D (fun _ => True) [] := ⟨fun i j p q h => by simp at h, fun k q h => by simp at h⟩
theorem ow_nb {r : Int32} (h : r.toInt = 0 ∨ r.toInt = 1) : narrow .boolean (.int r) = .int r := by
  rcases h with h | h
  · obtain rfl : r = 0 := (ow_eq r 0).mpr (by rw [h]; decide)
    rfl
  · obtain rfl : r = 1 := (ow_eq r 1).mpr (by rw [h]; decide)
    rfl
theorem ow_fb {r : Int32} (h : r.toInt = 0 ∨ r.toInt = 1) : fits .boolean (.int r) = true := by
  rcases h with h | h
  · obtain rfl : r = 0 := (ow_eq r 0).mpr (by rw [h]; decide)
    rfl
  · obtain rfl : r = 1 := (ow_eq r 1).mpr (by rw [h]; decide)
    rfl

/-! the rows that a lock's e was made into: a postfix row; heights -/
def okc (c n : Int) : Prop := c = 107 ∨ c = 110 ∨ c = 109 ∨ c = 119 ∨ ((c = 105 ∨ c = 98 ∨ c = 101) ∧ 0 ≤ n ∧ n ≤ 13)
def hgd (c : Int) : Int := if 97 ≤ c ∧ c ≤ 122 then 1 else if c = 126 then 0 else -1
def hg (co : Nat → Int32) (F : Nat) : Nat → Int
  | 0 => 0
  | n + 1 => hg co F n + hgd (co (F + n)).toInt
def wfr (co cn : Nat → Int32) (F E : Nat) : Prop := ∀ n, F + n < E → hg co F n ≤ 100 ∧ ((97 ≤ (co (F + n)).toInt ∧ (co (F + n)).toInt ≤ 122) → 0 ≤ hg co F n ∧ okc (co (F + n)).toInt (cn (F + n)).toInt) ∧ ((co (F + n)).toInt = 126 → 1 ≤ hg co F n) ∧ (¬ (97 ≤ (co (F + n)).toInt ∧ (co (F + n)).toInt ≤ 122) → ¬ (co (F + n)).toInt = 126 → 2 ≤ hg co F n)
def RIb (f : Nat → Nat → Int32) (b : Nat) : Prop := ∀ l : Nat, (l : Int) < (f 12 b).toInt → 600 * (b : Int) ≤ (f 19 (8 * b + l)).toInt ∧ (f 19 (8 * b + l)).toInt ≤ (f 20 (8 * b + l)).toInt ∧ (f 20 (8 * b + l)).toInt ≤ 600 * (b : Int) + 600 ∧ wfr (f 24) (f 25) (f 19 (8 * b + l)).toInt.toNat (f 20 (8 * b + l)).toInt.toNat
def RI (v : Nat → Int32) (f : Nat → Nat → Int32) : Prop := RIb f (Int32.toNatClampNeg (v 29))
def WL (v : Nat → Int32) (f : Nat → Nat → Int32) : Prop := ∀ n : Nat, (n : Int) < (v 50).toInt → 0 ≤ (f 45 n).toInt ∧ (f 45 n).toInt < (f 12 (Int32.toNatClampNeg (v 29))).toInt
theorem MIf.any {f : Nat → Nat → Int32} (h : MIf f) (p : Nat → Int32) : MIf (va_up f 28 p) := fun b j hj => by
  by_cases e : b = 28
  · subst e
    rw [show va_up f 28 p 28 = p from if_pos rfl]
    exact ow_any _
  · rw [show va_up f 28 p b = f b from if_neg e]
    exact h b j hj
theorem RIb.up {f : Nat → Nat → Int32} (a : Nat) {w : Nat → Int32} {b : Nat} (h : RIb f b) (ha : a ≠ 12 ∧ a ≠ 19 ∧ a ≠ 20 ∧ a ≠ 24 ∧ a ≠ 25) : RIb (va_up f a w) b := by
  have e1 : va_up f a w 12 = f 12 := if_neg (Ne.symm ha.1)
  have e2 : va_up f a w 19 = f 19 := if_neg (Ne.symm ha.2.1)
  have e3 : va_up f a w 20 = f 20 := if_neg (Ne.symm ha.2.2.1)
  have e4 : va_up f a w 24 = f 24 := if_neg (Ne.symm ha.2.2.2.1)
  have e5 : va_up f a w 25 = f 25 := if_neg (Ne.symm ha.2.2.2.2)
  unfold RIb
  rw [e1, e2, e3, e4, e5]
  exact h
theorem RI.up {v : Nat → Int32} {f : Nat → Nat → Int32} (a : Nat) {w : Nat → Int32} (h : RI v f) (ha : a ≠ 12 ∧ a ≠ 19 ∧ a ≠ 20 ∧ a ≠ 24 ∧ a ≠ 25) : RI v (va_up f a w) := RIb.up a h ha
theorem RI.upv {v : Nat → Int32} {f : Nat → Nat → Int32} (k : Nat) {x : Int32} (h : RI v f) (hk : k ≠ 29) : RI (va_up v k x) f := by
  have e1 : va_up v k x 29 = v 29 := if_neg (Ne.symm hk)
  unfold RI
  rw [e1]
  exact h
def FV (L : List Nat) (v u : Nat → Int32) : Prop := ∀ k, k ∉ L → u k = v k
def FF (L : List Nat) (f u : Nat → Nat → Int32) : Prop := ∀ k, k ∉ L → u k = f k
theorem FV.rf {L : List Nat} {v : Nat → Int32} : FV L v v := fun _ _ => rfl
theorem FF.rf {L : List Nat} {f : Nat → Nat → Int32} : FF L f f := fun _ _ => rfl
theorem FV.up {L : List Nat} {v u : Nat → Int32} (h : FV L v u) (k : Nat) (x : Int32) (hk : k ∈ L) : FV L v (va_up u k x) := fun j hj => by
  have e9 : j ≠ k := fun e => hj (by rw [e]; exact hk)
  rw [show va_up u k x j = u j from if_neg e9]
  exact h j hj
theorem FF.up {L : List Nat} {f u : Nat → Nat → Int32} (h : FF L f u) (k : Nat) (x : Nat → Int32) (hk : k ∈ L) : FF L f (va_up u k x) := fun j hj => by
  have e9 : j ≠ k := fun e => hj (by rw [e]; exact hk)
  rw [show va_up u k x j = u j from if_neg e9]
  exact h j hj
theorem FV.tr {L L1 : List Nat} {a b c : Nat → Int32} (h : FV L a b) (h1 : FV L1 b c) (hs : ∀ k ∈ L1, k ∈ L) : FV L a c := fun k hk => (h1 k (fun e => hk (hs k e))).trans (h k hk)
theorem FF.tr {L L1 : List Nat} {a b c : Nat → Nat → Int32} (h : FF L a b) (h1 : FF L1 b c) (hs : ∀ k ∈ L1, k ∈ L) : FF L a c := fun k hk => (h1 k (fun e => hk (hs k e))).trans (h k hk)
theorem RI.fv {L : List Nat} {v u : Nat → Int32} {f : Nat → Nat → Int32} (h : RI v f) (hu : FV L v u) (hk : 29 ∉ L) : RI u f := by
  unfold RI
  rw [hu 29 hk]
  exact h
theorem WL.fv {L : List Nat} {v u : Nat → Int32} {f : Nat → Nat → Int32} (h : WL v f) (hu : FV L v u) (hk : 29 ∉ L) (hk2 : 50 ∉ L) : WL u f := by
  unfold WL
  rw [hu 29 hk, hu 50 hk2]
  exact h
theorem ow_and255 (x : Int32) : 0 ≤ (x &&& 255).toInt ∧ (x &&& 255).toInt ≤ 255 := by
  rw [pk_and x (m := 255) 8 (by decide), nI_toInt (by omega)]
  omega
theorem ow_and1 (x : Int32) : 0 ≤ (x &&& 1).toInt ∧ (x &&& 1).toInt ≤ 1 := by
  rw [pk_and x (m := 1) 1 (by decide), nI_toInt (by omega)]
  omega
theorem WL.upf {v : Nat → Int32} {f : Nat → Nat → Int32} (a : Nat) {w : Nat → Int32} (h : WL v f) (ha : a ≠ 12 ∧ a ≠ 45) : WL v (va_up f a w) := by
  have e1 : va_up f a w 12 = f 12 := if_neg (Ne.symm ha.1)
  have e2 : va_up f a w 45 = f 45 := if_neg (Ne.symm ha.2)
  unfold WL
  rw [e1, e2]
  exact h
theorem WL.upv {v : Nat → Int32} {f : Nat → Nat → Int32} (k : Nat) {x : Int32} (h : WL v f) (hk : k ≠ 29 ∧ k ≠ 50) : WL (va_up v k x) f := by
  have e1 : va_up v k x 29 = v 29 := if_neg (Ne.symm hk.1)
  have e2 : va_up v k x 50 = v 50 := if_neg (Ne.symm hk.2)
  unfold WL
  rw [e1, e2]
  exact h
theorem va_up_id {α : Type} (f : Nat → α) (k : Nat) : va_up f k (f k) = f := by
  funext j
  unfold va_up
  split
  · rename_i h
    rw [h]
  · rfl
theorem ow_tn (x : Int32) : Int32.toNatClampNeg x = x.toInt.toNat := rfl

/-! bits, sums -/
def bt (x k : Int32) : Int := ((x >>> (k &&& 31)) &&& 1).toInt
def bts (x : Int32) : Nat → Int
  | 0 => 0
  | n + 1 => bts x n + bt x (nI n)
def lsm (t : Nat → Int32) (b : Nat) : Nat → Int
  | 0 => 0
  | n + 1 => lsm t b n + (t (b + n)).toInt
theorem nI_tn {k : Int32} (h : 0 ≤ k.toInt) : nI (Int32.toNatClampNeg k) = k := (ow_eq _ _).mpr (by
  have h9 := ow_any k
  rw [nI_toInt (by rw [ow_tn']; omega), ow_tn']
  omega)
theorem bt_rg (x k : Int32) : 0 ≤ bt x k ∧ bt x k ≤ 1 := ow_and1 _
theorem bts_mono (x : Int32) {a b : Nat} (h : a ≤ b) : bts x a ≤ bts x b := by
  induction h with
  | refl => exact Int.le_refl _
  | step h ih =>
    rename_i m
    have := bt_rg x (nI m)
    show bts x a ≤ bts x m + bt x (nI m)
    omega
theorem bt_step {x k k1 : Int32} (h0 : 0 ≤ k.toInt) (h1 : k1.toInt = k.toInt + 1) : bts x (Int32.toNatClampNeg k1) = bts x (Int32.toNatClampNeg k) + bt x k := by
  rw [show Int32.toNatClampNeg k1 = Int32.toNatClampNeg k + 1 from by rw [ow_tn', ow_tn']; omega]
  show bts x _ + bt x (nI _) = _
  rw [nI_tn h0]
theorem lsm_step {t : Nat → Int32} {b : Nat} {k k1 j : Int32} (h0 : 0 ≤ k.toInt) (h1 : k1.toInt = k.toInt + 1) (hj : j.toInt = b + k.toInt) : lsm t b k1.toInt.toNat = lsm t b k.toInt.toNat + (t (Int32.toNatClampNeg j)).toInt := by
  rw [show k1.toInt.toNat = k.toInt.toNat + 1 from by omega, show Int32.toNatClampNeg j = b + k.toInt.toNat from by rw [ow_tn']; omega]
  rfl
def DS (t : Nat → Int32) (n : Int) : Prop := ∀ a b : Nat, (a : Int) < n → (b : Int) < n → a ≠ b → (t a).toInt ≠ (t b).toInt
def swp (t : Nat → Int32) (i j : Nat) : Nat → Int32 := upd (upd t i (t j)) j (t i)
theorem sw_at (t : Nat → Int32) (i j k : Nat) : swp t i j k = if k = j then t i else if k = i then t j else t k := by
  unfold swp
  by_cases h1 : k = j
  · subst h1
    rw [pk_us, if_pos rfl]
  · rw [pk_un h1, if_neg h1]
    by_cases h2 : k = i
    · subst h2
      rw [pk_us, if_pos rfl]
    · rw [pk_un h2, if_neg h2]
theorem sw_of (t : Nat → Int32) (i j k : Nat) : swp t i j k = t (if k = j then i else if k = i then j else k) := by
  rw [sw_at]
  split
  · rfl
  · split <;> rfl
theorem DS.sw {t : Nat → Int32} {n : Int} (h : DS t n) {i j : Nat} (hi : (i : Int) < n) (hj : (j : Int) < n) : DS (swp t i j) n := fun a b ha hb hab => by
  rw [sw_of, sw_of]
  refine h _ _ ?_ ?_ ?_
  · split
    · exact hi
    · split
      · exact hj
      · exact ha
  · split
    · exact hi
    · split
      · exact hj
      · exact hb
  · split <;> split <;> (try split) <;> (try split) <;> omega
def LG (t u : Nat → Int32) (i : Nat) : Prop := (∀ k, k < i → u k = t k) ∧ (t i).toInt < (u i).toInt
theorem LG.sw {t u : Nat → Int32} {i a b : Nat} (h : LG t u i) (ha : i < a) (hb : i < b) : LG t (swp u a b) i := by
  refine ⟨fun k hk => ?_, ?_⟩
  · rw [sw_at, if_neg (by omega), if_neg (by omega)]
    exact h.1 k hk
  · rw [sw_at, if_neg (by omega), if_neg (by omega)]
    exact h.2
theorem LG.of {t : Nat → Int32} {i j : Nat} (hij : i < j) (h : (t i).toInt < (t j).toInt) : LG t (swp t i j) i := by
  refine ⟨fun k hk => ?_, ?_⟩
  · rw [sw_at, if_neg (by omega), if_neg (by omega)]
  · rw [sw_at, if_neg (by omega), if_pos rfl]
    exact h
def vlt (t : Nat → Int32) : Int := 7776 * (t 0).toInt + 1296 * (t 1).toInt + 216 * (t 2).toInt + 36 * (t 3).toInt + 6 * (t 4).toInt + (t 5).toInt
theorem vl_rg {t : Nat → Int32} (h : ∀ k, k < 6 → 0 ≤ (t k).toInt ∧ (t k).toInt ≤ 5) : 0 ≤ vlt t ∧ vlt t ≤ 46655 := by
  have h0 := h 0 (by omega)
  have h1 := h 1 (by omega)
  have h2 := h 2 (by omega)
  have h3 := h 3 (by omega)
  have h4 := h 4 (by omega)
  have h5 := h 5 (by omega)
  unfold vlt
  omega
theorem LG.vl {t u : Nat → Int32} {i : Nat} (h : LG t u i) (hi : i < 6) (ht : ∀ k, k < 6 → 0 ≤ (t k).toInt ∧ (t k).toInt ≤ 5) (hu : ∀ k, k < 6 → 0 ≤ (u k).toInt ∧ (u k).toInt ≤ 5) : vlt t < vlt u := by
  obtain ⟨h1, h2⟩ := h
  have a1 := ht 1 (by omega)
  have a2 := ht 2 (by omega)
  have a3 := ht 3 (by omega)
  have a4 := ht 4 (by omega)
  have a5 := ht 5 (by omega)
  have b1 := hu 1 (by omega)
  have b2 := hu 2 (by omega)
  have b3 := hu 3 (by omega)
  have b4 := hu 4 (by omega)
  have b5 := hu 5 (by omega)
  have e : i = 0 ∨ i = 1 ∨ i = 2 ∨ i = 3 ∨ i = 4 ∨ i = 5 := by omega
  unfold vlt
  rcases e with rfl | rfl | rfl | rfl | rfl | rfl
  · omega
  · rw [h1 0 (by omega)]
    omega
  · rw [h1 0 (by omega), h1 1 (by omega)]
    omega
  · rw [h1 0 (by omega), h1 1 (by omega), h1 2 (by omega)]
    omega
  · rw [h1 0 (by omega), h1 1 (by omega), h1 2 (by omega), h1 3 (by omega)]
    omega
  · rw [h1 0 (by omega), h1 1 (by omega), h1 2 (by omega), h1 3 (by omega), h1 4 (by omega)]
    omega

section MROWS
variable {p : Program} {l : Launch} {e : Env} {R : Room} {s : State} {m : MethodId} {args : Array Value} {below : List Frame} {meth : Method} {c : Code} {H : Heap} {locs : List Loc} {cells slots : Nat} {Q : State → Prop}
variable {cc : ByteArray} {pc : Nat} {ls : Array Slot} {rest : List Value} {G : va_G} {A : Nat → Prop} {cy : Nat → ClassId} {H0 : Heap} {mo : Nat} {h : Nat → Nat} {v : Nat → Int32} {nm : Int64} {f : Nat → Nat → Int32} {g : Nat → Nat → Int64}
theorem mg_0 (hx : p.tables.exec = Jvm.exec) (hb : c.code = cc) (ht : ∀ w ∈ TBg, w.before args s = true) (hown : s.vm.findClass RX12 = some m.cls) (hK : va_K G vwCl (TY cy) s) (hP : va_P G vwCl (WMs cy mo h v nm f g) H) (hdg : decode cc pc = .ok (.getfield 7, 3)) (kk : W p l e R s m args below meth c H locs cells slots Q (F0 m (pc + 3) ls (.ref (h 0) :: rest))) : W p l e R s m args below meth c H locs cells slots Q (F0 m pc ls (.ref mo :: rest)) :=
  va_get (ci := 12) (v := .ref (h 0)) (C := RX12) (T := TX12) (N := 58) hx hb ht iX12 hown hK hP 0 rfl rfl 0 (by decide) (ht _ k_0) (fun _ h9 => h9) rfl hdg kk
theorem ml_0 {i : Int32} (hx : p.tables.exec = Jvm.exec) (hb : c.code = cc) (hK : va_K G vwCl (TY cy) s) (hP : va_P G vwCl (WMs cy mo h v nm f g) H) (hin : vp_in i 1720) (hdg : decode cc pc = .ok (.baload, 1)) (kk : W p l e R s m args below meth c H locs cells slots Q (F0 m (pc + 1) ls (.int (f 0 i.toNatClampNeg) :: rest))) : W p l e R s m args below meth c H locs cells slots Q (F0 m pc ls (.int i :: .ref (h 0) :: rest)) :=
  va_bald hx hb hK hP 1 1 rfl rfl hin hdg kk
theorem ms_0 {i : Int32} {x : Int32} (hx : p.tables.exec = Jvm.exec) (hb : c.code = cc) (hK : va_K G vwCl (TY cy) s) (hP : va_P G vwCl (WMs cy mo h v nm f g) H) (hD : va_D A (WMs cy mo h v nm f g)) (hS : va_S A H0 H locs) (hin : vp_in i 1720) (hdg : decode cc pc = .ok (.bastore, 1)) (kk : ∀ (H1 : Heap) (locs1 : List Loc), va_P G vwCl (WMs cy mo h v nm (va_up f 0 (upd (f 0) i.toNatClampNeg (vp_nar .byte x))) g) H1 → va_D A (WMs cy mo h v nm (va_up f 0 (upd (f 0) i.toNatClampNeg (vp_nar .byte x))) g) → va_S A H0 H1 locs1 → W p l e R s m args below meth c H1 locs1 cells slots Q (F0 m (pc + 1) ls rest)) : W p l e R s m args below meth c H locs cells slots Q (F0 m pc ls (.int x :: .int i :: .ref (h 0) :: rest)) :=
  va_bast hx hb hK hP hD hS 1 1 rfl rfl hin hdg (fun H1 l1 h1 h2 h3 => kk H1 l1 h1 h2 h3)
theorem mg_1 (hx : p.tables.exec = Jvm.exec) (hb : c.code = cc) (ht : ∀ w ∈ TBg, w.before args s = true) (hown : s.vm.findClass RX12 = some m.cls) (hK : va_K G vwCl (TY cy) s) (hP : va_P G vwCl (WMs cy mo h v nm f g) H) (hdg : decode cc pc = .ok (.getfield 13, 3)) (kk : W p l e R s m args below meth c H locs cells slots Q (F0 m (pc + 3) ls (.ref (h 1) :: rest))) : W p l e R s m args below meth c H locs cells slots Q (F0 m pc ls (.ref mo :: rest)) :=
  va_get (ci := 12) (v := .ref (h 1)) (C := RX12) (T := TX12) (N := 58) hx hb ht iX12 hown hK hP 0 rfl rfl 1 (by decide) (ht _ k_1) (fun _ h9 => h9) rfl hdg kk
theorem ml_1 {i : Int32} (hx : p.tables.exec = Jvm.exec) (hb : c.code = cc) (hK : va_K G vwCl (TY cy) s) (hP : va_P G vwCl (WMs cy mo h v nm f g) H) (hin : vp_in i 1700) (hdg : decode cc pc = .ok (.baload, 1)) (kk : W p l e R s m args below meth c H locs cells slots Q (F0 m (pc + 1) ls (.int (f 1 i.toNatClampNeg) :: rest))) : W p l e R s m args below meth c H locs cells slots Q (F0 m pc ls (.int i :: .ref (h 1) :: rest)) :=
  va_bald hx hb hK hP 2 1 rfl rfl hin hdg kk
theorem ms_1 {i : Int32} {x : Int32} (hx : p.tables.exec = Jvm.exec) (hb : c.code = cc) (hK : va_K G vwCl (TY cy) s) (hP : va_P G vwCl (WMs cy mo h v nm f g) H) (hD : va_D A (WMs cy mo h v nm f g)) (hS : va_S A H0 H locs) (hin : vp_in i 1700) (hdg : decode cc pc = .ok (.bastore, 1)) (kk : ∀ (H1 : Heap) (locs1 : List Loc), va_P G vwCl (WMs cy mo h v nm (va_up f 1 (upd (f 1) i.toNatClampNeg (vp_nar .byte x))) g) H1 → va_D A (WMs cy mo h v nm (va_up f 1 (upd (f 1) i.toNatClampNeg (vp_nar .byte x))) g) → va_S A H0 H1 locs1 → W p l e R s m args below meth c H1 locs1 cells slots Q (F0 m (pc + 1) ls rest)) : W p l e R s m args below meth c H locs cells slots Q (F0 m pc ls (.int x :: .int i :: .ref (h 1) :: rest)) :=
  va_bast hx hb hK hP hD hS 2 1 rfl rfl hin hdg (fun H1 l1 h1 h2 h3 => kk H1 l1 h1 h2 h3)
theorem mg_2 (hx : p.tables.exec = Jvm.exec) (hb : c.code = cc) (ht : ∀ w ∈ TBg, w.before args s = true) (hown : s.vm.findClass RX12 = some m.cls) (hK : va_K G vwCl (TY cy) s) (hP : va_P G vwCl (WMs cy mo h v nm f g) H) (hdg : decode cc pc = .ok (.getfield 224, 3)) (kk : W p l e R s m args below meth c H locs cells slots Q (F0 m (pc + 3) ls (.int (v 2) :: rest))) : W p l e R s m args below meth c H locs cells slots Q (F0 m pc ls (.ref mo :: rest)) :=
  va_get (ci := 12) (v := .int (v 2)) (C := RX12) (T := TX12) (N := 58) hx hb ht iX12 hown hK hP 0 rfl rfl 2 (by decide) (ht _ k_2) (fun _ h9 => h9) rfl hdg kk
theorem mp_2 {x : Int32} (hx : p.tables.exec = Jvm.exec) (hb : c.code = cc) (ht : ∀ w ∈ TBg, w.before args s = true) (hown : s.vm.findClass RX12 = some m.cls) (hK : va_K G vwCl (TY cy) s) (hP : va_P G vwCl (WMs cy mo h v nm f g) H) (hD : va_D A (WMs cy mo h v nm f g)) (hS : va_S A H0 H locs) (hdg : decode cc pc = .ok (.putfield 224, 3)) (kk : ∀ (H1 : Heap) (locs1 : List Loc), va_P G vwCl (WMs cy mo h (va_up v 2 x) nm f g) H1 → va_D A (WMs cy mo h (va_up v 2 x) nm f g) → va_S A H0 H1 locs1 → W p l e R s m args below meth c H1 locs1 cells slots Q (F0 m (pc + 3) ls rest)) : W p l e R s m args below meth c H locs cells slots Q (F0 m pc ls (.int x :: .ref mo :: rest)) :=
  va_put (ci := 12) (v := .int x) (ty := .int) (C := RX12) (T := TX12) (N := 58) hx hb ht iX12 tyX12 tyX12_ok nmX12 hown hK hP hD hS 0 rfl rfl 2 (by decide) (ht _ k_2) (fun _ h9 => h9) rfl (by decide +kernel) rfl rfl (Nat.le_of_ble_eq_true rfl) hdg (fun H1 l1 h1 h2 h3 => kk H1 l1 h1 h2 h3)
theorem mg_3 (hx : p.tables.exec = Jvm.exec) (hb : c.code = cc) (ht : ∀ w ∈ TBg, w.before args s = true) (hown : s.vm.findClass RX12 = some m.cls) (hK : va_K G vwCl (TY cy) s) (hP : va_P G vwCl (WMs cy mo h v nm f g) H) (hdg : decode cc pc = .ok (.getfield 134, 3)) (kk : W p l e R s m args below meth c H locs cells slots Q (F0 m (pc + 3) ls (.int (v 3) :: rest))) : W p l e R s m args below meth c H locs cells slots Q (F0 m pc ls (.ref mo :: rest)) :=
  va_get (ci := 12) (v := .int (v 3)) (C := RX12) (T := TX12) (N := 58) hx hb ht iX12 hown hK hP 0 rfl rfl 3 (by decide) (ht _ k_3) (fun _ h9 => h9) rfl hdg kk
theorem mp_3 {x : Int32} (hx : p.tables.exec = Jvm.exec) (hb : c.code = cc) (ht : ∀ w ∈ TBg, w.before args s = true) (hown : s.vm.findClass RX12 = some m.cls) (hK : va_K G vwCl (TY cy) s) (hP : va_P G vwCl (WMs cy mo h v nm f g) H) (hD : va_D A (WMs cy mo h v nm f g)) (hS : va_S A H0 H locs) (hdg : decode cc pc = .ok (.putfield 134, 3)) (kk : ∀ (H1 : Heap) (locs1 : List Loc), va_P G vwCl (WMs cy mo h (va_up v 3 x) nm f g) H1 → va_D A (WMs cy mo h (va_up v 3 x) nm f g) → va_S A H0 H1 locs1 → W p l e R s m args below meth c H1 locs1 cells slots Q (F0 m (pc + 3) ls rest)) : W p l e R s m args below meth c H locs cells slots Q (F0 m pc ls (.int x :: .ref mo :: rest)) :=
  va_put (ci := 12) (v := .int x) (ty := .int) (C := RX12) (T := TX12) (N := 58) hx hb ht iX12 tyX12 tyX12_ok nmX12 hown hK hP hD hS 0 rfl rfl 3 (by decide) (ht _ k_3) (fun _ h9 => h9) rfl (by decide +kernel) rfl rfl (Nat.le_of_ble_eq_true rfl) hdg (fun H1 l1 h1 h2 h3 => kk H1 l1 h1 h2 h3)
theorem mg_4 (hx : p.tables.exec = Jvm.exec) (hb : c.code = cc) (ht : ∀ w ∈ TBg, w.before args s = true) (hown : s.vm.findClass RX12 = some m.cls) (hK : va_K G vwCl (TY cy) s) (hP : va_P G vwCl (WMs cy mo h v nm f g) H) (hdg : decode cc pc = .ok (.getfield 137, 3)) (kk : W p l e R s m args below meth c H locs cells slots Q (F0 m (pc + 3) ls (.int (v 4) :: rest))) : W p l e R s m args below meth c H locs cells slots Q (F0 m pc ls (.ref mo :: rest)) :=
  va_get (ci := 12) (v := .int (v 4)) (C := RX12) (T := TX12) (N := 58) hx hb ht iX12 hown hK hP 0 rfl rfl 4 (by decide) (ht _ k_4) (fun _ h9 => h9) rfl hdg kk
theorem mp_4 {x : Int32} (hx : p.tables.exec = Jvm.exec) (hb : c.code = cc) (ht : ∀ w ∈ TBg, w.before args s = true) (hown : s.vm.findClass RX12 = some m.cls) (hK : va_K G vwCl (TY cy) s) (hP : va_P G vwCl (WMs cy mo h v nm f g) H) (hD : va_D A (WMs cy mo h v nm f g)) (hS : va_S A H0 H locs) (hdg : decode cc pc = .ok (.putfield 137, 3)) (kk : ∀ (H1 : Heap) (locs1 : List Loc), va_P G vwCl (WMs cy mo h (va_up v 4 x) nm f g) H1 → va_D A (WMs cy mo h (va_up v 4 x) nm f g) → va_S A H0 H1 locs1 → W p l e R s m args below meth c H1 locs1 cells slots Q (F0 m (pc + 3) ls rest)) : W p l e R s m args below meth c H locs cells slots Q (F0 m pc ls (.int x :: .ref mo :: rest)) :=
  va_put (ci := 12) (v := .int x) (ty := .int) (C := RX12) (T := TX12) (N := 58) hx hb ht iX12 tyX12 tyX12_ok nmX12 hown hK hP hD hS 0 rfl rfl 4 (by decide) (ht _ k_4) (fun _ h9 => h9) rfl (by decide +kernel) rfl rfl (Nat.le_of_ble_eq_true rfl) hdg (fun H1 l1 h1 h2 h3 => kk H1 l1 h1 h2 h3)
theorem mg_5 (hx : p.tables.exec = Jvm.exec) (hb : c.code = cc) (ht : ∀ w ∈ TBg, w.before args s = true) (hown : s.vm.findClass RX12 = some m.cls) (hK : va_K G vwCl (TY cy) s) (hP : va_P G vwCl (WMs cy mo h v nm f g) H) (hdg : decode cc pc = .ok (.getfield 16, 3)) (kk : W p l e R s m args below meth c H locs cells slots Q (F0 m (pc + 3) ls (.int (v 5) :: rest))) : W p l e R s m args below meth c H locs cells slots Q (F0 m pc ls (.ref mo :: rest)) :=
  va_get (ci := 12) (v := .int (v 5)) (C := RX12) (T := TX12) (N := 58) hx hb ht iX12 hown hK hP 0 rfl rfl 5 (by decide) (ht _ k_5) (fun _ h9 => h9) rfl hdg kk
theorem mp_5 {x : Int32} (hx : p.tables.exec = Jvm.exec) (hb : c.code = cc) (ht : ∀ w ∈ TBg, w.before args s = true) (hown : s.vm.findClass RX12 = some m.cls) (hK : va_K G vwCl (TY cy) s) (hP : va_P G vwCl (WMs cy mo h v nm f g) H) (hD : va_D A (WMs cy mo h v nm f g)) (hS : va_S A H0 H locs) (hdg : decode cc pc = .ok (.putfield 16, 3)) (kk : ∀ (H1 : Heap) (locs1 : List Loc), va_P G vwCl (WMs cy mo h (va_up v 5 x) nm f g) H1 → va_D A (WMs cy mo h (va_up v 5 x) nm f g) → va_S A H0 H1 locs1 → W p l e R s m args below meth c H1 locs1 cells slots Q (F0 m (pc + 3) ls rest)) : W p l e R s m args below meth c H locs cells slots Q (F0 m pc ls (.int x :: .ref mo :: rest)) :=
  va_put (ci := 12) (v := .int x) (ty := .int) (C := RX12) (T := TX12) (N := 58) hx hb ht iX12 tyX12 tyX12_ok nmX12 hown hK hP hD hS 0 rfl rfl 5 (by decide) (ht _ k_5) (fun _ h9 => h9) rfl (by decide +kernel) rfl rfl (Nat.le_of_ble_eq_true rfl) hdg (fun H1 l1 h1 h2 h3 => kk H1 l1 h1 h2 h3)
theorem mg_6 (hx : p.tables.exec = Jvm.exec) (hb : c.code = cc) (ht : ∀ w ∈ TBg, w.before args s = true) (hown : s.vm.findClass RX12 = some m.cls) (hK : va_K G vwCl (TY cy) s) (hP : va_P G vwCl (WMs cy mo h v nm f g) H) (hdg : decode cc pc = .ok (.getfield 173, 3)) (kk : W p l e R s m args below meth c H locs cells slots Q (F0 m (pc + 3) ls (.int (v 6) :: rest))) : W p l e R s m args below meth c H locs cells slots Q (F0 m pc ls (.ref mo :: rest)) :=
  va_get (ci := 12) (v := .int (v 6)) (C := RX12) (T := TX12) (N := 58) hx hb ht iX12 hown hK hP 0 rfl rfl 6 (by decide) (ht _ k_6) (fun _ h9 => h9) rfl hdg kk
theorem mp_6 {x : Int32} (hx : p.tables.exec = Jvm.exec) (hb : c.code = cc) (ht : ∀ w ∈ TBg, w.before args s = true) (hown : s.vm.findClass RX12 = some m.cls) (hK : va_K G vwCl (TY cy) s) (hP : va_P G vwCl (WMs cy mo h v nm f g) H) (hD : va_D A (WMs cy mo h v nm f g)) (hS : va_S A H0 H locs) (hdg : decode cc pc = .ok (.putfield 173, 3)) (kk : ∀ (H1 : Heap) (locs1 : List Loc), va_P G vwCl (WMs cy mo h (va_up v 6 x) nm f g) H1 → va_D A (WMs cy mo h (va_up v 6 x) nm f g) → va_S A H0 H1 locs1 → W p l e R s m args below meth c H1 locs1 cells slots Q (F0 m (pc + 3) ls rest)) : W p l e R s m args below meth c H locs cells slots Q (F0 m pc ls (.int x :: .ref mo :: rest)) :=
  va_put (ci := 12) (v := .int x) (ty := .int) (C := RX12) (T := TX12) (N := 58) hx hb ht iX12 tyX12 tyX12_ok nmX12 hown hK hP hD hS 0 rfl rfl 6 (by decide) (ht _ k_6) (fun _ h9 => h9) rfl (by decide +kernel) rfl rfl (Nat.le_of_ble_eq_true rfl) hdg (fun H1 l1 h1 h2 h3 => kk H1 l1 h1 h2 h3)
theorem mg_7 (hx : p.tables.exec = Jvm.exec) (hb : c.code = cc) (ht : ∀ w ∈ TBg, w.before args s = true) (hown : s.vm.findClass RX12 = some m.cls) (hK : va_K G vwCl (TY cy) s) (hP : va_P G vwCl (WMs cy mo h v nm f g) H) (hdg : decode cc pc = .ok (.getfield 170, 3)) (kk : W p l e R s m args below meth c H locs cells slots Q (F0 m (pc + 3) ls (.int (v 7) :: rest))) : W p l e R s m args below meth c H locs cells slots Q (F0 m pc ls (.ref mo :: rest)) :=
  va_get (ci := 12) (v := .int (v 7)) (C := RX12) (T := TX12) (N := 58) hx hb ht iX12 hown hK hP 0 rfl rfl 7 (by decide) (ht _ k_7) (fun _ h9 => h9) rfl hdg kk
theorem mp_7 {x : Int32} (hx : p.tables.exec = Jvm.exec) (hb : c.code = cc) (ht : ∀ w ∈ TBg, w.before args s = true) (hown : s.vm.findClass RX12 = some m.cls) (hK : va_K G vwCl (TY cy) s) (hP : va_P G vwCl (WMs cy mo h v nm f g) H) (hD : va_D A (WMs cy mo h v nm f g)) (hS : va_S A H0 H locs) (hdg : decode cc pc = .ok (.putfield 170, 3)) (kk : ∀ (H1 : Heap) (locs1 : List Loc), va_P G vwCl (WMs cy mo h (va_up v 7 x) nm f g) H1 → va_D A (WMs cy mo h (va_up v 7 x) nm f g) → va_S A H0 H1 locs1 → W p l e R s m args below meth c H1 locs1 cells slots Q (F0 m (pc + 3) ls rest)) : W p l e R s m args below meth c H locs cells slots Q (F0 m pc ls (.int x :: .ref mo :: rest)) :=
  va_put (ci := 12) (v := .int x) (ty := .int) (C := RX12) (T := TX12) (N := 58) hx hb ht iX12 tyX12 tyX12_ok nmX12 hown hK hP hD hS 0 rfl rfl 7 (by decide) (ht _ k_7) (fun _ h9 => h9) rfl (by decide +kernel) rfl rfl (Nat.le_of_ble_eq_true rfl) hdg (fun H1 l1 h1 h2 h3 => kk H1 l1 h1 h2 h3)
theorem mg_8 (hx : p.tables.exec = Jvm.exec) (hb : c.code = cc) (ht : ∀ w ∈ TBg, w.before args s = true) (hown : s.vm.findClass RX12 = some m.cls) (hK : va_K G vwCl (TY cy) s) (hP : va_P G vwCl (WMs cy mo h v nm f g) H) (hdg : decode cc pc = .ok (.getfield 180, 3)) (kk : W p l e R s m args below meth c H locs cells slots Q (F0 m (pc + 3) ls (.int (v 8) :: rest))) : W p l e R s m args below meth c H locs cells slots Q (F0 m pc ls (.ref mo :: rest)) :=
  va_get (ci := 12) (v := .int (v 8)) (C := RX12) (T := TX12) (N := 58) hx hb ht iX12 hown hK hP 0 rfl rfl 8 (by decide) (ht _ k_8) (fun _ h9 => h9) rfl hdg kk
theorem mp_8 {x : Int32} (hx : p.tables.exec = Jvm.exec) (hb : c.code = cc) (ht : ∀ w ∈ TBg, w.before args s = true) (hown : s.vm.findClass RX12 = some m.cls) (hK : va_K G vwCl (TY cy) s) (hP : va_P G vwCl (WMs cy mo h v nm f g) H) (hD : va_D A (WMs cy mo h v nm f g)) (hS : va_S A H0 H locs) (hdg : decode cc pc = .ok (.putfield 180, 3)) (kk : ∀ (H1 : Heap) (locs1 : List Loc), va_P G vwCl (WMs cy mo h (va_up v 8 x) nm f g) H1 → va_D A (WMs cy mo h (va_up v 8 x) nm f g) → va_S A H0 H1 locs1 → W p l e R s m args below meth c H1 locs1 cells slots Q (F0 m (pc + 3) ls rest)) : W p l e R s m args below meth c H locs cells slots Q (F0 m pc ls (.int x :: .ref mo :: rest)) :=
  va_put (ci := 12) (v := .int x) (ty := .int) (C := RX12) (T := TX12) (N := 58) hx hb ht iX12 tyX12 tyX12_ok nmX12 hown hK hP hD hS 0 rfl rfl 8 (by decide) (ht _ k_8) (fun _ h9 => h9) rfl (by decide +kernel) rfl rfl (Nat.le_of_ble_eq_true rfl) hdg (fun H1 l1 h1 h2 h3 => kk H1 l1 h1 h2 h3)
theorem mg_9 (hx : p.tables.exec = Jvm.exec) (hb : c.code = cc) (ht : ∀ w ∈ TBg, w.before args s = true) (hown : s.vm.findClass RX12 = some m.cls) (hK : va_K G vwCl (TY cy) s) (hP : va_P G vwCl (WMs cy mo h v nm f g) H) (hdg : decode cc pc = .ok (.getfield 198, 3)) (kk : W p l e R s m args below meth c H locs cells slots Q (F0 m (pc + 3) ls (.int (v 9) :: rest))) : W p l e R s m args below meth c H locs cells slots Q (F0 m pc ls (.ref mo :: rest)) :=
  va_get (ci := 12) (v := .int (v 9)) (C := RX12) (T := TX12) (N := 58) hx hb ht iX12 hown hK hP 0 rfl rfl 9 (by decide) (ht _ k_9) (fun _ h9 => h9) rfl hdg kk
theorem mp_9 {x : Int32} (hx : p.tables.exec = Jvm.exec) (hb : c.code = cc) (ht : ∀ w ∈ TBg, w.before args s = true) (hown : s.vm.findClass RX12 = some m.cls) (hK : va_K G vwCl (TY cy) s) (hP : va_P G vwCl (WMs cy mo h v nm f g) H) (hD : va_D A (WMs cy mo h v nm f g)) (hS : va_S A H0 H locs) (hdg : decode cc pc = .ok (.putfield 198, 3)) (kk : ∀ (H1 : Heap) (locs1 : List Loc), va_P G vwCl (WMs cy mo h (va_up v 9 x) nm f g) H1 → va_D A (WMs cy mo h (va_up v 9 x) nm f g) → va_S A H0 H1 locs1 → W p l e R s m args below meth c H1 locs1 cells slots Q (F0 m (pc + 3) ls rest)) : W p l e R s m args below meth c H locs cells slots Q (F0 m pc ls (.int x :: .ref mo :: rest)) :=
  va_put (ci := 12) (v := .int x) (ty := .int) (C := RX12) (T := TX12) (N := 58) hx hb ht iX12 tyX12 tyX12_ok nmX12 hown hK hP hD hS 0 rfl rfl 9 (by decide) (ht _ k_9) (fun _ h9 => h9) rfl (by decide +kernel) rfl rfl (Nat.le_of_ble_eq_true rfl) hdg (fun H1 l1 h1 h2 h3 => kk H1 l1 h1 h2 h3)
theorem mg_10 (hx : p.tables.exec = Jvm.exec) (hb : c.code = cc) (ht : ∀ w ∈ TBg, w.before args s = true) (hown : s.vm.findClass RX12 = some m.cls) (hK : va_K G vwCl (TY cy) s) (hP : va_P G vwCl (WMs cy mo h v nm f g) H) (hdg : decode cc pc = .ok (.getfield 187, 3)) (kk : W p l e R s m args below meth c H locs cells slots Q (F0 m (pc + 3) ls (.long nm :: rest))) : W p l e R s m args below meth c H locs cells slots Q (F0 m pc ls (.ref mo :: rest)) :=
  va_get (ci := 12) (v := .long nm) (C := RX12) (T := TX12) (N := 58) hx hb ht iX12 hown hK hP 0 rfl rfl 10 (by decide) (ht _ k_10) (fun _ h9 => h9) rfl hdg kk
theorem mp_10 {x : Int64} (hx : p.tables.exec = Jvm.exec) (hb : c.code = cc) (ht : ∀ w ∈ TBg, w.before args s = true) (hown : s.vm.findClass RX12 = some m.cls) (hK : va_K G vwCl (TY cy) s) (hP : va_P G vwCl (WMs cy mo h v nm f g) H) (hD : va_D A (WMs cy mo h v nm f g)) (hS : va_S A H0 H locs) (hdg : decode cc pc = .ok (.putfield 187, 3)) (kk : ∀ (H1 : Heap) (locs1 : List Loc), va_P G vwCl (WMs cy mo h v x f g) H1 → va_D A (WMs cy mo h v x f g) → va_S A H0 H1 locs1 → W p l e R s m args below meth c H1 locs1 cells slots Q (F0 m (pc + 3) ls rest)) : W p l e R s m args below meth c H locs cells slots Q (F0 m pc ls (.long x :: .ref mo :: rest)) :=
  va_put (ci := 12) (v := .long x) (ty := .long) (C := RX12) (T := TX12) (N := 58) hx hb ht iX12 tyX12 tyX12_ok nmX12 hown hK hP hD hS 0 rfl rfl 10 (by decide) (ht _ k_10) (fun _ h9 => h9) rfl (by decide +kernel) rfl rfl (Nat.le_of_ble_eq_true rfl) hdg (fun H1 l1 h1 h2 h3 => kk H1 l1 h1 h2 h3)
theorem mg_11 (hx : p.tables.exec = Jvm.exec) (hb : c.code = cc) (ht : ∀ w ∈ TBg, w.before args s = true) (hown : s.vm.findClass RX12 = some m.cls) (hK : va_K G vwCl (TY cy) s) (hP : va_P G vwCl (WMs cy mo h v nm f g) H) (hdg : decode cc pc = .ok (.getfield 20, 3)) (kk : W p l e R s m args below meth c H locs cells slots Q (F0 m (pc + 3) ls (.ref (h 11) :: rest))) : W p l e R s m args below meth c H locs cells slots Q (F0 m pc ls (.ref mo :: rest)) :=
  va_get (ci := 12) (v := .ref (h 11)) (C := RX12) (T := TX12) (N := 58) hx hb ht iX12 hown hK hP 0 rfl rfl 11 (by decide) (ht _ k_11) (fun _ h9 => h9) rfl hdg kk
theorem ml_11 {i : Int32} (hx : p.tables.exec = Jvm.exec) (hb : c.code = cc) (hK : va_K G vwCl (TY cy) s) (hP : va_P G vwCl (WMs cy mo h v nm f g) H) (hin : vp_in i 2) (hdg : decode cc pc = .ok (.iaload, 1)) (kk : W p l e R s m args below meth c H locs cells slots Q (F0 m (pc + 1) ls (.int (f 11 i.toNatClampNeg) :: rest))) : W p l e R s m args below meth c H locs cells slots Q (F0 m pc ls (.int i :: .ref (h 11) :: rest)) :=
  va_iald hx hb hK hP 3 0 rfl rfl hin hdg kk
theorem ms_11 {i : Int32} {x : Int32} (hx : p.tables.exec = Jvm.exec) (hb : c.code = cc) (hK : va_K G vwCl (TY cy) s) (hP : va_P G vwCl (WMs cy mo h v nm f g) H) (hD : va_D A (WMs cy mo h v nm f g)) (hS : va_S A H0 H locs) (hin : vp_in i 2) (hdg : decode cc pc = .ok (.iastore, 1)) (kk : ∀ (H1 : Heap) (locs1 : List Loc), va_P G vwCl (WMs cy mo h v nm (va_up f 11 (upd (f 11) i.toNatClampNeg x)) g) H1 → va_D A (WMs cy mo h v nm (va_up f 11 (upd (f 11) i.toNatClampNeg x)) g) → va_S A H0 H1 locs1 → W p l e R s m args below meth c H1 locs1 cells slots Q (F0 m (pc + 1) ls rest)) : W p l e R s m args below meth c H locs cells slots Q (F0 m pc ls (.int x :: .int i :: .ref (h 11) :: rest)) :=
  va_iast hx hb hK hP hD hS 3 0 rfl rfl hin hdg (fun H1 l1 h1 h2 h3 => kk H1 l1 h1 h2 h3)
theorem mg_12 (hx : p.tables.exec = Jvm.exec) (hb : c.code = cc) (ht : ∀ w ∈ TBg, w.before args s = true) (hown : s.vm.findClass RX12 = some m.cls) (hK : va_K G vwCl (TY cy) s) (hP : va_P G vwCl (WMs cy mo h v nm f g) H) (hdg : decode cc pc = .ok (.getfield 24, 3)) (kk : W p l e R s m args below meth c H locs cells slots Q (F0 m (pc + 3) ls (.ref (h 12) :: rest))) : W p l e R s m args below meth c H locs cells slots Q (F0 m pc ls (.ref mo :: rest)) :=
  va_get (ci := 12) (v := .ref (h 12)) (C := RX12) (T := TX12) (N := 58) hx hb ht iX12 hown hK hP 0 rfl rfl 12 (by decide) (ht _ k_12) (fun _ h9 => h9) rfl hdg kk
theorem ml_12 {i : Int32} (hx : p.tables.exec = Jvm.exec) (hb : c.code = cc) (hK : va_K G vwCl (TY cy) s) (hP : va_P G vwCl (WMs cy mo h v nm f g) H) (hin : vp_in i 2) (hdg : decode cc pc = .ok (.iaload, 1)) (kk : W p l e R s m args below meth c H locs cells slots Q (F0 m (pc + 1) ls (.int (f 12 i.toNatClampNeg) :: rest))) : W p l e R s m args below meth c H locs cells slots Q (F0 m pc ls (.int i :: .ref (h 12) :: rest)) :=
  va_iald hx hb hK hP 4 0 rfl rfl hin hdg kk
theorem ms_12 {i : Int32} {x : Int32} (hx : p.tables.exec = Jvm.exec) (hb : c.code = cc) (hK : va_K G vwCl (TY cy) s) (hP : va_P G vwCl (WMs cy mo h v nm f g) H) (hD : va_D A (WMs cy mo h v nm f g)) (hS : va_S A H0 H locs) (hin : vp_in i 2) (hdg : decode cc pc = .ok (.iastore, 1)) (kk : ∀ (H1 : Heap) (locs1 : List Loc), va_P G vwCl (WMs cy mo h v nm (va_up f 12 (upd (f 12) i.toNatClampNeg x)) g) H1 → va_D A (WMs cy mo h v nm (va_up f 12 (upd (f 12) i.toNatClampNeg x)) g) → va_S A H0 H1 locs1 → W p l e R s m args below meth c H1 locs1 cells slots Q (F0 m (pc + 1) ls rest)) : W p l e R s m args below meth c H locs cells slots Q (F0 m pc ls (.int x :: .int i :: .ref (h 12) :: rest)) :=
  va_iast hx hb hK hP hD hS 4 0 rfl rfl hin hdg (fun H1 l1 h1 h2 h3 => kk H1 l1 h1 h2 h3)
theorem mg_13 (hx : p.tables.exec = Jvm.exec) (hb : c.code = cc) (ht : ∀ w ∈ TBg, w.before args s = true) (hown : s.vm.findClass RX12 = some m.cls) (hK : va_K G vwCl (TY cy) s) (hP : va_P G vwCl (WMs cy mo h v nm f g) H) (hdg : decode cc pc = .ok (.getfield 27, 3)) (kk : W p l e R s m args below meth c H locs cells slots Q (F0 m (pc + 3) ls (.ref (h 13) :: rest))) : W p l e R s m args below meth c H locs cells slots Q (F0 m pc ls (.ref mo :: rest)) :=
  va_get (ci := 12) (v := .ref (h 13)) (C := RX12) (T := TX12) (N := 58) hx hb ht iX12 hown hK hP 0 rfl rfl 13 (by decide) (ht _ k_13) (fun _ h9 => h9) rfl hdg kk
theorem ml_13 {i : Int32} (hx : p.tables.exec = Jvm.exec) (hb : c.code = cc) (hK : va_K G vwCl (TY cy) s) (hP : va_P G vwCl (WMs cy mo h v nm f g) H) (hin : vp_in i 2) (hdg : decode cc pc = .ok (.iaload, 1)) (kk : W p l e R s m args below meth c H locs cells slots Q (F0 m (pc + 1) ls (.int (f 13 i.toNatClampNeg) :: rest))) : W p l e R s m args below meth c H locs cells slots Q (F0 m pc ls (.int i :: .ref (h 13) :: rest)) :=
  va_iald hx hb hK hP 5 0 rfl rfl hin hdg kk
theorem ms_13 {i : Int32} {x : Int32} (hx : p.tables.exec = Jvm.exec) (hb : c.code = cc) (hK : va_K G vwCl (TY cy) s) (hP : va_P G vwCl (WMs cy mo h v nm f g) H) (hD : va_D A (WMs cy mo h v nm f g)) (hS : va_S A H0 H locs) (hin : vp_in i 2) (hdg : decode cc pc = .ok (.iastore, 1)) (kk : ∀ (H1 : Heap) (locs1 : List Loc), va_P G vwCl (WMs cy mo h v nm (va_up f 13 (upd (f 13) i.toNatClampNeg x)) g) H1 → va_D A (WMs cy mo h v nm (va_up f 13 (upd (f 13) i.toNatClampNeg x)) g) → va_S A H0 H1 locs1 → W p l e R s m args below meth c H1 locs1 cells slots Q (F0 m (pc + 1) ls rest)) : W p l e R s m args below meth c H locs cells slots Q (F0 m pc ls (.int x :: .int i :: .ref (h 13) :: rest)) :=
  va_iast hx hb hK hP hD hS 5 0 rfl rfl hin hdg (fun H1 l1 h1 h2 h3 => kk H1 l1 h1 h2 h3)
theorem mg_14 (hx : p.tables.exec = Jvm.exec) (hb : c.code = cc) (ht : ∀ w ∈ TBg, w.before args s = true) (hown : s.vm.findClass RX12 = some m.cls) (hK : va_K G vwCl (TY cy) s) (hP : va_P G vwCl (WMs cy mo h v nm f g) H) (hdg : decode cc pc = .ok (.getfield 30, 3)) (kk : W p l e R s m args below meth c H locs cells slots Q (F0 m (pc + 3) ls (.ref (h 14) :: rest))) : W p l e R s m args below meth c H locs cells slots Q (F0 m pc ls (.ref mo :: rest)) :=
  va_get (ci := 12) (v := .ref (h 14)) (C := RX12) (T := TX12) (N := 58) hx hb ht iX12 hown hK hP 0 rfl rfl 14 (by decide) (ht _ k_14) (fun _ h9 => h9) rfl hdg kk
theorem ml_14 {i : Int32} (hx : p.tables.exec = Jvm.exec) (hb : c.code = cc) (hK : va_K G vwCl (TY cy) s) (hP : va_P G vwCl (WMs cy mo h v nm f g) H) (hin : vp_in i 2) (hdg : decode cc pc = .ok (.iaload, 1)) (kk : W p l e R s m args below meth c H locs cells slots Q (F0 m (pc + 1) ls (.int (f 14 i.toNatClampNeg) :: rest))) : W p l e R s m args below meth c H locs cells slots Q (F0 m pc ls (.int i :: .ref (h 14) :: rest)) :=
  va_iald hx hb hK hP 6 0 rfl rfl hin hdg kk
theorem ms_14 {i : Int32} {x : Int32} (hx : p.tables.exec = Jvm.exec) (hb : c.code = cc) (hK : va_K G vwCl (TY cy) s) (hP : va_P G vwCl (WMs cy mo h v nm f g) H) (hD : va_D A (WMs cy mo h v nm f g)) (hS : va_S A H0 H locs) (hin : vp_in i 2) (hdg : decode cc pc = .ok (.iastore, 1)) (kk : ∀ (H1 : Heap) (locs1 : List Loc), va_P G vwCl (WMs cy mo h v nm (va_up f 14 (upd (f 14) i.toNatClampNeg x)) g) H1 → va_D A (WMs cy mo h v nm (va_up f 14 (upd (f 14) i.toNatClampNeg x)) g) → va_S A H0 H1 locs1 → W p l e R s m args below meth c H1 locs1 cells slots Q (F0 m (pc + 1) ls rest)) : W p l e R s m args below meth c H locs cells slots Q (F0 m pc ls (.int x :: .int i :: .ref (h 14) :: rest)) :=
  va_iast hx hb hK hP hD hS 6 0 rfl rfl hin hdg (fun H1 l1 h1 h2 h3 => kk H1 l1 h1 h2 h3)
theorem mg_15 (hx : p.tables.exec = Jvm.exec) (hb : c.code = cc) (ht : ∀ w ∈ TBg, w.before args s = true) (hown : s.vm.findClass RX12 = some m.cls) (hK : va_K G vwCl (TY cy) s) (hP : va_P G vwCl (WMs cy mo h v nm f g) H) (hdg : decode cc pc = .ok (.getfield 33, 3)) (kk : W p l e R s m args below meth c H locs cells slots Q (F0 m (pc + 3) ls (.ref (h 15) :: rest))) : W p l e R s m args below meth c H locs cells slots Q (F0 m pc ls (.ref mo :: rest)) :=
  va_get (ci := 12) (v := .ref (h 15)) (C := RX12) (T := TX12) (N := 58) hx hb ht iX12 hown hK hP 0 rfl rfl 15 (by decide) (ht _ k_15) (fun _ h9 => h9) rfl hdg kk
theorem ml_15 {i : Int32} (hx : p.tables.exec = Jvm.exec) (hb : c.code = cc) (hK : va_K G vwCl (TY cy) s) (hP : va_P G vwCl (WMs cy mo h v nm f g) H) (hin : vp_in i 30) (hdg : decode cc pc = .ok (.iaload, 1)) (kk : W p l e R s m args below meth c H locs cells slots Q (F0 m (pc + 1) ls (.int (f 15 i.toNatClampNeg) :: rest))) : W p l e R s m args below meth c H locs cells slots Q (F0 m pc ls (.int i :: .ref (h 15) :: rest)) :=
  va_iald hx hb hK hP 7 0 rfl rfl hin hdg kk
theorem ms_15 {i : Int32} {x : Int32} (hx : p.tables.exec = Jvm.exec) (hb : c.code = cc) (hK : va_K G vwCl (TY cy) s) (hP : va_P G vwCl (WMs cy mo h v nm f g) H) (hD : va_D A (WMs cy mo h v nm f g)) (hS : va_S A H0 H locs) (hin : vp_in i 30) (hdg : decode cc pc = .ok (.iastore, 1)) (kk : ∀ (H1 : Heap) (locs1 : List Loc), va_P G vwCl (WMs cy mo h v nm (va_up f 15 (upd (f 15) i.toNatClampNeg x)) g) H1 → va_D A (WMs cy mo h v nm (va_up f 15 (upd (f 15) i.toNatClampNeg x)) g) → va_S A H0 H1 locs1 → W p l e R s m args below meth c H1 locs1 cells slots Q (F0 m (pc + 1) ls rest)) : W p l e R s m args below meth c H locs cells slots Q (F0 m pc ls (.int x :: .int i :: .ref (h 15) :: rest)) :=
  va_iast hx hb hK hP hD hS 7 0 rfl rfl hin hdg (fun H1 l1 h1 h2 h3 => kk H1 l1 h1 h2 h3)
theorem mg_16 (hx : p.tables.exec = Jvm.exec) (hb : c.code = cc) (ht : ∀ w ∈ TBg, w.before args s = true) (hown : s.vm.findClass RX12 = some m.cls) (hK : va_K G vwCl (TY cy) s) (hP : va_P G vwCl (WMs cy mo h v nm f g) H) (hdg : decode cc pc = .ok (.getfield 36, 3)) (kk : W p l e R s m args below meth c H locs cells slots Q (F0 m (pc + 3) ls (.ref (h 16) :: rest))) : W p l e R s m args below meth c H locs cells slots Q (F0 m pc ls (.ref mo :: rest)) :=
  va_get (ci := 12) (v := .ref (h 16)) (C := RX12) (T := TX12) (N := 58) hx hb ht iX12 hown hK hP 0 rfl rfl 16 (by decide) (ht _ k_16) (fun _ h9 => h9) rfl hdg kk
theorem ml_16 {i : Int32} (hx : p.tables.exec = Jvm.exec) (hb : c.code = cc) (hK : va_K G vwCl (TY cy) s) (hP : va_P G vwCl (WMs cy mo h v nm f g) H) (hin : vp_in i 1200) (hdg : decode cc pc = .ok (.iaload, 1)) (kk : W p l e R s m args below meth c H locs cells slots Q (F0 m (pc + 1) ls (.int (f 16 i.toNatClampNeg) :: rest))) : W p l e R s m args below meth c H locs cells slots Q (F0 m pc ls (.int i :: .ref (h 16) :: rest)) :=
  va_iald hx hb hK hP 8 0 rfl rfl hin hdg kk
theorem ms_16 {i : Int32} {x : Int32} (hx : p.tables.exec = Jvm.exec) (hb : c.code = cc) (hK : va_K G vwCl (TY cy) s) (hP : va_P G vwCl (WMs cy mo h v nm f g) H) (hD : va_D A (WMs cy mo h v nm f g)) (hS : va_S A H0 H locs) (hin : vp_in i 1200) (hdg : decode cc pc = .ok (.iastore, 1)) (kk : ∀ (H1 : Heap) (locs1 : List Loc), va_P G vwCl (WMs cy mo h v nm (va_up f 16 (upd (f 16) i.toNatClampNeg x)) g) H1 → va_D A (WMs cy mo h v nm (va_up f 16 (upd (f 16) i.toNatClampNeg x)) g) → va_S A H0 H1 locs1 → W p l e R s m args below meth c H1 locs1 cells slots Q (F0 m (pc + 1) ls rest)) : W p l e R s m args below meth c H locs cells slots Q (F0 m pc ls (.int x :: .int i :: .ref (h 16) :: rest)) :=
  va_iast hx hb hK hP hD hS 8 0 rfl rfl hin hdg (fun H1 l1 h1 h2 h3 => kk H1 l1 h1 h2 h3)
theorem mg_17 (hx : p.tables.exec = Jvm.exec) (hb : c.code = cc) (ht : ∀ w ∈ TBg, w.before args s = true) (hown : s.vm.findClass RX12 = some m.cls) (hK : va_K G vwCl (TY cy) s) (hP : va_P G vwCl (WMs cy mo h v nm f g) H) (hdg : decode cc pc = .ok (.getfield 39, 3)) (kk : W p l e R s m args below meth c H locs cells slots Q (F0 m (pc + 3) ls (.ref (h 17) :: rest))) : W p l e R s m args below meth c H locs cells slots Q (F0 m pc ls (.ref mo :: rest)) :=
  va_get (ci := 12) (v := .ref (h 17)) (C := RX12) (T := TX12) (N := 58) hx hb ht iX12 hown hK hP 0 rfl rfl 17 (by decide) (ht _ k_17) (fun _ h9 => h9) rfl hdg kk
theorem ml_17 {i : Int32} (hx : p.tables.exec = Jvm.exec) (hb : c.code = cc) (hK : va_K G vwCl (TY cy) s) (hP : va_P G vwCl (WMs cy mo h v nm f g) H) (hin : vp_in i 1200) (hdg : decode cc pc = .ok (.iaload, 1)) (kk : W p l e R s m args below meth c H locs cells slots Q (F0 m (pc + 1) ls (.int (f 17 i.toNatClampNeg) :: rest))) : W p l e R s m args below meth c H locs cells slots Q (F0 m pc ls (.int i :: .ref (h 17) :: rest)) :=
  va_iald hx hb hK hP 9 0 rfl rfl hin hdg kk
theorem ms_17 {i : Int32} {x : Int32} (hx : p.tables.exec = Jvm.exec) (hb : c.code = cc) (hK : va_K G vwCl (TY cy) s) (hP : va_P G vwCl (WMs cy mo h v nm f g) H) (hD : va_D A (WMs cy mo h v nm f g)) (hS : va_S A H0 H locs) (hin : vp_in i 1200) (hdg : decode cc pc = .ok (.iastore, 1)) (kk : ∀ (H1 : Heap) (locs1 : List Loc), va_P G vwCl (WMs cy mo h v nm (va_up f 17 (upd (f 17) i.toNatClampNeg x)) g) H1 → va_D A (WMs cy mo h v nm (va_up f 17 (upd (f 17) i.toNatClampNeg x)) g) → va_S A H0 H1 locs1 → W p l e R s m args below meth c H1 locs1 cells slots Q (F0 m (pc + 1) ls rest)) : W p l e R s m args below meth c H locs cells slots Q (F0 m pc ls (.int x :: .int i :: .ref (h 17) :: rest)) :=
  va_iast hx hb hK hP hD hS 9 0 rfl rfl hin hdg (fun H1 l1 h1 h2 h3 => kk H1 l1 h1 h2 h3)
theorem mg_18 (hx : p.tables.exec = Jvm.exec) (hb : c.code = cc) (ht : ∀ w ∈ TBg, w.before args s = true) (hown : s.vm.findClass RX12 = some m.cls) (hK : va_K G vwCl (TY cy) s) (hP : va_P G vwCl (WMs cy mo h v nm f g) H) (hdg : decode cc pc = .ok (.getfield 42, 3)) (kk : W p l e R s m args below meth c H locs cells slots Q (F0 m (pc + 3) ls (.ref (h 18) :: rest))) : W p l e R s m args below meth c H locs cells slots Q (F0 m pc ls (.ref mo :: rest)) :=
  va_get (ci := 12) (v := .ref (h 18)) (C := RX12) (T := TX12) (N := 58) hx hb ht iX12 hown hK hP 0 rfl rfl 18 (by decide) (ht _ k_18) (fun _ h9 => h9) rfl hdg kk
theorem ml_18 {i : Int32} (hx : p.tables.exec = Jvm.exec) (hb : c.code = cc) (hK : va_K G vwCl (TY cy) s) (hP : va_P G vwCl (WMs cy mo h v nm f g) H) (hin : vp_in i 16) (hdg : decode cc pc = .ok (.iaload, 1)) (kk : W p l e R s m args below meth c H locs cells slots Q (F0 m (pc + 1) ls (.int (f 18 i.toNatClampNeg) :: rest))) : W p l e R s m args below meth c H locs cells slots Q (F0 m pc ls (.int i :: .ref (h 18) :: rest)) :=
  va_iald hx hb hK hP 10 0 rfl rfl hin hdg kk
theorem ms_18 {i : Int32} {x : Int32} (hx : p.tables.exec = Jvm.exec) (hb : c.code = cc) (hK : va_K G vwCl (TY cy) s) (hP : va_P G vwCl (WMs cy mo h v nm f g) H) (hD : va_D A (WMs cy mo h v nm f g)) (hS : va_S A H0 H locs) (hin : vp_in i 16) (hdg : decode cc pc = .ok (.iastore, 1)) (kk : ∀ (H1 : Heap) (locs1 : List Loc), va_P G vwCl (WMs cy mo h v nm (va_up f 18 (upd (f 18) i.toNatClampNeg x)) g) H1 → va_D A (WMs cy mo h v nm (va_up f 18 (upd (f 18) i.toNatClampNeg x)) g) → va_S A H0 H1 locs1 → W p l e R s m args below meth c H1 locs1 cells slots Q (F0 m (pc + 1) ls rest)) : W p l e R s m args below meth c H locs cells slots Q (F0 m pc ls (.int x :: .int i :: .ref (h 18) :: rest)) :=
  va_iast hx hb hK hP hD hS 10 0 rfl rfl hin hdg (fun H1 l1 h1 h2 h3 => kk H1 l1 h1 h2 h3)
theorem mg_19 (hx : p.tables.exec = Jvm.exec) (hb : c.code = cc) (ht : ∀ w ∈ TBg, w.before args s = true) (hown : s.vm.findClass RX12 = some m.cls) (hK : va_K G vwCl (TY cy) s) (hP : va_P G vwCl (WMs cy mo h v nm f g) H) (hdg : decode cc pc = .ok (.getfield 45, 3)) (kk : W p l e R s m args below meth c H locs cells slots Q (F0 m (pc + 3) ls (.ref (h 19) :: rest))) : W p l e R s m args below meth c H locs cells slots Q (F0 m pc ls (.ref mo :: rest)) :=
  va_get (ci := 12) (v := .ref (h 19)) (C := RX12) (T := TX12) (N := 58) hx hb ht iX12 hown hK hP 0 rfl rfl 19 (by decide) (ht _ k_19) (fun _ h9 => h9) rfl hdg kk
theorem ml_19 {i : Int32} (hx : p.tables.exec = Jvm.exec) (hb : c.code = cc) (hK : va_K G vwCl (TY cy) s) (hP : va_P G vwCl (WMs cy mo h v nm f g) H) (hin : vp_in i 16) (hdg : decode cc pc = .ok (.iaload, 1)) (kk : W p l e R s m args below meth c H locs cells slots Q (F0 m (pc + 1) ls (.int (f 19 i.toNatClampNeg) :: rest))) : W p l e R s m args below meth c H locs cells slots Q (F0 m pc ls (.int i :: .ref (h 19) :: rest)) :=
  va_iald hx hb hK hP 11 0 rfl rfl hin hdg kk
theorem ms_19 {i : Int32} {x : Int32} (hx : p.tables.exec = Jvm.exec) (hb : c.code = cc) (hK : va_K G vwCl (TY cy) s) (hP : va_P G vwCl (WMs cy mo h v nm f g) H) (hD : va_D A (WMs cy mo h v nm f g)) (hS : va_S A H0 H locs) (hin : vp_in i 16) (hdg : decode cc pc = .ok (.iastore, 1)) (kk : ∀ (H1 : Heap) (locs1 : List Loc), va_P G vwCl (WMs cy mo h v nm (va_up f 19 (upd (f 19) i.toNatClampNeg x)) g) H1 → va_D A (WMs cy mo h v nm (va_up f 19 (upd (f 19) i.toNatClampNeg x)) g) → va_S A H0 H1 locs1 → W p l e R s m args below meth c H1 locs1 cells slots Q (F0 m (pc + 1) ls rest)) : W p l e R s m args below meth c H locs cells slots Q (F0 m pc ls (.int x :: .int i :: .ref (h 19) :: rest)) :=
  va_iast hx hb hK hP hD hS 11 0 rfl rfl hin hdg (fun H1 l1 h1 h2 h3 => kk H1 l1 h1 h2 h3)
theorem mg_20 (hx : p.tables.exec = Jvm.exec) (hb : c.code = cc) (ht : ∀ w ∈ TBg, w.before args s = true) (hown : s.vm.findClass RX12 = some m.cls) (hK : va_K G vwCl (TY cy) s) (hP : va_P G vwCl (WMs cy mo h v nm f g) H) (hdg : decode cc pc = .ok (.getfield 48, 3)) (kk : W p l e R s m args below meth c H locs cells slots Q (F0 m (pc + 3) ls (.ref (h 20) :: rest))) : W p l e R s m args below meth c H locs cells slots Q (F0 m pc ls (.ref mo :: rest)) :=
  va_get (ci := 12) (v := .ref (h 20)) (C := RX12) (T := TX12) (N := 58) hx hb ht iX12 hown hK hP 0 rfl rfl 20 (by decide) (ht _ k_20) (fun _ h9 => h9) rfl hdg kk
theorem ml_20 {i : Int32} (hx : p.tables.exec = Jvm.exec) (hb : c.code = cc) (hK : va_K G vwCl (TY cy) s) (hP : va_P G vwCl (WMs cy mo h v nm f g) H) (hin : vp_in i 16) (hdg : decode cc pc = .ok (.iaload, 1)) (kk : W p l e R s m args below meth c H locs cells slots Q (F0 m (pc + 1) ls (.int (f 20 i.toNatClampNeg) :: rest))) : W p l e R s m args below meth c H locs cells slots Q (F0 m pc ls (.int i :: .ref (h 20) :: rest)) :=
  va_iald hx hb hK hP 12 0 rfl rfl hin hdg kk
theorem ms_20 {i : Int32} {x : Int32} (hx : p.tables.exec = Jvm.exec) (hb : c.code = cc) (hK : va_K G vwCl (TY cy) s) (hP : va_P G vwCl (WMs cy mo h v nm f g) H) (hD : va_D A (WMs cy mo h v nm f g)) (hS : va_S A H0 H locs) (hin : vp_in i 16) (hdg : decode cc pc = .ok (.iastore, 1)) (kk : ∀ (H1 : Heap) (locs1 : List Loc), va_P G vwCl (WMs cy mo h v nm (va_up f 20 (upd (f 20) i.toNatClampNeg x)) g) H1 → va_D A (WMs cy mo h v nm (va_up f 20 (upd (f 20) i.toNatClampNeg x)) g) → va_S A H0 H1 locs1 → W p l e R s m args below meth c H1 locs1 cells slots Q (F0 m (pc + 1) ls rest)) : W p l e R s m args below meth c H locs cells slots Q (F0 m pc ls (.int x :: .int i :: .ref (h 20) :: rest)) :=
  va_iast hx hb hK hP hD hS 12 0 rfl rfl hin hdg (fun H1 l1 h1 h2 h3 => kk H1 l1 h1 h2 h3)
theorem mg_21 (hx : p.tables.exec = Jvm.exec) (hb : c.code = cc) (ht : ∀ w ∈ TBg, w.before args s = true) (hown : s.vm.findClass RX12 = some m.cls) (hK : va_K G vwCl (TY cy) s) (hP : va_P G vwCl (WMs cy mo h v nm f g) H) (hdg : decode cc pc = .ok (.getfield 51, 3)) (kk : W p l e R s m args below meth c H locs cells slots Q (F0 m (pc + 3) ls (.ref (h 21) :: rest))) : W p l e R s m args below meth c H locs cells slots Q (F0 m pc ls (.ref mo :: rest)) :=
  va_get (ci := 12) (v := .ref (h 21)) (C := RX12) (T := TX12) (N := 58) hx hb ht iX12 hown hK hP 0 rfl rfl 21 (by decide) (ht _ k_21) (fun _ h9 => h9) rfl hdg kk
theorem ml_21 {i : Int32} (hx : p.tables.exec = Jvm.exec) (hb : c.code = cc) (hK : va_K G vwCl (TY cy) s) (hP : va_P G vwCl (WMs cy mo h v nm f g) H) (hin : vp_in i 2) (hdg : decode cc pc = .ok (.baload, 1)) (kk : W p l e R s m args below meth c H locs cells slots Q (F0 m (pc + 1) ls (.int (f 21 i.toNatClampNeg) :: rest))) : W p l e R s m args below meth c H locs cells slots Q (F0 m pc ls (.int i :: .ref (h 21) :: rest)) :=
  va_zald hx hb hK hP 13 2 rfl rfl hin hdg kk
theorem ms_21 {i : Int32} {x : Int32} (hx : p.tables.exec = Jvm.exec) (hb : c.code = cc) (hK : va_K G vwCl (TY cy) s) (hP : va_P G vwCl (WMs cy mo h v nm f g) H) (hD : va_D A (WMs cy mo h v nm f g)) (hS : va_S A H0 H locs) (hin : vp_in i 2) (hdg : decode cc pc = .ok (.bastore, 1)) (kk : ∀ (H1 : Heap) (locs1 : List Loc), va_P G vwCl (WMs cy mo h v nm (va_up f 21 (upd (f 21) i.toNatClampNeg (vp_nar .boolean x))) g) H1 → va_D A (WMs cy mo h v nm (va_up f 21 (upd (f 21) i.toNatClampNeg (vp_nar .boolean x))) g) → va_S A H0 H1 locs1 → W p l e R s m args below meth c H1 locs1 cells slots Q (F0 m (pc + 1) ls rest)) : W p l e R s m args below meth c H locs cells slots Q (F0 m pc ls (.int x :: .int i :: .ref (h 21) :: rest)) :=
  va_zast hx hb hK hP hD hS 13 2 rfl rfl hin hdg (fun H1 l1 h1 h2 h3 => kk H1 l1 h1 h2 h3)
theorem mg_22 (hx : p.tables.exec = Jvm.exec) (hb : c.code = cc) (ht : ∀ w ∈ TBg, w.before args s = true) (hown : s.vm.findClass RX12 = some m.cls) (hK : va_K G vwCl (TY cy) s) (hP : va_P G vwCl (WMs cy mo h v nm f g) H) (hdg : decode cc pc = .ok (.getfield 55, 3)) (kk : W p l e R s m args below meth c H locs cells slots Q (F0 m (pc + 3) ls (.ref (h 22) :: rest))) : W p l e R s m args below meth c H locs cells slots Q (F0 m pc ls (.ref mo :: rest)) :=
  va_get (ci := 12) (v := .ref (h 22)) (C := RX12) (T := TX12) (N := 58) hx hb ht iX12 hown hK hP 0 rfl rfl 22 (by decide) (ht _ k_22) (fun _ h9 => h9) rfl hdg kk
theorem ml_22 {i : Int32} (hx : p.tables.exec = Jvm.exec) (hb : c.code = cc) (hK : va_K G vwCl (TY cy) s) (hP : va_P G vwCl (WMs cy mo h v nm f g) H) (hin : vp_in i 28) (hdg : decode cc pc = .ok (.laload, 1)) (kk : W p l e R s m args below meth c H locs cells slots Q (F0 m (pc + 1) ls (.long (g 22 i.toNatClampNeg) :: rest))) : W p l e R s m args below meth c H locs cells slots Q (F0 m pc ls (.int i :: .ref (h 22) :: rest)) :=
  va_lald hx hb hK hP 14 3 rfl rfl hin hdg kk
theorem ms_22 {i : Int32} {x : Int64} (hx : p.tables.exec = Jvm.exec) (hb : c.code = cc) (hK : va_K G vwCl (TY cy) s) (hP : va_P G vwCl (WMs cy mo h v nm f g) H) (hD : va_D A (WMs cy mo h v nm f g)) (hS : va_S A H0 H locs) (hin : vp_in i 28) (hdg : decode cc pc = .ok (.lastore, 1)) (kk : ∀ (H1 : Heap) (locs1 : List Loc), va_P G vwCl (WMs cy mo h v nm f (va_up g 22 (vp_updL (g 22) i.toNatClampNeg x))) H1 → va_D A (WMs cy mo h v nm f (va_up g 22 (vp_updL (g 22) i.toNatClampNeg x))) → va_S A H0 H1 locs1 → W p l e R s m args below meth c H1 locs1 cells slots Q (F0 m (pc + 1) ls rest)) : W p l e R s m args below meth c H locs cells slots Q (F0 m pc ls (.long x :: .int i :: .ref (h 22) :: rest)) :=
  va_last hx hb hK hP hD hS 14 3 rfl rfl hin hdg (fun H1 l1 h1 h2 h3 => kk H1 l1 h1 h2 h3)
theorem mg_23 (hx : p.tables.exec = Jvm.exec) (hb : c.code = cc) (ht : ∀ w ∈ TBg, w.before args s = true) (hown : s.vm.findClass RX12 = some m.cls) (hK : va_K G vwCl (TY cy) s) (hP : va_P G vwCl (WMs cy mo h v nm f g) H) (hdg : decode cc pc = .ok (.getfield 59, 3)) (kk : W p l e R s m args below meth c H locs cells slots Q (F0 m (pc + 3) ls (.ref (h 23) :: rest))) : W p l e R s m args below meth c H locs cells slots Q (F0 m pc ls (.ref mo :: rest)) :=
  va_get (ci := 12) (v := .ref (h 23)) (C := RX12) (T := TX12) (N := 58) hx hb ht iX12 hown hK hP 0 rfl rfl 23 (by decide) (ht _ k_23) (fun _ h9 => h9) rfl hdg kk
theorem ml_23 {i : Int32} (hx : p.tables.exec = Jvm.exec) (hb : c.code = cc) (hK : va_K G vwCl (TY cy) s) (hP : va_P G vwCl (WMs cy mo h v nm f g) H) (hin : vp_in i 16) (hdg : decode cc pc = .ok (.laload, 1)) (kk : W p l e R s m args below meth c H locs cells slots Q (F0 m (pc + 1) ls (.long (g 23 i.toNatClampNeg) :: rest))) : W p l e R s m args below meth c H locs cells slots Q (F0 m pc ls (.int i :: .ref (h 23) :: rest)) :=
  va_lald hx hb hK hP 15 3 rfl rfl hin hdg kk
theorem ms_23 {i : Int32} {x : Int64} (hx : p.tables.exec = Jvm.exec) (hb : c.code = cc) (hK : va_K G vwCl (TY cy) s) (hP : va_P G vwCl (WMs cy mo h v nm f g) H) (hD : va_D A (WMs cy mo h v nm f g)) (hS : va_S A H0 H locs) (hin : vp_in i 16) (hdg : decode cc pc = .ok (.lastore, 1)) (kk : ∀ (H1 : Heap) (locs1 : List Loc), va_P G vwCl (WMs cy mo h v nm f (va_up g 23 (vp_updL (g 23) i.toNatClampNeg x))) H1 → va_D A (WMs cy mo h v nm f (va_up g 23 (vp_updL (g 23) i.toNatClampNeg x))) → va_S A H0 H1 locs1 → W p l e R s m args below meth c H1 locs1 cells slots Q (F0 m (pc + 1) ls rest)) : W p l e R s m args below meth c H locs cells slots Q (F0 m pc ls (.long x :: .int i :: .ref (h 23) :: rest)) :=
  va_last hx hb hK hP hD hS 15 3 rfl rfl hin hdg (fun H1 l1 h1 h2 h3 => kk H1 l1 h1 h2 h3)
theorem mg_24 (hx : p.tables.exec = Jvm.exec) (hb : c.code = cc) (ht : ∀ w ∈ TBg, w.before args s = true) (hown : s.vm.findClass RX12 = some m.cls) (hK : va_K G vwCl (TY cy) s) (hP : va_P G vwCl (WMs cy mo h v nm f g) H) (hdg : decode cc pc = .ok (.getfield 62, 3)) (kk : W p l e R s m args below meth c H locs cells slots Q (F0 m (pc + 3) ls (.ref (h 24) :: rest))) : W p l e R s m args below meth c H locs cells slots Q (F0 m pc ls (.ref mo :: rest)) :=
  va_get (ci := 12) (v := .ref (h 24)) (C := RX12) (T := TX12) (N := 58) hx hb ht iX12 hown hK hP 0 rfl rfl 24 (by decide) (ht _ k_24) (fun _ h9 => h9) rfl hdg kk
theorem ml_24 {i : Int32} (hx : p.tables.exec = Jvm.exec) (hb : c.code = cc) (hK : va_K G vwCl (TY cy) s) (hP : va_P G vwCl (WMs cy mo h v nm f g) H) (hin : vp_in i 1200) (hdg : decode cc pc = .ok (.iaload, 1)) (kk : W p l e R s m args below meth c H locs cells slots Q (F0 m (pc + 1) ls (.int (f 24 i.toNatClampNeg) :: rest))) : W p l e R s m args below meth c H locs cells slots Q (F0 m pc ls (.int i :: .ref (h 24) :: rest)) :=
  va_iald hx hb hK hP 16 0 rfl rfl hin hdg kk
theorem ms_24 {i : Int32} {x : Int32} (hx : p.tables.exec = Jvm.exec) (hb : c.code = cc) (hK : va_K G vwCl (TY cy) s) (hP : va_P G vwCl (WMs cy mo h v nm f g) H) (hD : va_D A (WMs cy mo h v nm f g)) (hS : va_S A H0 H locs) (hin : vp_in i 1200) (hdg : decode cc pc = .ok (.iastore, 1)) (kk : ∀ (H1 : Heap) (locs1 : List Loc), va_P G vwCl (WMs cy mo h v nm (va_up f 24 (upd (f 24) i.toNatClampNeg x)) g) H1 → va_D A (WMs cy mo h v nm (va_up f 24 (upd (f 24) i.toNatClampNeg x)) g) → va_S A H0 H1 locs1 → W p l e R s m args below meth c H1 locs1 cells slots Q (F0 m (pc + 1) ls rest)) : W p l e R s m args below meth c H locs cells slots Q (F0 m pc ls (.int x :: .int i :: .ref (h 24) :: rest)) :=
  va_iast hx hb hK hP hD hS 16 0 rfl rfl hin hdg (fun H1 l1 h1 h2 h3 => kk H1 l1 h1 h2 h3)
theorem mg_25 (hx : p.tables.exec = Jvm.exec) (hb : c.code = cc) (ht : ∀ w ∈ TBg, w.before args s = true) (hown : s.vm.findClass RX12 = some m.cls) (hK : va_K G vwCl (TY cy) s) (hP : va_P G vwCl (WMs cy mo h v nm f g) H) (hdg : decode cc pc = .ok (.getfield 65, 3)) (kk : W p l e R s m args below meth c H locs cells slots Q (F0 m (pc + 3) ls (.ref (h 25) :: rest))) : W p l e R s m args below meth c H locs cells slots Q (F0 m pc ls (.ref mo :: rest)) :=
  va_get (ci := 12) (v := .ref (h 25)) (C := RX12) (T := TX12) (N := 58) hx hb ht iX12 hown hK hP 0 rfl rfl 25 (by decide) (ht _ k_25) (fun _ h9 => h9) rfl hdg kk
theorem ml_25 {i : Int32} (hx : p.tables.exec = Jvm.exec) (hb : c.code = cc) (hK : va_K G vwCl (TY cy) s) (hP : va_P G vwCl (WMs cy mo h v nm f g) H) (hin : vp_in i 1200) (hdg : decode cc pc = .ok (.iaload, 1)) (kk : W p l e R s m args below meth c H locs cells slots Q (F0 m (pc + 1) ls (.int (f 25 i.toNatClampNeg) :: rest))) : W p l e R s m args below meth c H locs cells slots Q (F0 m pc ls (.int i :: .ref (h 25) :: rest)) :=
  va_iald hx hb hK hP 17 0 rfl rfl hin hdg kk
theorem ms_25 {i : Int32} {x : Int32} (hx : p.tables.exec = Jvm.exec) (hb : c.code = cc) (hK : va_K G vwCl (TY cy) s) (hP : va_P G vwCl (WMs cy mo h v nm f g) H) (hD : va_D A (WMs cy mo h v nm f g)) (hS : va_S A H0 H locs) (hin : vp_in i 1200) (hdg : decode cc pc = .ok (.iastore, 1)) (kk : ∀ (H1 : Heap) (locs1 : List Loc), va_P G vwCl (WMs cy mo h v nm (va_up f 25 (upd (f 25) i.toNatClampNeg x)) g) H1 → va_D A (WMs cy mo h v nm (va_up f 25 (upd (f 25) i.toNatClampNeg x)) g) → va_S A H0 H1 locs1 → W p l e R s m args below meth c H1 locs1 cells slots Q (F0 m (pc + 1) ls rest)) : W p l e R s m args below meth c H locs cells slots Q (F0 m pc ls (.int x :: .int i :: .ref (h 25) :: rest)) :=
  va_iast hx hb hK hP hD hS 17 0 rfl rfl hin hdg (fun H1 l1 h1 h2 h3 => kk H1 l1 h1 h2 h3)
theorem mg_26 (hx : p.tables.exec = Jvm.exec) (hb : c.code = cc) (ht : ∀ w ∈ TBg, w.before args s = true) (hown : s.vm.findClass RX12 = some m.cls) (hK : va_K G vwCl (TY cy) s) (hP : va_P G vwCl (WMs cy mo h v nm f g) H) (hdg : decode cc pc = .ok (.getfield 68, 3)) (kk : W p l e R s m args below meth c H locs cells slots Q (F0 m (pc + 3) ls (.ref (h 26) :: rest))) : W p l e R s m args below meth c H locs cells slots Q (F0 m pc ls (.ref mo :: rest)) :=
  va_get (ci := 12) (v := .ref (h 26)) (C := RX12) (T := TX12) (N := 58) hx hb ht iX12 hown hK hP 0 rfl rfl 26 (by decide) (ht _ k_26) (fun _ h9 => h9) rfl hdg kk
theorem ml_26 {i : Int32} (hx : p.tables.exec = Jvm.exec) (hb : c.code = cc) (hK : va_K G vwCl (TY cy) s) (hP : va_P G vwCl (WMs cy mo h v nm f g) H) (hin : vp_in i 120) (hdg : decode cc pc = .ok (.iaload, 1)) (kk : W p l e R s m args below meth c H locs cells slots Q (F0 m (pc + 1) ls (.int (f 26 i.toNatClampNeg) :: rest))) : W p l e R s m args below meth c H locs cells slots Q (F0 m pc ls (.int i :: .ref (h 26) :: rest)) :=
  va_iald hx hb hK hP 18 0 rfl rfl hin hdg kk
theorem ms_26 {i : Int32} {x : Int32} (hx : p.tables.exec = Jvm.exec) (hb : c.code = cc) (hK : va_K G vwCl (TY cy) s) (hP : va_P G vwCl (WMs cy mo h v nm f g) H) (hD : va_D A (WMs cy mo h v nm f g)) (hS : va_S A H0 H locs) (hin : vp_in i 120) (hdg : decode cc pc = .ok (.iastore, 1)) (kk : ∀ (H1 : Heap) (locs1 : List Loc), va_P G vwCl (WMs cy mo h v nm (va_up f 26 (upd (f 26) i.toNatClampNeg x)) g) H1 → va_D A (WMs cy mo h v nm (va_up f 26 (upd (f 26) i.toNatClampNeg x)) g) → va_S A H0 H1 locs1 → W p l e R s m args below meth c H1 locs1 cells slots Q (F0 m (pc + 1) ls rest)) : W p l e R s m args below meth c H locs cells slots Q (F0 m pc ls (.int x :: .int i :: .ref (h 26) :: rest)) :=
  va_iast hx hb hK hP hD hS 18 0 rfl rfl hin hdg (fun H1 l1 h1 h2 h3 => kk H1 l1 h1 h2 h3)
theorem mg_27 (hx : p.tables.exec = Jvm.exec) (hb : c.code = cc) (ht : ∀ w ∈ TBg, w.before args s = true) (hown : s.vm.findClass RX12 = some m.cls) (hK : va_K G vwCl (TY cy) s) (hP : va_P G vwCl (WMs cy mo h v nm f g) H) (hdg : decode cc pc = .ok (.getfield 71, 3)) (kk : W p l e R s m args below meth c H locs cells slots Q (F0 m (pc + 3) ls (.ref (h 27) :: rest))) : W p l e R s m args below meth c H locs cells slots Q (F0 m pc ls (.ref mo :: rest)) :=
  va_get (ci := 12) (v := .ref (h 27)) (C := RX12) (T := TX12) (N := 58) hx hb ht iX12 hown hK hP 0 rfl rfl 27 (by decide) (ht _ k_27) (fun _ h9 => h9) rfl hdg kk
theorem ml_27 {i : Int32} (hx : p.tables.exec = Jvm.exec) (hb : c.code = cc) (hK : va_K G vwCl (TY cy) s) (hP : va_P G vwCl (WMs cy mo h v nm f g) H) (hin : vp_in i 120) (hdg : decode cc pc = .ok (.iaload, 1)) (kk : W p l e R s m args below meth c H locs cells slots Q (F0 m (pc + 1) ls (.int (f 27 i.toNatClampNeg) :: rest))) : W p l e R s m args below meth c H locs cells slots Q (F0 m pc ls (.int i :: .ref (h 27) :: rest)) :=
  va_iald hx hb hK hP 19 0 rfl rfl hin hdg kk
theorem ms_27 {i : Int32} {x : Int32} (hx : p.tables.exec = Jvm.exec) (hb : c.code = cc) (hK : va_K G vwCl (TY cy) s) (hP : va_P G vwCl (WMs cy mo h v nm f g) H) (hD : va_D A (WMs cy mo h v nm f g)) (hS : va_S A H0 H locs) (hin : vp_in i 120) (hdg : decode cc pc = .ok (.iastore, 1)) (kk : ∀ (H1 : Heap) (locs1 : List Loc), va_P G vwCl (WMs cy mo h v nm (va_up f 27 (upd (f 27) i.toNatClampNeg x)) g) H1 → va_D A (WMs cy mo h v nm (va_up f 27 (upd (f 27) i.toNatClampNeg x)) g) → va_S A H0 H1 locs1 → W p l e R s m args below meth c H1 locs1 cells slots Q (F0 m (pc + 1) ls rest)) : W p l e R s m args below meth c H locs cells slots Q (F0 m pc ls (.int x :: .int i :: .ref (h 27) :: rest)) :=
  va_iast hx hb hK hP hD hS 19 0 rfl rfl hin hdg (fun H1 l1 h1 h2 h3 => kk H1 l1 h1 h2 h3)
theorem mg_28 (hx : p.tables.exec = Jvm.exec) (hb : c.code = cc) (ht : ∀ w ∈ TBg, w.before args s = true) (hown : s.vm.findClass RX12 = some m.cls) (hK : va_K G vwCl (TY cy) s) (hP : va_P G vwCl (WMs cy mo h v nm f g) H) (hdg : decode cc pc = .ok (.getfield 74, 3)) (kk : W p l e R s m args below meth c H locs cells slots Q (F0 m (pc + 3) ls (.ref (h 28) :: rest))) : W p l e R s m args below meth c H locs cells slots Q (F0 m pc ls (.ref mo :: rest)) :=
  va_get (ci := 12) (v := .ref (h 28)) (C := RX12) (T := TX12) (N := 58) hx hb ht iX12 hown hK hP 0 rfl rfl 28 (by decide) (ht _ k_28) (fun _ h9 => h9) rfl hdg kk
theorem ml_28 {i : Int32} (hx : p.tables.exec = Jvm.exec) (hb : c.code = cc) (hK : va_K G vwCl (TY cy) s) (hP : va_P G vwCl (WMs cy mo h v nm f g) H) (hin : vp_in i 120) (hdg : decode cc pc = .ok (.iaload, 1)) (kk : W p l e R s m args below meth c H locs cells slots Q (F0 m (pc + 1) ls (.int (f 28 i.toNatClampNeg) :: rest))) : W p l e R s m args below meth c H locs cells slots Q (F0 m pc ls (.int i :: .ref (h 28) :: rest)) :=
  va_iald hx hb hK hP 20 0 rfl rfl hin hdg kk
theorem ms_28 {i : Int32} {x : Int32} (hx : p.tables.exec = Jvm.exec) (hb : c.code = cc) (hK : va_K G vwCl (TY cy) s) (hP : va_P G vwCl (WMs cy mo h v nm f g) H) (hD : va_D A (WMs cy mo h v nm f g)) (hS : va_S A H0 H locs) (hin : vp_in i 120) (hdg : decode cc pc = .ok (.iastore, 1)) (kk : ∀ (H1 : Heap) (locs1 : List Loc), va_P G vwCl (WMs cy mo h v nm (va_up f 28 (upd (f 28) i.toNatClampNeg x)) g) H1 → va_D A (WMs cy mo h v nm (va_up f 28 (upd (f 28) i.toNatClampNeg x)) g) → va_S A H0 H1 locs1 → W p l e R s m args below meth c H1 locs1 cells slots Q (F0 m (pc + 1) ls rest)) : W p l e R s m args below meth c H locs cells slots Q (F0 m pc ls (.int x :: .int i :: .ref (h 28) :: rest)) :=
  va_iast hx hb hK hP hD hS 20 0 rfl rfl hin hdg (fun H1 l1 h1 h2 h3 => kk H1 l1 h1 h2 h3)
theorem mg_29 (hx : p.tables.exec = Jvm.exec) (hb : c.code = cc) (ht : ∀ w ∈ TBg, w.before args s = true) (hown : s.vm.findClass RX12 = some m.cls) (hK : va_K G vwCl (TY cy) s) (hP : va_P G vwCl (WMs cy mo h v nm f g) H) (hdg : decode cc pc = .ok (.getfield 227, 3)) (kk : W p l e R s m args below meth c H locs cells slots Q (F0 m (pc + 3) ls (.int (v 29) :: rest))) : W p l e R s m args below meth c H locs cells slots Q (F0 m pc ls (.ref mo :: rest)) :=
  va_get (ci := 12) (v := .int (v 29)) (C := RX12) (T := TX12) (N := 58) hx hb ht iX12 hown hK hP 0 rfl rfl 29 (by decide) (ht _ k_29) (fun _ h9 => h9) rfl hdg kk
theorem mp_29 {x : Int32} (hx : p.tables.exec = Jvm.exec) (hb : c.code = cc) (ht : ∀ w ∈ TBg, w.before args s = true) (hown : s.vm.findClass RX12 = some m.cls) (hK : va_K G vwCl (TY cy) s) (hP : va_P G vwCl (WMs cy mo h v nm f g) H) (hD : va_D A (WMs cy mo h v nm f g)) (hS : va_S A H0 H locs) (hdg : decode cc pc = .ok (.putfield 227, 3)) (kk : ∀ (H1 : Heap) (locs1 : List Loc), va_P G vwCl (WMs cy mo h (va_up v 29 x) nm f g) H1 → va_D A (WMs cy mo h (va_up v 29 x) nm f g) → va_S A H0 H1 locs1 → W p l e R s m args below meth c H1 locs1 cells slots Q (F0 m (pc + 3) ls rest)) : W p l e R s m args below meth c H locs cells slots Q (F0 m pc ls (.int x :: .ref mo :: rest)) :=
  va_put (ci := 12) (v := .int x) (ty := .int) (C := RX12) (T := TX12) (N := 58) hx hb ht iX12 tyX12 tyX12_ok nmX12 hown hK hP hD hS 0 rfl rfl 29 (by decide) (ht _ k_29) (fun _ h9 => h9) rfl (by decide +kernel) rfl rfl (Nat.le_of_ble_eq_true rfl) hdg (fun H1 l1 h1 h2 h3 => kk H1 l1 h1 h2 h3)
theorem mg_30 (hx : p.tables.exec = Jvm.exec) (hb : c.code = cc) (ht : ∀ w ∈ TBg, w.before args s = true) (hown : s.vm.findClass RX12 = some m.cls) (hK : va_K G vwCl (TY cy) s) (hP : va_P G vwCl (WMs cy mo h v nm f g) H) (hdg : decode cc pc = .ok (.getfield 218, 3)) (kk : W p l e R s m args below meth c H locs cells slots Q (F0 m (pc + 3) ls (.int (v 30) :: rest))) : W p l e R s m args below meth c H locs cells slots Q (F0 m pc ls (.ref mo :: rest)) :=
  va_get (ci := 12) (v := .int (v 30)) (C := RX12) (T := TX12) (N := 58) hx hb ht iX12 hown hK hP 0 rfl rfl 30 (by decide) (ht _ k_30) (fun _ h9 => h9) rfl hdg kk
theorem mp_30 {x : Int32} (hx : p.tables.exec = Jvm.exec) (hb : c.code = cc) (ht : ∀ w ∈ TBg, w.before args s = true) (hown : s.vm.findClass RX12 = some m.cls) (hK : va_K G vwCl (TY cy) s) (hP : va_P G vwCl (WMs cy mo h v nm f g) H) (hD : va_D A (WMs cy mo h v nm f g)) (hS : va_S A H0 H locs) (hdg : decode cc pc = .ok (.putfield 218, 3)) (kk : ∀ (H1 : Heap) (locs1 : List Loc), va_P G vwCl (WMs cy mo h (va_up v 30 x) nm f g) H1 → va_D A (WMs cy mo h (va_up v 30 x) nm f g) → va_S A H0 H1 locs1 → W p l e R s m args below meth c H1 locs1 cells slots Q (F0 m (pc + 3) ls rest)) : W p l e R s m args below meth c H locs cells slots Q (F0 m pc ls (.int x :: .ref mo :: rest)) :=
  va_put (ci := 12) (v := .int x) (ty := .int) (C := RX12) (T := TX12) (N := 58) hx hb ht iX12 tyX12 tyX12_ok nmX12 hown hK hP hD hS 0 rfl rfl 30 (by decide) (ht _ k_30) (fun _ h9 => h9) rfl (by decide +kernel) rfl rfl (Nat.le_of_ble_eq_true rfl) hdg (fun H1 l1 h1 h2 h3 => kk H1 l1 h1 h2 h3)
theorem mg_31 (hx : p.tables.exec = Jvm.exec) (hb : c.code = cc) (ht : ∀ w ∈ TBg, w.before args s = true) (hown : s.vm.findClass RX12 = some m.cls) (hK : va_K G vwCl (TY cy) s) (hP : va_P G vwCl (WMs cy mo h v nm f g) H) (hdg : decode cc pc = .ok (.getfield 221, 3)) (kk : W p l e R s m args below meth c H locs cells slots Q (F0 m (pc + 3) ls (.int (v 31) :: rest))) : W p l e R s m args below meth c H locs cells slots Q (F0 m pc ls (.ref mo :: rest)) :=
  va_get (ci := 12) (v := .int (v 31)) (C := RX12) (T := TX12) (N := 58) hx hb ht iX12 hown hK hP 0 rfl rfl 31 (by decide) (ht _ k_31) (fun _ h9 => h9) rfl hdg kk
theorem mp_31 {x : Int32} (hx : p.tables.exec = Jvm.exec) (hb : c.code = cc) (ht : ∀ w ∈ TBg, w.before args s = true) (hown : s.vm.findClass RX12 = some m.cls) (hK : va_K G vwCl (TY cy) s) (hP : va_P G vwCl (WMs cy mo h v nm f g) H) (hD : va_D A (WMs cy mo h v nm f g)) (hS : va_S A H0 H locs) (hdg : decode cc pc = .ok (.putfield 221, 3)) (kk : ∀ (H1 : Heap) (locs1 : List Loc), va_P G vwCl (WMs cy mo h (va_up v 31 x) nm f g) H1 → va_D A (WMs cy mo h (va_up v 31 x) nm f g) → va_S A H0 H1 locs1 → W p l e R s m args below meth c H1 locs1 cells slots Q (F0 m (pc + 3) ls rest)) : W p l e R s m args below meth c H locs cells slots Q (F0 m pc ls (.int x :: .ref mo :: rest)) :=
  va_put (ci := 12) (v := .int x) (ty := .int) (C := RX12) (T := TX12) (N := 58) hx hb ht iX12 tyX12 tyX12_ok nmX12 hown hK hP hD hS 0 rfl rfl 31 (by decide) (ht _ k_31) (fun _ h9 => h9) rfl (by decide +kernel) rfl rfl (Nat.le_of_ble_eq_true rfl) hdg (fun H1 l1 h1 h2 h3 => kk H1 l1 h1 h2 h3)
theorem mg_32 (hx : p.tables.exec = Jvm.exec) (hb : c.code = cc) (ht : ∀ w ∈ TBg, w.before args s = true) (hown : s.vm.findClass RX12 = some m.cls) (hK : va_K G vwCl (TY cy) s) (hP : va_P G vwCl (WMs cy mo h v nm f g) H) (hdg : decode cc pc = .ok (.getfield 287, 3)) (kk : W p l e R s m args below meth c H locs cells slots Q (F0 m (pc + 3) ls (.int (v 32) :: rest))) : W p l e R s m args below meth c H locs cells slots Q (F0 m pc ls (.ref mo :: rest)) :=
  va_get (ci := 12) (v := .int (v 32)) (C := RX12) (T := TX12) (N := 58) hx hb ht iX12 hown hK hP 0 rfl rfl 32 (by decide) (ht _ k_32) (fun _ h9 => h9) rfl hdg kk
theorem mp_32 {x : Int32} (hx : p.tables.exec = Jvm.exec) (hb : c.code = cc) (ht : ∀ w ∈ TBg, w.before args s = true) (hown : s.vm.findClass RX12 = some m.cls) (hK : va_K G vwCl (TY cy) s) (hP : va_P G vwCl (WMs cy mo h v nm f g) H) (hD : va_D A (WMs cy mo h v nm f g)) (hS : va_S A H0 H locs) (hdg : decode cc pc = .ok (.putfield 287, 3)) (kk : ∀ (H1 : Heap) (locs1 : List Loc), va_P G vwCl (WMs cy mo h (va_up v 32 x) nm f g) H1 → va_D A (WMs cy mo h (va_up v 32 x) nm f g) → va_S A H0 H1 locs1 → W p l e R s m args below meth c H1 locs1 cells slots Q (F0 m (pc + 3) ls rest)) : W p l e R s m args below meth c H locs cells slots Q (F0 m pc ls (.int x :: .ref mo :: rest)) :=
  va_put (ci := 12) (v := .int x) (ty := .int) (C := RX12) (T := TX12) (N := 58) hx hb ht iX12 tyX12 tyX12_ok nmX12 hown hK hP hD hS 0 rfl rfl 32 (by decide) (ht _ k_32) (fun _ h9 => h9) rfl (by decide +kernel) rfl rfl (Nat.le_of_ble_eq_true rfl) hdg (fun H1 l1 h1 h2 h3 => kk H1 l1 h1 h2 h3)
theorem mg_33 (hx : p.tables.exec = Jvm.exec) (hb : c.code = cc) (ht : ∀ w ∈ TBg, w.before args s = true) (hown : s.vm.findClass RX12 = some m.cls) (hK : va_K G vwCl (TY cy) s) (hP : va_P G vwCl (WMs cy mo h v nm f g) H) (hdg : decode cc pc = .ok (.getfield 284, 3)) (kk : W p l e R s m args below meth c H locs cells slots Q (F0 m (pc + 3) ls (.int (v 33) :: rest))) : W p l e R s m args below meth c H locs cells slots Q (F0 m pc ls (.ref mo :: rest)) :=
  va_get (ci := 12) (v := .int (v 33)) (C := RX12) (T := TX12) (N := 58) hx hb ht iX12 hown hK hP 0 rfl rfl 33 (by decide) (ht _ k_33) (fun _ h9 => h9) rfl hdg kk
theorem mp_33 {x : Int32} (hx : p.tables.exec = Jvm.exec) (hb : c.code = cc) (ht : ∀ w ∈ TBg, w.before args s = true) (hown : s.vm.findClass RX12 = some m.cls) (hK : va_K G vwCl (TY cy) s) (hP : va_P G vwCl (WMs cy mo h v nm f g) H) (hD : va_D A (WMs cy mo h v nm f g)) (hS : va_S A H0 H locs) (hdg : decode cc pc = .ok (.putfield 284, 3)) (kk : ∀ (H1 : Heap) (locs1 : List Loc), va_P G vwCl (WMs cy mo h (va_up v 33 x) nm f g) H1 → va_D A (WMs cy mo h (va_up v 33 x) nm f g) → va_S A H0 H1 locs1 → W p l e R s m args below meth c H1 locs1 cells slots Q (F0 m (pc + 3) ls rest)) : W p l e R s m args below meth c H locs cells slots Q (F0 m pc ls (.int x :: .ref mo :: rest)) :=
  va_put (ci := 12) (v := .int x) (ty := .int) (C := RX12) (T := TX12) (N := 58) hx hb ht iX12 tyX12 tyX12_ok nmX12 hown hK hP hD hS 0 rfl rfl 33 (by decide) (ht _ k_33) (fun _ h9 => h9) rfl (by decide +kernel) rfl rfl (Nat.le_of_ble_eq_true rfl) hdg (fun H1 l1 h1 h2 h3 => kk H1 l1 h1 h2 h3)
theorem mg_34 (hx : p.tables.exec = Jvm.exec) (hb : c.code = cc) (ht : ∀ w ∈ TBg, w.before args s = true) (hown : s.vm.findClass RX12 = some m.cls) (hK : va_K G vwCl (TY cy) s) (hP : va_P G vwCl (WMs cy mo h v nm f g) H) (hdg : decode cc pc = .ok (.getfield 236, 3)) (kk : W p l e R s m args below meth c H locs cells slots Q (F0 m (pc + 3) ls (.int (v 34) :: rest))) : W p l e R s m args below meth c H locs cells slots Q (F0 m pc ls (.ref mo :: rest)) :=
  va_get (ci := 12) (v := .int (v 34)) (C := RX12) (T := TX12) (N := 58) hx hb ht iX12 hown hK hP 0 rfl rfl 34 (by decide) (ht _ k_34) (fun _ h9 => h9) rfl hdg kk
theorem mp_34 {x : Int32} (hx : p.tables.exec = Jvm.exec) (hb : c.code = cc) (ht : ∀ w ∈ TBg, w.before args s = true) (hown : s.vm.findClass RX12 = some m.cls) (hK : va_K G vwCl (TY cy) s) (hP : va_P G vwCl (WMs cy mo h v nm f g) H) (hD : va_D A (WMs cy mo h v nm f g)) (hS : va_S A H0 H locs) (hdg : decode cc pc = .ok (.putfield 236, 3)) (kk : ∀ (H1 : Heap) (locs1 : List Loc), va_P G vwCl (WMs cy mo h (va_up v 34 x) nm f g) H1 → va_D A (WMs cy mo h (va_up v 34 x) nm f g) → va_S A H0 H1 locs1 → W p l e R s m args below meth c H1 locs1 cells slots Q (F0 m (pc + 3) ls rest)) : W p l e R s m args below meth c H locs cells slots Q (F0 m pc ls (.int x :: .ref mo :: rest)) :=
  va_put (ci := 12) (v := .int x) (ty := .int) (C := RX12) (T := TX12) (N := 58) hx hb ht iX12 tyX12 tyX12_ok nmX12 hown hK hP hD hS 0 rfl rfl 34 (by decide) (ht _ k_34) (fun _ h9 => h9) rfl (by decide +kernel) rfl rfl (Nat.le_of_ble_eq_true rfl) hdg (fun H1 l1 h1 h2 h3 => kk H1 l1 h1 h2 h3)
theorem mg_35 (hx : p.tables.exec = Jvm.exec) (hb : c.code = cc) (ht : ∀ w ∈ TBg, w.before args s = true) (hown : s.vm.findClass RX12 = some m.cls) (hK : va_K G vwCl (TY cy) s) (hP : va_P G vwCl (WMs cy mo h v nm f g) H) (hdg : decode cc pc = .ok (.getfield 77, 3)) (kk : W p l e R s m args below meth c H locs cells slots Q (F0 m (pc + 3) ls (.ref (h 35) :: rest))) : W p l e R s m args below meth c H locs cells slots Q (F0 m pc ls (.ref mo :: rest)) :=
  va_get (ci := 12) (v := .ref (h 35)) (C := RX12) (T := TX12) (N := 58) hx hb ht iX12 hown hK hP 0 rfl rfl 35 (by decide) (ht _ k_35) (fun _ h9 => h9) rfl hdg kk
theorem ml_35 {i : Int32} (hx : p.tables.exec = Jvm.exec) (hb : c.code = cc) (hK : va_K G vwCl (TY cy) s) (hP : va_P G vwCl (WMs cy mo h v nm f g) H) (hin : vp_in i 8) (hdg : decode cc pc = .ok (.baload, 1)) (kk : W p l e R s m args below meth c H locs cells slots Q (F0 m (pc + 1) ls (.int (f 35 i.toNatClampNeg) :: rest))) : W p l e R s m args below meth c H locs cells slots Q (F0 m pc ls (.int i :: .ref (h 35) :: rest)) :=
  va_zald hx hb hK hP 21 2 rfl rfl hin hdg kk
theorem ms_35 {i : Int32} {x : Int32} (hx : p.tables.exec = Jvm.exec) (hb : c.code = cc) (hK : va_K G vwCl (TY cy) s) (hP : va_P G vwCl (WMs cy mo h v nm f g) H) (hD : va_D A (WMs cy mo h v nm f g)) (hS : va_S A H0 H locs) (hin : vp_in i 8) (hdg : decode cc pc = .ok (.bastore, 1)) (kk : ∀ (H1 : Heap) (locs1 : List Loc), va_P G vwCl (WMs cy mo h v nm (va_up f 35 (upd (f 35) i.toNatClampNeg (vp_nar .boolean x))) g) H1 → va_D A (WMs cy mo h v nm (va_up f 35 (upd (f 35) i.toNatClampNeg (vp_nar .boolean x))) g) → va_S A H0 H1 locs1 → W p l e R s m args below meth c H1 locs1 cells slots Q (F0 m (pc + 1) ls rest)) : W p l e R s m args below meth c H locs cells slots Q (F0 m pc ls (.int x :: .int i :: .ref (h 35) :: rest)) :=
  va_zast hx hb hK hP hD hS 21 2 rfl rfl hin hdg (fun H1 l1 h1 h2 h3 => kk H1 l1 h1 h2 h3)
theorem mg_36 (hx : p.tables.exec = Jvm.exec) (hb : c.code = cc) (ht : ∀ w ∈ TBg, w.before args s = true) (hown : s.vm.findClass RX12 = some m.cls) (hK : va_K G vwCl (TY cy) s) (hP : va_P G vwCl (WMs cy mo h v nm f g) H) (hdg : decode cc pc = .ok (.getfield 80, 3)) (kk : W p l e R s m args below meth c H locs cells slots Q (F0 m (pc + 3) ls (.ref (h 36) :: rest))) : W p l e R s m args below meth c H locs cells slots Q (F0 m pc ls (.ref mo :: rest)) :=
  va_get (ci := 12) (v := .ref (h 36)) (C := RX12) (T := TX12) (N := 58) hx hb ht iX12 hown hK hP 0 rfl rfl 36 (by decide) (ht _ k_36) (fun _ h9 => h9) rfl hdg kk
theorem ml_36 {i : Int32} (hx : p.tables.exec = Jvm.exec) (hb : c.code = cc) (hK : va_K G vwCl (TY cy) s) (hP : va_P G vwCl (WMs cy mo h v nm f g) H) (hin : vp_in i 8) (hdg : decode cc pc = .ok (.iaload, 1)) (kk : W p l e R s m args below meth c H locs cells slots Q (F0 m (pc + 1) ls (.int (f 36 i.toNatClampNeg) :: rest))) : W p l e R s m args below meth c H locs cells slots Q (F0 m pc ls (.int i :: .ref (h 36) :: rest)) :=
  va_iald hx hb hK hP 22 0 rfl rfl hin hdg kk
theorem ms_36 {i : Int32} {x : Int32} (hx : p.tables.exec = Jvm.exec) (hb : c.code = cc) (hK : va_K G vwCl (TY cy) s) (hP : va_P G vwCl (WMs cy mo h v nm f g) H) (hD : va_D A (WMs cy mo h v nm f g)) (hS : va_S A H0 H locs) (hin : vp_in i 8) (hdg : decode cc pc = .ok (.iastore, 1)) (kk : ∀ (H1 : Heap) (locs1 : List Loc), va_P G vwCl (WMs cy mo h v nm (va_up f 36 (upd (f 36) i.toNatClampNeg x)) g) H1 → va_D A (WMs cy mo h v nm (va_up f 36 (upd (f 36) i.toNatClampNeg x)) g) → va_S A H0 H1 locs1 → W p l e R s m args below meth c H1 locs1 cells slots Q (F0 m (pc + 1) ls rest)) : W p l e R s m args below meth c H locs cells slots Q (F0 m pc ls (.int x :: .int i :: .ref (h 36) :: rest)) :=
  va_iast hx hb hK hP hD hS 22 0 rfl rfl hin hdg (fun H1 l1 h1 h2 h3 => kk H1 l1 h1 h2 h3)
theorem mg_37 (hx : p.tables.exec = Jvm.exec) (hb : c.code = cc) (ht : ∀ w ∈ TBg, w.before args s = true) (hown : s.vm.findClass RX12 = some m.cls) (hK : va_K G vwCl (TY cy) s) (hP : va_P G vwCl (WMs cy mo h v nm f g) H) (hdg : decode cc pc = .ok (.getfield 239, 3)) (kk : W p l e R s m args below meth c H locs cells slots Q (F0 m (pc + 3) ls (.int (v 37) :: rest))) : W p l e R s m args below meth c H locs cells slots Q (F0 m pc ls (.ref mo :: rest)) :=
  va_get (ci := 12) (v := .int (v 37)) (C := RX12) (T := TX12) (N := 58) hx hb ht iX12 hown hK hP 0 rfl rfl 37 (by decide) (ht _ k_37) (fun _ h9 => h9) rfl hdg kk
theorem mp_37 {x : Int32} (hn : x.toInt = 0 ∨ x.toInt = 1) (hx : p.tables.exec = Jvm.exec) (hb : c.code = cc) (ht : ∀ w ∈ TBg, w.before args s = true) (hown : s.vm.findClass RX12 = some m.cls) (hK : va_K G vwCl (TY cy) s) (hP : va_P G vwCl (WMs cy mo h v nm f g) H) (hD : va_D A (WMs cy mo h v nm f g)) (hS : va_S A H0 H locs) (hdg : decode cc pc = .ok (.putfield 239, 3)) (kk : ∀ (H1 : Heap) (locs1 : List Loc), va_P G vwCl (WMs cy mo h (va_up v 37 x) nm f g) H1 → va_D A (WMs cy mo h (va_up v 37 x) nm f g) → va_S A H0 H1 locs1 → W p l e R s m args below meth c H1 locs1 cells slots Q (F0 m (pc + 3) ls rest)) : W p l e R s m args below meth c H locs cells slots Q (F0 m pc ls (.int x :: .ref mo :: rest)) :=
  va_put (ci := 12) (v := .int x) (ty := .boolean) (C := RX12) (T := TX12) (N := 58) hx hb ht iX12 tyX12 tyX12_ok nmX12 hown hK hP hD hS 0 rfl rfl 37 (by decide) (ht _ k_37) (fun _ h9 => h9) rfl (by decide +kernel) (ow_nb hn) (ow_fb hn) (Nat.le_of_ble_eq_true rfl) hdg (fun H1 l1 h1 h2 h3 => kk H1 l1 h1 h2 h3)
theorem mg_38 (hx : p.tables.exec = Jvm.exec) (hb : c.code = cc) (ht : ∀ w ∈ TBg, w.before args s = true) (hown : s.vm.findClass RX12 = some m.cls) (hK : va_K G vwCl (TY cy) s) (hP : va_P G vwCl (WMs cy mo h v nm f g) H) (hdg : decode cc pc = .ok (.getfield 83, 3)) (kk : W p l e R s m args below meth c H locs cells slots Q (F0 m (pc + 3) ls (.ref (h 38) :: rest))) : W p l e R s m args below meth c H locs cells slots Q (F0 m pc ls (.ref mo :: rest)) :=
  va_get (ci := 12) (v := .ref (h 38)) (C := RX12) (T := TX12) (N := 58) hx hb ht iX12 hown hK hP 0 rfl rfl 38 (by decide) (ht _ k_38) (fun _ h9 => h9) rfl hdg kk
theorem ml_38 {i : Int32} (hx : p.tables.exec = Jvm.exec) (hb : c.code = cc) (hK : va_K G vwCl (TY cy) s) (hP : va_P G vwCl (WMs cy mo h v nm f g) H) (hin : vp_in i 14) (hdg : decode cc pc = .ok (.iaload, 1)) (kk : W p l e R s m args below meth c H locs cells slots Q (F0 m (pc + 1) ls (.int (f 38 i.toNatClampNeg) :: rest))) : W p l e R s m args below meth c H locs cells slots Q (F0 m pc ls (.int i :: .ref (h 38) :: rest)) :=
  va_iald hx hb hK hP 23 0 rfl rfl hin hdg kk
theorem ms_38 {i : Int32} {x : Int32} (hx : p.tables.exec = Jvm.exec) (hb : c.code = cc) (hK : va_K G vwCl (TY cy) s) (hP : va_P G vwCl (WMs cy mo h v nm f g) H) (hD : va_D A (WMs cy mo h v nm f g)) (hS : va_S A H0 H locs) (hin : vp_in i 14) (hdg : decode cc pc = .ok (.iastore, 1)) (kk : ∀ (H1 : Heap) (locs1 : List Loc), va_P G vwCl (WMs cy mo h v nm (va_up f 38 (upd (f 38) i.toNatClampNeg x)) g) H1 → va_D A (WMs cy mo h v nm (va_up f 38 (upd (f 38) i.toNatClampNeg x)) g) → va_S A H0 H1 locs1 → W p l e R s m args below meth c H1 locs1 cells slots Q (F0 m (pc + 1) ls rest)) : W p l e R s m args below meth c H locs cells slots Q (F0 m pc ls (.int x :: .int i :: .ref (h 38) :: rest)) :=
  va_iast hx hb hK hP hD hS 23 0 rfl rfl hin hdg (fun H1 l1 h1 h2 h3 => kk H1 l1 h1 h2 h3)
theorem mg_39 (hx : p.tables.exec = Jvm.exec) (hb : c.code = cc) (ht : ∀ w ∈ TBg, w.before args s = true) (hown : s.vm.findClass RX12 = some m.cls) (hK : va_K G vwCl (TY cy) s) (hP : va_P G vwCl (WMs cy mo h v nm f g) H) (hdg : decode cc pc = .ok (.getfield 86, 3)) (kk : W p l e R s m args below meth c H locs cells slots Q (F0 m (pc + 3) ls (.ref (h 39) :: rest))) : W p l e R s m args below meth c H locs cells slots Q (F0 m pc ls (.ref mo :: rest)) :=
  va_get (ci := 12) (v := .ref (h 39)) (C := RX12) (T := TX12) (N := 58) hx hb ht iX12 hown hK hP 0 rfl rfl 39 (by decide) (ht _ k_39) (fun _ h9 => h9) rfl hdg kk
theorem ml_39 {i : Int32} (hx : p.tables.exec = Jvm.exec) (hb : c.code = cc) (hK : va_K G vwCl (TY cy) s) (hP : va_P G vwCl (WMs cy mo h v nm f g) H) (hin : vp_in i 6) (hdg : decode cc pc = .ok (.iaload, 1)) (kk : W p l e R s m args below meth c H locs cells slots Q (F0 m (pc + 1) ls (.int (f 39 i.toNatClampNeg) :: rest))) : W p l e R s m args below meth c H locs cells slots Q (F0 m pc ls (.int i :: .ref (h 39) :: rest)) :=
  va_iald hx hb hK hP 24 0 rfl rfl hin hdg kk
theorem ms_39 {i : Int32} {x : Int32} (hx : p.tables.exec = Jvm.exec) (hb : c.code = cc) (hK : va_K G vwCl (TY cy) s) (hP : va_P G vwCl (WMs cy mo h v nm f g) H) (hD : va_D A (WMs cy mo h v nm f g)) (hS : va_S A H0 H locs) (hin : vp_in i 6) (hdg : decode cc pc = .ok (.iastore, 1)) (kk : ∀ (H1 : Heap) (locs1 : List Loc), va_P G vwCl (WMs cy mo h v nm (va_up f 39 (upd (f 39) i.toNatClampNeg x)) g) H1 → va_D A (WMs cy mo h v nm (va_up f 39 (upd (f 39) i.toNatClampNeg x)) g) → va_S A H0 H1 locs1 → W p l e R s m args below meth c H1 locs1 cells slots Q (F0 m (pc + 1) ls rest)) : W p l e R s m args below meth c H locs cells slots Q (F0 m pc ls (.int x :: .int i :: .ref (h 39) :: rest)) :=
  va_iast hx hb hK hP hD hS 24 0 rfl rfl hin hdg (fun H1 l1 h1 h2 h3 => kk H1 l1 h1 h2 h3)
theorem mg_40 (hx : p.tables.exec = Jvm.exec) (hb : c.code = cc) (ht : ∀ w ∈ TBg, w.before args s = true) (hown : s.vm.findClass RX12 = some m.cls) (hK : va_K G vwCl (TY cy) s) (hP : va_P G vwCl (WMs cy mo h v nm f g) H) (hdg : decode cc pc = .ok (.getfield 89, 3)) (kk : W p l e R s m args below meth c H locs cells slots Q (F0 m (pc + 3) ls (.ref (h 40) :: rest))) : W p l e R s m args below meth c H locs cells slots Q (F0 m pc ls (.ref mo :: rest)) :=
  va_get (ci := 12) (v := .ref (h 40)) (C := RX12) (T := TX12) (N := 58) hx hb ht iX12 hown hK hP 0 rfl rfl 40 (by decide) (ht _ k_40) (fun _ h9 => h9) rfl hdg kk
theorem ml_40 {i : Int32} (hx : p.tables.exec = Jvm.exec) (hb : c.code = cc) (hK : va_K G vwCl (TY cy) s) (hP : va_P G vwCl (WMs cy mo h v nm f g) H) (hin : vp_in i 6) (hdg : decode cc pc = .ok (.iaload, 1)) (kk : W p l e R s m args below meth c H locs cells slots Q (F0 m (pc + 1) ls (.int (f 40 i.toNatClampNeg) :: rest))) : W p l e R s m args below meth c H locs cells slots Q (F0 m pc ls (.int i :: .ref (h 40) :: rest)) :=
  va_iald hx hb hK hP 25 0 rfl rfl hin hdg kk
theorem ms_40 {i : Int32} {x : Int32} (hx : p.tables.exec = Jvm.exec) (hb : c.code = cc) (hK : va_K G vwCl (TY cy) s) (hP : va_P G vwCl (WMs cy mo h v nm f g) H) (hD : va_D A (WMs cy mo h v nm f g)) (hS : va_S A H0 H locs) (hin : vp_in i 6) (hdg : decode cc pc = .ok (.iastore, 1)) (kk : ∀ (H1 : Heap) (locs1 : List Loc), va_P G vwCl (WMs cy mo h v nm (va_up f 40 (upd (f 40) i.toNatClampNeg x)) g) H1 → va_D A (WMs cy mo h v nm (va_up f 40 (upd (f 40) i.toNatClampNeg x)) g) → va_S A H0 H1 locs1 → W p l e R s m args below meth c H1 locs1 cells slots Q (F0 m (pc + 1) ls rest)) : W p l e R s m args below meth c H locs cells slots Q (F0 m pc ls (.int x :: .int i :: .ref (h 40) :: rest)) :=
  va_iast hx hb hK hP hD hS 25 0 rfl rfl hin hdg (fun H1 l1 h1 h2 h3 => kk H1 l1 h1 h2 h3)
theorem mg_41 (hx : p.tables.exec = Jvm.exec) (hb : c.code = cc) (ht : ∀ w ∈ TBg, w.before args s = true) (hown : s.vm.findClass RX12 = some m.cls) (hK : va_K G vwCl (TY cy) s) (hP : va_P G vwCl (WMs cy mo h v nm f g) H) (hdg : decode cc pc = .ok (.getfield 92, 3)) (kk : W p l e R s m args below meth c H locs cells slots Q (F0 m (pc + 3) ls (.ref (h 41) :: rest))) : W p l e R s m args below meth c H locs cells slots Q (F0 m pc ls (.ref mo :: rest)) :=
  va_get (ci := 12) (v := .ref (h 41)) (C := RX12) (T := TX12) (N := 58) hx hb ht iX12 hown hK hP 0 rfl rfl 41 (by decide) (ht _ k_41) (fun _ h9 => h9) rfl hdg kk
theorem ml_41 {i : Int32} (hx : p.tables.exec = Jvm.exec) (hb : c.code = cc) (hK : va_K G vwCl (TY cy) s) (hP : va_P G vwCl (WMs cy mo h v nm f g) H) (hin : vp_in i 6) (hdg : decode cc pc = .ok (.iaload, 1)) (kk : W p l e R s m args below meth c H locs cells slots Q (F0 m (pc + 1) ls (.int (f 41 i.toNatClampNeg) :: rest))) : W p l e R s m args below meth c H locs cells slots Q (F0 m pc ls (.int i :: .ref (h 41) :: rest)) :=
  va_iald hx hb hK hP 26 0 rfl rfl hin hdg kk
theorem ms_41 {i : Int32} {x : Int32} (hx : p.tables.exec = Jvm.exec) (hb : c.code = cc) (hK : va_K G vwCl (TY cy) s) (hP : va_P G vwCl (WMs cy mo h v nm f g) H) (hD : va_D A (WMs cy mo h v nm f g)) (hS : va_S A H0 H locs) (hin : vp_in i 6) (hdg : decode cc pc = .ok (.iastore, 1)) (kk : ∀ (H1 : Heap) (locs1 : List Loc), va_P G vwCl (WMs cy mo h v nm (va_up f 41 (upd (f 41) i.toNatClampNeg x)) g) H1 → va_D A (WMs cy mo h v nm (va_up f 41 (upd (f 41) i.toNatClampNeg x)) g) → va_S A H0 H1 locs1 → W p l e R s m args below meth c H1 locs1 cells slots Q (F0 m (pc + 1) ls rest)) : W p l e R s m args below meth c H locs cells slots Q (F0 m pc ls (.int x :: .int i :: .ref (h 41) :: rest)) :=
  va_iast hx hb hK hP hD hS 26 0 rfl rfl hin hdg (fun H1 l1 h1 h2 h3 => kk H1 l1 h1 h2 h3)
theorem mg_42 (hx : p.tables.exec = Jvm.exec) (hb : c.code = cc) (ht : ∀ w ∈ TBg, w.before args s = true) (hown : s.vm.findClass RX12 = some m.cls) (hK : va_K G vwCl (TY cy) s) (hP : va_P G vwCl (WMs cy mo h v nm f g) H) (hdg : decode cc pc = .ok (.getfield 95, 3)) (kk : W p l e R s m args below meth c H locs cells slots Q (F0 m (pc + 3) ls (.ref (h 42) :: rest))) : W p l e R s m args below meth c H locs cells slots Q (F0 m pc ls (.ref mo :: rest)) :=
  va_get (ci := 12) (v := .ref (h 42)) (C := RX12) (T := TX12) (N := 58) hx hb ht iX12 hown hK hP 0 rfl rfl 42 (by decide) (ht _ k_42) (fun _ h9 => h9) rfl hdg kk
theorem ml_42 {i : Int32} (hx : p.tables.exec = Jvm.exec) (hb : c.code = cc) (hK : va_K G vwCl (TY cy) s) (hP : va_P G vwCl (WMs cy mo h v nm f g) H) (hin : vp_in i 36) (hdg : decode cc pc = .ok (.iaload, 1)) (kk : W p l e R s m args below meth c H locs cells slots Q (F0 m (pc + 1) ls (.int (f 42 i.toNatClampNeg) :: rest))) : W p l e R s m args below meth c H locs cells slots Q (F0 m pc ls (.int i :: .ref (h 42) :: rest)) :=
  va_iald hx hb hK hP 27 0 rfl rfl hin hdg kk
theorem ms_42 {i : Int32} {x : Int32} (hx : p.tables.exec = Jvm.exec) (hb : c.code = cc) (hK : va_K G vwCl (TY cy) s) (hP : va_P G vwCl (WMs cy mo h v nm f g) H) (hD : va_D A (WMs cy mo h v nm f g)) (hS : va_S A H0 H locs) (hin : vp_in i 36) (hdg : decode cc pc = .ok (.iastore, 1)) (kk : ∀ (H1 : Heap) (locs1 : List Loc), va_P G vwCl (WMs cy mo h v nm (va_up f 42 (upd (f 42) i.toNatClampNeg x)) g) H1 → va_D A (WMs cy mo h v nm (va_up f 42 (upd (f 42) i.toNatClampNeg x)) g) → va_S A H0 H1 locs1 → W p l e R s m args below meth c H1 locs1 cells slots Q (F0 m (pc + 1) ls rest)) : W p l e R s m args below meth c H locs cells slots Q (F0 m pc ls (.int x :: .int i :: .ref (h 42) :: rest)) :=
  va_iast hx hb hK hP hD hS 27 0 rfl rfl hin hdg (fun H1 l1 h1 h2 h3 => kk H1 l1 h1 h2 h3)
theorem mg_43 (hx : p.tables.exec = Jvm.exec) (hb : c.code = cc) (ht : ∀ w ∈ TBg, w.before args s = true) (hown : s.vm.findClass RX12 = some m.cls) (hK : va_K G vwCl (TY cy) s) (hP : va_P G vwCl (WMs cy mo h v nm f g) H) (hdg : decode cc pc = .ok (.getfield 378, 3)) (kk : W p l e R s m args below meth c H locs cells slots Q (F0 m (pc + 3) ls (.int (v 43) :: rest))) : W p l e R s m args below meth c H locs cells slots Q (F0 m pc ls (.ref mo :: rest)) :=
  va_get (ci := 12) (v := .int (v 43)) (C := RX12) (T := TX12) (N := 58) hx hb ht iX12 hown hK hP 0 rfl rfl 43 (by decide) (ht _ k_43) (fun _ h9 => h9) rfl hdg kk
theorem mp_43 {x : Int32} (hx : p.tables.exec = Jvm.exec) (hb : c.code = cc) (ht : ∀ w ∈ TBg, w.before args s = true) (hown : s.vm.findClass RX12 = some m.cls) (hK : va_K G vwCl (TY cy) s) (hP : va_P G vwCl (WMs cy mo h v nm f g) H) (hD : va_D A (WMs cy mo h v nm f g)) (hS : va_S A H0 H locs) (hdg : decode cc pc = .ok (.putfield 378, 3)) (kk : ∀ (H1 : Heap) (locs1 : List Loc), va_P G vwCl (WMs cy mo h (va_up v 43 x) nm f g) H1 → va_D A (WMs cy mo h (va_up v 43 x) nm f g) → va_S A H0 H1 locs1 → W p l e R s m args below meth c H1 locs1 cells slots Q (F0 m (pc + 3) ls rest)) : W p l e R s m args below meth c H locs cells slots Q (F0 m pc ls (.int x :: .ref mo :: rest)) :=
  va_put (ci := 12) (v := .int x) (ty := .int) (C := RX12) (T := TX12) (N := 58) hx hb ht iX12 tyX12 tyX12_ok nmX12 hown hK hP hD hS 0 rfl rfl 43 (by decide) (ht _ k_43) (fun _ h9 => h9) rfl (by decide +kernel) rfl rfl (Nat.le_of_ble_eq_true rfl) hdg (fun H1 l1 h1 h2 h3 => kk H1 l1 h1 h2 h3)
theorem mg_44 (hx : p.tables.exec = Jvm.exec) (hb : c.code = cc) (ht : ∀ w ∈ TBg, w.before args s = true) (hown : s.vm.findClass RX12 = some m.cls) (hK : va_K G vwCl (TY cy) s) (hP : va_P G vwCl (WMs cy mo h v nm f g) H) (hdg : decode cc pc = .ok (.getfield 388, 3)) (kk : W p l e R s m args below meth c H locs cells slots Q (F0 m (pc + 3) ls (.int (v 44) :: rest))) : W p l e R s m args below meth c H locs cells slots Q (F0 m pc ls (.ref mo :: rest)) :=
  va_get (ci := 12) (v := .int (v 44)) (C := RX12) (T := TX12) (N := 58) hx hb ht iX12 hown hK hP 0 rfl rfl 44 (by decide) (ht _ k_44) (fun _ h9 => h9) rfl hdg kk
theorem mp_44 {x : Int32} (hx : p.tables.exec = Jvm.exec) (hb : c.code = cc) (ht : ∀ w ∈ TBg, w.before args s = true) (hown : s.vm.findClass RX12 = some m.cls) (hK : va_K G vwCl (TY cy) s) (hP : va_P G vwCl (WMs cy mo h v nm f g) H) (hD : va_D A (WMs cy mo h v nm f g)) (hS : va_S A H0 H locs) (hdg : decode cc pc = .ok (.putfield 388, 3)) (kk : ∀ (H1 : Heap) (locs1 : List Loc), va_P G vwCl (WMs cy mo h (va_up v 44 x) nm f g) H1 → va_D A (WMs cy mo h (va_up v 44 x) nm f g) → va_S A H0 H1 locs1 → W p l e R s m args below meth c H1 locs1 cells slots Q (F0 m (pc + 3) ls rest)) : W p l e R s m args below meth c H locs cells slots Q (F0 m pc ls (.int x :: .ref mo :: rest)) :=
  va_put (ci := 12) (v := .int x) (ty := .int) (C := RX12) (T := TX12) (N := 58) hx hb ht iX12 tyX12 tyX12_ok nmX12 hown hK hP hD hS 0 rfl rfl 44 (by decide) (ht _ k_44) (fun _ h9 => h9) rfl (by decide +kernel) rfl rfl (Nat.le_of_ble_eq_true rfl) hdg (fun H1 l1 h1 h2 h3 => kk H1 l1 h1 h2 h3)
theorem mg_45 (hx : p.tables.exec = Jvm.exec) (hb : c.code = cc) (ht : ∀ w ∈ TBg, w.before args s = true) (hown : s.vm.findClass RX12 = some m.cls) (hK : va_K G vwCl (TY cy) s) (hP : va_P G vwCl (WMs cy mo h v nm f g) H) (hdg : decode cc pc = .ok (.getfield 98, 3)) (kk : W p l e R s m args below meth c H locs cells slots Q (F0 m (pc + 3) ls (.ref (h 45) :: rest))) : W p l e R s m args below meth c H locs cells slots Q (F0 m pc ls (.ref mo :: rest)) :=
  va_get (ci := 12) (v := .ref (h 45)) (C := RX12) (T := TX12) (N := 58) hx hb ht iX12 hown hK hP 0 rfl rfl 45 (by decide) (ht _ k_45) (fun _ h9 => h9) rfl hdg kk
theorem ml_45 {i : Int32} (hx : p.tables.exec = Jvm.exec) (hb : c.code = cc) (hK : va_K G vwCl (TY cy) s) (hP : va_P G vwCl (WMs cy mo h v nm f g) H) (hin : vp_in i 30) (hdg : decode cc pc = .ok (.iaload, 1)) (kk : W p l e R s m args below meth c H locs cells slots Q (F0 m (pc + 1) ls (.int (f 45 i.toNatClampNeg) :: rest))) : W p l e R s m args below meth c H locs cells slots Q (F0 m pc ls (.int i :: .ref (h 45) :: rest)) :=
  va_iald hx hb hK hP 28 0 rfl rfl hin hdg kk
theorem ms_45 {i : Int32} {x : Int32} (hx : p.tables.exec = Jvm.exec) (hb : c.code = cc) (hK : va_K G vwCl (TY cy) s) (hP : va_P G vwCl (WMs cy mo h v nm f g) H) (hD : va_D A (WMs cy mo h v nm f g)) (hS : va_S A H0 H locs) (hin : vp_in i 30) (hdg : decode cc pc = .ok (.iastore, 1)) (kk : ∀ (H1 : Heap) (locs1 : List Loc), va_P G vwCl (WMs cy mo h v nm (va_up f 45 (upd (f 45) i.toNatClampNeg x)) g) H1 → va_D A (WMs cy mo h v nm (va_up f 45 (upd (f 45) i.toNatClampNeg x)) g) → va_S A H0 H1 locs1 → W p l e R s m args below meth c H1 locs1 cells slots Q (F0 m (pc + 1) ls rest)) : W p l e R s m args below meth c H locs cells slots Q (F0 m pc ls (.int x :: .int i :: .ref (h 45) :: rest)) :=
  va_iast hx hb hK hP hD hS 28 0 rfl rfl hin hdg (fun H1 l1 h1 h2 h3 => kk H1 l1 h1 h2 h3)
theorem mg_46 (hx : p.tables.exec = Jvm.exec) (hb : c.code = cc) (ht : ∀ w ∈ TBg, w.before args s = true) (hown : s.vm.findClass RX12 = some m.cls) (hK : va_K G vwCl (TY cy) s) (hP : va_P G vwCl (WMs cy mo h v nm f g) H) (hdg : decode cc pc = .ok (.getfield 101, 3)) (kk : W p l e R s m args below meth c H locs cells slots Q (F0 m (pc + 3) ls (.ref (h 46) :: rest))) : W p l e R s m args below meth c H locs cells slots Q (F0 m pc ls (.ref mo :: rest)) :=
  va_get (ci := 12) (v := .ref (h 46)) (C := RX12) (T := TX12) (N := 58) hx hb ht iX12 hown hK hP 0 rfl rfl 46 (by decide) (ht _ k_46) (fun _ h9 => h9) rfl hdg kk
theorem ml_46 {i : Int32} (hx : p.tables.exec = Jvm.exec) (hb : c.code = cc) (hK : va_K G vwCl (TY cy) s) (hP : va_P G vwCl (WMs cy mo h v nm f g) H) (hin : vp_in i 30) (hdg : decode cc pc = .ok (.iaload, 1)) (kk : W p l e R s m args below meth c H locs cells slots Q (F0 m (pc + 1) ls (.int (f 46 i.toNatClampNeg) :: rest))) : W p l e R s m args below meth c H locs cells slots Q (F0 m pc ls (.int i :: .ref (h 46) :: rest)) :=
  va_iald hx hb hK hP 29 0 rfl rfl hin hdg kk
theorem ms_46 {i : Int32} {x : Int32} (hx : p.tables.exec = Jvm.exec) (hb : c.code = cc) (hK : va_K G vwCl (TY cy) s) (hP : va_P G vwCl (WMs cy mo h v nm f g) H) (hD : va_D A (WMs cy mo h v nm f g)) (hS : va_S A H0 H locs) (hin : vp_in i 30) (hdg : decode cc pc = .ok (.iastore, 1)) (kk : ∀ (H1 : Heap) (locs1 : List Loc), va_P G vwCl (WMs cy mo h v nm (va_up f 46 (upd (f 46) i.toNatClampNeg x)) g) H1 → va_D A (WMs cy mo h v nm (va_up f 46 (upd (f 46) i.toNatClampNeg x)) g) → va_S A H0 H1 locs1 → W p l e R s m args below meth c H1 locs1 cells slots Q (F0 m (pc + 1) ls rest)) : W p l e R s m args below meth c H locs cells slots Q (F0 m pc ls (.int x :: .int i :: .ref (h 46) :: rest)) :=
  va_iast hx hb hK hP hD hS 29 0 rfl rfl hin hdg (fun H1 l1 h1 h2 h3 => kk H1 l1 h1 h2 h3)
theorem mg_47 (hx : p.tables.exec = Jvm.exec) (hb : c.code = cc) (ht : ∀ w ∈ TBg, w.before args s = true) (hown : s.vm.findClass RX12 = some m.cls) (hK : va_K G vwCl (TY cy) s) (hP : va_P G vwCl (WMs cy mo h v nm f g) H) (hdg : decode cc pc = .ok (.getfield 104, 3)) (kk : W p l e R s m args below meth c H locs cells slots Q (F0 m (pc + 3) ls (.ref (h 47) :: rest))) : W p l e R s m args below meth c H locs cells slots Q (F0 m pc ls (.ref mo :: rest)) :=
  va_get (ci := 12) (v := .ref (h 47)) (C := RX12) (T := TX12) (N := 58) hx hb ht iX12 hown hK hP 0 rfl rfl 47 (by decide) (ht _ k_47) (fun _ h9 => h9) rfl hdg kk
theorem ml_47 {i : Int32} (hx : p.tables.exec = Jvm.exec) (hb : c.code = cc) (hK : va_K G vwCl (TY cy) s) (hP : va_P G vwCl (WMs cy mo h v nm f g) H) (hin : vp_in i 30) (hdg : decode cc pc = .ok (.iaload, 1)) (kk : W p l e R s m args below meth c H locs cells slots Q (F0 m (pc + 1) ls (.int (f 47 i.toNatClampNeg) :: rest))) : W p l e R s m args below meth c H locs cells slots Q (F0 m pc ls (.int i :: .ref (h 47) :: rest)) :=
  va_iald hx hb hK hP 30 0 rfl rfl hin hdg kk
theorem ms_47 {i : Int32} {x : Int32} (hx : p.tables.exec = Jvm.exec) (hb : c.code = cc) (hK : va_K G vwCl (TY cy) s) (hP : va_P G vwCl (WMs cy mo h v nm f g) H) (hD : va_D A (WMs cy mo h v nm f g)) (hS : va_S A H0 H locs) (hin : vp_in i 30) (hdg : decode cc pc = .ok (.iastore, 1)) (kk : ∀ (H1 : Heap) (locs1 : List Loc), va_P G vwCl (WMs cy mo h v nm (va_up f 47 (upd (f 47) i.toNatClampNeg x)) g) H1 → va_D A (WMs cy mo h v nm (va_up f 47 (upd (f 47) i.toNatClampNeg x)) g) → va_S A H0 H1 locs1 → W p l e R s m args below meth c H1 locs1 cells slots Q (F0 m (pc + 1) ls rest)) : W p l e R s m args below meth c H locs cells slots Q (F0 m pc ls (.int x :: .int i :: .ref (h 47) :: rest)) :=
  va_iast hx hb hK hP hD hS 30 0 rfl rfl hin hdg (fun H1 l1 h1 h2 h3 => kk H1 l1 h1 h2 h3)
theorem mg_48 (hx : p.tables.exec = Jvm.exec) (hb : c.code = cc) (ht : ∀ w ∈ TBg, w.before args s = true) (hown : s.vm.findClass RX12 = some m.cls) (hK : va_K G vwCl (TY cy) s) (hP : va_P G vwCl (WMs cy mo h v nm f g) H) (hdg : decode cc pc = .ok (.getfield 107, 3)) (kk : W p l e R s m args below meth c H locs cells slots Q (F0 m (pc + 3) ls (.ref (h 48) :: rest))) : W p l e R s m args below meth c H locs cells slots Q (F0 m pc ls (.ref mo :: rest)) :=
  va_get (ci := 12) (v := .ref (h 48)) (C := RX12) (T := TX12) (N := 58) hx hb ht iX12 hown hK hP 0 rfl rfl 48 (by decide) (ht _ k_48) (fun _ h9 => h9) rfl hdg kk
theorem ml_48 {i : Int32} (hx : p.tables.exec = Jvm.exec) (hb : c.code = cc) (hK : va_K G vwCl (TY cy) s) (hP : va_P G vwCl (WMs cy mo h v nm f g) H) (hin : vp_in i 30) (hdg : decode cc pc = .ok (.baload, 1)) (kk : W p l e R s m args below meth c H locs cells slots Q (F0 m (pc + 1) ls (.int (f 48 i.toNatClampNeg) :: rest))) : W p l e R s m args below meth c H locs cells slots Q (F0 m pc ls (.int i :: .ref (h 48) :: rest)) :=
  va_zald hx hb hK hP 31 2 rfl rfl hin hdg kk
theorem ms_48 {i : Int32} {x : Int32} (hx : p.tables.exec = Jvm.exec) (hb : c.code = cc) (hK : va_K G vwCl (TY cy) s) (hP : va_P G vwCl (WMs cy mo h v nm f g) H) (hD : va_D A (WMs cy mo h v nm f g)) (hS : va_S A H0 H locs) (hin : vp_in i 30) (hdg : decode cc pc = .ok (.bastore, 1)) (kk : ∀ (H1 : Heap) (locs1 : List Loc), va_P G vwCl (WMs cy mo h v nm (va_up f 48 (upd (f 48) i.toNatClampNeg (vp_nar .boolean x))) g) H1 → va_D A (WMs cy mo h v nm (va_up f 48 (upd (f 48) i.toNatClampNeg (vp_nar .boolean x))) g) → va_S A H0 H1 locs1 → W p l e R s m args below meth c H1 locs1 cells slots Q (F0 m (pc + 1) ls rest)) : W p l e R s m args below meth c H locs cells slots Q (F0 m pc ls (.int x :: .int i :: .ref (h 48) :: rest)) :=
  va_zast hx hb hK hP hD hS 31 2 rfl rfl hin hdg (fun H1 l1 h1 h2 h3 => kk H1 l1 h1 h2 h3)
theorem mg_49 (hx : p.tables.exec = Jvm.exec) (hb : c.code = cc) (ht : ∀ w ∈ TBg, w.before args s = true) (hown : s.vm.findClass RX12 = some m.cls) (hK : va_K G vwCl (TY cy) s) (hP : va_P G vwCl (WMs cy mo h v nm f g) H) (hdg : decode cc pc = .ok (.getfield 110, 3)) (kk : W p l e R s m args below meth c H locs cells slots Q (F0 m (pc + 3) ls (.ref (h 49) :: rest))) : W p l e R s m args below meth c H locs cells slots Q (F0 m pc ls (.ref mo :: rest)) :=
  va_get (ci := 12) (v := .ref (h 49)) (C := RX12) (T := TX12) (N := 58) hx hb ht iX12 hown hK hP 0 rfl rfl 49 (by decide) (ht _ k_49) (fun _ h9 => h9) rfl hdg kk
theorem ml_49 {i : Int32} (hx : p.tables.exec = Jvm.exec) (hb : c.code = cc) (hK : va_K G vwCl (TY cy) s) (hP : va_P G vwCl (WMs cy mo h v nm f g) H) (hin : vp_in i 30) (hdg : decode cc pc = .ok (.baload, 1)) (kk : W p l e R s m args below meth c H locs cells slots Q (F0 m (pc + 1) ls (.int (f 49 i.toNatClampNeg) :: rest))) : W p l e R s m args below meth c H locs cells slots Q (F0 m pc ls (.int i :: .ref (h 49) :: rest)) :=
  va_zald hx hb hK hP 32 2 rfl rfl hin hdg kk
theorem ms_49 {i : Int32} {x : Int32} (hx : p.tables.exec = Jvm.exec) (hb : c.code = cc) (hK : va_K G vwCl (TY cy) s) (hP : va_P G vwCl (WMs cy mo h v nm f g) H) (hD : va_D A (WMs cy mo h v nm f g)) (hS : va_S A H0 H locs) (hin : vp_in i 30) (hdg : decode cc pc = .ok (.bastore, 1)) (kk : ∀ (H1 : Heap) (locs1 : List Loc), va_P G vwCl (WMs cy mo h v nm (va_up f 49 (upd (f 49) i.toNatClampNeg (vp_nar .boolean x))) g) H1 → va_D A (WMs cy mo h v nm (va_up f 49 (upd (f 49) i.toNatClampNeg (vp_nar .boolean x))) g) → va_S A H0 H1 locs1 → W p l e R s m args below meth c H1 locs1 cells slots Q (F0 m (pc + 1) ls rest)) : W p l e R s m args below meth c H locs cells slots Q (F0 m pc ls (.int x :: .int i :: .ref (h 49) :: rest)) :=
  va_zast hx hb hK hP hD hS 32 2 rfl rfl hin hdg (fun H1 l1 h1 h2 h3 => kk H1 l1 h1 h2 h3)
theorem mg_50 (hx : p.tables.exec = Jvm.exec) (hb : c.code = cc) (ht : ∀ w ∈ TBg, w.before args s = true) (hown : s.vm.findClass RX12 = some m.cls) (hK : va_K G vwCl (TY cy) s) (hP : va_P G vwCl (WMs cy mo h v nm f g) H) (hdg : decode cc pc = .ok (.getfield 233, 3)) (kk : W p l e R s m args below meth c H locs cells slots Q (F0 m (pc + 3) ls (.int (v 50) :: rest))) : W p l e R s m args below meth c H locs cells slots Q (F0 m pc ls (.ref mo :: rest)) :=
  va_get (ci := 12) (v := .int (v 50)) (C := RX12) (T := TX12) (N := 58) hx hb ht iX12 hown hK hP 0 rfl rfl 50 (by decide) (ht _ k_50) (fun _ h9 => h9) rfl hdg kk
theorem mp_50 {x : Int32} (hx : p.tables.exec = Jvm.exec) (hb : c.code = cc) (ht : ∀ w ∈ TBg, w.before args s = true) (hown : s.vm.findClass RX12 = some m.cls) (hK : va_K G vwCl (TY cy) s) (hP : va_P G vwCl (WMs cy mo h v nm f g) H) (hD : va_D A (WMs cy mo h v nm f g)) (hS : va_S A H0 H locs) (hdg : decode cc pc = .ok (.putfield 233, 3)) (kk : ∀ (H1 : Heap) (locs1 : List Loc), va_P G vwCl (WMs cy mo h (va_up v 50 x) nm f g) H1 → va_D A (WMs cy mo h (va_up v 50 x) nm f g) → va_S A H0 H1 locs1 → W p l e R s m args below meth c H1 locs1 cells slots Q (F0 m (pc + 3) ls rest)) : W p l e R s m args below meth c H locs cells slots Q (F0 m pc ls (.int x :: .ref mo :: rest)) :=
  va_put (ci := 12) (v := .int x) (ty := .int) (C := RX12) (T := TX12) (N := 58) hx hb ht iX12 tyX12 tyX12_ok nmX12 hown hK hP hD hS 0 rfl rfl 50 (by decide) (ht _ k_50) (fun _ h9 => h9) rfl (by decide +kernel) rfl rfl (Nat.le_of_ble_eq_true rfl) hdg (fun H1 l1 h1 h2 h3 => kk H1 l1 h1 h2 h3)
theorem mg_51 (hx : p.tables.exec = Jvm.exec) (hb : c.code = cc) (ht : ∀ w ∈ TBg, w.before args s = true) (hown : s.vm.findClass RX12 = some m.cls) (hK : va_K G vwCl (TY cy) s) (hP : va_P G vwCl (WMs cy mo h v nm f g) H) (hdg : decode cc pc = .ok (.getfield 423, 3)) (kk : W p l e R s m args below meth c H locs cells slots Q (F0 m (pc + 3) ls (.int (v 51) :: rest))) : W p l e R s m args below meth c H locs cells slots Q (F0 m pc ls (.ref mo :: rest)) :=
  va_get (ci := 12) (v := .int (v 51)) (C := RX12) (T := TX12) (N := 58) hx hb ht iX12 hown hK hP 0 rfl rfl 51 (by decide) (ht _ k_51) (fun _ h9 => h9) rfl hdg kk
theorem mp_51 {x : Int32} (hx : p.tables.exec = Jvm.exec) (hb : c.code = cc) (ht : ∀ w ∈ TBg, w.before args s = true) (hown : s.vm.findClass RX12 = some m.cls) (hK : va_K G vwCl (TY cy) s) (hP : va_P G vwCl (WMs cy mo h v nm f g) H) (hD : va_D A (WMs cy mo h v nm f g)) (hS : va_S A H0 H locs) (hdg : decode cc pc = .ok (.putfield 423, 3)) (kk : ∀ (H1 : Heap) (locs1 : List Loc), va_P G vwCl (WMs cy mo h (va_up v 51 x) nm f g) H1 → va_D A (WMs cy mo h (va_up v 51 x) nm f g) → va_S A H0 H1 locs1 → W p l e R s m args below meth c H1 locs1 cells slots Q (F0 m (pc + 3) ls rest)) : W p l e R s m args below meth c H locs cells slots Q (F0 m pc ls (.int x :: .ref mo :: rest)) :=
  va_put (ci := 12) (v := .int x) (ty := .int) (C := RX12) (T := TX12) (N := 58) hx hb ht iX12 tyX12 tyX12_ok nmX12 hown hK hP hD hS 0 rfl rfl 51 (by decide) (ht _ k_51) (fun _ h9 => h9) rfl (by decide +kernel) rfl rfl (Nat.le_of_ble_eq_true rfl) hdg (fun H1 l1 h1 h2 h3 => kk H1 l1 h1 h2 h3)
theorem mg_52 (hx : p.tables.exec = Jvm.exec) (hb : c.code = cc) (ht : ∀ w ∈ TBg, w.before args s = true) (hown : s.vm.findClass RX12 = some m.cls) (hK : va_K G vwCl (TY cy) s) (hP : va_P G vwCl (WMs cy mo h v nm f g) H) (hdg : decode cc pc = .ok (.getfield 113, 3)) (kk : W p l e R s m args below meth c H locs cells slots Q (F0 m (pc + 3) ls (.ref (h 52) :: rest))) : W p l e R s m args below meth c H locs cells slots Q (F0 m pc ls (.ref mo :: rest)) :=
  va_get (ci := 12) (v := .ref (h 52)) (C := RX12) (T := TX12) (N := 58) hx hb ht iX12 hown hK hP 0 rfl rfl 52 (by decide) (ht _ k_52) (fun _ h9 => h9) rfl hdg kk
theorem ml_52 {i : Int32} (hx : p.tables.exec = Jvm.exec) (hb : c.code = cc) (hK : va_K G vwCl (TY cy) s) (hP : va_P G vwCl (WMs cy mo h v nm f g) H) (hin : vp_in i 3) (hdg : decode cc pc = .ok (.iaload, 1)) (kk : W p l e R s m args below meth c H locs cells slots Q (F0 m (pc + 1) ls (.int (f 52 i.toNatClampNeg) :: rest))) : W p l e R s m args below meth c H locs cells slots Q (F0 m pc ls (.int i :: .ref (h 52) :: rest)) :=
  va_iald hx hb hK hP 33 0 rfl rfl hin hdg kk
theorem ms_52 {i : Int32} {x : Int32} (hx : p.tables.exec = Jvm.exec) (hb : c.code = cc) (hK : va_K G vwCl (TY cy) s) (hP : va_P G vwCl (WMs cy mo h v nm f g) H) (hD : va_D A (WMs cy mo h v nm f g)) (hS : va_S A H0 H locs) (hin : vp_in i 3) (hdg : decode cc pc = .ok (.iastore, 1)) (kk : ∀ (H1 : Heap) (locs1 : List Loc), va_P G vwCl (WMs cy mo h v nm (va_up f 52 (upd (f 52) i.toNatClampNeg x)) g) H1 → va_D A (WMs cy mo h v nm (va_up f 52 (upd (f 52) i.toNatClampNeg x)) g) → va_S A H0 H1 locs1 → W p l e R s m args below meth c H1 locs1 cells slots Q (F0 m (pc + 1) ls rest)) : W p l e R s m args below meth c H locs cells slots Q (F0 m pc ls (.int x :: .int i :: .ref (h 52) :: rest)) :=
  va_iast hx hb hK hP hD hS 33 0 rfl rfl hin hdg (fun H1 l1 h1 h2 h3 => kk H1 l1 h1 h2 h3)
theorem mg_53 (hx : p.tables.exec = Jvm.exec) (hb : c.code = cc) (ht : ∀ w ∈ TBg, w.before args s = true) (hown : s.vm.findClass RX12 = some m.cls) (hK : va_K G vwCl (TY cy) s) (hP : va_P G vwCl (WMs cy mo h v nm f g) H) (hdg : decode cc pc = .ok (.getfield 116, 3)) (kk : W p l e R s m args below meth c H locs cells slots Q (F0 m (pc + 3) ls (.ref (h 53) :: rest))) : W p l e R s m args below meth c H locs cells slots Q (F0 m pc ls (.ref mo :: rest)) :=
  va_get (ci := 12) (v := .ref (h 53)) (C := RX12) (T := TX12) (N := 58) hx hb ht iX12 hown hK hP 0 rfl rfl 53 (by decide) (ht _ k_53) (fun _ h9 => h9) rfl hdg kk
theorem ml_53 {i : Int32} (hx : p.tables.exec = Jvm.exec) (hb : c.code = cc) (hK : va_K G vwCl (TY cy) s) (hP : va_P G vwCl (WMs cy mo h v nm f g) H) (hin : vp_in i 120) (hdg : decode cc pc = .ok (.iaload, 1)) (kk : W p l e R s m args below meth c H locs cells slots Q (F0 m (pc + 1) ls (.int (f 53 i.toNatClampNeg) :: rest))) : W p l e R s m args below meth c H locs cells slots Q (F0 m pc ls (.int i :: .ref (h 53) :: rest)) :=
  va_iald hx hb hK hP 34 0 rfl rfl hin hdg kk
theorem ms_53 {i : Int32} {x : Int32} (hx : p.tables.exec = Jvm.exec) (hb : c.code = cc) (hK : va_K G vwCl (TY cy) s) (hP : va_P G vwCl (WMs cy mo h v nm f g) H) (hD : va_D A (WMs cy mo h v nm f g)) (hS : va_S A H0 H locs) (hin : vp_in i 120) (hdg : decode cc pc = .ok (.iastore, 1)) (kk : ∀ (H1 : Heap) (locs1 : List Loc), va_P G vwCl (WMs cy mo h v nm (va_up f 53 (upd (f 53) i.toNatClampNeg x)) g) H1 → va_D A (WMs cy mo h v nm (va_up f 53 (upd (f 53) i.toNatClampNeg x)) g) → va_S A H0 H1 locs1 → W p l e R s m args below meth c H1 locs1 cells slots Q (F0 m (pc + 1) ls rest)) : W p l e R s m args below meth c H locs cells slots Q (F0 m pc ls (.int x :: .int i :: .ref (h 53) :: rest)) :=
  va_iast hx hb hK hP hD hS 34 0 rfl rfl hin hdg (fun H1 l1 h1 h2 h3 => kk H1 l1 h1 h2 h3)
theorem mg_54 (hx : p.tables.exec = Jvm.exec) (hb : c.code = cc) (ht : ∀ w ∈ TBg, w.before args s = true) (hown : s.vm.findClass RX12 = some m.cls) (hK : va_K G vwCl (TY cy) s) (hP : va_P G vwCl (WMs cy mo h v nm f g) H) (hdg : decode cc pc = .ok (.getfield 119, 3)) (kk : W p l e R s m args below meth c H locs cells slots Q (F0 m (pc + 3) ls (.ref (h 54) :: rest))) : W p l e R s m args below meth c H locs cells slots Q (F0 m pc ls (.ref mo :: rest)) :=
  va_get (ci := 12) (v := .ref (h 54)) (C := RX12) (T := TX12) (N := 58) hx hb ht iX12 hown hK hP 0 rfl rfl 54 (by decide) (ht _ k_54) (fun _ h9 => h9) rfl hdg kk
theorem ml_54 {i : Int32} (hx : p.tables.exec = Jvm.exec) (hb : c.code = cc) (hK : va_K G vwCl (TY cy) s) (hP : va_P G vwCl (WMs cy mo h v nm f g) H) (hin : vp_in i 120) (hdg : decode cc pc = .ok (.iaload, 1)) (kk : W p l e R s m args below meth c H locs cells slots Q (F0 m (pc + 1) ls (.int (f 54 i.toNatClampNeg) :: rest))) : W p l e R s m args below meth c H locs cells slots Q (F0 m pc ls (.int i :: .ref (h 54) :: rest)) :=
  va_iald hx hb hK hP 35 0 rfl rfl hin hdg kk
theorem ms_54 {i : Int32} {x : Int32} (hx : p.tables.exec = Jvm.exec) (hb : c.code = cc) (hK : va_K G vwCl (TY cy) s) (hP : va_P G vwCl (WMs cy mo h v nm f g) H) (hD : va_D A (WMs cy mo h v nm f g)) (hS : va_S A H0 H locs) (hin : vp_in i 120) (hdg : decode cc pc = .ok (.iastore, 1)) (kk : ∀ (H1 : Heap) (locs1 : List Loc), va_P G vwCl (WMs cy mo h v nm (va_up f 54 (upd (f 54) i.toNatClampNeg x)) g) H1 → va_D A (WMs cy mo h v nm (va_up f 54 (upd (f 54) i.toNatClampNeg x)) g) → va_S A H0 H1 locs1 → W p l e R s m args below meth c H1 locs1 cells slots Q (F0 m (pc + 1) ls rest)) : W p l e R s m args below meth c H locs cells slots Q (F0 m pc ls (.int x :: .int i :: .ref (h 54) :: rest)) :=
  va_iast hx hb hK hP hD hS 35 0 rfl rfl hin hdg (fun H1 l1 h1 h2 h3 => kk H1 l1 h1 h2 h3)
theorem mg_55 (hx : p.tables.exec = Jvm.exec) (hb : c.code = cc) (ht : ∀ w ∈ TBg, w.before args s = true) (hown : s.vm.findClass RX12 = some m.cls) (hK : va_K G vwCl (TY cy) s) (hP : va_P G vwCl (WMs cy mo h v nm f g) H) (hdg : decode cc pc = .ok (.getfield 122, 3)) (kk : W p l e R s m args below meth c H locs cells slots Q (F0 m (pc + 3) ls (.ref (h 55) :: rest))) : W p l e R s m args below meth c H locs cells slots Q (F0 m pc ls (.ref mo :: rest)) :=
  va_get (ci := 12) (v := .ref (h 55)) (C := RX12) (T := TX12) (N := 58) hx hb ht iX12 hown hK hP 0 rfl rfl 55 (by decide) (ht _ k_55) (fun _ h9 => h9) rfl hdg kk
theorem ml_55 {i : Int32} (hx : p.tables.exec = Jvm.exec) (hb : c.code = cc) (hK : va_K G vwCl (TY cy) s) (hP : va_P G vwCl (WMs cy mo h v nm f g) H) (hin : vp_in i 24) (hdg : decode cc pc = .ok (.iaload, 1)) (kk : W p l e R s m args below meth c H locs cells slots Q (F0 m (pc + 1) ls (.int (f 55 i.toNatClampNeg) :: rest))) : W p l e R s m args below meth c H locs cells slots Q (F0 m pc ls (.int i :: .ref (h 55) :: rest)) :=
  va_iald hx hb hK hP 36 0 rfl rfl hin hdg kk
theorem ms_55 {i : Int32} {x : Int32} (hx : p.tables.exec = Jvm.exec) (hb : c.code = cc) (hK : va_K G vwCl (TY cy) s) (hP : va_P G vwCl (WMs cy mo h v nm f g) H) (hD : va_D A (WMs cy mo h v nm f g)) (hS : va_S A H0 H locs) (hin : vp_in i 24) (hdg : decode cc pc = .ok (.iastore, 1)) (kk : ∀ (H1 : Heap) (locs1 : List Loc), va_P G vwCl (WMs cy mo h v nm (va_up f 55 (upd (f 55) i.toNatClampNeg x)) g) H1 → va_D A (WMs cy mo h v nm (va_up f 55 (upd (f 55) i.toNatClampNeg x)) g) → va_S A H0 H1 locs1 → W p l e R s m args below meth c H1 locs1 cells slots Q (F0 m (pc + 1) ls rest)) : W p l e R s m args below meth c H locs cells slots Q (F0 m pc ls (.int x :: .int i :: .ref (h 55) :: rest)) :=
  va_iast hx hb hK hP hD hS 36 0 rfl rfl hin hdg (fun H1 l1 h1 h2 h3 => kk H1 l1 h1 h2 h3)
theorem mg_56 (hx : p.tables.exec = Jvm.exec) (hb : c.code = cc) (ht : ∀ w ∈ TBg, w.before args s = true) (hown : s.vm.findClass RX12 = some m.cls) (hK : va_K G vwCl (TY cy) s) (hP : va_P G vwCl (WMs cy mo h v nm f g) H) (hdg : decode cc pc = .ok (.getfield 125, 3)) (kk : W p l e R s m args below meth c H locs cells slots Q (F0 m (pc + 3) ls (.ref (h 56) :: rest))) : W p l e R s m args below meth c H locs cells slots Q (F0 m pc ls (.ref mo :: rest)) :=
  va_get (ci := 12) (v := .ref (h 56)) (C := RX12) (T := TX12) (N := 58) hx hb ht iX12 hown hK hP 0 rfl rfl 56 (by decide) (ht _ k_56) (fun _ h9 => h9) rfl hdg kk
theorem ml_56 {i : Int32} (hx : p.tables.exec = Jvm.exec) (hb : c.code = cc) (hK : va_K G vwCl (TY cy) s) (hP : va_P G vwCl (WMs cy mo h v nm f g) H) (hin : vp_in i 24) (hdg : decode cc pc = .ok (.baload, 1)) (kk : W p l e R s m args below meth c H locs cells slots Q (F0 m (pc + 1) ls (.int (f 56 i.toNatClampNeg) :: rest))) : W p l e R s m args below meth c H locs cells slots Q (F0 m pc ls (.int i :: .ref (h 56) :: rest)) :=
  va_zald hx hb hK hP 37 2 rfl rfl hin hdg kk
theorem ms_56 {i : Int32} {x : Int32} (hx : p.tables.exec = Jvm.exec) (hb : c.code = cc) (hK : va_K G vwCl (TY cy) s) (hP : va_P G vwCl (WMs cy mo h v nm f g) H) (hD : va_D A (WMs cy mo h v nm f g)) (hS : va_S A H0 H locs) (hin : vp_in i 24) (hdg : decode cc pc = .ok (.bastore, 1)) (kk : ∀ (H1 : Heap) (locs1 : List Loc), va_P G vwCl (WMs cy mo h v nm (va_up f 56 (upd (f 56) i.toNatClampNeg (vp_nar .boolean x))) g) H1 → va_D A (WMs cy mo h v nm (va_up f 56 (upd (f 56) i.toNatClampNeg (vp_nar .boolean x))) g) → va_S A H0 H1 locs1 → W p l e R s m args below meth c H1 locs1 cells slots Q (F0 m (pc + 1) ls rest)) : W p l e R s m args below meth c H locs cells slots Q (F0 m pc ls (.int x :: .int i :: .ref (h 56) :: rest)) :=
  va_zast hx hb hK hP hD hS 37 2 rfl rfl hin hdg (fun H1 l1 h1 h2 h3 => kk H1 l1 h1 h2 h3)
theorem mg_57 (hx : p.tables.exec = Jvm.exec) (hb : c.code = cc) (ht : ∀ w ∈ TBg, w.before args s = true) (hown : s.vm.findClass RX12 = some m.cls) (hK : va_K G vwCl (TY cy) s) (hP : va_P G vwCl (WMs cy mo h v nm f g) H) (hdg : decode cc pc = .ok (.getfield 128, 3)) (kk : W p l e R s m args below meth c H locs cells slots Q (F0 m (pc + 3) ls (.ref (h 57) :: rest))) : W p l e R s m args below meth c H locs cells slots Q (F0 m pc ls (.ref mo :: rest)) :=
  va_get (ci := 12) (v := .ref (h 57)) (C := RX12) (T := TX12) (N := 58) hx hb ht iX12 hown hK hP 0 rfl rfl 57 (by decide) (ht _ k_57) (fun _ h9 => h9) rfl hdg kk
theorem ml_57 {i : Int32} (hx : p.tables.exec = Jvm.exec) (hb : c.code = cc) (hK : va_K G vwCl (TY cy) s) (hP : va_P G vwCl (WMs cy mo h v nm f g) H) (hin : vp_in i 3) (hdg : decode cc pc = .ok (.baload, 1)) (kk : W p l e R s m args below meth c H locs cells slots Q (F0 m (pc + 1) ls (.int (f 57 i.toNatClampNeg) :: rest))) : W p l e R s m args below meth c H locs cells slots Q (F0 m pc ls (.int i :: .ref (h 57) :: rest)) :=
  va_zald hx hb hK hP 38 2 rfl rfl hin hdg kk
theorem ms_57 {i : Int32} {x : Int32} (hx : p.tables.exec = Jvm.exec) (hb : c.code = cc) (hK : va_K G vwCl (TY cy) s) (hP : va_P G vwCl (WMs cy mo h v nm f g) H) (hD : va_D A (WMs cy mo h v nm f g)) (hS : va_S A H0 H locs) (hin : vp_in i 3) (hdg : decode cc pc = .ok (.bastore, 1)) (kk : ∀ (H1 : Heap) (locs1 : List Loc), va_P G vwCl (WMs cy mo h v nm (va_up f 57 (upd (f 57) i.toNatClampNeg (vp_nar .boolean x))) g) H1 → va_D A (WMs cy mo h v nm (va_up f 57 (upd (f 57) i.toNatClampNeg (vp_nar .boolean x))) g) → va_S A H0 H1 locs1 → W p l e R s m args below meth c H1 locs1 cells slots Q (F0 m (pc + 1) ls rest)) : W p l e R s m args below meth c H locs cells slots Q (F0 m pc ls (.int x :: .int i :: .ref (h 57) :: rest)) :=
  va_zast hx hb hK hP hD hS 38 2 rfl rfl hin hdg (fun H1 l1 h1 h2 h3 => kk H1 l1 h1 h2 h3)
end MROWS
