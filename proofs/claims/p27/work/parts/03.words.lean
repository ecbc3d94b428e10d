/-! the words of the tables that hold at a callee too -/
def TBg : List Cond := lw_tbl.filter goodWord
theorem tb_mem {w : Cond} (i : Nat) (h : lw_tbl[i]? = some w) (hg : goodWord w = true) : w ∈ TBg := List.mem_filter.mpr ⟨List.mem_of_getElem? h, hg⟩
theorem tb_in {w : Cond} (h : w ∈ TBg) : w ∈ lw_tbl := (List.mem_filter.mp h).1
theorem tb_list {ws : List Cond} (ps : List Nat) (h : ws = ps.filterMap (fun i => lw_tbl[i]?)) (hg : ws.all goodWord = true) : ∀ w ∈ ws, w ∈ TBg := fun w hw => by
  have h1 := List.all_eq_true.mp hg w hw
  rw [h] at hw
  obtain ⟨i, -, hi⟩ := List.mem_filterMap.mp hw
  exact tb_mem i hi h1
theorem tb_good : ∀ w ∈ TBg, goodWord w = true := fun w h => (List.mem_filter.mp h).2
theorem gd {ws : List Cond} (h : ∀ w ∈ ws, w ∈ TBg) : GoodIn TBg ws := fun w hw => ⟨h w hw, good_of_word (tb_good w (h w hw))⟩
theorem gc {y : MethodName} {cc : ByteArray} {n : Nat} {r : Option FieldType} (h5 : Cond.code y cc n r ∈ TBg) : GoodIn TBg (.code y cc n r :: TBg) := gd (fun w hw => by
  rcases List.mem_cons.mp hw with rfl | hw
  · exact h5
  · exact hw)
theorem gv {own C : String} {idx : Nat} {y : MethodName} {cc : ByteArray} {n : Nat} {r : Option FieldType} (h1 : Cond.methodLink own idx y ∈ TBg) (h2 : Cond.instanceMethod y ∈ TBg) (h3 : Cond.selects C y y ∈ TBg) (h4 : Cond.initialized C ∈ TBg) (h5 : Cond.code y cc n r ∈ TBg) : GoodIn TBg (wsV own idx C y (.code y cc n r :: TBg)) := gd (fun w hw => by
  unfold wsV at hw
  rcases List.mem_append.mp hw with hw | hw
  · simp only [List.mem_cons, List.not_mem_nil, or_false] at hw
    rcases hw with rfl | rfl | rfl | rfl <;> assumption
  · rcases List.mem_cons.mp hw with rfl | hw
    · exact h5
    · exact hw)
theorem gs {own : String} {idx : Nat} {y : MethodName} {cc : ByteArray} {n : Nat} {r : Option FieldType} (h1 : Cond.methodLink own idx y ∈ TBg) (h2 : Cond.static y ∈ TBg) (h4 : Cond.initialized y.cls ∈ TBg) (h5 : Cond.code y cc n r ∈ TBg) : GoodIn TBg (va_wsS own idx y (.code y cc n r :: TBg)) := gd (fun w hw => by
  unfold va_wsS at hw
  rcases List.mem_append.mp hw with hw | hw
  · simp only [List.mem_cons, List.not_mem_nil, or_false] at hw
    rcases hw with rfl | rfl | rfl <;> assumption
  · rcases List.mem_cons.mp hw with rfl | hw
    · exact h5
    · exact hw)
theorem iX0 : ∀ w ∈ wsX00, w ∈ TBg := tb_list [402, 404] (by decide +kernel) (by decide +kernel)
theorem iX1 : ∀ w ∈ wsX10, w ∈ TBg := tb_list [357, 359, 361] (by decide +kernel) (by decide +kernel)
theorem iX2 : ∀ w ∈ wsX20, w ∈ TBg := tb_list [199, 201, 203, 205, 207] (by decide +kernel) (by decide +kernel)
theorem iX3 : ∀ w ∈ wsX30, w ∈ TBg := tb_list [379, 381, 383, 385, 387, 389, 391] (by decide +kernel) (by decide +kernel)
theorem iX4 : ∀ w ∈ wsX40, w ∈ TBg := tb_list [227, 229, 231, 233, 235, 237] (by decide +kernel) (by decide +kernel)
theorem iX5 : ∀ w ∈ wsX50, w ∈ TBg := tb_list [138, 140, 142, 144, 146] (by decide +kernel) (by decide +kernel)
theorem iX6 : ∀ w ∈ wsX60, w ∈ TBg := tb_list [488, 490, 492, 494, 496, 498, 500, 502, 504, 506, 508] (by decide +kernel) (by decide +kernel)
theorem iX7 : ∀ w ∈ wsX70, w ∈ TBg := tb_list [308, 310, 312, 314, 316] (by decide +kernel) (by decide +kernel)
theorem iX8 : ∀ w ∈ wsX80, w ∈ TBg := tb_list [173, 175, 177] (by decide +kernel) (by decide +kernel)
theorem iX9 : ∀ w ∈ wsX90, w ∈ TBg := tb_list [271, 273, 275, 277, 279, 281, 283, 285, 287] (by decide +kernel) (by decide +kernel)
theorem iX10 : ∀ w ∈ wsX100, w ∈ TBg := tb_list [335, 337, 339, 341, 343, 345] (by decide +kernel) (by decide +kernel)
theorem iX11 : ∀ w ∈ wsX110, w ∈ TBg := tb_list [421, 423, 425, 427, 429, 431, 433, 435, 437, 439, 441, 443, 445, 447] (by decide +kernel) (by decide +kernel)
theorem iX12 : ∀ w ∈ wsX120, w ∈ TBg := tb_list [1075, 1077, 1079, 1081, 1083, 1085, 1087, 1089, 1091, 1093, 1095, 1097, 1099, 1101, 1103, 1105, 1107, 1109, 1111, 1113, 1115, 1117, 1119, 1121, 1123, 1125, 1127, 1129, 1131, 1133, 1135, 1137, 1139, 1141, 1143, 1145, 1147, 1149, 1151, 1153, 1155, 1157, 1159, 1161, 1163, 1165, 1167, 1169, 1171, 1173, 1175, 1177, 1179, 1181, 1183, 1185, 1187, 1189] (by decide +kernel) (by decide +kernel)
