theorem k_1096 : (Cond.instantiable RX11 14) ∈ TBg := tb_mem 106 (by decide +kernel) (by decide +kernel)
theorem k_1097 : (Cond.instantiable RX12 58) ∈ TBg := tb_mem 1008 (by decide +kernel) (by decide +kernel)
theorem k_1098 : (Cond.initialized "java/lang/String") ∈ TBg := tb_mem 98 (by decide +kernel) (by decide +kernel)
theorem k_1099 : (Cond.initialized "jdk/internal/util/Preconditions") ∈ TBg := tb_mem 100 (by decide +kernel) (by decide +kernel)
theorem k_1100 : (Cond.classLink RL 7 RX11) ∈ TBg := tb_mem 105 (by decide +kernel) (by decide +kernel)
theorem k_1101 : (Cond.code yX11_init cX11_init 2 none) ∈ TBg := tb_mem 109 (by decide +kernel) (by decide +kernel)
theorem k_1102 : (Cond.methodLink RL 9 yX11_init) ∈ TBg := tb_mem 107 (by decide +kernel) (by decide +kernel)
theorem k_1103 : (Cond.instanceMethod yX11_init) ∈ TBg := tb_mem 108 (by decide +kernel) (by decide +kernel)
theorem k_1104 : (Cond.classLink RL 10 RX12) ∈ TBg := tb_mem 1007 (by decide +kernel) (by decide +kernel)
theorem k_1105 : (Cond.code yX12_init cX12_init 2 none) ∈ TBg := tb_mem 1011 (by decide +kernel) (by decide +kernel)
theorem k_1106 : (Cond.methodLink RL 12 yX12_init) ∈ TBg := tb_mem 1009 (by decide +kernel) (by decide +kernel)
theorem k_1107 : (Cond.instanceMethod yX12_init) ∈ TBg := tb_mem 1010 (by decide +kernel) (by decide +kernel)
theorem dL_law_0 : decode code 0 = .ok (.new 7, 3) := by decide +kernel
theorem dL_law_3 : decode code 3 = .ok (.dup, 1) := by decide +kernel
theorem dL_law_4 : decode code 4 = .ok (.invokespecial 9, 3) := by decide +kernel
theorem dL_law_7 : decode code 7 = .ok (.astore_n 1, 1) := by decide +kernel
theorem dL_law_8 : decode code 8 = .ok (.new 10, 3) := by decide +kernel
theorem dL_law_11 : decode code 11 = .ok (.dup, 1) := by decide +kernel
theorem dL_law_12 : decode code 12 = .ok (.invokespecial 12, 3) := by decide +kernel
theorem dL_law_15 : decode code 15 = .ok (.astore_n 2, 1) := by decide +kernel
theorem dL_law_16 : decode code 16 = .ok (.iconst 0, 1) := by decide +kernel
theorem dL_law_17 : decode code 17 = .ok (.istore_n 3, 1) := by decide +kernel
theorem tbl_list {ws : List Cond} (ps : List Nat) (h : ws = ps.filterMap (fun i => lw_tbl[i]?)) : ∀ w ∈ ws, w ∈ lw_tbl := fun w hw => by
  rw [h] at hw
  obtain ⟨i, -, hi⟩ := List.mem_filterMap.mp hw
  exact List.mem_of_getElem? hi
theorem nst_in : ∀ w ∈ nst, w ∈ lw_tbl := tbl_list [299, 262, 244, 172, 248, 187, 190, 305, 255, 270, 303, 301, 162, 165, 259, 307, 334, 267, 484, 487, 169, 164, 161, 250, 167, 251, 241, 253, 243, 171, 219, 221, 189, 193, 195, 197, 261, 257, 215, 218, 264, 135, 220, 222, 269, 266, 252, 246, 242, 170, 168, 191, 134, 216, 224, 226, 198, 254, 258, 292, 321, 324, 350, 366, 396, 127, 182, 211] (by decide +kernel)
set_option maxRecDepth 100000 in
theorem sr_in : (Cond.stringRef RX6 200 wdT) ∈ lw_tbl := List.mem_of_getElem? (i := 536) rfl
set_option maxRecDepth 100000 in
theorem wd_eq : ((flatC (Jvm.Cond.and given_1 narrow_1)).drop 74).take 120 = (List.range 120).map (fun j => Cond.eq (.elem (.field (.string "TuneLocks$Reader" 200) "java/lang/String" "value" "[B") (.int (Int32.ofNat j))) (.int (wdB.getD j 0))) := rfl
theorem wd_in (j : Nat) (hj : j < 120) : (Cond.eq (.elem (.field (.string "TuneLocks$Reader" 200) "java/lang/String" "value" "[B") (.int (Int32.ofNat j))) (.int (wdB.getD j 0))) ∈ flatC (Jvm.Cond.and given_1 narrow_1) := by
  have h : (Cond.eq (.elem (.field (.string "TuneLocks$Reader" 200) "java/lang/String" "value" "[B") (.int (Int32.ofNat j))) (.int (wdB.getD j 0))) ∈ (List.range 120).map (fun j => Cond.eq (.elem (.field (.string "TuneLocks$Reader" 200) "java/lang/String" "value" "[B") (.int (Int32.ofNat j))) (.int (wdB.getD j 0))) := List.mem_map.mpr ⟨j, List.mem_range.mpr hj, rfl⟩
  rw [← wd_eq] at h
  exact List.mem_of_mem_drop (List.mem_of_mem_take h)
