section LAWS
variable {p : Program} {e : Env} {s : State} {m : MethodId} {below : List Frame} {meth : Method} {c : Code} {b N9 : Nat} {xs : Nat → Int32} {G : va_G} {cy : Nat → ClassId} {x mo : Nat} {L : List Nat} {K : Nat → Nat} {h : Nat → Nat} {tq qq wq : Nat} {fo : Option Nat}
set_option maxHeartbeats 4000000 in
set_option maxRecDepth 100000 in
theorem law_0 (l : Launch) (hx : p.tables.exec = Jvm.exec) (hb : c.code = code) (hr : meth.sig.returnType = ret) (hml : c.maxLocals = 4) (hown : s.vm.findClass RL = some m.cls) (ht : ∀ w ∈ TBg, w.before #[Value.ref b] s = true) (hX : va_X b N9 xs s s.heap) (hbl : b < s.heap.size) (hlocks : meth.locks = false) (hK : va_K G vwCl (TY cy) s) (hN : NK s) (hXK : XK cy tq qq wq fo (fun q : Nat => s.heap.size ≤ q) s) (hx1 : x ∈ L) (hx2 : K x = 0) (hUX : ∀ z, K z = 0 → z = x) (hN9 : N9 ≤ 3072) {i : Int32} {T : Int} {H : Heap} {locs : List Loc} {ls : Array Slot} {cells slots : Nat} (hi0 : 0 ≤ i.toInt) (hi1 : i.toInt + 6 ≤ N9) (hT : 0 ≤ T ∧ T ≤ 100000) (hLI : LI G cy s L K mo h T H locs) (hc1 : cells + 1 ≤ room_1.cells ∧ slots + 11 ≤ room_1.slots) (hl : lv_has ls 4 [(3, .int i), (2, .ref mo), (1, .ref x), (0, .ref b)]) (kk : ∀ (T9 : Int) (H : Heap) (locs : List Loc), 0 ≤ T9 ∧ T9 ≤ 100000 → LI G cy s L K mo h T9 H locs → W p l e room_1 s m #[Value.ref b] below meth c H locs (cells + 1) (slots + 11) (lw_Z below #[Value.ref b] s) (F0 m 1211 ls [])) : W p l e room_1 s m #[Value.ref b] below meth c H locs cells slots (lw_Z below #[Value.ref b] s) (F0 m 172 ls []) := by
  obtain ⟨R, I, J, E, B, v, nm, f, g, hRT, hI, hE, hv, hf, hR, hL, hP, hD, hS⟩ := hLI
  have hA : ∀ q : Nat, s.heap.size ≤ q → (fun q : Nat => s.heap.size ≤ q) q := fun _ h => h
  have hbA : ¬ (fun q : Nat => s.heap.size ≤ q) b := Nat.not_le.mpr hbl
  have hc0 : cells + 0 ≤ room_1.cells ∧ slots + 0 ≤ room_1.slots := ⟨Nat.le_trans (Nat.le_add_right _ _) hc1.1, Nat.le_trans (Nat.le_add_right _ _) hc1.2⟩
  refine lv_aload_n hx hb dL_law_172 rfl (lv_at hl 2 rfl) ?_
  refine lv_aload_n hx hb dL_law_173 rfl (lv_at hl 3 rfl) ?_
  refine lv_iload_n hx hb dL_law_174 rfl (lv_at hl 0 rfl) ?_
  refine lv_iconst (v := 1) hx hb dL_law_175 (by decide) ?_
  refine lv_iadd hx hb dL_law_176 ?_
  refine lv_topi (fun w1 ew1 => ?_)
  have hw1 : vp_in w1 N9 := vi_in (k := 1) (by decide) ew1 (by omega) (by omega) hN9
  refine va_sld hx hb hX hbl hbA hS hw1 dL_law_177 ?_
  refine ow_top (xs (i + 1).toNatClampNeg) (by rw [ew1]) ?_
  skip
  refine lv_aload_n hx hb dL_law_178 rfl (lv_at hl 3 rfl) ?_
  refine lv_iload_n hx hb dL_law_179 rfl (lv_at hl 0 rfl) ?_
  refine lv_iconst (v := 2) hx hb dL_law_180 (by decide) ?_
  refine lv_iadd hx hb dL_law_181 ?_
  refine lv_topi (fun w2 ew2 => ?_)
  have hw2 : vp_in w2 N9 := vi_in (k := 2) (by decide) ew2 (by omega) (by omega) hN9
  refine va_sld hx hb hX hbl hbA hS hw2 dL_law_182 ?_
  refine ow_top (xs (i + 2).toNatClampNeg) (by rw [ew2]) ?_
  skip
  refine lv_aload_n hx hb dL_law_183 rfl (lv_at hl 3 rfl) ?_
  refine lv_iload_n hx hb dL_law_184 rfl (lv_at hl 0 rfl) ?_
  refine lv_iconst (v := 3) hx hb dL_law_185 (by decide) ?_
  refine lv_iadd hx hb dL_law_186 ?_
  refine lv_topi (fun w3 ew3 => ?_)
  have hw3 : vp_in w3 N9 := vi_in (k := 3) (by decide) ew3 (by omega) (by omega) hN9
  refine va_sld hx hb hX hbl hbA hS hw3 dL_law_187 ?_
  refine ow_top (xs (i + 3).toNatClampNeg) (by rw [ew3]) ?_
  skip
  refine lv_aload_n hx hb dL_law_188 rfl (lv_at hl 3 rfl) ?_
  refine lv_iload_n hx hb dL_law_189 rfl (lv_at hl 0 rfl) ?_
  refine lv_iconst (v := 4) hx hb dL_law_190 (by decide) ?_
  refine lv_iadd hx hb dL_law_191 ?_
  refine lv_topi (fun w4 ew4 => ?_)
  have hw4 : vp_in w4 N9 := vi_in (k := 4) (by decide) ew4 (by omega) (by omega) hN9
  refine va_sld hx hb hX hbl hbA hS hw4 dL_law_192 ?_
  refine ow_top (xs (i + 4).toNatClampNeg) (by rw [ew4]) ?_
  skip
  refine lv_aload_n hx hb dL_law_193 rfl (lv_at hl 3 rfl) ?_
  refine lv_iload_n hx hb dL_law_194 rfl (lv_at hl 0 rfl) ?_
  refine lv_iconst (v := 5) hx hb dL_law_195 (by decide) ?_
  refine lv_iadd hx hb dL_law_196 ?_
  refine lv_topi (fun w5 ew5 => ?_)
  have hw5 : vp_in w5 N9 := vi_in (k := 5) (by decide) ew5 (by omega) (by omega) hN9
  refine va_sld hx hb hX hbl hbA hS hw5 dL_law_197 ?_
  refine ow_top (xs (i + 5).toNatClampNeg) (by rw [ew5]) ?_
  skip
  have hPD := fr_left hP hD
  have hFl := fr_leftF hD hS hA
  refine va_calli (va_runV (As := [.int (xs (i + 1).toNatClampNeg), .int (xs (i + 2).toNatClampNeg), .int (xs (i + 3).toNatClampNeg), .int (xs (i + 4).toNatClampNeg), .int (xs (i + 5).toNatClampNeg)]) (rest := []) ⟨hx, hb, hml, hown, ht⟩ (x_feed l G cy _ L K _ T _ _ _ _ x (xs (i + 1).toNatClampNeg) (xs (i + 2).toNatClampNeg) (xs (i + 3).toNatClampNeg) (xs (i + 4).toNatClampNeg) (xs (i + 5).toNatClampNeg) hRT hI hE hx1 hx2 ) (cwV 5 ht (gv k_855 k_856 k_857 k_521 k_854) rfl rfl rfl (by decide +kernel) ⟨Nat.le_of_ble_eq_true rfl, Nat.le_of_ble_eq_true rfl⟩) ⟨En.blind, cr_0 hK hPD.1 hx1 hx2, fun U hU hW => ⟨rfl, En.of hU hW hPD.1 hK hPD.2 hN⟩⟩ rfl rfl hl.1 rfl (lv_room (Nat.le_of_ble_eq_true rfl)) dL_law_198 hc0) hS (fun q _ h => hFl q h) hFl (fun r6 u7 t9 H locs ht9 hvm hw hB hz1 hk1 hS => ?_)
  refine W.widen (k := cells) (n := slots) (Nat.le_refl _) (Nat.le_refl _) ?_
  obtain ⟨hP1, hD1⟩ := hB
  rw [ht9] at hP1
  obtain ⟨hP, hD⟩ := fr_l hP hD hFl hk1 hP1 hD1
  have hI := hw.1
  have hE := hw.2.1
  clear hPD hFl hz1 hk1 hw ht9 hvm hP1 hD1
  refine lv_pop hx hb dL_law_201 rfl ?_
  refine lv_aload_n hx hb dL_law_202 rfl (lv_at hl 1 rfl) ?_
  refine lv_aload_n hx hb dL_law_203 rfl (lv_at hl 3 rfl) ?_
  refine lv_iload_n hx hb dL_law_204 rfl (lv_at hl 0 rfl) ?_
  refine lv_iconst (v := 1) hx hb dL_law_205 (by decide) ?_
  refine lv_iadd hx hb dL_law_206 ?_
  refine lv_topi (fun w8 ew8 => ?_)
  have hw8 : vp_in w8 N9 := vi_in (k := 1) (by decide) ew8 (by omega) (by omega) hN9
  refine va_sld hx hb hX hbl hbA hS hw8 dL_law_207 ?_
  refine ow_top (xs (i + 1).toNatClampNeg) (by rw [ew8]) ?_
  skip
  refine lv_aload_n hx hb dL_law_208 rfl (lv_at hl 3 rfl) ?_
  refine lv_iload_n hx hb dL_law_209 rfl (lv_at hl 0 rfl) ?_
  refine lv_iconst (v := 2) hx hb dL_law_210 (by decide) ?_
  refine lv_iadd hx hb dL_law_211 ?_
  refine lv_topi (fun w9 ew9 => ?_)
  have hw9 : vp_in w9 N9 := vi_in (k := 2) (by decide) ew9 (by omega) (by omega) hN9
  refine va_sld hx hb hX hbl hbA hS hw9 dL_law_212 ?_
  refine ow_top (xs (i + 2).toNatClampNeg) (by rw [ew9]) ?_
  skip
  refine lv_aload_n hx hb dL_law_213 rfl (lv_at hl 3 rfl) ?_
  refine lv_iload_n hx hb dL_law_214 rfl (lv_at hl 0 rfl) ?_
  refine lv_iconst (v := 3) hx hb dL_law_215 (by decide) ?_
  refine lv_iadd hx hb dL_law_216 ?_
  refine lv_topi (fun w10 ew10 => ?_)
  have hw10 : vp_in w10 N9 := vi_in (k := 3) (by decide) ew10 (by omega) (by omega) hN9
  refine va_sld hx hb hX hbl hbA hS hw10 dL_law_217 ?_
  refine ow_top (xs (i + 3).toNatClampNeg) (by rw [ew10]) ?_
  skip
  refine lv_aload_n hx hb dL_law_218 rfl (lv_at hl 3 rfl) ?_
  refine lv_iload_n hx hb dL_law_219 rfl (lv_at hl 0 rfl) ?_
  refine lv_iconst (v := 4) hx hb dL_law_220 (by decide) ?_
  refine lv_iadd hx hb dL_law_221 ?_
  refine lv_topi (fun w11 ew11 => ?_)
  have hw11 : vp_in w11 N9 := vi_in (k := 4) (by decide) ew11 (by omega) (by omega) hN9
  refine va_sld hx hb hX hbl hbA hS hw11 dL_law_222 ?_
  refine ow_top (xs (i + 4).toNatClampNeg) (by rw [ew11]) ?_
  skip
  refine lv_aload_n hx hb dL_law_223 rfl (lv_at hl 3 rfl) ?_
  refine lv_iload_n hx hb dL_law_224 rfl (lv_at hl 0 rfl) ?_
  refine lv_iconst (v := 5) hx hb dL_law_225 (by decide) ?_
  refine lv_iadd hx hb dL_law_226 ?_
  refine lv_topi (fun w12 ew12 => ?_)
  have hw12 : vp_in w12 N9 := vi_in (k := 5) (by decide) ew12 (by omega) (by omega) hN9
  refine va_sld hx hb hX hbl hbA hS hw12 dL_law_227 ?_
  refine ow_top (xs (i + 5).toNatClampNeg) (by rw [ew12]) ?_
  skip
  have hPD := fr_left (fr_swP hP) (fr_swD hD)
  have hFl := fr_leftF (fr_swD hD) hS hA
  refine va_calli (va_runV (As := [.int (xs (i + 1).toNatClampNeg), .int (xs (i + 2).toNatClampNeg), .int (xs (i + 3).toNatClampNeg), .int (xs (i + 4).toNatClampNeg), .int (xs (i + 5).toNatClampNeg)]) (rest := []) ⟨hx, hb, hml, hown, ht⟩ (m_feed l G cy _ mo h T _ _ _ _ (xs (i + 1).toNatClampNeg) (xs (i + 2).toNatClampNeg) (xs (i + 3).toNatClampNeg) (xs (i + 4).toNatClampNeg) (xs (i + 5).toNatClampNeg) hv hf hR hL ) (cwV 5 ht (gv k_859 k_860 k_861 k_61 k_858) rfl rfl rfl (by decide +kernel) ⟨Nat.le_of_ble_eq_true rfl, Nat.le_of_ble_eq_true rfl⟩) ⟨En.blind, va_recv hK hPD.1 (ci := 12) (q0 := 0) rfl rfl, fun U hU hW => ⟨rfl, En.of hU hW hPD.1 hK hPD.2 hN⟩⟩ rfl rfl hl.1 rfl (lv_room (Nat.le_of_ble_eq_true rfl)) dL_law_228 hc0) hS (fun q _ h => hFl q h) hFl (fun r13 u14 t9 H locs ht9 hvm hw hB hz1 hk1 hS => ?_)
  refine W.widen (k := cells) (n := slots) (Nat.le_refl _) (Nat.le_refl _) ?_
  obtain ⟨hP1, hD1⟩ := hB
  rw [ht9] at hP1
  obtain ⟨hP, hD⟩ := fr_r hP hD hFl hk1 hP1 hD1
  have hv := hw.1
  have hf := hw.2.1
  have hR := hw.2.2.1
  have hL := hw.2.2.2.1
  clear hPD hFl hz1 hk1 hw ht9 hvm hP1 hD1
  refine lv_pop hx hb dL_law_231 rfl ?_
  refine lv_goto (tgt := 1211) hx hb dL_law_232 (by decide) ?_
  refine W.widen (k := cells + 1) (n := slots + 11) (by omega) (by omega) ?_
  exact kk T _ _ hT ⟨_, _, _, _, _, _, _, _, _, hRT, hI, hE, hv, hf, hR, hL, hP, hD, hS⟩
set_option maxHeartbeats 4000000 in
set_option maxRecDepth 100000 in
theorem law_1 (l : Launch) (hx : p.tables.exec = Jvm.exec) (hb : c.code = code) (hr : meth.sig.returnType = ret) (hml : c.maxLocals = 4) (hown : s.vm.findClass RL = some m.cls) (ht : ∀ w ∈ TBg, w.before #[Value.ref b] s = true) (hX : va_X b N9 xs s s.heap) (hbl : b < s.heap.size) (hlocks : meth.locks = false) (hK : va_K G vwCl (TY cy) s) (hN : NK s) (hXK : XK cy tq qq wq fo (fun q : Nat => s.heap.size ≤ q) s) (hx1 : x ∈ L) (hx2 : K x = 0) (hUX : ∀ z, K z = 0 → z = x) (hN9 : N9 ≤ 3072) {i : Int32} {T : Int} {H : Heap} {locs : List Loc} {ls : Array Slot} {cells slots : Nat} (hi0 : 0 ≤ i.toInt) (hi1 : i.toInt + 6 ≤ N9) (hT : 0 ≤ T ∧ T ≤ 100000) (hLI : LI G cy s L K mo h T H locs) (hc1 : cells + 1 ≤ room_1.cells ∧ slots + 11 ≤ room_1.slots) (hl : lv_has ls 4 [(3, .int i), (2, .ref mo), (1, .ref x), (0, .ref b)]) (kk : ∀ (T9 : Int) (H : Heap) (locs : List Loc), 0 ≤ T9 ∧ T9 ≤ 100000 → LI G cy s L K mo h T9 H locs → W p l e room_1 s m #[Value.ref b] below meth c H locs (cells + 1) (slots + 11) (lw_Z below #[Value.ref b] s) (F0 m 1211 ls [])) : W p l e room_1 s m #[Value.ref b] below meth c H locs cells slots (lw_Z below #[Value.ref b] s) (F0 m 235 ls []) := by
  obtain ⟨R, I, J, E, B, v, nm, f, g, hRT, hI, hE, hv, hf, hR, hL, hP, hD, hS⟩ := hLI
  have hA : ∀ q : Nat, s.heap.size ≤ q → (fun q : Nat => s.heap.size ≤ q) q := fun _ h => h
  have hbA : ¬ (fun q : Nat => s.heap.size ≤ q) b := Nat.not_le.mpr hbl
  have hc0 : cells + 0 ≤ room_1.cells ∧ slots + 0 ≤ room_1.slots := ⟨Nat.le_trans (Nat.le_add_right _ _) hc1.1, Nat.le_trans (Nat.le_add_right _ _) hc1.2⟩
  refine lv_aload_n hx hb dL_law_235 rfl (lv_at hl 2 rfl) ?_
  refine lv_aload_n hx hb dL_law_236 rfl (lv_at hl 3 rfl) ?_
  refine lv_iload_n hx hb dL_law_237 rfl (lv_at hl 0 rfl) ?_
  refine lv_iconst (v := 1) hx hb dL_law_238 (by decide) ?_
  refine lv_iadd hx hb dL_law_239 ?_
  refine lv_topi (fun w1 ew1 => ?_)
  have hw1 : vp_in w1 N9 := vi_in (k := 1) (by decide) ew1 (by omega) (by omega) hN9
  refine va_sld hx hb hX hbl hbA hS hw1 dL_law_240 ?_
  refine ow_top (xs (i + 1).toNatClampNeg) (by rw [ew1]) ?_
  skip
  have hPD := fr_left hP hD
  have hFl := fr_leftF hD hS hA
  refine va_calli (va_runV (As := [.int (xs (i + 1).toNatClampNeg)]) (rest := []) ⟨hx, hb, hml, hown, ht⟩ (x_end l G cy _ L K _ T _ _ _ _ x (xs (i + 1).toNatClampNeg) hRT hI hE hx1 hx2 ) (cwV 1 ht (gv k_863 k_864 k_865 k_521 k_862) rfl rfl rfl (by decide +kernel) ⟨Nat.le_of_ble_eq_true rfl, Nat.le_of_ble_eq_true rfl⟩) ⟨En.blind, cr_0 hK hPD.1 hx1 hx2, fun U hU hW => ⟨rfl, En.of hU hW hPD.1 hK hPD.2 hN⟩⟩ rfl rfl hl.1 rfl (lv_room (Nat.le_of_ble_eq_true rfl)) dL_law_241 hc0) hS (fun q _ h => hFl q h) hFl (fun r2 u3 t9 H locs ht9 hvm hw hB hz1 hk1 hS => ?_)
  refine W.widen (k := cells) (n := slots) (Nat.le_refl _) (Nat.le_refl _) ?_
  obtain ⟨hP1, hD1⟩ := hB
  rw [ht9] at hP1
  obtain ⟨hP, hD⟩ := fr_l hP hD hFl hk1 hP1 hD1
  have hI := hw.1
  have hE := hw.2.1
  clear hPD hFl hz1 hk1 hw ht9 hvm hP1 hD1
  refine lv_pop hx hb dL_law_244 rfl ?_
  refine lv_aload_n hx hb dL_law_245 rfl (lv_at hl 1 rfl) ?_
  refine lv_aload_n hx hb dL_law_246 rfl (lv_at hl 3 rfl) ?_
  refine lv_iload_n hx hb dL_law_247 rfl (lv_at hl 0 rfl) ?_
  refine lv_iconst (v := 1) hx hb dL_law_248 (by decide) ?_
  refine lv_iadd hx hb dL_law_249 ?_
  refine lv_topi (fun w4 ew4 => ?_)
  have hw4 : vp_in w4 N9 := vi_in (k := 1) (by decide) ew4 (by omega) (by omega) hN9
  refine va_sld hx hb hX hbl hbA hS hw4 dL_law_250 ?_
  refine ow_top (xs (i + 1).toNatClampNeg) (by rw [ew4]) ?_
  skip
  have hPD := fr_left (fr_swP hP) (fr_swD hD)
  have hFl := fr_leftF (fr_swD hD) hS hA
  refine va_calli (va_runV (As := [.int (xs (i + 1).toNatClampNeg)]) (rest := []) ⟨hx, hb, hml, hown, ht⟩ (m_end l G cy _ mo h T _ _ _ _ (xs (i + 1).toNatClampNeg) hv hf hR hL ) (cwV 1 ht (gv k_867 k_868 k_869 k_61 k_866) rfl rfl rfl (by decide +kernel) ⟨Nat.le_of_ble_eq_true rfl, Nat.le_of_ble_eq_true rfl⟩) ⟨En.blind, va_recv hK hPD.1 (ci := 12) (q0 := 0) rfl rfl, fun U hU hW => ⟨rfl, En.of hU hW hPD.1 hK hPD.2 hN⟩⟩ rfl rfl hl.1 rfl (lv_room (Nat.le_of_ble_eq_true rfl)) dL_law_251 hc0) hS (fun q _ h => hFl q h) hFl (fun r5 u6 t9 H locs ht9 hvm hw hB hz1 hk1 hS => ?_)
  refine W.widen (k := cells) (n := slots) (Nat.le_refl _) (Nat.le_refl _) ?_
  obtain ⟨hP1, hD1⟩ := hB
  rw [ht9] at hP1
  obtain ⟨hP, hD⟩ := fr_r hP hD hFl hk1 hP1 hD1
  have hv := hw.1
  have hf := hw.2.1
  have hR := hw.2.2.1
  have hL := hw.2.2.2.1
  clear hPD hFl hz1 hk1 hw ht9 hvm hP1 hD1
  refine lv_pop hx hb dL_law_254 rfl ?_
  refine lv_goto (tgt := 1211) hx hb dL_law_255 (by decide) ?_
  refine W.widen (k := cells + 1) (n := slots + 11) (by omega) (by omega) ?_
  exact kk T _ _ hT ⟨_, _, _, _, _, _, _, _, _, hRT, hI, hE, hv, hf, hR, hL, hP, hD, hS⟩
set_option maxHeartbeats 4000000 in
set_option maxRecDepth 100000 in
theorem law_2 (l : Launch) (hx : p.tables.exec = Jvm.exec) (hb : c.code = code) (hr : meth.sig.returnType = ret) (hml : c.maxLocals = 4) (hown : s.vm.findClass RL = some m.cls) (ht : ∀ w ∈ TBg, w.before #[Value.ref b] s = true) (hX : va_X b N9 xs s s.heap) (hbl : b < s.heap.size) (hlocks : meth.locks = false) (hK : va_K G vwCl (TY cy) s) (hN : NK s) (hXK : XK cy tq qq wq fo (fun q : Nat => s.heap.size ≤ q) s) (hx1 : x ∈ L) (hx2 : K x = 0) (hUX : ∀ z, K z = 0 → z = x) (hN9 : N9 ≤ 3072) {i : Int32} {T : Int} {H : Heap} {locs : List Loc} {ls : Array Slot} {cells slots : Nat} (hi0 : 0 ≤ i.toInt) (hi1 : i.toInt + 6 ≤ N9) (hT : 0 ≤ T ∧ T ≤ 100000) (hLI : LI G cy s L K mo h T H locs) (hc1 : cells + 1 ≤ room_1.cells ∧ slots + 11 ≤ room_1.slots) (hl : lv_has ls 4 [(3, .int i), (2, .ref mo), (1, .ref x), (0, .ref b)]) (kk : ∀ (T9 : Int) (H : Heap) (locs : List Loc), 0 ≤ T9 ∧ T9 ≤ 100000 → LI G cy s L K mo h T9 H locs → W p l e room_1 s m #[Value.ref b] below meth c H locs (cells + 1) (slots + 11) (lw_Z below #[Value.ref b] s) (F0 m 1211 ls [])) : W p l e room_1 s m #[Value.ref b] below meth c H locs cells slots (lw_Z below #[Value.ref b] s) (F0 m 258 ls []) := by
  obtain ⟨R, I, J, E, B, v, nm, f, g, hRT, hI, hE, hv, hf, hR, hL, hP, hD, hS⟩ := hLI
  have hA : ∀ q : Nat, s.heap.size ≤ q → (fun q : Nat => s.heap.size ≤ q) q := fun _ h => h
  have hbA : ¬ (fun q : Nat => s.heap.size ≤ q) b := Nat.not_le.mpr hbl
  have hc0 : cells + 0 ≤ room_1.cells ∧ slots + 0 ≤ room_1.slots := ⟨Nat.le_trans (Nat.le_add_right _ _) hc1.1, Nat.le_trans (Nat.le_add_right _ _) hc1.2⟩
  refine lv_aload_n hx hb dL_law_258 rfl (lv_at hl 2 rfl) ?_
  have hPD := fr_left hP hD
  have hFl := fr_leftF hD hS hA
  refine va_calli (va_runV (As := []) (rest := []) ⟨hx, hb, hml, hown, ht⟩ (x_town l G cy _ tq qq wq fo L K _ T _ _ _ _ x  hRT hI hE hx1 hx2 ) (cwV 0 ht (gv k_871 k_872 k_873 k_521 k_870) rfl rfl rfl (by decide +kernel) ⟨Nat.le_of_ble_eq_true rfl, Nat.le_of_ble_eq_true rfl⟩) ⟨EnX.blind, cr_0 hK hPD.1 hx1 hx2, fun U hU hW => ⟨rfl, En.of hU hW hPD.1 hK hPD.2 hN, XK.of hXK hS hFl hU hW⟩⟩ rfl rfl hl.1 rfl (lv_room (Nat.le_of_ble_eq_true rfl)) dL_law_259 hc1) hS (fun q _ h => hFl q h) hFl (fun r1 u2 t9 H locs ht9 hvm hw hB hz1 hk1 hS => ?_)
  have hc0 := hc1
  obtain ⟨hP1, hD1⟩ := hB
  rw [ht9] at hP1
  obtain ⟨hP, hD⟩ := fr_l hP hD hFl hk1 hP1 hD1
  have hRT := hw.1
  have hI := hw.2.1
  have hE := hw.2.2.1
  clear hPD hFl hz1 hk1 hw ht9 hvm hP1 hD1
  refine lv_pop hx hb dL_law_262 rfl ?_
  refine lv_aload_n hx hb dL_law_263 rfl (lv_at hl 1 rfl) ?_
  have hPD := fr_left (fr_swP hP) (fr_swD hD)
  have hFl := fr_leftF (fr_swD hD) hS hA
  refine va_calli (va_runV (As := []) (rest := []) ⟨hx, hb, hml, hown, ht⟩ (m_town l G cy _ mo h T _ _ _ _  hv hf hR hL ) (cwV 0 ht (gv k_875 k_876 k_877 k_61 k_874) rfl rfl rfl (by decide +kernel) ⟨Nat.le_of_ble_eq_true rfl, Nat.le_of_ble_eq_true rfl⟩) ⟨En.blind, va_recv hK hPD.1 (ci := 12) (q0 := 0) rfl rfl, fun U hU hW => ⟨rfl, En.of hU hW hPD.1 hK hPD.2 hN⟩⟩ rfl rfl hl.1 rfl (lv_room (Nat.le_of_ble_eq_true rfl)) dL_law_264 hc0) hS (fun q _ h => hFl q h) hFl (fun r3 u4 t9 H locs ht9 hvm hw hB hz1 hk1 hS => ?_)
  refine W.widen (k := (cells + 1)) (n := (slots + 11)) (Nat.le_refl _) (Nat.le_refl _) ?_
  obtain ⟨hP1, hD1⟩ := hB
  rw [ht9] at hP1
  obtain ⟨hP, hD⟩ := fr_r hP hD hFl hk1 hP1 hD1
  have hv := hw.1
  have hf := hw.2.1
  have hR := hw.2.2.1
  have hL := hw.2.2.2.1
  clear hPD hFl hz1 hk1 hw ht9 hvm hP1 hD1
  refine lv_pop hx hb dL_law_267 rfl ?_
  refine lv_goto (tgt := 1211) hx hb dL_law_268 (by decide) ?_
  refine W.widen (k := cells + 1) (n := slots + 11) (by omega) (by omega) ?_
  exact kk T _ _ hT ⟨_, _, _, _, _, _, _, _, _, hRT, hI, hE, hv, hf, hR, hL, hP, hD, hS⟩
set_option maxHeartbeats 4000000 in
set_option maxRecDepth 100000 in
theorem law_3 (l : Launch) (hx : p.tables.exec = Jvm.exec) (hb : c.code = code) (hr : meth.sig.returnType = ret) (hml : c.maxLocals = 4) (hown : s.vm.findClass RL = some m.cls) (ht : ∀ w ∈ TBg, w.before #[Value.ref b] s = true) (hX : va_X b N9 xs s s.heap) (hbl : b < s.heap.size) (hlocks : meth.locks = false) (hK : va_K G vwCl (TY cy) s) (hN : NK s) (hXK : XK cy tq qq wq fo (fun q : Nat => s.heap.size ≤ q) s) (hx1 : x ∈ L) (hx2 : K x = 0) (hUX : ∀ z, K z = 0 → z = x) (hN9 : N9 ≤ 3072) {i : Int32} {T : Int} {H : Heap} {locs : List Loc} {ls : Array Slot} {cells slots : Nat} (hi0 : 0 ≤ i.toInt) (hi1 : i.toInt + 6 ≤ N9) (hT : 0 ≤ T ∧ T ≤ 100000) (hLI : LI G cy s L K mo h T H locs) (hc1 : cells + 1 ≤ room_1.cells ∧ slots + 11 ≤ room_1.slots) (hl : lv_has ls 4 [(3, .int i), (2, .ref mo), (1, .ref x), (0, .ref b)]) (kk : ∀ (T9 : Int) (H : Heap) (locs : List Loc), 0 ≤ T9 ∧ T9 ≤ 100000 → LI G cy s L K mo h T9 H locs → W p l e room_1 s m #[Value.ref b] below meth c H locs (cells + 1) (slots + 11) (lw_Z below #[Value.ref b] s) (F0 m 1211 ls [])) : W p l e room_1 s m #[Value.ref b] below meth c H locs cells slots (lw_Z below #[Value.ref b] s) (F0 m 271 ls []) := by
  obtain ⟨R, I, J, E, B, v, nm, f, g, hRT, hI, hE, hv, hf, hR, hL, hP, hD, hS⟩ := hLI
  have hA : ∀ q : Nat, s.heap.size ≤ q → (fun q : Nat => s.heap.size ≤ q) q := fun _ h => h
  have hbA : ¬ (fun q : Nat => s.heap.size ≤ q) b := Nat.not_le.mpr hbl
  have hc0 : cells + 0 ≤ room_1.cells ∧ slots + 0 ≤ room_1.slots := ⟨Nat.le_trans (Nat.le_add_right _ _) hc1.1, Nat.le_trans (Nat.le_add_right _ _) hc1.2⟩
  refine lv_aload_n hx hb dL_law_271 rfl (lv_at hl 2 rfl) ?_
  refine lv_aload_n hx hb dL_law_272 rfl (lv_at hl 3 rfl) ?_
  refine lv_iload_n hx hb dL_law_273 rfl (lv_at hl 0 rfl) ?_
  refine lv_iconst (v := 1) hx hb dL_law_274 (by decide) ?_
  refine lv_iadd hx hb dL_law_275 ?_
  refine lv_topi (fun w1 ew1 => ?_)
  have hw1 : vp_in w1 N9 := vi_in (k := 1) (by decide) ew1 (by omega) (by omega) hN9
  refine va_sld hx hb hX hbl hbA hS hw1 dL_law_276 ?_
  refine ow_top (xs (i + 1).toNatClampNeg) (by rw [ew1]) ?_
  skip
  have hPD := fr_left hP hD
  have hFl := fr_leftF hD hS hA
  have hFc := fr_new hS hA
  refine va_calli (va_runV (As := [.int (xs (i + 1).toNatClampNeg)]) (rest := []) ⟨hx, hb, hml, hown, ht⟩ (x_fault l G cy _ L K _ T _ _ _ _ x (xs (i + 1).toNatClampNeg) hRT hI hE hx1 hx2 ) (cwV 1 ht (gv k_879 k_880 k_881 k_521 k_878) rfl rfl rfl (by decide +kernel) ⟨Nat.le_of_ble_eq_true rfl, Nat.le_of_ble_eq_true rfl⟩) ⟨En.blind, cr_0 hK hPD.1 hx1 hx2, fun U hU hW => ⟨rfl, En.of hU hW hPD.1 hK hPD.2 hN⟩⟩ rfl rfl hl.1 rfl (lv_room (Nat.le_of_ble_eq_true rfl)) dL_law_277 hc0) hS (fun q _ h => hFc q h) hFc (fun r2 u3 t9 H locs ht9 hvm hw hB hz1 hk1 hS => ?_)
  refine W.widen (k := cells) (n := slots) (Nat.le_refl _) (Nat.le_refl _) ?_
  have hP := fr_keep hP hk1
  clear hPD hFl hz1 hk1 hw ht9 hvm hFc
  refine lv_pop hx hb dL_law_280 rfl ?_
  refine lv_aload_n hx hb dL_law_281 rfl (lv_at hl 1 rfl) ?_
  refine lv_aload_n hx hb dL_law_282 rfl (lv_at hl 3 rfl) ?_
  refine lv_iload_n hx hb dL_law_283 rfl (lv_at hl 0 rfl) ?_
  refine lv_iconst (v := 1) hx hb dL_law_284 (by decide) ?_
  refine lv_iadd hx hb dL_law_285 ?_
  refine lv_topi (fun w4 ew4 => ?_)
  have hw4 : vp_in w4 N9 := vi_in (k := 1) (by decide) ew4 (by omega) (by omega) hN9
  refine va_sld hx hb hX hbl hbA hS hw4 dL_law_286 ?_
  refine ow_top (xs (i + 1).toNatClampNeg) (by rw [ew4]) ?_
  skip
  have hPD := fr_left (fr_swP hP) (fr_swD hD)
  have hFl := fr_leftF (fr_swD hD) hS hA
  have hFc := fr_new hS hA
  refine va_calli (va_runV (As := [.int (xs (i + 1).toNatClampNeg)]) (rest := []) ⟨hx, hb, hml, hown, ht⟩ (m_fault l G cy _ mo h T _ _ _ _ (xs (i + 1).toNatClampNeg) hv hf hR hL ) (cwV 1 ht (gv k_883 k_884 k_885 k_61 k_882) rfl rfl rfl (by decide +kernel) ⟨Nat.le_of_ble_eq_true rfl, Nat.le_of_ble_eq_true rfl⟩) ⟨En.blind, va_recv hK hPD.1 (ci := 12) (q0 := 0) rfl rfl, fun U hU hW => ⟨rfl, En.of hU hW hPD.1 hK hPD.2 hN⟩⟩ rfl rfl hl.1 rfl (lv_room (Nat.le_of_ble_eq_true rfl)) dL_law_287 hc0) hS (fun q _ h => hFc q h) hFc (fun r5 u6 t9 H locs ht9 hvm hw hB hz1 hk1 hS => ?_)
  refine W.widen (k := cells) (n := slots) (Nat.le_refl _) (Nat.le_refl _) ?_
  have hP := fr_keep hP hk1
  clear hPD hFl hz1 hk1 hw ht9 hvm hFc
  refine lv_pop hx hb dL_law_290 rfl ?_
  refine lv_goto (tgt := 1211) hx hb dL_law_291 (by decide) ?_
  refine W.widen (k := cells + 1) (n := slots + 11) (by omega) (by omega) ?_
  exact kk T _ _ hT ⟨_, _, _, _, _, _, _, _, _, hRT, hI, hE, hv, hf, hR, hL, hP, hD, hS⟩
set_option maxHeartbeats 4000000 in
set_option maxRecDepth 100000 in
theorem law_4 (l : Launch) (hx : p.tables.exec = Jvm.exec) (hb : c.code = code) (hr : meth.sig.returnType = ret) (hml : c.maxLocals = 4) (hown : s.vm.findClass RL = some m.cls) (ht : ∀ w ∈ TBg, w.before #[Value.ref b] s = true) (hX : va_X b N9 xs s s.heap) (hbl : b < s.heap.size) (hlocks : meth.locks = false) (hK : va_K G vwCl (TY cy) s) (hN : NK s) (hXK : XK cy tq qq wq fo (fun q : Nat => s.heap.size ≤ q) s) (hx1 : x ∈ L) (hx2 : K x = 0) (hUX : ∀ z, K z = 0 → z = x) (hN9 : N9 ≤ 3072) {i : Int32} {T : Int} {H : Heap} {locs : List Loc} {ls : Array Slot} {cells slots : Nat} (hi0 : 0 ≤ i.toInt) (hi1 : i.toInt + 6 ≤ N9) (hT : 0 ≤ T ∧ T ≤ 100000) (hLI : LI G cy s L K mo h T H locs) (hc1 : cells + 1 ≤ room_1.cells ∧ slots + 11 ≤ room_1.slots) (hl : lv_has ls 4 [(3, .int i), (2, .ref mo), (1, .ref x), (0, .ref b)]) (kk : ∀ (T9 : Int) (H : Heap) (locs : List Loc), 0 ≤ T9 ∧ T9 ≤ 100000 → LI G cy s L K mo h T9 H locs → W p l e room_1 s m #[Value.ref b] below meth c H locs (cells + 1) (slots + 11) (lw_Z below #[Value.ref b] s) (F0 m 1211 ls [])) : W p l e room_1 s m #[Value.ref b] below meth c H locs cells slots (lw_Z below #[Value.ref b] s) (F0 m 294 ls []) := by
  obtain ⟨R, I, J, E, B, v, nm, f, g, hRT, hI, hE, hv, hf, hR, hL, hP, hD, hS⟩ := hLI
  have hA : ∀ q : Nat, s.heap.size ≤ q → (fun q : Nat => s.heap.size ≤ q) q := fun _ h => h
  have hbA : ¬ (fun q : Nat => s.heap.size ≤ q) b := Nat.not_le.mpr hbl
  have hc0 : cells + 0 ≤ room_1.cells ∧ slots + 0 ≤ room_1.slots := ⟨Nat.le_trans (Nat.le_add_right _ _) hc1.1, Nat.le_trans (Nat.le_add_right _ _) hc1.2⟩
  refine lv_aload_n hx hb dL_law_294 rfl (lv_at hl 2 rfl) ?_
  refine lv_aload_n hx hb dL_law_295 rfl (lv_at hl 3 rfl) ?_
  refine lv_iload_n hx hb dL_law_296 rfl (lv_at hl 0 rfl) ?_
  refine lv_iconst (v := 1) hx hb dL_law_297 (by decide) ?_
  refine lv_iadd hx hb dL_law_298 ?_
  refine lv_topi (fun w1 ew1 => ?_)
  have hw1 : vp_in w1 N9 := vi_in (k := 1) (by decide) ew1 (by omega) (by omega) hN9
  refine va_sld hx hb hX hbl hbA hS hw1 dL_law_299 ?_
  refine ow_top (xs (i + 1).toNatClampNeg) (by rw [ew1]) ?_
  skip
  have hPD := fr_left hP hD
  have hFl := fr_leftF hD hS hA
  have hFc := fr_new hS hA
  refine va_calli (va_runV (As := [.int (xs (i + 1).toNatClampNeg)]) (rest := []) ⟨hx, hb, hml, hown, ht⟩ (x_notes l G cy _ L K _ T _ _ _ _ x (xs (i + 1).toNatClampNeg) hRT hI hE hx1 hx2 ) (cwV 1 ht (gv k_887 k_888 k_889 k_521 k_886) rfl rfl rfl (by decide +kernel) ⟨Nat.le_of_ble_eq_true rfl, Nat.le_of_ble_eq_true rfl⟩) ⟨En.blind, cr_0 hK hPD.1 hx1 hx2, fun U hU hW => ⟨rfl, En.of hU hW hPD.1 hK hPD.2 hN⟩⟩ rfl rfl hl.1 rfl (lv_room (Nat.le_of_ble_eq_true rfl)) dL_law_300 hc0) hS (fun q _ h => hFc q h) hFc (fun r2 u3 t9 H locs ht9 hvm hw hB hz1 hk1 hS => ?_)
  refine W.widen (k := cells) (n := slots) (Nat.le_refl _) (Nat.le_refl _) ?_
  have hP := fr_keep hP hk1
  clear hPD hFl hz1 hk1 hw ht9 hvm hFc
  refine lv_pop hx hb dL_law_303 rfl ?_
  refine lv_aload_n hx hb dL_law_304 rfl (lv_at hl 1 rfl) ?_
  refine lv_aload_n hx hb dL_law_305 rfl (lv_at hl 3 rfl) ?_
  refine lv_iload_n hx hb dL_law_306 rfl (lv_at hl 0 rfl) ?_
  refine lv_iconst (v := 1) hx hb dL_law_307 (by decide) ?_
  refine lv_iadd hx hb dL_law_308 ?_
  refine lv_topi (fun w4 ew4 => ?_)
  have hw4 : vp_in w4 N9 := vi_in (k := 1) (by decide) ew4 (by omega) (by omega) hN9
  refine va_sld hx hb hX hbl hbA hS hw4 dL_law_309 ?_
  refine ow_top (xs (i + 1).toNatClampNeg) (by rw [ew4]) ?_
  skip
  have hPD := fr_left (fr_swP hP) (fr_swD hD)
  have hFl := fr_leftF (fr_swD hD) hS hA
  have hFc := fr_new hS hA
  refine va_calli (va_runV (As := [.int (xs (i + 1).toNatClampNeg)]) (rest := []) ⟨hx, hb, hml, hown, ht⟩ (m_notes l G cy _ mo h T _ _ _ _ (xs (i + 1).toNatClampNeg) hv hf hR hL ) (cwV 1 ht (gv k_891 k_892 k_893 k_61 k_890) rfl rfl rfl (by decide +kernel) ⟨Nat.le_of_ble_eq_true rfl, Nat.le_of_ble_eq_true rfl⟩) ⟨En.blind, va_recv hK hPD.1 (ci := 12) (q0 := 0) rfl rfl, fun U hU hW => ⟨rfl, En.of hU hW hPD.1 hK hPD.2 hN⟩⟩ rfl rfl hl.1 rfl (lv_room (Nat.le_of_ble_eq_true rfl)) dL_law_310 hc0) hS (fun q _ h => hFc q h) hFc (fun r5 u6 t9 H locs ht9 hvm hw hB hz1 hk1 hS => ?_)
  refine W.widen (k := cells) (n := slots) (Nat.le_refl _) (Nat.le_refl _) ?_
  have hP := fr_keep hP hk1
  clear hPD hFl hz1 hk1 hw ht9 hvm hFc
  refine lv_pop hx hb dL_law_313 rfl ?_
  refine lv_goto (tgt := 1211) hx hb dL_law_314 (by decide) ?_
  refine W.widen (k := cells + 1) (n := slots + 11) (by omega) (by omega) ?_
  exact kk T _ _ hT ⟨_, _, _, _, _, _, _, _, _, hRT, hI, hE, hv, hf, hR, hL, hP, hD, hS⟩
set_option maxHeartbeats 4000000 in
set_option maxRecDepth 100000 in
theorem law_5 (l : Launch) (hx : p.tables.exec = Jvm.exec) (hb : c.code = code) (hr : meth.sig.returnType = ret) (hml : c.maxLocals = 4) (hown : s.vm.findClass RL = some m.cls) (ht : ∀ w ∈ TBg, w.before #[Value.ref b] s = true) (hX : va_X b N9 xs s s.heap) (hbl : b < s.heap.size) (hlocks : meth.locks = false) (hK : va_K G vwCl (TY cy) s) (hN : NK s) (hXK : XK cy tq qq wq fo (fun q : Nat => s.heap.size ≤ q) s) (hx1 : x ∈ L) (hx2 : K x = 0) (hUX : ∀ z, K z = 0 → z = x) (hN9 : N9 ≤ 3072) {i : Int32} {T : Int} {H : Heap} {locs : List Loc} {ls : Array Slot} {cells slots : Nat} (hi0 : 0 ≤ i.toInt) (hi1 : i.toInt + 6 ≤ N9) (hT : 0 ≤ T ∧ T ≤ 100000) (hLI : LI G cy s L K mo h T H locs) (hc1 : cells + 1 ≤ room_1.cells ∧ slots + 11 ≤ room_1.slots) (hl : lv_has ls 4 [(3, .int i), (2, .ref mo), (1, .ref x), (0, .ref b)]) (kk : ∀ (T9 : Int) (H : Heap) (locs : List Loc), 0 ≤ T9 ∧ T9 ≤ 100000 → LI G cy s L K mo h T9 H locs → W p l e room_1 s m #[Value.ref b] below meth c H locs (cells + 1) (slots + 11) (lw_Z below #[Value.ref b] s) (F0 m 1211 ls [])) : W p l e room_1 s m #[Value.ref b] below meth c H locs cells slots (lw_Z below #[Value.ref b] s) (F0 m 317 ls []) := by
  obtain ⟨R, I, J, E, B, v, nm, f, g, hRT, hI, hE, hv, hf, hR, hL, hP, hD, hS⟩ := hLI
  have hA : ∀ q : Nat, s.heap.size ≤ q → (fun q : Nat => s.heap.size ≤ q) q := fun _ h => h
  have hbA : ¬ (fun q : Nat => s.heap.size ≤ q) b := Nat.not_le.mpr hbl
  have hc0 : cells + 0 ≤ room_1.cells ∧ slots + 0 ≤ room_1.slots := ⟨Nat.le_trans (Nat.le_add_right _ _) hc1.1, Nat.le_trans (Nat.le_add_right _ _) hc1.2⟩
  refine lv_aload_n hx hb dL_law_317 rfl (lv_at hl 2 rfl) ?_
  refine lv_aload_n hx hb dL_law_318 rfl (lv_at hl 3 rfl) ?_
  refine lv_iload_n hx hb dL_law_319 rfl (lv_at hl 0 rfl) ?_
  refine lv_iconst (v := 1) hx hb dL_law_320 (by decide) ?_
  refine lv_iadd hx hb dL_law_321 ?_
  refine lv_topi (fun w1 ew1 => ?_)
  have hw1 : vp_in w1 N9 := vi_in (k := 1) (by decide) ew1 (by omega) (by omega) hN9
  refine va_sld hx hb hX hbl hbA hS hw1 dL_law_322 ?_
  refine ow_top (xs (i + 1).toNatClampNeg) (by rw [ew1]) ?_
  skip
  refine lv_aload_n hx hb dL_law_323 rfl (lv_at hl 3 rfl) ?_
  refine lv_iload_n hx hb dL_law_324 rfl (lv_at hl 0 rfl) ?_
  refine lv_iconst (v := 2) hx hb dL_law_325 (by decide) ?_
  refine lv_iadd hx hb dL_law_326 ?_
  refine lv_topi (fun w2 ew2 => ?_)
  have hw2 : vp_in w2 N9 := vi_in (k := 2) (by decide) ew2 (by omega) (by omega) hN9
  refine va_sld hx hb hX hbl hbA hS hw2 dL_law_327 ?_
  refine ow_top (xs (i + 2).toNatClampNeg) (by rw [ew2]) ?_
  skip
  have hPD := fr_left hP hD
  have hFl := fr_leftF hD hS hA
  have hFc := fr_new hS hA
  refine va_calli (va_runV (As := [.int (xs (i + 1).toNatClampNeg), .int (xs (i + 2).toNatClampNeg)]) (rest := []) ⟨hx, hb, hml, hown, ht⟩ (x_step l G cy _ L K _ T _ _ _ _ x (xs (i + 1).toNatClampNeg) (xs (i + 2).toNatClampNeg) hRT hI hE hx1 hx2 ) (cwV 2 ht (gv k_895 k_896 k_897 k_521 k_894) rfl rfl rfl (by decide +kernel) ⟨Nat.le_of_ble_eq_true rfl, Nat.le_of_ble_eq_true rfl⟩) ⟨En.blind, cr_0 hK hPD.1 hx1 hx2, fun U hU hW => ⟨rfl, En.of hU hW hPD.1 hK hPD.2 hN⟩⟩ rfl rfl hl.1 rfl (lv_room (Nat.le_of_ble_eq_true rfl)) dL_law_328 hc0) hS (fun q _ h => hFc q h) hFc (fun r3 u4 t9 H locs ht9 hvm hw hB hz1 hk1 hS => ?_)
  refine W.widen (k := cells) (n := slots) (Nat.le_refl _) (Nat.le_refl _) ?_
  have hP := fr_keep hP hk1
  clear hPD hFl hz1 hk1 hw ht9 hvm hFc
  refine lv_pop hx hb dL_law_331 rfl ?_
  refine lv_aload_n hx hb dL_law_332 rfl (lv_at hl 1 rfl) ?_
  refine lv_aload_n hx hb dL_law_333 rfl (lv_at hl 3 rfl) ?_
  refine lv_iload_n hx hb dL_law_334 rfl (lv_at hl 0 rfl) ?_
  refine lv_iconst (v := 1) hx hb dL_law_335 (by decide) ?_
  refine lv_iadd hx hb dL_law_336 ?_
  refine lv_topi (fun w5 ew5 => ?_)
  have hw5 : vp_in w5 N9 := vi_in (k := 1) (by decide) ew5 (by omega) (by omega) hN9
  refine va_sld hx hb hX hbl hbA hS hw5 dL_law_337 ?_
  refine ow_top (xs (i + 1).toNatClampNeg) (by rw [ew5]) ?_
  skip
  refine lv_aload_n hx hb dL_law_338 rfl (lv_at hl 3 rfl) ?_
  refine lv_iload_n hx hb dL_law_339 rfl (lv_at hl 0 rfl) ?_
  refine lv_iconst (v := 2) hx hb dL_law_340 (by decide) ?_
  refine lv_iadd hx hb dL_law_341 ?_
  refine lv_topi (fun w6 ew6 => ?_)
  have hw6 : vp_in w6 N9 := vi_in (k := 2) (by decide) ew6 (by omega) (by omega) hN9
  refine va_sld hx hb hX hbl hbA hS hw6 dL_law_342 ?_
  refine ow_top (xs (i + 2).toNatClampNeg) (by rw [ew6]) ?_
  skip
  have hPD := fr_left (fr_swP hP) (fr_swD hD)
  have hFl := fr_leftF (fr_swD hD) hS hA
  have hFc := fr_new hS hA
  refine va_calli (va_runV (As := [.int (xs (i + 1).toNatClampNeg), .int (xs (i + 2).toNatClampNeg)]) (rest := []) ⟨hx, hb, hml, hown, ht⟩ (m_step l G cy _ mo h T _ _ _ _ (xs (i + 1).toNatClampNeg) (xs (i + 2).toNatClampNeg) hv hf hR hL ) (cwV 2 ht (gv k_899 k_900 k_901 k_61 k_898) rfl rfl rfl (by decide +kernel) ⟨Nat.le_of_ble_eq_true rfl, Nat.le_of_ble_eq_true rfl⟩) ⟨En.blind, va_recv hK hPD.1 (ci := 12) (q0 := 0) rfl rfl, fun U hU hW => ⟨rfl, En.of hU hW hPD.1 hK hPD.2 hN⟩⟩ rfl rfl hl.1 rfl (lv_room (Nat.le_of_ble_eq_true rfl)) dL_law_343 hc0) hS (fun q _ h => hFc q h) hFc (fun r7 u8 t9 H locs ht9 hvm hw hB hz1 hk1 hS => ?_)
  refine W.widen (k := cells) (n := slots) (Nat.le_refl _) (Nat.le_refl _) ?_
  have hP := fr_keep hP hk1
  clear hPD hFl hz1 hk1 hw ht9 hvm hFc
  refine lv_pop hx hb dL_law_346 rfl ?_
  refine lv_goto (tgt := 1211) hx hb dL_law_347 (by decide) ?_
  refine W.widen (k := cells + 1) (n := slots + 11) (by omega) (by omega) ?_
  exact kk T _ _ hT ⟨_, _, _, _, _, _, _, _, _, hRT, hI, hE, hv, hf, hR, hL, hP, hD, hS⟩
set_option maxHeartbeats 4000000 in
set_option maxRecDepth 100000 in
theorem law_6 (l : Launch) (hx : p.tables.exec = Jvm.exec) (hb : c.code = code) (hr : meth.sig.returnType = ret) (hml : c.maxLocals = 4) (hown : s.vm.findClass RL = some m.cls) (ht : ∀ w ∈ TBg, w.before #[Value.ref b] s = true) (hX : va_X b N9 xs s s.heap) (hbl : b < s.heap.size) (hlocks : meth.locks = false) (hK : va_K G vwCl (TY cy) s) (hN : NK s) (hXK : XK cy tq qq wq fo (fun q : Nat => s.heap.size ≤ q) s) (hx1 : x ∈ L) (hx2 : K x = 0) (hUX : ∀ z, K z = 0 → z = x) (hN9 : N9 ≤ 3072) {i : Int32} {T : Int} {H : Heap} {locs : List Loc} {ls : Array Slot} {cells slots : Nat} (hi0 : 0 ≤ i.toInt) (hi1 : i.toInt + 6 ≤ N9) (hT : 0 ≤ T ∧ T ≤ 100000) (hLI : LI G cy s L K mo h T H locs) (hc1 : cells + 1 ≤ room_1.cells ∧ slots + 11 ≤ room_1.slots) (hl : lv_has ls 4 [(3, .int i), (2, .ref mo), (1, .ref x), (0, .ref b)]) (kk : ∀ (T9 : Int) (H : Heap) (locs : List Loc), 0 ≤ T9 ∧ T9 ≤ 100000 → LI G cy s L K mo h T9 H locs → W p l e room_1 s m #[Value.ref b] below meth c H locs (cells + 1) (slots + 11) (lw_Z below #[Value.ref b] s) (F0 m 1211 ls [])) : W p l e room_1 s m #[Value.ref b] below meth c H locs cells slots (lw_Z below #[Value.ref b] s) (F0 m 350 ls []) := by
  obtain ⟨R, I, J, E, B, v, nm, f, g, hRT, hI, hE, hv, hf, hR, hL, hP, hD, hS⟩ := hLI
  have hA : ∀ q : Nat, s.heap.size ≤ q → (fun q : Nat => s.heap.size ≤ q) q := fun _ h => h
  have hbA : ¬ (fun q : Nat => s.heap.size ≤ q) b := Nat.not_le.mpr hbl
  have hc0 : cells + 0 ≤ room_1.cells ∧ slots + 0 ≤ room_1.slots := ⟨Nat.le_trans (Nat.le_add_right _ _) hc1.1, Nat.le_trans (Nat.le_add_right _ _) hc1.2⟩
  refine lv_aload_n hx hb dL_law_350 rfl (lv_at hl 2 rfl) ?_
  refine lv_aload_n hx hb dL_law_351 rfl (lv_at hl 3 rfl) ?_
  refine lv_iload_n hx hb dL_law_352 rfl (lv_at hl 0 rfl) ?_
  refine lv_iconst (v := 1) hx hb dL_law_353 (by decide) ?_
  refine lv_iadd hx hb dL_law_354 ?_
  refine lv_topi (fun w1 ew1 => ?_)
  have hw1 : vp_in w1 N9 := vi_in (k := 1) (by decide) ew1 (by omega) (by omega) hN9
  refine va_sld hx hb hX hbl hbA hS hw1 dL_law_355 ?_
  refine ow_top (xs (i + 1).toNatClampNeg) (by rw [ew1]) ?_
  skip
  refine lv_aload_n hx hb dL_law_356 rfl (lv_at hl 3 rfl) ?_
  refine lv_iload_n hx hb dL_law_357 rfl (lv_at hl 0 rfl) ?_
  refine lv_iconst (v := 2) hx hb dL_law_358 (by decide) ?_
  refine lv_iadd hx hb dL_law_359 ?_
  refine lv_topi (fun w2 ew2 => ?_)
  have hw2 : vp_in w2 N9 := vi_in (k := 2) (by decide) ew2 (by omega) (by omega) hN9
  refine va_sld hx hb hX hbl hbA hS hw2 dL_law_360 ?_
  refine ow_top (xs (i + 2).toNatClampNeg) (by rw [ew2]) ?_
  skip
  refine lv_aload_n hx hb dL_law_361 rfl (lv_at hl 3 rfl) ?_
  refine lv_iload_n hx hb dL_law_362 rfl (lv_at hl 0 rfl) ?_
  refine lv_iconst (v := 3) hx hb dL_law_363 (by decide) ?_
  refine lv_iadd hx hb dL_law_364 ?_
  refine lv_topi (fun w3 ew3 => ?_)
  have hw3 : vp_in w3 N9 := vi_in (k := 3) (by decide) ew3 (by omega) (by omega) hN9
  refine va_sld hx hb hX hbl hbA hS hw3 dL_law_365 ?_
  refine ow_top (xs (i + 3).toNatClampNeg) (by rw [ew3]) ?_
  skip
  have hPD := fr_left hP hD
  have hFl := fr_leftF hD hS hA
  have hFc := fr_new hS hA
  refine va_calli (va_runV (As := [.int (xs (i + 1).toNatClampNeg), .int (xs (i + 2).toNatClampNeg), .int (xs (i + 3).toNatClampNeg)]) (rest := []) ⟨hx, hb, hml, hown, ht⟩ (x_off l G cy _ L K _ T _ _ _ _ x (xs (i + 1).toNatClampNeg) (xs (i + 2).toNatClampNeg) (xs (i + 3).toNatClampNeg) hRT hI hE hx1 hx2 ) (cwV 3 ht (gv k_903 k_904 k_905 k_521 k_902) rfl rfl rfl (by decide +kernel) ⟨Nat.le_of_ble_eq_true rfl, Nat.le_of_ble_eq_true rfl⟩) ⟨En.blind, cr_0 hK hPD.1 hx1 hx2, fun U hU hW => ⟨rfl, En.of hU hW hPD.1 hK hPD.2 hN⟩⟩ rfl rfl hl.1 rfl (lv_room (Nat.le_of_ble_eq_true rfl)) dL_law_366 hc0) hS (fun q _ h => hFc q h) hFc (fun r4 u5 t9 H locs ht9 hvm hw hB hz1 hk1 hS => ?_)
  refine W.widen (k := cells) (n := slots) (Nat.le_refl _) (Nat.le_refl _) ?_
  have hP := fr_keep hP hk1
  clear hPD hFl hz1 hk1 hw ht9 hvm hFc
  refine lv_pop hx hb dL_law_369 rfl ?_
  refine lv_aload_n hx hb dL_law_370 rfl (lv_at hl 1 rfl) ?_
  refine lv_aload_n hx hb dL_law_371 rfl (lv_at hl 3 rfl) ?_
  refine lv_iload_n hx hb dL_law_372 rfl (lv_at hl 0 rfl) ?_
  refine lv_iconst (v := 1) hx hb dL_law_373 (by decide) ?_
  refine lv_iadd hx hb dL_law_374 ?_
  refine lv_topi (fun w6 ew6 => ?_)
  have hw6 : vp_in w6 N9 := vi_in (k := 1) (by decide) ew6 (by omega) (by omega) hN9
  refine va_sld hx hb hX hbl hbA hS hw6 dL_law_375 ?_
  refine ow_top (xs (i + 1).toNatClampNeg) (by rw [ew6]) ?_
  skip
  refine lv_aload_n hx hb dL_law_376 rfl (lv_at hl 3 rfl) ?_
  refine lv_iload_n hx hb dL_law_377 rfl (lv_at hl 0 rfl) ?_
  refine lv_iconst (v := 2) hx hb dL_law_378 (by decide) ?_
  refine lv_iadd hx hb dL_law_379 ?_
  refine lv_topi (fun w7 ew7 => ?_)
  have hw7 : vp_in w7 N9 := vi_in (k := 2) (by decide) ew7 (by omega) (by omega) hN9
  refine va_sld hx hb hX hbl hbA hS hw7 dL_law_380 ?_
  refine ow_top (xs (i + 2).toNatClampNeg) (by rw [ew7]) ?_
  skip
  refine lv_aload_n hx hb dL_law_381 rfl (lv_at hl 3 rfl) ?_
  refine lv_iload_n hx hb dL_law_382 rfl (lv_at hl 0 rfl) ?_
  refine lv_iconst (v := 3) hx hb dL_law_383 (by decide) ?_
  refine lv_iadd hx hb dL_law_384 ?_
  refine lv_topi (fun w8 ew8 => ?_)
  have hw8 : vp_in w8 N9 := vi_in (k := 3) (by decide) ew8 (by omega) (by omega) hN9
  refine va_sld hx hb hX hbl hbA hS hw8 dL_law_385 ?_
  refine ow_top (xs (i + 3).toNatClampNeg) (by rw [ew8]) ?_
  skip
  have hPD := fr_left (fr_swP hP) (fr_swD hD)
  have hFl := fr_leftF (fr_swD hD) hS hA
  have hFc := fr_new hS hA
  refine va_calli (va_runV (As := [.int (xs (i + 1).toNatClampNeg), .int (xs (i + 2).toNatClampNeg), .int (xs (i + 3).toNatClampNeg)]) (rest := []) ⟨hx, hb, hml, hown, ht⟩ (m_off l G cy _ mo h T _ _ _ _ (xs (i + 1).toNatClampNeg) (xs (i + 2).toNatClampNeg) (xs (i + 3).toNatClampNeg) hv hf hR hL ) (cwV 3 ht (gv k_907 k_908 k_909 k_61 k_906) rfl rfl rfl (by decide +kernel) ⟨Nat.le_of_ble_eq_true rfl, Nat.le_of_ble_eq_true rfl⟩) ⟨En.blind, va_recv hK hPD.1 (ci := 12) (q0 := 0) rfl rfl, fun U hU hW => ⟨rfl, En.of hU hW hPD.1 hK hPD.2 hN⟩⟩ rfl rfl hl.1 rfl (lv_room (Nat.le_of_ble_eq_true rfl)) dL_law_386 hc0) hS (fun q _ h => hFc q h) hFc (fun r9 u10 t9 H locs ht9 hvm hw hB hz1 hk1 hS => ?_)
  refine W.widen (k := cells) (n := slots) (Nat.le_refl _) (Nat.le_refl _) ?_
  have hP := fr_keep hP hk1
  clear hPD hFl hz1 hk1 hw ht9 hvm hFc
  refine lv_pop hx hb dL_law_389 rfl ?_
  refine lv_goto (tgt := 1211) hx hb dL_law_390 (by decide) ?_
  refine W.widen (k := cells + 1) (n := slots + 11) (by omega) (by omega) ?_
  exact kk T _ _ hT ⟨_, _, _, _, _, _, _, _, _, hRT, hI, hE, hv, hf, hR, hL, hP, hD, hS⟩
set_option maxHeartbeats 4000000 in
set_option maxRecDepth 100000 in
theorem law_7 (l : Launch) (hx : p.tables.exec = Jvm.exec) (hb : c.code = code) (hr : meth.sig.returnType = ret) (hml : c.maxLocals = 4) (hown : s.vm.findClass RL = some m.cls) (ht : ∀ w ∈ TBg, w.before #[Value.ref b] s = true) (hX : va_X b N9 xs s s.heap) (hbl : b < s.heap.size) (hlocks : meth.locks = false) (hK : va_K G vwCl (TY cy) s) (hN : NK s) (hXK : XK cy tq qq wq fo (fun q : Nat => s.heap.size ≤ q) s) (hx1 : x ∈ L) (hx2 : K x = 0) (hUX : ∀ z, K z = 0 → z = x) (hN9 : N9 ≤ 3072) {i : Int32} {T : Int} {H : Heap} {locs : List Loc} {ls : Array Slot} {cells slots : Nat} (hi0 : 0 ≤ i.toInt) (hi1 : i.toInt + 6 ≤ N9) (hT : 0 ≤ T ∧ T ≤ 100000) (hLI : LI G cy s L K mo h T H locs) (hc1 : cells + 1 ≤ room_1.cells ∧ slots + 11 ≤ room_1.slots) (hl : lv_has ls 4 [(3, .int i), (2, .ref mo), (1, .ref x), (0, .ref b)]) (kk : ∀ (T9 : Int) (H : Heap) (locs : List Loc), 0 ≤ T9 ∧ T9 ≤ 100000 → LI G cy s L K mo h T9 H locs → W p l e room_1 s m #[Value.ref b] below meth c H locs (cells + 1) (slots + 11) (lw_Z below #[Value.ref b] s) (F0 m 1211 ls [])) : W p l e room_1 s m #[Value.ref b] below meth c H locs cells slots (lw_Z below #[Value.ref b] s) (F0 m 393 ls []) := by
  obtain ⟨R, I, J, E, B, v, nm, f, g, hRT, hI, hE, hv, hf, hR, hL, hP, hD, hS⟩ := hLI
  have hA : ∀ q : Nat, s.heap.size ≤ q → (fun q : Nat => s.heap.size ≤ q) q := fun _ h => h
  have hbA : ¬ (fun q : Nat => s.heap.size ≤ q) b := Nat.not_le.mpr hbl
  have hc0 : cells + 0 ≤ room_1.cells ∧ slots + 0 ≤ room_1.slots := ⟨Nat.le_trans (Nat.le_add_right _ _) hc1.1, Nat.le_trans (Nat.le_add_right _ _) hc1.2⟩
  refine lv_aload_n hx hb dL_law_393 rfl (lv_at hl 2 rfl) ?_
  refine lv_aload_n hx hb dL_law_394 rfl (lv_at hl 3 rfl) ?_
  refine lv_iload_n hx hb dL_law_395 rfl (lv_at hl 0 rfl) ?_
  refine lv_iconst (v := 1) hx hb dL_law_396 (by decide) ?_
  refine lv_iadd hx hb dL_law_397 ?_
  refine lv_topi (fun w1 ew1 => ?_)
  have hw1 : vp_in w1 N9 := vi_in (k := 1) (by decide) ew1 (by omega) (by omega) hN9
  refine va_sld hx hb hX hbl hbA hS hw1 dL_law_398 ?_
  refine ow_top (xs (i + 1).toNatClampNeg) (by rw [ew1]) ?_
  skip
  refine lv_aload_n hx hb dL_law_399 rfl (lv_at hl 3 rfl) ?_
  refine lv_iload_n hx hb dL_law_400 rfl (lv_at hl 0 rfl) ?_
  refine lv_iconst (v := 2) hx hb dL_law_401 (by decide) ?_
  refine lv_iadd hx hb dL_law_402 ?_
  refine lv_topi (fun w2 ew2 => ?_)
  have hw2 : vp_in w2 N9 := vi_in (k := 2) (by decide) ew2 (by omega) (by omega) hN9
  refine va_sld hx hb hX hbl hbA hS hw2 dL_law_403 ?_
  refine ow_top (xs (i + 2).toNatClampNeg) (by rw [ew2]) ?_
  skip
  refine lv_aload_n hx hb dL_law_404 rfl (lv_at hl 3 rfl) ?_
  refine lv_iload_n hx hb dL_law_405 rfl (lv_at hl 0 rfl) ?_
  refine lv_iconst (v := 3) hx hb dL_law_406 (by decide) ?_
  refine lv_iadd hx hb dL_law_407 ?_
  refine lv_topi (fun w3 ew3 => ?_)
  have hw3 : vp_in w3 N9 := vi_in (k := 3) (by decide) ew3 (by omega) (by omega) hN9
  refine va_sld hx hb hX hbl hbA hS hw3 dL_law_408 ?_
  refine ow_top (xs (i + 3).toNatClampNeg) (by rw [ew3]) ?_
  skip
  have hPD := fr_left hP hD
  have hFl := fr_leftF hD hS hA
  have hFc := fr_new hS hA
  refine va_calli (va_runV (As := [.int (xs (i + 1).toNatClampNeg), .int (xs (i + 2).toNatClampNeg), .int (xs (i + 3).toNatClampNeg)]) (rest := []) ⟨hx, hb, hml, hown, ht⟩ (x_in l G cy _ L K _ T _ _ _ _ x (xs (i + 1).toNatClampNeg) (xs (i + 2).toNatClampNeg) (xs (i + 3).toNatClampNeg) hRT hI hE hx1 hx2 ) (cwV 3 ht (gv k_911 k_912 k_913 k_521 k_910) rfl rfl rfl (by decide +kernel) ⟨Nat.le_of_ble_eq_true rfl, Nat.le_of_ble_eq_true rfl⟩) ⟨En.blind, cr_0 hK hPD.1 hx1 hx2, fun U hU hW => ⟨rfl, En.of hU hW hPD.1 hK hPD.2 hN⟩⟩ rfl rfl hl.1 rfl (lv_room (Nat.le_of_ble_eq_true rfl)) dL_law_409 hc0) hS (fun q _ h => hFc q h) hFc (fun r4 u5 t9 H locs ht9 hvm hw hB hz1 hk1 hS => ?_)
  refine W.widen (k := cells) (n := slots) (Nat.le_refl _) (Nat.le_refl _) ?_
  have hP := fr_keep hP hk1
  clear hPD hFl hz1 hk1 hw ht9 hvm hFc
  refine lv_pop hx hb dL_law_412 rfl ?_
  refine lv_aload_n hx hb dL_law_413 rfl (lv_at hl 1 rfl) ?_
  refine lv_aload_n hx hb dL_law_414 rfl (lv_at hl 3 rfl) ?_
  refine lv_iload_n hx hb dL_law_415 rfl (lv_at hl 0 rfl) ?_
  refine lv_iconst (v := 1) hx hb dL_law_416 (by decide) ?_
  refine lv_iadd hx hb dL_law_417 ?_
  refine lv_topi (fun w6 ew6 => ?_)
  have hw6 : vp_in w6 N9 := vi_in (k := 1) (by decide) ew6 (by omega) (by omega) hN9
  refine va_sld hx hb hX hbl hbA hS hw6 dL_law_418 ?_
  refine ow_top (xs (i + 1).toNatClampNeg) (by rw [ew6]) ?_
  skip
  refine lv_aload_n hx hb dL_law_419 rfl (lv_at hl 3 rfl) ?_
  refine lv_iload_n hx hb dL_law_420 rfl (lv_at hl 0 rfl) ?_
  refine lv_iconst (v := 2) hx hb dL_law_421 (by decide) ?_
  refine lv_iadd hx hb dL_law_422 ?_
  refine lv_topi (fun w7 ew7 => ?_)
  have hw7 : vp_in w7 N9 := vi_in (k := 2) (by decide) ew7 (by omega) (by omega) hN9
  refine va_sld hx hb hX hbl hbA hS hw7 dL_law_423 ?_
  refine ow_top (xs (i + 2).toNatClampNeg) (by rw [ew7]) ?_
  skip
  refine lv_aload_n hx hb dL_law_424 rfl (lv_at hl 3 rfl) ?_
  refine lv_iload_n hx hb dL_law_425 rfl (lv_at hl 0 rfl) ?_
  refine lv_iconst (v := 3) hx hb dL_law_426 (by decide) ?_
  refine lv_iadd hx hb dL_law_427 ?_
  refine lv_topi (fun w8 ew8 => ?_)
  have hw8 : vp_in w8 N9 := vi_in (k := 3) (by decide) ew8 (by omega) (by omega) hN9
  refine va_sld hx hb hX hbl hbA hS hw8 dL_law_428 ?_
  refine ow_top (xs (i + 3).toNatClampNeg) (by rw [ew8]) ?_
  skip
  have hPD := fr_left (fr_swP hP) (fr_swD hD)
  have hFl := fr_leftF (fr_swD hD) hS hA
  have hFc := fr_new hS hA
  refine va_calli (va_runV (As := [.int (xs (i + 1).toNatClampNeg), .int (xs (i + 2).toNatClampNeg), .int (xs (i + 3).toNatClampNeg)]) (rest := []) ⟨hx, hb, hml, hown, ht⟩ (m_in l G cy _ mo h T _ _ _ _ (xs (i + 1).toNatClampNeg) (xs (i + 2).toNatClampNeg) (xs (i + 3).toNatClampNeg) hv hf hR hL ) (cwV 3 ht (gv k_915 k_916 k_917 k_61 k_914) rfl rfl rfl (by decide +kernel) ⟨Nat.le_of_ble_eq_true rfl, Nat.le_of_ble_eq_true rfl⟩) ⟨En.blind, va_recv hK hPD.1 (ci := 12) (q0 := 0) rfl rfl, fun U hU hW => ⟨rfl, En.of hU hW hPD.1 hK hPD.2 hN⟩⟩ rfl rfl hl.1 rfl (lv_room (Nat.le_of_ble_eq_true rfl)) dL_law_429 hc0) hS (fun q _ h => hFc q h) hFc (fun r9 u10 t9 H locs ht9 hvm hw hB hz1 hk1 hS => ?_)
  refine W.widen (k := cells) (n := slots) (Nat.le_refl _) (Nat.le_refl _) ?_
  have hP := fr_keep hP hk1
  clear hPD hFl hz1 hk1 hw ht9 hvm hFc
  refine lv_pop hx hb dL_law_432 rfl ?_
  refine lv_goto (tgt := 1211) hx hb dL_law_433 (by decide) ?_
  refine W.widen (k := cells + 1) (n := slots + 11) (by omega) (by omega) ?_
  exact kk T _ _ hT ⟨_, _, _, _, _, _, _, _, _, hRT, hI, hE, hv, hf, hR, hL, hP, hD, hS⟩
end LAWS
