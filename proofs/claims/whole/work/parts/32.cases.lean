theorem iv_draw {S : St} {E : Ex} (hI : INV S E) (n x : Int32) : INV (V_draw S n x).2 E := by
  unfold V_draw
  by_cases h : f_X2_isWithin n 0 (nI (nt S) - 1) = 0
  · rw [if_pos h]; exact hI
  · rw [if_neg h]
    obtain ⟨j, hj, rfl⟩ := inT_of hI.wf h
    rw [ix_nI hj (Nat.lt_of_le_of_lt hI.wf.t (by decide))]
    exact i_draw hI hj x
theorem iv_move {S : St} {E : Ex} (hI : INV S E) (n x : Int32) : INV (V_move S n x).2 E := by
  unfold V_move
  by_cases h : f_X2_isWithin n 0 (nI (nt S) - 1) = 0
  · rw [if_pos h]; exact hI
  · rw [if_neg h]
    obtain ⟨j, hj, rfl⟩ := inT_of hI.wf h
    rw [ix_nI hj (Nat.lt_of_le_of_lt hI.wf.t (by decide))]
    exact i_move hI hj x
theorem iv_charge {S : St} {E : Ex} (hI : INV S E) (n : Int32) : INV (V_charge S n).2 E := by
  unfold V_charge
  by_cases h : f_X2_isWithin n 0 (nI (nt S) - 1) = 0
  · rw [if_pos h]; exact hI
  · rw [if_neg h]
    obtain ⟨j, hj, rfl⟩ := inT_of hI.wf h
    rw [ix_nI hj (Nat.lt_of_le_of_lt hI.wf.t (by decide))]
    exact i_charge hI hj
theorem iv_allow {S : St} {E : Ex} (hI : INV S E) (n b x : Int32) : INV (V_allow S n b x).2 E := by
  unfold V_allow
  by_cases h : f_X2_isWithin n 1 3 = 0
  · rw [if_pos h]; exact hI
  · rw [if_neg h]
    obtain ⟨j, h1, h3, rfl⟩ := within_nI (a := 1) (b := 3) (by decide) (by decide) h
    rw [show ix (nI j) = j from nI_clamp (by omega)]
    exact i_allow hI h1 h3 b x
theorem iv_trial {S : St} {E : Ex} (hI : INV S E) (n y x z : Int32) : INV (V_trial S n y x z).2 E := by
  unfold V_trial
  by_cases h : f_X2_isWithin n 0 (nI (nt S) - 1) = 0
  · rw [if_pos h]; exact hI
  · rw [if_neg h]
    by_cases h2 : f_X2_isWithin y 0 (nI (nt S) - 1) = 0
    · rw [if_pos h2]; exact hI
    · rw [if_neg h2]
      obtain ⟨j, hj, rfl⟩ := inT_of hI.wf h
      obtain ⟨k, hk, rfl⟩ := inT_of hI.wf h2
      rw [ix_nI hj (Nat.lt_of_le_of_lt hI.wf.t (by decide)), ix_nI hk (Nat.lt_of_le_of_lt hI.wf.t (by decide))]
      exact i_trial hI hj hk x z
theorem iv_seal {S : St} {E : Ex} (hI : INV S E) (n x : Int32) : INV (V_seal S n x).2 (V_sealE S E n x) := by
  unfold V_seal V_sealE
  by_cases h : f_X2_isWithin n 0 (nI (nt S) - 1) = 0
  · rw [if_pos h, if_pos h]; exact hI
  · rw [if_neg h, if_neg h]
    by_cases h2 : f_X2_isSealNumber x = 0
    · rw [if_pos h2, if_pos h2]; exact hI
    · rw [if_neg h2, if_neg h2]
      obtain ⟨j, hj, rfl⟩ := inT_of hI.wf h
      obtain ⟨k, h1, hk, rfl⟩ := within_nI (a := 1) (b := 9999) (by decide) (by decide) h2
      rw [ix_nI hj (Nat.lt_of_le_of_lt hI.wf.t (by decide)), show ix (nI k) = k from nI_clamp (by omega)]
      exact i_seal hI hj h1 (Nat.lt_succ_of_le hk)
set_option maxRecDepth 20000 in
theorem lc_0 {p : Program} {l : Launch} {e : Env} {s : State} {m : MethodId} {below : List Frame} {meth : Method} {c : Code} {b Lx : Nat} {xs : Nat → Int32} {G : GG} {A : Nat → Prop} (cx : Cx p s m #[Value.ref b] c code 4 RL G) (hX : va_X b Lx xs s s.heap) (hbl : b < s.heap.size) (hbA : ¬ A b) (hA : ∀ q, s.heap.size ≤ q → A q) {i : Nat} (hi : i + 4 < Lx) (hL2 : Lx ≤ 2560) {cells slots : Nat} (hc : cells + 2 ≤ 600000 ∧ slots + 13 ≤ 7302250) {S : St} {E : Ex} {adX adM : Nat → Nat} {x0 m0 : Nat} {H : Heap} {locs : List Loc} (hLS : LW2 G A adX adM x0 m0 S E S H) (hI : INV S E) (hS : va_S A s.heap H locs) {ls : Array Slot} (hl : lv_has ls 4 [(0, .ref b), (1, .ref x0), (2, .ref m0), (3, .int (nI i))]) {Q : State → Prop} (kk : ∀ (S1 : St) (E1 : Ex) (adX1 adM1 : Nat → Nat) (H1 : Heap) (locs1 : List Loc), LW2 G A adX1 adM1 x0 m0 S1 E1 S1 H1 → INV S1 E1 → va_S A s.heap H1 locs1 → W p l e room_1 s m #[Value.ref b] below meth c H1 locs1 (cells + 2) (slots + 13) Q (F0 m 816 ls [])) : W p l e room_1 s m #[Value.ref b] below meth c H locs cells slots Q (F0 m 140 ls []) := by
  have hx := cx.1.1
  have hb := cx.1.2.1
  obtain ⟨hPX, hPM, hd, hx0, hm0⟩ := hLS
  obtain ⟨hc1, hc2⟩ := hc
  refine lv_aload_n hx hb dL_law_140 rfl (lv_at hl 1 rfl) ?_
  refine lv_aload_n hx hb dL_law_141 rfl (lv_at hl 0 rfl) ?_
  refine lv_iload_n hx hb dL_law_142 rfl (lv_at hl 3 rfl) ?_
  refine lv_iconst (v := 1) hx hb dL_law_143 (by decide) ?_
  refine lv_iadd hx hb dL_law_144 ?_
  refine w_nrm (y := nI (i + 1)) (nI_1 i) ?_
  refine l_sld cx hX hbl hbA hS (i + 1) (by omega) (by omega) dL_law_145 ?_
  refine l_callV (As := [.int (xs (i + 1))]) (rest := []) (st := [.int ((f_X3_pass S (xs (i + 1))).1)]) cx (cl_X2_pass l G adX S E hI (xs (i + 1))) k_87 cal_yX2_pass (ci := 2) rfl (cX_lo 0 (by decide) rfl) hPX hPM hd hS hA rfl ⟨Nat.le_of_ble_eq_true rfl, Nat.le_of_ble_eq_true rfl⟩ hl.1 (Nat.le_of_ble_eq_true rfl) ⟨(show cells + 0 ≤ 600000 by omega), (show slots + 0 ≤ 7302250 by omega)⟩ (by rw [hx0]; rfl) rfl dL_law_146 (fun adX1 H locs hX1 hPX hPM hd hS => ?_)
  have hx0 : adX1 0 = x0 := by rw [hX1]; exact hx0
  refine lv_aload_n hx hb dL_law_149 rfl (lv_at hl 2 rfl) ?_
  refine lv_aload_n hx hb dL_law_150 rfl (lv_at hl 0 rfl) ?_
  refine lv_iload_n hx hb dL_law_151 rfl (lv_at hl 3 rfl) ?_
  refine lv_iconst (v := 1) hx hb dL_law_152 (by decide) ?_
  refine lv_iadd hx hb dL_law_153 ?_
  refine w_nrm (y := nI (i + 1)) (nI_1 i) ?_
  refine l_sld cx hX hbl hbA hS (i + 1) (by omega) (by omega) dL_law_154 ?_
  refine l_callV (As := [.int (xs (i + 1))]) (rest := [.int ((f_X3_pass S (xs (i + 1))).1)]) (st := [.int ((f_X3_pass S (xs (i + 1))).1), .int ((f_X3_pass S (xs (i + 1))).1)]) cx (cl_X3_pass l G adM S E hI (xs (i + 1))) k_537 cal_yX3_pass (ci := 3) rfl cM_0 hPM hPX hd.symm hS hA rfl ⟨Nat.le_of_ble_eq_true rfl, Nat.le_of_ble_eq_true rfl⟩ hl.1 (Nat.le_of_ble_eq_true rfl) ⟨(show cells + 0 + 0 ≤ 600000 by omega), (show slots + 0 + 0 ≤ 7302250 by omega)⟩ (by rw [hm0]; rfl) rfl dL_law_155 (fun adM1 H locs hX2 hPM hPX hd hS => ?_)
  have hm0 : adM1 0 = m0 := by rw [hX2]; exact hm0
  refine lv_icmp_eq (tgt := 816) hx hb dL_law_158 (by decide) (fun _ => ?_) (fun c_9 => absurd rfl c_9)
  refine W.widen (k := cells + 2) (n := slots + 13) (by omega) (by omega) ?_
  exact kk _ _ _ _ _ _ ⟨hPX, hPM, hd.symm, hx0, hm0⟩ (i_pass hI (xs (i + 1))) hS
set_option maxRecDepth 20000 in
theorem lc_1 {p : Program} {l : Launch} {e : Env} {s : State} {m : MethodId} {below : List Frame} {meth : Method} {c : Code} {b Lx : Nat} {xs : Nat → Int32} {G : GG} {A : Nat → Prop} (cx : Cx p s m #[Value.ref b] c code 4 RL G) (hX : va_X b Lx xs s s.heap) (hbl : b < s.heap.size) (hbA : ¬ A b) (hA : ∀ q, s.heap.size ≤ q → A q) {i : Nat} (hi : i + 4 < Lx) (hL2 : Lx ≤ 2560) {cells slots : Nat} (hc : cells + 2 ≤ 600000 ∧ slots + 13 ≤ 7302250) {S : St} {E : Ex} {adX adM : Nat → Nat} {x0 m0 : Nat} {H : Heap} {locs : List Loc} (hLS : LW2 G A adX adM x0 m0 S E S H) (hI : INV S E) (hS : va_S A s.heap H locs) {ls : Array Slot} (hl : lv_has ls 4 [(0, .ref b), (1, .ref x0), (2, .ref m0), (3, .int (nI i))]) {Q : State → Prop} (kk : ∀ (S1 : St) (E1 : Ex) (adX1 adM1 : Nat → Nat) (H1 : Heap) (locs1 : List Loc), LW2 G A adX1 adM1 x0 m0 S1 E1 S1 H1 → INV S1 E1 → va_S A s.heap H1 locs1 → W p l e room_1 s m #[Value.ref b] below meth c H1 locs1 (cells + 2) (slots + 13) Q (F0 m 816 ls [])) : W p l e room_1 s m #[Value.ref b] below meth c H locs cells slots Q (F0 m 163 ls []) := by
  have hx := cx.1.1
  have hb := cx.1.2.1
  obtain ⟨hPX, hPM, hd, hx0, hm0⟩ := hLS
  obtain ⟨hc1, hc2⟩ := hc
  refine lv_aload_n hx hb dL_law_163 rfl (lv_at hl 1 rfl) ?_
  refine lv_aload_n hx hb dL_law_164 rfl (lv_at hl 0 rfl) ?_
  refine lv_iload_n hx hb dL_law_165 rfl (lv_at hl 3 rfl) ?_
  refine lv_iconst (v := 1) hx hb dL_law_166 (by decide) ?_
  refine lv_iadd hx hb dL_law_167 ?_
  refine w_nrm (y := nI (i + 1)) (nI_1 i) ?_
  refine l_sld cx hX hbl hbA hS (i + 1) (by omega) (by omega) dL_law_168 ?_
  refine lv_aload_n hx hb dL_law_169 rfl (lv_at hl 0 rfl) ?_
  refine lv_iload_n hx hb dL_law_170 rfl (lv_at hl 3 rfl) ?_
  refine lv_iconst (v := 2) hx hb dL_law_171 (by decide) ?_
  refine lv_iadd hx hb dL_law_172 ?_
  refine w_nrm (y := nI (i + 2)) (by rw [← nI_add]; rfl) ?_
  refine l_sld cx hX hbl hbA hS (i + 2) (by omega) (by omega) dL_law_173 ?_
  refine lv_aload_n hx hb dL_law_174 rfl (lv_at hl 0 rfl) ?_
  refine lv_iload_n hx hb dL_law_175 rfl (lv_at hl 3 rfl) ?_
  refine lv_iconst (v := 3) hx hb dL_law_176 (by decide) ?_
  refine lv_iadd hx hb dL_law_177 ?_
  refine w_nrm (y := nI (i + 3)) (by rw [← nI_add]; rfl) ?_
  refine l_sld cx hX hbl hbA hS (i + 3) (by omega) (by omega) dL_law_178 ?_
  refine lv_aload_n hx hb dL_law_179 rfl (lv_at hl 0 rfl) ?_
  refine lv_iload_n hx hb dL_law_180 rfl (lv_at hl 3 rfl) ?_
  refine lv_iconst (v := 4) hx hb dL_law_181 (by decide) ?_
  refine lv_iadd hx hb dL_law_182 ?_
  refine w_nrm (y := nI (i + 4)) (by rw [← nI_add]; rfl) ?_
  refine l_sld cx hX hbl hbA hS (i + 4) (by omega) (by omega) dL_law_183 ?_
  refine l_callV (As := [.int (xs (i + 1)), .int (xs (i + 2)), .int (xs (i + 3)), .int (xs (i + 4))]) (rest := []) (st := [.int ((f_X3_thing S (xs (i + 1)) (xs (i + 2)) (xs (i + 3)) (xs (i + 4))).1)]) cx (cl_X2_thing l G adX S E hI (xs (i + 1)) (xs (i + 2)) (xs (i + 3)) (xs (i + 4))) k_94 cal_yX2_thing (ci := 2) rfl (cX_lo 0 (by decide) rfl) hPX hPM hd hS hA rfl ⟨Nat.le_of_ble_eq_true rfl, Nat.le_of_ble_eq_true rfl⟩ hl.1 (Nat.le_of_ble_eq_true rfl) ⟨(show cells + 2 ≤ 600000 by omega), (show slots + 13 ≤ 7302250 by omega)⟩ (by rw [hx0]; rfl) rfl dL_law_184 (fun adX1 H locs hX1 hPX hPM hd hS => ?_)
  have hx0 : adX1 0 = x0 := hX1.trans hx0
  refine lv_aload_n hx hb dL_law_187 rfl (lv_at hl 2 rfl) ?_
  refine lv_aload_n hx hb dL_law_188 rfl (lv_at hl 0 rfl) ?_
  refine lv_iload_n hx hb dL_law_189 rfl (lv_at hl 3 rfl) ?_
  refine lv_iconst (v := 1) hx hb dL_law_190 (by decide) ?_
  refine lv_iadd hx hb dL_law_191 ?_
  refine w_nrm (y := nI (i + 1)) (nI_1 i) ?_
  refine l_sld cx hX hbl hbA hS (i + 1) (by omega) (by omega) dL_law_192 ?_
  refine lv_aload_n hx hb dL_law_193 rfl (lv_at hl 0 rfl) ?_
  refine lv_iload_n hx hb dL_law_194 rfl (lv_at hl 3 rfl) ?_
  refine lv_iconst (v := 2) hx hb dL_law_195 (by decide) ?_
  refine lv_iadd hx hb dL_law_196 ?_
  refine w_nrm (y := nI (i + 2)) (by rw [← nI_add]; rfl) ?_
  refine l_sld cx hX hbl hbA hS (i + 2) (by omega) (by omega) dL_law_197 ?_
  refine lv_aload_n hx hb dL_law_198 rfl (lv_at hl 0 rfl) ?_
  refine lv_iload_n hx hb dL_law_199 rfl (lv_at hl 3 rfl) ?_
  refine lv_iconst (v := 3) hx hb dL_law_200 (by decide) ?_
  refine lv_iadd hx hb dL_law_201 ?_
  refine w_nrm (y := nI (i + 3)) (by rw [← nI_add]; rfl) ?_
  refine l_sld cx hX hbl hbA hS (i + 3) (by omega) (by omega) dL_law_202 ?_
  refine lv_aload_n hx hb dL_law_203 rfl (lv_at hl 0 rfl) ?_
  refine lv_iload_n hx hb dL_law_204 rfl (lv_at hl 3 rfl) ?_
  refine lv_iconst (v := 4) hx hb dL_law_205 (by decide) ?_
  refine lv_iadd hx hb dL_law_206 ?_
  refine w_nrm (y := nI (i + 4)) (by rw [← nI_add]; rfl) ?_
  refine l_sld cx hX hbl hbA hS (i + 4) (by omega) (by omega) dL_law_207 ?_
  refine l_callV (As := [.int (xs (i + 1)), .int (xs (i + 2)), .int (xs (i + 3)), .int (xs (i + 4))]) (rest := [.int ((f_X3_thing S (xs (i + 1)) (xs (i + 2)) (xs (i + 3)) (xs (i + 4))).1)]) (st := [.int ((f_X3_thing S (xs (i + 1)) (xs (i + 2)) (xs (i + 3)) (xs (i + 4))).1), .int ((f_X3_thing S (xs (i + 1)) (xs (i + 2)) (xs (i + 3)) (xs (i + 4))).1)]) cx (cl_X3_thing l G adM S E hI (xs (i + 1)) (xs (i + 2)) (xs (i + 3)) (xs (i + 4))) k_544 cal_yX3_thing (ci := 3) rfl cM_0 hPM hPX hd.symm hS hA rfl ⟨Nat.le_of_ble_eq_true rfl, Nat.le_of_ble_eq_true rfl⟩ hl.1 (Nat.le_of_ble_eq_true rfl) ⟨(show cells + 2 + 0 ≤ 600000 by omega), (show slots + 13 + 0 ≤ 7302250 by omega)⟩ (by rw [hm0]; rfl) rfl dL_law_208 (fun adM1 H locs hX2 hPM hPX hd hS => ?_)
  have hm0 : adM1 0 = m0 := by rw [hX2]; exact hm0
  refine lv_icmp_eq (tgt := 816) hx hb dL_law_211 (by decide) (fun _ => ?_) (fun c_9 => absurd rfl c_9)
  refine W.widen (k := cells + 2) (n := slots + 13) (by omega) (by omega) ?_
  exact kk _ _ _ _ _ _ ⟨hPX, hPM, hd.symm, hx0, hm0⟩ (i_thing hI (xs (i + 1)) (xs (i + 2)) (xs (i + 3)) (xs (i + 4))) hS
set_option maxRecDepth 20000 in
theorem lc_2 {p : Program} {l : Launch} {e : Env} {s : State} {m : MethodId} {below : List Frame} {meth : Method} {c : Code} {b Lx : Nat} {xs : Nat → Int32} {G : GG} {A : Nat → Prop} (cx : Cx p s m #[Value.ref b] c code 4 RL G) (hX : va_X b Lx xs s s.heap) (hbl : b < s.heap.size) (hbA : ¬ A b) (hA : ∀ q, s.heap.size ≤ q → A q) {i : Nat} (hi : i + 4 < Lx) (hL2 : Lx ≤ 2560) {cells slots : Nat} (hc : cells + 2 ≤ 600000 ∧ slots + 13 ≤ 7302250) {S : St} {E : Ex} {adX adM : Nat → Nat} {x0 m0 : Nat} {H : Heap} {locs : List Loc} (hLS : LW2 G A adX adM x0 m0 S E S H) (hI : INV S E) (hS : va_S A s.heap H locs) {ls : Array Slot} (hl : lv_has ls 4 [(0, .ref b), (1, .ref x0), (2, .ref m0), (3, .int (nI i))]) {Q : State → Prop} (kk : ∀ (S1 : St) (E1 : Ex) (adX1 adM1 : Nat → Nat) (H1 : Heap) (locs1 : List Loc), LW2 G A adX1 adM1 x0 m0 S1 E1 S1 H1 → INV S1 E1 → va_S A s.heap H1 locs1 → W p l e room_1 s m #[Value.ref b] below meth c H1 locs1 (cells + 2) (slots + 13) Q (F0 m 816 ls [])) : W p l e room_1 s m #[Value.ref b] below meth c H locs cells slots Q (F0 m 216 ls []) := by
  have hx := cx.1.1
  have hb := cx.1.2.1
  obtain ⟨hPX, hPM, hd, hx0, hm0⟩ := hLS
  obtain ⟨hc1, hc2⟩ := hc
  refine lv_aload_n hx hb dL_law_216 rfl (lv_at hl 1 rfl) ?_
  refine lv_aload_n hx hb dL_law_217 rfl (lv_at hl 0 rfl) ?_
  refine lv_iload_n hx hb dL_law_218 rfl (lv_at hl 3 rfl) ?_
  refine lv_iconst (v := 1) hx hb dL_law_219 (by decide) ?_
  refine lv_iadd hx hb dL_law_220 ?_
  refine w_nrm (y := nI (i + 1)) (nI_1 i) ?_
  refine l_sld cx hX hbl hbA hS (i + 1) (by omega) (by omega) dL_law_221 ?_
  refine lv_aload_n hx hb dL_law_222 rfl (lv_at hl 0 rfl) ?_
  refine lv_iload_n hx hb dL_law_223 rfl (lv_at hl 3 rfl) ?_
  refine lv_iconst (v := 2) hx hb dL_law_224 (by decide) ?_
  refine lv_iadd hx hb dL_law_225 ?_
  refine w_nrm (y := nI (i + 2)) (by rw [← nI_add]; rfl) ?_
  refine l_sld cx hX hbl hbA hS (i + 2) (by omega) (by omega) dL_law_226 ?_
  refine w_callV (a := adX 0) (As := [.int (xs (i + 1)), .int (xs (i + 2))]) (rest := []) (st := [.int (V_about S (xs (i + 1)) (xs (i + 2)))]) cx (cl_X2_about l G adX S E hI (xs (i + 1)) (xs (i + 2))) k_145 cal_yX2_about (ci := 2) rfl (hPX.pa 0 _ (cX_lo 0 (by decide) rfl)) hPX.pa rfl ⟨Nat.le_of_ble_eq_true rfl, Nat.le_of_ble_eq_true rfl⟩ hl.1 (Nat.le_of_ble_eq_true rfl) ⟨(show cells ≤ 600000 by omega), (show slots ≤ 7302250 by omega)⟩ (by rw [hx0]; rfl) rfl dL_law_227 ?_
  refine lv_aload_n hx hb dL_law_230 rfl (lv_at hl 2 rfl) ?_
  refine lv_aload_n hx hb dL_law_231 rfl (lv_at hl 0 rfl) ?_
  refine lv_iload_n hx hb dL_law_232 rfl (lv_at hl 3 rfl) ?_
  refine lv_iconst (v := 1) hx hb dL_law_233 (by decide) ?_
  refine lv_iadd hx hb dL_law_234 ?_
  refine w_nrm (y := nI (i + 1)) (nI_1 i) ?_
  refine l_sld cx hX hbl hbA hS (i + 1) (by omega) (by omega) dL_law_235 ?_
  refine lv_aload_n hx hb dL_law_236 rfl (lv_at hl 0 rfl) ?_
  refine lv_iload_n hx hb dL_law_237 rfl (lv_at hl 3 rfl) ?_
  refine lv_iconst (v := 2) hx hb dL_law_238 (by decide) ?_
  refine lv_iadd hx hb dL_law_239 ?_
  refine w_nrm (y := nI (i + 2)) (by rw [← nI_add]; rfl) ?_
  refine l_sld cx hX hbl hbA hS (i + 2) (by omega) (by omega) dL_law_240 ?_
  refine w_callV (a := adM 0) (As := [.int (xs (i + 1)), .int (xs (i + 2))]) (rest := [.int (V_about S (xs (i + 1)) (xs (i + 2)))]) (st := [.int (V_about S (xs (i + 1)) (xs (i + 2))), .int (V_about S (xs (i + 1)) (xs (i + 2)))]) cx (cl_X3_about l G adM S E hI (xs (i + 1)) (xs (i + 2))) k_549 cal_yX3_about (ci := 3) rfl (hPM.pa 0 _ cM_0) hPM.pa rfl ⟨Nat.le_of_ble_eq_true rfl, Nat.le_of_ble_eq_true rfl⟩ hl.1 (Nat.le_of_ble_eq_true rfl) ⟨(show cells ≤ 600000 by omega), (show slots ≤ 7302250 by omega)⟩ (by rw [hm0]; rfl) rfl dL_law_241 ?_
  refine lv_icmp_eq (tgt := 816) hx hb dL_law_244 (by decide) (fun _ => ?_) (fun c_9 => absurd rfl c_9)
  refine W.widen (k := cells + 2) (n := slots + 13) (by omega) (by omega) ?_
  exact kk _ _ _ _ _ _ ⟨hPX, hPM, hd, hx0, hm0⟩ hI hS
set_option maxRecDepth 20000 in
theorem lc_3 {p : Program} {l : Launch} {e : Env} {s : State} {m : MethodId} {below : List Frame} {meth : Method} {c : Code} {b Lx : Nat} {xs : Nat → Int32} {G : GG} {A : Nat → Prop} (cx : Cx p s m #[Value.ref b] c code 4 RL G) (hX : va_X b Lx xs s s.heap) (hbl : b < s.heap.size) (hbA : ¬ A b) (hA : ∀ q, s.heap.size ≤ q → A q) {i : Nat} (hi : i + 4 < Lx) (hL2 : Lx ≤ 2560) {cells slots : Nat} (hc : cells + 2 ≤ 600000 ∧ slots + 13 ≤ 7302250) {S : St} {E : Ex} {adX adM : Nat → Nat} {x0 m0 : Nat} {H : Heap} {locs : List Loc} (hLS : LW2 G A adX adM x0 m0 S E S H) (hI : INV S E) (hS : va_S A s.heap H locs) {ls : Array Slot} (hl : lv_has ls 4 [(0, .ref b), (1, .ref x0), (2, .ref m0), (3, .int (nI i))]) {Q : State → Prop} (kk : ∀ (S1 : St) (E1 : Ex) (adX1 adM1 : Nat → Nat) (H1 : Heap) (locs1 : List Loc), LW2 G A adX1 adM1 x0 m0 S1 E1 S1 H1 → INV S1 E1 → va_S A s.heap H1 locs1 → W p l e room_1 s m #[Value.ref b] below meth c H1 locs1 (cells + 2) (slots + 13) Q (F0 m 816 ls [])) : W p l e room_1 s m #[Value.ref b] below meth c H locs cells slots Q (F0 m 249 ls []) := by
  have hx := cx.1.1
  have hb := cx.1.2.1
  obtain ⟨hPX, hPM, hd, hx0, hm0⟩ := hLS
  obtain ⟨hc1, hc2⟩ := hc
  refine lv_aload_n hx hb dL_law_249 rfl (lv_at hl 1 rfl) ?_
  refine lv_aload_n hx hb dL_law_250 rfl (lv_at hl 0 rfl) ?_
  refine lv_iload_n hx hb dL_law_251 rfl (lv_at hl 3 rfl) ?_
  refine lv_iconst (v := 1) hx hb dL_law_252 (by decide) ?_
  refine lv_iadd hx hb dL_law_253 ?_
  refine w_nrm (y := nI (i + 1)) (nI_1 i) ?_
  refine l_sld cx hX hbl hbA hS (i + 1) (by omega) (by omega) dL_law_254 ?_
  refine lv_aload_n hx hb dL_law_255 rfl (lv_at hl 0 rfl) ?_
  refine lv_iload_n hx hb dL_law_256 rfl (lv_at hl 3 rfl) ?_
  refine lv_iconst (v := 2) hx hb dL_law_257 (by decide) ?_
  refine lv_iadd hx hb dL_law_258 ?_
  refine w_nrm (y := nI (i + 2)) (by rw [← nI_add]; rfl) ?_
  refine l_sld cx hX hbl hbA hS (i + 2) (by omega) (by omega) dL_law_259 ?_
  refine l_callV (As := [.int (xs (i + 1)), .int (xs (i + 2))]) (rest := []) (st := [.int ((V_draw S (xs (i + 1)) (xs (i + 2))).1)]) cx (cl_X2_draw l G adX S E hI (xs (i + 1)) (xs (i + 2))) k_157 cal_yX2_draw (ci := 2) rfl (cX_lo 0 (by decide) rfl) hPX hPM hd hS hA rfl ⟨Nat.le_of_ble_eq_true rfl, Nat.le_of_ble_eq_true rfl⟩ hl.1 (Nat.le_of_ble_eq_true rfl) ⟨(show cells + 0 ≤ 600000 by omega), (show slots + 0 ≤ 7302250 by omega)⟩ (by rw [hx0]; rfl) rfl dL_law_260 (fun adX1 H locs hX1 hPX hPM hd hS => ?_)
  have hx0 : adX1 0 = x0 := by rw [hX1]; exact hx0
  refine lv_aload_n hx hb dL_law_263 rfl (lv_at hl 2 rfl) ?_
  refine lv_aload_n hx hb dL_law_264 rfl (lv_at hl 0 rfl) ?_
  refine lv_iload_n hx hb dL_law_265 rfl (lv_at hl 3 rfl) ?_
  refine lv_iconst (v := 1) hx hb dL_law_266 (by decide) ?_
  refine lv_iadd hx hb dL_law_267 ?_
  refine w_nrm (y := nI (i + 1)) (nI_1 i) ?_
  refine l_sld cx hX hbl hbA hS (i + 1) (by omega) (by omega) dL_law_268 ?_
  refine lv_aload_n hx hb dL_law_269 rfl (lv_at hl 0 rfl) ?_
  refine lv_iload_n hx hb dL_law_270 rfl (lv_at hl 3 rfl) ?_
  refine lv_iconst (v := 2) hx hb dL_law_271 (by decide) ?_
  refine lv_iadd hx hb dL_law_272 ?_
  refine w_nrm (y := nI (i + 2)) (by rw [← nI_add]; rfl) ?_
  refine l_sld cx hX hbl hbA hS (i + 2) (by omega) (by omega) dL_law_273 ?_
  refine l_callV (As := [.int (xs (i + 1)), .int (xs (i + 2))]) (rest := [.int ((V_draw S (xs (i + 1)) (xs (i + 2))).1)]) (st := [.int ((V_draw S (xs (i + 1)) (xs (i + 2))).1), .int ((V_draw S (xs (i + 1)) (xs (i + 2))).1)]) cx (cl_X3_draw l G adM S E hI (xs (i + 1)) (xs (i + 2))) k_557 cal_yX3_draw (ci := 3) rfl cM_0 hPM hPX hd.symm hS hA rfl ⟨Nat.le_of_ble_eq_true rfl, Nat.le_of_ble_eq_true rfl⟩ hl.1 (Nat.le_of_ble_eq_true rfl) ⟨(show cells + 0 + 0 ≤ 600000 by omega), (show slots + 0 + 0 ≤ 7302250 by omega)⟩ (by rw [hm0]; rfl) rfl dL_law_274 (fun adM1 H locs hX2 hPM hPX hd hS => ?_)
  have hm0 : adM1 0 = m0 := by rw [hX2]; exact hm0
  refine lv_icmp_eq (tgt := 816) hx hb dL_law_277 (by decide) (fun _ => ?_) (fun c_9 => absurd rfl c_9)
  refine W.widen (k := cells + 2) (n := slots + 13) (by omega) (by omega) ?_
  exact kk _ _ _ _ _ _ ⟨hPX, hPM, hd.symm, hx0, hm0⟩ (iv_draw hI (xs (i + 1)) (xs (i + 2))) hS
set_option maxRecDepth 20000 in
theorem lc_4 {p : Program} {l : Launch} {e : Env} {s : State} {m : MethodId} {below : List Frame} {meth : Method} {c : Code} {b Lx : Nat} {xs : Nat → Int32} {G : GG} {A : Nat → Prop} (cx : Cx p s m #[Value.ref b] c code 4 RL G) (hX : va_X b Lx xs s s.heap) (hbl : b < s.heap.size) (hbA : ¬ A b) (hA : ∀ q, s.heap.size ≤ q → A q) {i : Nat} (hi : i + 4 < Lx) (hL2 : Lx ≤ 2560) {cells slots : Nat} (hc : cells + 2 ≤ 600000 ∧ slots + 13 ≤ 7302250) {S : St} {E : Ex} {adX adM : Nat → Nat} {x0 m0 : Nat} {H : Heap} {locs : List Loc} (hLS : LW2 G A adX adM x0 m0 S E S H) (hI : INV S E) (hS : va_S A s.heap H locs) {ls : Array Slot} (hl : lv_has ls 4 [(0, .ref b), (1, .ref x0), (2, .ref m0), (3, .int (nI i))]) {Q : State → Prop} (kk : ∀ (S1 : St) (E1 : Ex) (adX1 adM1 : Nat → Nat) (H1 : Heap) (locs1 : List Loc), LW2 G A adX1 adM1 x0 m0 S1 E1 S1 H1 → INV S1 E1 → va_S A s.heap H1 locs1 → W p l e room_1 s m #[Value.ref b] below meth c H1 locs1 (cells + 2) (slots + 13) Q (F0 m 816 ls [])) : W p l e room_1 s m #[Value.ref b] below meth c H locs cells slots Q (F0 m 282 ls []) := by
  have hx := cx.1.1
  have hb := cx.1.2.1
  obtain ⟨hPX, hPM, hd, hx0, hm0⟩ := hLS
  obtain ⟨hc1, hc2⟩ := hc
  refine lv_aload_n hx hb dL_law_282 rfl (lv_at hl 1 rfl) ?_
  refine lv_aload_n hx hb dL_law_283 rfl (lv_at hl 0 rfl) ?_
  refine lv_iload_n hx hb dL_law_284 rfl (lv_at hl 3 rfl) ?_
  refine lv_iconst (v := 1) hx hb dL_law_285 (by decide) ?_
  refine lv_iadd hx hb dL_law_286 ?_
  refine w_nrm (y := nI (i + 1)) (nI_1 i) ?_
  refine l_sld cx hX hbl hbA hS (i + 1) (by omega) (by omega) dL_law_287 ?_
  refine lv_aload_n hx hb dL_law_288 rfl (lv_at hl 0 rfl) ?_
  refine lv_iload_n hx hb dL_law_289 rfl (lv_at hl 3 rfl) ?_
  refine lv_iconst (v := 2) hx hb dL_law_290 (by decide) ?_
  refine lv_iadd hx hb dL_law_291 ?_
  refine w_nrm (y := nI (i + 2)) (by rw [← nI_add]; rfl) ?_
  refine l_sld cx hX hbl hbA hS (i + 2) (by omega) (by omega) dL_law_292 ?_
  refine lv_if_eq (tgt := 300) hx hb dL_law_293 (by decide) (fun c_1 => ?_) (fun c_1 => ?_)
  · refine lv_iconst (v := 0) hx hb dL_law_300 (by decide) ?_
    refine lv_aload_n hx hb dL_law_301 rfl (lv_at hl 0 rfl) ?_
    refine lv_iload_n hx hb dL_law_302 rfl (lv_at hl 3 rfl) ?_
    refine lv_iconst (v := 3) hx hb dL_law_303 (by decide) ?_
    refine lv_iadd hx hb dL_law_304 ?_
    refine w_nrm (y := nI (i + 3)) (by rw [← nI_add]; rfl) ?_
    refine l_sld cx hX hbl hbA hS (i + 3) (by omega) (by omega) dL_law_305 ?_
    refine l_callV (As := [.int (xs (i + 1)), .int 0, .int (xs (i + 3))]) (rest := []) (st := [.int ((V_allow S (xs (i + 1)) 0 (xs (i + 3))).1)]) cx (cl_X2_allow l G adX S E hI (xs (i + 1)) 0 (xs (i + 3))) k_172 cal_yX2_allow (ci := 2) rfl (cX_lo 0 (by decide) rfl) hPX hPM hd hS hA rfl ⟨Nat.le_of_ble_eq_true rfl, Nat.le_of_ble_eq_true rfl⟩ hl.1 (Nat.le_of_ble_eq_true rfl) ⟨(show cells + 0 ≤ 600000 by omega), (show slots + 0 ≤ 7302250 by omega)⟩ (by rw [hx0]; rfl) rfl dL_law_306 (fun adX1 H locs hX1 hPX hPM hd hS => ?_)
    have hx0 : adX1 0 = x0 := by rw [hX1]; exact hx0
    refine lv_aload_n hx hb dL_law_309 rfl (lv_at hl 2 rfl) ?_
    refine lv_aload_n hx hb dL_law_310 rfl (lv_at hl 0 rfl) ?_
    refine lv_iload_n hx hb dL_law_311 rfl (lv_at hl 3 rfl) ?_
    refine lv_iconst (v := 1) hx hb dL_law_312 (by decide) ?_
    refine lv_iadd hx hb dL_law_313 ?_
    refine w_nrm (y := nI (i + 1)) (nI_1 i) ?_
    refine l_sld cx hX hbl hbA hS (i + 1) (by omega) (by omega) dL_law_314 ?_
    refine lv_aload_n hx hb dL_law_315 rfl (lv_at hl 0 rfl) ?_
    refine lv_iload_n hx hb dL_law_316 rfl (lv_at hl 3 rfl) ?_
    refine lv_iconst (v := 2) hx hb dL_law_317 (by decide) ?_
    refine lv_iadd hx hb dL_law_318 ?_
    refine w_nrm (y := nI (i + 2)) (by rw [← nI_add]; rfl) ?_
    refine l_sld cx hX hbl hbA hS (i + 2) (by omega) (by omega) dL_law_319 ?_
    refine lv_if_eq (tgt := 327) hx hb dL_law_320 (by decide) (fun c_2 => ?_) (fun c_2 => ?_)
    rotate_left
    · exact absurd c_1 c_2
    refine lv_iconst (v := 0) hx hb dL_law_327 (by decide) ?_
    refine lv_aload_n hx hb dL_law_328 rfl (lv_at hl 0 rfl) ?_
    refine lv_iload_n hx hb dL_law_329 rfl (lv_at hl 3 rfl) ?_
    refine lv_iconst (v := 3) hx hb dL_law_330 (by decide) ?_
    refine lv_iadd hx hb dL_law_331 ?_
    refine w_nrm (y := nI (i + 3)) (by rw [← nI_add]; rfl) ?_
    refine l_sld cx hX hbl hbA hS (i + 3) (by omega) (by omega) dL_law_332 ?_
    refine l_callV (As := [.int (xs (i + 1)), .int 0, .int (xs (i + 3))]) (rest := [.int ((V_allow S (xs (i + 1)) 0 (xs (i + 3))).1)]) (st := [.int ((V_allow S (xs (i + 1)) 0 (xs (i + 3))).1), .int ((V_allow S (xs (i + 1)) 0 (xs (i + 3))).1)]) cx (cl_X3_allow l G adM S E hI (xs (i + 1)) 0 (xs (i + 3))) k_563 cal_yX3_allow (ci := 3) rfl cM_0 hPM hPX hd.symm hS hA rfl ⟨Nat.le_of_ble_eq_true rfl, Nat.le_of_ble_eq_true rfl⟩ hl.1 (Nat.le_of_ble_eq_true rfl) ⟨(show cells + 0 + 0 ≤ 600000 by omega), (show slots + 0 + 0 ≤ 7302250 by omega)⟩ (by rw [hm0]; rfl) rfl dL_law_333 (fun adM1 H locs hX2 hPM hPX hd hS => ?_)
    have hm0 : adM1 0 = m0 := by rw [hX2]; exact hm0
    refine lv_icmp_eq (tgt := 816) hx hb dL_law_336 (by decide) (fun _ => ?_) (fun c_9 => absurd rfl c_9)
    refine W.widen (k := cells + 2) (n := slots + 13) (by omega) (by omega) ?_
    exact kk _ _ _ _ _ _ ⟨hPX, hPM, hd.symm, hx0, hm0⟩ (iv_allow hI (xs (i + 1)) 0 (xs (i + 3))) hS
  · refine lv_iconst (v := 1) hx hb dL_law_296 (by decide) ?_
    refine lv_goto (tgt := 301) hx hb dL_law_297 (by decide) ?_
    refine lv_aload_n hx hb dL_law_301 rfl (lv_at hl 0 rfl) ?_
    refine lv_iload_n hx hb dL_law_302 rfl (lv_at hl 3 rfl) ?_
    refine lv_iconst (v := 3) hx hb dL_law_303 (by decide) ?_
    refine lv_iadd hx hb dL_law_304 ?_
    refine w_nrm (y := nI (i + 3)) (by rw [← nI_add]; rfl) ?_
    refine l_sld cx hX hbl hbA hS (i + 3) (by omega) (by omega) dL_law_305 ?_
    refine l_callV (As := [.int (xs (i + 1)), .int 1, .int (xs (i + 3))]) (rest := []) (st := [.int ((V_allow S (xs (i + 1)) 1 (xs (i + 3))).1)]) cx (cl_X2_allow l G adX S E hI (xs (i + 1)) 1 (xs (i + 3))) k_172 cal_yX2_allow (ci := 2) rfl (cX_lo 0 (by decide) rfl) hPX hPM hd hS hA rfl ⟨Nat.le_of_ble_eq_true rfl, Nat.le_of_ble_eq_true rfl⟩ hl.1 (Nat.le_of_ble_eq_true rfl) ⟨(show cells + 0 ≤ 600000 by omega), (show slots + 0 ≤ 7302250 by omega)⟩ (by rw [hx0]; rfl) rfl dL_law_306 (fun adX1 H locs hX1 hPX hPM hd hS => ?_)
    have hx0 : adX1 0 = x0 := by rw [hX1]; exact hx0
    refine lv_aload_n hx hb dL_law_309 rfl (lv_at hl 2 rfl) ?_
    refine lv_aload_n hx hb dL_law_310 rfl (lv_at hl 0 rfl) ?_
    refine lv_iload_n hx hb dL_law_311 rfl (lv_at hl 3 rfl) ?_
    refine lv_iconst (v := 1) hx hb dL_law_312 (by decide) ?_
    refine lv_iadd hx hb dL_law_313 ?_
    refine w_nrm (y := nI (i + 1)) (nI_1 i) ?_
    refine l_sld cx hX hbl hbA hS (i + 1) (by omega) (by omega) dL_law_314 ?_
    refine lv_aload_n hx hb dL_law_315 rfl (lv_at hl 0 rfl) ?_
    refine lv_iload_n hx hb dL_law_316 rfl (lv_at hl 3 rfl) ?_
    refine lv_iconst (v := 2) hx hb dL_law_317 (by decide) ?_
    refine lv_iadd hx hb dL_law_318 ?_
    refine w_nrm (y := nI (i + 2)) (by rw [← nI_add]; rfl) ?_
    refine l_sld cx hX hbl hbA hS (i + 2) (by omega) (by omega) dL_law_319 ?_
    refine lv_if_eq (tgt := 327) hx hb dL_law_320 (by decide) (fun c_2 => ?_) (fun c_2 => ?_)
    · exact absurd c_2 c_1
    refine lv_iconst (v := 1) hx hb dL_law_323 (by decide) ?_
    refine lv_goto (tgt := 328) hx hb dL_law_324 (by decide) ?_
    refine lv_aload_n hx hb dL_law_328 rfl (lv_at hl 0 rfl) ?_
    refine lv_iload_n hx hb dL_law_329 rfl (lv_at hl 3 rfl) ?_
    refine lv_iconst (v := 3) hx hb dL_law_330 (by decide) ?_
    refine lv_iadd hx hb dL_law_331 ?_
    refine w_nrm (y := nI (i + 3)) (by rw [← nI_add]; rfl) ?_
    refine l_sld cx hX hbl hbA hS (i + 3) (by omega) (by omega) dL_law_332 ?_
    refine l_callV (As := [.int (xs (i + 1)), .int 1, .int (xs (i + 3))]) (rest := [.int ((V_allow S (xs (i + 1)) 1 (xs (i + 3))).1)]) (st := [.int ((V_allow S (xs (i + 1)) 1 (xs (i + 3))).1), .int ((V_allow S (xs (i + 1)) 1 (xs (i + 3))).1)]) cx (cl_X3_allow l G adM S E hI (xs (i + 1)) 1 (xs (i + 3))) k_563 cal_yX3_allow (ci := 3) rfl cM_0 hPM hPX hd.symm hS hA rfl ⟨Nat.le_of_ble_eq_true rfl, Nat.le_of_ble_eq_true rfl⟩ hl.1 (Nat.le_of_ble_eq_true rfl) ⟨(show cells + 0 + 0 ≤ 600000 by omega), (show slots + 0 + 0 ≤ 7302250 by omega)⟩ (by rw [hm0]; rfl) rfl dL_law_333 (fun adM1 H locs hX2 hPM hPX hd hS => ?_)
    have hm0 : adM1 0 = m0 := by rw [hX2]; exact hm0
    refine lv_icmp_eq (tgt := 816) hx hb dL_law_336 (by decide) (fun _ => ?_) (fun c_9 => absurd rfl c_9)
    refine W.widen (k := cells + 2) (n := slots + 13) (by omega) (by omega) ?_
    exact kk _ _ _ _ _ _ ⟨hPX, hPM, hd.symm, hx0, hm0⟩ (iv_allow hI (xs (i + 1)) 1 (xs (i + 3))) hS
set_option maxRecDepth 20000 in
theorem lc_5 {p : Program} {l : Launch} {e : Env} {s : State} {m : MethodId} {below : List Frame} {meth : Method} {c : Code} {b Lx : Nat} {xs : Nat → Int32} {G : GG} {A : Nat → Prop} (cx : Cx p s m #[Value.ref b] c code 4 RL G) (hX : va_X b Lx xs s s.heap) (hbl : b < s.heap.size) (hbA : ¬ A b) (hA : ∀ q, s.heap.size ≤ q → A q) {i : Nat} (hi : i + 4 < Lx) (hL2 : Lx ≤ 2560) {cells slots : Nat} (hc : cells + 2 ≤ 600000 ∧ slots + 13 ≤ 7302250) {S : St} {E : Ex} {adX adM : Nat → Nat} {x0 m0 : Nat} {H : Heap} {locs : List Loc} (hLS : LW2 G A adX adM x0 m0 S E S H) (hI : INV S E) (hS : va_S A s.heap H locs) {ls : Array Slot} (hl : lv_has ls 4 [(0, .ref b), (1, .ref x0), (2, .ref m0), (3, .int (nI i))]) {Q : State → Prop} (kk : ∀ (S1 : St) (E1 : Ex) (adX1 adM1 : Nat → Nat) (H1 : Heap) (locs1 : List Loc), LW2 G A adX1 adM1 x0 m0 S1 E1 S1 H1 → INV S1 E1 → va_S A s.heap H1 locs1 → W p l e room_1 s m #[Value.ref b] below meth c H1 locs1 (cells + 2) (slots + 13) Q (F0 m 816 ls [])) : W p l e room_1 s m #[Value.ref b] below meth c H locs cells slots Q (F0 m 341 ls []) := by
  have hx := cx.1.1
  have hb := cx.1.2.1
  obtain ⟨hPX, hPM, hd, hx0, hm0⟩ := hLS
  obtain ⟨hc1, hc2⟩ := hc
  refine lv_aload_n hx hb dL_law_341 rfl (lv_at hl 1 rfl) ?_
  refine lv_aload_n hx hb dL_law_342 rfl (lv_at hl 0 rfl) ?_
  refine lv_iload_n hx hb dL_law_343 rfl (lv_at hl 3 rfl) ?_
  refine lv_iconst (v := 1) hx hb dL_law_344 (by decide) ?_
  refine lv_iadd hx hb dL_law_345 ?_
  refine w_nrm (y := nI (i + 1)) (nI_1 i) ?_
  refine l_sld cx hX hbl hbA hS (i + 1) (by omega) (by omega) dL_law_346 ?_
  refine lv_aload_n hx hb dL_law_347 rfl (lv_at hl 0 rfl) ?_
  refine lv_iload_n hx hb dL_law_348 rfl (lv_at hl 3 rfl) ?_
  refine lv_iconst (v := 2) hx hb dL_law_349 (by decide) ?_
  refine lv_iadd hx hb dL_law_350 ?_
  refine w_nrm (y := nI (i + 2)) (by rw [← nI_add]; rfl) ?_
  refine l_sld cx hX hbl hbA hS (i + 2) (by omega) (by omega) dL_law_351 ?_
  refine l_callV (As := [.int (xs (i + 1)), .int (xs (i + 2))]) (rest := []) (st := [.int ((V_move S (xs (i + 1)) (xs (i + 2))).1)]) cx (cl_X2_move l G adX S E hI (xs (i + 1)) (xs (i + 2))) k_176 cal_yX2_move (ci := 2) rfl (cX_lo 0 (by decide) rfl) hPX hPM hd hS hA rfl ⟨Nat.le_of_ble_eq_true rfl, Nat.le_of_ble_eq_true rfl⟩ hl.1 (Nat.le_of_ble_eq_true rfl) ⟨(show cells + 0 ≤ 600000 by omega), (show slots + 0 ≤ 7302250 by omega)⟩ (by rw [hx0]; rfl) rfl dL_law_352 (fun adX1 H locs hX1 hPX hPM hd hS => ?_)
  have hx0 : adX1 0 = x0 := by rw [hX1]; exact hx0
  refine lv_aload_n hx hb dL_law_355 rfl (lv_at hl 2 rfl) ?_
  refine lv_aload_n hx hb dL_law_356 rfl (lv_at hl 0 rfl) ?_
  refine lv_iload_n hx hb dL_law_357 rfl (lv_at hl 3 rfl) ?_
  refine lv_iconst (v := 1) hx hb dL_law_358 (by decide) ?_
  refine lv_iadd hx hb dL_law_359 ?_
  refine w_nrm (y := nI (i + 1)) (nI_1 i) ?_
  refine l_sld cx hX hbl hbA hS (i + 1) (by omega) (by omega) dL_law_360 ?_
  refine lv_aload_n hx hb dL_law_361 rfl (lv_at hl 0 rfl) ?_
  refine lv_iload_n hx hb dL_law_362 rfl (lv_at hl 3 rfl) ?_
  refine lv_iconst (v := 2) hx hb dL_law_363 (by decide) ?_
  refine lv_iadd hx hb dL_law_364 ?_
  refine w_nrm (y := nI (i + 2)) (by rw [← nI_add]; rfl) ?_
  refine l_sld cx hX hbl hbA hS (i + 2) (by omega) (by omega) dL_law_365 ?_
  refine l_callV (As := [.int (xs (i + 1)), .int (xs (i + 2))]) (rest := [.int ((V_move S (xs (i + 1)) (xs (i + 2))).1)]) (st := [.int ((V_move S (xs (i + 1)) (xs (i + 2))).1), .int ((V_move S (xs (i + 1)) (xs (i + 2))).1)]) cx (cl_X3_move l G adM S E hI (xs (i + 1)) (xs (i + 2))) k_567 cal_yX3_move (ci := 3) rfl cM_0 hPM hPX hd.symm hS hA rfl ⟨Nat.le_of_ble_eq_true rfl, Nat.le_of_ble_eq_true rfl⟩ hl.1 (Nat.le_of_ble_eq_true rfl) ⟨(show cells + 0 + 0 ≤ 600000 by omega), (show slots + 0 + 0 ≤ 7302250 by omega)⟩ (by rw [hm0]; rfl) rfl dL_law_366 (fun adM1 H locs hX2 hPM hPX hd hS => ?_)
  have hm0 : adM1 0 = m0 := by rw [hX2]; exact hm0
  refine lv_icmp_eq (tgt := 816) hx hb dL_law_369 (by decide) (fun _ => ?_) (fun c_9 => absurd rfl c_9)
  refine W.widen (k := cells + 2) (n := slots + 13) (by omega) (by omega) ?_
  exact kk _ _ _ _ _ _ ⟨hPX, hPM, hd.symm, hx0, hm0⟩ (iv_move hI (xs (i + 1)) (xs (i + 2))) hS
set_option maxRecDepth 20000 in
theorem lc_6 {p : Program} {l : Launch} {e : Env} {s : State} {m : MethodId} {below : List Frame} {meth : Method} {c : Code} {b Lx : Nat} {xs : Nat → Int32} {G : GG} {A : Nat → Prop} (cx : Cx p s m #[Value.ref b] c code 4 RL G) (hX : va_X b Lx xs s s.heap) (hbl : b < s.heap.size) (hbA : ¬ A b) (hA : ∀ q, s.heap.size ≤ q → A q) {i : Nat} (hi : i + 4 < Lx) (hL2 : Lx ≤ 2560) {cells slots : Nat} (hc : cells + 2 ≤ 600000 ∧ slots + 13 ≤ 7302250) {S : St} {E : Ex} {adX adM : Nat → Nat} {x0 m0 : Nat} {H : Heap} {locs : List Loc} (hLS : LW2 G A adX adM x0 m0 S E S H) (hI : INV S E) (hS : va_S A s.heap H locs) {ls : Array Slot} (hl : lv_has ls 4 [(0, .ref b), (1, .ref x0), (2, .ref m0), (3, .int (nI i))]) {Q : State → Prop} (kk : ∀ (S1 : St) (E1 : Ex) (adX1 adM1 : Nat → Nat) (H1 : Heap) (locs1 : List Loc), LW2 G A adX1 adM1 x0 m0 S1 E1 S1 H1 → INV S1 E1 → va_S A s.heap H1 locs1 → W p l e room_1 s m #[Value.ref b] below meth c H1 locs1 (cells + 2) (slots + 13) Q (F0 m 816 ls [])) : W p l e room_1 s m #[Value.ref b] below meth c H locs cells slots Q (F0 m 374 ls []) := by
  have hx := cx.1.1
  have hb := cx.1.2.1
  obtain ⟨hPX, hPM, hd, hx0, hm0⟩ := hLS
  obtain ⟨hc1, hc2⟩ := hc
  refine lv_aload_n hx hb dL_law_374 rfl (lv_at hl 1 rfl) ?_
  refine lv_aload_n hx hb dL_law_375 rfl (lv_at hl 0 rfl) ?_
  refine lv_iload_n hx hb dL_law_376 rfl (lv_at hl 3 rfl) ?_
  refine lv_iconst (v := 1) hx hb dL_law_377 (by decide) ?_
  refine lv_iadd hx hb dL_law_378 ?_
  refine w_nrm (y := nI (i + 1)) (nI_1 i) ?_
  refine l_sld cx hX hbl hbA hS (i + 1) (by omega) (by omega) dL_law_379 ?_
  refine lv_aload_n hx hb dL_law_380 rfl (lv_at hl 0 rfl) ?_
  refine lv_iload_n hx hb dL_law_381 rfl (lv_at hl 3 rfl) ?_
  refine lv_iconst (v := 2) hx hb dL_law_382 (by decide) ?_
  refine lv_iadd hx hb dL_law_383 ?_
  refine w_nrm (y := nI (i + 2)) (by rw [← nI_add]; rfl) ?_
  refine l_sld cx hX hbl hbA hS (i + 2) (by omega) (by omega) dL_law_384 ?_
  refine lv_aload_n hx hb dL_law_385 rfl (lv_at hl 0 rfl) ?_
  refine lv_iload_n hx hb dL_law_386 rfl (lv_at hl 3 rfl) ?_
  refine lv_iconst (v := 3) hx hb dL_law_387 (by decide) ?_
  refine lv_iadd hx hb dL_law_388 ?_
  refine w_nrm (y := nI (i + 3)) (by rw [← nI_add]; rfl) ?_
  refine l_sld cx hX hbl hbA hS (i + 3) (by omega) (by omega) dL_law_389 ?_
  refine lv_aload_n hx hb dL_law_390 rfl (lv_at hl 0 rfl) ?_
  refine lv_iload_n hx hb dL_law_391 rfl (lv_at hl 3 rfl) ?_
  refine lv_iconst (v := 4) hx hb dL_law_392 (by decide) ?_
  refine lv_iadd hx hb dL_law_393 ?_
  refine w_nrm (y := nI (i + 4)) (by rw [← nI_add]; rfl) ?_
  refine l_sld cx hX hbl hbA hS (i + 4) (by omega) (by omega) dL_law_394 ?_
  refine l_callV (As := [.int (xs (i + 1)), .int (xs (i + 2)), .int (xs (i + 3)), .int (xs (i + 4))]) (rest := []) (st := [.int ((V_trial S (xs (i + 1)) (xs (i + 2)) (xs (i + 3)) (xs (i + 4))).1)]) cx (cl_X2_trial l G adX S E hI (xs (i + 1)) (xs (i + 2)) (xs (i + 3)) (xs (i + 4))) k_184 cal_yX2_trial (ci := 2) rfl (cX_lo 0 (by decide) rfl) hPX hPM hd hS hA rfl ⟨Nat.le_of_ble_eq_true rfl, Nat.le_of_ble_eq_true rfl⟩ hl.1 (Nat.le_of_ble_eq_true rfl) ⟨(show cells + 1 ≤ 600000 by omega), (show slots + 10 ≤ 7302250 by omega)⟩ (by rw [hx0]; rfl) rfl dL_law_395 (fun adX1 H locs hX1 hPX hPM hd hS => ?_)
  have hx0 : adX1 0 = x0 := hX1.trans hx0
  refine lv_aload_n hx hb dL_law_398 rfl (lv_at hl 2 rfl) ?_
  refine lv_aload_n hx hb dL_law_399 rfl (lv_at hl 0 rfl) ?_
  refine lv_iload_n hx hb dL_law_400 rfl (lv_at hl 3 rfl) ?_
  refine lv_iconst (v := 1) hx hb dL_law_401 (by decide) ?_
  refine lv_iadd hx hb dL_law_402 ?_
  refine w_nrm (y := nI (i + 1)) (nI_1 i) ?_
  refine l_sld cx hX hbl hbA hS (i + 1) (by omega) (by omega) dL_law_403 ?_
  refine lv_aload_n hx hb dL_law_404 rfl (lv_at hl 0 rfl) ?_
  refine lv_iload_n hx hb dL_law_405 rfl (lv_at hl 3 rfl) ?_
  refine lv_iconst (v := 2) hx hb dL_law_406 (by decide) ?_
  refine lv_iadd hx hb dL_law_407 ?_
  refine w_nrm (y := nI (i + 2)) (by rw [← nI_add]; rfl) ?_
  refine l_sld cx hX hbl hbA hS (i + 2) (by omega) (by omega) dL_law_408 ?_
  refine lv_aload_n hx hb dL_law_409 rfl (lv_at hl 0 rfl) ?_
  refine lv_iload_n hx hb dL_law_410 rfl (lv_at hl 3 rfl) ?_
  refine lv_iconst (v := 3) hx hb dL_law_411 (by decide) ?_
  refine lv_iadd hx hb dL_law_412 ?_
  refine w_nrm (y := nI (i + 3)) (by rw [← nI_add]; rfl) ?_
  refine l_sld cx hX hbl hbA hS (i + 3) (by omega) (by omega) dL_law_413 ?_
  refine lv_aload_n hx hb dL_law_414 rfl (lv_at hl 0 rfl) ?_
  refine lv_iload_n hx hb dL_law_415 rfl (lv_at hl 3 rfl) ?_
  refine lv_iconst (v := 4) hx hb dL_law_416 (by decide) ?_
  refine lv_iadd hx hb dL_law_417 ?_
  refine w_nrm (y := nI (i + 4)) (by rw [← nI_add]; rfl) ?_
  refine l_sld cx hX hbl hbA hS (i + 4) (by omega) (by omega) dL_law_418 ?_
  refine l_callV (As := [.int (xs (i + 1)), .int (xs (i + 2)), .int (xs (i + 3)), .int (xs (i + 4))]) (rest := [.int ((V_trial S (xs (i + 1)) (xs (i + 2)) (xs (i + 3)) (xs (i + 4))).1)]) (st := [.int ((V_trial S (xs (i + 1)) (xs (i + 2)) (xs (i + 3)) (xs (i + 4))).1), .int ((V_trial S (xs (i + 1)) (xs (i + 2)) (xs (i + 3)) (xs (i + 4))).1)]) cx (cl_X3_trial l G adM S E hI (xs (i + 1)) (xs (i + 2)) (xs (i + 3)) (xs (i + 4))) k_575 cal_yX3_trial (ci := 3) rfl cM_0 hPM hPX hd.symm hS hA rfl ⟨Nat.le_of_ble_eq_true rfl, Nat.le_of_ble_eq_true rfl⟩ hl.1 (Nat.le_of_ble_eq_true rfl) ⟨(show cells + 1 + 0 ≤ 600000 by omega), (show slots + 10 + 0 ≤ 7302250 by omega)⟩ (by rw [hm0]; rfl) rfl dL_law_419 (fun adM1 H locs hX2 hPM hPX hd hS => ?_)
  have hm0 : adM1 0 = m0 := by rw [hX2]; exact hm0
  refine lv_icmp_eq (tgt := 816) hx hb dL_law_422 (by decide) (fun _ => ?_) (fun c_9 => absurd rfl c_9)
  refine W.widen (k := cells + 2) (n := slots + 13) (by omega) (by omega) ?_
  exact kk _ _ _ _ _ _ ⟨hPX, hPM, hd.symm, hx0, hm0⟩ (iv_trial hI (xs (i + 1)) (xs (i + 2)) (xs (i + 3)) (xs (i + 4))) hS
set_option maxRecDepth 20000 in
theorem lc_7 {p : Program} {l : Launch} {e : Env} {s : State} {m : MethodId} {below : List Frame} {meth : Method} {c : Code} {b Lx : Nat} {xs : Nat → Int32} {G : GG} {A : Nat → Prop} (cx : Cx p s m #[Value.ref b] c code 4 RL G) (hX : va_X b Lx xs s s.heap) (hbl : b < s.heap.size) (hbA : ¬ A b) (hA : ∀ q, s.heap.size ≤ q → A q) {i : Nat} (hi : i + 4 < Lx) (hL2 : Lx ≤ 2560) {cells slots : Nat} (hc : cells + 2 ≤ 600000 ∧ slots + 13 ≤ 7302250) {S : St} {E : Ex} {adX adM : Nat → Nat} {x0 m0 : Nat} {H : Heap} {locs : List Loc} (hLS : LW2 G A adX adM x0 m0 S E S H) (hI : INV S E) (hS : va_S A s.heap H locs) {ls : Array Slot} (hl : lv_has ls 4 [(0, .ref b), (1, .ref x0), (2, .ref m0), (3, .int (nI i))]) {Q : State → Prop} (kk : ∀ (S1 : St) (E1 : Ex) (adX1 adM1 : Nat → Nat) (H1 : Heap) (locs1 : List Loc), LW2 G A adX1 adM1 x0 m0 S1 E1 S1 H1 → INV S1 E1 → va_S A s.heap H1 locs1 → W p l e room_1 s m #[Value.ref b] below meth c H1 locs1 (cells + 2) (slots + 13) Q (F0 m 816 ls [])) : W p l e room_1 s m #[Value.ref b] below meth c H locs cells slots Q (F0 m 427 ls []) := by
  have hx := cx.1.1
  have hb := cx.1.2.1
  obtain ⟨hPX, hPM, hd, hx0, hm0⟩ := hLS
  obtain ⟨hc1, hc2⟩ := hc
  refine lv_aload_n hx hb dL_law_427 rfl (lv_at hl 1 rfl) ?_
  refine lv_aload_n hx hb dL_law_428 rfl (lv_at hl 0 rfl) ?_
  refine lv_iload_n hx hb dL_law_429 rfl (lv_at hl 3 rfl) ?_
  refine lv_iconst (v := 1) hx hb dL_law_430 (by decide) ?_
  refine lv_iadd hx hb dL_law_431 ?_
  refine w_nrm (y := nI (i + 1)) (nI_1 i) ?_
  refine l_sld cx hX hbl hbA hS (i + 1) (by omega) (by omega) dL_law_432 ?_
  refine lv_aload_n hx hb dL_law_433 rfl (lv_at hl 0 rfl) ?_
  refine lv_iload_n hx hb dL_law_434 rfl (lv_at hl 3 rfl) ?_
  refine lv_iconst (v := 2) hx hb dL_law_435 (by decide) ?_
  refine lv_iadd hx hb dL_law_436 ?_
  refine w_nrm (y := nI (i + 2)) (by rw [← nI_add]; rfl) ?_
  refine l_sld cx hX hbl hbA hS (i + 2) (by omega) (by omega) dL_law_437 ?_
  refine w_callV (a := adX 0) (As := [.int (xs (i + 1)), .int (xs (i + 2))]) (rest := []) (st := [.int (V_told S (xs (i + 1)) (xs (i + 2)))]) cx (cl_X2_told l G adX S E hI (xs (i + 1)) (xs (i + 2))) k_316 cal_yX2_told (ci := 2) rfl (hPX.pa 0 _ (cX_lo 0 (by decide) rfl)) hPX.pa rfl ⟨Nat.le_of_ble_eq_true rfl, Nat.le_of_ble_eq_true rfl⟩ hl.1 (Nat.le_of_ble_eq_true rfl) ⟨(show cells ≤ 600000 by omega), (show slots ≤ 7302250 by omega)⟩ (by rw [hx0]; rfl) rfl dL_law_438 ?_
  refine lv_aload_n hx hb dL_law_441 rfl (lv_at hl 2 rfl) ?_
  refine lv_aload_n hx hb dL_law_442 rfl (lv_at hl 0 rfl) ?_
  refine lv_iload_n hx hb dL_law_443 rfl (lv_at hl 3 rfl) ?_
  refine lv_iconst (v := 1) hx hb dL_law_444 (by decide) ?_
  refine lv_iadd hx hb dL_law_445 ?_
  refine w_nrm (y := nI (i + 1)) (nI_1 i) ?_
  refine l_sld cx hX hbl hbA hS (i + 1) (by omega) (by omega) dL_law_446 ?_
  refine lv_aload_n hx hb dL_law_447 rfl (lv_at hl 0 rfl) ?_
  refine lv_iload_n hx hb dL_law_448 rfl (lv_at hl 3 rfl) ?_
  refine lv_iconst (v := 2) hx hb dL_law_449 (by decide) ?_
  refine lv_iadd hx hb dL_law_450 ?_
  refine w_nrm (y := nI (i + 2)) (by rw [← nI_add]; rfl) ?_
  refine l_sld cx hX hbl hbA hS (i + 2) (by omega) (by omega) dL_law_451 ?_
  refine w_callV (a := adM 0) (As := [.int (xs (i + 1)), .int (xs (i + 2))]) (rest := [.int (V_told S (xs (i + 1)) (xs (i + 2)))]) (st := [.int (V_told S (xs (i + 1)) (xs (i + 2))), .int (V_told S (xs (i + 1)) (xs (i + 2)))]) cx (cl_X3_told l G adM S E hI (xs (i + 1)) (xs (i + 2))) k_607 cal_yX3_told (ci := 3) rfl (hPM.pa 0 _ cM_0) hPM.pa rfl ⟨Nat.le_of_ble_eq_true rfl, Nat.le_of_ble_eq_true rfl⟩ hl.1 (Nat.le_of_ble_eq_true rfl) ⟨(show cells ≤ 600000 by omega), (show slots ≤ 7302250 by omega)⟩ (by rw [hm0]; rfl) rfl dL_law_452 ?_
  refine lv_icmp_eq (tgt := 816) hx hb dL_law_455 (by decide) (fun _ => ?_) (fun c_9 => absurd rfl c_9)
  refine W.widen (k := cells + 2) (n := slots + 13) (by omega) (by omega) ?_
  exact kk _ _ _ _ _ _ ⟨hPX, hPM, hd, hx0, hm0⟩ hI hS
set_option maxRecDepth 20000 in
theorem lc_8 {p : Program} {l : Launch} {e : Env} {s : State} {m : MethodId} {below : List Frame} {meth : Method} {c : Code} {b Lx : Nat} {xs : Nat → Int32} {G : GG} {A : Nat → Prop} (cx : Cx p s m #[Value.ref b] c code 4 RL G) (hX : va_X b Lx xs s s.heap) (hbl : b < s.heap.size) (hbA : ¬ A b) (hA : ∀ q, s.heap.size ≤ q → A q) {i : Nat} (hi : i + 4 < Lx) (hL2 : Lx ≤ 2560) {cells slots : Nat} (hc : cells + 2 ≤ 600000 ∧ slots + 13 ≤ 7302250) {S : St} {E : Ex} {adX adM : Nat → Nat} {x0 m0 : Nat} {H : Heap} {locs : List Loc} (hLS : LW2 G A adX adM x0 m0 S E S H) (hI : INV S E) (hS : va_S A s.heap H locs) {ls : Array Slot} (hl : lv_has ls 4 [(0, .ref b), (1, .ref x0), (2, .ref m0), (3, .int (nI i))]) {Q : State → Prop} (kk : ∀ (S1 : St) (E1 : Ex) (adX1 adM1 : Nat → Nat) (H1 : Heap) (locs1 : List Loc), LW2 G A adX1 adM1 x0 m0 S1 E1 S1 H1 → INV S1 E1 → va_S A s.heap H1 locs1 → W p l e room_1 s m #[Value.ref b] below meth c H1 locs1 (cells + 2) (slots + 13) Q (F0 m 816 ls [])) : W p l e room_1 s m #[Value.ref b] below meth c H locs cells slots Q (F0 m 460 ls []) := by
  have hx := cx.1.1
  have hb := cx.1.2.1
  obtain ⟨hPX, hPM, hd, hx0, hm0⟩ := hLS
  obtain ⟨hc1, hc2⟩ := hc
  refine lv_aload_n hx hb dL_law_460 rfl (lv_at hl 1 rfl) ?_
  refine lv_aload_n hx hb dL_law_461 rfl (lv_at hl 0 rfl) ?_
  refine lv_iload_n hx hb dL_law_462 rfl (lv_at hl 3 rfl) ?_
  refine lv_iconst (v := 1) hx hb dL_law_463 (by decide) ?_
  refine lv_iadd hx hb dL_law_464 ?_
  refine w_nrm (y := nI (i + 1)) (nI_1 i) ?_
  refine l_sld cx hX hbl hbA hS (i + 1) (by omega) (by omega) dL_law_465 ?_
  refine w_callV (a := adX 0) (As := [.int (xs (i + 1))]) (rest := []) (st := [.int (V_error S (xs (i + 1)))]) cx (cl_X2_error l G adX S E hI (xs (i + 1))) k_320 cal_yX2_error (ci := 2) rfl (hPX.pa 0 _ (cX_lo 0 (by decide) rfl)) hPX.pa rfl ⟨Nat.le_of_ble_eq_true rfl, Nat.le_of_ble_eq_true rfl⟩ hl.1 (Nat.le_of_ble_eq_true rfl) ⟨(show cells ≤ 600000 by omega), (show slots ≤ 7302250 by omega)⟩ (by rw [hx0]; rfl) rfl dL_law_466 ?_
  refine lv_aload_n hx hb dL_law_469 rfl (lv_at hl 2 rfl) ?_
  refine lv_aload_n hx hb dL_law_470 rfl (lv_at hl 0 rfl) ?_
  refine lv_iload_n hx hb dL_law_471 rfl (lv_at hl 3 rfl) ?_
  refine lv_iconst (v := 1) hx hb dL_law_472 (by decide) ?_
  refine lv_iadd hx hb dL_law_473 ?_
  refine w_nrm (y := nI (i + 1)) (nI_1 i) ?_
  refine l_sld cx hX hbl hbA hS (i + 1) (by omega) (by omega) dL_law_474 ?_
  refine w_callV (a := adM 0) (As := [.int (xs (i + 1))]) (rest := [.int (V_error S (xs (i + 1)))]) (st := [.int (V_error S (xs (i + 1))), .int (V_error S (xs (i + 1)))]) cx (cl_X3_error l G adM S E hI (xs (i + 1))) k_611 cal_yX3_error (ci := 3) rfl (hPM.pa 0 _ cM_0) hPM.pa rfl ⟨Nat.le_of_ble_eq_true rfl, Nat.le_of_ble_eq_true rfl⟩ hl.1 (Nat.le_of_ble_eq_true rfl) ⟨(show cells ≤ 600000 by omega), (show slots ≤ 7302250 by omega)⟩ (by rw [hm0]; rfl) rfl dL_law_475 ?_
  refine lv_icmp_eq (tgt := 816) hx hb dL_law_478 (by decide) (fun _ => ?_) (fun c_9 => absurd rfl c_9)
  refine W.widen (k := cells + 2) (n := slots + 13) (by omega) (by omega) ?_
  exact kk _ _ _ _ _ _ ⟨hPX, hPM, hd, hx0, hm0⟩ hI hS
set_option maxRecDepth 20000 in
theorem lc_9 {p : Program} {l : Launch} {e : Env} {s : State} {m : MethodId} {below : List Frame} {meth : Method} {c : Code} {b Lx : Nat} {xs : Nat → Int32} {G : GG} {A : Nat → Prop} (cx : Cx p s m #[Value.ref b] c code 4 RL G) (hX : va_X b Lx xs s s.heap) (hbl : b < s.heap.size) (hbA : ¬ A b) (hA : ∀ q, s.heap.size ≤ q → A q) {i : Nat} (hi : i + 4 < Lx) (hL2 : Lx ≤ 2560) {cells slots : Nat} (hc : cells + 2 ≤ 600000 ∧ slots + 13 ≤ 7302250) {S : St} {E : Ex} {adX adM : Nat → Nat} {x0 m0 : Nat} {H : Heap} {locs : List Loc} (hLS : LW2 G A adX adM x0 m0 S E S H) (hI : INV S E) (hS : va_S A s.heap H locs) {ls : Array Slot} (hl : lv_has ls 4 [(0, .ref b), (1, .ref x0), (2, .ref m0), (3, .int (nI i))]) {Q : State → Prop} (kk : ∀ (S1 : St) (E1 : Ex) (adX1 adM1 : Nat → Nat) (H1 : Heap) (locs1 : List Loc), LW2 G A adX1 adM1 x0 m0 S1 E1 S1 H1 → INV S1 E1 → va_S A s.heap H1 locs1 → W p l e room_1 s m #[Value.ref b] below meth c H1 locs1 (cells + 2) (slots + 13) Q (F0 m 816 ls [])) : W p l e room_1 s m #[Value.ref b] below meth c H locs cells slots Q (F0 m 483 ls []) := by
  have hx := cx.1.1
  have hb := cx.1.2.1
  obtain ⟨hPX, hPM, hd, hx0, hm0⟩ := hLS
  obtain ⟨hc1, hc2⟩ := hc
  refine lv_aload_n hx hb dL_law_483 rfl (lv_at hl 1 rfl) ?_
  refine lv_aload_n hx hb dL_law_484 rfl (lv_at hl 0 rfl) ?_
  refine lv_iload_n hx hb dL_law_485 rfl (lv_at hl 3 rfl) ?_
  refine lv_iconst (v := 1) hx hb dL_law_486 (by decide) ?_
  refine lv_iadd hx hb dL_law_487 ?_
  refine w_nrm (y := nI (i + 1)) (nI_1 i) ?_
  refine l_sld cx hX hbl hbA hS (i + 1) (by omega) (by omega) dL_law_488 ?_
  refine w_callV (a := adX 0) (As := [.int (xs (i + 1))]) (rest := []) (st := [.int (V_span S (xs (i + 1)))]) cx (cl_X2_span l G adX S E hI (xs (i + 1))) k_328 cal_yX2_span (ci := 2) rfl (hPX.pa 0 _ (cX_lo 0 (by decide) rfl)) hPX.pa rfl ⟨Nat.le_of_ble_eq_true rfl, Nat.le_of_ble_eq_true rfl⟩ hl.1 (Nat.le_of_ble_eq_true rfl) ⟨(show cells ≤ 600000 by omega), (show slots ≤ 7302250 by omega)⟩ (by rw [hx0]; rfl) rfl dL_law_489 ?_
  refine lv_aload_n hx hb dL_law_492 rfl (lv_at hl 2 rfl) ?_
  refine lv_aload_n hx hb dL_law_493 rfl (lv_at hl 0 rfl) ?_
  refine lv_iload_n hx hb dL_law_494 rfl (lv_at hl 3 rfl) ?_
  refine lv_iconst (v := 1) hx hb dL_law_495 (by decide) ?_
  refine lv_iadd hx hb dL_law_496 ?_
  refine w_nrm (y := nI (i + 1)) (nI_1 i) ?_
  refine l_sld cx hX hbl hbA hS (i + 1) (by omega) (by omega) dL_law_497 ?_
  refine w_callV (a := adM 0) (As := [.int (xs (i + 1))]) (rest := [.int (V_span S (xs (i + 1)))]) (st := [.int (V_span S (xs (i + 1))), .int (V_span S (xs (i + 1)))]) cx (cl_X3_span l G adM S E hI (xs (i + 1))) k_615 cal_yX3_span (ci := 3) rfl (hPM.pa 0 _ cM_0) hPM.pa rfl ⟨Nat.le_of_ble_eq_true rfl, Nat.le_of_ble_eq_true rfl⟩ hl.1 (Nat.le_of_ble_eq_true rfl) ⟨(show cells ≤ 600000 by omega), (show slots ≤ 7302250 by omega)⟩ (by rw [hm0]; rfl) rfl dL_law_498 ?_
  refine lv_icmp_eq (tgt := 816) hx hb dL_law_501 (by decide) (fun _ => ?_) (fun c_9 => absurd rfl c_9)
  refine W.widen (k := cells + 2) (n := slots + 13) (by omega) (by omega) ?_
  exact kk _ _ _ _ _ _ ⟨hPX, hPM, hd, hx0, hm0⟩ hI hS
set_option maxRecDepth 20000 in
theorem lc_10 {p : Program} {l : Launch} {e : Env} {s : State} {m : MethodId} {below : List Frame} {meth : Method} {c : Code} {b Lx : Nat} {xs : Nat → Int32} {G : GG} {A : Nat → Prop} (cx : Cx p s m #[Value.ref b] c code 4 RL G) (hX : va_X b Lx xs s s.heap) (hbl : b < s.heap.size) (hbA : ¬ A b) (hA : ∀ q, s.heap.size ≤ q → A q) {i : Nat} (hi : i + 4 < Lx) (hL2 : Lx ≤ 2560) {cells slots : Nat} (hc : cells + 2 ≤ 600000 ∧ slots + 13 ≤ 7302250) {S : St} {E : Ex} {adX adM : Nat → Nat} {x0 m0 : Nat} {H : Heap} {locs : List Loc} (hLS : LW2 G A adX adM x0 m0 S E S H) (hI : INV S E) (hS : va_S A s.heap H locs) {ls : Array Slot} (hl : lv_has ls 4 [(0, .ref b), (1, .ref x0), (2, .ref m0), (3, .int (nI i))]) {Q : State → Prop} (kk : ∀ (S1 : St) (E1 : Ex) (adX1 adM1 : Nat → Nat) (H1 : Heap) (locs1 : List Loc), LW2 G A adX1 adM1 x0 m0 S1 E1 S1 H1 → INV S1 E1 → va_S A s.heap H1 locs1 → W p l e room_1 s m #[Value.ref b] below meth c H1 locs1 (cells + 2) (slots + 13) Q (F0 m 816 ls [])) : W p l e room_1 s m #[Value.ref b] below meth c H locs cells slots Q (F0 m 506 ls []) := by
  have hx := cx.1.1
  have hb := cx.1.2.1
  obtain ⟨hPX, hPM, hd, hx0, hm0⟩ := hLS
  obtain ⟨hc1, hc2⟩ := hc
  refine lv_aload_n hx hb dL_law_506 rfl (lv_at hl 1 rfl) ?_
  refine lv_aload_n hx hb dL_law_507 rfl (lv_at hl 0 rfl) ?_
  refine lv_iload_n hx hb dL_law_508 rfl (lv_at hl 3 rfl) ?_
  refine lv_iconst (v := 1) hx hb dL_law_509 (by decide) ?_
  refine lv_iadd hx hb dL_law_510 ?_
  refine w_nrm (y := nI (i + 1)) (nI_1 i) ?_
  refine l_sld cx hX hbl hbA hS (i + 1) (by omega) (by omega) dL_law_511 ?_
  refine w_callV (a := adX 0) (As := [.int (xs (i + 1))]) (rest := []) (st := [.int (V_settled S (xs (i + 1)))]) cx (cl_X2_settled l G adX S E hI (xs (i + 1))) k_332 cal_yX2_settled (ci := 2) rfl (hPX.pa 0 _ (cX_lo 0 (by decide) rfl)) hPX.pa rfl ⟨Nat.le_of_ble_eq_true rfl, Nat.le_of_ble_eq_true rfl⟩ hl.1 (Nat.le_of_ble_eq_true rfl) ⟨(show cells ≤ 600000 by omega), (show slots ≤ 7302250 by omega)⟩ (by rw [hx0]; rfl) rfl dL_law_512 ?_
  refine lv_aload_n hx hb dL_law_515 rfl (lv_at hl 2 rfl) ?_
  refine lv_aload_n hx hb dL_law_516 rfl (lv_at hl 0 rfl) ?_
  refine lv_iload_n hx hb dL_law_517 rfl (lv_at hl 3 rfl) ?_
  refine lv_iconst (v := 1) hx hb dL_law_518 (by decide) ?_
  refine lv_iadd hx hb dL_law_519 ?_
  refine w_nrm (y := nI (i + 1)) (nI_1 i) ?_
  refine l_sld cx hX hbl hbA hS (i + 1) (by omega) (by omega) dL_law_520 ?_
  refine w_callV (a := adM 0) (As := [.int (xs (i + 1))]) (rest := [.int (V_settled S (xs (i + 1)))]) (st := [.int (V_settled S (xs (i + 1))), .int (V_settled S (xs (i + 1)))]) cx (cl_X3_settled l G adM S E hI (xs (i + 1))) k_619 cal_yX3_settled (ci := 3) rfl (hPM.pa 0 _ cM_0) hPM.pa rfl ⟨Nat.le_of_ble_eq_true rfl, Nat.le_of_ble_eq_true rfl⟩ hl.1 (Nat.le_of_ble_eq_true rfl) ⟨(show cells ≤ 600000 by omega), (show slots ≤ 7302250 by omega)⟩ (by rw [hm0]; rfl) rfl dL_law_521 ?_
  refine lv_icmp_eq (tgt := 816) hx hb dL_law_524 (by decide) (fun _ => ?_) (fun c_9 => absurd rfl c_9)
  refine W.widen (k := cells + 2) (n := slots + 13) (by omega) (by omega) ?_
  exact kk _ _ _ _ _ _ ⟨hPX, hPM, hd, hx0, hm0⟩ hI hS
set_option maxRecDepth 20000 in
theorem lc_11 {p : Program} {l : Launch} {e : Env} {s : State} {m : MethodId} {below : List Frame} {meth : Method} {c : Code} {b Lx : Nat} {xs : Nat → Int32} {G : GG} {A : Nat → Prop} (cx : Cx p s m #[Value.ref b] c code 4 RL G) (hX : va_X b Lx xs s s.heap) (hbl : b < s.heap.size) (hbA : ¬ A b) (hA : ∀ q, s.heap.size ≤ q → A q) {i : Nat} (hi : i + 4 < Lx) (hL2 : Lx ≤ 2560) {cells slots : Nat} (hc : cells + 2 ≤ 600000 ∧ slots + 13 ≤ 7302250) {S : St} {E : Ex} {adX adM : Nat → Nat} {x0 m0 : Nat} {H : Heap} {locs : List Loc} (hLS : LW2 G A adX adM x0 m0 S E S H) (hI : INV S E) (hS : va_S A s.heap H locs) {ls : Array Slot} (hl : lv_has ls 4 [(0, .ref b), (1, .ref x0), (2, .ref m0), (3, .int (nI i))]) {Q : State → Prop} (kk : ∀ (S1 : St) (E1 : Ex) (adX1 adM1 : Nat → Nat) (H1 : Heap) (locs1 : List Loc), LW2 G A adX1 adM1 x0 m0 S1 E1 S1 H1 → INV S1 E1 → va_S A s.heap H1 locs1 → W p l e room_1 s m #[Value.ref b] below meth c H1 locs1 (cells + 2) (slots + 13) Q (F0 m 816 ls [])) : W p l e room_1 s m #[Value.ref b] below meth c H locs cells slots Q (F0 m 529 ls []) := by
  have hx := cx.1.1
  have hb := cx.1.2.1
  obtain ⟨hPX, hPM, hd, hx0, hm0⟩ := hLS
  obtain ⟨hc1, hc2⟩ := hc
  refine lv_aload_n hx hb dL_law_529 rfl (lv_at hl 1 rfl) ?_
  refine lv_aload_n hx hb dL_law_530 rfl (lv_at hl 0 rfl) ?_
  refine lv_iload_n hx hb dL_law_531 rfl (lv_at hl 3 rfl) ?_
  refine lv_iconst (v := 1) hx hb dL_law_532 (by decide) ?_
  refine lv_iadd hx hb dL_law_533 ?_
  refine w_nrm (y := nI (i + 1)) (nI_1 i) ?_
  refine l_sld cx hX hbl hbA hS (i + 1) (by omega) (by omega) dL_law_534 ?_
  refine w_callV (a := adX 0) (As := [.int (xs (i + 1))]) (rest := []) (st := [.int (V_due S (xs (i + 1)))]) cx (cl_X2_due l G adX S E hI (xs (i + 1))) k_337 cal_yX2_due (ci := 2) rfl (hPX.pa 0 _ (cX_lo 0 (by decide) rfl)) hPX.pa rfl ⟨Nat.le_of_ble_eq_true rfl, Nat.le_of_ble_eq_true rfl⟩ hl.1 (Nat.le_of_ble_eq_true rfl) ⟨(show cells ≤ 600000 by omega), (show slots ≤ 7302250 by omega)⟩ (by rw [hx0]; rfl) rfl dL_law_535 ?_
  refine lv_aload_n hx hb dL_law_538 rfl (lv_at hl 2 rfl) ?_
  refine lv_aload_n hx hb dL_law_539 rfl (lv_at hl 0 rfl) ?_
  refine lv_iload_n hx hb dL_law_540 rfl (lv_at hl 3 rfl) ?_
  refine lv_iconst (v := 1) hx hb dL_law_541 (by decide) ?_
  refine lv_iadd hx hb dL_law_542 ?_
  refine w_nrm (y := nI (i + 1)) (nI_1 i) ?_
  refine l_sld cx hX hbl hbA hS (i + 1) (by omega) (by omega) dL_law_543 ?_
  refine w_callV (a := adM 0) (As := [.int (xs (i + 1))]) (rest := [.int (V_due S (xs (i + 1)))]) (st := [.int (V_due S (xs (i + 1))), .int (V_due S (xs (i + 1)))]) cx (cl_X3_due l G adM S E hI (xs (i + 1))) k_623 cal_yX3_due (ci := 3) rfl (hPM.pa 0 _ cM_0) hPM.pa rfl ⟨Nat.le_of_ble_eq_true rfl, Nat.le_of_ble_eq_true rfl⟩ hl.1 (Nat.le_of_ble_eq_true rfl) ⟨(show cells ≤ 600000 by omega), (show slots ≤ 7302250 by omega)⟩ (by rw [hm0]; rfl) rfl dL_law_544 ?_
  refine lv_icmp_eq (tgt := 816) hx hb dL_law_547 (by decide) (fun _ => ?_) (fun c_9 => absurd rfl c_9)
  refine W.widen (k := cells + 2) (n := slots + 13) (by omega) (by omega) ?_
  exact kk _ _ _ _ _ _ ⟨hPX, hPM, hd, hx0, hm0⟩ hI hS
set_option maxRecDepth 20000 in
theorem lc_12 {p : Program} {l : Launch} {e : Env} {s : State} {m : MethodId} {below : List Frame} {meth : Method} {c : Code} {b Lx : Nat} {xs : Nat → Int32} {G : GG} {A : Nat → Prop} (cx : Cx p s m #[Value.ref b] c code 4 RL G) (hX : va_X b Lx xs s s.heap) (hbl : b < s.heap.size) (hbA : ¬ A b) (hA : ∀ q, s.heap.size ≤ q → A q) {i : Nat} (hi : i + 4 < Lx) (hL2 : Lx ≤ 2560) {cells slots : Nat} (hc : cells + 2 ≤ 600000 ∧ slots + 13 ≤ 7302250) {S : St} {E : Ex} {adX adM : Nat → Nat} {x0 m0 : Nat} {H : Heap} {locs : List Loc} (hLS : LW2 G A adX adM x0 m0 S E S H) (hI : INV S E) (hS : va_S A s.heap H locs) {ls : Array Slot} (hl : lv_has ls 4 [(0, .ref b), (1, .ref x0), (2, .ref m0), (3, .int (nI i))]) {Q : State → Prop} (kk : ∀ (S1 : St) (E1 : Ex) (adX1 adM1 : Nat → Nat) (H1 : Heap) (locs1 : List Loc), LW2 G A adX1 adM1 x0 m0 S1 E1 S1 H1 → INV S1 E1 → va_S A s.heap H1 locs1 → W p l e room_1 s m #[Value.ref b] below meth c H1 locs1 (cells + 2) (slots + 13) Q (F0 m 816 ls [])) : W p l e room_1 s m #[Value.ref b] below meth c H locs cells slots Q (F0 m 552 ls []) := by
  have hx := cx.1.1
  have hb := cx.1.2.1
  obtain ⟨hPX, hPM, hd, hx0, hm0⟩ := hLS
  obtain ⟨hc1, hc2⟩ := hc
  refine lv_aload_n hx hb dL_law_552 rfl (lv_at hl 1 rfl) ?_
  refine lv_aload_n hx hb dL_law_553 rfl (lv_at hl 0 rfl) ?_
  refine lv_iload_n hx hb dL_law_554 rfl (lv_at hl 3 rfl) ?_
  refine lv_iconst (v := 1) hx hb dL_law_555 (by decide) ?_
  refine lv_iadd hx hb dL_law_556 ?_
  refine w_nrm (y := nI (i + 1)) (nI_1 i) ?_
  refine l_sld cx hX hbl hbA hS (i + 1) (by omega) (by omega) dL_law_557 ?_
  refine w_callV (a := adX 0) (As := [.int (xs (i + 1))]) (rest := []) (st := [.int (V_left S (xs (i + 1)))]) cx (cl_X2_left l G adX S E hI (xs (i + 1))) k_342 cal_yX2_left (ci := 2) rfl (hPX.pa 0 _ (cX_lo 0 (by decide) rfl)) hPX.pa rfl ⟨Nat.le_of_ble_eq_true rfl, Nat.le_of_ble_eq_true rfl⟩ hl.1 (Nat.le_of_ble_eq_true rfl) ⟨(show cells ≤ 600000 by omega), (show slots ≤ 7302250 by omega)⟩ (by rw [hx0]; rfl) rfl dL_law_558 ?_
  refine lv_aload_n hx hb dL_law_561 rfl (lv_at hl 2 rfl) ?_
  refine lv_aload_n hx hb dL_law_562 rfl (lv_at hl 0 rfl) ?_
  refine lv_iload_n hx hb dL_law_563 rfl (lv_at hl 3 rfl) ?_
  refine lv_iconst (v := 1) hx hb dL_law_564 (by decide) ?_
  refine lv_iadd hx hb dL_law_565 ?_
  refine w_nrm (y := nI (i + 1)) (nI_1 i) ?_
  refine l_sld cx hX hbl hbA hS (i + 1) (by omega) (by omega) dL_law_566 ?_
  refine w_callV (a := adM 0) (As := [.int (xs (i + 1))]) (rest := [.int (V_left S (xs (i + 1)))]) (st := [.int (V_left S (xs (i + 1))), .int (V_left S (xs (i + 1)))]) cx (cl_X3_left l G adM S E hI (xs (i + 1))) k_627 cal_yX3_left (ci := 3) rfl (hPM.pa 0 _ cM_0) hPM.pa rfl ⟨Nat.le_of_ble_eq_true rfl, Nat.le_of_ble_eq_true rfl⟩ hl.1 (Nat.le_of_ble_eq_true rfl) ⟨(show cells ≤ 600000 by omega), (show slots ≤ 7302250 by omega)⟩ (by rw [hm0]; rfl) rfl dL_law_567 ?_
  refine lv_icmp_eq (tgt := 816) hx hb dL_law_570 (by decide) (fun _ => ?_) (fun c_9 => absurd rfl c_9)
  refine W.widen (k := cells + 2) (n := slots + 13) (by omega) (by omega) ?_
  exact kk _ _ _ _ _ _ ⟨hPX, hPM, hd, hx0, hm0⟩ hI hS
set_option maxRecDepth 20000 in
theorem lc_13 {p : Program} {l : Launch} {e : Env} {s : State} {m : MethodId} {below : List Frame} {meth : Method} {c : Code} {b Lx : Nat} {xs : Nat → Int32} {G : GG} {A : Nat → Prop} (cx : Cx p s m #[Value.ref b] c code 4 RL G) (hX : va_X b Lx xs s s.heap) (hbl : b < s.heap.size) (hbA : ¬ A b) (hA : ∀ q, s.heap.size ≤ q → A q) {i : Nat} (hi : i + 4 < Lx) (hL2 : Lx ≤ 2560) {cells slots : Nat} (hc : cells + 2 ≤ 600000 ∧ slots + 13 ≤ 7302250) {S : St} {E : Ex} {adX adM : Nat → Nat} {x0 m0 : Nat} {H : Heap} {locs : List Loc} (hLS : LW2 G A adX adM x0 m0 S E S H) (hI : INV S E) (hS : va_S A s.heap H locs) {ls : Array Slot} (hl : lv_has ls 4 [(0, .ref b), (1, .ref x0), (2, .ref m0), (3, .int (nI i))]) {Q : State → Prop} (kk : ∀ (S1 : St) (E1 : Ex) (adX1 adM1 : Nat → Nat) (H1 : Heap) (locs1 : List Loc), LW2 G A adX1 adM1 x0 m0 S1 E1 S1 H1 → INV S1 E1 → va_S A s.heap H1 locs1 → W p l e room_1 s m #[Value.ref b] below meth c H1 locs1 (cells + 2) (slots + 13) Q (F0 m 816 ls [])) : W p l e room_1 s m #[Value.ref b] below meth c H locs cells slots Q (F0 m 575 ls []) := by
  have hx := cx.1.1
  have hb := cx.1.2.1
  obtain ⟨hPX, hPM, hd, hx0, hm0⟩ := hLS
  obtain ⟨hc1, hc2⟩ := hc
  refine lv_aload_n hx hb dL_law_575 rfl (lv_at hl 1 rfl) ?_
  refine lv_aload_n hx hb dL_law_576 rfl (lv_at hl 0 rfl) ?_
  refine lv_iload_n hx hb dL_law_577 rfl (lv_at hl 3 rfl) ?_
  refine lv_iconst (v := 1) hx hb dL_law_578 (by decide) ?_
  refine lv_iadd hx hb dL_law_579 ?_
  refine w_nrm (y := nI (i + 1)) (nI_1 i) ?_
  refine l_sld cx hX hbl hbA hS (i + 1) (by omega) (by omega) dL_law_580 ?_
  refine lv_aload_n hx hb dL_law_581 rfl (lv_at hl 0 rfl) ?_
  refine lv_iload_n hx hb dL_law_582 rfl (lv_at hl 3 rfl) ?_
  refine lv_iconst (v := 2) hx hb dL_law_583 (by decide) ?_
  refine lv_iadd hx hb dL_law_584 ?_
  refine w_nrm (y := nI (i + 2)) (by rw [← nI_add]; rfl) ?_
  refine l_sld cx hX hbl hbA hS (i + 2) (by omega) (by omega) dL_law_585 ?_
  refine w_callV (a := adX 0) (As := [.int (xs (i + 1)), .int (xs (i + 2))]) (rest := []) (st := [.int (V_chain S (xs (i + 1)) (xs (i + 2)))]) cx (cl_X2_chain l G adX S E hI (xs (i + 1)) (xs (i + 2))) k_347 cal_yX2_chain (ci := 2) rfl (hPX.pa 0 _ (cX_lo 0 (by decide) rfl)) hPX.pa rfl ⟨Nat.le_of_ble_eq_true rfl, Nat.le_of_ble_eq_true rfl⟩ hl.1 (Nat.le_of_ble_eq_true rfl) ⟨(show cells ≤ 600000 by omega), (show slots ≤ 7302250 by omega)⟩ (by rw [hx0]; rfl) rfl dL_law_586 ?_
  refine lv_aload_n hx hb dL_law_589 rfl (lv_at hl 2 rfl) ?_
  refine lv_aload_n hx hb dL_law_590 rfl (lv_at hl 0 rfl) ?_
  refine lv_iload_n hx hb dL_law_591 rfl (lv_at hl 3 rfl) ?_
  refine lv_iconst (v := 1) hx hb dL_law_592 (by decide) ?_
  refine lv_iadd hx hb dL_law_593 ?_
  refine w_nrm (y := nI (i + 1)) (nI_1 i) ?_
  refine l_sld cx hX hbl hbA hS (i + 1) (by omega) (by omega) dL_law_594 ?_
  refine lv_aload_n hx hb dL_law_595 rfl (lv_at hl 0 rfl) ?_
  refine lv_iload_n hx hb dL_law_596 rfl (lv_at hl 3 rfl) ?_
  refine lv_iconst (v := 2) hx hb dL_law_597 (by decide) ?_
  refine lv_iadd hx hb dL_law_598 ?_
  refine w_nrm (y := nI (i + 2)) (by rw [← nI_add]; rfl) ?_
  refine l_sld cx hX hbl hbA hS (i + 2) (by omega) (by omega) dL_law_599 ?_
  refine w_callV (a := adM 0) (As := [.int (xs (i + 1)), .int (xs (i + 2))]) (rest := [.int (V_chain S (xs (i + 1)) (xs (i + 2)))]) (st := [.int (V_chain S (xs (i + 1)) (xs (i + 2))), .int (V_chain S (xs (i + 1)) (xs (i + 2)))]) cx (cl_X3_chain l G adM S E hI (xs (i + 1)) (xs (i + 2))) k_631 cal_yX3_chain (ci := 3) rfl (hPM.pa 0 _ cM_0) hPM.pa rfl ⟨Nat.le_of_ble_eq_true rfl, Nat.le_of_ble_eq_true rfl⟩ hl.1 (Nat.le_of_ble_eq_true rfl) ⟨(show cells ≤ 600000 by omega), (show slots ≤ 7302250 by omega)⟩ (by rw [hm0]; rfl) rfl dL_law_600 ?_
  refine lv_icmp_eq (tgt := 816) hx hb dL_law_603 (by decide) (fun _ => ?_) (fun c_9 => absurd rfl c_9)
  refine W.widen (k := cells + 2) (n := slots + 13) (by omega) (by omega) ?_
  exact kk _ _ _ _ _ _ ⟨hPX, hPM, hd, hx0, hm0⟩ hI hS
set_option maxRecDepth 20000 in
theorem lc_14 {p : Program} {l : Launch} {e : Env} {s : State} {m : MethodId} {below : List Frame} {meth : Method} {c : Code} {b Lx : Nat} {xs : Nat → Int32} {G : GG} {A : Nat → Prop} (cx : Cx p s m #[Value.ref b] c code 4 RL G) (hX : va_X b Lx xs s s.heap) (hbl : b < s.heap.size) (hbA : ¬ A b) (hA : ∀ q, s.heap.size ≤ q → A q) {i : Nat} (hi : i + 4 < Lx) (hL2 : Lx ≤ 2560) {cells slots : Nat} (hc : cells + 2 ≤ 600000 ∧ slots + 13 ≤ 7302250) {S : St} {E : Ex} {adX adM : Nat → Nat} {x0 m0 : Nat} {H : Heap} {locs : List Loc} (hLS : LW2 G A adX adM x0 m0 S E S H) (hI : INV S E) (hS : va_S A s.heap H locs) {ls : Array Slot} (hl : lv_has ls 4 [(0, .ref b), (1, .ref x0), (2, .ref m0), (3, .int (nI i))]) {Q : State → Prop} (kk : ∀ (S1 : St) (E1 : Ex) (adX1 adM1 : Nat → Nat) (H1 : Heap) (locs1 : List Loc), LW2 G A adX1 adM1 x0 m0 S1 E1 S1 H1 → INV S1 E1 → va_S A s.heap H1 locs1 → W p l e room_1 s m #[Value.ref b] below meth c H1 locs1 (cells + 2) (slots + 13) Q (F0 m 816 ls [])) : W p l e room_1 s m #[Value.ref b] below meth c H locs cells slots Q (F0 m 608 ls []) := by
  have hx := cx.1.1
  have hb := cx.1.2.1
  obtain ⟨hPX, hPM, hd, hx0, hm0⟩ := hLS
  obtain ⟨hc1, hc2⟩ := hc
  refine lv_aload_n hx hb dL_law_608 rfl (lv_at hl 1 rfl) ?_
  refine w_callV (a := adX 0) (As := []) (rest := []) (st := [.int (f_X3_unsettled S)]) cx (cl_X2_unsettled l G adX S E hI ) k_351 cal_yX2_unsettled (ci := 2) rfl (hPX.pa 0 _ (cX_lo 0 (by decide) rfl)) hPX.pa rfl ⟨Nat.le_of_ble_eq_true rfl, Nat.le_of_ble_eq_true rfl⟩ hl.1 (Nat.le_of_ble_eq_true rfl) ⟨(show cells ≤ 600000 by omega), (show slots ≤ 7302250 by omega)⟩ (by rw [hx0]; rfl) rfl dL_law_609 ?_
  refine lv_aload_n hx hb dL_law_612 rfl (lv_at hl 2 rfl) ?_
  refine w_callV (a := adM 0) (As := []) (rest := [.int (f_X3_unsettled S)]) (st := [.int (f_X3_unsettled S), .int (f_X3_unsettled S)]) cx (cl_X3_unsettled l G adM S E hI ) k_635 cal_yX3_unsettled (ci := 3) rfl (hPM.pa 0 _ cM_0) hPM.pa rfl ⟨Nat.le_of_ble_eq_true rfl, Nat.le_of_ble_eq_true rfl⟩ hl.1 (Nat.le_of_ble_eq_true rfl) ⟨(show cells ≤ 600000 by omega), (show slots ≤ 7302250 by omega)⟩ (by rw [hm0]; rfl) rfl dL_law_613 ?_
  refine lv_icmp_eq (tgt := 816) hx hb dL_law_616 (by decide) (fun _ => ?_) (fun c_9 => absurd rfl c_9)
  refine W.widen (k := cells + 2) (n := slots + 13) (by omega) (by omega) ?_
  exact kk _ _ _ _ _ _ ⟨hPX, hPM, hd, hx0, hm0⟩ hI hS
set_option maxRecDepth 20000 in
theorem lc_15 {p : Program} {l : Launch} {e : Env} {s : State} {m : MethodId} {below : List Frame} {meth : Method} {c : Code} {b Lx : Nat} {xs : Nat → Int32} {G : GG} {A : Nat → Prop} (cx : Cx p s m #[Value.ref b] c code 4 RL G) (hX : va_X b Lx xs s s.heap) (hbl : b < s.heap.size) (hbA : ¬ A b) (hA : ∀ q, s.heap.size ≤ q → A q) {i : Nat} (hi : i + 4 < Lx) (hL2 : Lx ≤ 2560) {cells slots : Nat} (hc : cells + 2 ≤ 600000 ∧ slots + 13 ≤ 7302250) {S : St} {E : Ex} {adX adM : Nat → Nat} {x0 m0 : Nat} {H : Heap} {locs : List Loc} (hLS : LW2 G A adX adM x0 m0 S E S H) (hI : INV S E) (hS : va_S A s.heap H locs) {ls : Array Slot} (hl : lv_has ls 4 [(0, .ref b), (1, .ref x0), (2, .ref m0), (3, .int (nI i))]) {Q : State → Prop} (kk : ∀ (S1 : St) (E1 : Ex) (adX1 adM1 : Nat → Nat) (H1 : Heap) (locs1 : List Loc), LW2 G A adX1 adM1 x0 m0 S1 E1 S1 H1 → INV S1 E1 → va_S A s.heap H1 locs1 → W p l e room_1 s m #[Value.ref b] below meth c H1 locs1 (cells + 2) (slots + 13) Q (F0 m 816 ls [])) : W p l e room_1 s m #[Value.ref b] below meth c H locs cells slots Q (F0 m 621 ls []) := by
  have hx := cx.1.1
  have hb := cx.1.2.1
  obtain ⟨hPX, hPM, hd, hx0, hm0⟩ := hLS
  obtain ⟨hc1, hc2⟩ := hc
  refine lv_aload_n hx hb dL_law_621 rfl (lv_at hl 1 rfl) ?_
  refine lv_aload_n hx hb dL_law_622 rfl (lv_at hl 0 rfl) ?_
  refine lv_iload_n hx hb dL_law_623 rfl (lv_at hl 3 rfl) ?_
  refine lv_iconst (v := 1) hx hb dL_law_624 (by decide) ?_
  refine lv_iadd hx hb dL_law_625 ?_
  refine w_nrm (y := nI (i + 1)) (nI_1 i) ?_
  refine l_sld cx hX hbl hbA hS (i + 1) (by omega) (by omega) dL_law_626 ?_
  refine w_callV (a := adX 0) (As := [.int (xs (i + 1))]) (rest := []) (st := [.int (V_judge S (xs (i + 1)))]) cx (cl_X2_judge l G adX S E hI (xs (i + 1))) k_355 cal_yX2_judge (ci := 2) rfl (hPX.pa 0 _ (cX_lo 0 (by decide) rfl)) hPX.pa rfl ⟨Nat.le_of_ble_eq_true rfl, Nat.le_of_ble_eq_true rfl⟩ hl.1 (Nat.le_of_ble_eq_true rfl) ⟨(show cells ≤ 600000 by omega), (show slots ≤ 7302250 by omega)⟩ (by rw [hx0]; rfl) rfl dL_law_627 ?_
  refine lv_aload_n hx hb dL_law_630 rfl (lv_at hl 2 rfl) ?_
  refine lv_aload_n hx hb dL_law_631 rfl (lv_at hl 0 rfl) ?_
  refine lv_iload_n hx hb dL_law_632 rfl (lv_at hl 3 rfl) ?_
  refine lv_iconst (v := 1) hx hb dL_law_633 (by decide) ?_
  refine lv_iadd hx hb dL_law_634 ?_
  refine w_nrm (y := nI (i + 1)) (nI_1 i) ?_
  refine l_sld cx hX hbl hbA hS (i + 1) (by omega) (by omega) dL_law_635 ?_
  refine w_callV (a := adM 0) (As := [.int (xs (i + 1))]) (rest := [.int (V_judge S (xs (i + 1)))]) (st := [.int (V_judge S (xs (i + 1))), .int (V_judge S (xs (i + 1)))]) cx (cl_X3_judge l G adM S E hI (xs (i + 1))) k_639 cal_yX3_judge (ci := 3) rfl (hPM.pa 0 _ cM_0) hPM.pa rfl ⟨Nat.le_of_ble_eq_true rfl, Nat.le_of_ble_eq_true rfl⟩ hl.1 (Nat.le_of_ble_eq_true rfl) ⟨(show cells ≤ 600000 by omega), (show slots ≤ 7302250 by omega)⟩ (by rw [hm0]; rfl) rfl dL_law_636 ?_
  refine lv_icmp_eq (tgt := 816) hx hb dL_law_639 (by decide) (fun _ => ?_) (fun c_9 => absurd rfl c_9)
  refine W.widen (k := cells + 2) (n := slots + 13) (by omega) (by omega) ?_
  exact kk _ _ _ _ _ _ ⟨hPX, hPM, hd, hx0, hm0⟩ hI hS
set_option maxRecDepth 20000 in
theorem lc_16 {p : Program} {l : Launch} {e : Env} {s : State} {m : MethodId} {below : List Frame} {meth : Method} {c : Code} {b Lx : Nat} {xs : Nat → Int32} {G : GG} {A : Nat → Prop} (cx : Cx p s m #[Value.ref b] c code 4 RL G) (hX : va_X b Lx xs s s.heap) (hbl : b < s.heap.size) (hbA : ¬ A b) (hA : ∀ q, s.heap.size ≤ q → A q) {i : Nat} (hi : i + 4 < Lx) (hL2 : Lx ≤ 2560) {cells slots : Nat} (hc : cells + 2 ≤ 600000 ∧ slots + 13 ≤ 7302250) {S : St} {E : Ex} {adX adM : Nat → Nat} {x0 m0 : Nat} {H : Heap} {locs : List Loc} (hLS : LW2 G A adX adM x0 m0 S E S H) (hI : INV S E) (hS : va_S A s.heap H locs) {ls : Array Slot} (hl : lv_has ls 4 [(0, .ref b), (1, .ref x0), (2, .ref m0), (3, .int (nI i))]) {Q : State → Prop} (kk : ∀ (S1 : St) (E1 : Ex) (adX1 adM1 : Nat → Nat) (H1 : Heap) (locs1 : List Loc), LW2 G A adX1 adM1 x0 m0 S1 E1 S1 H1 → INV S1 E1 → va_S A s.heap H1 locs1 → W p l e room_1 s m #[Value.ref b] below meth c H1 locs1 (cells + 2) (slots + 13) Q (F0 m 816 ls [])) : W p l e room_1 s m #[Value.ref b] below meth c H locs cells slots Q (F0 m 644 ls []) := by
  have hx := cx.1.1
  have hb := cx.1.2.1
  obtain ⟨hPX, hPM, hd, hx0, hm0⟩ := hLS
  obtain ⟨hc1, hc2⟩ := hc
  refine lv_aload_n hx hb dL_law_644 rfl (lv_at hl 1 rfl) ?_
  refine lv_aload_n hx hb dL_law_645 rfl (lv_at hl 0 rfl) ?_
  refine lv_iload_n hx hb dL_law_646 rfl (lv_at hl 3 rfl) ?_
  refine lv_iconst (v := 1) hx hb dL_law_647 (by decide) ?_
  refine lv_iadd hx hb dL_law_648 ?_
  refine w_nrm (y := nI (i + 1)) (nI_1 i) ?_
  refine l_sld cx hX hbl hbA hS (i + 1) (by omega) (by omega) dL_law_649 ?_
  refine w_callV (a := adX 0) (As := [.int (xs (i + 1))]) (rest := []) (st := [.int (V_stays S (xs (i + 1)))]) cx (cl_X2_stays l G adX S E hI (xs (i + 1))) k_372 cal_yX2_stays (ci := 2) rfl (hPX.pa 0 _ (cX_lo 0 (by decide) rfl)) hPX.pa rfl ⟨Nat.le_of_ble_eq_true rfl, Nat.le_of_ble_eq_true rfl⟩ hl.1 (Nat.le_of_ble_eq_true rfl) ⟨(show cells ≤ 600000 by omega), (show slots ≤ 7302250 by omega)⟩ (by rw [hx0]; rfl) rfl dL_law_650 ?_
  refine lv_aload_n hx hb dL_law_653 rfl (lv_at hl 2 rfl) ?_
  refine lv_aload_n hx hb dL_law_654 rfl (lv_at hl 0 rfl) ?_
  refine lv_iload_n hx hb dL_law_655 rfl (lv_at hl 3 rfl) ?_
  refine lv_iconst (v := 1) hx hb dL_law_656 (by decide) ?_
  refine lv_iadd hx hb dL_law_657 ?_
  refine w_nrm (y := nI (i + 1)) (nI_1 i) ?_
  refine l_sld cx hX hbl hbA hS (i + 1) (by omega) (by omega) dL_law_658 ?_
  refine w_callV (a := adM 0) (As := [.int (xs (i + 1))]) (rest := [.int (V_stays S (xs (i + 1)))]) (st := [.int (V_stays S (xs (i + 1))), .int (V_stays S (xs (i + 1)))]) cx (cl_X3_stays l G adM S E hI (xs (i + 1))) k_651 cal_yX3_stays (ci := 3) rfl (hPM.pa 0 _ cM_0) hPM.pa rfl ⟨Nat.le_of_ble_eq_true rfl, Nat.le_of_ble_eq_true rfl⟩ hl.1 (Nat.le_of_ble_eq_true rfl) ⟨(show cells ≤ 600000 by omega), (show slots ≤ 7302250 by omega)⟩ (by rw [hm0]; rfl) rfl dL_law_659 ?_
  refine lv_icmp_eq (tgt := 816) hx hb dL_law_662 (by decide) (fun _ => ?_) (fun c_9 => absurd rfl c_9)
  refine W.widen (k := cells + 2) (n := slots + 13) (by omega) (by omega) ?_
  exact kk _ _ _ _ _ _ ⟨hPX, hPM, hd, hx0, hm0⟩ hI hS
set_option maxRecDepth 20000 in
theorem lc_17 {p : Program} {l : Launch} {e : Env} {s : State} {m : MethodId} {below : List Frame} {meth : Method} {c : Code} {b Lx : Nat} {xs : Nat → Int32} {G : GG} {A : Nat → Prop} (cx : Cx p s m #[Value.ref b] c code 4 RL G) (hX : va_X b Lx xs s s.heap) (hbl : b < s.heap.size) (hbA : ¬ A b) (hA : ∀ q, s.heap.size ≤ q → A q) {i : Nat} (hi : i + 4 < Lx) (hL2 : Lx ≤ 2560) {cells slots : Nat} (hc : cells + 2 ≤ 600000 ∧ slots + 13 ≤ 7302250) {S : St} {E : Ex} {adX adM : Nat → Nat} {x0 m0 : Nat} {H : Heap} {locs : List Loc} (hLS : LW2 G A adX adM x0 m0 S E S H) (hI : INV S E) (hS : va_S A s.heap H locs) {ls : Array Slot} (hl : lv_has ls 4 [(0, .ref b), (1, .ref x0), (2, .ref m0), (3, .int (nI i))]) {Q : State → Prop} (kk : ∀ (S1 : St) (E1 : Ex) (adX1 adM1 : Nat → Nat) (H1 : Heap) (locs1 : List Loc), LW2 G A adX1 adM1 x0 m0 S1 E1 S1 H1 → INV S1 E1 → va_S A s.heap H1 locs1 → W p l e room_1 s m #[Value.ref b] below meth c H1 locs1 (cells + 2) (slots + 13) Q (F0 m 816 ls [])) : W p l e room_1 s m #[Value.ref b] below meth c H locs cells slots Q (F0 m 667 ls []) := by
  have hx := cx.1.1
  have hb := cx.1.2.1
  obtain ⟨hPX, hPM, hd, hx0, hm0⟩ := hLS
  obtain ⟨hc1, hc2⟩ := hc
  refine lv_aload_n hx hb dL_law_667 rfl (lv_at hl 1 rfl) ?_
  refine lv_aload_n hx hb dL_law_668 rfl (lv_at hl 0 rfl) ?_
  refine lv_iload_n hx hb dL_law_669 rfl (lv_at hl 3 rfl) ?_
  refine lv_iconst (v := 1) hx hb dL_law_670 (by decide) ?_
  refine lv_iadd hx hb dL_law_671 ?_
  refine w_nrm (y := nI (i + 1)) (nI_1 i) ?_
  refine l_sld cx hX hbl hbA hS (i + 1) (by omega) (by omega) dL_law_672 ?_
  refine lv_aload_n hx hb dL_law_673 rfl (lv_at hl 0 rfl) ?_
  refine lv_iload_n hx hb dL_law_674 rfl (lv_at hl 3 rfl) ?_
  refine lv_iconst (v := 2) hx hb dL_law_675 (by decide) ?_
  refine lv_iadd hx hb dL_law_676 ?_
  refine w_nrm (y := nI (i + 2)) (by rw [← nI_add]; rfl) ?_
  refine l_sld cx hX hbl hbA hS (i + 2) (by omega) (by omega) dL_law_677 ?_
  refine l_callV (As := [.int (xs (i + 1)), .int (xs (i + 2))]) (rest := []) (st := [.int ((V_seal S (xs (i + 1)) (xs (i + 2))).1)]) cx (cl_X2_seal l G adX S E hI (xs (i + 1)) (xs (i + 2))) k_385 cal_yX2_seal (ci := 2) rfl (cX_lo 0 (by decide) rfl) hPX hPM hd hS hA rfl ⟨Nat.le_of_ble_eq_true rfl, Nat.le_of_ble_eq_true rfl⟩ hl.1 (Nat.le_of_ble_eq_true rfl) ⟨(show cells + 0 ≤ 600000 by omega), (show slots + 0 ≤ 7302250 by omega)⟩ (by rw [hx0]; rfl) rfl dL_law_678 (fun adX1 H locs hX1 hPX hPM hd hS => ?_)
  have hx0 : adX1 0 = x0 := by rw [hX1]; exact hx0
  refine lv_aload_n hx hb dL_law_681 rfl (lv_at hl 2 rfl) ?_
  refine lv_aload_n hx hb dL_law_682 rfl (lv_at hl 0 rfl) ?_
  refine lv_iload_n hx hb dL_law_683 rfl (lv_at hl 3 rfl) ?_
  refine lv_iconst (v := 1) hx hb dL_law_684 (by decide) ?_
  refine lv_iadd hx hb dL_law_685 ?_
  refine w_nrm (y := nI (i + 1)) (nI_1 i) ?_
  refine l_sld cx hX hbl hbA hS (i + 1) (by omega) (by omega) dL_law_686 ?_
  refine lv_aload_n hx hb dL_law_687 rfl (lv_at hl 0 rfl) ?_
  refine lv_iload_n hx hb dL_law_688 rfl (lv_at hl 3 rfl) ?_
  refine lv_iconst (v := 2) hx hb dL_law_689 (by decide) ?_
  refine lv_iadd hx hb dL_law_690 ?_
  refine w_nrm (y := nI (i + 2)) (by rw [← nI_add]; rfl) ?_
  refine l_sld cx hX hbl hbA hS (i + 2) (by omega) (by omega) dL_law_691 ?_
  refine l_callV (As := [.int (xs (i + 1)), .int (xs (i + 2))]) (rest := [.int ((V_seal S (xs (i + 1)) (xs (i + 2))).1)]) (st := [.int ((V_seal S (xs (i + 1)) (xs (i + 2))).1), .int ((V_seal S (xs (i + 1)) (xs (i + 2))).1)]) cx (cl_X3_seal l G adM S E hI (xs (i + 1)) (xs (i + 2))) k_655 cal_yX3_seal (ci := 3) rfl cM_0 hPM hPX hd.symm hS hA rfl ⟨Nat.le_of_ble_eq_true rfl, Nat.le_of_ble_eq_true rfl⟩ hl.1 (Nat.le_of_ble_eq_true rfl) ⟨(show cells + 0 + 0 ≤ 600000 by omega), (show slots + 0 + 0 ≤ 7302250 by omega)⟩ (by rw [hm0]; rfl) rfl dL_law_692 (fun adM1 H locs hX2 hPM hPX hd hS => ?_)
  have hm0 : adM1 0 = m0 := by rw [hX2]; exact hm0
  refine lv_icmp_eq (tgt := 816) hx hb dL_law_695 (by decide) (fun _ => ?_) (fun c_9 => absurd rfl c_9)
  refine W.widen (k := cells + 2) (n := slots + 13) (by omega) (by omega) ?_
  exact kk _ _ _ _ _ _ ⟨hPX, hPM, hd.symm, hx0, hm0⟩ (iv_seal hI (xs (i + 1)) (xs (i + 2))) hS
set_option maxRecDepth 20000 in
theorem lc_18 {p : Program} {l : Launch} {e : Env} {s : State} {m : MethodId} {below : List Frame} {meth : Method} {c : Code} {b Lx : Nat} {xs : Nat → Int32} {G : GG} {A : Nat → Prop} (cx : Cx p s m #[Value.ref b] c code 4 RL G) (hX : va_X b Lx xs s s.heap) (hbl : b < s.heap.size) (hbA : ¬ A b) (hA : ∀ q, s.heap.size ≤ q → A q) {i : Nat} (hi : i + 4 < Lx) (hL2 : Lx ≤ 2560) {cells slots : Nat} (hc : cells + 2 ≤ 600000 ∧ slots + 13 ≤ 7302250) {S : St} {E : Ex} {adX adM : Nat → Nat} {x0 m0 : Nat} {H : Heap} {locs : List Loc} (hLS : LW2 G A adX adM x0 m0 S E S H) (hI : INV S E) (hS : va_S A s.heap H locs) {ls : Array Slot} (hl : lv_has ls 4 [(0, .ref b), (1, .ref x0), (2, .ref m0), (3, .int (nI i))]) {Q : State → Prop} (kk : ∀ (S1 : St) (E1 : Ex) (adX1 adM1 : Nat → Nat) (H1 : Heap) (locs1 : List Loc), LW2 G A adX1 adM1 x0 m0 S1 E1 S1 H1 → INV S1 E1 → va_S A s.heap H1 locs1 → W p l e room_1 s m #[Value.ref b] below meth c H1 locs1 (cells + 2) (slots + 13) Q (F0 m 816 ls [])) : W p l e room_1 s m #[Value.ref b] below meth c H locs cells slots Q (F0 m 700 ls []) := by
  have hx := cx.1.1
  have hb := cx.1.2.1
  obtain ⟨hPX, hPM, hd, hx0, hm0⟩ := hLS
  obtain ⟨hc1, hc2⟩ := hc
  refine lv_aload_n hx hb dL_law_700 rfl (lv_at hl 1 rfl) ?_
  refine lv_aload_n hx hb dL_law_701 rfl (lv_at hl 0 rfl) ?_
  refine lv_iload_n hx hb dL_law_702 rfl (lv_at hl 3 rfl) ?_
  refine lv_iconst (v := 1) hx hb dL_law_703 (by decide) ?_
  refine lv_iadd hx hb dL_law_704 ?_
  refine w_nrm (y := nI (i + 1)) (nI_1 i) ?_
  refine l_sld cx hX hbl hbA hS (i + 1) (by omega) (by omega) dL_law_705 ?_
  refine w_callV (a := adX 0) (As := [.int (xs (i + 1))]) (rest := []) (st := [.int (V_sealed S (xs (i + 1)))]) cx (cl_X2_sealed l G adX S E hI (xs (i + 1))) k_400 cal_yX2_sealed (ci := 2) rfl (hPX.pa 0 _ (cX_lo 0 (by decide) rfl)) hPX.pa rfl ⟨Nat.le_of_ble_eq_true rfl, Nat.le_of_ble_eq_true rfl⟩ hl.1 (Nat.le_of_ble_eq_true rfl) ⟨(show cells ≤ 600000 by omega), (show slots ≤ 7302250 by omega)⟩ (by rw [hx0]; rfl) rfl dL_law_706 ?_
  refine lv_aload_n hx hb dL_law_709 rfl (lv_at hl 2 rfl) ?_
  refine lv_aload_n hx hb dL_law_710 rfl (lv_at hl 0 rfl) ?_
  refine lv_iload_n hx hb dL_law_711 rfl (lv_at hl 3 rfl) ?_
  refine lv_iconst (v := 1) hx hb dL_law_712 (by decide) ?_
  refine lv_iadd hx hb dL_law_713 ?_
  refine w_nrm (y := nI (i + 1)) (nI_1 i) ?_
  refine l_sld cx hX hbl hbA hS (i + 1) (by omega) (by omega) dL_law_714 ?_
  refine w_callV (a := adM 0) (As := [.int (xs (i + 1))]) (rest := [.int (V_sealed S (xs (i + 1)))]) (st := [.int (V_sealed S (xs (i + 1))), .int (V_sealed S (xs (i + 1)))]) cx (cl_X3_sealed l G adM S E hI (xs (i + 1))) k_659 cal_yX3_sealed (ci := 3) rfl (hPM.pa 0 _ cM_0) hPM.pa rfl ⟨Nat.le_of_ble_eq_true rfl, Nat.le_of_ble_eq_true rfl⟩ hl.1 (Nat.le_of_ble_eq_true rfl) ⟨(show cells ≤ 600000 by omega), (show slots ≤ 7302250 by omega)⟩ (by rw [hm0]; rfl) rfl dL_law_715 ?_
  refine lv_icmp_eq (tgt := 816) hx hb dL_law_718 (by decide) (fun _ => ?_) (fun c_9 => absurd rfl c_9)
  refine W.widen (k := cells + 2) (n := slots + 13) (by omega) (by omega) ?_
  exact kk _ _ _ _ _ _ ⟨hPX, hPM, hd, hx0, hm0⟩ hI hS
set_option maxRecDepth 20000 in
theorem lc_19 {p : Program} {l : Launch} {e : Env} {s : State} {m : MethodId} {below : List Frame} {meth : Method} {c : Code} {b Lx : Nat} {xs : Nat → Int32} {G : GG} {A : Nat → Prop} (cx : Cx p s m #[Value.ref b] c code 4 RL G) (hX : va_X b Lx xs s s.heap) (hbl : b < s.heap.size) (hbA : ¬ A b) (hA : ∀ q, s.heap.size ≤ q → A q) {i : Nat} (hi : i + 4 < Lx) (hL2 : Lx ≤ 2560) {cells slots : Nat} (hc : cells + 2 ≤ 600000 ∧ slots + 13 ≤ 7302250) {S : St} {E : Ex} {adX adM : Nat → Nat} {x0 m0 : Nat} {H : Heap} {locs : List Loc} (hLS : LW2 G A adX adM x0 m0 S E S H) (hI : INV S E) (hS : va_S A s.heap H locs) {ls : Array Slot} (hl : lv_has ls 4 [(0, .ref b), (1, .ref x0), (2, .ref m0), (3, .int (nI i))]) {Q : State → Prop} (kk : ∀ (S1 : St) (E1 : Ex) (adX1 adM1 : Nat → Nat) (H1 : Heap) (locs1 : List Loc), LW2 G A adX1 adM1 x0 m0 S1 E1 S1 H1 → INV S1 E1 → va_S A s.heap H1 locs1 → W p l e room_1 s m #[Value.ref b] below meth c H1 locs1 (cells + 2) (slots + 13) Q (F0 m 816 ls [])) : W p l e room_1 s m #[Value.ref b] below meth c H locs cells slots Q (F0 m 723 ls []) := by
  have hx := cx.1.1
  have hb := cx.1.2.1
  obtain ⟨hPX, hPM, hd, hx0, hm0⟩ := hLS
  obtain ⟨hc1, hc2⟩ := hc
  refine lv_aload_n hx hb dL_law_723 rfl (lv_at hl 1 rfl) ?_
  refine lv_aload_n hx hb dL_law_724 rfl (lv_at hl 0 rfl) ?_
  refine lv_iload_n hx hb dL_law_725 rfl (lv_at hl 3 rfl) ?_
  refine lv_iconst (v := 1) hx hb dL_law_726 (by decide) ?_
  refine lv_iadd hx hb dL_law_727 ?_
  refine w_nrm (y := nI (i + 1)) (nI_1 i) ?_
  refine l_sld cx hX hbl hbA hS (i + 1) (by omega) (by omega) dL_law_728 ?_
  refine l_callV (As := [.int (xs (i + 1))]) (rest := []) (st := [.int ((V_charge S (xs (i + 1))).1)]) cx (cl_X2_charge l G adX S E hI (xs (i + 1))) k_404 cal_yX2_charge (ci := 2) rfl (cX_lo 0 (by decide) rfl) hPX hPM hd hS hA rfl ⟨Nat.le_of_ble_eq_true rfl, Nat.le_of_ble_eq_true rfl⟩ hl.1 (Nat.le_of_ble_eq_true rfl) ⟨(show cells + 0 ≤ 600000 by omega), (show slots + 0 ≤ 7302250 by omega)⟩ (by rw [hx0]; rfl) rfl dL_law_729 (fun adX1 H locs hX1 hPX hPM hd hS => ?_)
  have hx0 : adX1 0 = x0 := by rw [hX1]; exact hx0
  refine lv_aload_n hx hb dL_law_732 rfl (lv_at hl 2 rfl) ?_
  refine lv_aload_n hx hb dL_law_733 rfl (lv_at hl 0 rfl) ?_
  refine lv_iload_n hx hb dL_law_734 rfl (lv_at hl 3 rfl) ?_
  refine lv_iconst (v := 1) hx hb dL_law_735 (by decide) ?_
  refine lv_iadd hx hb dL_law_736 ?_
  refine w_nrm (y := nI (i + 1)) (nI_1 i) ?_
  refine l_sld cx hX hbl hbA hS (i + 1) (by omega) (by omega) dL_law_737 ?_
  refine l_callV (As := [.int (xs (i + 1))]) (rest := [.int ((V_charge S (xs (i + 1))).1)]) (st := [.int ((V_charge S (xs (i + 1))).1), .int ((V_charge S (xs (i + 1))).1)]) cx (cl_X3_charge l G adM S E hI (xs (i + 1))) k_663 cal_yX3_charge (ci := 3) rfl cM_0 hPM hPX hd.symm hS hA rfl ⟨Nat.le_of_ble_eq_true rfl, Nat.le_of_ble_eq_true rfl⟩ hl.1 (Nat.le_of_ble_eq_true rfl) ⟨(show cells + 0 + 0 ≤ 600000 by omega), (show slots + 0 + 0 ≤ 7302250 by omega)⟩ (by rw [hm0]; rfl) rfl dL_law_738 (fun adM1 H locs hX2 hPM hPX hd hS => ?_)
  have hm0 : adM1 0 = m0 := by rw [hX2]; exact hm0
  refine lv_icmp_eq (tgt := 816) hx hb dL_law_741 (by decide) (fun _ => ?_) (fun c_9 => absurd rfl c_9)
  refine W.widen (k := cells + 2) (n := slots + 13) (by omega) (by omega) ?_
  exact kk _ _ _ _ _ _ ⟨hPX, hPM, hd.symm, hx0, hm0⟩ (iv_charge hI (xs (i + 1))) hS
set_option maxRecDepth 20000 in
theorem lc_20 {p : Program} {l : Launch} {e : Env} {s : State} {m : MethodId} {below : List Frame} {meth : Method} {c : Code} {b Lx : Nat} {xs : Nat → Int32} {G : GG} {A : Nat → Prop} (cx : Cx p s m #[Value.ref b] c code 4 RL G) (hX : va_X b Lx xs s s.heap) (hbl : b < s.heap.size) (hbA : ¬ A b) (hA : ∀ q, s.heap.size ≤ q → A q) {i : Nat} (hi : i + 4 < Lx) (hL2 : Lx ≤ 2560) {cells slots : Nat} (hc : cells + 2 ≤ 600000 ∧ slots + 13 ≤ 7302250) {S : St} {E : Ex} {adX adM : Nat → Nat} {x0 m0 : Nat} {H : Heap} {locs : List Loc} (hLS : LW2 G A adX adM x0 m0 S E S H) (hI : INV S E) (hS : va_S A s.heap H locs) {ls : Array Slot} (hl : lv_has ls 4 [(0, .ref b), (1, .ref x0), (2, .ref m0), (3, .int (nI i))]) {Q : State → Prop} (kk : ∀ (S1 : St) (E1 : Ex) (adX1 adM1 : Nat → Nat) (H1 : Heap) (locs1 : List Loc), LW2 G A adX1 adM1 x0 m0 S1 E1 S1 H1 → INV S1 E1 → va_S A s.heap H1 locs1 → W p l e room_1 s m #[Value.ref b] below meth c H1 locs1 (cells + 2) (slots + 13) Q (F0 m 816 ls [])) : W p l e room_1 s m #[Value.ref b] below meth c H locs cells slots Q (F0 m 746 ls []) := by
  have hx := cx.1.1
  have hb := cx.1.2.1
  obtain ⟨hPX, hPM, hd, hx0, hm0⟩ := hLS
  obtain ⟨hc1, hc2⟩ := hc
  refine lv_aload_n hx hb dL_law_746 rfl (lv_at hl 1 rfl) ?_
  refine lv_aload_n hx hb dL_law_747 rfl (lv_at hl 0 rfl) ?_
  refine lv_iload_n hx hb dL_law_748 rfl (lv_at hl 3 rfl) ?_
  refine lv_iconst (v := 1) hx hb dL_law_749 (by decide) ?_
  refine lv_iadd hx hb dL_law_750 ?_
  refine w_nrm (y := nI (i + 1)) (nI_1 i) ?_
  refine l_sld cx hX hbl hbA hS (i + 1) (by omega) (by omega) dL_law_751 ?_
  refine w_callV (a := adX 0) (As := [.int (xs (i + 1))]) (rest := []) (st := [.long (V_charged S (xs (i + 1)))]) cx (cl_X2_charged l G adX S E hI (xs (i + 1))) k_409 cal_yX2_charged (ci := 2) rfl (hPX.pa 0 _ (cX_lo 0 (by decide) rfl)) hPX.pa rfl ⟨Nat.le_of_ble_eq_true rfl, Nat.le_of_ble_eq_true rfl⟩ hl.1 (Nat.le_of_ble_eq_true rfl) ⟨(show cells ≤ 600000 by omega), (show slots ≤ 7302250 by omega)⟩ (by rw [hx0]; rfl) rfl dL_law_752 ?_
  refine lv_aload_n hx hb dL_law_755 rfl (lv_at hl 2 rfl) ?_
  refine lv_aload_n hx hb dL_law_756 rfl (lv_at hl 0 rfl) ?_
  refine lv_iload_n hx hb dL_law_757 rfl (lv_at hl 3 rfl) ?_
  refine lv_iconst (v := 1) hx hb dL_law_758 (by decide) ?_
  refine lv_iadd hx hb dL_law_759 ?_
  refine w_nrm (y := nI (i + 1)) (nI_1 i) ?_
  refine l_sld cx hX hbl hbA hS (i + 1) (by omega) (by omega) dL_law_760 ?_
  refine w_callV (a := adM 0) (As := [.int (xs (i + 1))]) (rest := [.long (V_charged S (xs (i + 1)))]) (st := [.long (V_charged S (xs (i + 1))), .long (V_charged S (xs (i + 1)))]) cx (cl_X3_charged l G adM S E hI (xs (i + 1))) k_667 cal_yX3_charged (ci := 3) rfl (hPM.pa 0 _ cM_0) hPM.pa rfl ⟨Nat.le_of_ble_eq_true rfl, Nat.le_of_ble_eq_true rfl⟩ hl.1 (Nat.le_of_ble_eq_true rfl) ⟨(show cells ≤ 600000 by omega), (show slots ≤ 7302250 by omega)⟩ (by rw [hm0]; rfl) rfl dL_law_761 ?_
  refine W.lcmp hx hb dL_law_764 ?_
  refine lv_if_eq (tgt := 816) hx hb dL_law_765 (by decide) (fun _ => ?_) (fun c_9 => absurd (lg_self _) c_9)
  refine W.widen (k := cells + 2) (n := slots + 13) (by omega) (by omega) ?_
  exact kk _ _ _ _ _ _ ⟨hPX, hPM, hd, hx0, hm0⟩ hI hS
set_option maxRecDepth 20000 in
theorem lc_21 {p : Program} {l : Launch} {e : Env} {s : State} {m : MethodId} {below : List Frame} {meth : Method} {c : Code} {b Lx : Nat} {xs : Nat → Int32} {G : GG} {A : Nat → Prop} (cx : Cx p s m #[Value.ref b] c code 4 RL G) (hX : va_X b Lx xs s s.heap) (hbl : b < s.heap.size) (hbA : ¬ A b) (hA : ∀ q, s.heap.size ≤ q → A q) {i : Nat} (hi : i + 4 < Lx) (hL2 : Lx ≤ 2560) {cells slots : Nat} (hc : cells + 2 ≤ 600000 ∧ slots + 13 ≤ 7302250) {S : St} {E : Ex} {adX adM : Nat → Nat} {x0 m0 : Nat} {H : Heap} {locs : List Loc} (hLS : LW2 G A adX adM x0 m0 S E S H) (hI : INV S E) (hS : va_S A s.heap H locs) {ls : Array Slot} (hl : lv_has ls 4 [(0, .ref b), (1, .ref x0), (2, .ref m0), (3, .int (nI i))]) {Q : State → Prop} (kk : ∀ (S1 : St) (E1 : Ex) (adX1 adM1 : Nat → Nat) (H1 : Heap) (locs1 : List Loc), LW2 G A adX1 adM1 x0 m0 S1 E1 S1 H1 → INV S1 E1 → va_S A s.heap H1 locs1 → W p l e room_1 s m #[Value.ref b] below meth c H1 locs1 (cells + 2) (slots + 13) Q (F0 m 816 ls [])) : W p l e room_1 s m #[Value.ref b] below meth c H locs cells slots Q (F0 m 770 ls []) := by
  have hx := cx.1.1
  have hb := cx.1.2.1
  obtain ⟨hPX, hPM, hd, hx0, hm0⟩ := hLS
  obtain ⟨hc1, hc2⟩ := hc
  refine lv_aload_n hx hb dL_law_770 rfl (lv_at hl 1 rfl) ?_
  refine lv_aload_n hx hb dL_law_771 rfl (lv_at hl 0 rfl) ?_
  refine lv_iload_n hx hb dL_law_772 rfl (lv_at hl 3 rfl) ?_
  refine lv_iconst (v := 1) hx hb dL_law_773 (by decide) ?_
  refine lv_iadd hx hb dL_law_774 ?_
  refine w_nrm (y := nI (i + 1)) (nI_1 i) ?_
  refine l_sld cx hX hbl hbA hS (i + 1) (by omega) (by omega) dL_law_775 ?_
  refine l_callV (As := [.int (xs (i + 1))]) (rest := []) (st := [.int (f_X3_first S (xs (i + 1)))]) cx (cl_X2_first l G adX S E hI (xs (i + 1))) k_414 cal_yX2_first (ci := 2) rfl (cX_lo 0 (by decide) rfl) hPX hPM hd hS hA rfl ⟨Nat.le_of_ble_eq_true rfl, Nat.le_of_ble_eq_true rfl⟩ hl.1 (Nat.le_of_ble_eq_true rfl) ⟨(show cells + 0 ≤ 600000 by omega), (show slots + 0 ≤ 7302250 by omega)⟩ (by rw [hx0]; rfl) rfl dL_law_776 (fun adX1 H locs hX1 hPX hPM hd hS => ?_)
  have hx0 : adX1 0 = x0 := by rw [hX1]; exact hx0
  refine lv_aload_n hx hb dL_law_779 rfl (lv_at hl 2 rfl) ?_
  refine lv_aload_n hx hb dL_law_780 rfl (lv_at hl 0 rfl) ?_
  refine lv_iload_n hx hb dL_law_781 rfl (lv_at hl 3 rfl) ?_
  refine lv_iconst (v := 1) hx hb dL_law_782 (by decide) ?_
  refine lv_iadd hx hb dL_law_783 ?_
  refine w_nrm (y := nI (i + 1)) (nI_1 i) ?_
  refine l_sld cx hX hbl hbA hS (i + 1) (by omega) (by omega) dL_law_784 ?_
  refine w_callV (a := adM 0) (As := [.int (xs (i + 1))]) (rest := [.int (f_X3_first S (xs (i + 1)))]) (st := [.int (f_X3_first S (xs (i + 1))), .int (f_X3_first S (xs (i + 1)))]) cx (cl_X3_first l G adM S E hI (xs (i + 1))) k_672 cal_yX3_first (ci := 3) rfl (hPM.pa 0 _ cM_0) hPM.pa rfl ⟨Nat.le_of_ble_eq_true rfl, Nat.le_of_ble_eq_true rfl⟩ hl.1 (Nat.le_of_ble_eq_true rfl) ⟨(show cells + 0 ≤ 600000 by omega), (show slots + 0 ≤ 7302250 by omega)⟩ (by rw [hm0]; rfl) rfl dL_law_785 ?_
  refine lv_icmp_eq (tgt := 816) hx hb dL_law_788 (by decide) (fun _ => ?_) (fun c_9 => absurd rfl c_9)
  refine W.widen (k := cells + 2) (n := slots + 13) (by omega) (by omega) ?_
  exact kk _ _ _ _ _ _ ⟨hPX, hPM, hd, hx0, hm0⟩ (i_first hI (xs (i + 1))) hS
set_option maxRecDepth 20000 in
theorem lc_22 {p : Program} {l : Launch} {e : Env} {s : State} {m : MethodId} {below : List Frame} {meth : Method} {c : Code} {b Lx : Nat} {xs : Nat → Int32} {G : GG} {A : Nat → Prop} (cx : Cx p s m #[Value.ref b] c code 4 RL G) (hX : va_X b Lx xs s s.heap) (hbl : b < s.heap.size) (hbA : ¬ A b) (hA : ∀ q, s.heap.size ≤ q → A q) {i : Nat} (hi : i + 4 < Lx) (hL2 : Lx ≤ 2560) {cells slots : Nat} (hc : cells + 2 ≤ 600000 ∧ slots + 13 ≤ 7302250) {S : St} {E : Ex} {adX adM : Nat → Nat} {x0 m0 : Nat} {H : Heap} {locs : List Loc} (hLS : LW2 G A adX adM x0 m0 S E S H) (hI : INV S E) (hS : va_S A s.heap H locs) {ls : Array Slot} (hl : lv_has ls 4 [(0, .ref b), (1, .ref x0), (2, .ref m0), (3, .int (nI i))]) {Q : State → Prop} (kk : ∀ (S1 : St) (E1 : Ex) (adX1 adM1 : Nat → Nat) (H1 : Heap) (locs1 : List Loc), LW2 G A adX1 adM1 x0 m0 S1 E1 S1 H1 → INV S1 E1 → va_S A s.heap H1 locs1 → W p l e room_1 s m #[Value.ref b] below meth c H1 locs1 (cells + 2) (slots + 13) Q (F0 m 816 ls [])) : W p l e room_1 s m #[Value.ref b] below meth c H locs cells slots Q (F0 m 793 ls []) := by
  have hx := cx.1.1
  have hb := cx.1.2.1
  obtain ⟨hPX, hPM, hd, hx0, hm0⟩ := hLS
  obtain ⟨hc1, hc2⟩ := hc
  refine lv_aload_n hx hb dL_law_793 rfl (lv_at hl 1 rfl) ?_
  refine lv_aload_n hx hb dL_law_794 rfl (lv_at hl 0 rfl) ?_
  refine lv_iload_n hx hb dL_law_795 rfl (lv_at hl 3 rfl) ?_
  refine lv_iconst (v := 1) hx hb dL_law_796 (by decide) ?_
  refine lv_iadd hx hb dL_law_797 ?_
  refine w_nrm (y := nI (i + 1)) (nI_1 i) ?_
  refine l_sld cx hX hbl hbA hS (i + 1) (by omega) (by omega) dL_law_798 ?_
  refine w_callV (a := adX 0) (As := [.int (xs (i + 1))]) (rest := []) (st := [.int (f_X3_count S (xs (i + 1)))]) cx (cl_X2_count l G adX S E hI (xs (i + 1))) k_433 cal_yX2_count (ci := 2) rfl (hPX.pa 0 _ (cX_lo 0 (by decide) rfl)) hPX.pa rfl ⟨Nat.le_of_ble_eq_true rfl, Nat.le_of_ble_eq_true rfl⟩ hl.1 (Nat.le_of_ble_eq_true rfl) ⟨(show cells ≤ 600000 by omega), (show slots ≤ 7302250 by omega)⟩ (by rw [hx0]; rfl) rfl dL_law_799 ?_
  refine lv_aload_n hx hb dL_law_802 rfl (lv_at hl 2 rfl) ?_
  refine lv_aload_n hx hb dL_law_803 rfl (lv_at hl 0 rfl) ?_
  refine lv_iload_n hx hb dL_law_804 rfl (lv_at hl 3 rfl) ?_
  refine lv_iconst (v := 1) hx hb dL_law_805 (by decide) ?_
  refine lv_iadd hx hb dL_law_806 ?_
  refine w_nrm (y := nI (i + 1)) (nI_1 i) ?_
  refine l_sld cx hX hbl hbA hS (i + 1) (by omega) (by omega) dL_law_807 ?_
  refine w_callV (a := adM 0) (As := [.int (xs (i + 1))]) (rest := [.int (f_X3_count S (xs (i + 1)))]) (st := [.int (f_X3_count S (xs (i + 1))), .int (f_X3_count S (xs (i + 1)))]) cx (cl_X3_count l G adM S E hI (xs (i + 1))) k_688 cal_yX3_count (ci := 3) rfl (hPM.pa 0 _ cM_0) hPM.pa rfl ⟨Nat.le_of_ble_eq_true rfl, Nat.le_of_ble_eq_true rfl⟩ hl.1 (Nat.le_of_ble_eq_true rfl) ⟨(show cells ≤ 600000 by omega), (show slots ≤ 7302250 by omega)⟩ (by rw [hm0]; rfl) rfl dL_law_808 ?_
  refine lv_icmp_eq (tgt := 816) hx hb dL_law_811 (by decide) (fun _ => ?_) (fun c_9 => absurd rfl c_9)
  refine W.widen (k := cells + 2) (n := slots + 13) (by omega) (by omega) ?_
  exact kk _ _ _ _ _ _ ⟨hPX, hPM, hd, hx0, hm0⟩ hI hS
