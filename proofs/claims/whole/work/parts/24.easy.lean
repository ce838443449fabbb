-- numbers
theorem q_rng (x : Int32) : -2147483648 ≤ x.toInt ∧ x.toInt < 2147483648 := by
  have h1 := Int32.le_toInt x
  have h2 := Int32.toInt_lt x
  omega
theorem q_add {x y : Int32} (h1 : -2147483648 ≤ x.toInt + y.toInt) (h2 : x.toInt + y.toInt < 2147483648) : (x + y).toInt = x.toInt + y.toInt := by
  rw [Int32.toInt_add]; exact Int.bmod_eq_of_le (by omega) (by omega)
theorem q_sub {x y : Int32} (h1 : -2147483648 ≤ x.toInt - y.toInt) (h2 : x.toInt - y.toInt < 2147483648) : (x - y).toInt = x.toInt - y.toInt := by
  rw [Int32.toInt_sub]; exact Int.bmod_eq_of_le (by omega) (by omega)
theorem q_mul {x y : Int32} (h1 : -2147483648 ≤ x.toInt * y.toInt) (h2 : x.toInt * y.toInt < 2147483648) : (x * y).toInt = x.toInt * y.toInt := by
  rw [Int32.toInt_mul]; exact Int.bmod_eq_of_le (by omega) (by omega)
theorem q_neg {x : Int32} (h : -2147483648 < x.toInt) : (-x).toInt = -x.toInt := by
  have := q_rng x
  rw [Int32.toInt_neg]; exact Int.bmod_eq_of_le (by omega) (by omega)
theorem q_div {x : Int32} (h : 0 ≤ x.toInt) : (x / 100).toInt = x.toInt / 100 := by
  have := q_rng x
  have e : (100 : Int32).toInt = 100 := by decide
  rw [Int32.toInt_div, e, Int.tdiv_eq_ediv_of_nonneg h]
  exact Int.bmod_eq_of_le (by omega) (by omega)
theorem q_abs {x : Int32} (h : -2147483648 < x.toInt) : (f_abs x).toInt = if 0 ≤ x.toInt then x.toInt else -x.toInt := by
  have h0 : (0 : Int32).toInt = 0 := by decide
  have := q_rng x
  unfold f_abs
  by_cases hx : 0 ≤ x
  · have hx2 := (i_le _ _).mp hx
    rw [h0] at hx2
    rw [if_pos hx, if_pos hx2]
  · have hx2 := mt (i_le _ _).mpr hx
    rw [h0] at hx2
    rw [if_neg hx, if_neg hx2, q_sub (by omega) (by omega), h0]
    omega
theorem p99 (x : Int32) : x + 100 - 1 = x + 99 := by
  rw [Int32.sub_eq_add_neg, Int32.add_assoc, show (100 : Int32) + -1 = 99 by decide]
-- the same, read twice
theorem e_spanOn (S : St) (i : Nat) (d : Int32) : f_X0_spanOn S i d = f_X3_spanOn S i d := by
  unfold f_X0_spanOn f_X3_spanOn
  rw [p99]
theorem e_settledNow (S : St) (i : Nat) : f_X0_isSettledNow S i = f_X3_settledNow S i := rfl
theorem e_tool (S : St) (i : Nat) : f_X0_isOfTrade S i = f_X3_isTool S i := rfl
theorem e_errorHeld (S : St) (i : Nat) : f_X0_errorHeld S i = f_X3_errorOf S i := rfl
theorem e_in (x y z : Int32) : f_X2_isWithin x y z = f_X3_in x y z := rfl
theorem e_about {S : St} {E : Ex} (hI : INV S E) {i : Nat} (hi : i < nt S) {x : Int32} : f_X2_about S i x = f_X3_about S i x := by
  unfold f_X2_about f_X3_about
  by_cases h : ar S 5 i = -1000000
  · rw [if_pos h, h]
  · rw [if_neg h, ← (hI.wf.la hi h).1]
theorem e_told {S : St} {E : Ex} (hI : INV S E) {n : Nat} (hn : n < nr S) {x : Int32} : f_X2_told S n x = f_X3_told S n x := by
  unfold f_X2_told f_X3_told
  by_cases h : ar S 20 n = -1000000
  · rw [if_pos h, h]
  · rw [if_neg h, ← (hI.wb.ba hn h).1]
theorem e_error {S : St} {E : Ex} (hI : INV S E) {i : Nat} (hi : i < nt S) : f_X2_error S i = f_X3_error S i := by
  unfold f_X2_error f_X3_error f_X0_isMeasured f_X0_errorHeld
  by_cases h0 : ar S 0 i = 0
  · have := (hI.2.2.2.1.2.1 i hi).2.2.2.2 h0
    rw [if_pos h0, if_pos h0, if_pos this]; rfl
  · rw [if_neg h0, if_neg h0]
    by_cases h : ar S 5 i = -1000000
    · rw [if_pos h, if_pos rfl, if_pos h]
    · rw [if_neg h, if_neg (by decide), if_neg h, if_neg h]
theorem e_span {S : St} {E : Ex} (hI : INV S E) {i : Nat} (hi : i < nt S) : f_X2_span S i = f_X3_span S i := by
  unfold f_X2_span f_X3_span f_X0_isMeasured
  rw [e_spanOn]
  by_cases h0 : ar S 0 i = 0
  · have := (hI.2.2.2.1.2.1 i hi).2.2.2.2 h0
    rw [if_pos h0, if_pos h0, f_X3_spanOn, if_pos this]; rfl
  · rw [if_neg h0, if_neg h0]
    by_cases h : ar S 5 i = -1000000
    · rw [if_pos h, if_pos rfl, if_pos h]
    · rw [if_neg h, if_neg (by decide), if_neg h]
theorem e_settled {S : St} {E : Ex} (hI : INV S E) {i : Nat} (hi : i < nt S) : f_X2_settled S i = f_X3_settled S i := rfl
theorem z0 (x : Int32) : x + 0 = x := by simp
theorem e_uns (S : St) : ∀ (q k : Nat) (z : Int32), r_X2_unsettled S q k z = r_X3_unsettled S q k z := by
  intro q
  induction q with
  | zero => intro k z; rw [r_X2_unsettled, r_X3_unsettled]
  | succ q ih => intro k z; rw [r_X2_unsettled, r_X3_unsettled, ih, ih, z0]
theorem e_unsettled (S : St) : f_X2_unsettled S = f_X3_unsettled S := e_uns S _ _ _
theorem e_sea (S : St) (x : Int32) : ∀ (q k : Nat), r_X2_sealed S x q k = r_X3_sealed S x q k := by
  intro q
  induction q with
  | zero => intro k; rw [r_X2_sealed, r_X3_sealed]
  | succ q ih => intro k; rw [r_X2_sealed, r_X3_sealed, ih]
theorem e_sealed (S : St) (x : Int32) : f_X2_sealed S x = f_X3_sealed S x := e_sea S x _ _
theorem e_ch {S : St} (hW : WF S) (hB : WB S) : ∀ (q k : Nat) (z : Int32), (¬ z = -1000000 → okx z (nr S)) → r_X2_chain S q k z = r_X3_chain S q k z := by
  intro q
  induction q with
  | zero =>
    intro k z hz
    rw [r_X2_chain, r_X3_chain]
    by_cases h : z = -1000000
    · rw [if_pos h, h]
    · rw [if_neg h, ← (hz h).1]
  | succ q ih =>
    intro k z hz
    rw [r_X2_chain, r_X3_chain]
    by_cases h : z = -1000000
    · rw [if_pos h, if_pos h, h]
    · have o := hz h
      have hn : ¬ ar S 20 (ix z) = -1000000 → okx (ar S 20 (ix z)) (nr S) := fun h2 => ⟨(hB.ba o.2 h2).1, Nat.lt_trans (hB.ba o.2 h2).2 o.2⟩
      rw [if_neg h, if_neg h, ih _ _ hn]
      by_cases h2 : ar S 20 (ix z) = -1000000
      · rw [if_pos h2]
      · rw [if_neg h2]
theorem e_chain {S : St} {E : Ex} (hI : INV S E) {i : Nat} (hi : i < nt S) {c : Nat} (hc : c < 300) : f_X2_chain S i c = f_X3_chain S i c := by
  unfold f_X2_chain f_X3_chain
  rw [e_ch hI.wf hI.wb _ _ _ (hI.wf.la hi)]
  by_cases h : ar S 5 i = -1000000
  · rw [if_pos h]
  · rw [if_neg h]
theorem e_chf {S : St} (hB : WB S) : ∀ (q k : Nat) (z : Int32), (¬ z = -1000000 → okx z (nr S) ∧ ix z < q) → r_X3_chain S q k z = -1000000 := by
  intro q
  induction q with
  | zero =>
    intro k z hz
    rw [r_X3_chain]
    by_cases h : z = -1000000
    · exact h
    · exact absurd (hz h).2 (Nat.not_lt_zero _)
  | succ q ih =>
    intro k z hz
    rw [r_X3_chain]
    by_cases h : z = -1000000
    · rw [if_pos h]; exact h
    · have o := hz h
      rw [if_neg h]
      refine ih _ _ (fun h2 => ?_)
      have o2 := hB.ba o.1.2 h2
      exact ⟨⟨o2.1, Nat.lt_trans o2.2 o.1.2⟩, by have := o2.2; have := o.2; omega⟩
theorem e_chainfar {S : St} {E : Ex} (hI : INV S E) {i : Nat} (hi : i < nt S) {c : Nat} (hc : 300 ≤ c) : f_X3_chain S i c = -1000000 := by
  unfold f_X3_chain
  refine e_chf hI.wb _ _ _ (fun h => ⟨hI.wf.la hi h, ?_⟩)
  have := (hI.wf.la hi h).2
  have := hI.wf.r
  omega
theorem e_thing {S : St} {E : Ex} (hI : INV S E) (x y z u : Int32) : f_X2_thing S x y z u = f_X3_thing S x y z u := by
  have hn : (nI (nt S) < 40) ↔ ¬ nI (nt S) = 40 := by
    have h40 := hI.wf.t
    rw [show (40 : Int32) = nI 40 from rfl, nI_ltI (by omega) (by decide), nI_eq (by omega) (by decide)]
    omega
  unfold f_X2_thing f_X3_thing
  rw [nI_pred]
  by_cases h : nI (nt S) = 40
  · rw [if_neg (fun q => (hn.mp q) h), if_pos h]; rfl
  · rw [if_pos (hn.mpr h), if_neg h]; rfl
theorem e_draw {S : St} {E : Ex} (hI : INV S E) {i : Nat} (hi : i < nt S) (x : Int32) : f_X2_draw S i x = f_X3_draw S i x := by
  have o := hI.wf.dc hi
  have hc : ∀ n, n < 4 → ((nI n < 3) ↔ ¬ nI n = 3) ∧ (¬ nI n = 3 → ¬ f_X2_isWithin (nI n) 0 2 = 0) := by decide
  have h1 := hc _ o.2
  rw [← o.1] at h1
  unfold f_X2_draw f_X3_draw f_X0_hasAllDraws
  by_cases h : ar S 8 i = 3
  · rw [if_neg (fun q => (h1.1.mp q) h), if_pos h, if_neg (show ¬ (1 : Int32) = 0 by decide)]; rfl
  · rw [if_pos (h1.1.mpr h), if_neg h, if_pos rfl, f_X0_addDraw, if_neg (h1.2 h)]; rfl
theorem e_move {S : St} {E : Ex} (hI : INV S E) {i : Nat} (hi : i < nt S) (x : Int32) : f_X2_move S i x = f_X3_move S i x := rfl
theorem e_allow {S : St} {k : Nat} (h1 : 1 ≤ k) (b x : Int32) : f_X2_allow S k b x = f_X3_allow S k b x := by
  unfold f_X2_allow f_X3_allow
  rw [show fA S 11 k = ar S 11 k from if_neg (by omega), show fA S 10 k = ar S 10 k from if_neg (by omega)]
  rfl
