-- the conditions of a trial
theorem can_others {S : St} {E : Ex} (hI : INV S E) {k : Nat} (hk : k < nt S) (a b : Int32 × St) : (if f_X0_canTryOthers S k (sc S 0) = 0 then a else b) = if 1 < ar S 0 k then a else if f_X3_settledNow S k = 0 then a else if f_X3_dueNow S k = 0 then b else a := by
  have o := hI.wf.kd hk
  have hc : ∀ n, n < 4 → ((if nI n = 2 then (1 : Int32) else if nI n = 3 then 1 else 0) = 0 ↔ ¬ (1 : Int32) < nI n) := by decide
  have h1 := hc _ o.2
  rw [← o.1] at h1
  rw [f_X0_canTryOthers, e_settledNow, e_dueNow hI hk, e_tool]
  by_cases c1 : 1 < ar S 0 k
  · rw [if_pos c1, if_neg (show ¬ f_X3_isTool S k = 0 from fun h => h1.mp h c1), if_pos rfl]
  · rw [if_neg c1, if_pos (show f_X3_isTool S k = 0 from h1.mpr c1)]
    by_cases c2 : f_X3_settledNow S k = 0
    · rw [if_pos c2, if_pos c2, if_pos rfl]
    · rw [if_neg c2, if_neg c2]
      by_cases c3 : f_X3_dueNow S k = 0
      · rw [if_pos c3, if_pos c3, if_neg (by decide)]
      · rw [if_neg c3, if_neg c3, if_pos rfl]
theorem can_pump {S : St} {E : Ex} (hI : INV S E) {i : Nat} (hi : i < nt S) (h3 : ar S 0 i = 3) (a b : Int32 × St) : (if f_X0_canBeTried S i = 0 then a else b) = if ar S 0 i = 0 then a else if ar S 8 i = 3 then b else a := by
  have o := hI.wf.dc hi
  have hc : ∀ n, n < 4 → ((nI n < 3) ↔ ¬ nI n = 3) := by decide
  have h1 := hc _ o.2
  rw [← o.1] at h1
  have h0 : ¬ ar S 0 i = 0 := by rw [h3]; decide
  rw [f_X0_canBeTried, if_neg h0, if_pos h3, if_neg h0, f_X0_hasAllDraws]
  by_cases c : ar S 8 i = 3
  · rw [if_pos c, if_neg (fun h => h1.mp h c), if_neg (show ¬ (1 : Int32) = 0 by decide), if_neg (show ¬ (1 : Int32) = 0 by decide)]
  · rw [if_neg c, if_pos (h1.mpr c), if_pos rfl, if_pos rfl]
theorem can_else {S : St} {i : Nat} (h3 : ¬ ar S 0 i = 3) (a b : Int32 × St) : (if f_X0_canBeTried S i = 0 then a else b) = if ar S 0 i = 0 then a else b := by
  rw [f_X0_canBeTried]
  by_cases h0 : ar S 0 i = 0
  · rw [if_pos h0, if_pos rfl, if_pos h0]
  · rw [if_neg h0, if_neg h3, if_neg (by decide), if_neg h0]
theorem tail_eq {S : St} {E : Ex} (hI : INV S E) {i k : Nat} (hi : i < nt S) (hk : k < nt S) (h0 : ¬ ar S 0 i = 0) {er sp : Int32} (b1 : -30200000 ≤ er.toInt) (b2 : er.toInt ≤ 30200000) (b3 : 0 ≤ sp.toInt) (b4 : sp.toInt ≤ 121400000) : (if nI (nr S) < 300 then (nI (nr S), f_X2_takeTrial (addR S i k er sp) i (nr S)) else ((-4 : Int32), S)) = if nI (nr S) = 300 then ((-4 : Int32), S) else tkM S i k er sp := by
  have hr := hI.wf.r
  have hn : (nI (nr S) < 300) ↔ ¬ nI (nr S) = 300 := by
    rw [show (300 : Int32) = nI 300 from rfl, nI_ltI (by omega) (by decide), nI_eq (by omega) (by decide)]
    omega
  by_cases c : nI (nr S) = 300
  · rw [if_neg (fun h => hn.mp h c), if_pos c]
  · have h3 : nr S < 300 := nIlt (by omega) (by decide) (hn.mpr c)
    rw [if_pos (hn.mpr c), if_neg c, tk_eq hI hi hk h0 b1 b2 b3 b4 h3]
/-- error and span of a new trial -/
theorem new_b {S : St} {E : Ex} (hI : INV S E) {k : Nat} (hk : k < nt S) {rd z g : Int32} (h1 : -100000 ≤ rd.toInt) (h2 : rd.toInt ≤ 100000) (h3 : 0 ≤ z.toInt) (h4 : z.toInt ≤ 100000) (h5 : 0 ≤ g.toInt) (h6 : g.toInt ≤ 200000) : -(100000 * ((nr S : Int) + 1)) ≤ (f_X3_errorOf S k + rd).toInt ∧ (f_X3_errorOf S k + rd).toInt ≤ 100000 * ((nr S : Int) + 1) ∧ 0 ≤ (f_X3_spanOn S k (sc S 0) + z + g).toInt ∧ (f_X3_spanOn S k (sc S 0) + z + g).toInt ≤ 400000 * ((nr S : Int) + 1) - 20000 := by
  have b := bm hI hk
  have r := hI.wf.r
  have s1 : (f_X3_errorOf S k + rd).toInt = (f_X3_errorOf S k).toInt + rd.toInt := q_add (by omega) (by omega)
  have s2 : (f_X3_spanOn S k (sc S 0) + z).toInt = (f_X3_spanOn S k (sc S 0)).toInt + z.toInt := q_add (by omega) (by omega)
  have s3 : (f_X3_spanOn S k (sc S 0) + z + g).toInt = (f_X3_spanOn S k (sc S 0)).toInt + z.toInt + g.toInt := by rw [q_add (by rw [s2]; omega) (by rw [s2]; omega), s2]
  rw [s1, s3]
  omega
theorem e_trial {S : St} {E : Ex} (hI : INV S E) {i k : Nat} (hi : i < nt S) (hk : k < nt S) (x z : Int32) : f_X2_trial S i k x z = f_X3_trial S i k x z := by
  have r := hI.wf.r
  have hs : (nI i = nI k) ↔ (nI k = nI i) := ⟨Eq.symm, Eq.symm⟩
  have g := e_range hI i
  have g0 : (0 : Int32).toInt = 0 := by decide
  rw [f_X2_trial, t3_eq, t3_er, t3_mid, t3_sp hI.wf i hk, t3_sp hI.wf i hk, t3_rng, e_errorHeld, e_spanOn, e_middle hI, g.1, e_in, e_in, can_others hI hk, can_others hI hk]
  rw [g.1] at g
  by_cases h3 : ar S 0 i = 3
  · rw [if_pos h3, if_pos h3, can_pump hI hi h3]
    by_cases c1 : f_X3_in z 0 100000 = 0
    · rw [if_pos c1, if_pos c1]
    rw [if_neg c1, if_neg c1]
    by_cases c2 : ar S 0 i = 0
    · rw [if_pos c2, if_pos c2]
    rw [if_neg c2, if_neg c2]
    by_cases c3 : ar S 8 i = 3
    · rw [if_pos c3, if_pos c3]
      have oz := in_int (a := 0) (b := 100000) (by decide) (by decide) c1
      have m := mid_b hI i
      have nb := new_b hI hk m.1 m.2 oz.1 oz.2 g.2.1 g.2.2
      rw [tail_eq hI hi hk c2 (by omega) (by omega) nb.2.2.1 (by omega)]
      by_cases c4 : nI k = nI i
      · rw [if_pos (hs.mpr c4), if_pos c4]
      · rw [if_neg (fun h => c4 (hs.mp h)), if_neg c4]
    · rw [if_neg c3, if_neg c3]
  · rw [if_neg h3, if_neg h3, can_else h3]
    by_cases c0 : f_X3_in x (-100000) 100000 = 0
    · rw [if_pos c0, if_pos c0]
    rw [if_neg c0, if_neg c0]
    by_cases c1 : f_X3_in z 0 100000 = 0
    · rw [if_pos c1, if_pos c1]
    rw [if_neg c1, if_neg c1]
    by_cases c2 : ar S 0 i = 0
    · rw [if_pos c2, if_pos c2]
    rw [if_neg c2, if_neg c2]
    have ox := in_int (a := -100000) (b := 100000) (by decide) (by decide) c0
    have oz := in_int (a := 0) (b := 100000) (by decide) (by decide) c1
    have nb := new_b hI hk ox.1 ox.2 oz.1 oz.2 (g := 0) (by omega) (by omega)
    rw [z0] at nb ⊢
    rw [tail_eq hI hi hk c2 (by omega) (by omega) nb.2.2.1 (by omega)]
    by_cases c4 : nI k = nI i
    · rw [if_pos (hs.mpr c4), if_pos c4]
    · rw [if_neg (fun h => c4 (hs.mp h)), if_neg c4]
-- the invariant after a trial
theorem INV_addR {S : St} {E : Ex} (hI : INV S E) {i k : Nat} (hk : k < nt S) (hn : nr S < 300) {er sp : Int32} (b1 : -(100000 * ((nr S : Int) + 1)) ≤ er.toInt) (b2 : er.toInt ≤ 100000 * ((nr S : Int) + 1)) (b3 : 0 ≤ sp.toInt) (b4 : sp.toInt ≤ 400000 * ((nr S : Int) + 1)) (hs : ¬ ar S 5 k = -1000000 → ¬ ar S 18 (ix (ar S 5 k)) = 0) : INV (addR S i k er sp) E := by
  have wf : WF (addR S i k er sp) := WF_addR hI.wf hn
  have wb : WB (addR S i k er sp) := WB_addR hI.wf hI.wb hk
  have A15 : ar (addR S i k er sp) 15 (nr S) = sc S 0 := by unfold addR; rw [ar_ne _ _ _ _ _ (by decide), ar_ne _ _ _ _ _ (by decide), ar_ne _ _ _ _ _ (by decide), ar_ne _ _ _ _ _ (by decide), ar_same]
  have A16 : ar (addR S i k er sp) 16 (nr S) = er := by unfold addR; rw [ar_ne _ _ _ _ _ (by decide), ar_ne _ _ _ _ _ (by decide), ar_ne _ _ _ _ _ (by decide), ar_same]
  have A17 : ar (addR S i k er sp) 17 (nr S) = sp := by unfold addR; rw [ar_ne _ _ _ _ _ (by decide), ar_ne _ _ _ _ _ (by decide), ar_same]
  have A20 : ar (addR S i k er sp) 20 (nr S) = ar S 5 k := by unfold addR; rw [ar_same]
  have off : ∀ a j, j ≠ nr S → ar (addR S i k er sp) a j = ar S a j := fun a j h => addR_off S i k er sp a h
  have d : ∀ a, a < 13 ∨ a = 19 ∨ 20 < a → ar (addR S i k er sp) a = ar S a := fun a h => addR_fun S i k er sp h
  have hR : nr (addR S i k er sp) = nr S + 1 := rfl
  have hT : nt (addR S i k er sp) = nt S := rfl
  have hS : sc (addR S i k er sp) = sc S := rfl
  have la := fun h => (hI.wf.la hk h).2
  have hwb := hI.wb
  have w := b_day hI
  obtain ⟨hw, hb, hz, hB, hc, hs2⟩ := hI
  refine ⟨wf, wb, ⟨?_, ?_, fun n hn => ?_⟩, ⟨?_, ?_, ?_, fun n hn => ?_, ?_⟩, fun m hm h1 h2 => ?_, ?_⟩
  · rw [hT, d 4 (by omega), d 7 (by omega), d 8 (by omega)]; exact hz.1
  · rw [hT, d 9 (by omega)]; exact hz.2.1
  · rw [d 19 (by omega), d 21 (by omega)]; exact hz.2.2 n (by rw [hR] at hn; omega)
  · rw [hS]; exact hB.1
  · rw [hT, d 0 (by omega), d 1 (by omega), d 2 (by omega), d 5 (by omega)]; exact hB.2.1
  · rw [d 9 (by omega)]; exact hB.2.2.1
  · rw [hR] at hn
    rw [hS]
    by_cases e : n = nr S
    · subst e; rw [A15, A16, A17]; exact ⟨w.1, Int.le_refl _, b1, b2, b3, b4⟩
    · rw [off _ _ e, off _ _ e, off _ _ e]; exact hB.2.2.2.1 n (by omega)
  · rw [d 10 (by omega), d 11 (by omega)]; exact hB.2.2.2.2
  · rw [hR] at hm
    by_cases e : m = nr S
    · rw [e, A20] at h1 h2
      rw [off _ _ (by have := la h1; omega)] at h2
      exact absurd h2 (hs h1)
    · rw [off _ _ e] at h1 ⊢
      rw [off 20 _ e, off 18 _ (by have := (hwb.ba (show m < nr S by omega) h1).2; omega)] at h2
      exact hc m (by omega) h1 h2
  · unfold IS at *; rw [d 12 (by omega)]; exact hs2
theorem INV_took {A : St} {E : Ex} (hI : INV A E) {i n : Nat} (hi : i < nt A) (hn : n < nr A) (h0 : ¬ ar A 0 i = 0) (v w : Int32) : INV (setA (f_X0_take (setA A 19 n v) i n) 6 i w) E := by
  have wf := WF_took hI.wf hi hn v w
  have wb := WB_took hI.wb i n v w
  have d : ∀ a, a ≠ 4 → a ≠ 5 → a ≠ 6 → a ≠ 8 → a ≠ 19 → ar (setA (f_X0_take (setA A 19 n v) i n) 6 i w) a = ar A a := fun a h4 h5 h6 h8 h19 => by
    rw [f_X0_take, ar_diff _ _ _ _ h6, ar_diff _ _ _ _ h8, ar_diff _ _ _ _ h4, ar_diff _ _ _ _ h5, ar_diff _ _ _ _ h19]
  have o4 : ∀ a j, a ≠ 19 → j ≠ i → ar (setA (f_X0_take (setA A 19 n v) i n) 6 i w) a j = ar A a j := fun a j h19 h => by
    rw [f_X0_take, ar_off _ _ _ _ _ h, ar_off _ _ _ _ _ h, ar_off _ _ _ _ _ h, ar_off _ _ _ _ _ h, ar_ne _ _ _ _ _ h19]
  have o19 : ∀ j, j ≠ n → ar (setA (f_X0_take (setA A 19 n v) i n) 6 i w) 19 j = ar A 19 j := fun j h => by
    rw [f_X0_take, ar_ne _ _ _ _ _ (by decide), ar_ne _ _ _ _ _ (by decide), ar_ne _ _ _ _ _ (by decide), ar_ne _ _ _ _ _ (by decide), ar_off _ _ _ _ _ h]
  have hR : nr (setA (f_X0_take (setA A 19 n v) i n) 6 i w) = nr A := rfl
  have hT : nt (setA (f_X0_take (setA A 19 n v) i n) 6 i w) = nt A := rfl
  have hS : sc (setA (f_X0_take (setA A 19 n v) i n) 6 i w) = sc A := rfl
  obtain ⟨hw, hb, hz, hB, hc, hs⟩ := hI
  refine ⟨wf, wb, ⟨fun j hj => ?_, ?_, fun j hj => ?_⟩, ⟨hB.1, fun j hj => ?_, ?_, ?_⟩, ?_, ?_⟩
  · rw [hT] at hj
    rw [o4 4 j (by decide) (by omega), o4 8 j (by decide) (by omega), o4 7 j (by decide) (by omega)]; exact hz.1 j hj
  · rw [hT, d 9 (by decide) (by decide) (by decide) (by decide) (by decide)]; exact hz.2.1
  · rw [hR] at hj
    rw [o19 j (by omega), d 21 (by decide) (by decide) (by decide) (by decide) (by decide)]; exact hz.2.2 j hj
  · rw [hT] at hj
    rw [d 0 (by decide) (by decide) (by decide) (by decide) (by decide), d 1 (by decide) (by decide) (by decide) (by decide) (by decide), d 2 (by decide) (by decide) (by decide) (by decide) (by decide)]
    have q := hB.2.1 j hj
    refine ⟨q.1, q.2.1, q.2.2.1, q.2.2.2.1, fun e => ?_⟩
    by_cases e2 : j = i
    · rw [e2] at e; exact absurd e h0
    · rw [o4 5 j (by decide) e2]; exact q.2.2.2.2 e
  · rw [d 9 (by decide) (by decide) (by decide) (by decide) (by decide)]; exact hB.2.2.1
  · rw [hR, hS, d 10 (by decide) (by decide) (by decide) (by decide) (by decide), d 11 (by decide) (by decide) (by decide) (by decide) (by decide), d 15 (by decide) (by decide) (by decide) (by decide) (by decide), d 16 (by decide) (by decide) (by decide) (by decide) (by decide), d 17 (by decide) (by decide) (by decide) (by decide) (by decide)]; exact hB.2.2.2
  · unfold IC at *; rw [hR, d 18 (by decide) (by decide) (by decide) (by decide) (by decide), d 20 (by decide) (by decide) (by decide) (by decide) (by decide)]; exact hc
  · unfold IS at *; rw [d 12 (by decide) (by decide) (by decide) (by decide) (by decide)]; exact hs
theorem INV_take {A : St} {E : Ex} (hI : INV A E) {i n : Nat} (hi : i < nt A) (hn : n < nr A) (h0 : ¬ ar A 0 i = 0) : INV (f_X2_takeTrial A i n) E := by
  have h1 : ∀ v, INV (f_X0_take (setA A 19 n v) i n) E := fun v => by
    have h := INV_took hI hi hn h0 v (ar (f_X0_take (setA A 19 n v) i n) 6 i)
    rw [setA_id rfl] at h
    exact h
  rw [f_X2_takeTrial]
  by_cases c1 : ar A 5 i = -1000000
  · rw [if_pos c1]; exact h1 _
  rw [if_neg c1]
  split
  · exact h1 _
  · exact INV_uns (INV_took hI hi hn h0 _ _) (hI.wf.la hi c1).2
theorem i_trial {S : St} {E : Ex} (hI : INV S E) {i k : Nat} (hi : i < nt S) (hk : k < nt S) (x z : Int32) : INV (f_X3_trial S i k x z).2 E := by
  have g := e_range hI i
  have g0 : (0 : Int32).toInt = 0 := by decide
  have r := hI.wf.r
  have hA : ∀ {er sp : Int32}, ¬ ar S 0 i = 0 → ¬ f_X3_settledNow S k = 0 → -(100000 * ((nr S : Int) + 1)) ≤ er.toInt → er.toInt ≤ 100000 * ((nr S : Int) + 1) → 0 ≤ sp.toInt → sp.toInt ≤ 400000 * ((nr S : Int) + 1) - 20000 → INV (if nI (nr S) < 300 then (nI (nr S), f_X2_takeTrial (addR S i k er sp) i (nr S)) else ((-4 : Int32), S)).2 E := fun {er sp} h0 hs b1 b2 b3 b4 => by
    by_cases c : nI (nr S) < 300
    · rw [if_pos c]
      have h3 : nr S < 300 := nIlt (by omega) (by decide) c
      have A0 : ar (addR S i k er sp) 0 i = ar S 0 i := by rw [addR_fun _ _ _ _ _ (Or.inl (by decide))]
      refine INV_take (INV_addR hI hk h3 b1 b2 b3 (by omega) (fun h1 h2 => ?_)) hi (Nat.lt_succ_self _) (by rw [A0]; exact h0)
      by_cases k0 : ar S 0 k = 0
      · exact h1 ((hI.2.2.2.1.2.1 k hk).2.2.2.2 k0)
      · exact hs (by rw [f_X3_settledNow, if_neg k0, if_neg h1, if_pos h2])
    · rw [if_neg c]; exact hI
  rw [← e_trial hI hi hk, f_X2_trial, e_errorHeld, e_spanOn, e_middle hI, can_others hI hk, can_others hI hk]
  by_cases h3 : ar S 0 i = 3
  · rw [if_pos h3, can_pump hI hi h3]
    by_cases c1 : f_X3_in z 0 100000 = 0
    · rw [e_in, if_pos c1]; exact hI
    rw [e_in, if_neg c1]
    by_cases c2 : ar S 0 i = 0
    · rw [if_pos c2]; exact hI
    rw [if_neg c2]
    by_cases c3 : ar S 8 i = 3
    · rw [if_pos c3]
      by_cases c4 : nI i = nI k
      · rw [if_pos c4]; exact hI
      rw [if_neg c4]
      by_cases c5 : 1 < ar S 0 k
      · rw [if_pos c5]; exact hI
      rw [if_neg c5]
      by_cases c6 : f_X3_settledNow S k = 0
      · rw [if_pos c6]; exact hI
      rw [if_neg c6]
      by_cases c7 : f_X3_dueNow S k = 0
      · rw [if_pos c7]
        have oz := in_int (a := 0) (b := 100000) (by decide) (by decide) c1
        have m := mid_b hI i
        have nb := new_b hI hk m.1 m.2 oz.1 oz.2 g.2.1 g.2.2
        exact hA c2 c6 nb.1 nb.2.1 nb.2.2.1 nb.2.2.2
      · rw [if_neg c7]; exact hI
    · rw [if_neg c3]; exact hI
  · rw [if_neg h3, can_else h3]
    by_cases c0 : f_X3_in x (-100000) 100000 = 0
    · rw [e_in, if_pos c0]; exact hI
    rw [e_in, if_neg c0]
    by_cases c1 : f_X3_in z 0 100000 = 0
    · rw [e_in, if_pos c1]; exact hI
    rw [e_in, if_neg c1]
    by_cases c2 : ar S 0 i = 0
    · rw [if_pos c2]; exact hI
    rw [if_neg c2]
    by_cases c4 : nI i = nI k
    · rw [if_pos c4]; exact hI
    rw [if_neg c4]
    by_cases c5 : 1 < ar S 0 k
    · rw [if_pos c5]; exact hI
    rw [if_neg c5]
    by_cases c6 : f_X3_settledNow S k = 0
    · rw [if_pos c6]; exact hI
    rw [if_neg c6]
    by_cases c7 : f_X3_dueNow S k = 0
    · rw [if_pos c7]
      have ox := in_int (a := -100000) (b := 100000) (by decide) (by decide) c0
      have oz := in_int (a := 0) (b := 100000) (by decide) (by decide) c1
      have nb := new_b hI hk ox.1 ox.2 oz.1 oz.2 (g := 0) (by omega) (by omega)
      rw [z0] at nb
      exact hA c2 c6 nb.1 nb.2.1 nb.2.2.1 nb.2.2.2
    · rw [if_neg c7]; exact hI
