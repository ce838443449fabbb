-- group and weight against the urgency
theorem tool_kd {S : St} {i : Nat} (h : tl S i = true) : ¬ ar S 0 i = 0 := fun e => (tl_iff S i).mp h (by rw [f_X3_isTool, e, if_neg (by decide), if_neg (by decide)])
theorem gr_cases (S : St) (i : Nat) : f_X3_group S i = 0 ∨ f_X3_group S i = 1 ∨ f_X3_group S i = 2 ∨ f_X3_group S i = 3 := by
  rw [f_X3_group]
  split
  · exact Or.inl rfl
  · split
    · exact Or.inr (Or.inl rfl)
    · split
      · exact Or.inr (Or.inr (Or.inr rfl))
      · exact Or.inr (Or.inr (Or.inl rfl))
theorem gr_int (S : St) (i : Nat) : 0 ≤ (f_X3_group S i).toInt ∧ (f_X3_group S i).toInt ≤ 3 := by
  rcases gr_cases S i with h | h | h | h <;> rw [h] <;> decide
/-- the excess of a thing with a trial -/
theorem we_eq {S : St} {i : Nat} (hla : ¬ ar S 5 i = -1000000) : f_X3_weight S i = f_abs (f_X3_errorOf S i) + f_X3_spanOn S i (sc S 0) - f_X3_allowance S i := by
  rw [f_X3_weight, abs_if]
  by_cases h : 0 ≤ f_X3_errorOf S i
  · rw [if_pos h, if_pos h, if_neg hla]
  · rw [if_neg h, if_neg h, if_neg hla]
theorem we_b {S : St} {E : Ex} (hI : INV S E) {i : Nat} (hi : i < nt S) (h0 : ¬ ar S 0 i = 0) : -100000 ≤ (f_X3_weight S i).toInt ∧ (f_X3_weight S i).toInt ≤ 152000000 := by
  by_cases hla : ar S 5 i = -1000000
  · rw [f_X3_weight, if_pos hla, if_pos hla]
    split <;> decide
  · have b := b_er hI hi hla
    have a := b_al hI hi h0
    have w := b_day hI
    have sb := spI_b hI hi hla (Int.le_refl _) (by omega)
    rw [← sp_int hI hi hla (Int.le_refl _) (by omega)] at sb
    rw [we_eq hla, f_X3_errorOf, if_neg hla]
    have ea := q_abs (x := ar S 16 (ix (ar S 5 i))) (by omega)
    have hb : 0 ≤ (f_abs (ar S 16 (ix (ar S 5 i)))).toInt ∧ (f_abs (ar S 16 (ix (ar S 5 i)))).toInt ≤ 30000000 := by rw [ea]; split <;> omega
    clear ea
    have s1 : (f_abs (ar S 16 (ix (ar S 5 i))) + f_X3_spanOn S i (sc S 0)).toInt = (f_abs (ar S 16 (ix (ar S 5 i)))).toInt + (f_X3_spanOn S i (sc S 0)).toInt := q_add (by omega) (by omega)
    rw [q_sub (by rw [s1]; omega) (by rw [s1]; omega), s1]
    omega
theorem u_val {S : St} {E : Ex} (hI : INV S E) {i : Nat} (hi : i < nt S) (h0 : ¬ ar S 0 i = 0) : uI S i = (3 - (f_X3_group S i).toInt) * 1099511627776 + (f_X3_weight S i).toInt := by
  have wb := we_b hI hi h0
  unfold uI
  rw [f_X2_urgencyOf, f_X3_group, e_settledNow, e_dueNow hI hi, f_X0_errorSize, e_errorHeld, e_spanOn, e_allowance hI hi h0]
  by_cases hla : ar S 5 i = -1000000
  · rw [if_pos hla, if_pos hla, f_X3_weight, if_pos hla, if_pos hla]
    split <;> decide
  rw [if_neg hla, if_neg hla, ← we_eq hla]
  have i2 : (2199023255552 : Int64).toInt = 2199023255552 := by decide
  have i1 : (1099511627776 : Int64).toInt = 1099511627776 := by decide
  have j1 : (1 : Int32).toInt = 1 := by decide
  have j2 : (2 : Int32).toInt = 2 := by decide
  have j3 : (3 : Int32).toInt = 3 := by decide
  by_cases c1 : f_X3_settledNow S i = 0
  · rw [if_pos c1, if_pos c1, l_add (by rw [i2, Int32.toInt_toInt64]; omega) (by rw [i2, Int32.toInt_toInt64]; omega), i2, Int32.toInt_toInt64, j1]
    omega
  rw [if_neg c1, if_neg c1]
  by_cases c2 : f_X3_dueNow S i = 0
  · rw [if_pos c2, if_pos c2, Int32.toInt_toInt64, j3]
    omega
  · rw [if_neg c2, if_neg c2, l_add (by rw [i1, Int32.toInt_toInt64]; omega) (by rw [i1, Int32.toInt_toInt64]; omega), i1, Int32.toInt_toInt64, j2]
    omega
theorem ahead_iff {S : St} {E : Ex} (hI : INV S E) {s t : Nat} (hs : s < nt S) (ht : t < nt S) (h1 : tl S s = true) (h2 : tl S t = true) : f_X3_isAhead S s t = 0 ↔ ¬ (uI S t < uI S s ∨ (uI S s = uI S t ∧ s < t)) := by
  have h40 := hI.wf.t
  have us := u_val hI hs (tool_kd h1)
  have ut := u_val hI ht (tool_kd h2)
  have ws := we_b hI hs (tool_kd h1)
  have wt := we_b hI ht (tool_kd h2)
  have gs := gr_int S s
  have gt := gr_int S t
  rw [us, ut, f_X3_isAhead]
  have k1 : f_X3_group S s = f_X3_group S t ↔ (f_X3_group S s).toInt = (f_X3_group S t).toInt := i_eq _ _
  have k2 : f_X3_weight S s = f_X3_weight S t ↔ (f_X3_weight S s).toInt = (f_X3_weight S t).toInt := i_eq _ _
  have k3 : f_X3_weight S s ≤ f_X3_weight S t ↔ (f_X3_weight S s).toInt ≤ (f_X3_weight S t).toInt := i_le _ _
  have k4 : f_X3_group S t ≤ f_X3_group S s ↔ (f_X3_group S t).toInt ≤ (f_X3_group S s).toInt := i_le _ _
  have k5 : nI t ≤ nI s ↔ t ≤ s := by rw [i_le, nI_toInt (by omega), nI_toInt (by omega)]; omega
  simp only [k1, k2, k3, k4, k5]
  clear k1 k2 k3 k4 k5 us ut
  revert ws wt gs gt
  generalize (f_X3_group S s).toInt = a
  generalize (f_X3_group S t).toInt = b
  generalize (f_X3_weight S s).toInt = c
  generalize (f_X3_weight S t).toInt = d
  intro ws wt gs gt
  by_cases e1 : a = b
  · rw [if_pos e1]
    by_cases e2 : c = d
    · rw [if_pos e2]
      by_cases e3 : t ≤ s
      · rw [if_pos e3]; exact ⟨fun _ => by omega, fun _ => rfl⟩
      · rw [if_neg e3]; exact ⟨fun h => absurd h (by decide), fun h => absurd (show (3 - b) * 1099511627776 + d < (3 - a) * 1099511627776 + c ∨ ((3 - a) * 1099511627776 + c = (3 - b) * 1099511627776 + d ∧ s < t) by omega) h⟩
    · rw [if_neg e2]
      by_cases e3 : c ≤ d
      · rw [if_pos e3]; exact ⟨fun _ => by omega, fun _ => rfl⟩
      · rw [if_neg e3]; exact ⟨fun h => absurd h (by decide), fun h => absurd (show (3 - b) * 1099511627776 + d < (3 - a) * 1099511627776 + c ∨ ((3 - a) * 1099511627776 + c = (3 - b) * 1099511627776 + d ∧ s < t) by omega) h⟩
  · rw [if_neg e1]
    by_cases e3 : b ≤ a
    · rw [if_pos e3]; exact ⟨fun _ => by omega, fun _ => rfl⟩
    · rw [if_neg e3]; exact ⟨fun h => absurd h (by decide), fun h => absurd (show (3 - b) * 1099511627776 + d < (3 - a) * 1099511627776 + c ∨ ((3 - a) * 1099511627776 + c = (3 - b) * 1099511627776 + d ∧ s < t) by omega) h⟩
theorem a_rk {S : St} {E : Ex} (hI : INV S E) {k : Nat} (hk : k < nt S) (h : tl S k = true) : ∀ (n : Nat), n ≤ nt S → a_X3_first S k n = nI (rk S n k) := by
  have h40 := hI.wf.t
  have hk0 := (tl_iff S k).mp h
  intro n
  induction n with
  | zero => intro _; rw [a_X3_first]; rfl
  | succ n ih =>
    intro hn
    have ih := ih (by omega)
    rw [a_X3_first, ih, rk_succ, if_neg hk0, z0]
    by_cases c1 : f_X3_isTool S n = 0
    · rw [if_pos c1, if_neg, Nat.add_zero]
      intro e; exact (tl_iff S n).mp ((ta_iff S n k).mp e).1 c1
    rw [if_neg c1]
    have tn := (tl_iff S n).mpr c1
    have q : nI n = nI k ↔ n = k := nI_eq (by omega) (by omega)
    by_cases c2 : n = k
    · rw [if_pos (q.mpr c2), if_neg, Nat.add_zero]
      intro e; have e2 := ((ta_iff S n k).mp e).2; rw [c2] at e2; omega
    rw [if_neg (fun e => c2 (q.mp e))]
    have r := ahead_iff hI (show n < nt S by omega) hk tn h
    by_cases c3 : f_X3_isAhead S n k = 0
    · rw [if_pos c3, if_neg, Nat.add_zero]
      intro e; exact r.mp c3 ((ta_iff S n k).mp e).2
    · rw [if_neg c3, if_pos ((ta_iff S n k).mpr ⟨tn, Classical.byContradiction (fun e => c3 (r.mpr e))⟩)]
      show nI (rk S n k) + nI 1 = nI (rk S n k + 1)
      rw [nI_add]
theorem cnt_n (p : Nat → Bool) : ∀ n, cnt p n ≤ n := by
  intro n
  induction n with
  | zero => exact Nat.le_refl _
  | succ n ih => rw [cnt]; split <;> omega
theorem f3_hit {S : St} {E : Ex} (hI : INV S E) {t : Nat} (ht : t < nt S) (h : tl S t = true) : ∀ (q k : Nat), k + q = nt S → k ≤ t → r_X3_first S (nI (rk S (nt S) t)) q k = nI t := by
  have h40 := hI.wf.t
  intro q
  induction q with
  | zero => intro k h1 h2; omega
  | succ q ih =>
    intro k h1 h2
    rw [r_X3_first]
    by_cases c1 : f_X3_isTool S k = 0
    · rw [if_pos c1]
      have : k ≠ t := fun e => (tl_iff S t).mp h (by rw [← e]; exact c1)
      exact ih _ (by omega) (by omega)
    rw [if_neg c1]
    have tk := (tl_iff S k).mpr c1
    rw [a_rk hI (by omega) tk _ (Nat.le_refl _)]
    have b1 := rk_lt (S := S) (K := nt S) ht h
    have b2 := rk_lt (S := S) (K := nt S) (show k < nt S by omega) tk
    have b3 := cnt_n (tl S) (nt S)
    have q : nI (rk S (nt S) k) = nI (rk S (nt S) t) ↔ rk S (nt S) k = rk S (nt S) t := nI_eq (by omega) (by omega)
    by_cases c2 : rk S (nt S) k = rk S (nt S) t
    · rw [if_pos (q.mpr c2), rk_inj (by omega) ht tk h c2]
    · rw [if_neg (fun e => c2 (q.mp e))]
      have : k ≠ t := fun e => c2 (by rw [e])
      exact ih _ (by omega) (by omega)
theorem f3_miss {S : St} {E : Ex} (hI : INV S E) {x : Int32} (hx : ¬ ∃ j, j < cnt (tl S) (nt S) ∧ x = nI j) : ∀ (q k : Nat), k + q = nt S → r_X3_first S x q k = -1000000 := by
  intro q
  induction q with
  | zero => intro k h1; rw [r_X3_first]
  | succ q ih =>
    intro k h1
    rw [r_X3_first]
    by_cases c1 : f_X3_isTool S k = 0
    · rw [if_pos c1]; exact ih _ (by omega)
    rw [if_neg c1]
    have tk := (tl_iff S k).mpr c1
    rw [a_rk hI (by omega) tk _ (Nat.le_refl _), if_neg]
    · exact ih _ (by omega)
    · intro e; exact hx ⟨_, rk_lt (show k < nt S by omega) tk, e.symm⟩
theorem e_first {S : St} {E : Ex} (hI : INV S E) (x : Int32) : (f_X2_first S E x).1 = f_X3_first S x := by
  have h40 := hI.wf.t
  obtain ⟨m, e, hR⟩ := RI_all (S := S) (nt S) 0 0 E ⟨rfl, fun p hp => absurd hp (Nat.not_lt_zero p)⟩
  rw [Nat.zero_add] at hR
  have hm := cnt_n (tl S) (nt S)
  have hm2 := hR.1
  rw [f_X2_first, f_X3_first, f_X2_rankThings, e]
  by_cases c : ∃ j, j < m ∧ x = nI j
  · obtain ⟨j, hj, rfl⟩ := c
    rw [if_neg (isW_in hj (by omega))]
    have o := nI_ok (n := j) (m := 40) (by omega) (by omega)
    have o2 := o.2
    have ej : ix (nI j) = j := ((nI_eq (by omega) (by omega)).mp o.1).symm
    obtain ⟨t, t1, t2, t3, t4, t5⟩ := hR.2 j hj
    show (r_X2_rankThings S (nt S) 0 0 E).2.2.1 (ix (nI j)) = _
    rw [ej, t3, ← t5, f3_hit hI t1 t2 _ _ (Nat.zero_add _) (Nat.zero_le _)]
  · rw [if_pos (isW_out (by omega) c)]
    rw [f3_miss hI (by rw [← hm2]; exact c) _ _ (Nat.zero_add _)]
