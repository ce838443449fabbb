-- charge
theorem min5 (c : Int32) : f_min c 5 = if 5 ≤ c then 5 else c := by
  rw [f_min]
  by_cases h : (5 : Int32) < c
  · rw [if_pos h, if_pos (by rw [i_lt] at h; rw [i_le]; omega)]
  · rw [if_neg h]
    by_cases h2 : (5 : Int32) ≤ c
    · rw [if_pos h2]; rw [i_lt] at h; rw [i_le] at h2; rw [i_eq]; omega
    · rw [if_neg h2]
theorem abs_if (x : Int32) : f_abs x = if 0 ≤ x then x else -x := by
  rw [f_abs, Int32.zero_sub]
theorem e_charge {S : St} {E : Ex} (hI : INV S E) {i : Nat} (hi : i < nt S) : f_X2_charge S i = f_X3_charge S i := by
  by_cases hla : ar S 5 i = -1000000
  · have hj : ¬ f_X3_judgedOn S i (sc S 0) = 3 := fun e => (jd_la e (by decide)).2.2 hla
    rw [f_X2_charge, if_pos hla, f_X3_charge, e_tool, e_judgement hI hi, if_neg hj, if_neg hj]
  rw [f_X2_charge, if_neg hla, f_X3_charge, e_tool, e_judgement hI hi]
  by_cases c1 : f_X3_isTool S i = 0
  · rw [if_pos c1, if_pos c1]
  rw [if_neg c1, if_neg c1]
  by_cases c2 : f_X3_judgedOn S i (sc S 0) = 3
  · have h0 := (jd_la c2 (by decide)).1
    rw [if_pos c2, if_pos c2]
    by_cases c3 : ar S 15 (ix (ar S 5 i)) = sc S 0
    · rw [if_pos c3, if_pos c3]
      by_cases c4 : ar S 21 (ix (ar S 5 i)) = 0
      · have ho := hI.wf.ow hi
        have hO : ¬ f_X2_isOwner (ar S 3 i) = 0 := by rw [ho.1]; exact isO_in ho.2
        rw [if_pos c4, if_pos c4, if_neg hO]
        obtain ⟨T, hT⟩ : ∃ T, T = setA (setS (setA (setA S 21 (ix (ar S 5 i)) 1) 7 i ((ar S 7 i) + 1)) 1 ((sc S 1) + 1)) 22 (ix (ar S 3 i)) ((ar S 22 (ix (ar S 3 i))) + 1) := ⟨_, rfl⟩
        have hT2 : setS (setA (setA (setA S 21 (ix (ar S 5 i)) 1) 7 i ((ar S 7 i) + 1)) 22 (ix (ar S 3 i)) ((ar (setA (setA S 21 (ix (ar S 5 i)) 1) 7 i ((ar S 7 i) + 1)) 22 (ix (ar S 3 i))) + 1)) 1 ((sc S 1) + 1) = T := by
          rw [ar_ne _ _ _ _ _ (by decide), ar_ne _ _ _ _ _ (by decide), hT]; rfl
        have d : ∀ a, a ≠ 7 → a ≠ 21 → a ≠ 22 → ar T a = ar S a := fun a h7 h21 h22 => by
          rw [hT, ar_diff _ _ _ _ h22]
          show ar (setA (setA S 21 (ix (ar S 5 i)) 1) 7 i ((ar S 7 i) + 1)) a = _
          rw [ar_diff _ _ _ _ h7, ar_diff _ _ _ _ h21]
        have e1 : f_X3_errorOf T i = f_X3_errorOf S i := by rw [f_X3_errorOf, f_X3_errorOf, d 5 (by decide) (by decide) (by decide), d 16 (by decide) (by decide) (by decide)]
        have e2 : f_X3_spanOn T i (sc S 0) = f_X3_spanOn S i (sc S 0) := by rw [f_X3_spanOn, f_X3_spanOn, d 5 (by decide) (by decide) (by decide), d 17 (by decide) (by decide) (by decide), d 1 (by decide) (by decide) (by decide), d 15 (by decide) (by decide) (by decide)]
        have e3 : f_X3_allowance T i = f_X3_allowance S i := by rw [f_X3_allowance, f_X3_allowance, d 4 (by decide) (by decide) (by decide), d 10 (by decide) (by decide) (by decide), d 11 (by decide) (by decide) (by decide), d 0 (by decide) (by decide) (by decide)]
        have e4 : f_X2_allowanceFor T i = f_X3_allowance S i := by rw [← e_allowance hI hi h0, f_X2_allowanceFor, f_X2_allowanceFor, d 0 (by decide) (by decide) (by decide), d 4 (by decide) (by decide) (by decide), fA_c (d 10 (by decide) (by decide) (by decide)), fA_c (d 11 (by decide) (by decide) (by decide))]
        have e5 : ar T 22 (ix (ar S 3 i)) = ar S 22 (ix (ar S 3 i)) + 1 := by rw [hT, ar_same]
        have e6 : f_X0_errorSize T i = f_abs (f_X3_errorOf S i) := by rw [f_X0_errorSize, e_errorHeld, e1]
        rw [hT2, ← hT, e1, e2, e3, e4, e5, e6, e_spanOn, e2, min5, abs_if]
        by_cases k1 : 0 ≤ f_X3_errorOf S i
        · rw [if_pos k1, if_pos k1]
          by_cases k2 : 5 ≤ ar S 22 (ix (ar S 3 i)) + 1
          · rw [if_pos k2, if_pos k2]
          · rw [if_neg k2, if_neg k2]
        · rw [if_neg k1, if_neg k1]
          by_cases k2 : 5 ≤ ar S 22 (ix (ar S 3 i)) + 1
          · rw [if_pos k2, if_pos k2]
          · rw [if_neg k2, if_neg k2]
      · rw [if_neg c4, if_neg c4]
    · rw [if_neg c3, if_neg c3]
  · rw [if_neg c2, if_neg c2]
-- stays
theorem stays_loop {S : St} {i K : Nat} (hP : ∀ k : Nat, k < 20000 → (f_X3_judgedOn S i (((sc S 0) + (nI k)) + 1) = f_X3_judgedOn S i (sc S 0) ↔ k + 1 ≤ K)) : ∀ (q k : Nat), k + q = 20000 → k ≤ K → r_X3_stays S i q k = nI (min 20000 K) := by
  intro q
  induction q with
  | zero => intro k h1 h2; rw [r_X3_stays, show min 20000 K = 20000 by omega]
  | succ q ih =>
    intro k h1 h2
    rw [r_X3_stays]
    by_cases c : f_X3_judgedOn S i (((sc S 0) + (nI k)) + 1) = f_X3_judgedOn S i (sc S 0)
    · rw [if_pos c]; exact ih _ (by omega) ((hP k (by omega)).mp c)
    · rw [if_neg c]
      have := mt (hP k (by omega)).mpr c
      rw [show min 20000 K = k by omega]
theorem day_k {S : St} {E : Ex} (hI : INV S E) {k : Nat} (hk : k < 20000) : ((sc S 0) + (nI k) + 1).toInt = (sc S 0).toInt + (k : Int) + 1 := by
  have w := b_day hI
  have e1 : (nI k).toInt = (k : Int) := nI_toInt (by omega)
  have e2 : (1 : Int32).toInt = 1 := by decide
  have e3 : (sc S 0 + nI k).toInt = (sc S 0).toInt + (k : Int) := by rw [q_add (by rw [e1]; omega) (by rw [e1]; omega), e1]
  rw [q_add (by rw [e2, e3]; omega) (by rw [e2, e3]; omega), e2, e3]
theorem sp_le (S : St) (i : Nat) (d w : Int) : spI S i d ≤ w ↔ (ar S 1 i).toInt * (d - (ar S 15 (ix (ar S 5 i))).toInt) ≤ (w - (ar S 17 (ix (ar S 5 i))).toInt) * 100 := by
  unfold spI
  generalize (ar S 1 i).toInt * (d - (ar S 15 (ix (ar S 5 i))).toInt) = X
  omega
theorem l_sub {x y : Int64} (h1 : -9223372036854775808 ≤ x.toInt - y.toInt) (h2 : x.toInt - y.toInt < 9223372036854775808) : (x - y).toInt = x.toInt - y.toInt := by
  rw [Int64.toInt_sub]; exact Int.bmod_eq_of_le (by omega) (by omega)
theorem l_mul {x y : Int64} (h1 : -9223372036854775808 ≤ x.toInt * y.toInt) (h2 : x.toInt * y.toInt < 9223372036854775808) : (x * y).toInt = x.toInt * y.toInt := by
  rw [Int64.toInt_mul]; exact Int.bmod_eq_of_le (by omega) (by omega)
theorem l_div {x y : Int64} (h : 0 ≤ x.toInt) (hy : 0 < y.toInt) : (x / y).toInt = x.toInt / y.toInt := by
  have h2 := Int64.toInt_lt x
  have h3 : x.toInt / y.toInt ≤ x.toInt := Int.ediv_le_self _ h
  have h4 : 0 ≤ x.toInt / y.toInt := Int.ediv_nonneg h (by omega)
  rw [Int64.toInt_div, Int.tdiv_eq_ediv_of_nonneg h]
  exact Int.bmod_eq_of_le (by omega) (by omega)
theorem nw_int {S : St} {E : Ex} (hI : INV S E) {i : Nat} (hi : i < nt S) (hla : ¬ ar S 5 i = -1000000) {x : Int32} (hx : x.toInt ≤ 40000000) (hs : (ar S 17 (ix (ar S 5 i))).toInt ≤ x.toInt) (hd : 0 < (ar S 1 i).toInt) (h : (sc S 0).toInt - (ar S 15 (ix (ar S 5 i))).toInt ≤ (x.toInt - (ar S 17 (ix (ar S 5 i))).toInt) * 100 / (ar S 1 i).toInt) : f_X0_daysNoWiderThan S i x (sc S 0) = nI (min 20000 ((x.toInt - (ar S 17 (ix (ar S 5 i))).toInt) * 100 / (ar S 1 i).toInt - ((sc S 0).toInt - (ar S 15 (ix (ar S 5 i))).toInt)).toNat) := by
  have b := b_er hI hi hla
  have t := b_th hI hi
  have w := b_day hI
  have i100 : (100 : Int64).toInt = 100 := by decide
  have s1 : (x.toInt64 - (ar S 17 (ix (ar S 5 i))).toInt64).toInt = x.toInt - (ar S 17 (ix (ar S 5 i))).toInt := by
    rw [l_sub (by rw [Int32.toInt_toInt64, Int32.toInt_toInt64]; omega) (by rw [Int32.toInt_toInt64, Int32.toInt_toInt64]; omega), Int32.toInt_toInt64, Int32.toInt_toInt64]
  have s2 : ((x.toInt64 - (ar S 17 (ix (ar S 5 i))).toInt64) * 100).toInt = (x.toInt - (ar S 17 (ix (ar S 5 i))).toInt) * 100 := by
    rw [l_mul (by rw [s1, i100]; omega) (by rw [s1, i100]; omega), s1, i100]
  have s3 : ((x.toInt64 - (ar S 17 (ix (ar S 5 i))).toInt64) * 100 / (ar S 1 i).toInt64).toInt = (x.toInt - (ar S 17 (ix (ar S 5 i))).toInt) * 100 / (ar S 1 i).toInt := by
    rw [l_div (by rw [s2]; omega) (by rw [Int32.toInt_toInt64]; exact hd), s2, Int32.toInt_toInt64]
  have s4 : (sc S 0 - ar S 15 (ix (ar S 5 i))).toInt = (sc S 0).toInt - (ar S 15 (ix (ar S 5 i))).toInt := q_sub (by omega) (by omega)
  have k1 : (x.toInt - (ar S 17 (ix (ar S 5 i))).toInt) * 100 / (ar S 1 i).toInt ≤ (x.toInt - (ar S 17 (ix (ar S 5 i))).toInt) * 100 := Int.ediv_le_self _ (by omega)
  have s5 : ((x.toInt64 - (ar S 17 (ix (ar S 5 i))).toInt64) * 100 / (ar S 1 i).toInt64 - (sc S 0 - ar S 15 (ix (ar S 5 i))).toInt64).toInt = (x.toInt - (ar S 17 (ix (ar S 5 i))).toInt) * 100 / (ar S 1 i).toInt - ((sc S 0).toInt - (ar S 15 (ix (ar S 5 i))).toInt) := by
    rw [l_sub (by rw [s3, Int32.toInt_toInt64, s4]; omega) (by rw [s3, Int32.toInt_toInt64, s4]; omega), s3, Int32.toInt_toInt64, s4]
  have hd2 : (0 : Int32) < ar S 1 i := by rw [i_lt, show (0 : Int32).toInt = 0 by decide]; exact hd
  rw [f_X0_daysNoWiderThan, if_neg hla, if_pos hd2, f_lmin]
  revert s5
  generalize (x.toInt64 - (ar S 17 (ix (ar S 5 i))).toInt64) * 100 / (ar S 1 i).toInt64 - (sc S 0 - ar S 15 (ix (ar S 5 i))).toInt64 = y
  revert h
  generalize (x.toInt - (ar S 17 (ix (ar S 5 i))).toInt) * 100 / (ar S 1 i).toInt = N
  intro h s5
  have hy : y < 20000 ↔ y.toInt < 20000 := by rw [Int64.lt_iff_toInt_lt, show (20000 : Int64).toInt = 20000 by decide]
  by_cases c : y < 20000
  · have c' := hy.mp c
    rw [if_pos c, i_eq, Int64.toInt_toInt32, nI_toInt (by omega), Int.bmod_eq_of_le (by omega) (by omega)]
    omega
  · have c' := mt hy.mpr c
    rw [if_neg c, show min 20000 (N - ((sc S 0).toInt - (ar S 15 (ix (ar S 5 i))).toInt)).toNat = 20000 by omega]
    decide
/-- as long as the span is no wider than so much -/
theorem st_wide {S : St} {E : Ex} (hI : INV S E) {i : Nat} (hi : i < nt S) (hla : ¬ ar S 5 i = -1000000) {x : Int32} (hx : x.toInt ≤ 40000000) (hj : ∀ d : Int32, (sc S 0).toInt ≤ d.toInt → d.toInt ≤ 60000 → (f_X3_judgedOn S i d = f_X3_judgedOn S i (sc S 0) ↔ spI S i d.toInt ≤ x.toInt)) : f_X0_daysNoWiderThan S i x (sc S 0) = r_X3_stays S i 20000 0 := by
  have b := b_er hI hi hla
  have t := b_th hI hi
  have w := b_day hI
  have j0 := (hj (sc S 0) (Int.le_refl _) (by omega)).mp rfl
  by_cases hd : 0 < (ar S 1 i).toInt
  · have j1 := (sp_le _ _ _ _).mp j0
    rw [Int.mul_comm, ← Int.le_ediv_iff_mul_le hd] at j1
    have hs : (ar S 17 (ix (ar S 5 i))).toInt ≤ x.toInt := by
      have sb := q_prod t.1 t.2.1 (b := (sc S 0).toInt - (ar S 15 (ix (ar S 5 i))).toInt) (by omega) (by omega)
      unfold spI at j0
      omega
    rw [nw_int hI hi hla hx hs hd j1]
    refine (stays_loop (fun k hk => ?_) 20000 0 (by omega) (Nat.zero_le _)).symm
    have e := day_k hI hk
    rw [hj _ (by omega) (by omega), sp_le, Int.mul_comm, ← Int.le_ediv_iff_mul_le hd, e]
    omega
  · have hd0 : (ar S 1 i).toInt = 0 := by omega
    have hd2 : ¬ (0 : Int32) < ar S 1 i := by rw [i_lt, show (0 : Int32).toInt = 0 by decide]; exact hd
    rw [f_X0_daysNoWiderThan, if_neg hla, if_neg hd2]
    rw [stays_loop (K := 20000) (fun k hk => ?_) 20000 0 (by omega) (Nat.zero_le _)]
    · decide
    have e := day_k hI hk
    rw [hj _ (by omega) (by omega), sp_le, hd0, Int.zero_mul]
    rw [sp_le, hd0, Int.zero_mul] at j0
    omega
theorem spI_mono {S : St} {E : Ex} (hI : INV S E) {i : Nat} (hi : i < nt S) {d : Int} (h1 : (sc S 0).toInt ≤ d) : spI S i (sc S 0).toInt ≤ spI S i d := by
  have t := b_th hI hi
  have m := Int.mul_le_mul_of_nonneg_left (show (sc S 0).toInt - (ar S 15 (ix (ar S 5 i))).toInt ≤ d - (ar S 15 (ix (ar S 5 i))).toInt by omega) t.1
  unfold spI
  omega
theorem e_stays {S : St} {E : Ex} (hI : INV S E) {i : Nat} (hi : i < nt S) : f_X2_stays S i = f_X3_stays S i := by
  rw [f_X2_stays, f_X3_stays, e_judgement hI hi]
  by_cases h0 : ar S 0 i = 0
  · have e : f_X3_judgedOn S i (sc S 0) = 0 := by rw [f_X3_judgedOn, if_pos h0]
    rw [e]; rfl
  by_cases hs : f_X3_settledNow S i = 0
  · have e : f_X3_judgedOn S i (sc S 0) = 0 := by rw [f_X3_judgedOn, if_neg h0, if_pos hs]
    rw [e]; rfl
  have hla := set_la h0 hs
  have b := b_er hI hi hla
  have a := b_al hI hi h0
  have w := b_day hI
  have sb := spI_b hI hi hla (Int.le_refl _) (by omega)
  have hJ : ∀ d : Int32, (sc S 0).toInt ≤ d.toInt → d.toInt ≤ 60000 → f_X3_judgedOn S i d = jdI (f_X3_allowance S i).toInt (ar S 16 (ix (ar S 5 i))).toInt (spI S i d.toInt) := fun d h1 h2 => jd_on hI hi h0 hs h1 h2
  have hM : ∀ d : Int32, (sc S 0).toInt ≤ d.toInt → d.toInt ≤ 60000 → spI S i (sc S 0).toInt ≤ spI S i d.toInt := fun d h1 _ => spI_mono hI hi h1
  have ea := q_abs (x := ar S 16 (ix (ar S 5 i))) (by omega)
  have es : f_X0_errorSize S i = f_abs (ar S 16 (ix (ar S 5 i))) := by rw [f_X0_errorSize, e_errorHeld, f_X3_errorOf, if_neg hla]
  rw [es, e_allowance hI hi h0]
  have hb : 0 ≤ (f_abs (ar S 16 (ix (ar S 5 i)))).toInt ∧ (f_abs (ar S 16 (ix (ar S 5 i)))).toInt ≤ 30000000 := by rw [ea]; split <;> omega
  have hJ2 : ∀ d : Int32, (sc S 0).toInt ≤ d.toInt → d.toInt ≤ 60000 → f_X3_judgedOn S i d = if (f_abs (ar S 16 (ix (ar S 5 i)))).toInt + spI S i d.toInt ≤ (f_X3_allowance S i).toInt then 1 else if (f_X3_allowance S i).toInt < (f_abs (ar S 16 (ix (ar S 5 i)))).toInt - spI S i d.toInt then 3 else 2 := fun d h1 h2 => by rw [hJ d h1 h2, jdI, ← ea]
  have e0 := hJ2 (sc S 0) (Int.le_refl _) (by omega)
  clear ea es hJ b
  revert hb hJ2 e0
  generalize f_abs (ar S 16 (ix (ar S 5 i))) = u
  intro hb hJ2 e0
  by_cases c1 : u.toInt + spI S i (sc S 0).toInt ≤ (f_X3_allowance S i).toInt
  · rw [if_pos c1] at e0
    have s1 : (f_X3_allowance S i - u).toInt = (f_X3_allowance S i).toInt - u.toInt := q_sub (by omega) (by omega)
    rw [if_pos e0, if_neg (by rw [e0]; decide)]
    refine st_wide hI hi hla (by rw [s1]; omega) (fun d h1 h2 => ?_)
    rw [e0, hJ2 d h1 h2, s1]
    by_cases k1 : u.toInt + spI S i d.toInt ≤ (f_X3_allowance S i).toInt
    · rw [if_pos k1]; exact ⟨fun _ => by omega, fun _ => rfl⟩
    · rw [if_neg k1]
      refine ⟨fun h => ?_, fun h => absurd (show u.toInt + spI S i d.toInt ≤ (f_X3_allowance S i).toInt by omega) k1⟩
      revert h
      split
      · exact fun h => absurd h (by decide)
      · exact fun h => absurd h (by decide)
  rw [if_neg c1] at e0
  by_cases c2 : (f_X3_allowance S i).toInt < u.toInt - spI S i (sc S 0).toInt
  · rw [if_pos c2] at e0
    have e1 : (1 : Int32).toInt = 1 := by decide
    have s1 : (u - f_X3_allowance S i).toInt = u.toInt - (f_X3_allowance S i).toInt := q_sub (by omega) (by omega)
    have s2 : (u - f_X3_allowance S i - 1).toInt = u.toInt - (f_X3_allowance S i).toInt - 1 := by rw [q_sub (by rw [s1, e1]; omega) (by rw [s1, e1]; omega), s1, e1]
    rw [if_neg (by rw [e0]; decide), if_pos e0, if_neg (by rw [e0]; decide)]
    refine st_wide hI hi hla (by rw [s2]; omega) (fun d h1 h2 => ?_)
    have hm := hM d h1 h2
    rw [e0, hJ2 d h1 h2, s2, if_neg (show ¬ u.toInt + spI S i d.toInt ≤ (f_X3_allowance S i).toInt by omega)]
    by_cases k1 : (f_X3_allowance S i).toInt < u.toInt - spI S i d.toInt
    · rw [if_pos k1]; exact ⟨fun _ => by omega, fun _ => rfl⟩
    · rw [if_neg k1]
      exact ⟨fun h => absurd h (by decide), fun h => absurd (show (f_X3_allowance S i).toInt < u.toInt - spI S i d.toInt by omega) k1⟩
  · rw [if_neg c2] at e0
    rw [if_neg (by rw [e0]; decide), if_neg (by rw [e0]; decide), if_pos e0, if_neg (by rw [e0]; decide)]
    rw [stays_loop (K := 20000) (fun k hk => ?_) 20000 0 (by omega) (Nat.zero_le _)]
    · decide
    have e := day_k hI hk
    have hm := hM _ (show (sc S 0).toInt ≤ ((sc S 0) + (nI k) + 1).toInt by omega) (by omega)
    rw [e0, hJ2 _ (by omega) (by omega), if_neg (show ¬ u.toInt + spI S i ((sc S 0) + (nI k) + 1).toInt ≤ (f_X3_allowance S i).toInt by omega), if_neg (show ¬ (f_X3_allowance S i).toInt < u.toInt - spI S i ((sc S 0) + (nI k) + 1).toInt by omega)]
    exact ⟨fun _ => by omega, fun _ => rfl⟩
