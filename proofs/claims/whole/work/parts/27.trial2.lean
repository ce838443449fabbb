-- middle and range of three draws
theorem mn2 (x y : Int32) : (f_min x y).toInt ≤ x.toInt ∧ (f_min x y).toInt ≤ y.toInt ∧ ((f_min x y).toInt = x.toInt ∨ (f_min x y).toInt = y.toInt) := by
  rw [f_min]
  by_cases h : y < x
  · rw [if_pos h]; rw [i_lt] at h; omega
  · rw [if_neg h]; rw [i_lt] at h; omega
theorem mx2 (x y : Int32) : x.toInt ≤ (f_max x y).toInt ∧ y.toInt ≤ (f_max x y).toInt ∧ ((f_max x y).toInt = x.toInt ∨ (f_max x y).toInt = y.toInt) := by
  rw [f_max]
  by_cases h : x < y
  · rw [if_pos h]; rw [i_lt] at h; omega
  · rw [if_neg h]; rw [i_lt] at h; omega
theorem e_middle {S : St} {E : Ex} (hI : INV S E) (i : Nat) : f_X0_middleDraw S i = f_X3_middle S i := by
  have b0 := hI.2.2.2.1.2.2.1 (3 * i + 0)
  have b1 := hI.2.2.2.1.2.2.1 (3 * i + 1)
  have b2 := hI.2.2.2.1.2.2.1 (3 * i + 2)
  show ar S 9 (3 * i + 0) + ar S 9 (3 * i + 1) + ar S 9 (3 * i + 2) - f_min (ar S 9 (3 * i + 0)) (f_min (ar S 9 (3 * i + 1)) (ar S 9 (3 * i + 2))) - f_max (ar S 9 (3 * i + 0)) (f_max (ar S 9 (3 * i + 1)) (ar S 9 (3 * i + 2))) = _
  rw [f_X3_middle]
  revert b0 b1 b2
  generalize ar S 9 (3 * i + 0) = a
  generalize ar S 9 (3 * i + 1) = b
  generalize ar S 9 (3 * i + 2) = c
  intro b0 b1 b2
  have m1 := mn2 b c
  have m2 := mn2 a (f_min b c)
  have x1 := mx2 b c
  have x2 := mx2 a (f_max b c)
  have s1 : (a + b).toInt = a.toInt + b.toInt := q_add (by omega) (by omega)
  have s2 : (a + b + c).toInt = a.toInt + b.toInt + c.toInt := by rw [q_add (by omega) (by omega), s1]
  have s3 : (a + b + c - f_min a (f_min b c)).toInt = a.toInt + b.toInt + c.toInt - (f_min a (f_min b c)).toInt := by rw [q_sub (by omega) (by omega), s2]
  have s4 : (a + b + c - f_min a (f_min b c) - f_max a (f_max b c)).toInt = a.toInt + b.toInt + c.toInt - (f_min a (f_min b c)).toInt - (f_max a (f_max b c)).toInt := by rw [q_sub (by omega) (by omega), s3]
  rw [i_eq, s4]
  simp only [i_le]
  repeat' split
  all_goals omega
theorem e_range {S : St} {E : Ex} (hI : INV S E) (i : Nat) : f_X0_spreadOfDraws S i = f_X3_range S i ∧ 0 ≤ (f_X0_spreadOfDraws S i).toInt ∧ (f_X0_spreadOfDraws S i).toInt ≤ 200000 := by
  have b0 := hI.2.2.2.1.2.2.1 (3 * i + 0)
  have b1 := hI.2.2.2.1.2.2.1 (3 * i + 1)
  have b2 := hI.2.2.2.1.2.2.1 (3 * i + 2)
  have e : f_X0_spreadOfDraws S i = f_max (ar S 9 (3 * i + 0)) (f_max (ar S 9 (3 * i + 1)) (ar S 9 (3 * i + 2))) - f_min (ar S 9 (3 * i + 0)) (f_min (ar S 9 (3 * i + 1)) (ar S 9 (3 * i + 2))) := rfl
  rw [e, f_X3_range]
  revert b0 b1 b2
  generalize ar S 9 (3 * i + 0) = a
  generalize ar S 9 (3 * i + 1) = b
  generalize ar S 9 (3 * i + 2) = c
  intro b0 b1 b2
  have m1 := mn2 b c
  have m2 := mn2 a (f_min b c)
  have x1 := mx2 b c
  have x2 := mx2 a (f_max b c)
  have s1 : (f_max a (f_max b c) - f_min a (f_min b c)).toInt = (f_max a (f_max b c)).toInt - (f_min a (f_min b c)).toInt := q_sub (by omega) (by omega)
  rw [i_eq, s1]
  refine ⟨?_, by omega, by omega⟩
  simp only [i_le]
  repeat' split
  all_goals first | (rw [q_sub (by omega) (by omega)]; omega)
theorem mid_b {S : St} {E : Ex} (hI : INV S E) (i : Nat) : -100000 ≤ (f_X3_middle S i).toInt ∧ (f_X3_middle S i).toInt ≤ 100000 := by
  have b := hI.2.2.2.1.2.2.1
  rw [f_X3_middle]
  repeat' split
  all_goals exact b _
/-- what the master holds on this day -/
theorem bm {S : St} {E : Ex} (hI : INV S E) {k : Nat} (hk : k < nt S) : -(100000 * (nr S : Int)) ≤ (f_X3_errorOf S k).toInt ∧ (f_X3_errorOf S k).toInt ≤ 100000 * (nr S : Int) ∧ 0 ≤ (f_X3_spanOn S k (sc S 0)).toInt ∧ (f_X3_spanOn S k (sc S 0)).toInt ≤ 400000 * (nr S : Int) + 20000 := by
  have h00 : (0 : Int32).toInt = 0 := by decide
  by_cases hla : ar S 5 k = -1000000
  · rw [f_X3_errorOf, if_pos hla, f_X3_spanOn, if_pos hla, h00]; omega
  · have w := b_day hI
    have t := b_th hI hk
    have o := (hI.wf.la hk hla).2
    obtain ⟨h1, h2, h3, h4, h5, h6⟩ := hI.2.2.2.1.2.2.2.1 _ o
    rw [sp_int hI hk hla (Int.le_refl _) (by omega), f_X3_errorOf, if_neg hla]
    have p1 : 0 ≤ (ar S 1 k).toInt * ((sc S 0).toInt - (ar S 15 (ix (ar S 5 k))).toInt) := Int.mul_nonneg t.1 (by omega)
    have p2 : (ar S 1 k).toInt * ((sc S 0).toInt - (ar S 15 (ix (ar S 5 k))).toInt) ≤ 100 * 20000 := Int.mul_le_mul t.2.1 (by omega) (by omega) (by decide)
    unfold spI
    refine ⟨by omega, by omega, by omega, by omega⟩
-- the new trial taken
theorem tk_eq {S : St} {E : Ex} (hI : INV S E) {i k : Nat} (hi : i < nt S) (hk : k < nt S) (h0 : ¬ ar S 0 i = 0) {er sp : Int32} (b1 : -30200000 ≤ er.toInt) (b2 : er.toInt ≤ 30200000) (b3 : 0 ≤ sp.toInt) (b4 : sp.toInt ≤ 121400000) (hn : nr S < 300) : tkM S i k er sp = (nI (nr S), f_X2_takeTrial (addR S i k er sp) i (nr S)) := by
  have z19 : ar S 19 (nr S) = 0 := hI.zr.1
  have hR : nr (addR S i k er sp) = nr S + 1 := rfl
  have wb : WB (addR S i k er sp) := WB_addR hI.wf hI.wb hk
  have A19 : ar (addR S i k er sp) 19 (nr S) = 0 := by rw [addR_fun _ _ _ _ _ (Or.inr (Or.inl rfl)), z19]
  have A0 : ar (addR S i k er sp) 0 i = ar S 0 i := by rw [addR_fun _ _ _ _ _ (Or.inl (by decide))]
  have A5 : ar (addR S i k er sp) 5 i = ar S 5 i := by rw [addR_fun _ _ _ _ _ (Or.inl (by decide))]
  have A4 : ar (addR S i k er sp) 4 i = ar S 4 i := by rw [addR_fun _ _ _ _ _ (Or.inl (by decide))]
  have A15 : ar (addR S i k er sp) 15 (nr S) = sc S 0 := by unfold addR; rw [ar_ne _ _ _ _ _ (by decide), ar_ne _ _ _ _ _ (by decide), ar_ne _ _ _ _ _ (by decide), ar_ne _ _ _ _ _ (by decide), ar_same]
  have A16 : ar (addR S i k er sp) 16 (nr S) = er := by unfold addR; rw [ar_ne _ _ _ _ _ (by decide), ar_ne _ _ _ _ _ (by decide), ar_ne _ _ _ _ _ (by decide), ar_same]
  have A17 : ar (addR S i k er sp) 17 (nr S) = sp := by unfold addR; rw [ar_ne _ _ _ _ _ (by decide), ar_ne _ _ _ _ _ (by decide), ar_same]
  have off : ∀ a j, j ≠ nr S → ar (addR S i k er sp) a j = ar S a j := fun a j h => addR_off S i k er sp a h
  have f5 : ar (addR S i k er sp) 5 = ar S 5 := addR_fun _ _ _ _ _ (Or.inl (by decide))
  have f1 : ar (addR S i k er sp) 1 = ar S 1 := addR_fun _ _ _ _ _ (Or.inl (by decide))
  have spA : f_X3_spanOn (addR S i k er sp) i (sc S 0) = f_X3_spanOn S i (sc S 0) := sp_chg hI.wf hi f5 f1 (fun j hj => off _ _ (by omega)) (fun j hj => off _ _ (by omega)) _
  have hC : ∀ m, m < nr S → ¬ ar (addR S i k er sp) 20 m = -1000000 → ar (addR S i k er sp) 18 (ix (ar (addR S i k er sp) 20 m)) = 0 → ar (addR S i k er sp) 18 m = 0 := fun m hm h1 h2 => by
    rw [off _ _ (by omega)] at h1 ⊢
    rw [off 20 _ (by omega), off 18 _ (by have := (hI.wb.ba hm h1).2; omega)] at h2
    exact hI.2.2.2.2.1 m hm h1 h2
  revert hR wb A19 A0 A5 A4 A15 A16 A17 off spA hC
  rw [tkM]
  generalize addR S i k er sp = A
  intro hR wb A19 A0 A5 A4 A15 A16 A17 off spA hC
  have id19 : setA A 19 (nr S) 0 = A := setA_id A19
  have take0 : f_X0_take A i (nr S) = setA (setA (setA A 5 i (nI (nr S))) 4 i (ar S 4 i + 1)) 8 i 0 := by rw [f_X0_take, A4]
  have n19 : ∀ v, ar (f_X0_take (setA A 19 (nr S) v) i (nr S)) 19 (nr S) = v := fun v => by rw [f_X0_take, ar_ne _ _ _ _ _ (by decide), ar_ne _ _ _ _ _ (by decide), ar_ne _ _ _ _ _ (by decide), ar_same]
  rw [f_X2_takeTrial, A5, n19]
  by_cases hla : ar S 5 i = -1000000
  · have wr : f_X0_isWrongedBy A i (nr S) = 0 := by rw [f_X0_isWrongedBy, A5, if_pos hla]
    rw [if_pos hla, if_pos z19, if_pos hla, wr, id19, take0]
  rw [if_neg hla, if_neg hla]
  have o := hI.wf.la hi hla
  have hu := o.2
  have A18 : ar A 18 (ix (ar S 5 i)) = ar S 18 (ix (ar S 5 i)) := off _ _ (by omega)
  have A16u : ar A 16 (ix (ar S 5 i)) = ar S 16 (ix (ar S 5 i)) := off _ _ (by omega)
  have hset : f_X3_settledNow A i = if ar S 18 (ix (ar S 5 i)) = 0 then 0 else 1 := by rw [f_X3_settledNow, A0, if_neg h0, A5, if_neg hla, A18]
  by_cases c : ar S 18 (ix (ar S 5 i)) = 0
  · have wr : f_X0_isWrongedBy A i (nr S) = 0 := by rw [f_X0_isWrongedBy, A5, if_neg hla, A18, if_pos c]
    rw [hset, if_pos c, if_pos rfl, if_pos z19, wr, if_pos rfl, id19, take0]
  have wr : f_X0_isWrongedBy A i (nr S) = if f_abs (ar S 16 (ix (ar S 5 i)) - er) ≤ f_X3_spanOn S i (sc S 0) + sp then 0 else 1 := by rw [f_X0_isWrongedBy, A5, if_neg hla, A18, if_neg c, A16u, A16, A15, A17, e_spanOn, spA]
  have be := b_er hI hi hla
  have w := b_day hI
  have sb := spI_b hI hi hla (Int.le_refl _) (by omega)
  rw [← sp_int hI hi hla (Int.le_refl _) (by omega)] at sb
  rw [hset, if_neg c, if_neg (by decide), spA, wr]
  have wrong : setA (setA (setA (setA (f_X3_unsettle (setA A 19 (nr S) 1) (ar S 5 i)) 6 i (-1000000)) 5 i (nI (nr S))) 4 i (ar (f_X3_unsettle (setA A 19 (nr S) 1) (ar S 5 i)) 4 i + 1)) 8 i 0 = f_X2_unsettleAllBasedOn (setA (f_X0_take (setA A 19 (nr S) 1) i (nr S)) 6 i (-1000000)) (ix (ar S 5 i)) := by
    have wb2 : WB (setA A 19 (nr S) 1) := wb.setA _ _ (by decide)
    have e2 : f_X3_unsettle (setA A 19 (nr S) 1) (ar S 5 i) = f_X2_unsettleAllBasedOn (setA A 19 (nr S) 1) (ix (ar S 5 i)) := by
      refine uns_all o.1 (by rw [nr_setA, hR]; omega) (by rw [nr_setA, hR]; omega) wb2 (fun m hm => ?_)
      rw [ar_diff _ _ _ _ (show 20 ≠ 19 by decide), ar_diff _ _ _ _ (show 18 ≠ 19 by decide)]
      exact hC m (by omega)
    rw [e2, f_X0_take, f_X2_unsettleAllBasedOn]
    show _ = r_X2_unsettleAllBasedOn (ix (ar S 5 i)) (nr (setA A 19 (nr S) 1) - (ix (ar S 5 i) + 1)) (ix (ar S 5 i) + 1) (setA (setA (setA (setA (setA A 19 (nr S) 1) 5 i (nI (nr S))) 4 i (ar (setA A 19 (nr S) 1) 4 i + 1)) 8 i 0) 6 i (-1000000))
    generalize setA A 19 (nr S) 1 = Z
    rw [uns_set (by decide) (by decide), uns_set (by decide) (by decide), uns_set (by decide) (by decide), uns_set (by decide) (by decide), uns_ar (show 4 ≠ 18 by decide)]
    rw [setA_comm _ _ _ _ _ (show 6 ≠ 5 by decide), setA_comm _ _ _ _ _ (show 6 ≠ 4 by decide), setA_comm _ _ _ _ _ (show 6 ≠ 8 by decide)]
  revert sb b1 b2 be wrong
  generalize ar S 16 (ix (ar S 5 i)) = e0
  generalize f_X3_spanOn S i (sc S 0) = s0
  intro b1 b2 be sb wrong
  have s1 : (e0 - er).toInt = e0.toInt - er.toInt := q_sub (by omega) (by omega)
  have s2 : (f_abs (e0 - er)).toInt = if 0 ≤ (e0 - er).toInt then (e0 - er).toInt else -(e0 - er).toInt := q_abs (by omega)
  have s3 : (s0 + sp).toInt = s0.toInt + sp.toInt := q_add (by omega) (by omega)
  have s4 : (er + sp).toInt = er.toInt + sp.toInt := q_add (by omega) (by omega)
  have s5 : (e0 - s0).toInt = e0.toInt - s0.toInt := q_sub (by omega) (by omega)
  have s6 : (er - sp).toInt = er.toInt - sp.toInt := q_sub (by omega) (by omega)
  have s7 : (e0 + s0).toInt = e0.toInt + s0.toInt := q_add (by omega) (by omega)
  have k1 : er + sp < e0 - s0 ↔ er.toInt + sp.toInt < e0.toInt - s0.toInt := by rw [i_lt, s4, s5]
  have k2 : er - sp ≤ e0 + s0 ↔ er.toInt - sp.toInt ≤ e0.toInt + s0.toInt := by rw [i_le, s6, s7]
  have k3 : f_abs (e0 - er) ≤ s0 + sp ↔ ¬ er.toInt + sp.toInt < e0.toInt - s0.toInt ∧ er.toInt - sp.toInt ≤ e0.toInt + s0.toInt := by
    rw [i_le, s2, s3, s1]
    by_cases h : 0 ≤ e0.toInt - er.toInt
    · rw [if_pos h]; omega
    · rw [if_neg h]; omega
  by_cases c1 : er + sp < e0 - s0
  · rw [if_pos c1, if_neg (fun h => (k3.mp h).1 (k1.mp c1)), if_neg (by decide), wrong]
  rw [if_neg c1]
  by_cases c2 : er - sp ≤ e0 + s0
  · rw [if_pos c2, if_pos (k3.mpr ⟨fun h => c1 (k1.mpr h), k2.mp c2⟩), if_pos rfl, id19, take0]
  · rw [if_neg c2, if_neg (fun h => c2 (k2.mpr (k3.mp h).2)), if_neg (by decide), wrong]
