-- trial
theorem St_ext {S T : St} (h1 : nt S = nt T) (h2 : nr S = nr T) (h3 : ∀ k, sc S k = sc T k) (h4 : ∀ a j, ar S a j = ar T a j) (h5 : ∀ i, os S i = os T i) : S = T := Prod.ext h1 (Prod.ext h2 (Prod.ext (funext h3) (Prod.ext (funext fun a => funext (h4 a)) (funext h5))))
theorem setA_comm (S : St) {a b : Nat} (i j : Nat) (v w : Int32) (h : a ≠ b) : setA (setA S a i v) b j w = setA (setA S b j w) a i v := by
  refine St_ext rfl rfl (fun _ => rfl) (fun c t => ?_) (fun _ => rfl)
  simp only [ar_setA]
  by_cases h1 : c = a
  · have h2 : c ≠ b := fun e => h (h1.symm.trans e)
    simp only [if_pos h1, if_neg h2]
  · simp only [if_neg h1]
theorem setA_id {S : St} {a i : Nat} {v : Int32} (h : ar S a i = v) : setA S a i v = S := by
  refine St_ext rfl rfl (fun _ => rfl) (fun c t => ?_) (fun _ => rfl)
  rw [ar_setA]
  by_cases h1 : c = a
  · rw [if_pos h1]
    by_cases h2 : t = i
    · rw [if_pos h2, h1, h2, h]
    · rw [if_neg h2]
  · rw [if_neg h1]
def tkM (S : St) (i k : Nat) (er sp : Int32) : Int32 × St :=
  if ar S 5 i = -1000000 then (if ar S 19 (nr S) = 0 then (nI (nr S), (setA (setA (setA (addR S i k er sp) 5 i (nI (nr S))) 4 i ((ar S 4 i) + 1)) 8 i 0))
    else (nI (nr S), (setA (setA (setA (setA (f_X3_unsettle (addR S i k er sp) (ar S 5 i)) 6 i ((-1000000))) 5 i (nI (nr S))) 4 i ((ar (f_X3_unsettle (addR S i k er sp) (ar S 5 i)) 4 i) + 1)) 8 i 0)))
  else if f_X3_settledNow (addR S i k er sp) i = 0 then (if ar S 19 (nr S) = 0 then (nI (nr S), (setA (setA (setA (addR S i k er sp) 5 i (nI (nr S))) 4 i ((ar S 4 i) + 1)) 8 i 0))
    else (nI (nr S), (setA (setA (setA (setA (f_X3_unsettle (addR S i k er sp) (ar S 5 i)) 6 i ((-1000000))) 5 i (nI (nr S))) 4 i ((ar (f_X3_unsettle (addR S i k er sp) (ar S 5 i)) 4 i) + 1)) 8 i 0)))
  else if er + sp < (ar S 16 (ix (ar S 5 i))) - (f_X3_spanOn (addR S i k er sp) i (sc S 0)) then (nI (nr S), (setA (setA (setA (setA (f_X3_unsettle (setA (addR S i k er sp) 19 (nr S) 1) (ar S 5 i)) 6 i ((-1000000))) 5 i (nI (nr S))) 4 i ((ar (f_X3_unsettle (setA (addR S i k er sp) 19 (nr S) 1) (ar S 5 i)) 4 i) + 1)) 8 i 0))
  else if er - sp ≤ (ar S 16 (ix (ar S 5 i))) + (f_X3_spanOn (addR S i k er sp) i (sc S 0)) then (nI (nr S), (setA (setA (setA (setA (addR S i k er sp) 19 (nr S) 0) 5 i (nI (nr S))) 4 i ((ar S 4 i) + 1)) 8 i 0))
  else (nI (nr S), (setA (setA (setA (setA (f_X3_unsettle (setA (addR S i k er sp) 19 (nr S) 1) (ar S 5 i)) 6 i ((-1000000))) 5 i (nI (nr S))) 4 i ((ar (f_X3_unsettle (setA (addR S i k er sp) 19 (nr S) 1) (ar S 5 i)) 4 i) + 1)) 8 i 0))
theorem t3_eq (S : St) (i k : Nat) (x z : Int32) : f_X3_trial S i k x z =
  if ar S 0 i = 3 then (if f_X3_in z 0 100000 = 0 then ((-2), S)
    else if ar S 0 i = 0 then ((-3), S)
    else if ar S 8 i = 3 then (if nI k = nI i then ((-3), S)
      else if 1 < ar S 0 k then ((-3), S)
      else if f_X3_settledNow S k = 0 then ((-3), S)
      else if f_X3_dueNow S k = 0 then (if nI (nr S) = 300 then ((-4), S) else tkM S i k ((f_X3_errorOf (setA (setA (setA (setR S (nr S + 1)) 13 (nr S) (nI i)) 14 (nr S) (nI k)) 15 (nr S) (sc S 0)) k) + (f_X3_middle (setA (setA (setA (setR S (nr S + 1)) 13 (nr S) (nI i)) 14 (nr S) (nI k)) 15 (nr S) (sc S 0)) i)) (((f_X3_spanOn (setA (setA (setA (setA (setR S (nr S + 1)) 13 (nr S) (nI i)) 14 (nr S) (nI k)) 15 (nr S) (sc S 0)) 16 (nr S) ((f_X3_errorOf (setA (setA (setA (setR S (nr S + 1)) 13 (nr S) (nI i)) 14 (nr S) (nI k)) 15 (nr S) (sc S 0)) k) + (f_X3_middle (setA (setA (setA (setR S (nr S + 1)) 13 (nr S) (nI i)) 14 (nr S) (nI k)) 15 (nr S) (sc S 0)) i))) k (sc S 0)) + z) + (f_X3_range (setA (setA (setA (setA (setR S (nr S + 1)) 13 (nr S) (nI i)) 14 (nr S) (nI k)) 15 (nr S) (sc S 0)) 16 (nr S) ((f_X3_errorOf (setA (setA (setA (setR S (nr S + 1)) 13 (nr S) (nI i)) 14 (nr S) (nI k)) 15 (nr S) (sc S 0)) k) + (f_X3_middle (setA (setA (setA (setR S (nr S + 1)) 13 (nr S) (nI i)) 14 (nr S) (nI k)) 15 (nr S) (sc S 0)) i))) i)))
      else ((-3), S))
    else ((-3), S))
  else if f_X3_in x ((-100000)) 100000 = 0 then ((-2), S)
  else if f_X3_in z 0 100000 = 0 then ((-2), S)
  else if ar S 0 i = 0 then ((-3), S)
  else if nI k = nI i then ((-3), S)
  else if 1 < ar S 0 k then ((-3), S)
  else if f_X3_settledNow S k = 0 then ((-3), S)
  else if f_X3_dueNow S k = 0 then (if nI (nr S) = 300 then ((-4), S) else tkM S i k ((f_X3_errorOf (setA (setA (setA (setR S (nr S + 1)) 13 (nr S) (nI i)) 14 (nr S) (nI k)) 15 (nr S) (sc S 0)) k) + x) (((f_X3_spanOn (setA (setA (setA (setA (setR S (nr S + 1)) 13 (nr S) (nI i)) 14 (nr S) (nI k)) 15 (nr S) (sc S 0)) 16 (nr S) ((f_X3_errorOf (setA (setA (setA (setR S (nr S + 1)) 13 (nr S) (nI i)) 14 (nr S) (nI k)) 15 (nr S) (sc S 0)) k) + x)) k (sc S 0)) + z) + 0))
  else ((-3), S) := rfl
theorem sp_chg {S S' : St} (hW : WF S) {i : Nat} (hi : i < nt S) (h5 : ar S' 5 = ar S 5) (h1 : ar S' 1 = ar S 1) (h17 : ∀ j, j < nr S → ar S' 17 j = ar S 17 j) (h15 : ∀ j, j < nr S → ar S' 15 j = ar S 15 j) (d : Int32) : f_X3_spanOn S' i d = f_X3_spanOn S i d := by
  rw [f_X3_spanOn, f_X3_spanOn, h5, h1]
  by_cases h : ar S 5 i = -1000000
  · rw [if_pos h, if_pos h]
  · rw [if_neg h, if_neg h, h17 _ (hW.la hi h).2, h15 _ (hW.la hi h).2]
theorem t3_er (S : St) (i k : Nat) : f_X3_errorOf (setA (setA (setA (setR S (nr S + 1)) 13 (nr S) (nI i)) 14 (nr S) (nI k)) 15 (nr S) (sc S 0)) k = f_X3_errorOf S k := by
  rw [f_X3_errorOf, f_X3_errorOf]
  simp only [ar_ne _ _ _ _ _ (show 5 ≠ 15 by decide), ar_ne _ _ _ _ _ (show 5 ≠ 14 by decide), ar_ne _ _ _ _ _ (show 5 ≠ 13 by decide), ar_ne _ _ _ _ _ (show 16 ≠ 15 by decide), ar_ne _ _ _ _ _ (show 16 ≠ 14 by decide), ar_ne _ _ _ _ _ (show 16 ≠ 13 by decide), ar_setR]
theorem t3_mid (S : St) (i k : Nat) : f_X3_middle (setA (setA (setA (setR S (nr S + 1)) 13 (nr S) (nI i)) 14 (nr S) (nI k)) 15 (nr S) (sc S 0)) i = f_X3_middle S i := by
  rw [f_X3_middle, f_X3_middle]
  simp only [ar_ne _ _ _ _ _ (show 9 ≠ 15 by decide), ar_ne _ _ _ _ _ (show 9 ≠ 14 by decide), ar_ne _ _ _ _ _ (show 9 ≠ 13 by decide), ar_setR]
theorem t3_rng (S : St) (i k : Nat) (er : Int32) : f_X3_range (setA (setA (setA (setA (setR S (nr S + 1)) 13 (nr S) (nI i)) 14 (nr S) (nI k)) 15 (nr S) (sc S 0)) 16 (nr S) er) i = f_X3_range S i := by
  rw [f_X3_range, f_X3_range]
  simp only [ar_ne _ _ _ _ _ (show 9 ≠ 16 by decide), ar_ne _ _ _ _ _ (show 9 ≠ 15 by decide), ar_ne _ _ _ _ _ (show 9 ≠ 14 by decide), ar_ne _ _ _ _ _ (show 9 ≠ 13 by decide), ar_setR]
theorem t3_sp {S : St} (hW : WF S) (i : Nat) {k : Nat} (hk : k < nt S) (er : Int32) (d : Int32) : f_X3_spanOn (setA (setA (setA (setA (setR S (nr S + 1)) 13 (nr S) (nI i)) 14 (nr S) (nI k)) 15 (nr S) (sc S 0)) 16 (nr S) er) k d = f_X3_spanOn S k d := by
  refine sp_chg hW hk ?_ ?_ (fun j hj => ?_) (fun j hj => ?_) d
  · rw [ar_diff _ _ _ _ (by decide), ar_diff _ _ _ _ (by decide), ar_diff _ _ _ _ (by decide), ar_diff _ _ _ _ (by decide), ar_setRf]
  · rw [ar_diff _ _ _ _ (by decide), ar_diff _ _ _ _ (by decide), ar_diff _ _ _ _ (by decide), ar_diff _ _ _ _ (by decide), ar_setRf]
  · rw [ar_off _ _ _ _ _ (by omega), ar_off _ _ _ _ _ (by omega), ar_off _ _ _ _ _ (by omega), ar_off _ _ _ _ _ (by omega), ar_setR]
  · rw [ar_off _ _ _ _ _ (by omega), ar_off _ _ _ _ _ (by omega), ar_off _ _ _ _ _ (by omega), ar_off _ _ _ _ _ (by omega), ar_setR]
-- unsettling
theorem uns_eq {x : Int32} {u : Nat} (hx : x = nI u) (hu : u < 300) : ∀ (q k : Nat) (Z : St), k + q = nr Z → nr Z ≤ 300 → WB Z → r_X2_unsettleAllBasedOn u q k Z = r_X3_unsettle x q k Z := by
  intro q
  induction q with
  | zero => intro k Z _ _ _; rw [r_X2_unsettleAllBasedOn, r_X3_unsettle]
  | succ q ih =>
    intro k Z hk h3 hB
    rw [r_X2_unsettleAllBasedOn, r_X3_unsettle, f_X1_isShakenBy]
    have ih1 := ih (k + 1) Z (by omega) h3 hB
    have ih2 := ih (k + 1) (setA Z 18 k 0) (by rw [nr_setA]; omega) h3 (hB.setA k 0 (by decide))
    by_cases c1 : ar Z 20 k = -1000000
    · rw [if_pos c1, if_pos rfl, if_pos c1, ih1]
    have o := hB.ba (show k < nr Z by omega) c1
    have o2 := o.2
    have e : ix (ar Z 20 k) = u ↔ ar Z 20 k = x := by
      rw [hx]
      constructor
      · intro h; rw [← h]; exact o.1
      · intro h
        have h2 := o.1
        rw [h, nI_eq (by omega) (by rw [← h]; omega), ← h] at h2
        exact h2.symm
    rw [if_neg c1, if_neg c1]
    by_cases c2 : ar Z 20 k = x
    · rw [if_pos (e.mpr c2), if_pos c2, if_neg (by decide), ih2]
    rw [if_neg (fun h => c2 (e.mp h)), if_neg c2]
    by_cases c3 : ar Z 18 (ix (ar Z 20 k)) = 0
    · rw [if_pos c3, if_pos c3, if_neg (by decide), ih2]
    · rw [if_neg c3, if_neg c3, if_pos rfl, ih1]
theorem uns_app (x : Int32) : ∀ (a q k : Nat) (Z : St), r_X3_unsettle x (a + q) k Z = r_X3_unsettle x q (k + a) (r_X3_unsettle x a k Z) := by
  intro a
  induction a with
  | zero => intro q k Z; rw [r_X3_unsettle, Nat.zero_add, Nat.add_zero]
  | succ a ih =>
    intro q k Z
    rw [show a + 1 + q = (a + q) + 1 by omega, r_X3_unsettle, r_X3_unsettle, show k + (a + 1) = k + 1 + a by omega]
    by_cases c1 : ar Z 20 k = -1000000
    · rw [if_pos c1, if_pos c1, ih]
    rw [if_neg c1, if_neg c1]
    by_cases c2 : ar Z 20 k = x
    · rw [if_pos c2, if_pos c2, ih]
    rw [if_neg c2, if_neg c2]
    by_cases c3 : ar Z 18 (ix (ar Z 20 k)) = 0
    · rw [if_pos c3, if_pos c3, ih]
    · rw [if_neg c3, if_neg c3, ih]
theorem uns_nop {x : Int32} {Z : St} : ∀ (a k : Nat), (∀ m, k ≤ m → m < k + a → ¬ ar Z 20 m = -1000000 → ¬ ar Z 20 m = x ∧ (ar Z 18 (ix (ar Z 20 m)) = 0 → ar Z 18 m = 0)) → r_X3_unsettle x a k Z = Z := by
  intro a
  induction a with
  | zero => intro k _; rw [r_X3_unsettle]
  | succ a ih =>
    intro k h
    have ih := ih (k + 1) (fun m h1 h2 => h m (by omega) (by omega))
    rw [r_X3_unsettle]
    by_cases c1 : ar Z 20 k = -1000000
    · rw [if_pos c1, ih]
    obtain ⟨h1, h2⟩ := h k (Nat.le_refl _) (by omega) c1
    rw [if_neg c1, if_neg h1]
    by_cases c3 : ar Z 18 (ix (ar Z 20 k)) = 0
    · rw [if_pos c3, setA_id (h2 c3), ih]
    · rw [if_neg c3, ih]
theorem uns_all {x : Int32} {u : Nat} {Z : St} (hx : x = nI u) (hu : u < nr Z) (h3 : nr Z ≤ 300) (hB : WB Z) (hC : ∀ m, m ≤ u → ¬ ar Z 20 m = -1000000 → ar Z 18 (ix (ar Z 20 m)) = 0 → ar Z 18 m = 0) : f_X3_unsettle Z x = f_X2_unsettleAllBasedOn Z u := by
  rw [f_X3_unsettle, f_X2_unsettleAllBasedOn]
  have e : nr Z = (u + 1) + (nr Z - (u + 1)) := by omega
  rw [uns_eq hx (by omega) _ _ _ (by omega) h3 hB]
  conv => lhs; rw [e]
  have nop : r_X3_unsettle x (u + 1) 0 Z = Z := uns_nop _ _ (fun m _ hm hn => ?_)
  · rw [uns_app, nop, Nat.zero_add]
  have o := hB.ba (show m < nr Z by omega) hn
  have o2 := o.2
  refine ⟨fun h => ?_, hC m (by omega) hn⟩
  have h2 := o.1
  rw [h, hx, nI_eq (by omega) (by rw [← hx, ← h]; omega), ← hx, ← h] at h2
  omega
theorem uns_set {u a j : Nat} {v : Int32} (h18 : a ≠ 18) (h20 : a ≠ 20) : ∀ (q k : Nat) (Z : St), r_X2_unsettleAllBasedOn u q k (setA Z a j v) = setA (r_X2_unsettleAllBasedOn u q k Z) a j v := by
  intro q
  induction q with
  | zero => intro k Z; rw [r_X2_unsettleAllBasedOn, r_X2_unsettleAllBasedOn]
  | succ q ih =>
    intro k Z
    have e : f_X1_isShakenBy (setA Z a j v) k u = f_X1_isShakenBy Z k u := by
      rw [f_X1_isShakenBy, f_X1_isShakenBy, ar_diff _ _ _ _ (Ne.symm h20), ar_diff _ _ _ _ (Ne.symm h18)]
    rw [r_X2_unsettleAllBasedOn, r_X2_unsettleAllBasedOn, e]
    by_cases c : f_X1_isShakenBy Z k u = 0
    · rw [if_pos c, if_pos c, ih]
    · rw [if_neg c, if_neg c, setA_comm _ _ _ _ _ h18, ih]
theorem uns_ar {u a : Nat} (h18 : a ≠ 18) : ∀ (q k : Nat) (Z : St), ar (r_X2_unsettleAllBasedOn u q k Z) a = ar Z a := by
  intro q
  induction q with
  | zero => intro k Z; rw [r_X2_unsettleAllBasedOn]
  | succ q ih =>
    intro k Z
    rw [r_X2_unsettleAllBasedOn]
    by_cases c : f_X1_isShakenBy Z k u = 0
    · rw [if_pos c, ih]
    · rw [if_neg c, ih, ar_diff _ _ _ _ h18]
theorem uns_ntsc {u : Nat} : ∀ (q k : Nat) (Z : St), nt (r_X2_unsettleAllBasedOn u q k Z) = nt Z ∧ sc (r_X2_unsettleAllBasedOn u q k Z) = sc Z := by
  intro q
  induction q with
  | zero => intro k Z; rw [r_X2_unsettleAllBasedOn]; exact ⟨rfl, rfl⟩
  | succ q ih =>
    intro k Z
    rw [r_X2_unsettleAllBasedOn]
    by_cases c : f_X1_isShakenBy Z k u = 0
    · rw [if_pos c]; exact ih _ _
    · rw [if_neg c]; exact ih _ (setA Z 18 k 0)
theorem uns_IC {u : Nat} : ∀ (q k : Nat) (Z : St), k + q = nr Z → WB Z → (∀ m, m < k → ¬ ar Z 20 m = -1000000 → ar Z 18 (ix (ar Z 20 m)) = 0 → ar Z 18 m = 0) → IC (r_X2_unsettleAllBasedOn u q k Z) := by
  intro q
  induction q with
  | zero => intro k Z hk _ h; rw [r_X2_unsettleAllBasedOn]; exact fun m hm => h m (by omega)
  | succ q ih =>
    intro k Z hk hB h
    rw [r_X2_unsettleAllBasedOn]
    by_cases c : f_X1_isShakenBy Z k u = 0
    · rw [if_pos c]
      refine ih _ _ (by omega) hB (fun m hm hn h0 => ?_)
      by_cases e : m = k
      · subst e
        rw [f_X1_isShakenBy, if_neg hn] at c
        by_cases c2 : ix (ar Z 20 m) = u
        · rw [if_pos c2] at c; exact absurd c (by decide)
        · rw [if_neg c2, if_pos h0] at c; exact absurd c (by decide)
      · exact h m (by omega) hn h0
    · rw [if_neg c]
      refine ih _ (setA Z 18 k 0) (by rw [nr_setA]; omega) (hB.setA k 0 (by decide)) (fun m hm hn h0 => ?_)
      rw [ar_ne _ _ _ _ _ (show 20 ≠ 18 by decide)] at hn h0
      by_cases e : m = k
      · rw [e, ar_same]
      · have o := hB.ba (show m < nr Z by omega) hn
        have o2 := o.2
        rw [ar_off _ _ _ _ _ (by omega)] at h0
        rw [ar_off _ _ _ _ _ e]
        exact h m (by omega) hn h0
theorem INV_uns {Z : St} {E : Ex} (hI : INV Z E) {u : Nat} (hu : u < nr Z) : INV (f_X2_unsettleAllBasedOn Z u) E := by
  rw [f_X2_unsettleAllBasedOn]
  have hC := uns_IC (u := u) (nr Z - (u + 1)) (u + 1) Z (by omega) hI.wb (fun m hm => hI.2.2.2.2.1 m (by omega))
  have hR := nr_uns u (nr Z - (u + 1)) (u + 1) Z
  have hT := uns_ntsc (u := u) (nr Z - (u + 1)) (u + 1) Z
  have d : ∀ a, a ≠ 18 → ar (r_X2_unsettleAllBasedOn u (nr Z - (u + 1)) (u + 1) Z) a = ar Z a := fun a h => uns_ar h _ _ _
  obtain ⟨hw, hb, hz, hB, hc, hs⟩ := hI
  refine ⟨hw.same hT.1 hR (d 0 (by decide)) (d 3 (by decide)) (d 5 (by decide)) (d 8 (by decide)), ?_, ?_, ?_, hC, ?_⟩
  · unfold WB at *; rw [hR, d 20 (by decide)]; exact hb
  · unfold IZ at *; rw [hR, hT.1, d 4 (by decide), d 7 (by decide), d 8 (by decide), d 9 (by decide), d 19 (by decide), d 21 (by decide)]; exact hz
  · unfold IB at *; rw [hR, hT.1, hT.2, d 0 (by decide), d 1 (by decide), d 2 (by decide), d 5 (by decide), d 9 (by decide), d 10 (by decide), d 11 (by decide), d 15 (by decide), d 16 (by decide), d 17 (by decide)]; exact hB
  · unfold IS at *; rw [d 12 (by decide)]; exact hs
