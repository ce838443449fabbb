-- bounds
theorem q_prod {a b : Int} (h1 : 0 ≤ a) (h2 : a ≤ 100) (h3 : 0 ≤ b) (h4 : b ≤ 60000) : 0 ≤ a * b ∧ a * b ≤ 6000000 := by
  refine ⟨Int.mul_nonneg h1 h3, ?_⟩
  have := Int.mul_le_mul h2 h4 h3 (by decide : (0 : Int) ≤ 100)
  omega
/-- what a thing with a trial has, as whole numbers -/
theorem b_er {S : St} {E : Ex} (hI : INV S E) {i : Nat} (hi : i < nt S) (hla : ¬ ar S 5 i = -1000000) : -30000000 ≤ (ar S 16 (ix (ar S 5 i))).toInt ∧ (ar S 16 (ix (ar S 5 i))).toInt ≤ 30000000 ∧ 0 ≤ (ar S 17 (ix (ar S 5 i))).toInt ∧ (ar S 17 (ix (ar S 5 i))).toInt ≤ 120000000 ∧ 0 ≤ (ar S 15 (ix (ar S 5 i))).toInt ∧ (ar S 15 (ix (ar S 5 i))).toInt ≤ (sc S 0).toInt := by
  have o := (hI.wf.la hi hla).2
  have r := hI.wf.r
  obtain ⟨h1, h2, h3, h4, h5, h6⟩ := hI.2.2.2.1.2.2.2.1 _ o
  refine ⟨?_, ?_, h5, ?_, h1, h2⟩ <;> omega
theorem b_day {S : St} {E : Ex} (hI : INV S E) : 0 ≤ (sc S 0).toInt ∧ (sc S 0).toInt ≤ 20000 := hI.2.2.2.1.1
theorem b_th {S : St} {E : Ex} (hI : INV S E) {i : Nat} (hi : i < nt S) : 0 ≤ (ar S 1 i).toInt ∧ (ar S 1 i).toInt ≤ 100 ∧ 1 ≤ (ar S 2 i).toInt ∧ (ar S 2 i).toInt ≤ 4000 ∧ (ar S 0 i = 0 → ar S 5 i = -1000000) := hI.2.2.2.1.2.1 i hi
def spI (S : St) (i : Nat) (d : Int) : Int := (ar S 17 (ix (ar S 5 i))).toInt + ((ar S 1 i).toInt * (d - (ar S 15 (ix (ar S 5 i))).toInt) + 99) / 100
theorem spI_b {S : St} {E : Ex} (hI : INV S E) {i : Nat} (hi : i < nt S) (hla : ¬ ar S 5 i = -1000000) {d : Int} (h1 : (sc S 0).toInt ≤ d) (h2 : d ≤ 60000) : 0 ≤ spI S i d ∧ spI S i d ≤ 121000000 := by
  have b := b_er hI hi hla
  have t := b_th hI hi
  have w := b_day hI
  have q := q_prod t.1 t.2.1 (b := d - (ar S 15 (ix (ar S 5 i))).toInt) (by omega) (by omega)
  unfold spI
  omega
theorem sp_int {S : St} {E : Ex} (hI : INV S E) {i : Nat} (hi : i < nt S) (hla : ¬ ar S 5 i = -1000000) {d : Int32} (h1 : (sc S 0).toInt ≤ d.toInt) (h2 : d.toInt ≤ 60000) : (f_X3_spanOn S i d).toInt = spI S i d.toInt := by
  have b := b_er hI hi hla
  have t := b_th hI hi
  have w := b_day hI
  have q := q_prod t.1 t.2.1 (b := d.toInt - (ar S 15 (ix (ar S 5 i))).toInt) (by omega) (by omega)
  have e99 : (99 : Int32).toInt = 99 := by decide
  have s1 : (d - ar S 15 (ix (ar S 5 i))).toInt = d.toInt - (ar S 15 (ix (ar S 5 i))).toInt := q_sub (by omega) (by omega)
  have s2 : (ar S 1 i * (d - ar S 15 (ix (ar S 5 i)))).toInt = (ar S 1 i).toInt * (d.toInt - (ar S 15 (ix (ar S 5 i))).toInt) := by
    rw [q_mul (by rw [s1]; omega) (by rw [s1]; omega), s1]
  have s3 : (ar S 1 i * (d - ar S 15 (ix (ar S 5 i))) + 99).toInt = (ar S 1 i).toInt * (d.toInt - (ar S 15 (ix (ar S 5 i))).toInt) + 99 := by
    rw [q_add (by rw [s2, e99]; omega) (by rw [s2, e99]; omega), s2, e99]
  rw [f_X3_spanOn, if_neg hla]
  have s4 := q_div (x := ar S 1 i * (d - ar S 15 (ix (ar S 5 i))) + 99) (by rw [s3]; omega)
  rw [s3] at s4
  rw [q_add (by rw [s4]; omega) (by rw [s4]; omega), s4]
  rfl
theorem kd_cases {S : St} {E : Ex} (hI : INV S E) {i : Nat} (hi : i < nt S) (h0 : ¬ ar S 0 i = 0) : 1 ≤ ix (ar S 0 i) ∧ ix (ar S 0 i) ≤ 3 ∧ ¬ f_X2_isWithin (ar S 0 i) 1 3 = 0 := by
  have o := hI.wf.kd hi
  have hc : ∀ n, n < 4 → ¬ nI n = 0 → 1 ≤ n ∧ n ≤ 3 ∧ ¬ f_X2_isWithin (nI n) 1 3 = 0 := by decide
  have := hc _ o.2
  rw [← o.1] at this
  exact this h0
theorem e_allowance {S : St} {E : Ex} (hI : INV S E) {i : Nat} (hi : i < nt S) (h0 : ¬ ar S 0 i = 0) : f_X2_allowanceFor S i = f_X3_allowance S i := by
  obtain ⟨h1, h3, h⟩ := kd_cases hI hi h0
  rw [f_X2_allowanceFor, if_neg h, f_X3_allowance, show fA S 11 (ix (ar S 0 i)) = ar S 11 (ix (ar S 0 i)) from if_neg (by omega), show fA S 10 (ix (ar S 0 i)) = ar S 10 (ix (ar S 0 i)) from if_neg (by omega)]
theorem b_al {S : St} {E : Ex} (hI : INV S E) {i : Nat} (hi : i < nt S) (h0 : ¬ ar S 0 i = 0) : 0 ≤ (f_X3_allowance S i).toInt ∧ (f_X3_allowance S i).toInt ≤ 100000 := by
  obtain ⟨h1, h3, h⟩ := kd_cases hI hi h0
  have b := hI.2.2.2.1.2.2.2.2 _ h1 h3
  unfold f_X3_allowance
  by_cases q : ar S 4 i = 1
  · rw [if_pos q]; exact ⟨b.1, b.2.1⟩
  · rw [if_neg q]; exact ⟨b.2.2.1, b.2.2.2⟩
/-- the judgement on a day, as whole numbers -/
def jdI (a er sp : Int) : Int32 := if (if 0 ≤ er then er else -er) + sp ≤ a then 1 else if a < (if 0 ≤ er then er else -er) - sp then 3 else 2
theorem jd_X {a er sp : Int32} (h1 : 0 ≤ a.toInt) (h2 : a.toInt ≤ 100000) (h3 : -30000000 ≤ er.toInt) (h4 : er.toInt ≤ 30000000) (h5 : 0 ≤ sp.toInt) (h6 : sp.toInt ≤ 121000000) : (if a < f_abs er + sp then (if f_abs er - sp ≤ a then (2 : Int32) else 3) else 1) = jdI a.toInt er.toInt sp.toInt := by
  have ea := q_abs (x := er) (by omega)
  have hb : 0 ≤ (f_abs er).toInt ∧ (f_abs er).toInt ≤ 30000000 := by rw [ea]; split <;> omega
  have s1 : (f_abs er + sp).toInt = (f_abs er).toInt + sp.toInt := q_add (by omega) (by omega)
  have s2 : (f_abs er - sp).toInt = (f_abs er).toInt - sp.toInt := q_sub (by omega) (by omega)
  unfold jdI
  rw [← ea]
  by_cases c1 : a < f_abs er + sp
  · have c1' := (i_lt _ _).mp c1
    rw [s1] at c1'
    rw [if_pos c1, if_neg (show ¬ (f_abs er).toInt + sp.toInt ≤ a.toInt by clear ea; omega)]
    by_cases c2 : f_abs er - sp ≤ a
    · have c2' := (i_le _ _).mp c2
      rw [s2] at c2'
      rw [if_pos c2, if_neg (show ¬ a.toInt < (f_abs er).toInt - sp.toInt by clear ea; omega)]
    · have c2' := mt (i_le _ _).mpr c2
      rw [s2] at c2'
      rw [if_neg c2, if_pos (show a.toInt < (f_abs er).toInt - sp.toInt by clear ea; omega)]
  · have c1' := mt (i_lt _ _).mpr c1
    rw [s1] at c1'
    rw [if_neg c1, if_pos (show (f_abs er).toInt + sp.toInt ≤ a.toInt by clear ea; omega)]
theorem jd_M {a er sp : Int32} (h1 : 0 ≤ a.toInt) (h2 : a.toInt ≤ 100000) (h3 : -30000000 ≤ er.toInt) (h4 : er.toInt ≤ 30000000) (h5 : 0 ≤ sp.toInt) (h6 : sp.toInt ≤ 121000000) : (if er - sp < -a then (if a < er - sp then (3 : Int32) else if -a ≤ er + sp then 2 else 3) else if a < er + sp then (if a < er - sp then 3 else if -a ≤ er + sp then 2 else 3) else 1) = jdI a.toInt er.toInt sp.toInt := by
  have s1 : (er + sp).toInt = er.toInt + sp.toInt := q_add (by omega) (by omega)
  have s2 : (er - sp).toInt = er.toInt - sp.toInt := q_sub (by omega) (by omega)
  have s3 : (-a).toInt = -a.toInt := q_neg (by omega)
  have d1 : (er - sp < -a) ↔ er.toInt - sp.toInt < -a.toInt := by rw [i_lt, s2, s3]
  have d2 : (a < er - sp) ↔ a.toInt < er.toInt - sp.toInt := by rw [i_lt, s2]
  have d3 : (-a ≤ er + sp) ↔ -a.toInt ≤ er.toInt + sp.toInt := by rw [i_le, s1, s3]
  have d4 : (a < er + sp) ↔ a.toInt < er.toInt + sp.toInt := by rw [i_lt, s1]
  unfold jdI
  simp only [d1, d2, d3, d4]
  by_cases hp : 0 ≤ er.toInt
  · simp only [if_pos hp]
    by_cases c1 : er.toInt + sp.toInt ≤ a.toInt
    · rw [if_pos c1, if_neg (show ¬ er.toInt - sp.toInt < -a.toInt by omega), if_neg (show ¬ a.toInt < er.toInt + sp.toInt by omega)]
    · rw [if_neg c1]
      by_cases c2 : a.toInt < er.toInt - sp.toInt
      · rw [if_pos c2, if_pos c2, if_neg (show ¬ er.toInt - sp.toInt < -a.toInt by omega), if_pos (show a.toInt < er.toInt + sp.toInt by omega)]
      · rw [if_neg c2, if_neg c2, if_pos (show -a.toInt ≤ er.toInt + sp.toInt by omega), if_pos (show a.toInt < er.toInt + sp.toInt by omega)]
        by_cases c3 : er.toInt - sp.toInt < -a.toInt
        · rw [if_pos c3]
        · rw [if_neg c3]
  · simp only [if_neg hp]
    by_cases c1 : -er.toInt + sp.toInt ≤ a.toInt
    · rw [if_pos c1, if_neg (show ¬ er.toInt - sp.toInt < -a.toInt by omega), if_neg (show ¬ a.toInt < er.toInt + sp.toInt by omega)]
    · rw [if_neg c1, if_pos (show er.toInt - sp.toInt < -a.toInt by omega), if_neg (show ¬ a.toInt < er.toInt - sp.toInt by omega)]
      by_cases c2 : a.toInt < -er.toInt - sp.toInt
      · rw [if_pos c2, if_neg (show ¬ -a.toInt ≤ er.toInt + sp.toInt by omega)]
      · rw [if_neg c2, if_pos (show -a.toInt ≤ er.toInt + sp.toInt by omega)]
theorem set_la {S : St} {i : Nat} (h0 : ¬ ar S 0 i = 0) (h : ¬ f_X3_settledNow S i = 0) : ¬ ar S 5 i = -1000000 := fun e => h (by rw [f_X3_settledNow, if_neg h0, if_pos e])
theorem jd_on {S : St} {E : Ex} (hI : INV S E) {i : Nat} (hi : i < nt S) (h0 : ¬ ar S 0 i = 0) (hs : ¬ f_X3_settledNow S i = 0) {d : Int32} (h1 : (sc S 0).toInt ≤ d.toInt) (h2 : d.toInt ≤ 60000) : f_X3_judgedOn S i d = jdI (f_X3_allowance S i).toInt (ar S 16 (ix (ar S 5 i))).toInt (spI S i d.toInt) := by
  have hla := set_la h0 hs
  have b := b_er hI hi hla
  have a := b_al hI hi h0
  have sb := spI_b hI hi hla h1 h2
  have se := sp_int hI hi hla h1 h2
  rw [← se] at sb ⊢
  rw [← jd_M a.1 a.2 b.1 b.2.1 sb.1 sb.2, f_X3_judgedOn, if_neg h0, if_neg hs, f_X3_errorOf, if_neg hla]
theorem e_judgement {S : St} {E : Ex} (hI : INV S E) {i : Nat} (hi : i < nt S) : f_X2_judgement S i = f_X3_judgedOn S i (sc S 0) := by
  by_cases h0 : ar S 0 i = 0
  · rw [f_X2_judgement, f_X3_judgedOn, if_pos h0, if_pos h0]
  by_cases hs : f_X3_settledNow S i = 0
  · rw [f_X2_judgement, f_X3_judgedOn, if_neg h0, if_neg h0, e_settledNow, if_pos hs, if_pos hs]
  have hla := set_la h0 hs
  have b := b_er hI hi hla
  have a := b_al hI hi h0
  have w := b_day hI
  have sb := spI_b hI hi hla (Int.le_refl _) (by omega)
  have se := sp_int hI hi hla (d := sc S 0) (Int.le_refl _) (by omega)
  rw [jd_on hI hi h0 hs (Int.le_refl _) (by omega), ← se]
  rw [← se] at sb
  rw [← jd_X a.1 a.2 b.1 b.2.1 sb.1 sb.2, f_X2_judgement, if_neg h0, e_settledNow, if_neg hs, e_allowance hI hi h0, e_spanOn, f_X0_errorSize, e_errorHeld, f_X3_errorOf, if_neg hla]
theorem e_judge {S : St} {E : Ex} (hI : INV S E) {i : Nat} (hi : i < nt S) : f_X2_judge S i = f_X3_judge S i := e_judgement hI hi
-- due, left
theorem q_max0 {x : Int32} : (f_max 0 x).toInt = if 0 < x.toInt then x.toInt else 0 := by
  have h0 : (0 : Int32).toInt = 0 := by decide
  unfold f_max
  by_cases h : (0 : Int32) < x
  · have h' := (i_lt _ _).mp h
    rw [h0] at h'
    rw [if_pos h, if_pos h']
  · have h' := mt (i_lt _ _).mpr h
    rw [h0] at h'
    rw [if_neg h, if_neg h', h0]
theorem du_int {S : St} {E : Ex} (hI : INV S E) {i : Nat} (hi : i < nt S) (hla : ¬ ar S 5 i = -1000000) : (ar S 15 (ix (ar S 5 i)) + ar S 2 i + 1 - sc S 0).toInt = (ar S 15 (ix (ar S 5 i))).toInt + (ar S 2 i).toInt + 1 - (sc S 0).toInt := by
  have b := b_er hI hi hla
  have t := b_th hI hi
  have w := b_day hI
  have e1 : (1 : Int32).toInt = 1 := by decide
  have s1 : (ar S 15 (ix (ar S 5 i)) + ar S 2 i).toInt = (ar S 15 (ix (ar S 5 i))).toInt + (ar S 2 i).toInt := q_add (by omega) (by omega)
  have s2 : (ar S 15 (ix (ar S 5 i)) + ar S 2 i + 1).toInt = (ar S 15 (ix (ar S 5 i))).toInt + (ar S 2 i).toInt + 1 := by rw [q_add (by rw [s1, e1]; omega) (by rw [s1, e1]; omega), s1, e1]
  rw [q_sub (by rw [s2]; omega) (by rw [s2]; omega), s2]
theorem due_iff {S : St} {E : Ex} (hI : INV S E) {i : Nat} (hi : i < nt S) (hla : ¬ ar S 5 i = -1000000) : (sc S 0 - ar S 15 (ix (ar S 5 i)) ≤ ar S 2 i) ↔ 0 < (ar S 15 (ix (ar S 5 i))).toInt + (ar S 2 i).toInt + 1 - (sc S 0).toInt := by
  have b := b_er hI hi hla
  have t := b_th hI hi
  have w := b_day hI
  rw [i_le, q_sub (by omega) (by omega)]
  omega
theorem e_dueNow {S : St} {E : Ex} (hI : INV S E) {i : Nat} (hi : i < nt S) : f_X0_isDueOn S i (sc S 0) = f_X3_dueNow S i := by
  unfold f_X0_isDueOn f_X3_dueNow f_X0_daysUntilDue
  by_cases h0 : ar S 0 i = 0
  · rw [if_pos h0, if_pos h0]
  rw [if_neg h0, if_neg h0]
  by_cases hla : ar S 5 i = -1000000
  · rw [if_pos hla, if_pos hla, if_pos rfl]
  rw [if_neg hla, if_neg hla]
  have e := q_max0 (x := ar S 15 (ix (ar S 5 i)) + ar S 2 i + 1 - sc S 0)
  rw [du_int hI hi hla] at e
  have h00 : (0 : Int32).toInt = 0 := by decide
  by_cases c : sc S 0 - ar S 15 (ix (ar S 5 i)) ≤ ar S 2 i
  · have c' := (due_iff hI hi hla).mp c
    rw [if_pos c'] at e
    rw [if_pos c, if_neg (by rw [i_eq, e, h00]; omega)]
  · have c' := mt (due_iff hI hi hla).mpr c
    rw [if_neg c'] at e
    rw [if_neg c, if_pos (by rw [i_eq, e, h00])]
theorem e_due {S : St} {E : Ex} (hI : INV S E) {i : Nat} (hi : i < nt S) : f_X2_due S i = f_X3_due S i := by
  unfold f_X2_due f_X3_due
  rw [e_dueNow hI hi]
theorem e_left {S : St} {E : Ex} (hI : INV S E) {i : Nat} (hi : i < nt S) : f_X2_left S i = f_X3_left S i := by
  unfold f_X2_left f_X3_left
  by_cases h0 : ar S 0 i = 0
  · rw [if_pos h0, if_pos h0]
  rw [if_neg h0, if_neg h0, f_X0_daysUntilDue, f_X3_dueNow, if_neg h0]
  by_cases hla : ar S 5 i = -1000000
  · rw [if_pos hla, if_pos hla, if_neg (by decide)]
  rw [if_neg hla, if_neg hla]
  have e := q_max0 (x := ar S 15 (ix (ar S 5 i)) + ar S 2 i + 1 - sc S 0)
  rw [du_int hI hi hla] at e
  by_cases c : sc S 0 - ar S 15 (ix (ar S 5 i)) ≤ ar S 2 i
  · have c' := (due_iff hI hi hla).mp c
    rw [if_pos c'] at e
    rw [if_pos c, if_pos rfl, i_eq, e, du_int hI hi hla]
  · have c' := mt (due_iff hI hi hla).mpr c
    rw [if_neg c'] at e
    rw [if_neg c, if_neg (by decide), i_eq, e]
    decide
-- count
theorem e_cd {S : St} {E : Ex} (hI : INV S E) : ∀ (q k : Nat) (z : Int32), k + q = nt S → r_X2_howManyDue S q k z = r_X3_count S 3 q k z := by
  intro q
  induction q with
  | zero => intro k z h; rw [r_X2_howManyDue, r_X3_count, if_neg (by decide), if_neg (by decide), if_neg (by decide), if_neg (by decide)]
  | succ q ih =>
    intro k z h
    rw [r_X2_howManyDue, r_X3_count, if_pos rfl, e_dueNow hI (by omega), ih _ _ (by omega), ih _ _ (by omega), z0]
theorem e_cj {S : St} {E : Ex} (hI : INV S E) {x y : Int32} (h3 : ¬ x = 3) (hle : ¬ x ≤ 3) (h0 : ¬ x = 0) (h1 : ¬ x = 1) (h2 : ¬ x = 2) (h7 : ¬ x = 7) (hy : x - 3 = y) : ∀ (q k : Nat) (z : Int32), k + q = nt S → r_X2_howManyJudged S y q k z = r_X3_count S x q k z := by
  subst hy
  intro q
  induction q with
  | zero => intro k z h; rw [r_X2_howManyJudged, r_X3_count, if_neg h0, if_neg h1, if_neg h2, if_neg h7]
  | succ q ih =>
    intro k z h
    rw [r_X2_howManyJudged, r_X3_count, if_neg h3, if_neg hle, e_tool, e_judgement hI (by omega), ih _ _ (by omega), ih _ _ (by omega), z0]
theorem e_cn {S : St} {x : Int32} (h : ¬ x = 3) (hle : x ≤ 3 ∨ x = 7) (v : Int32) (hv : ∀ z, (if x = 0 then sc S 0 else if x = 1 then nI (nt S) else if x = 2 then nI (nr S) else if x = 7 then sc S 1 else z) = v) : ∀ (q k : Nat) (z : Int32), r_X3_count S x q k z = v := by
  intro q
  induction q with
  | zero => intro k z; rw [r_X3_count]; exact hv z
  | succ q ih =>
    intro k z
    rw [r_X3_count, if_neg h]
    split
    · exact ih _ _
    · split
      · exact ih _ _
      · split
        · exact ih _ _
        · exact ih _ _
theorem e_count {S : St} {E : Ex} (hI : INV S E) (x : Int32) : f_X2_count S x = f_X3_count S x := by
  unfold f_X2_count f_X3_count
  by_cases c0 : x = 0
  · subst c0; rw [if_pos rfl, if_neg (by decide), e_cn (by decide) (Or.inl (by decide)) (sc S 0) (fun z => if_pos rfl)]
  by_cases c1 : x = 1
  · subst c1; rw [if_neg (by decide), if_pos rfl, if_neg (by decide), e_cn (by decide) (Or.inl (by decide)) (nI (nt S)) (fun z => by rw [if_neg (by decide), if_pos rfl])]
  by_cases c2 : x = 2
  · subst c2; rw [if_neg (by decide), if_neg (by decide), if_pos rfl, if_neg (by decide), e_cn (by decide) (Or.inl (by decide)) (nI (nr S)) (fun z => by rw [if_neg (by decide), if_neg (by decide), if_pos rfl])]
  by_cases c3 : x = 3
  · subst c3; rw [if_neg (by decide), if_neg (by decide), if_neg (by decide), if_pos rfl, if_neg (by decide)]; exact e_cd hI _ _ _ (Nat.zero_add _)
  by_cases c4 : x = 4
  · subst c4; rw [if_neg (by decide), if_neg (by decide), if_neg (by decide), if_neg (by decide), if_pos rfl, if_neg (by decide)]; exact e_cj hI (by decide) (by decide) (by decide) (by decide) (by decide) (by decide) (by decide) _ _ _ (Nat.zero_add _)
  by_cases c5 : x = 5
  · subst c5; rw [if_neg (by decide), if_neg (by decide), if_neg (by decide), if_neg (by decide), if_neg (by decide), if_pos rfl, if_neg (by decide)]; exact e_cj hI (by decide) (by decide) (by decide) (by decide) (by decide) (by decide) (by decide) _ _ _ (Nat.zero_add _)
  by_cases c6 : x = 6
  · subst c6; rw [if_neg (by decide), if_neg (by decide), if_neg (by decide), if_neg (by decide), if_neg (by decide), if_neg (by decide), if_pos rfl, if_neg (by decide)]; exact e_cj hI (by decide) (by decide) (by decide) (by decide) (by decide) (by decide) (by decide) _ _ _ (Nat.zero_add _)
  by_cases c7 : x = 7
  · subst c7; rw [if_neg (by decide), if_neg (by decide), if_neg (by decide), if_neg (by decide), if_neg (by decide), if_neg (by decide), if_neg (by decide), if_pos rfl, if_neg (by decide), e_cn (by decide) (Or.inr rfl) (sc S 1) (fun z => by rw [if_neg (by decide), if_neg (by decide), if_neg (by decide), if_pos rfl])]
  rw [if_neg c0, if_neg c1, if_neg c2, if_neg c3, if_neg c4, if_neg c5, if_neg c6, if_neg c7, if_pos]
  rcases Classical.em (f_X3_in x 0 7 = 0) with q | q
  · exact q
  · obtain ⟨j, -, hj, e⟩ := within_nI (a := 0) (b := 7) (by decide) (by decide) (show ¬ f_X2_isWithin x (nI 0) (nI 7) = 0 from q)
    rcases (show j = 0 ∨ j = 1 ∨ j = 2 ∨ j = 3 ∨ j = 4 ∨ j = 5 ∨ j = 6 ∨ j = 7 by omega) with h | h | h | h | h | h | h | h <;> subst h
    · exact absurd e c0
    · exact absurd e c1
    · exact absurd e c2
    · exact absurd e c3
    · exact absurd e c4
    · exact absurd e c5
    · exact absurd e c6
    · exact absurd e c7
