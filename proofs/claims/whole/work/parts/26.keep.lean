-- the invariant is kept
theorem INV.cong {S S' : St} {E : Ex} (hI : INV S E) (h1 : nt S' = nt S) (h2 : nr S' = nr S) (h3 : sc S' 0 = sc S 0) (ha : ∀ a, a ≠ 6 → a ≠ 7 → a ≠ 13 → a ≠ 14 → a ≠ 21 → a ≠ 22 → ar S' a = ar S a) (h7 : ∀ i, nt S ≤ i → ar S' 7 i = 0) (h21 : ∀ n, nr S ≤ n → ar S' 21 n = 0) : INV S' E := by
  obtain ⟨hw, hb, hz, hB, hc, hs⟩ := hI
  have e0 := ha 0 (by decide) (by decide) (by decide) (by decide) (by decide) (by decide)
  have e1 := ha 1 (by decide) (by decide) (by decide) (by decide) (by decide) (by decide)
  have e2 := ha 2 (by decide) (by decide) (by decide) (by decide) (by decide) (by decide)
  have e3 := ha 3 (by decide) (by decide) (by decide) (by decide) (by decide) (by decide)
  have e4 := ha 4 (by decide) (by decide) (by decide) (by decide) (by decide) (by decide)
  have e5 := ha 5 (by decide) (by decide) (by decide) (by decide) (by decide) (by decide)
  have e8 := ha 8 (by decide) (by decide) (by decide) (by decide) (by decide) (by decide)
  have e9 := ha 9 (by decide) (by decide) (by decide) (by decide) (by decide) (by decide)
  have e10 := ha 10 (by decide) (by decide) (by decide) (by decide) (by decide) (by decide)
  have e11 := ha 11 (by decide) (by decide) (by decide) (by decide) (by decide) (by decide)
  have e12 := ha 12 (by decide) (by decide) (by decide) (by decide) (by decide) (by decide)
  have e15 := ha 15 (by decide) (by decide) (by decide) (by decide) (by decide) (by decide)
  have e16 := ha 16 (by decide) (by decide) (by decide) (by decide) (by decide) (by decide)
  have e17 := ha 17 (by decide) (by decide) (by decide) (by decide) (by decide) (by decide)
  have e18 := ha 18 (by decide) (by decide) (by decide) (by decide) (by decide) (by decide)
  have e19 := ha 19 (by decide) (by decide) (by decide) (by decide) (by decide) (by decide)
  have e20 := ha 20 (by decide) (by decide) (by decide) (by decide) (by decide) (by decide)
  refine ⟨hw.same h1 h2 e0 e3 e5 e8, ?_, ?_, ?_, ?_, ?_⟩
  · unfold WB at *; rw [h2, e20]; exact hb
  · unfold IZ at *
    rw [h1, h2, e4, e8, e9, e19]
    exact ⟨fun i hi => ⟨(hz.1 i hi).1, h7 i hi, (hz.1 i hi).2.2⟩, hz.2.1, fun n hn => ⟨(hz.2.2 n hn).1, h21 n hn⟩⟩
  · unfold IB at *; rw [h1, h2, h3, e0, e1, e2, e5, e9, e10, e11, e15, e16, e17]; exact hB
  · unfold IC at *; rw [h2, e18, e20]; exact hc
  · unfold IS at *; rw [e12]; exact hs
theorem i_ch {S : St} {E : Ex} (hI : INV S E) {i n o o2 : Nat} (hi : i < nt S) (hn : n < nr S) (v w x : Int32) (y : Int64) : INV (setL (setA (setS (setA (setA S 21 n 1) 7 i v) 1 w) 22 o x) o2 y) E := by
  refine hI.cong rfl rfl rfl (fun a _ h7 _ _ h21 h22 => ?_) (fun j hj => ?_) (fun j hj => ?_)
  · show ar (setA (setS (setA (setA S 21 n 1) 7 i v) 1 w) 22 o x) a = ar S a
    rw [ar_diff _ _ _ _ h22]
    show ar (setA (setA S 21 n 1) 7 i v) a = _
    rw [ar_diff _ _ _ _ h7, ar_diff _ _ _ _ h21]
  · show ar (setA (setS (setA (setA S 21 n 1) 7 i v) 1 w) 22 o x) 7 j = 0
    rw [ar_diff _ _ _ _ (by decide)]
    show ar (setA (setA S 21 n 1) 7 i v) 7 j = 0
    rw [ar_off _ _ _ _ _ (by omega), ar_diff _ _ _ _ (by decide)]
    exact (hI.2.2.1.1 j hj).2.1
  · show ar (setA (setS (setA (setA S 21 n 1) 7 i v) 1 w) 22 o x) 21 j = 0
    rw [ar_diff _ _ _ _ (by decide)]
    show ar (setA (setA S 21 n 1) 7 i v) 21 j = 0
    rw [ar_diff _ _ _ _ (by decide), ar_off _ _ _ _ _ (by omega)]
    exact (hI.2.2.1.2.2 j hj).2
theorem jd_la {S : St} {i : Nat} {d v : Int32} (h : f_X3_judgedOn S i d = v) (hv : ¬ v = 0) : ¬ ar S 0 i = 0 ∧ ¬ f_X3_settledNow S i = 0 ∧ ¬ ar S 5 i = -1000000 := by
  have h0 : ¬ ar S 0 i = 0 := fun e => hv (by rw [← h, f_X3_judgedOn, if_pos e])
  have hs : ¬ f_X3_settledNow S i = 0 := fun e => hv (by rw [← h, f_X3_judgedOn, if_neg h0, if_pos e])
  exact ⟨h0, hs, set_la h0 hs⟩
theorem i_charge {S : St} {E : Ex} (hI : INV S E) {i : Nat} (hi : i < nt S) : INV (f_X3_charge S i).2 E := by
  rw [f_X3_charge]
  by_cases c1 : f_X3_isTool S i = 0
  · rw [if_pos c1]; exact hI
  rw [if_neg c1]
  by_cases c2 : f_X3_judgedOn S i (sc S 0) = 3
  · have hla := (jd_la c2 (by decide)).2.2
    have hn := (hI.wf.la hi hla).2
    rw [if_pos c2]
    by_cases c3 : ar S 15 (ix (ar S 5 i)) = sc S 0
    · rw [if_pos c3]
      by_cases c4 : ar S 21 (ix (ar S 5 i)) = 0
      · rw [if_pos c4]
        split
        · split
          · exact i_ch hI hi hn _ _ _ _
          · exact i_ch hI hi hn _ _ _ _
        · split
          · exact i_ch hI hi hn _ _ _ _
          · exact i_ch hI hi hn _ _ _ _
      · rw [if_neg c4]; exact hI
    · rw [if_neg c3]; exact hI
  · rw [if_neg c2]; exact hI
theorem in_int {x : Int32} {a b : Int} {y z : Int32} (hy : y.toInt = a) (hz : z.toInt = b) (h : ¬ f_X3_in x y z = 0) : a ≤ x.toInt ∧ x.toInt ≤ b := by
  rw [f_X3_in] at h
  by_cases h0 : x < y
  · rw [if_pos h0] at h; exact absurd rfl h
  rw [if_neg h0] at h
  by_cases h1 : z < x
  · rw [if_pos h1] at h; exact absurd rfl h
  rw [i_lt] at h0 h1
  omega
theorem in_okx {x : Int32} {b : Nat} (hb : b < 1000000) (h : ¬ f_X3_in x 0 (nI b) = 0) : okx x (b + 1) := by
  obtain ⟨j, -, hj, e⟩ := within_nI (a := 0) (b := b) (by decide) hb (show ¬ f_X2_isWithin x (nI 0) (nI b) = 0 from h)
  rw [e]
  exact nI_ok (by omega) (by omega)
theorem i_pass {S : St} {E : Ex} (hI : INV S E) (x : Int32) : INV (f_X3_pass S x).2 E := by
  rw [f_X3_pass]
  by_cases c1 : f_X3_in x 1 5000 = 0
  · rw [if_pos c1]; exact hI
  rw [if_neg c1]
  by_cases c2 : sc S 0 + x ≤ 20000
  · rw [if_pos c2]
    have b := in_int (a := 1) (b := 5000) (by decide) (by decide) c1
    have w := b_day hI
    have e : (sc S 0 + x).toInt = (sc S 0).toInt + x.toInt := q_add (by omega) (by omega)
    have c2' := (i_le _ _).mp c2
    rw [e, show (20000 : Int32).toInt = 20000 by decide] at c2'
    obtain ⟨hw, hb, hz, hB, hc, hs⟩ := hI
    refine ⟨hw, hb, hz, ⟨⟨?_, ?_⟩, hB.2.1, hB.2.2.1, fun n hn => ?_, hB.2.2.2.2⟩, hc, hs⟩
    · show 0 ≤ (sc S 0 + x).toInt; omega
    · show (sc S 0 + x).toInt ≤ 20000; omega
    · obtain ⟨h1, h2, h3⟩ := hB.2.2.2.1 n hn
      refine ⟨h1, ?_, h3⟩
      show (ar S 15 n).toInt ≤ (sc S 0 + x).toInt
      omega
  · rw [if_neg c2]; exact hI
theorem i_al {S : St} {E : Ex} (hI : INV S E) {a : Nat} (ha : a = 10 ∨ a = 11) {k : Nat} {x : Int32} (h1 : 0 ≤ x.toInt) (h2 : x.toInt ≤ 100000) : INV (setA S a k x) E := by
  obtain ⟨hw, hb, hz, hB, hc, hs⟩ := hI
  have d : ∀ b, b ≠ 10 → b ≠ 11 → ar (setA S a k x) b = ar S b := fun b n1 n2 => ar_diff _ _ _ _ (by omega)
  refine ⟨hw.setA k x (by omega) (by omega) (by omega) (by omega), hb.setA k x (by omega), ?_, ?_, ?_, ?_⟩
  · unfold IZ at *; rw [d 4 (by decide) (by decide), d 7 (by decide) (by decide), d 8 (by decide) (by decide), d 9 (by decide) (by decide), d 19 (by decide) (by decide), d 21 (by decide) (by decide)]; exact hz
  · unfold IB at *
    rw [d 0 (by decide) (by decide), d 1 (by decide) (by decide), d 2 (by decide) (by decide), d 5 (by decide) (by decide), d 9 (by decide) (by decide), d 15 (by decide) (by decide), d 16 (by decide) (by decide), d 17 (by decide) (by decide)]
    refine ⟨hB.1, hB.2.1, hB.2.2.1, hB.2.2.2.1, fun j j1 j3 => ?_⟩
    have o := hB.2.2.2.2 j j1 j3
    rcases ha with rfl | rfl
    · rw [ar_diff S 10 k x (show 11 ≠ 10 by decide), ar_setA, if_pos rfl]
      by_cases e : j = k
      · rw [if_pos e]; exact ⟨h1, h2, o.2.2⟩
      · rw [if_neg e]; exact o
    · rw [ar_diff S 11 k x (show 10 ≠ 11 by decide), ar_setA, if_pos rfl]
      by_cases e : j = k
      · rw [if_pos e]; exact ⟨o.1, o.2.1, h1, h2⟩
      · rw [if_neg e]; exact o
  · unfold IC at *; rw [d 18 (by decide) (by decide), d 20 (by decide) (by decide)]; exact hc
  · unfold IS at *; rw [d 12 (by decide) (by decide)]; exact hs
theorem i_allow {S : St} {E : Ex} (hI : INV S E) {k : Nat} (h1 : 1 ≤ k) (h3 : k ≤ 3) (b x : Int32) : INV (f_X3_allow S k b x).2 E := by
  rw [f_X3_allow]
  by_cases c1 : f_X3_in x 0 100000 = 0
  · rw [if_pos c1]; exact hI
  rw [if_neg c1]
  have o := in_int (a := 0) (b := 100000) (by decide) (by decide) c1
  by_cases c2 : b = 0
  · rw [if_pos c2]; exact i_al hI (Or.inr rfl) o.1 o.2
  · rw [if_neg c2]; exact i_al hI (Or.inl rfl) o.1 o.2
theorem i_mv {S : St} {E : Ex} (hI : INV S E) {i : Nat} {x w : Int32} (hx : okx x 10) : INV (setA (setA S 3 i x) 6 i w) E := by
  obtain ⟨hw, hb, hz, hB, hc, hs⟩ := hI
  have d : ∀ b, b ≠ 3 → b ≠ 6 → ar (setA (setA S 3 i x) 6 i w) b = ar S b := fun b n1 n2 => by rw [ar_diff _ _ _ _ n2, ar_diff _ _ _ _ n1]
  refine ⟨⟨hw.1, hw.2.1, ?_, ?_, fun j hj => ?_, ?_⟩, ?_, ?_, ?_, ?_, ?_⟩
  · rw [d 5 (by decide) (by decide)]; exact hw.2.2.1
  · rw [d 0 (by decide) (by decide)]; exact hw.2.2.2.1
  · rw [ar_diff _ _ _ _ (by decide), ar_setA, if_pos rfl]
    by_cases e : j = i
    · rw [if_pos e]; exact hx
    · rw [if_neg e]; exact hw.ow hj
  · rw [d 8 (by decide) (by decide)]; exact hw.2.2.2.2.2
  · unfold WB at *; rw [d 20 (by decide) (by decide)]; exact hb
  · unfold IZ at *; rw [d 4 (by decide) (by decide), d 7 (by decide) (by decide), d 8 (by decide) (by decide), d 9 (by decide) (by decide), d 19 (by decide) (by decide), d 21 (by decide) (by decide)]; exact hz
  · unfold IB at *
    rw [d 0 (by decide) (by decide), d 1 (by decide) (by decide), d 2 (by decide) (by decide), d 5 (by decide) (by decide), d 9 (by decide) (by decide), d 10 (by decide) (by decide), d 11 (by decide) (by decide), d 15 (by decide) (by decide), d 16 (by decide) (by decide), d 17 (by decide) (by decide)]; exact hB
  · unfold IC at *; rw [d 18 (by decide) (by decide), d 20 (by decide) (by decide)]; exact hc
  · unfold IS at *; rw [d 12 (by decide) (by decide)]; exact hs
theorem i_move {S : St} {E : Ex} (hI : INV S E) {i : Nat} (hi : i < nt S) (x : Int32) : INV (f_X3_move S i x).2 E := by
  rw [f_X3_move]
  by_cases c1 : f_X3_in x 0 9 = 0
  · rw [if_pos c1]; exact hI
  rw [if_neg c1]
  by_cases c2 : f_X3_isTool S i = 0
  · rw [if_pos c2]; exact hI
  · rw [if_neg c2]; exact i_mv hI (in_okx (b := 9) (by decide) c1)
theorem i_dr {S : St} {E : Ex} (hI : INV S E) {i j : Nat} {x w : Int32} (hi : i < nt S) (hj : j < 3 * nt S) (h1 : -100000 ≤ x.toInt) (h2 : x.toInt ≤ 100000) (hx : okx w 4) : INV (setA (setA S 9 j x) 8 i w) E := by
  obtain ⟨hw, hb, hz, hB, hc, hs⟩ := hI
  have d : ∀ b, b ≠ 8 → b ≠ 9 → ar (setA (setA S 9 j x) 8 i w) b = ar S b := fun b n1 n2 => by rw [ar_diff _ _ _ _ n1, ar_diff _ _ _ _ n2]
  have d8 : ∀ k, ar (setA (setA S 9 j x) 8 i w) 8 k = if k = i then w else ar S 8 k := fun k => by rw [ar_setA, if_pos rfl, ar_diff _ _ _ _ (by decide)]
  have d9 : ∀ k, ar (setA (setA S 9 j x) 8 i w) 9 k = if k = j then x else ar S 9 k := fun k => by rw [ar_diff _ _ _ _ (by decide), ar_setA, if_pos rfl]
  refine ⟨⟨hw.1, hw.2.1, ?_, ?_, ?_, fun k hk => ?_⟩, ?_, ⟨fun k hk => ?_, fun k hk => ?_, ?_⟩, ⟨hB.1, ?_, fun k => ?_, ?_⟩, ?_, ?_⟩
  · rw [d 5 (by decide) (by decide)]; exact hw.2.2.1
  · rw [d 0 (by decide) (by decide)]; exact hw.2.2.2.1
  · rw [d 3 (by decide) (by decide)]; exact hw.2.2.2.2.1
  · rw [d8]
    by_cases e : k = i
    · rw [if_pos e]; exact hx
    · rw [if_neg e]; exact hw.dc hk
  · unfold WB at *; rw [d 20 (by decide) (by decide)]; exact hb
  · have hk' : nt S ≤ k := hk
    rw [d8, if_neg (by omega), d 4 (by decide) (by decide), d 7 (by decide) (by decide)]; exact hz.1 k hk
  · have hk' : 3 * nt S ≤ k := hk
    rw [d9, if_neg (by omega)]; exact hz.2.1 k hk
  · rw [d 19 (by decide) (by decide), d 21 (by decide) (by decide)]; exact hz.2.2
  · rw [d 0 (by decide) (by decide), d 1 (by decide) (by decide), d 2 (by decide) (by decide), d 5 (by decide) (by decide)]; exact hB.2.1
  · rw [d9]
    by_cases e : k = j
    · rw [if_pos e]; exact ⟨h1, h2⟩
    · rw [if_neg e]; exact hB.2.2.1 k
  · rw [d 10 (by decide) (by decide), d 11 (by decide) (by decide), d 15 (by decide) (by decide), d 16 (by decide) (by decide), d 17 (by decide) (by decide)]; exact hB.2.2.2
  · unfold IC at *; rw [d 18 (by decide) (by decide), d 20 (by decide) (by decide)]; exact hc
  · unfold IS at *; rw [d 12 (by decide) (by decide)]; exact hs
theorem i_draw {S : St} {E : Ex} (hI : INV S E) {i : Nat} (hi : i < nt S) (x : Int32) : INV (f_X3_draw S i x).2 E := by
  rw [f_X3_draw]
  by_cases c1 : f_X3_in x (-100000) 100000 = 0
  · rw [if_pos c1]; exact hI
  rw [if_neg c1]
  by_cases c2 : ar S 0 i = 3
  · rw [if_pos c2]
    by_cases c3 : ar S 8 i = 3
    · rw [if_pos c3]; exact hI
    · rw [if_neg c3]
      have o := in_int (a := -100000) (b := 100000) (by decide) (by decide) c1
      have hc := hI.wf.dc hi
      have ht : ∀ n, n < 4 → ¬ nI n = 3 → n < 3 ∧ okx (nI n + 1) 4 := by unfold okx; decide
      have t := ht _ hc.2
      rw [← hc.1] at t
      have t := t c3
      exact i_dr hI hi (by have := t.1; omega) o.1 o.2 t.2
  · rw [if_neg c2]; exact hI
theorem i_0 : INV S0 E0 := by
  refine ⟨⟨by decide, by decide, fun i hi => absurd hi (Nat.not_lt_zero i), fun i hi => absurd hi (Nat.not_lt_zero i), fun i hi => absurd hi (Nat.not_lt_zero i), fun i hi => absurd hi (Nat.not_lt_zero i)⟩, fun i hi => absurd hi (Nat.not_lt_zero i), ⟨fun i _ => ⟨rfl, rfl, rfl⟩, fun _ _ => rfl, fun _ _ => ⟨rfl, rfl⟩⟩, ⟨⟨by decide, by decide⟩, fun i hi => absurd hi (Nat.not_lt_zero i), fun j => ?_, fun i hi => absurd hi (Nat.not_lt_zero i), fun k h1 h3 => ?_⟩, fun i hi => absurd hi (Nat.not_lt_zero i), fun k h1 hk => ?_⟩
  · show -100000 ≤ (0 : Int32).toInt ∧ (0 : Int32).toInt ≤ 100000; decide
  · have e1 : ar S0 10 k = 100 := if_pos (by omega)
    have e2 : ar S0 11 k = 200 := if_pos (by omega)
    rw [e1, e2]; decide
  · refine ⟨fun _ => rfl, fun _ => ?_⟩
    rw [f_X2_wasPutOn, show E0.1 (k / 32) = 0 from rfl, Int32.zero_and, if_pos rfl]
