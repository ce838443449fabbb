-- whom to look at first
theorem l_add {x y : Int64} (h1 : -9223372036854775808 ≤ x.toInt + y.toInt) (h2 : x.toInt + y.toInt < 9223372036854775808) : (x + y).toInt = x.toInt + y.toInt := by
  rw [Int64.toInt_add]; exact Int.bmod_eq_of_le (by omega) (by omega)
def cnt (p : Nat → Bool) : Nat → Nat
  | 0 => 0
  | n + 1 => cnt p n + if p n = true then 1 else 0
theorem cnt_le {p q : Nat → Bool} : ∀ (n : Nat), (∀ s, s < n → p s = true → q s = true) → cnt p n ≤ cnt q n := by
  intro n
  induction n with
  | zero => intro _; exact Nat.le_refl _
  | succ n ih =>
    intro h
    have h1 := ih (fun s hs => h s (by omega))
    have h2 := h n (by omega)
    rw [cnt, cnt]
    by_cases c : p n = true
    · rw [if_pos c, if_pos (h2 c)]; omega
    · rw [if_neg c]; omega
theorem cnt_lt {p q : Nat → Bool} {a : Nat} (hp : ¬ p a = true) (hq : q a = true) : ∀ (n : Nat), a < n → (∀ s, s < n → p s = true → q s = true) → cnt p n < cnt q n := by
  intro n
  induction n with
  | zero => intro h _; exact absurd h (Nat.not_lt_zero _)
  | succ n ih =>
    intro ha h
    rw [cnt, cnt]
    by_cases e : a = n
    · subst e
      have h1 := cnt_le a (fun s hs => h s (by omega))
      rw [if_neg hp, if_pos hq]; omega
    · have h1 := ih (by omega) (fun s hs => h s (by omega))
      have h2 := h n (by omega)
      by_cases c : p n = true
      · rw [if_pos c, if_pos (h2 c)]; omega
      · rw [if_neg c]; omega
/-- the urgency as a whole number -/
def uI (S : St) (k : Nat) : Int := (f_X2_urgencyOf S k).toInt
def tl (S : St) (k : Nat) : Bool := decide (¬ f_X3_isTool S k = 0)
def ah (S : St) (s t : Nat) : Bool := decide (uI S t < uI S s ∨ (uI S s = uI S t ∧ s < t))
def rk (S : St) (K t : Nat) : Nat := cnt (fun s => tl S s && ah S s t) K
theorem tl_iff (S : St) (k : Nat) : tl S k = true ↔ ¬ f_X3_isTool S k = 0 := by unfold tl; exact decide_eq_true_iff
theorem ah_iff (S : St) (s t : Nat) : ah S s t = true ↔ (uI S t < uI S s ∨ (uI S s = uI S t ∧ s < t)) := by unfold ah; exact decide_eq_true_iff
theorem ta_iff (S : St) (s t : Nat) : (tl S s && ah S s t) = true ↔ (tl S s = true ∧ (uI S t < uI S s ∨ (uI S s = uI S t ∧ s < t))) := by rw [Bool.and_eq_true, ah_iff]
theorem rk_mono {S : St} {K a b : Nat} (ha : a < K) (ht : tl S a = true) (h : uI S b < uI S a ∨ (uI S a = uI S b ∧ a < b)) : rk S K a < rk S K b := by
  refine cnt_lt (a := a) ?_ ?_ K ha (fun s _ hs => ?_)
  · intro h2; have h3 := ((ta_iff S a a).mp h2).2; omega
  · exact (ta_iff S a b).mpr ⟨ht, h⟩
  · have h3 := (ta_iff S s a).mp hs
    refine (ta_iff S s b).mpr ⟨h3.1, ?_⟩
    have h4 := h3.2
    omega
theorem rk_inj {S : St} {K a b : Nat} (ha : a < K) (hb : b < K) (hta : tl S a = true) (htb : tl S b = true) (h : rk S K a = rk S K b) : a = b := by
  rcases Nat.lt_trichotomy a b with c | c | c
  · rcases Int.lt_trichotomy (uI S a) (uI S b) with d | d | d
    · have := rk_mono (S := S) (K := K) (a := b) (b := a) hb htb (Or.inl d); omega
    · have := rk_mono (S := S) (K := K) (a := a) (b := b) ha hta (Or.inr ⟨d, c⟩); omega
    · have := rk_mono (S := S) (K := K) (a := a) (b := b) ha hta (Or.inl d); omega
  · exact c
  · rcases Int.lt_trichotomy (uI S a) (uI S b) with d | d | d
    · have := rk_mono (S := S) (K := K) (a := b) (b := a) hb htb (Or.inl d); omega
    · have := rk_mono (S := S) (K := K) (a := b) (b := a) hb htb (Or.inr ⟨d.symm, c⟩); omega
    · have := rk_mono (S := S) (K := K) (a := a) (b := b) ha hta (Or.inl d); omega
theorem rk_lt {S : St} {K a : Nat} (ha : a < K) (ht : tl S a = true) : rk S K a < cnt (tl S) K := by
  refine cnt_lt (a := a) ?_ ht K ha (fun s _ hs => ((ta_iff S s a).mp hs).1)
  intro h2; have h3 := ((ta_iff S a a).mp h2).2; omega
theorem rk_succ (S : St) (K t : Nat) : rk S (K + 1) t = rk S K t + if (tl S K && ah S K t) = true then 1 else 0 := rfl
-- one thing put into its place
theorem rb_at (x : Int32) (u : Int64) : ∀ (q : Nat) (F : Ex), ∃ P, P ≤ q ∧ (∀ p, P ≤ p → p < q → F.2.2 p < u) ∧ (P = 0 ∨ u ≤ F.2.2 (P - 1)) ∧ (∀ p, (r_X2_rankBehind x u q F).2.1 p = if p < P then F.2.1 p else if p = P then x else if p ≤ q then F.2.1 (p - 1) else F.2.1 p) ∧ (∀ p, (r_X2_rankBehind x u q F).2.2 p = if p < P then F.2.2 p else if p = P then u else if p ≤ q then F.2.2 (p - 1) else F.2.2 p) := by
  intro q
  induction q with
  | zero =>
    intro F
    refine ⟨0, Nat.le_refl _, fun p _ h => absurd h (Nat.not_lt_zero _), Or.inl rfl, fun p => ?_, fun p => ?_⟩
    · rw [r_X2_rankBehind]
      show (if p = 0 then x else F.2.1 p) = _
      rw [if_neg (Nat.not_lt_zero p)]
      by_cases e : p = 0
      · rw [if_pos e, if_pos e]
      · rw [if_neg e, if_neg e, if_neg (by omega)]
    · rw [r_X2_rankBehind]
      show (if p = 0 then u else F.2.2 p) = _
      rw [if_neg (Nat.not_lt_zero p)]
      by_cases e : p = 0
      · rw [if_pos e, if_pos e]
      · rw [if_neg e, if_neg e, if_neg (by omega)]
  | succ q ih =>
    intro F
    by_cases c : 0 ≤ lg_cmp (F.2.2 q) u
    · refine ⟨q + 1, Nat.le_refl _, fun p h1 h2 => absurd h2 (by omega), Or.inr ((lg_cmp_ge _ _).mp c), fun p => ?_, fun p => ?_⟩
      · rw [r_X2_rankBehind, if_pos c]
        show (if p = q + 1 then x else F.2.1 p) = _
        by_cases e : p = q + 1
        · rw [if_pos e, if_neg (by omega), if_pos e]
        · rw [if_neg e, if_neg e]
          by_cases e2 : p < q + 1
          · rw [if_pos e2]
          · rw [if_neg e2, if_neg (by omega)]
      · rw [r_X2_rankBehind, if_pos c]
        show (if p = q + 1 then u else F.2.2 p) = _
        by_cases e : p = q + 1
        · rw [if_pos e, if_neg (by omega), if_pos e]
        · rw [if_neg e, if_neg e]
          by_cases e2 : p < q + 1
          · rw [if_pos e2]
          · rw [if_neg e2, if_neg (by omega)]
    · rw [r_X2_rankBehind, if_neg c]
      have g1 : ∀ p, upd F.2.1 (q + 1) (F.2.1 q) p = if p = q + 1 then F.2.1 q else F.2.1 p := fun p => rfl
      have g2 : ∀ p, vp_updL F.2.2 (q + 1) (F.2.2 q) p = if p = q + 1 then F.2.2 q else F.2.2 p := fun p => rfl
      obtain ⟨P, h1, h2, h3, h4, h5⟩ := ih (F.1, upd F.2.1 (q + 1) (F.2.1 q), vp_updL F.2.2 (q + 1) (F.2.2 q))
      have hq : F.2.2 q < u := by
        rw [lg_cmp_ge, Int64.le_iff_toInt_le] at c
        rw [Int64.lt_iff_toInt_lt]; omega
      refine ⟨P, by omega, fun p k1 k2 => ?_, ?_, fun p => ?_, fun p => ?_⟩
      · by_cases e : p = q
        · rw [e]; exact hq
        · have h := h2 p k1 (by omega)
          have h' : (if p = q + 1 then F.2.2 q else F.2.2 p) < u := h
          rw [if_neg (by omega)] at h'
          exact h'
      · rcases h3 with h3 | h3
        · exact Or.inl h3
        · have h' : u ≤ (if P - 1 = q + 1 then F.2.2 q else F.2.2 (P - 1)) := h3
          rw [if_neg (by omega)] at h'
          exact Or.inr h'
      · have h := h4 p
        refine Eq.trans h ?_
        show (if p < P then (if p = q + 1 then F.2.1 q else F.2.1 p) else if p = P then x else if p ≤ q then (if p - 1 = q + 1 then F.2.1 q else F.2.1 (p - 1)) else (if p = q + 1 then F.2.1 q else F.2.1 p)) = _
        by_cases e1 : p < P
        · rw [if_pos e1, if_pos e1, if_neg (by omega)]
        rw [if_neg e1, if_neg e1]
        by_cases e2 : p = P
        · rw [if_pos e2, if_pos e2]
        rw [if_neg e2, if_neg e2]
        by_cases e3 : p ≤ q
        · rw [if_pos e3, if_neg (by omega), if_pos (show p ≤ q + 1 by omega)]
        · rw [if_neg e3]
          by_cases e4 : p = q + 1
          · rw [if_pos e4, if_pos (show p ≤ q + 1 by omega), show p - 1 = q by omega]
          · rw [if_neg e4, if_neg (show ¬ p ≤ q + 1 by omega)]
      · have h := h5 p
        refine Eq.trans h ?_
        show (if p < P then (if p = q + 1 then F.2.2 q else F.2.2 p) else if p = P then u else if p ≤ q then (if p - 1 = q + 1 then F.2.2 q else F.2.2 (p - 1)) else (if p = q + 1 then F.2.2 q else F.2.2 p)) = _
        by_cases e1 : p < P
        · rw [if_pos e1, if_pos e1, if_neg (by omega)]
        rw [if_neg e1, if_neg e1]
        by_cases e2 : p = P
        · rw [if_pos e2, if_pos e2]
        rw [if_neg e2, if_neg e2]
        by_cases e3 : p ≤ q
        · rw [if_pos e3, if_neg (by omega), if_pos (show p ≤ q + 1 by omega)]
        · rw [if_neg e3]
          by_cases e4 : p = q + 1
          · rw [if_pos e4, if_pos (show p ≤ q + 1 by omega), show p - 1 = q by omega]
          · rw [if_neg e4, if_neg (show ¬ p ≤ q + 1 by omega)]
def RI (S : St) (K j : Nat) (F : Ex) : Prop := j = cnt (tl S) K ∧ ∀ p, p < j → ∃ t, t < K ∧ tl S t = true ∧ F.2.1 p = nI t ∧ F.2.2 p = f_X2_urgencyOf S t ∧ rk S K t = p
theorem RI_no {S : St} {K j : Nat} {F : Ex} (h : RI S K j F) (ht : ¬ tl S K = true) : RI S (K + 1) j F := by
  have n : ∀ t, ¬ (tl S K && ah S K t) = true := fun t e => ht ((ta_iff S K t).mp e).1
  refine ⟨by rw [cnt, if_neg ht]; exact h.1, fun p hp => ?_⟩
  obtain ⟨t, h1, h2, h3, h4, h5⟩ := h.2 p hp
  exact ⟨t, by omega, h2, h3, h4, by rw [rk_succ, if_neg (n t), h5, Nat.add_zero]⟩
theorem RI_put {S : St} {K j : Nat} {F : Ex} (h : RI S K j F) (ht : tl S K = true) : RI S (K + 1) (j + 1) (r_X2_rankBehind (nI K) (f_X2_urgencyOf S K) j F) := by
  obtain ⟨P, h1, h2, h3, h4, h5⟩ := rb_at (nI K) (f_X2_urgencyOf S K) j F
  have hlo : ∀ p t, p < P → t < K → tl S t = true → F.2.2 p = f_X2_urgencyOf S t → rk S K t = p → uI S K ≤ uI S t := fun p t hp htK htt e er => by
    rcases h3 with h3 | h3
    · omega
    · obtain ⟨b, b1, b2, b3, b4, b5⟩ := h.2 (P - 1) (by omega)
      rw [b4, Int64.le_iff_toInt_le] at h3
      have h3' : uI S K ≤ uI S b := h3
      rcases Int.lt_or_le (uI S t) (uI S K) with c | c
      · have := rk_mono (S := S) (K := K) (a := b) (b := t) b1 b2 (Or.inl (by omega)); omega
      · exact c
  have hhi : ∀ p t, P ≤ p → p < j → F.2.2 p = f_X2_urgencyOf S t → uI S t < uI S K := fun p t hp hj e => by
    have q := h2 p hp hj
    rw [e, Int64.lt_iff_toInt_lt] at q
    exact q
  have hP : rk S K K = P := by
    have up : rk S K K ≤ P := by
      by_cases c : P < j
      · obtain ⟨t, t1, t2, t3, t4, t5⟩ := h.2 P c
        have q := hhi P t (Nat.le_refl _) c t4
        rw [← t5]
        refine cnt_le K (fun s hs hk => ?_)
        have k := (ta_iff S s K).mp hk
        refine (ta_iff S s t).mpr ⟨k.1, ?_⟩
        have k2 := k.2
        omega
      · have : rk S K K ≤ cnt (tl S) K := cnt_le K (fun s _ hk => ((ta_iff S s K).mp hk).1)
        have := h.1
        omega
    have lo : P ≤ rk S K K := by
      by_cases c : P = 0
      · omega
      · obtain ⟨t, t1, t2, t3, t4, t5⟩ := h.2 (P - 1) (by omega)
        have q := hlo (P - 1) t (by omega) t1 t2 t4 t5
        have : rk S K t < rk S K K := by
          refine cnt_lt (a := t) ?_ ?_ K t1 (fun s hs hk => ?_)
          · intro e; have e2 := ((ta_iff S t t).mp e).2; omega
          · exact (ta_iff S t K).mpr ⟨t2, by omega⟩
          · have k := (ta_iff S s t).mp hk
            have k2 := k.2
            exact (ta_iff S s K).mpr ⟨k.1, by omega⟩
        omega
    omega
  refine ⟨by rw [cnt, if_pos ht, ← h.1], fun p hp => ?_⟩
  rw [h4, h5]
  by_cases e1 : p < P
  · rw [if_pos e1, if_pos e1]
    obtain ⟨t, t1, t2, t3, t4, t5⟩ := h.2 p (by omega)
    have q := hlo p t e1 t1 t2 t4 t5
    refine ⟨t, by omega, t2, t3, t4, ?_⟩
    rw [rk_succ, if_neg, t5, Nat.add_zero]
    intro e
    have e2 := ((ta_iff S K t).mp e).2
    omega
  rw [if_neg e1, if_neg e1]
  by_cases e2 : p = P
  · rw [if_pos e2, if_pos e2]
    refine ⟨K, by omega, ht, rfl, rfl, ?_⟩
    rw [rk_succ, if_neg, hP, e2, Nat.add_zero]
    intro e
    have e2 := ((ta_iff S K K).mp e).2
    omega
  rw [if_neg e2, if_neg e2, if_pos (by omega), if_pos (by omega)]
  obtain ⟨t, t1, t2, t3, t4, t5⟩ := h.2 (p - 1) (by omega)
  have q := hhi (p - 1) t (by omega) (by omega) t4
  refine ⟨t, by omega, t2, t3, t4, ?_⟩
  rw [rk_succ, if_pos ((ta_iff S K t).mpr ⟨ht, Or.inl q⟩), t5]
  omega
theorem RI_all {S : St} : ∀ (q K j : Nat) (F : Ex), RI S K j F → ∃ m, (r_X2_rankThings S q K j F).1 = nI m ∧ RI S (K + q) m (r_X2_rankThings S q K j F).2 := by
  intro q
  induction q with
  | zero => intro K j F h; exact ⟨j, by rw [r_X2_rankThings], by rw [r_X2_rankThings]; exact h⟩
  | succ q ih =>
    intro K j F h
    rw [r_X2_rankThings, e_tool, show K + (q + 1) = K + 1 + q by omega]
    by_cases c : f_X3_isTool S K = 0
    · rw [if_pos c]; exact ih _ _ _ (RI_no h (fun e => (tl_iff S K).mp e c))
    · rw [if_neg c]; exact ih _ _ _ (RI_put h ((tl_iff S K).mpr c))
