-- a new thing
theorem i_thing {S : St} {E : Ex} (hI : INV S E) (x y z u : Int32) : INV (f_X3_thing S x y z u).2 E := by
  rw [f_X3_thing]
  by_cases c1 : f_X3_in x 0 3 = 0
  · rw [if_pos c1]; exact hI
  rw [if_neg c1]
  by_cases c2 : f_X3_in y 0 100 = 0
  · rw [if_pos c2]; exact hI
  rw [if_neg c2]
  by_cases c3 : f_X3_in z 1 4000 = 0
  · rw [if_pos c3]; exact hI
  rw [if_neg c3]
  by_cases c4 : f_X3_in u 0 9 = 0
  · rw [if_pos c4]; exact hI
  rw [if_neg c4]
  by_cases c5 : nI (nt S) = 40
  · rw [if_pos c5]; exact hI
  rw [if_neg c5]
  show INV (addT S x y z u) E
  have ox := in_okx (b := 3) (by decide) c1
  have oy := in_int (a := 0) (b := 100) (by decide) (by decide) c2
  have oz := in_int (a := 1) (b := 4000) (by decide) (by decide) c3
  have ou := in_okx (b := 9) (by decide) c4
  have h40 : nt S ≠ 40 := fun e => c5 (by rw [e]; rfl)
  have ht := hI.wf.t
  obtain ⟨hw, hb, hz, hB, hc, hs⟩ := hI
  have hT : nt (addT S x y z u) = nt S + 1 := rfl
  have hR : nr (addT S x y z u) = nr S := rfl
  have hS : sc (addT S x y z u) = sc S := rfl
  have a0 : ar (addT S x y z u) 0 (nt S) = x := by unfold addT; rw [ar_setT, ar_ne _ _ _ _ _ (by decide), ar_ne _ _ _ _ _ (by decide), ar_ne _ _ _ _ _ (by decide), ar_ne _ _ _ _ _ (by decide), ar_ne _ _ _ _ _ (by decide), ar_same]
  have a1 : ar (addT S x y z u) 1 (nt S) = y := by unfold addT; rw [ar_setT, ar_ne _ _ _ _ _ (by decide), ar_ne _ _ _ _ _ (by decide), ar_ne _ _ _ _ _ (by decide), ar_ne _ _ _ _ _ (by decide), ar_same]
  have a2 : ar (addT S x y z u) 2 (nt S) = z := by unfold addT; rw [ar_setT, ar_ne _ _ _ _ _ (by decide), ar_ne _ _ _ _ _ (by decide), ar_ne _ _ _ _ _ (by decide), ar_same]
  have a3 : ar (addT S x y z u) 3 (nt S) = u := by unfold addT; rw [ar_setT, ar_ne _ _ _ _ _ (by decide), ar_ne _ _ _ _ _ (by decide), ar_same]
  have a5 : ar (addT S x y z u) 5 (nt S) = -1000000 := by unfold addT; rw [ar_setT, ar_ne _ _ _ _ _ (by decide), ar_same]
  have d : ∀ a, 6 < a ∨ a = 4 → ar (addT S x y z u) a = ar S a := fun a h => addT_fun S x y z u (by omega) (by omega) (by omega) (by omega) (by omega) (by omega)
  have off : ∀ a j, j ≠ nt S → ar (addT S x y z u) a j = ar S a j := fun a j h => addT_off S x y z u a h
  refine ⟨⟨by omega, hw.2.1, fun j hj hn => ?_, fun j hj => ?_, fun j hj => ?_, fun j hj => ?_⟩, ?_, ⟨fun j hj => ?_, fun j hj => ?_, ?_⟩, ⟨hB.1, fun j hj => ?_, ?_, ?_⟩, ?_, ?_⟩
  · rw [hT] at hj
    by_cases e : j = nt S
    · rw [e] at hn; exact absurd a5 hn
    · rw [off _ _ e] at hn ⊢; exact hw.la (by omega) hn
  · rw [hT] at hj
    by_cases e : j = nt S
    · rw [e, a0]; exact ox
    · rw [off _ _ e]; exact hw.kd (by omega)
  · rw [hT] at hj
    by_cases e : j = nt S
    · rw [e, a3]; exact ou
    · rw [off _ _ e]; exact hw.ow (by omega)
  · rw [hT] at hj
    rw [d 8 (by omega)]
    by_cases e : j = nt S
    · rw [e, (hz.1 _ (Nat.le_refl _)).2.2]; exact ⟨by decide, by decide⟩
    · exact hw.dc (by omega)
  · unfold WB at *; rw [d 20 (by omega)]; exact hb
  · rw [d 4 (by omega), d 7 (by omega), d 8 (by omega)]
    exact hz.1 j (by rw [hT] at hj; omega)
  · rw [d 9 (by omega)]
    exact hz.2.1 j (by rw [hT] at hj; omega)
  · rw [hR, d 19 (by omega), d 21 (by omega)]; exact hz.2.2
  · rw [hT] at hj
    by_cases e : j = nt S
    · rw [e, a0, a1, a2, a5]; exact ⟨oy.1, oy.2, oz.1, oz.2, fun _ => rfl⟩
    · rw [off _ _ e, off _ _ e, off _ _ e, off _ _ e]; exact hB.2.1 j (by omega)
  · rw [d 9 (by omega)]; exact hB.2.2.1
  · rw [hR, hS, d 10 (by omega), d 11 (by omega), d 15 (by omega), d 16 (by omega), d 17 (by omega)]; exact hB.2.2.2
  · unfold IC at *; rw [hR, d 18 (by omega), d 20 (by omega)]; exact hc
  · unfold IS at *; rw [d 12 (by omega)]; exact hs
-- the bits of the seals
def bt (k : Nat) : Int32 := 1 <<< (nI k &&& 31)
theorem bt_k {k : Nat} (hk : k < 10000) : (1 : Int32) <<< (((nI k) - (nI k) / 32 * 32) &&& 31) = bt (k % 32) := by
  have e1 : nI k / 32 = nI (k / 32) := pk_div (Nat.lt_of_lt_of_le hk (by decide)) (by decide) (by decide)
  have e2 : (nI (k / 32)).toInt = ((k / 32 : Nat) : Int) := nI_toInt (by omega)
  have e3 : (nI k).toInt = (k : Int) := nI_toInt (by omega)
  have e4 : (nI (k % 32)).toInt = ((k % 32 : Nat) : Int) := nI_toInt (by omega)
  have e5 : (32 : Int32).toInt = 32 := by decide
  have e6 : (nI (k / 32) * 32).toInt = ((k / 32 : Nat) : Int) * 32 := by rw [q_mul (by rw [e2, e5]; omega) (by rw [e2, e5]; omega), e2, e5]
  have e7 : nI k - nI k / 32 * 32 = nI (k % 32) := by
    rw [e1, i_eq, q_sub (by rw [e3, e6]; omega) (by rw [e3, e6]; omega), e3, e4, e6]
    omega
  rw [e7]; rfl
theorem bt_ne : ∀ a, a < 32 → ¬ bt a = 0 := by decide +kernel
theorem bt_off : ∀ a, a < 32 → ∀ b, b < 32 → a ≠ b → bt a &&& bt b = 0 := by decide +kernel
theorem or_and (w a b : Int32) : (w ||| a) &&& b = (w &&& b) ||| (a &&& b) := by
  apply Int32.toBitVec_inj.mp
  rw [Int32.toBitVec_and, Int32.toBitVec_or, Int32.toBitVec_or, Int32.toBitVec_and, Int32.toBitVec_and]
  ext i hi
  simp only [BitVec.getElem_and, BitVec.getElem_or]
  cases w.toBitVec[i] <;> cases a.toBitVec[i] <;> cases b.toBitVec[i] <;> rfl
theorem put_at (E : Ex) {k : Nat} (hk : k < 10000) : f_X2_wasPutOn E k = 0 ↔ E.1 (k / 32) &&& bt (k % 32) = 0 := by
  rw [f_X2_wasPutOn, bt_k hk]
  by_cases c : E.1 (k / 32) &&& bt (k % 32) = 0
  · rw [if_pos c]; exact ⟨fun _ => c, fun _ => rfl⟩
  · rw [if_neg c]; exact ⟨fun h => absurd h (by decide), fun h => absurd h c⟩
theorem put_mark (E : Ex) {k j : Nat} (hk : k < 10000) (hj : j < 10000) : f_X2_wasPutOn (f_X2_markPutOn E k) j = 0 ↔ (j ≠ k ∧ f_X2_wasPutOn E j = 0) := by
  rw [put_at _ hj, put_at _ hj, f_X2_markPutOn, bt_k hk]
  show upd E.1 (k / 32) (E.1 (k / 32) ||| bt (k % 32)) (j / 32) &&& bt (j % 32) = 0 ↔ _
  by_cases c : j / 32 = k / 32
  · rw [c, show upd E.1 (k / 32) (E.1 (k / 32) ||| bt (k % 32)) (k / 32) = E.1 (k / 32) ||| bt (k % 32) from if_pos rfl, or_and]
    by_cases d : j % 32 = k % 32
    · have e : j = k := by omega
      rw [d, Int32.and_self]
      refine ⟨fun h => ?_, fun h => absurd e h.1⟩
      exfalso
      refine bt_ne (k % 32) (by omega) ?_
      have h5 : (E.1 (k / 32) &&& bt (k % 32)) ||| bt (k % 32) = bt (k % 32) := by
        apply Int32.toBitVec_inj.mp
        rw [Int32.toBitVec_or, Int32.toBitVec_and]
        ext i hi
        simp only [BitVec.getElem_and, BitVec.getElem_or]
        cases (E.1 (k / 32)).toBitVec[i] <;> cases (bt (k % 32)).toBitVec[i] <;> rfl
      rw [← h5]; exact h
    · rw [bt_off _ (by omega) _ (by omega) (Ne.symm d), Int32.or_zero]
      exact ⟨fun h => ⟨fun e => d (by rw [e]), h⟩, fun h => h.2⟩
  · rw [show upd E.1 (k / 32) (E.1 (k / 32) ||| bt (k % 32)) (j / 32) = E.1 (j / 32) from if_neg c]
    exact ⟨fun h => ⟨fun e => c (by rw [e]), h⟩, fun h => h.2⟩
theorem e_seal {S : St} {E : Ex} (hI : INV S E) {i : Nat} (hi : i < nt S) {k : Nat} (h1 : 1 ≤ k) (hk : k < 10000) : (f_X2_seal S E i k).1 = (f_X3_seal S i k).1 ∧ ∀ (G : GG) (ad : Nat → Nat) (j : Nat), cX G ad (f_X2_seal S E i k).2.1 (f_X2_seal S E i k).2.2 j = cX G ad (f_X3_seal S i k).2 (f_X2_seal S E i k).2.2 j := by
  rw [f_X2_seal, f_X3_seal, e_tool, e_judgement hI hi]
  by_cases c1 : f_X3_isTool S i = 0
  · rw [if_pos c1, if_pos c1]; exact ⟨rfl, fun _ _ _ => rfl⟩
  rw [if_neg c1, if_neg c1]
  by_cases c2 : f_X3_judgedOn S i (sc S 0) = 1
  · rw [if_pos c2, if_pos c2]
    have q := hI.2.2.2.2.2 k h1 hk
    by_cases c3 : ar S 12 k = 0
    · rw [if_pos c3, if_pos (q.mpr c3)]
      refine ⟨rfl, fun G ad j => ?_⟩
      have d : ∀ a, a ≠ 12 → ar (setA S 6 i (nI k)) a = ar (setA (setA S 12 k 1) 6 i (nI k)) a := fun a ha => by
        funext t; rw [ar_setA, ar_setA, ar_ne _ _ _ _ _ ha]
      show cX G ad (setA S 6 i (nI k)) (f_X2_markPutOn E k) j = cX G ad (setA (setA S 12 k 1) 6 i (nI k)) (f_X2_markPutOn E k) j
      refine cX_congr (S := setA (setA S 12 k 1) 6 i (nI k)) (S' := setA S 6 i (nI k)) rfl rfl j (fun _ => cX0_congr (S := setA (setA S 12 k 1) 6 i (nI k)) (S' := setA S 6 i (nI k)) rfl rfl rfl (d 10 (by decide)) (d 11 (by decide)) (d 22 (by decide)) rfl rfl j) (fun t _ _ => ?_) (fun t _ _ => fD_c (fun _ _ => by rw [d 9 (by decide)])) (fun t _ _ => ?_)
      · simp only [eT, d 0 (by decide), d 1 (by decide), d 2 (by decide), d 3 (by decide), d 4 (by decide), d 5 (by decide), d 6 (by decide), d 7 (by decide), d 8 (by decide)]
      · simp only [eR, d 13 (by decide), d 14 (by decide), d 15 (by decide), d 16 (by decide), d 17 (by decide), d 18 (by decide), d 19 (by decide), d 20 (by decide), d 21 (by decide)]
    · rw [if_neg c3, if_neg (fun e => c3 (q.mp e))]; exact ⟨rfl, fun _ _ _ => rfl⟩
  · rw [if_neg c2, if_neg c2]; exact ⟨rfl, fun _ _ _ => rfl⟩
theorem i_seal {S : St} {E : Ex} (hI : INV S E) {i : Nat} (hi : i < nt S) {k : Nat} (h1 : 1 ≤ k) (hk : k < 10000) : INV (f_X3_seal S i k).2 (f_X2_seal S E i k).2.2 := by
  rw [f_X2_seal, f_X3_seal, e_tool, e_judgement hI hi]
  by_cases c1 : f_X3_isTool S i = 0
  · rw [if_pos c1, if_pos c1]; exact hI
  rw [if_neg c1, if_neg c1]
  by_cases c2 : f_X3_judgedOn S i (sc S 0) = 1
  · rw [if_pos c2, if_pos c2]
    have q := hI.2.2.2.2.2 k h1 hk
    by_cases c3 : ar S 12 k = 0
    · rw [if_pos c3, if_pos (q.mpr c3)]
      show INV (setA (setA S 12 k 1) 6 i (nI k)) (f_X2_markPutOn E k)
      have h6 : INV (setA S 6 i (nI k)) E := hI.cong rfl rfl rfl (fun a h _ _ _ _ _ => ar_diff _ _ _ _ h) (fun j hj => by rw [ar_diff _ _ _ _ (by decide)]; exact (hI.2.2.1.1 j hj).2.1) (fun j hj => by rw [ar_diff _ _ _ _ (by decide)]; exact (hI.2.2.1.2.2 j hj).2)
      have d : ∀ a, a ≠ 12 → ar (setA (setA S 12 k 1) 6 i (nI k)) a = ar (setA S 6 i (nI k)) a := fun a ha => by
        funext t; rw [ar_setA (setA S 12 k 1), ar_setA S 6, ar_ne _ _ _ _ _ ha]
      have hR : nr (setA (setA S 12 k 1) 6 i (nI k)) = nr (setA S 6 i (nI k)) := rfl
      have hT : nt (setA (setA S 12 k 1) 6 i (nI k)) = nt (setA S 6 i (nI k)) := rfl
      have hS : sc (setA (setA S 12 k 1) 6 i (nI k)) = sc (setA S 6 i (nI k)) := rfl
      obtain ⟨hw, hb, hz, hB, hc, hs⟩ := h6
      refine ⟨hw.same rfl rfl (d 0 (by decide)) (d 3 (by decide)) (d 5 (by decide)) (d 8 (by decide)), ?_, ?_, ?_, ?_, fun j j1 jk => ?_⟩
      · unfold WB at *; rw [hR, d 20 (by decide)]; exact hb
      · unfold IZ at *; rw [hR, hT, d 4 (by decide), d 7 (by decide), d 8 (by decide), d 9 (by decide), d 19 (by decide), d 21 (by decide)]; exact hz
      · unfold IB at *; rw [hR, hT, hS, d 0 (by decide), d 1 (by decide), d 2 (by decide), d 5 (by decide), d 9 (by decide), d 10 (by decide), d 11 (by decide), d 15 (by decide), d 16 (by decide), d 17 (by decide)]; exact hB
      · unfold IC at *; rw [hR, d 18 (by decide), d 20 (by decide)]; exact hc
      · rw [put_mark E hk jk, ar_ne _ _ _ _ _ (by decide), ar_setA, if_pos rfl]
        have q2 := hI.2.2.2.2.2 j j1 jk
        by_cases e : j = k
        · rw [if_pos e]; exact ⟨fun h => absurd e h.1, fun h => absurd h (by decide)⟩
        · rw [if_neg e, q2]; exact ⟨fun h => h.2, fun h => ⟨e, h⟩⟩
    · rw [if_neg c3, if_neg (fun e => c3 (q.mp e))]; exact hI
  · rw [if_neg c2, if_neg c2]; exact hI
theorem rb_1 (x : Int32) (u : Int64) : ∀ (q : Nat) (F : Ex), (r_X2_rankBehind x u q F).1 = F.1 := by
  intro q
  induction q with
  | zero => intro F; rw [r_X2_rankBehind]
  | succ q ih =>
    intro F
    rw [r_X2_rankBehind]
    split
    · rfl
    · rw [ih]
theorem rt_1 (S : St) : ∀ (q k j : Nat) (F : Ex), (r_X2_rankThings S q k j F).2.1 = F.1 := by
  intro q
  induction q with
  | zero => intro k j F; rw [r_X2_rankThings]
  | succ q ih =>
    intro k j F
    rw [r_X2_rankThings]
    split
    · rw [ih]
    · rw [ih, f_X2_rankBehind, rb_1]
theorem i_first {S : St} {E : Ex} (hI : INV S E) (x : Int32) : INV S (f_X2_first S E x).2 := by
  have e : (f_X2_first S E x).2.1 = E.1 := by
    rw [f_X2_first]
    split <;> exact rt_1 S _ _ _ E
  refine ⟨hI.1, hI.2.1, hI.2.2.1, hI.2.2.2.1, hI.2.2.2.2.1, fun k h1 hk => ?_⟩
  have q := hI.2.2.2.2.2 k h1 hk
  rw [f_X2_wasPutOn] at q ⊢
  rw [e]; exact q
