-- the invariant between two calls
def IZ (S : St) : Prop := (∀ i, nt S ≤ i → ar S 4 i = 0 ∧ ar S 7 i = 0 ∧ ar S 8 i = 0) ∧ (∀ j, 3 * nt S ≤ j → ar S 9 j = 0) ∧ ∀ n, nr S ≤ n → ar S 19 n = 0 ∧ ar S 21 n = 0
def IB (S : St) : Prop := (0 ≤ (sc S 0).toInt ∧ (sc S 0).toInt ≤ 20000) ∧ (∀ i, i < nt S → 0 ≤ (ar S 1 i).toInt ∧ (ar S 1 i).toInt ≤ 100 ∧ 1 ≤ (ar S 2 i).toInt ∧ (ar S 2 i).toInt ≤ 4000 ∧ (ar S 0 i = 0 → ar S 5 i = -1000000)) ∧ (∀ j, -100000 ≤ (ar S 9 j).toInt ∧ (ar S 9 j).toInt ≤ 100000) ∧ (∀ n : Nat, n < nr S → 0 ≤ (ar S 15 n).toInt ∧ (ar S 15 n).toInt ≤ (sc S 0).toInt ∧ -(100000 * ((n : Int) + 1)) ≤ (ar S 16 n).toInt ∧ (ar S 16 n).toInt ≤ 100000 * ((n : Int) + 1) ∧ 0 ≤ (ar S 17 n).toInt ∧ (ar S 17 n).toInt ≤ 400000 * ((n : Int) + 1)) ∧ ∀ k, 1 ≤ k → k ≤ 3 → 0 ≤ (ar S 10 k).toInt ∧ (ar S 10 k).toInt ≤ 100000 ∧ 0 ≤ (ar S 11 k).toInt ∧ (ar S 11 k).toInt ≤ 100000
def IC (S : St) : Prop := ∀ n, n < nr S → ¬ ar S 20 n = -1000000 → ar S 18 (ix (ar S 20 n)) = 0 → ar S 18 n = 0
def IS (S : St) (E : Ex) : Prop := ∀ k, 1 ≤ k → k < 10000 → (f_X2_wasPutOn E k = 0 ↔ ar S 12 k = 0)
def INV (S : St) (E : Ex) : Prop := WF S ∧ WB S ∧ IZ S ∧ IB S ∧ IC S ∧ IS S E
theorem INV.wf {S : St} {E : Ex} (h : INV S E) : WF S := h.1
theorem INV.wb {S : St} {E : Ex} (h : INV S E) : WB S := h.2.1
theorem INV.zt {S : St} {E : Ex} (h : INV S E) : ZT S := ⟨(h.2.2.1.1 _ (Nat.le_refl _)).1, (h.2.2.1.1 _ (Nat.le_refl _)).2.1, (h.2.2.1.1 _ (Nat.le_refl _)).2.2, fun j _ => h.2.2.1.2.1 _ (Nat.le_add_right _ _)⟩
theorem INV.zr {S : St} {E : Ex} (h : INV S E) : ZR S := h.2.2.1.2.2 _ (Nat.le_refl _)
