-- the abstract state: things, trials, scalars (0 day, 1 charges), arrays (see wip/whole/gen/walk.py), sums of owners
abbrev St : Type := Nat × Nat × (Nat → Int32) × (Nat → Nat → Int32) × (Nat → Int64)
def nt (S : St) : Nat := S.1
def nr (S : St) : Nat := S.2.1
def sc (S : St) (k : Nat) : Int32 := S.2.2.1 k
def ar (S : St) (k i : Nat) : Int32 := S.2.2.2.1 k i
def os (S : St) (i : Nat) : Int64 := S.2.2.2.2 i
def ix (x : Int32) : Nat := x.toNatClampNeg
-- what the class alone holds: the words of the seals, the ranking, the urgencies
abbrev Ex : Type := (Nat → Int32) × (Nat → Int32) × (Nat → Int64)
def rT (ad : Nat → Nat) (x : Int32) : Value := if x = -1000000 then .null else .ref (ad (100 + ix x))
theorem rT_null {ad : Nat → Nat} {x : Int32} (h : x = -1000000) : rT ad x = .null := if_pos h
theorem rT_ref {ad : Nat → Nat} {x : Int32} (h : ¬ x = -1000000) : rT ad x = .ref (ad (100 + ix x)) := if_neg h
abbrev eX (ad : Nat → Nat) (S : St) : va_E := .inr (2, [.ref (ad 1), .ref (ad 2), .ref (ad 3), .ref (ad 4), .ref (ad 5), .ref (ad 6), .ref (ad 7), .ref (ad 8), .ref (ad 9), .int (sc S 0), .int (nI (nt S)), .int (nI (nr S)), .int (sc S 1)])
abbrev fTs (ad : Nat → Nat) (S : St) : Nat → Option Nat := fun i => if i < nt S then some (ad (10 + 2 * i)) else none
abbrev fRs (ad : Nat → Nat) (S : St) : Nat → Option Nat := fun n => if n < nr S then some (ad (100 + n)) else none
abbrev fA (S : St) (k : Nat) : Nat → Int32 := fun i => if i = 0 then 0 else ar S k i
abbrev fD (S : St) (i : Nat) : Nat → Int32 := fun j => if j < 3 then ar S 9 (3 * i + j) else 0
abbrev eT (ad : Nat → Nat) (S : St) (i : Nat) : va_E := .inr (0, [.int (ar S 0 i), .int (ar S 1 i), .int (ar S 2 i), .ref (ad (11 + 2 * i)), .int (ar S 3 i), .int (ar S 8 i), .int (ar S 4 i), .int (ar S 7 i), .int (ar S 6 i), rT ad (ar S 5 i)])
abbrev eR (ad : Nat → Nat) (S : St) (n : Nat) : va_E := .inr (1, [.int (nI n), .int (ar S 13 n), .int (ar S 14 n), rT ad (ar S 20 n), .int (ar S 15 n), .int (ar S 16 n), .int (ar S 17 n), .int (ar S 18 n), .int (ar S 19 n), .int (ar S 21 n)])
def cX0 (G : GG) (ad : Nat → Nat) (S : St) (E : Ex) : Nat → Option va_E := fun k => match k with
  | 0 => some (eX ad S)
  | 1 => some (.inl (gT G, 40, .inr (.inr (.inr (.inr (fTs ad S))))))
  | 2 => some (.inl (gR G, 300, .inr (.inr (.inr (.inr (fRs ad S))))))
  | 3 => some (.inl (gI G, 4, .inl (fA S 10)))
  | 4 => some (.inl (gI G, 4, .inl (fA S 11)))
  | 5 => some (.inl (gI G, 10, .inl (ar S 22)))
  | 6 => some (.inl (gJ G, 10, .inr (.inl (os S))))
  | 7 => some (.inl (gI G, 313, .inl E.1))
  | 8 => some (.inl (gI G, 40, .inl E.2.1))
  | 9 => some (.inl (gJ G, 40, .inr (.inl E.2.2)))
  | _ => none
def cX (G : GG) (ad : Nat → Nat) (S : St) (E : Ex) : Nat → Option va_E := fun k =>
  if k < 10 then cX0 G ad S E k
  else if k < 100 then (if (k - 10) / 2 < nt S then (if k % 2 = 0 then some (eT ad S ((k - 10) / 2)) else some (.inl (gI G, 3, .inl (fD S ((k - 10) / 2))))) else none)
  else if k - 100 < nr S then some (eR ad S (k - 100)) else none
theorem cX_lo {G : GG} {ad : Nat → Nat} {S : St} {E : Ex} (k : Nat) (hk : k < 10) {e : va_E} (h : cX0 G ad S E k = some e) : cX G ad S E k = some e := by
  rw [cX, if_pos hk]; exact h
theorem cX_T {G : GG} {ad : Nat → Nat} {S : St} {E : Ex} {i : Nat} (hi : i < nt S) (h : nt S ≤ 40) : cX G ad S E (10 + 2 * i) = some (eT ad S i) := by
  rw [cX, if_neg (by omega), if_pos (by omega), show (10 + 2 * i - 10) / 2 = i by omega, if_pos hi, if_pos (by omega)]
theorem cX_D {G : GG} {ad : Nat → Nat} {S : St} {E : Ex} {i : Nat} (hi : i < nt S) (h : nt S ≤ 40) : cX G ad S E (11 + 2 * i) = some (.inl (gI G, 3, .inl (fD S i))) := by
  rw [cX, if_neg (by omega), if_pos (by omega), show (11 + 2 * i - 10) / 2 = i by omega, if_pos hi, if_neg (by omega)]
theorem cX_R {G : GG} {ad : Nat → Nat} {S : St} {E : Ex} {n : Nat} (hn : n < nr S) : cX G ad S E (100 + n) = some (eR ad S n) := by
  rw [cX, if_neg (by omega), if_neg (by omega), show 100 + n - 100 = n by omega, if_pos hn]
-- the reference: its object at 0, its arrays at 1 + k
abbrev eM (ad : Nat → Nat) (S : St) : va_E := .inr (3, [.int (sc S 0), .int (nI (nt S)), .ref (ad 1), .ref (ad 2), .ref (ad 3), .ref (ad 4), .ref (ad 5), .ref (ad 6), .ref (ad 7), .ref (ad 8), .ref (ad 9), .ref (ad 10), .ref (ad 11), .ref (ad 12), .ref (ad 13), .int (nI (nr S)), .ref (ad 14), .ref (ad 15), .ref (ad 16), .ref (ad 17), .ref (ad 18), .ref (ad 19), .ref (ad 20), .ref (ad 21), .ref (ad 22), .int (sc S 1), .ref (ad 23), .ref (ad 24)])
def mlen (k : Nat) : Nat := if k < 9 then 40 else if k = 9 then 120 else if k < 12 then 4 else if k = 12 then 10000 else if k < 22 then 300 else 10
def mcls (G : GG) (k : Nat) : ClassId := if k = 12 then gZ G else if k = 18 then gZ G else if k = 19 then gZ G else if k = 21 then gZ G else gI G
def cM (G : GG) (ad : Nat → Nat) (S : St) : Nat → Option va_E := fun k =>
  if k = 0 then some (eM ad S) else if k < 24 then some (.inl (mcls G (k - 1), mlen (k - 1), .inl (ar S (k - 1)))) else if k = 24 then some (.inl (gJ G, 10, .inr (.inl (os S)))) else none
theorem cM_0 {G : GG} {ad : Nat → Nat} {S : St} : cM G ad S 0 = some (eM ad S) := rfl
theorem cM_A {G : GG} {ad : Nat → Nat} {S : St} (k : Nat) (hk : k < 23) {n : Nat} {c : ClassId} (hn : mlen k = n) (hc : mcls G k = c) : cM G ad S (k + 1) = some (.inl (c, n, .inl (ar S k))) := by
  rw [cM, if_neg (by omega), if_pos (by omega), show k + 1 - 1 = k by omega, hn, hc]
theorem cM_L {G : GG} {ad : Nat → Nat} {S : St} : cM G ad S 24 = some (.inl (gJ G, 10, .inr (.inl (os S)))) := rfl
-- well-formed: what keeps every index within
def okx (x : Int32) (n : Nat) : Prop := x = nI (ix x) ∧ ix x < n
def WF (S : St) : Prop := nt S ≤ 40 ∧ nr S ≤ 300 ∧ (∀ i, i < nt S → ¬ ar S 5 i = -1000000 → okx (ar S 5 i) (nr S)) ∧ (∀ i, i < nt S → okx (ar S 0 i) 4) ∧ (∀ i, i < nt S → okx (ar S 3 i) 10) ∧ (∀ i, i < nt S → okx (ar S 8 i) 4)
def WB (S : St) : Prop := ∀ n, n < nr S → ¬ ar S 20 n = -1000000 → okx (ar S 20 n) n
theorem WF.t {S : St} (h : WF S) : nt S ≤ 40 := h.1
theorem WF.r {S : St} (h : WF S) : nr S ≤ 300 := h.2.1
theorem WF.la {S : St} (h : WF S) {i : Nat} (hi : i < nt S) (hn : ¬ ar S 5 i = -1000000) : okx (ar S 5 i) (nr S) := h.2.2.1 i hi hn
theorem WB.ba {S : St} (h : WB S) {n : Nat} (hi : n < nr S) (hn : ¬ ar S 20 n = -1000000) : okx (ar S 20 n) n := h n hi hn
theorem WF.kd {S : St} (h : WF S) {i : Nat} (hi : i < nt S) : okx (ar S 0 i) 4 := h.2.2.2.1 i hi
theorem WF.ow {S : St} (h : WF S) {i : Nat} (hi : i < nt S) : okx (ar S 3 i) 10 := h.2.2.2.2.1 i hi
theorem WF.dc {S : St} (h : WF S) {i : Nat} (hi : i < nt S) : okx (ar S 8 i) 4 := h.2.2.2.2.2 i hi
