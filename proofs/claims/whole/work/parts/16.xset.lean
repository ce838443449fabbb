-- the class's picture under a change of the state
theorem ar_off (S : St) (k i : Nat) (v : Int32) (a : Nat) {j : Nat} (h : j ≠ i) : ar (setA S k i v) a j = ar S a j := by
  rw [ar_setA]
  by_cases ha : a = k
  · rw [if_pos ha, if_neg h]
  · rw [if_neg ha]
section XC
variable {G : GG} {ad : Nat → Nat} {S S' : St} {E E' : Ex}
theorem fTs_c (h : nt S' = nt S) : fTs ad S' = fTs ad S := by funext i; show (if i < nt S' then _ else _) = if i < nt S then _ else _; rw [h]
theorem fRs_c (h : nr S' = nr S) : fRs ad S' = fRs ad S := by funext i; show (if i < nr S' then _ else _) = if i < nr S then _ else _; rw [h]
theorem fA_c {a : Nat} (h : ar S' a = ar S a) : fA S' a = fA S a := by funext i; show (if i = 0 then 0 else ar S' a i) = if i = 0 then 0 else ar S a i; rw [h]
theorem fD_c {i : Nat} (h : ∀ j, j < 3 → ar S' 9 (3 * i + j) = ar S 9 (3 * i + j)) : fD S' i = fD S i := by
  funext j
  show (if j < 3 then ar S' 9 (3 * i + j) else 0) = if j < 3 then ar S 9 (3 * i + j) else 0
  by_cases hj : j < 3
  · rw [if_pos hj, if_pos hj, h j hj]
  · rw [if_neg hj, if_neg hj]
theorem cX0_congr (hsc : sc S' = sc S) (hnt : nt S' = nt S) (hnr : nr S' = nr S) (h10 : ar S' 10 = ar S 10) (h11 : ar S' 11 = ar S 11) (h22 : ar S' 22 = ar S 22) (hos : os S' = os S) (hE : E' = E) (k : Nat) : cX0 G ad S' E' k = cX0 G ad S E k := by
  subst hE
  match k with
  | 0 => show some (eX ad S') = some (eX ad S); simp only [eX, hsc, hnt, hnr]
  | 1 => show some (Sum.inl (gT G, 40, Sum.inr (Sum.inr (Sum.inr (Sum.inr (fTs ad S')))))) = some (Sum.inl (gT G, 40, Sum.inr (Sum.inr (Sum.inr (Sum.inr (fTs ad S)))))); rw [fTs_c hnt]
  | 2 => show some (Sum.inl (gR G, 300, Sum.inr (Sum.inr (Sum.inr (Sum.inr (fRs ad S')))))) = some (Sum.inl (gR G, 300, Sum.inr (Sum.inr (Sum.inr (Sum.inr (fRs ad S)))))); rw [fRs_c hnr]
  | 3 => show some (Sum.inl (gI G, 4, Sum.inl (fA S' 10))) = some (Sum.inl (gI G, 4, Sum.inl (fA S 10))); rw [fA_c h10]
  | 4 => show some (Sum.inl (gI G, 4, Sum.inl (fA S' 11))) = some (Sum.inl (gI G, 4, Sum.inl (fA S 11))); rw [fA_c h11]
  | 5 => show some (Sum.inl (gI G, 10, Sum.inl (ar S' 22))) = some (Sum.inl (gI G, 10, Sum.inl (ar S 22))); rw [h22]
  | 6 => show some (Sum.inl (gJ G, 10, Sum.inr (Sum.inl (os S')))) = some (Sum.inl (gJ G, 10, Sum.inr (Sum.inl (os S)))); rw [hos]
  | 7 => rfl
  | 8 => rfl
  | 9 => rfl
  | k + 10 => rfl
theorem cX_congr (hnt : nt S' = nt S) (hnr : nr S' = nr S) (k : Nat) (h0 : k < 10 → cX0 G ad S' E' k = cX0 G ad S E k) (hT : ∀ i, i < nt S → k = 10 + 2 * i → eT ad S' i = eT ad S i) (hD : ∀ i, i < nt S → k = 11 + 2 * i → fD S' i = fD S i) (hR : ∀ n, n < nr S → k = 100 + n → eR ad S' n = eR ad S n) : cX G ad S' E' k = cX G ad S E k := by
  unfold cX
  by_cases h : k < 10
  · rw [if_pos h, if_pos h]; exact h0 h
  · rw [if_neg h, if_neg h]
    by_cases h2 : k < 100
    · rw [if_pos h2, if_pos h2, hnt]
      by_cases h3 : (k - 10) / 2 < nt S
      · rw [if_pos h3, if_pos h3]
        by_cases h4 : k % 2 = 0
        · rw [if_pos h4, if_pos h4, hT _ h3 (by omega)]
        · rw [if_neg h4, if_neg h4, hD _ h3 (by omega)]
      · rw [if_neg h3, if_neg h3]
    · rw [if_neg h2, if_neg h2, hnr]
      by_cases h3 : k - 100 < nr S
      · rw [if_pos h3, if_pos h3, hR _ h3 (by omega)]
      · rw [if_neg h3, if_neg h3]
theorem cX_setT' (i a : Nat) (v : Int32) (hi : i < nt S) (h40 : nt S ≤ 40) (ha : a = 3 ∨ a = 4 ∨ a = 5 ∨ a = 6 ∨ a = 7 ∨ a = 8) : ∀ k, va_up (cX G ad S E) (10 + 2 * i) (some (eT ad (setA S a i v) i)) k = cX G ad (setA S a i v) E k := by
  intro k
  have hd : ∀ b, b ≠ a → ar (setA S a i v) b = ar S b := fun b h => ar_diff S a i v h
  by_cases hk : k = 10 + 2 * i
  · subst hk; rw [va_up_self]; exact (cX_T (S := setA S a i v) hi h40).symm
  · rw [va_up_ne _ _ hk]
    refine (cX_congr (S := S) (S' := setA S a i v) (E := E) (E' := E) rfl rfl k (fun _ => cX0_congr (S := S) (S' := setA S a i v) (E := E) (E' := E) rfl rfl rfl (hd 10 (by omega)) (hd 11 (by omega)) (hd 22 (by omega)) rfl rfl k) (fun j hj e => ?_) (fun j hj e => ?_) (fun n hn e => ?_)).symm
    · have hji : j ≠ i := by omega
      simp only [eT, ar_off S a i v _ hji]
    · exact fD_c (fun _ _ => by rw [hd 9 (by omega)])
    · simp only [eR, hd 13 (by omega), hd 14 (by omega), hd 15 (by omega), hd 16 (by omega), hd 17 (by omega), hd 18 (by omega), hd 19 (by omega), hd 20 (by omega), hd 21 (by omega)]
theorem cX_setR' (n a : Nat) (v : Int32) (hn : n < nr S) (ha : a = 18 ∨ a = 19 ∨ a = 21) : ∀ k, va_up (cX G ad S E) (100 + n) (some (eR ad (setA S a n v) n)) k = cX G ad (setA S a n v) E k := by
  intro k
  have hd : ∀ b, b ≠ a → ar (setA S a n v) b = ar S b := fun b h => ar_diff S a n v h
  by_cases hk : k = 100 + n
  · subst hk; rw [va_up_self]; exact (cX_R (S := setA S a n v) hn).symm
  · rw [va_up_ne _ _ hk]
    refine (cX_congr (S := S) (S' := setA S a n v) (E := E) (E' := E) rfl rfl k (fun _ => cX0_congr (S := S) (S' := setA S a n v) (E := E) (E' := E) rfl rfl rfl (hd 10 (by omega)) (hd 11 (by omega)) (hd 22 (by omega)) rfl rfl k) (fun j hj e => ?_) (fun j hj e => ?_) (fun q hq e => ?_)).symm
    · simp only [eT, hd 0 (by omega), hd 1 (by omega), hd 2 (by omega), hd 3 (by omega), hd 4 (by omega), hd 5 (by omega), hd 6 (by omega), hd 7 (by omega), hd 8 (by omega)]
    · exact fD_c (fun _ _ => by rw [hd 9 (by omega)])
    · have hqn : q ≠ n := by omega
      simp only [eR, ar_off S a n v _ hqn]
theorem cX_setD' (i j : Nat) (v : Int32) (hi : i < nt S) (h40 : nt S ≤ 40) (hj : j < 3) : ∀ k, va_up (cX G ad S E) (11 + 2 * i) (some (.inl (gI G, 3, .inl (upd (fD S i) j v)))) k = cX G ad (setA S 9 (3 * i + j) v) E k := by
  intro k
  have hd : ∀ b, b ≠ 9 → ar (setA S 9 (3 * i + j) v) b = ar S b := fun b h => ar_diff S 9 _ v h
  by_cases hk : k = 11 + 2 * i
  · subst hk; rw [va_up_self]
    refine (Eq.trans (cX_D (S := setA S 9 (3 * i + j) v) hi h40) ?_).symm
    have : fD (setA S 9 (3 * i + j) v) i = upd (fD S i) j v := by
      funext q
      show (if q < 3 then ar (setA S 9 (3 * i + j) v) 9 (3 * i + q) else 0) = if q = j then v else if q < 3 then ar S 9 (3 * i + q) else 0
      by_cases hq : q = j
      · subst hq; rw [if_pos hj, if_pos rfl, ar_same]
      · rw [if_neg hq]
        by_cases h3 : q < 3
        · rw [if_pos h3, if_pos h3, ar_off S 9 _ v 9 (show 3 * i + q ≠ 3 * i + j by omega)]
        · rw [if_neg h3, if_neg h3]
    rw [this]
  · rw [va_up_ne _ _ hk]
    refine (cX_congr (S := S) (S' := setA S 9 (3 * i + j) v) (E := E) (E' := E) rfl rfl k (fun _ => cX0_congr (S := S) (S' := setA S 9 (3 * i + j) v) (E := E) (E' := E) rfl rfl rfl (hd 10 (by omega)) (hd 11 (by omega)) (hd 22 (by omega)) rfl rfl k) (fun q hq e => ?_) (fun q hq e => ?_) (fun q hq e => ?_)).symm
    · simp only [eT, hd 0 (by omega), hd 1 (by omega), hd 2 (by omega), hd 3 (by omega), hd 4 (by omega), hd 5 (by omega), hd 6 (by omega), hd 7 (by omega), hd 8 (by omega)]
    · have hqi : q ≠ i := by omega
      exact fD_c (fun u hu => ar_off S 9 _ v 9 (show 3 * q + u ≠ 3 * i + j by omega))
    · simp only [eR, hd 13 (by omega), hd 14 (by omega), hd 15 (by omega), hd 16 (by omega), hd 17 (by omega), hd 18 (by omega), hd 19 (by omega), hd 20 (by omega), hd 21 (by omega)]
/-- a cell below 10 changes: nothing else does -/
theorem cX_low (k0 : Nat) (hk0 : k0 < 10) {e : va_E} (he : cX0 G ad S' E' k0 = some e) (hnt : nt S' = nt S) (hnr : nr S' = nr S) (ho : ∀ k, k ≠ k0 → cX0 G ad S' E' k = cX0 G ad S E k) (ha : ∀ b, b ≠ 10 → b ≠ 11 → b ≠ 22 → ar S' b = ar S b) : ∀ k, va_up (cX G ad S E) k0 (some e) k = cX G ad S' E' k := by
  intro k
  by_cases hk : k = k0
  · subst hk; rw [va_up_self]; exact (cX_lo k hk0 he).symm
  · rw [va_up_ne _ _ hk]
    refine (cX_congr hnt hnr k (fun _ => ho k hk) (fun q hq e => ?_) (fun q hq e => ?_) (fun q hq e => ?_)).symm
    · simp only [eT, ha 0 (by decide) (by decide) (by decide), ha 1 (by decide) (by decide) (by decide), ha 2 (by decide) (by decide) (by decide), ha 3 (by decide) (by decide) (by decide), ha 4 (by decide) (by decide) (by decide), ha 5 (by decide) (by decide) (by decide), ha 6 (by decide) (by decide) (by decide), ha 7 (by decide) (by decide) (by decide), ha 8 (by decide) (by decide) (by decide)]
    · exact fD_c (fun _ _ => by rw [ha 9 (by decide) (by decide) (by decide)])
    · simp only [eR, ha 13 (by decide) (by decide) (by decide), ha 14 (by decide) (by decide) (by decide), ha 15 (by decide) (by decide) (by decide), ha 16 (by decide) (by decide) (by decide), ha 17 (by decide) (by decide) (by decide), ha 18 (by decide) (by decide) (by decide), ha 19 (by decide) (by decide) (by decide), ha 20 (by decide) (by decide) (by decide), ha 21 (by decide) (by decide) (by decide)]
theorem cX0_ne (k0 : Nat) (h : ∀ k, k ≠ k0 → k < 10 → cX0 G ad S' E' k = cX0 G ad S E k) : ∀ k, k ≠ k0 → cX0 G ad S' E' k = cX0 G ad S E k := by
  intro k hk
  by_cases h10 : k < 10
  · exact h k hk h10
  · match k, h10 with
    | k + 10, _ => rfl
    | 0, h | 1, h | 2, h | 3, h | 4, h | 5, h | 6, h | 7, h | 8, h | 9, h => exact absurd (by decide) h
theorem cX_setS0 (v : Int32) : ∀ k, va_up (cX G ad S E) 0 (some (eX ad (setS S 0 v))) k = cX G ad (setS S 0 v) E k := cX_low 0 (by decide) rfl rfl rfl (fun k hk => by
  match k, hk with
  | 0, h => exact absurd rfl h
  | 1, _ | 2, _ | 3, _ | 4, _ | 5, _ | 6, _ | 7, _ | 8, _ | 9, _ => rfl
  | k + 10, _ => rfl) (fun b _ _ _ => rfl)
theorem cX_setS1 (v : Int32) : ∀ k, va_up (cX G ad S E) 0 (some (eX ad (setS S 1 v))) k = cX G ad (setS S 1 v) E k := cX_low 0 (by decide) rfl rfl rfl (fun k hk => by
  match k, hk with
  | 0, h => exact absurd rfl h
  | 1, _ | 2, _ | 3, _ | 4, _ | 5, _ | 6, _ | 7, _ | 8, _ | 9, _ => rfl
  | k + 10, _ => rfl) (fun b _ _ _ => rfl)
theorem fA_upd {S : St} {a j : Nat} {v : Int32} (hj : 1 ≤ j) : fA (setA S a j v) a = upd (fA S a) j v := by
  funext q
  show (if q = 0 then 0 else ar (setA S a j v) a q) = if q = j then v else if q = 0 then 0 else ar S a q
  by_cases h : q = j
  · subst h; rw [if_neg (by omega), if_pos rfl, ar_same]
  · rw [if_neg h]
    by_cases h0 : q = 0
    · rw [if_pos h0, if_pos h0]
    · rw [if_neg h0, if_neg h0, ar_off S a j v a h]
theorem cX_setN (j : Nat) (v : Int32) (hj : 1 ≤ j) : ∀ k, va_up (cX G ad S E) 3 (some (.inl (gI G, 4, .inl (upd (fA S 10) j v)))) k = cX G ad (setA S 10 j v) E k := by
  have hd : ∀ b, b ≠ 10 → ar (setA S 10 j v) b = ar S b := fun b h => ar_diff S 10 j v h
  refine cX_low 3 (by decide) (by rw [← fA_upd hj]; rfl) rfl rfl (fun k hk => ?_) (fun b h _ _ => hd b h)
  match k, hk with
  | 3, h => exact absurd rfl h
  | 0, _ | 1, _ | 2, _ => rfl
  | 4, _ => show some (Sum.inl (gI G, 4, Sum.inl (fA (setA S 10 j v) 11))) = some (Sum.inl (gI G, 4, Sum.inl (fA S 11))); rw [fA_c (hd 11 (by decide))]
  | 5, _ => show some (Sum.inl (gI G, 10, Sum.inl (ar (setA S 10 j v) 22))) = some (Sum.inl (gI G, 10, Sum.inl (ar S 22))); rw [hd 22 (by decide)]
  | 6, _ | 7, _ | 8, _ | 9, _ => rfl
  | k + 10, _ => rfl
theorem cX_setU (j : Nat) (v : Int32) (hj : 1 ≤ j) : ∀ k, va_up (cX G ad S E) 4 (some (.inl (gI G, 4, .inl (upd (fA S 11) j v)))) k = cX G ad (setA S 11 j v) E k := by
  have hd : ∀ b, b ≠ 11 → ar (setA S 11 j v) b = ar S b := fun b h => ar_diff S 11 j v h
  refine cX_low 4 (by decide) (by rw [← fA_upd hj]; rfl) rfl rfl (fun k hk => ?_) (fun b _ h _ => hd b h)
  match k, hk with
  | 4, h => exact absurd rfl h
  | 0, _ | 1, _ | 2, _ => rfl
  | 3, _ => show some (Sum.inl (gI G, 4, Sum.inl (fA (setA S 11 j v) 10))) = some (Sum.inl (gI G, 4, Sum.inl (fA S 10))); rw [fA_c (hd 10 (by decide))]
  | 5, _ => show some (Sum.inl (gI G, 10, Sum.inl (ar (setA S 11 j v) 22))) = some (Sum.inl (gI G, 10, Sum.inl (ar S 22))); rw [hd 22 (by decide)]
  | 6, _ | 7, _ | 8, _ | 9, _ => rfl
  | k + 10, _ => rfl
theorem cX_setC (j : Nat) (v : Int32) : ∀ k, va_up (cX G ad S E) 5 (some (.inl (gI G, 10, .inl (upd (ar S 22) j v)))) k = cX G ad (setA S 22 j v) E k := by
  have hd : ∀ b, b ≠ 22 → ar (setA S 22 j v) b = ar S b := fun b h => ar_diff S 22 j v h
  refine cX_low 5 (by decide) (by rw [← ar_upd]; rfl) rfl rfl (fun k hk => ?_) (fun b _ _ h => hd b h)
  match k, hk with
  | 5, h => exact absurd rfl h
  | 0, _ | 1, _ | 2, _ => rfl
  | 3, _ => show some (Sum.inl (gI G, 4, Sum.inl (fA (setA S 22 j v) 10))) = some (Sum.inl (gI G, 4, Sum.inl (fA S 10))); rw [fA_c (hd 10 (by decide))]
  | 4, _ => show some (Sum.inl (gI G, 4, Sum.inl (fA (setA S 22 j v) 11))) = some (Sum.inl (gI G, 4, Sum.inl (fA S 11))); rw [fA_c (hd 11 (by decide))]
  | 6, _ | 7, _ | 8, _ | 9, _ => rfl
  | k + 10, _ => rfl
theorem cX_setO (j : Nat) (v : Int64) : ∀ k, va_up (cX G ad S E) 6 (some (.inl (gJ G, 10, .inr (.inl (vp_updL (os S) j v))))) k = cX G ad (setL S j v) E k := by
  refine cX_low 6 (by decide) rfl rfl rfl (fun k hk => ?_) (fun b _ _ h => rfl)
  match k, hk with
  | 6, h => exact absurd rfl h
  | 0, _ | 1, _ | 2, _ | 3, _ | 4, _ | 5, _ => rfl
  | 7, _ | 8, _ | 9, _ => rfl
  | k + 10, _ => rfl
theorem cX_setE1 (f : Nat → Int32) : ∀ k, va_up (cX G ad S E) 7 (some (.inl (gI G, 313, .inl f))) k = cX G ad S (f, E.2) k := by
  refine cX_low 7 (by decide) rfl rfl rfl (fun k hk => ?_) (fun b _ _ h => rfl)
  match k, hk with
  | 7, h => exact absurd rfl h
  | 0, _ | 1, _ | 2, _ | 3, _ | 4, _ | 5, _ | 6, _ => rfl
  | 8, _ | 9, _ => rfl
  | k + 10, _ => rfl
theorem cX_setE2 (f : Nat → Int32) : ∀ k, va_up (cX G ad S E) 8 (some (.inl (gI G, 40, .inl f))) k = cX G ad S (E.1, f, E.2.2) k := by
  refine cX_low 8 (by decide) rfl rfl rfl (fun k hk => ?_) (fun b _ _ h => rfl)
  match k, hk with
  | 8, h => exact absurd rfl h
  | 0, _ | 1, _ | 2, _ | 3, _ | 4, _ | 5, _ | 6, _ | 7, _ => rfl
  | 9, _ => rfl
  | k + 10, _ => rfl
theorem cX_setE3 (f : Nat → Int64) : ∀ k, va_up (cX G ad S E) 9 (some (.inl (gJ G, 40, .inr (.inl f)))) k = cX G ad S (E.1, E.2.1, f) k := by
  refine cX_low 9 (by decide) rfl rfl rfl (fun k hk => ?_) (fun b _ _ h => rfl)
  match k, hk with
  | 9, h => exact absurd rfl h
  | 0, _ | 1, _ | 2, _ | 3, _ | 4, _ | 5, _ | 6, _ | 7, _ | 8, _ => rfl
  | k + 10, _ => rfl
end XC
section XW
variable {p : Program} {l : Launch} {e : Env} {R : Room} {s : State} {m : MethodId} {args : Array Value} {below : List Frame} {meth : Method} {c : Code} {H H0 : Heap} {locs : List Loc} {cells slots : Nat} {Q : State → Prop}
variable {cc : ByteArray} {pc nL idx : Nat} {ls : Array Slot} {rest : List Value} {own : String} {G : GG} {A : Nat → Prop} {ad : Nat → Nat} {S : St} {E : Ex}
abbrev lT (ad : Nat → Nat) (S : St) (i : Nat) : List Value := [.int (ar S 0 i), .int (ar S 1 i), .int (ar S 2 i), .ref (ad (11 + 2 * i)), .int (ar S 3 i), .int (ar S 8 i), .int (ar S 4 i), .int (ar S 7 i), .int (ar S 6 i), rT ad (ar S 5 i)]
theorem xT_put {i : Nat} {v : Int32} (cx : Cx p s m args c cc nL own G) (hP : pw G A ad (cX G ad S E) H) (hS : va_S A H0 H locs) (hi : i < nt S) (h40 : nt S ≤ 40) (k a : Nat) (hk : k < 10) (ha : (k = 4 ∧ a = 3) ∨ (k = 5 ∧ a = 8) ∨ (k = 6 ∧ a = 4) ∨ (k = 7 ∧ a = 7) ∨ (k = 8 ∧ a = 6)) (lk : (.fieldLink own idx (TX0 k).1 (TX0 k).2.1 (TX0 k).2.2.1 : Cond) ∈ lw_use) (hdg : decode cc pc = .ok (.putfield idx, 3))
    (kk : ∀ (H1 : Heap) (locs1 : List Loc), pw G A ad (cX G ad (setA S a i v) E) H1 → va_S A H0 H1 locs1 → W p l e R s m args below meth c H1 locs1 cells slots Q (F0 m (pc + 3) ls rest)) : W p l e R s m args below meth c H locs cells slots Q (F0 m pc ls (.int v :: .ref (ad (10 + 2 * i)) :: rest)) := by
  have he : (Sum.inr (0, (lT ad S i).set k (.int v)) : va_E) = eT ad (setA S a i v) i := by
    rcases ha with ⟨rfl, rfl⟩ | ⟨rfl, rfl⟩ | ⟨rfl, rfl⟩ | ⟨rfl, rfl⟩ | ⟨rfl, rfl⟩ <;> simp [eT, ar_setA]
  refine w_put cx (ci := 0) rfl iX0 tyX0_ok nmX0 hP hS (cX_T hi h40) k hk lk (by rcases ha with ⟨rfl, rfl⟩ | ⟨rfl, rfl⟩ | ⟨rfl, rfl⟩ | ⟨rfl, rfl⟩ | ⟨rfl, rfl⟩ <;> rfl) (show tyX0 k = .int by rcases ha with ⟨rfl, rfl⟩ | ⟨rfl, rfl⟩ | ⟨rfl, rfl⟩ | ⟨rfl, rfl⟩ | ⟨rfl, rfl⟩ <;> rfl) rfl rfl hk hdg (fun H1 locs1 h1 h2 => kk H1 locs1 (h1.eq (fun j => ?_)) h2)
  rw [he]
  exact cX_setT' i a v hi h40 (by omega) j
theorem xT_lat {i n : Nat} (cx : Cx p s m args c cc nL own G) (hP : pw G A ad (cX G ad S E) H) (hS : va_S A H0 H locs) (hi : i < nt S) (h40 : nt S ≤ 40) (hn : n < 1000) (lk : (.fieldLink own idx (TX0 9).1 (TX0 9).2.1 (TX0 9).2.2.1 : Cond) ∈ lw_use) (hdg : decode cc pc = .ok (.putfield idx, 3))
    (kk : ∀ (H1 : Heap) (locs1 : List Loc), pw G A ad (cX G ad (setA S 5 i (nI n)) E) H1 → va_S A H0 H1 locs1 → W p l e R s m args below meth c H1 locs1 cells slots Q (F0 m (pc + 3) ls rest)) : W p l e R s m args below meth c H locs cells slots Q (F0 m pc ls (.ref (ad (100 + n)) :: .ref (ad (10 + 2 * i)) :: rest)) := by
  have hr : rT ad (nI n) = .ref (ad (100 + n)) := by
    rw [rT_ref]
    · unfold ix; rw [nI_clamp (by omega)]
    · intro h
      have h2 := congrArg Int32.toInt h
      rw [nI_toInt (by omega)] at h2
      have h3 : (-1000000 : Int32).toInt = -1000000 := by decide
      omega
  have he : (Sum.inr (0, (lT ad S i).set 9 (.ref (ad (100 + n)))) : va_E) = eT ad (setA S 5 i (nI n)) i := by
    simp [eT, ar_setA, hr]
  refine w_put cx (ci := 0) rfl iX0 tyX0_ok nmX0 hP hS (cX_T hi h40) 9 (by decide) lk rfl rfl rfl rfl (show 9 < 10 by decide) hdg (fun H1 locs1 h1 h2 => kk H1 locs1 (h1.eq (fun j => ?_)) h2)
  rw [he]
  exact cX_setT' i 5 (nI n) hi h40 (by omega) j
abbrev lR (ad : Nat → Nat) (S : St) (n : Nat) : List Value := [.int (nI n), .int (ar S 13 n), .int (ar S 14 n), rT ad (ar S 20 n), .int (ar S 15 n), .int (ar S 16 n), .int (ar S 17 n), .int (ar S 18 n), .int (ar S 19 n), .int (ar S 21 n)]
theorem xR_put {n : Nat} {v : Int32} (cx : Cx p s m args c cc nL own G) (hP : pw G A ad (cX G ad S E) H) (hS : va_S A H0 H locs) (hn : n < nr S) (k a : Nat) (hk : k < 10) (ha : (k = 7 ∧ a = 18) ∨ (k = 8 ∧ a = 19) ∨ (k = 9 ∧ a = 21)) (hv : v = 0 ∨ v = 1) (lk : (.fieldLink own idx (TX1 k).1 (TX1 k).2.1 (TX1 k).2.2.1 : Cond) ∈ lw_use) (hdg : decode cc pc = .ok (.putfield idx, 3))
    (kk : ∀ (H1 : Heap) (locs1 : List Loc), pw G A ad (cX G ad (setA S a n v) E) H1 → va_S A H0 H1 locs1 → W p l e R s m args below meth c H1 locs1 cells slots Q (F0 m (pc + 3) ls rest)) : W p l e R s m args below meth c H locs cells slots Q (F0 m pc ls (.int v :: .ref (ad (100 + n)) :: rest)) := by
  have he : (Sum.inr (1, (lR ad S n).set k (.int v)) : va_E) = eR ad (setA S a n v) n := by
    rcases ha with ⟨rfl, rfl⟩ | ⟨rfl, rfl⟩ | ⟨rfl, rfl⟩ <;> simp [eR, ar_setA]
  refine w_put cx (ci := 1) rfl iX1 tyX1_ok nmX1 hP hS (cX_R hn) k hk lk (by rcases ha with ⟨rfl, rfl⟩ | ⟨rfl, rfl⟩ | ⟨rfl, rfl⟩ <;> rfl) (show tyX1 k = .boolean by rcases ha with ⟨rfl, rfl⟩ | ⟨rfl, rfl⟩ | ⟨rfl, rfl⟩ <;> rfl) (by rcases hv with rfl | rfl <;> rfl) (by rcases hv with rfl | rfl <;> rfl) hk hdg (fun H1 locs1 h1 h2 => kk H1 locs1 (h1.eq (fun j => ?_)) h2)
  rw [he]
  exact cX_setR' n a v hn (by omega) j
theorem xX_put {v : Int32} (cx : Cx p s m args c cc nL own G) (hP : pw G A ad (cX G ad S E) H) (hS : va_S A H0 H locs) (k a : Nat) (hk : k < 13) (ha : (k = 9 ∧ a = 0) ∨ (k = 12 ∧ a = 1)) (lk : (.fieldLink own idx (TX2 k).1 (TX2 k).2.1 (TX2 k).2.2.1 : Cond) ∈ lw_use) (hdg : decode cc pc = .ok (.putfield idx, 3))
    (kk : ∀ (H1 : Heap) (locs1 : List Loc), pw G A ad (cX G ad (setS S a v) E) H1 → va_S A H0 H1 locs1 → W p l e R s m args below meth c H1 locs1 cells slots Q (F0 m (pc + 3) ls rest)) : W p l e R s m args below meth c H locs cells slots Q (F0 m pc ls (.int v :: .ref (ad 0) :: rest)) := by
  rcases ha with ⟨rfl, rfl⟩ | ⟨rfl, rfl⟩
  · exact w_put cx (ci := 2) rfl iX2 tyX2_ok nmX2 hP hS (cX_lo 0 (by decide) rfl) 9 (by decide) lk rfl rfl rfl rfl (Nat.lt_of_lt_of_eq (show 9 < 13 by decide) rfl) hdg (fun H1 locs1 h1 h2 => kk H1 locs1 (h1.eq (cX_setS0 v)) h2)
  · exact w_put cx (ci := 2) rfl iX2 tyX2_ok nmX2 hP hS (cX_lo 0 (by decide) rfl) 12 (by decide) lk rfl rfl rfl rfl (Nat.lt_of_lt_of_eq (show 12 < 13 by decide) rfl) hdg (fun H1 locs1 h1 h2 => kk H1 locs1 (h1.eq (cX_setS1 v)) h2)
theorem xD_ast {i : Nat} {x v : Int32} (cx : Cx p s m args c cc nL own G) (hP : pw G A ad (cX G ad S E) H) (hS : va_S A H0 H locs) (hi : i < nt S) (h40 : nt S ≤ 40) (j : Nat) (hx : x = nI j) (hj : j < 3) (hdg : decode cc pc = .ok (.iastore, 1))
    (kk : ∀ (H1 : Heap) (locs1 : List Loc), pw G A ad (cX G ad (setA S 9 (3 * i + j) v) E) H1 → va_S A H0 H1 locs1 → W p l e R s m args below meth c H1 locs1 cells slots Q (F0 m (pc + 1) ls rest)) : W p l e R s m args below meth c H locs cells slots Q (F0 m pc ls (.int v :: .int x :: .ref (ad (11 + 2 * i)) :: rest)) :=
  w_iast cx hP hS (cX_D hi h40) j hx hj (by decide) hdg (fun H1 locs1 h1 h2 => kk H1 locs1 (h1.eq (cX_setD' i j v hi h40 hj)) h2)
theorem xN_ast {x v : Int32} (cx : Cx p s m args c cc nL own G) (hP : pw G A ad (cX G ad S E) H) (hS : va_S A H0 H locs) (j : Nat) (hx : x = nI j) (hj : j < 4) (h1 : 1 ≤ j) (hdg : decode cc pc = .ok (.iastore, 1))
    (kk : ∀ (H1 : Heap) (locs1 : List Loc), pw G A ad (cX G ad (setA S 10 j v) E) H1 → va_S A H0 H1 locs1 → W p l e R s m args below meth c H1 locs1 cells slots Q (F0 m (pc + 1) ls rest)) : W p l e R s m args below meth c H locs cells slots Q (F0 m pc ls (.int v :: .int x :: .ref (ad 3) :: rest)) :=
  w_iast cx hP hS (cX_lo 3 (by decide) rfl) j hx hj (by decide) hdg (fun H1 locs1 g1 g2 => kk H1 locs1 (g1.eq (cX_setN j v h1)) g2)
theorem xU_ast {x v : Int32} (cx : Cx p s m args c cc nL own G) (hP : pw G A ad (cX G ad S E) H) (hS : va_S A H0 H locs) (j : Nat) (hx : x = nI j) (hj : j < 4) (h1 : 1 ≤ j) (hdg : decode cc pc = .ok (.iastore, 1))
    (kk : ∀ (H1 : Heap) (locs1 : List Loc), pw G A ad (cX G ad (setA S 11 j v) E) H1 → va_S A H0 H1 locs1 → W p l e R s m args below meth c H1 locs1 cells slots Q (F0 m (pc + 1) ls rest)) : W p l e R s m args below meth c H locs cells slots Q (F0 m pc ls (.int v :: .int x :: .ref (ad 4) :: rest)) :=
  w_iast cx hP hS (cX_lo 4 (by decide) rfl) j hx hj (by decide) hdg (fun H1 locs1 g1 g2 => kk H1 locs1 (g1.eq (cX_setU j v h1)) g2)
theorem xC_ast {x v : Int32} (cx : Cx p s m args c cc nL own G) (hP : pw G A ad (cX G ad S E) H) (hS : va_S A H0 H locs) (j : Nat) (hx : x = nI j) (hj : j < 10) (hdg : decode cc pc = .ok (.iastore, 1))
    (kk : ∀ (H1 : Heap) (locs1 : List Loc), pw G A ad (cX G ad (setA S 22 j v) E) H1 → va_S A H0 H1 locs1 → W p l e R s m args below meth c H1 locs1 cells slots Q (F0 m (pc + 1) ls rest)) : W p l e R s m args below meth c H locs cells slots Q (F0 m pc ls (.int v :: .int x :: .ref (ad 5) :: rest)) :=
  w_iast cx hP hS (cX_lo 5 (by decide) rfl) j hx hj (by decide) hdg (fun H1 locs1 g1 g2 => kk H1 locs1 (g1.eq (cX_setC j v)) g2)
theorem xO_ast {x : Int32} {v : Int64} (cx : Cx p s m args c cc nL own G) (hP : pw G A ad (cX G ad S E) H) (hS : va_S A H0 H locs) (j : Nat) (hx : x = nI j) (hj : j < 10) (hdg : decode cc pc = .ok (.lastore, 1))
    (kk : ∀ (H1 : Heap) (locs1 : List Loc), pw G A ad (cX G ad (setL S j v) E) H1 → va_S A H0 H1 locs1 → W p l e R s m args below meth c H1 locs1 cells slots Q (F0 m (pc + 1) ls rest)) : W p l e R s m args below meth c H locs cells slots Q (F0 m pc ls (.long v :: .int x :: .ref (ad 6) :: rest)) :=
  w_last cx hP hS (cX_lo 6 (by decide) rfl) j hx hj (by decide) hdg (fun H1 locs1 g1 g2 => kk H1 locs1 (g1.eq (cX_setO j v)) g2)
theorem xE1_ast {x v : Int32} (cx : Cx p s m args c cc nL own G) (hP : pw G A ad (cX G ad S E) H) (hS : va_S A H0 H locs) (j : Nat) (hx : x = nI j) (hj : j < 313) (hdg : decode cc pc = .ok (.iastore, 1))
    (kk : ∀ (H1 : Heap) (locs1 : List Loc), pw G A ad (cX G ad S (upd E.1 j v, E.2)) H1 → va_S A H0 H1 locs1 → W p l e R s m args below meth c H1 locs1 cells slots Q (F0 m (pc + 1) ls rest)) : W p l e R s m args below meth c H locs cells slots Q (F0 m pc ls (.int v :: .int x :: .ref (ad 7) :: rest)) :=
  w_iast cx hP hS (cX_lo 7 (by decide) rfl) j hx hj (by decide) hdg (fun H1 locs1 g1 g2 => kk H1 locs1 (g1.eq (cX_setE1 _)) g2)
theorem xE2_ast {x v : Int32} (cx : Cx p s m args c cc nL own G) (hP : pw G A ad (cX G ad S E) H) (hS : va_S A H0 H locs) (j : Nat) (hx : x = nI j) (hj : j < 40) (hdg : decode cc pc = .ok (.iastore, 1))
    (kk : ∀ (H1 : Heap) (locs1 : List Loc), pw G A ad (cX G ad S (E.1, upd E.2.1 j v, E.2.2)) H1 → va_S A H0 H1 locs1 → W p l e R s m args below meth c H1 locs1 cells slots Q (F0 m (pc + 1) ls rest)) : W p l e R s m args below meth c H locs cells slots Q (F0 m pc ls (.int v :: .int x :: .ref (ad 8) :: rest)) :=
  w_iast cx hP hS (cX_lo 8 (by decide) rfl) j hx hj (by decide) hdg (fun H1 locs1 g1 g2 => kk H1 locs1 (g1.eq (cX_setE2 _)) g2)
theorem xE3_ast {x : Int32} {v : Int64} (cx : Cx p s m args c cc nL own G) (hP : pw G A ad (cX G ad S E) H) (hS : va_S A H0 H locs) (j : Nat) (hx : x = nI j) (hj : j < 40) (hdg : decode cc pc = .ok (.lastore, 1))
    (kk : ∀ (H1 : Heap) (locs1 : List Loc), pw G A ad (cX G ad S (E.1, E.2.1, vp_updL E.2.2 j v)) H1 → va_S A H0 H1 locs1 → W p l e R s m args below meth c H1 locs1 cells slots Q (F0 m (pc + 1) ls rest)) : W p l e R s m args below meth c H locs cells slots Q (F0 m pc ls (.long v :: .int x :: .ref (ad 9) :: rest)) :=
  w_last cx hP hS (cX_lo 9 (by decide) rfl) j hx hj (by decide) hdg (fun H1 locs1 g1 g2 => kk H1 locs1 (g1.eq (cX_setE3 _)) g2)
end XW
