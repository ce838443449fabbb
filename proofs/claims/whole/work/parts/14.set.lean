-- setters of the abstract state
def setS (S : St) (k : Nat) (v : Int32) : St := (S.1, S.2.1, upd S.2.2.1 k v, S.2.2.2.1, S.2.2.2.2)
def setA (S : St) (k i : Nat) (v : Int32) : St := (S.1, S.2.1, S.2.2.1, (fun a j => if a = k then upd (S.2.2.2.1 k) i v j else S.2.2.2.1 a j), S.2.2.2.2)
def setL (S : St) (i : Nat) (v : Int64) : St := (S.1, S.2.1, S.2.2.1, S.2.2.2.1, vp_updL S.2.2.2.2 i v)
def setT (S : St) (n : Nat) : St := (n, S.2.1, S.2.2.1, S.2.2.2.1, S.2.2.2.2)
def setR (S : St) (n : Nat) : St := (S.1, n, S.2.2.1, S.2.2.2.1, S.2.2.2.2)
theorem ar_setA (S : St) (k i : Nat) (v : Int32) (a j : Nat) : ar (setA S k i v) a j = if a = k then (if j = i then v else ar S a j) else ar S a j := by
  show (if a = k then upd (S.2.2.2.1 k) i v j else S.2.2.2.1 a j) = _
  by_cases h : a = k
  · subst h; rw [if_pos rfl, if_pos rfl]; rfl
  · rw [if_neg h, if_neg h]; rfl
theorem ar_same (S : St) (k i : Nat) (v : Int32) : ar (setA S k i v) k i = v := by rw [ar_setA, if_pos rfl, if_pos rfl]
theorem ar_diff (S : St) (k i : Nat) (v : Int32) {a : Nat} (h : a ≠ k) : ar (setA S k i v) a = ar S a := by funext j; rw [ar_setA, if_neg h]
theorem ar_upd (S : St) (k i : Nat) (v : Int32) : ar (setA S k i v) k = upd (ar S k) i v := by funext j; rw [ar_setA, if_pos rfl]; rfl
theorem WF.setA {S : St} (h : WF S) {k : Nat} (i : Nat) (v : Int32) (h0 : k ≠ 0) (h3 : k ≠ 3) (h5 : k ≠ 5) (h8 : k ≠ 8) : WF (setA S k i v) := by
  obtain ⟨a1, a2, a3, a5, a6, a7⟩ := h
  refine ⟨a1, a2, fun j hj hn => ?_, fun j hj => ?_, fun j hj => ?_, fun j hj => ?_⟩
  · rw [ar_diff S k i v (Ne.symm h5)] at hn ⊢; exact a3 j hj hn
  · rw [ar_diff S k i v (Ne.symm h0)]; exact a5 j hj
  · rw [ar_diff S k i v (Ne.symm h3)]; exact a6 j hj
  · rw [ar_diff S k i v (Ne.symm h8)]; exact a7 j hj
theorem WF.inc {S : St} (h : WF S) (hn : nr S < 300) : WF (setR S (nr S + 1)) := by
  obtain ⟨a1, a2, a3, a5, a6, a7⟩ := h
  exact ⟨a1, hn, fun j hj hx => ⟨(a3 j hj hx).1, Nat.lt_succ_of_lt (a3 j hj hx).2⟩, a5, a6, a7⟩
theorem WB.setA {S : St} (h : WB S) {k : Nat} (i : Nat) (v : Int32) (h20 : k ≠ 20) : WB (setA S k i v) := fun n hn hx => by
  rw [ar_diff S k i v (Ne.symm h20)] at hx ⊢; exact h n hn hx
theorem WF.same {S S' : St} (h : WF S) (h1 : nt S' = nt S) (h2 : nr S' = nr S) (h0 : ar S' 0 = ar S 0) (h3 : ar S' 3 = ar S 3) (h5 : ar S' 5 = ar S 5) (h8 : ar S' 8 = ar S 8) : WF S' := by
  unfold WF at *
  rw [h1, h2, h0, h3, h5, h8]; exact h
section MS
variable {p : Program} {l : Launch} {e : Env} {R : Room} {s : State} {m : MethodId} {args : Array Value} {below : List Frame} {meth : Method} {c : Code} {H H0 : Heap} {locs : List Loc} {cells slots : Nat} {Q : State → Prop}
variable {cc : ByteArray} {pc nL idx : Nat} {ls : Array Slot} {rest : List Value} {own : String} {G : GG} {A : Nat → Prop} {ad : Nat → Nat} {S : St}
theorem cM_setA (k j : Nat) (hk : k < 23) {n : Nat} {cl : ClassId} (hn : mlen k = n) (hc : mcls G k = cl) (v : Int32) : ∀ i, va_up (cM G ad S) (k + 1) (some (.inl (cl, n, .inl (upd (ar S k) j v)))) i = cM G ad (setA S k j v) i := by
  intro i
  by_cases hi : i = k + 1
  · subst hi
    rw [va_up_self, cM_A k hk hn hc, ar_upd]
  · rw [va_up_ne _ _ hi]
    unfold cM
    by_cases h0 : i = 0
    · rw [if_pos h0, if_pos h0]; rfl
    · rw [if_neg h0, if_neg h0, ar_diff S k j v (show i - 1 ≠ k by omega)]; rfl
theorem m_iast {n : Nat} {x v : Int32} (cx : Cx p s m args c cc nL own G) (hP : pw G A ad (cM G ad S) H) (hS : va_S A H0 H locs) (k : Nat) (hk : k < 23) (hm : mlen k = n) (hc : mcls G k = gI G) (j : Nat) (hx : x = nI j) (hj : j < n) (hn : n < 2 ^ 31) (hdg : decode cc pc = .ok (.iastore, 1))
    (kk : ∀ (H1 : Heap) (locs1 : List Loc), pw G A ad (cM G ad (setA S k j v)) H1 → va_S A H0 H1 locs1 → W p l e R s m args below meth c H1 locs1 cells slots Q (F0 m (pc + 1) ls rest)) : W p l e R s m args below meth c H locs cells slots Q (F0 m pc ls (.int v :: .int x :: .ref (ad (k + 1)) :: rest)) :=
  w_iast cx hP hS (cM_A k hk hm hc) j hx hj hn hdg (fun H1 locs1 h1 h2 => kk H1 locs1 (h1.eq (cM_setA k j hk hm hc v)) h2)
theorem m_zast {n : Nat} {x v : Int32} (cx : Cx p s m args c cc nL own G) (hP : pw G A ad (cM G ad S) H) (hS : va_S A H0 H locs) (k : Nat) (hk : k < 23) (hm : mlen k = n) (hc : mcls G k = gZ G) (j : Nat) (hx : x = nI j) (hj : j < n) (hn : n < 2 ^ 31) (hv : v = 0 ∨ v = 1) (hdg : decode cc pc = .ok (.bastore, 1))
    (kk : ∀ (H1 : Heap) (locs1 : List Loc), pw G A ad (cM G ad (setA S k j v)) H1 → va_S A H0 H1 locs1 → W p l e R s m args below meth c H1 locs1 cells slots Q (F0 m (pc + 1) ls rest)) : W p l e R s m args below meth c H locs cells slots Q (F0 m pc ls (.int v :: .int x :: .ref (ad (k + 1)) :: rest)) :=
  w_zast cx hP hS (cM_A k hk hm hc) j hx hj hn hv hdg (fun H1 locs1 h1 h2 => kk H1 locs1 (h1.eq (cM_setA k j hk hm hc v)) h2)
theorem m_last {x : Int32} {v : Int64} (cx : Cx p s m args c cc nL own G) (hP : pw G A ad (cM G ad S) H) (hS : va_S A H0 H locs) (j : Nat) (hx : x = nI j) (hj : j < 10) (hdg : decode cc pc = .ok (.lastore, 1))
    (kk : ∀ (H1 : Heap) (locs1 : List Loc), pw G A ad (cM G ad (setL S j v)) H1 → va_S A H0 H1 locs1 → W p l e R s m args below meth c H1 locs1 cells slots Q (F0 m (pc + 1) ls rest)) : W p l e R s m args below meth c H locs cells slots Q (F0 m pc ls (.long v :: .int x :: .ref (ad 24) :: rest)) := by
  refine w_last cx hP hS cM_L j hx hj (by decide) hdg (fun H1 locs1 h1 h2 => kk H1 locs1 (h1.eq (fun i => ?_)) h2)
  by_cases hi : i = 24
  · subst hi; rw [va_up_self]; rfl
  · rw [va_up_ne _ _ hi]
    unfold cM
    by_cases h0 : i = 0
    · rw [if_pos h0, if_pos h0]; rfl
    · rw [if_neg h0, if_neg h0, if_neg hi, if_neg hi]; rfl
theorem m_put (cx : Cx p s m args c cc nL own G) (S' : St) (hP : pw G A ad (cM G ad S) H) (hS : va_S A H0 H locs) (k : Nat) (hk : k < 28) {x : Int32} (lk : (.fieldLink own idx (TX3 k).1 (TX3 k).2.1 (TX3 k).2.2.1 : Cond) ∈ lw_use) (hfin : (TX3 k).2.2.2 = false) (hd : tyX3 k = .int) (hl : k < 28) (he : (Sum.inr (3, ([.int (sc S 0), .int (nI (nt S)), .ref (ad 1), .ref (ad 2), .ref (ad 3), .ref (ad 4), .ref (ad 5), .ref (ad 6), .ref (ad 7), .ref (ad 8), .ref (ad 9), .ref (ad 10), .ref (ad 11), .ref (ad 12), .ref (ad 13), .int (nI (nr S)), .ref (ad 14), .ref (ad 15), .ref (ad 16), .ref (ad 17), .ref (ad 18), .ref (ad 19), .ref (ad 20), .ref (ad 21), .ref (ad 22), .int (sc S 1), .ref (ad 23), .ref (ad 24)] : List Value).set k (.int x)) : va_E) = eM ad S') (ha : ∀ k, ar S' k = ar S k) (ho : os S' = os S) (hdg : decode cc pc = .ok (.putfield idx, 3))
    (kk : ∀ (H1 : Heap) (locs1 : List Loc), pw G A ad (cM G ad S') H1 → va_S A H0 H1 locs1 → W p l e R s m args below meth c H1 locs1 cells slots Q (F0 m (pc + 3) ls rest)) : W p l e R s m args below meth c H locs cells slots Q (F0 m pc ls (.int x :: .ref (ad 0) :: rest)) := by
  refine w_put cx (ci := 3) rfl iX3 tyX3_ok nmX3 hP hS cM_0 k hk lk hfin hd rfl rfl hl hdg (fun H1 locs1 h1 h2 => kk H1 locs1 (h1.eq (fun i => ?_)) h2)
  by_cases hi : i = 0
  · subst hi; rw [va_up_self, he]; rfl
  · rw [va_up_ne _ _ hi]
    unfold cM
    rw [if_neg hi, if_neg hi, ha, ho]
end MS
