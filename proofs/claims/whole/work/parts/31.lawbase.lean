-- two worlds side by side
def dis (ad : Nat → Nat) (C : Nat → Option va_E) (ad2 : Nat → Nat) (C2 : Nat → Option va_E) : Prop := ∀ (i j : Nat) (e f : va_E), C i = some e → C2 j = some f → ad i ≠ ad2 j
theorem dis.symm {ad : Nat → Nat} {C : Nat → Option va_E} {ad2 : Nat → Nat} {C2 : Nat → Option va_E} (h : dis ad C ad2 C2) : dis ad2 C2 ad C := fun i j e f h1 h2 q => h j i f e h2 h1 q.symm
def RLs : String := RL
section LB
variable {p : Program} {l : Launch} {e : Env} {R : Room} {s : State} {m : MethodId} {args : Array Value} {below : List Frame} {meth : Method} {c : Code} {H H0 : Heap} {locs : List Loc} {cells slots : Nat} {Q : State → Prop}
variable {cc : ByteArray} {pc nL idx : Nat} {ls : Array Slot} {rest : List Value} {own : String} {G : GG} {A : Nat → Prop} {ad ad2 : Nat → Nat} {C C2 : Nat → Option va_E}
theorem two_kept {ad1 : Nat → Nat} {C1 : Nat → Option va_E} {H1 : Heap} (hP : pw G A ad C H) (hP2 : pw G A ad2 C2 H) (hd : dis ad C ad2 C2) (h1 : pw G (adom ad C H.size) ad1 C1 H1) (hq : ∀ q : Nat, q < H.size → ¬ adom ad C H.size q → H1[q]? = H[q]?) : pw G A ad2 C2 H1 ∧ dis ad1 C1 ad2 C2 := by
  have no : ∀ (j : Nat) (f : va_E), C2 j = some f → ¬ adom ad C H.size (ad2 j) := fun j f hf h => by
    rcases h with ⟨i, e, he, h⟩ | h
    · exact hd i j e f he hf h.symm
    · have := hP2.lt hf; omega
  refine ⟨hP2.kept (fun j f hf => hq _ (hP2.lt hf) (no j f hf)), fun i j e f he hf h => no j f hf ?_⟩
  rw [← h]; exact h1.inA he
theorem l_callV {y : MethodName} {b : ByteArray} {n : Nat} {r : Option FieldType} {f lo mc ms : Nat} {As : List Value} {v : Option Value} {C' : (Nat → Nat) → (Nat → Option va_E)} {X : (Nat → Nat) → Prop} {Cn : String} {k ci N : Nat} {T : u_T} {fs : List Value} (cx : Cx p s m args c cc nL own G) (hM : MW l y b n r f lo mc ms G ad C (.ref (ad 0) :: As) v C' X) (lk : (.methodLink own idx y : Cond) ∈ lw_use) (cal : CalV y b n r Cn k) (hc : classes[ci]? = some (Cn, T, N)) (ha : C 0 = some (.inr (ci, fs))) (hP : pw G A ad C H) (hP2 : pw G A ad2 C2 H) (hd : dis ad C ad2 C2) (hS : va_S A H0 H locs) (hA : ∀ q, H0.size ≤ q → A q) (hk : As.length = k)
    (hR : f + 1 ≤ R.frames ∧ 8 + (n + 11) + lo ≤ R.locals) (hls : ls.size = nL) (hro : (rest.map fun v => v.category).sum ≤ 8) (hf : cells + mc ≤ R.cells ∧ slots + ms ≤ R.slots) {st0 st : List Value} (hst0 : st0 = As.reverse ++ .ref (ad 0) :: rest) (hst : v.toList ++ rest = st) (hdg : decode cc pc = .ok (.invokevirtual idx, 3))
    (kk : ∀ (ad' : Nat → Nat) (H1 : Heap) (locs1 : List Loc), X ad' → pw G A ad' (C' ad') H1 → pw G A ad2 C2 H1 → dis ad' (C' ad') ad2 C2 → va_S A H0 H1 locs1 → W p l e R s m args below meth c H1 locs1 (cells + mc) (slots + ms) Q (F0 m (pc + 3) ls st)) : W p l e R s m args below meth c H locs cells slots Q (F0 m pc ls st0) := by
  obtain ⟨h1, h2, h3, h4, h5⟩ := cal
  refine w_wr (va_runV (C := Cn) (b := ad 0) (As := As) (rest := rest) (n := k) (bytes := b) (maxL := n) (ret := r) cx.1 (hM H.size) (cwV k cx.1.2.2.2.2 (good_cons lk (good_cons h1 (good_cons h2 (good_cons h3 (lw_use_cons h4))))) rfl rfl rfl h5 hR) ⟨fun _ _ _ _ q => ⟨q.1, q.2.1, q.2.2.1, q.2.2.2.calling⟩, va_recv (ws := [(ad 0, .inr (ci, fs))]) (q0 := 0) cx.2.1 (w_one (hP.pa 0 _ ha)) hc rfl, fun U hU hW => ⟨rfl, by rw [hU], by rw [hU]; exact hP.weaken (fun _ _ _ => trivial), cx.2.warm hW⟩⟩ rfl hk hls hst0 (lv_room hro) hdg hf) hS (adom_in hP hS hA) hst (fun ad' H1 locs1 hB hz hq hS1 => ?_)
  obtain ⟨k1, k2⟩ := two_kept hP hP2 hd hB.2 hq
  exact kk ad' H1 locs1 hB.1 (hB.2.weaken (fun i e he => adom_in hP hS hA _ (hB.2.inA he))) k1 k2 hS1
theorem l_callI {y : MethodName} {b : ByteArray} {n : Nat} {f lo mc ms : Nat} {As : List Value} {C' : (Nat → Nat) → (Nat → Option va_E)} {X : (Nat → Nat) → Prop} {k : Nat} (cx : Cx p s m args c cc nL own G) (hM : MW l y b n none f lo mc ms G ad C (.ref (ad 0) :: As) none C' X) (lk : (.methodLink own idx y : Cond) ∈ lw_use) (cal : CalI y b n k) (hP : pw G A ad C H) (hP2 : pw G A ad2 C2 H) (hd : dis ad C ad2 C2) (hS : va_S A H0 H locs) (hA : ∀ q, H0.size ≤ q → A q) (hk : As.length = k)
    (hR : f + 1 ≤ R.frames ∧ 8 + (n + 11) + lo ≤ R.locals) (hls : ls.size = nL) (hro : (rest.map fun v => v.category).sum ≤ 8) (hf : cells + mc ≤ R.cells ∧ slots + ms ≤ R.slots) {st0 : List Value} (hst0 : st0 = As.reverse ++ .ref (ad 0) :: rest) (hdg : decode cc pc = .ok (.invokespecial idx, 3))
    (kk : ∀ (ad' : Nat → Nat) (H1 : Heap) (locs1 : List Loc), X ad' → pw G A ad' (C' ad') H1 → pw G A ad2 C2 H1 → dis ad' (C' ad') ad2 C2 → va_S A H0 H1 locs1 → W p l e R s m args below meth c H1 locs1 (cells + mc) (slots + ms) Q (F0 m (pc + 3) ls rest)) : W p l e R s m args below meth c H locs cells slots Q (F0 m pc ls st0) := by
  obtain ⟨h1, h2, h3, h4, h5⟩ := cal
  refine w_wr (va_runI (b := ad 0) (As := As) (rest := rest) (n := k) (bytes := b) (maxL := n) cx.1 (hM H.size) (cwI k cx.1.2.2.2.2 (lw_use_cons h3) rfl rfl rfl (cx.1.2.2.2.2 _ h2) (cx.1.2.2.2.2 _ lk) (cx.1.2.2.2.2 _ h1) h4 h5 hR) ⟨fun _ _ _ _ q => ⟨q.1, q.2.1, q.2.2.1, q.2.2.2.calling⟩, fun U hU hW => ⟨rfl, by rw [hU], by rw [hU]; exact hP.weaken (fun _ _ _ => trivial), cx.2.warm hW⟩⟩ rfl hk hls hst0 (lv_room hro) hdg hf) hS (adom_in hP hS hA) rfl (fun ad' H1 locs1 hB hz hq hS1 => ?_)
  obtain ⟨k1, k2⟩ := two_kept hP hP2 hd hB.2 hq
  exact kk ad' H1 locs1 hB.1 (hB.2.weaken (fun i e he => adom_in hP hS hA _ (hB.2.inA he))) k1 k2 hS1
theorem l_sld {b L : Nat} {xs : Nat → Int32} (cx : Cx p s m args c cc nL own G) (hX : va_X b L xs s H0) (hbl : b < H0.size) (hbA : ¬ A b) (hS : va_S A H0 H locs) (j : Nat) (hj : j < L) (hL : L < 2 ^ 31) (hdg : decode cc pc = .ok (.iaload, 1))
    (kk : W p l e R s m args below meth c H locs cells slots Q (F0 m (pc + 1) ls (.int (xs j) :: rest))) : W p l e R s m args below meth c H locs cells slots Q (F0 m pc ls (.int (nI j) :: .ref b :: rest)) := by
  refine va_sld cx.1.1 cx.1.2.1 hX hbl hbA hS (vp_in_nI hj hL) hdg ?_
  rw [nI_clamp (Nat.lt_trans hj hL)]
  exact kk
end LB
/-- the law's two worlds, with one state each -/
def LW2 (G : GG) (A : Nat → Prop) (adX adM : Nat → Nat) (x0 m0 : Nat) (S : St) (E : Ex) (T : St) (H : Heap) : Prop := pw G A adX (cX G adX S E) H ∧ pw G A adM (cM G adM T) H ∧ dis adX (cX G adX S E) adM (cM G adM T) ∧ adX 0 = x0 ∧ adM 0 = m0
theorem lg_self (x : Int64) : lg_cmp x x = 0 := by simp [lg_cmp]
theorem pw_empty {G : GG} {A : Nat → Prop} {ad : Nat → Nat} {H : Heap} : pw G A ad (fun _ => none) H := by
  refine ⟨[], ?_, ⟨?_, ?_⟩, ?_, ?_, ?_⟩
  · intro k q h; simp at h
  · intro i j p q h; simp at h
  · intro k q h; simp at h
  · intro i e h; simp at h
  · intro k q h; simp at h
  · intro i j e f h; simp at h
