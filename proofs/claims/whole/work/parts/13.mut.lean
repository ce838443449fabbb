-- worlds that change: the cells of a picture and no others
def pw (G : GG) (A : Nat → Prop) (ad : Nat → Nat) (C : Nat → Option va_E) (H : Heap) : Prop :=
  ∃ ws : va_W, va_P G.1 classes ws H ∧ va_D A ws ∧ (∀ (i : Nat) (e : va_E), C i = some e → ∃ k : Nat, ws[k]? = some (ad i, e)) ∧ (∀ (k : Nat) (q : Nat × va_E), ws[k]? = some q → ∃ i : Nat, C i = some q.2 ∧ ad i = q.1) ∧ ∀ (i j : Nat) (e f : va_E), C i = some e → C j = some f → ad i = ad j → i = j
def adom (ad : Nat → Nat) (C : Nat → Option va_E) (sz : Nat) : Nat → Prop := fun q => (∃ (i : Nat) (e : va_E), C i = some e ∧ q = ad i) ∨ sz ≤ q
theorem pw.pa {G : GG} {A : Nat → Prop} {ad : Nat → Nat} {C : Nat → Option va_E} {H : Heap} (h : pw G A ad C H) : pa G ad C H := by
  obtain ⟨ws, hP, -, h1, -⟩ := h
  intro i e he
  obtain ⟨k, hk⟩ := h1 i e he
  exact hP k _ hk
theorem pw.inj {G : GG} {A : Nat → Prop} {ad : Nat → Nat} {C : Nat → Option va_E} {H : Heap} (h : pw G A ad C H) : ∀ (i j : Nat) (e f : va_E), C i = some e → C j = some f → ad i = ad j → i = j := by
  obtain ⟨ws, -, -, -, -, h3⟩ := h
  exact h3
theorem pw.inA {G : GG} {A : Nat → Prop} {ad : Nat → Nat} {C : Nat → Option va_E} {H : Heap} (h : pw G A ad C H) {i : Nat} {e : va_E} (he : C i = some e) : A (ad i) := by
  obtain ⟨ws, hP, hD, h1, -⟩ := h
  obtain ⟨k, hk⟩ := h1 i e he
  exact hD.2 k _ hk
theorem pw.weaken {G : GG} {A B : Nat → Prop} {ad : Nat → Nat} {C : Nat → Option va_E} {H : Heap} (h : pw G A ad C H) (hB : ∀ (i : Nat) (e : va_E), C i = some e → B (ad i)) : pw G B ad C H := by
  obtain ⟨ws, hP, hD, h1, h2, h3⟩ := h
  refine ⟨ws, hP, hD.weaken (fun k q hk _ => ?_), h1, h2, h3⟩
  obtain ⟨i, hi, e⟩ := h2 k q hk
  rw [← e]; exact hB i _ hi
theorem pw.self {G : GG} {A : Nat → Prop} {ad : Nat → Nat} {C : Nat → Option va_E} {H : Heap} {sz : Nat} (h : pw G A ad C H) : pw G (adom ad C sz) ad C H := h.weaken (fun i e he => Or.inl ⟨i, e, he, rfl⟩)
theorem pw.eq {G : GG} {A : Nat → Prop} {ad : Nat → Nat} {C C' : Nat → Option va_E} {H : Heap} (h : pw G A ad C H) (e : ∀ i, C i = C' i) : pw G A ad C' H := (funext e : C = C') ▸ h
theorem pw.lt {G : GG} {A : Nat → Prop} {ad : Nat → Nat} {C : Nat → Option va_E} {H : Heap} (h : pw G A ad C H) {i : Nat} {e : va_E} (he : C i = some e) : ad i < H.size := (h.pa i e he).lt
/-- other cells unchanged: the picture stays -/
theorem pw.kept {G : GG} {A : Nat → Prop} {ad : Nat → Nat} {C : Nat → Option va_E} {H H1 : Heap} (h : pw G A ad C H) (hq : ∀ (i : Nat) (e : va_E), C i = some e → H1[ad i]? = H[ad i]?) : pw G A ad C H1 := by
  obtain ⟨ws, hP, hD, h1, h2, h3⟩ := h
  refine ⟨ws, hP.kept (fun k q hk => ?_), hD, h1, h2, h3⟩
  obtain ⟨i, hi, e⟩ := h2 k q hk
  rw [← e]; exact hq i _ hi
theorem pw_set {G : GG} {A : Nat → Prop} {ad : Nat → Nat} {C : Nat → Option va_E} {H1 : Heap} {ws : va_W} {k i : Nat} {e0 e1 : va_E} (hD : va_D A ws) (h1 : ∀ (i : Nat) (e : va_E), C i = some e → ∃ k : Nat, ws[k]? = some (ad i, e)) (h2 : ∀ (k : Nat) (q : Nat × va_E), ws[k]? = some q → ∃ i : Nat, C i = some q.2 ∧ ad i = q.1) (h3 : ∀ (i j : Nat) (e f : va_E), C i = some e → C j = some f → ad i = ad j → i = j)
    (hi : C i = some e0) (hk : ws[k]? = some (ad i, e0)) (hP' : va_P G.1 classes (ws.set k (ad i, e1)) H1) (hD' : va_D A (ws.set k (ad i, e1))) : pw G A ad (va_up C i (some e1)) H1 := by
  have hkl : k < ws.length := (List.getElem?_eq_some_iff.mp hk).1
  refine ⟨_, hP', hD', fun j e he => ?_, fun k' q hq => ?_, fun a b e f ha hb hab => ?_⟩
  · by_cases hj : j = i
    · subst hj
      rw [va_up_self] at he
      cases he
      exact ⟨k, by rw [List.getElem?_set_self hkl]⟩
    · rw [va_up_ne _ _ hj] at he
      obtain ⟨k', hk'⟩ := h1 j e he
      refine ⟨k', ?_⟩
      rw [List.getElem?_set_ne (fun h => ?_)]
      · exact hk'
      · subst h
        rw [hk] at hk'
        exact hj (h3 j i _ _ he hi (congrArg Prod.fst (Option.some.inj hk')).symm)
  · by_cases hkk : k = k'
    · subst hkk
      rw [List.getElem?_set_self hkl] at hq
      cases hq
      exact ⟨i, by rw [va_up_self], rfl⟩
    · rw [List.getElem?_set_ne hkk] at hq
      obtain ⟨j, hj, ej⟩ := h2 k' q hq
      refine ⟨j, ?_, ej⟩
      rw [va_up_ne]
      · exact hj
      · intro h
        subst h
        exact hkk (hD.1 k k' _ q hk hq ej)
  · have aux : ∀ (x : Nat) (g : va_E), va_up C i (some e1) x = some g → ∃ g', C x = some g' := fun x g hx => by
      by_cases h : x = i
      · subst h; exact ⟨_, hi⟩
      · rw [va_up_ne _ _ h] at hx; exact ⟨_, hx⟩
    obtain ⟨e', he'⟩ := aux a e ha
    obtain ⟨f', hf'⟩ := aux b f hb
    exact h3 a b _ _ he' hf' hab
theorem pw_add {G : GG} {A : Nat → Prop} {ad : Nat → Nat} {C : Nat → Option va_E} {H H1 : Heap} {ws : va_W} {i q : Nat} {e1 : va_E} (h1 : ∀ (i : Nat) (e : va_E), C i = some e → ∃ k : Nat, ws[k]? = some (ad i, e)) (h2 : ∀ (k : Nat) (q : Nat × va_E), ws[k]? = some q → ∃ i : Nat, C i = some q.2 ∧ ad i = q.1) (h3 : ∀ (i j : Nat) (e f : va_E), C i = some e → C j = some f → ad i = ad j → i = j)
    (hi : C i = none) (hP' : va_P G.1 classes (ws ++ [(q, e1)]) H1) (hD' : va_D A (ws ++ [(q, e1)])) : pw G A (va_up ad i q) (va_up C i (some e1)) H1 := by
  have old : ∀ (j : Nat) (e : va_E), C j = some e → j ≠ i := fun j e he h => by subst h; rw [hi] at he; cases he
  have ne : ∀ (j : Nat) (e : va_E), C j = some e → ad j ≠ q := fun j e he h => by
    obtain ⟨k, hk⟩ := h1 j e he
    have hkl : k < ws.length := (List.getElem?_eq_some_iff.mp hk).1
    have ea : (ws ++ [(q, e1)])[k]? = some (ad j, e) := by rw [List.getElem?_append_left hkl]; exact hk
    have eb : (ws ++ [(q, e1)])[ws.length]? = some (q, e1) := by rw [List.getElem?_append_right (Nat.le_refl _), Nat.sub_self]; rfl
    have := hD'.1 k ws.length _ _ ea eb h
    omega
  refine ⟨_, hP', hD', fun j e he => ?_, fun k' p hp => ?_, fun a b e f ha hb hab => ?_⟩
  · by_cases hj : j = i
    · subst hj
      rw [va_up_self] at he ⊢
      cases he
      exact ⟨ws.length, by rw [List.getElem?_append_right (Nat.le_refl _), Nat.sub_self]; rfl⟩
    · rw [va_up_ne _ _ hj] at he ⊢
      obtain ⟨k', hk'⟩ := h1 j e he
      exact ⟨k', by rw [List.getElem?_append_left (List.getElem?_eq_some_iff.mp hk').1]; exact hk'⟩
  · by_cases hl : k' < ws.length
    · rw [List.getElem?_append_left hl] at hp
      obtain ⟨j, hj, ej⟩ := h2 k' p hp
      exact ⟨j, by rw [va_up_ne _ _ (old j _ hj)]; exact hj, by rw [va_up_ne _ _ (old j _ hj)]; exact ej⟩
    · rw [List.getElem?_append_right (by omega)] at hp
      have hz : k' - ws.length = 0 := by
        rcases Nat.eq_zero_or_pos (k' - ws.length) with h | h
        · exact h
        · rw [List.getElem?_eq_none (by simp; omega)] at hp; cases hp
      rw [hz] at hp
      cases hp
      exact ⟨i, by rw [va_up_self], by rw [va_up_self]⟩
  · by_cases hai : a = i
    · by_cases hbi : b = i
      · rw [hai, hbi]
      · rw [va_up_ne _ _ hbi] at hb
        rw [hai, va_up_self, va_up_ne _ _ hbi] at hab
        exact absurd hab.symm (ne b _ hb)
    · rw [va_up_ne _ _ hai] at ha
      by_cases hbi : b = i
      · rw [hbi, va_up_self, va_up_ne _ _ hai] at hab
        exact absurd hab (ne a _ ha)
      · rw [va_up_ne _ _ hbi] at hb
        rw [va_up_ne _ _ hai, va_up_ne _ _ hbi] at hab
        exact h3 a b _ _ ha hb hab
-- contracts of what changes
def Qw (v : Option Value) (G : GG) (A : Nat → Prop) (B : (Nat → Nat) → Heap → Prop) : Array Value → State → Outcome → State → Prop := fun _ st o t => o = .returned v ∧ (∃ ad' : Nat → Nat, B ad' t.heap) ∧ va_F A st t
def MW (l : Launch) (y : MethodName) (b : ByteArray) (n : Nat) (r : Option FieldType) (f lo mc ms : Nat) (G : GG) (ad : Nat → Nat) (C : Nat → Option va_E) (av : List Value) (v : Option Value) (C' : (Nat → Nat) → (Nat → Option va_E)) (X : (Nat → Nat) → Prop) : Prop :=
  ∀ sz : Nat, Met l y (wsM y b n r) (rmM f lo mc ms) (va_Pc av (fun U => U.heap.size = sz ∧ pw G (fun _ => True) ad C U.heap ∧ kx G U)) (Qw v G (adom ad C sz) (fun ad' H => X ad' ∧ pw G (adom ad C sz) ad' (C' ad') H)) mc ms (adom ad C sz)
theorem MW.of {l : Launch} {y : MethodName} {b : ByteArray} {n : Nat} {r : Option FieldType} {f lo mc ms : Nat} {G : GG} {ad : Nat → Nat} {C : Nat → Option va_E} {av : List Value} {v : Option Value} {C' : (Nat → Nat) → (Nat → Option va_E)} {X : (Nat → Nat) → Prop} (lv : List (Nat × Value)) (hy : plainName y.cls = true) (hn : (lg_sl av).length ≤ n) (hlv : lv_args 0 av = lv)
    (body : ∀ (p : Program) (e : Env) (s : State) (m : MethodId) (args : Array Value) (below : List Frame) (meth : Method) (c : Code) (A : Nat → Prop), Cx p s m args c b n y.cls G → meth.sig.returnType = r → meth.locks = false → meth.name = y.name → (∀ q, s.heap.size ≤ q → A q) → pw G A ad C s.heap → ∀ ls : Array Slot, lv_has ls n lv →
      W p l e (rmM f lo mc ms) s m args below meth c s.heap [] 0 0 (MQ below (Qw v G A (fun ad' H => X ad' ∧ pw G A ad' (C' ad') H)) args s mc ms A) (F0 m 0 ls [])) : MW l y b n r f lo mc ms G ad C av v C' X := by
  intro sz
  refine Met.ofW (cc := b) (maxL := n) (ret := r) hy rfl ?_
  intro p e s m args below meth c s₁ B hml hv
  obtain ⟨rfl, hsz, hP, hK⟩ := hv
  subst hsz
  have hts : ∀ w ∈ lw_use, w.before av.toArray s = true := fun w hw => atoms_spec (ws := wsM y b n r) B.pre w (List.mem_cons_of_mem _ hw)
  rw [lg_entry_eq]
  exact body p e s m av.toArray below meth c _ ⟨⟨B.exec, B.bytes, hml, findClass_of_methodNamed B.named, hts⟩, hK⟩ B.returns B.notSynchronized (name_of_methodNamed B.named B.method).1 (fun q h => Or.inr h) hP.self _ (lv_entry0 av hn hlv)
section MB
variable {p : Program} {l : Launch} {e : Env} {R : Room} {s : State} {m : MethodId} {args : Array Value} {below : List Frame} {meth : Method} {c : Code} {H H0 : Heap} {locs : List Loc} {cells slots : Nat} {Q : State → Prop}
variable {cc : ByteArray} {pc nL idx : Nat} {ls : Array Slot} {rest : List Value} {own : String} {G : GG} {A : Nat → Prop} {ad : Nat → Nat} {C : Nat → Option va_E}
theorem w_nrm {x y : Int32} (h : x = y) (k : W p l e R s m args below meth c H locs cells slots Q (F0 m pc ls (.int y :: rest))) : W p l e R s m args below meth c H locs cells slots Q (F0 m pc ls (.int x :: rest)) := h ▸ k
theorem w_wr {v : Option Value} {st0 : List Value} {aa : Array Value} {mc ms : Nat} {B : (Nat → Nat) → Heap → Prop} {A1 : Nat → Prop} (hr : va_Run p l e R s m args below meth c H locs cells slots mc ms (F0 m pc ls st0) rest (Qw v G A1 B aa) A1) (hS : va_S A H0 H locs) (hA : ∀ q, A1 q → A q) {st : List Value} (hst : v.toList ++ rest = st)
    (kk : ∀ (ad' : Nat → Nat) (H1 : Heap) (locs1 : List Loc), B ad' H1 → H.size ≤ H1.size → (∀ q : Nat, q < H.size → ¬ A1 q → H1[q]? = H[q]?) → va_S A H0 H1 locs1 → W p l e R s m args below meth c H1 locs1 (cells + mc) (slots + ms) Q (F0 m (pc + 3) ls st)) : W p l e R s m args below meth c H locs cells slots Q (F0 m pc ls st0) := by
  subst hst
  intro T hT X
  obtain ⟨v', st₀, t, T', L, h0, X', hL, e1, e2, ⟨hv, ⟨ad', hB⟩, hz, hk⟩, st⟩ := hr T hT X
  cases hv
  rw [h0] at hz hk
  obtain ⟨t2, a1, b1⟩ := kk ad' T'.heap (locs ++ L) (by rw [e1]; exact hB) (by rw [e1]; exact hz) (fun q h1 h2 => by rw [e1]; exact hk q h1 h2)
    ⟨Nat.le_trans hS.1 (by rw [e1]; exact hz), fun q h1 h2 => by rw [e1, hk q (Nat.lt_of_lt_of_le h1 hS.1) (fun z => h2 (hA q z))]; exact hS.2.1 q h1 h2, fun q hq => by
      rcases List.mem_append.mp hq with h | h
      · exact hS.2.2 q h
      · exact hA _ (hL q h)⟩ T' rfl X'
  exact ⟨t2, st t2 a1, b1⟩
theorem adom_in {H0 : Heap} (hP : pw G A ad C H) (hS : va_S A H0 H locs) (hA : ∀ q, H0.size ≤ q → A q) : ∀ q, adom ad C H.size q → A q := fun q h => by
  rcases h with ⟨i, e, he, rfl⟩ | h
  · exact hP.inA he
  · exact hA q (Nat.le_trans hS.1 h)
theorem w_callVW {y : MethodName} {b : ByteArray} {n : Nat} {r : Option FieldType} {f lo mc ms : Nat} {As : List Value} {v : Option Value} {C' : (Nat → Nat) → (Nat → Option va_E)} {X : (Nat → Nat) → Prop} {Cn : String} {k ci N a : Nat} {T : u_T} {fs : List Value} (cx : Cx p s m args c cc nL own G) (hM : MW l y b n r f lo mc ms G ad C (.ref a :: As) v C' X) (lk : (.methodLink own idx y : Cond) ∈ lw_use) (cal : CalV y b n r Cn k) (hc : classes[ci]? = some (Cn, T, N)) (ha : va_at G.1 classes (a, .inr (ci, fs)) H) (hP : pw G A ad C H) (hS : va_S A H0 H locs) (hA : ∀ q, H0.size ≤ q → A q) (hk : As.length = k)
    (hR : f + 1 ≤ R.frames ∧ 8 + (n + 11) + lo ≤ R.locals) (hls : ls.size = nL) (hro : (rest.map fun v => v.category).sum ≤ 8) (hf : cells + mc ≤ R.cells ∧ slots + ms ≤ R.slots) {st0 st : List Value} (hst0 : st0 = As.reverse ++ .ref a :: rest) (hst : v.toList ++ rest = st) (hdg : decode cc pc = .ok (.invokevirtual idx, 3))
    (kk : ∀ (ad' : Nat → Nat) (H1 : Heap) (locs1 : List Loc), X ad' → pw G A ad' (C' ad') H1 → H.size ≤ H1.size → (∀ q : Nat, q < H.size → ¬ adom ad C H.size q → H1[q]? = H[q]?) → va_S A H0 H1 locs1 → W p l e R s m args below meth c H1 locs1 (cells + mc) (slots + ms) Q (F0 m (pc + 3) ls st)) : W p l e R s m args below meth c H locs cells slots Q (F0 m pc ls st0) := by
  obtain ⟨h1, h2, h3, h4, h5⟩ := cal
  refine w_wr (va_runV (C := Cn) (b := a) (As := As) (rest := rest) (n := k) (bytes := b) (maxL := n) (ret := r) cx.1 (hM H.size) (cwV k cx.1.2.2.2.2 (good_cons lk (good_cons h1 (good_cons h2 (good_cons h3 (lw_use_cons h4))))) rfl rfl rfl h5 hR) ⟨fun _ _ _ _ q => ⟨q.1, q.2.1, q.2.2.1, q.2.2.2.calling⟩, va_recv (ws := [(a, .inr (ci, fs))]) (q0 := 0) cx.2.1 (w_one ha) hc rfl, fun U hU hW => ⟨rfl, by rw [hU], by rw [hU]; exact hP.weaken (fun _ _ _ => trivial), cx.2.warm hW⟩⟩ rfl hk hls hst0 (lv_room hro) hdg hf) hS (adom_in hP hS hA) hst (fun ad' H1 locs1 hB hz hq hS1 => kk ad' H1 locs1 hB.1 (hB.2.weaken (fun i e he => adom_in hP hS hA _ (hB.2.inA he))) hz hq hS1)
theorem w_callI {y : MethodName} {b : ByteArray} {n : Nat} {f lo mc ms : Nat} {As : List Value} {C' : (Nat → Nat) → (Nat → Option va_E)} {X : (Nat → Nat) → Prop} {k a : Nat} (cx : Cx p s m args c cc nL own G) (hM : MW l y b n none f lo mc ms G ad C (.ref a :: As) none C' X) (lk : (.methodLink own idx y : Cond) ∈ lw_use) (cal : CalI y b n k) (hP : pw G A ad C H) (hS : va_S A H0 H locs) (hA : ∀ q, H0.size ≤ q → A q) (hk : As.length = k)
    (hR : f + 1 ≤ R.frames ∧ 8 + (n + 11) + lo ≤ R.locals) (hls : ls.size = nL) (hro : (rest.map fun v => v.category).sum ≤ 8) (hf : cells + mc ≤ R.cells ∧ slots + ms ≤ R.slots) {st0 : List Value} (hst0 : st0 = As.reverse ++ .ref a :: rest) (hdg : decode cc pc = .ok (.invokespecial idx, 3))
    (kk : ∀ (ad' : Nat → Nat) (H1 : Heap) (locs1 : List Loc), X ad' → pw G A ad' (C' ad') H1 → H.size ≤ H1.size → (∀ q : Nat, q < H.size → ¬ adom ad C H.size q → H1[q]? = H[q]?) → va_S A H0 H1 locs1 → W p l e R s m args below meth c H1 locs1 (cells + mc) (slots + ms) Q (F0 m (pc + 3) ls rest)) : W p l e R s m args below meth c H locs cells slots Q (F0 m pc ls st0) := by
  obtain ⟨h1, h2, h3, h4, h5⟩ := cal
  exact w_wr (va_runI (b := a) (As := As) (rest := rest) (n := k) (bytes := b) (maxL := n) cx.1 (hM H.size) (cwI k cx.1.2.2.2.2 (lw_use_cons h3) rfl rfl rfl (cx.1.2.2.2.2 _ h2) (cx.1.2.2.2.2 _ lk) (cx.1.2.2.2.2 _ h1) h4 h5 hR) ⟨fun _ _ _ _ q => ⟨q.1, q.2.1, q.2.2.1, q.2.2.2.calling⟩, fun U hU hW => ⟨rfl, by rw [hU], by rw [hU]; exact hP.weaken (fun _ _ _ => trivial), cx.2.warm hW⟩⟩ rfl hk hls hst0 (lv_room hro) hdg hf) hS (adom_in hP hS hA) rfl (fun ad' H1 locs1 hB hz hq hS1 => kk ad' H1 locs1 hB.1 (hB.2.weaken (fun i e he => adom_in hP hS hA _ (hB.2.inA he))) hz hq hS1)
theorem w_put {ci N i : Nat} {Cn : String} {T : u_T} {fs : List Value} {v : Value} {ty : FieldType} {ty0 : Nat → FieldType} (cx : Cx p s m args c cc nL own G) (hc : classes[ci]? = some (Cn, T, N)) (hin : ∀ w ∈ u_ws Cn T N, w ∈ lw_use) (hty : ∀ k, k < N → parseFieldDescriptor (T k).2.2.1 = some (ty0 k)) (hnm : ∀ a, a < N → ∀ b, b < N → a ≠ b → (T a).2.1 ≠ (T b).2.1) (hP : pw G A ad C H) (hS : va_S A H0 H locs) (hCi : C i = some (.inr (ci, fs))) (k : Nat) (hk : k < N) (lk : (.fieldLink own idx (T k).1 (T k).2.1 (T k).2.2.1 : Cond) ∈ lw_use) (hfin : (T k).2.2.2 = false) (hd : ty0 k = ty) (hn : narrow ty v = v) (hfit : fits ty v = true) (hl : k < fs.length) (hdg : decode cc pc = .ok (.putfield idx, 3))
    (kk : ∀ (H1 : Heap) (locs1 : List Loc), pw G A ad (va_up C i (some (.inr (ci, fs.set k v)))) H1 → va_S A H0 H1 locs1 → W p l e R s m args below meth c H1 locs1 cells slots Q (F0 m (pc + 3) ls rest)) : W p l e R s m args below meth c H locs cells slots Q (F0 m pc ls (v :: .ref (ad i) :: rest)) := by
  obtain ⟨ws, hP, hD, h1, h2, h3⟩ := hP
  obtain ⟨q0, hq0⟩ := h1 i _ hCi
  exact va_put cx.1.1 cx.1.2.1 cx.1.2.2.2.2 hin ty0 hty hnm cx.1.2.2.2.1 cx.2.1 hP hD hS q0 hq0 hc k hk (cx.1.2.2.2.2 _ lk) (fun _ h => h) hfin (by rw [hty k hk, hd]) hn hfit hl hdg (fun H1 locs1 hP' hD' hS' => kk H1 locs1 (pw_set hD h1 h2 h3 hCi hq0 hP' hD') hS')
theorem w_putF {ci N i : Nat} {Cn : String} {T : u_T} {fs : List Value} {v : Value} {ty : FieldType} {ty0 : Nat → FieldType} (cx : Cx p s m args c cc nL own G) (hc : classes[ci]? = some (Cn, T, N)) (hin : ∀ w ∈ u_ws Cn T N, w ∈ lw_use) (hty : ∀ k, k < N → parseFieldDescriptor (T k).2.2.1 = some (ty0 k)) (hnm : ∀ a, a < N → ∀ b, b < N → a ≠ b → (T a).2.1 ≠ (T b).2.1) (hP : pw G A ad C H) (hS : va_S A H0 H locs) (hCi : C i = some (.inr (ci, fs))) (k : Nat) (hk : k < N) (lk : (.fieldLink own idx (T k).1 (T k).2.1 (T k).2.2.1 : Cond) ∈ lw_use) (hfin : (T k).2.2.2 = true) (hin2 : meth.name = "<init>") (hdecl : (T k).1 = own) (hd : ty0 k = ty) (hn : narrow ty v = v) (hfit : fits ty v = true) (hl : k < fs.length) (hdg : decode cc pc = .ok (.putfield idx, 3))
    (kk : ∀ (H1 : Heap) (locs1 : List Loc), pw G A ad (va_up C i (some (.inr (ci, fs.set k v)))) H1 → va_S A H0 H1 locs1 → W p l e R s m args below meth c H1 locs1 cells slots Q (F0 m (pc + 3) ls rest)) : W p l e R s m args below meth c H locs cells slots Q (F0 m pc ls (v :: .ref (ad i) :: rest)) := by
  obtain ⟨ws, hP, hD, h1, h2, h3⟩ := hP
  obtain ⟨q0, hq0⟩ := h1 i _ hCi
  exact va_putF cx.1.1 cx.1.2.1 cx.1.2.2.2.2 hin ty0 hty hnm cx.1.2.2.2.1 cx.2.1 hP hD hS q0 hq0 hc k hk (cx.1.2.2.2.2 _ lk) (fun _ h => h) hfin hin2 hdecl (by rw [hty k hk, hd]) hn hfit hl hdg (fun H1 locs1 hP' hD' hS' => kk H1 locs1 (pw_set hD h1 h2 h3 hCi hq0 hP' hD') hS')
theorem w_iast {n i : Nat} {f : Nat → Int32} {x v : Int32} (cx : Cx p s m args c cc nL own G) (hP : pw G A ad C H) (hS : va_S A H0 H locs) (hCi : C i = some (.inl (gI G, n, .inl f))) (j : Nat) (hx : x = nI j) (hj : j < n) (hn : n < 2 ^ 31) (hdg : decode cc pc = .ok (.iastore, 1))
    (kk : ∀ (H1 : Heap) (locs1 : List Loc), pw G A ad (va_up C i (some (.inl (gI G, n, .inl (upd f j v))))) H1 → va_S A H0 H1 locs1 → W p l e R s m args below meth c H1 locs1 cells slots Q (F0 m (pc + 1) ls rest)) : W p l e R s m args below meth c H locs cells slots Q (F0 m pc ls (.int v :: .int x :: .ref (ad i) :: rest)) := by
  obtain ⟨ws, hP, hD, h1, h2, h3⟩ := hP
  obtain ⟨q0, hq0⟩ := h1 i _ hCi
  refine va_iast cx.1.1 cx.1.2.1 cx.2.1 hP hD hS q0 0 hq0 rfl (by rw [hx]; exact vp_in_nI hj hn) hdg (fun H1 locs1 hP' hD' hS' => kk H1 locs1 (pw_set hD h1 h2 h3 hCi hq0 (e1 := .inl (gI G, n, .inl (upd f j v))) ?_ ?_) hS')
  · rw [hx, nI_clamp (Nat.lt_trans hj hn)] at hP'; exact hP'
  · rw [hx, nI_clamp (Nat.lt_trans hj hn)] at hD'; exact hD'
theorem w_zast {n i : Nat} {f : Nat → Int32} {x v : Int32} (cx : Cx p s m args c cc nL own G) (hP : pw G A ad C H) (hS : va_S A H0 H locs) (hCi : C i = some (.inl (gZ G, n, .inl f))) (j : Nat) (hx : x = nI j) (hj : j < n) (hn : n < 2 ^ 31) (hv : v = 0 ∨ v = 1) (hdg : decode cc pc = .ok (.bastore, 1))
    (kk : ∀ (H1 : Heap) (locs1 : List Loc), pw G A ad (va_up C i (some (.inl (gZ G, n, .inl (upd f j v))))) H1 → va_S A H0 H1 locs1 → W p l e R s m args below meth c H1 locs1 cells slots Q (F0 m (pc + 1) ls rest)) : W p l e R s m args below meth c H locs cells slots Q (F0 m pc ls (.int v :: .int x :: .ref (ad i) :: rest)) := by
  obtain ⟨ws, hP, hD, h1, h2, h3⟩ := hP
  obtain ⟨q0, hq0⟩ := h1 i _ hCi
  have hv2 : vp_nar .boolean v = v := by rcases hv with h | h <;> subst h <;> decide
  refine va_zast cx.1.1 cx.1.2.1 cx.2.1 hP hD hS q0 2 hq0 rfl (by rw [hx]; exact vp_in_nI hj hn) hdg (fun H1 locs1 hP' hD' hS' => kk H1 locs1 (pw_set hD h1 h2 h3 hCi hq0 (e1 := .inl (gZ G, n, .inl (upd f j v))) ?_ ?_) hS')
  · rw [hx, nI_clamp (Nat.lt_trans hj hn), hv2] at hP'; exact hP'
  · rw [hx, nI_clamp (Nat.lt_trans hj hn), hv2] at hD'; exact hD'
theorem w_last {n i : Nat} {f : Nat → Int64} {x : Int32} {v : Int64} (cx : Cx p s m args c cc nL own G) (hP : pw G A ad C H) (hS : va_S A H0 H locs) (hCi : C i = some (.inl (gJ G, n, .inr (.inl f)))) (j : Nat) (hx : x = nI j) (hj : j < n) (hn : n < 2 ^ 31) (hdg : decode cc pc = .ok (.lastore, 1))
    (kk : ∀ (H1 : Heap) (locs1 : List Loc), pw G A ad (va_up C i (some (.inl (gJ G, n, .inr (.inl (vp_updL f j v)))))) H1 → va_S A H0 H1 locs1 → W p l e R s m args below meth c H1 locs1 cells slots Q (F0 m (pc + 1) ls rest)) : W p l e R s m args below meth c H locs cells slots Q (F0 m pc ls (.long v :: .int x :: .ref (ad i) :: rest)) := by
  obtain ⟨ws, hP, hD, h1, h2, h3⟩ := hP
  obtain ⟨q0, hq0⟩ := h1 i _ hCi
  refine va_last cx.1.1 cx.1.2.1 cx.2.1 hP hD hS q0 1 hq0 rfl (by rw [hx]; exact vp_in_nI hj hn) hdg (fun H1 locs1 hP' hD' hS' => kk H1 locs1 (pw_set hD h1 h2 h3 hCi hq0 (e1 := .inl (gJ G, n, .inr (.inl (vp_updL f j v)))) ?_ ?_) hS')
  · rw [hx, nI_clamp (Nat.lt_trans hj hn)] at hP'; exact hP'
  · rw [hx, nI_clamp (Nat.lt_trans hj hn)] at hD'; exact hD'
theorem x_int {v : Int32} {B : (Nat → Nat) → Heap → Prop} {ad' : Nat → Nat} (cx : Cx p s m args c cc nL own G) (hr : meth.sig.returnType = some .int) (hlocks : meth.locks = false) (hB : B ad' H) (hS : va_S A s.heap H locs) (hdg : decode cc pc = .ok (.ireturn, 1)) : W p l e R s m args below meth c H locs cells slots (MQ below (Qw (some (.int v)) G A B) args s cells slots A) (F0 m pc ls [.int v]) :=
  W.iret cx.1.1 cx.1.2.1 hr (fun t ht hW => ⟨rfl, ⟨ad', by rw [ht]; exact hB⟩, hS.F ht⟩) hS.2.2 hdg hlocks
theorem x_void {B : (Nat → Nat) → Heap → Prop} {ad' : Nat → Nat} (cx : Cx p s m args c cc nL own G) (hr : meth.sig.returnType = none) (hlocks : meth.locks = false) (hB : B ad' H) (hS : va_S A s.heap H locs) (hdg : decode cc pc = .ok (.return_, 1)) : W p l e R s m args below meth c H locs cells slots (MQ below (Qw none G A B) args s cells slots A) (F0 m pc ls []) :=
  W.vret cx.1.1 cx.1.2.1 hr (fun t ht hW => ⟨rfl, ⟨ad', by rw [ht]; exact hB⟩, hS.F ht⟩) hS.2.2 hdg hlocks
end MB
