-- making cells
section AL
variable {p : Program} {l : Launch} {e : Env} {R : Room} {s : State} {m : MethodId} {args : Array Value} {below : List Frame} {meth : Method} {c : Code} {H H0 : Heap} {locs : List Loc} {cells slots : Nat} {Q : State → Prop}
variable {cc : ByteArray} {pc nL idx : Nat} {ls : Array Slot} {rest : List Value} {own : String} {G : GG} {A : Nat → Prop} {ad : Nat → Nat} {C : Nat → Option va_E}
theorem w_new {ci N : Nat} {Cn : String} {T : u_T} {ty : Nat → FieldType} (i : Nat) (fs : List Value) (cx : Cx p s m args c cc nL own G) (hc : classes[ci]? = some (Cn, T, N)) (hin : ∀ w ∈ u_ws Cn T N, w ∈ lw_use) (hty : ∀ k, k < N → parseFieldDescriptor (T k).2.2.1 = some (ty k)) (hcl : (.classLink own idx Cn : Cond) ∈ lw_use) (hinst : (.instantiable Cn N : Cond) ∈ lw_use) (hini : (.initialized Cn : Cond) ∈ lw_use) (hP : pw G A ad C H) (hS : va_S A H0 H locs) (hA : ∀ q, H0.size ≤ q → A q) (hi : C i = none) (hfs : ∀ j, j < N → defaultValue (ty j) = vp_V fs j) (hcells : cells + 1 ≤ R.cells) (hslots : slots + N ≤ R.slots) (hdg : decode cc pc = .ok (.new idx, 3))
    (kk : ∀ (q : Nat) (H1 : Heap), pw G A (va_up ad i q) (va_up C i (some (.inr (ci, fs)))) H1 → va_S A H0 H1 locs → W p l e R s m args below meth c H1 locs (cells + 1) (slots + N) Q (F0 m (pc + 3) ls (.ref q :: rest))) : W p l e R s m args below meth c H locs cells slots Q (F0 m pc ls rest) := by
  obtain ⟨ws, hP, hD, h1, h2, h3⟩ := hP
  exact va_new cx.1.1 cx.1.2.1 cx.1.2.2.2.2 hin ty hty cx.1.2.2.2.1 (cx.1.2.2.2.2 _ hcl) (cx.1.2.2.2.2 _ hinst) (cx.1.2.2.2.2 _ hini) cx.2.1 hP hD hS hA hc hfs hcells hslots hdg (fun q H1 hP' hD' hS' => kk q H1 (pw_add (H := H) h1 h2 h3 hi hP' hD') hS')
theorem w_newI {n : Int32} (i N : Nat) (cx : Cx p s m args c cc nL own G) (hw : (.arrayClass .int : Cond) ∈ lw_use) (hP : pw G A ad C H) (hS : va_S A H0 H locs) (hA : ∀ q, H0.size ≤ q → A q) (hi : C i = none) (hn : ¬ n < 0) (hN : n.toNatClampNeg = N) (hb : N ≤ 1000000) (hcells : cells + 1 ≤ R.cells) (hslots : slots + N ≤ R.slots) (hdg : decode cc pc = .ok (.newarray .int, 2))
    (kk : ∀ (q : Nat) (H1 : Heap), pw G A (va_up ad i q) (va_up C i (some (.inl (gI G, N, .inl (fun _ => 0))))) H1 → va_S A H0 H1 locs → W p l e R s m args below meth c H1 locs (cells + 1) (slots + N) Q (F0 m (pc + 2) ls (.ref q :: rest))) : W p l e R s m args below meth c H locs cells slots Q (F0 m pc ls (.int n :: rest)) := by
  obtain ⟨ws, hP, hD, h1, h2, h3⟩ := hP
  refine va_newa (atype := .int) (ty := .int) (a0 := (N, .inl (fun _ => 0))) cx.1.1 cx.1.2.1 (cx.1.2.2.2.2 _ hw) rfl cx.2.1 hP hD hS hA (fun cA => rfl) hn hN (by show N * 4 ≤ 536870912; omega) hcells hslots hdg (fun q cA H1 hK' hP' hD' hS' => ?_)
  have e1 : s.vm.findClass ("[" ++ FieldType.int.toString) = some cA := (hK'.2 5 (cA, .int) rfl).2
  have e2 : s.vm.findClass ("[" ++ FieldType.int.toString) = some (gI G) := (cx.2.1.2 0 (gI G, .int) rfl).2
  have e3 : cA = gI G := Option.some.inj (e1.symm.trans e2)
  subst e3
  exact kk q H1 (pw_add (H := H) h1 h2 h3 hi hP' hD') hS'
theorem w_newZ {n : Int32} (i N : Nat) (cx : Cx p s m args c cc nL own G) (hw : (.arrayClass .boolean : Cond) ∈ lw_use) (hP : pw G A ad C H) (hS : va_S A H0 H locs) (hA : ∀ q, H0.size ≤ q → A q) (hi : C i = none) (hn : ¬ n < 0) (hN : n.toNatClampNeg = N) (hb : N ≤ 1000000) (hcells : cells + 1 ≤ R.cells) (hslots : slots + N ≤ R.slots) (hdg : decode cc pc = .ok (.newarray .boolean, 2))
    (kk : ∀ (q : Nat) (H1 : Heap), pw G A (va_up ad i q) (va_up C i (some (.inl (gZ G, N, .inl (fun _ => 0))))) H1 → va_S A H0 H1 locs → W p l e R s m args below meth c H1 locs (cells + 1) (slots + N) Q (F0 m (pc + 2) ls (.ref q :: rest))) : W p l e R s m args below meth c H locs cells slots Q (F0 m pc ls (.int n :: rest)) := by
  obtain ⟨ws, hP, hD, h1, h2, h3⟩ := hP
  refine va_newa (atype := .boolean) (ty := .boolean) (a0 := (N, .inl (fun _ => 0))) cx.1.1 cx.1.2.1 (cx.1.2.2.2.2 _ hw) rfl cx.2.1 hP hD hS hA (fun cA => rfl) hn hN (by show N * 1 ≤ 536870912; omega) hcells hslots hdg (fun q cA H1 hK' hP' hD' hS' => ?_)
  have e1 : s.vm.findClass ("[" ++ FieldType.boolean.toString) = some cA := (hK'.2 5 (cA, .boolean) rfl).2
  have e2 : s.vm.findClass ("[" ++ FieldType.boolean.toString) = some (gZ G) := (cx.2.1.2 2 (gZ G, .boolean) rfl).2
  have e3 : cA = gZ G := Option.some.inj (e1.symm.trans e2)
  subst e3
  exact kk q H1 (pw_add (H := H) h1 h2 h3 hi hP' hD') hS'
theorem w_newJ {n : Int32} (i N : Nat) (cx : Cx p s m args c cc nL own G) (hw : (.arrayClass .long : Cond) ∈ lw_use) (hP : pw G A ad C H) (hS : va_S A H0 H locs) (hA : ∀ q, H0.size ≤ q → A q) (hi : C i = none) (hn : ¬ n < 0) (hN : n.toNatClampNeg = N) (hb : N ≤ 1000000) (hcells : cells + 1 ≤ R.cells) (hslots : slots + N ≤ R.slots) (hdg : decode cc pc = .ok (.newarray .long, 2))
    (kk : ∀ (q : Nat) (H1 : Heap), pw G A (va_up ad i q) (va_up C i (some (.inl (gJ G, N, .inr (.inl (fun _ => 0)))))) H1 → va_S A H0 H1 locs → W p l e R s m args below meth c H1 locs (cells + 1) (slots + N) Q (F0 m (pc + 2) ls (.ref q :: rest))) : W p l e R s m args below meth c H locs cells slots Q (F0 m pc ls (.int n :: rest)) := by
  obtain ⟨ws, hP, hD, h1, h2, h3⟩ := hP
  refine va_newa (atype := .long) (ty := .long) (a0 := (N, .inr (.inl (fun _ => 0)))) cx.1.1 cx.1.2.1 (cx.1.2.2.2.2 _ hw) rfl cx.2.1 hP hD hS hA (fun cA => rfl) hn hN (by show N * 8 ≤ 536870912; omega) hcells hslots hdg (fun q cA H1 hK' hP' hD' hS' => ?_)
  have e1 : s.vm.findClass ("[" ++ FieldType.long.toString) = some cA := (hK'.2 5 (cA, .long) rfl).2
  have e2 : s.vm.findClass ("[" ++ FieldType.long.toString) = some (gJ G) := (cx.2.1.2 1 (gJ G, .long) rfl).2
  have e3 : cA = gJ G := Option.some.inj (e1.symm.trans e2)
  subst e3
  exact kk q H1 (pw_add (H := H) h1 h2 h3 hi hP' hD') hS'
theorem w_newT {n : Int32} (i N : Nat) (cx : Cx p s m args c cc nL own G) (hcl : (.classLink own idx "TrueWeights$Thing" : Cond) ∈ lw_use) (hP : pw G A ad C H) (hS : va_S A H0 H locs) (hA : ∀ q, H0.size ≤ q → A q) (hi : C i = none) (hn : ¬ n < 0) (hN : n.toNatClampNeg = N) (hb : N ≤ 1000000) (hcells : cells + 1 ≤ R.cells) (hslots : slots + N ≤ R.slots) (hdg : decode cc pc = .ok (.anewarray idx, 3))
    (kk : ∀ (q : Nat) (H1 : Heap), pw G A (va_up ad i q) (va_up C i (some (.inl (gT G, N, .inr (.inr (.inr (.inr (fun _ => none)))))))) H1 → va_S A H0 H1 locs → W p l e R s m args below meth c H1 locs (cells + 1) (slots + N) Q (F0 m (pc + 3) ls (.ref q :: rest))) : W p l e R s m args below meth c H locs cells slots Q (F0 m pc ls (.int n :: rest)) := by
  obtain ⟨ws, hP, hD, h1, h2, h3⟩ := hP
  refine va_newq cx.1.1 cx.1.2.1 cx.1.2.2.2.1 (cx.1.2.2.2.2 _ hcl) cx.2.2.2.1 cx.2.1 hP hD hS hA hn hN (by omega) hcells hslots hdg (fun q cA H1 hK' hP' hD' hS' => ?_)
  obtain ⟨-, -, -, -, -, e1⟩ := (hK'.2 5 (cA, .object "TrueWeights$Thing") rfl).2
  obtain ⟨-, -, -, -, -, e2⟩ := (cx.2.1.2 3 (gT G, .object "TrueWeights$Thing") rfl).2
  have e3 : cA = gT G := Option.some.inj (e1.symm.trans e2)
  subst e3
  exact kk q H1 (pw_add (H := H) h1 h2 h3 hi hP' hD') hS'
theorem w_newR {n : Int32} (i N : Nat) (cx : Cx p s m args c cc nL own G) (hcl : (.classLink own idx "TrueWeights$Trial" : Cond) ∈ lw_use) (hP : pw G A ad C H) (hS : va_S A H0 H locs) (hA : ∀ q, H0.size ≤ q → A q) (hi : C i = none) (hn : ¬ n < 0) (hN : n.toNatClampNeg = N) (hb : N ≤ 1000000) (hcells : cells + 1 ≤ R.cells) (hslots : slots + N ≤ R.slots) (hdg : decode cc pc = .ok (.anewarray idx, 3))
    (kk : ∀ (q : Nat) (H1 : Heap), pw G A (va_up ad i q) (va_up C i (some (.inl (gR G, N, .inr (.inr (.inr (.inr (fun _ => none)))))))) H1 → va_S A H0 H1 locs → W p l e R s m args below meth c H1 locs (cells + 1) (slots + N) Q (F0 m (pc + 3) ls (.ref q :: rest))) : W p l e R s m args below meth c H locs cells slots Q (F0 m pc ls (.int n :: rest)) := by
  obtain ⟨ws, hP, hD, h1, h2, h3⟩ := hP
  refine va_newq cx.1.1 cx.1.2.1 cx.1.2.2.2.1 (cx.1.2.2.2.2 _ hcl) cx.2.2.2.2 cx.2.1 hP hD hS hA hn hN (by omega) hcells hslots hdg (fun q cA H1 hK' hP' hD' hS' => ?_)
  obtain ⟨-, -, -, -, -, e1⟩ := (hK'.2 5 (cA, .object "TrueWeights$Trial") rfl).2
  obtain ⟨-, -, -, -, -, e2⟩ := (cx.2.1.2 4 (gR G, .object "TrueWeights$Trial") rfl).2
  have e3 : cA = gR G := Option.some.inj (e1.symm.trans e2)
  subst e3
  exact kk q H1 (pw_add (H := H) h1 h2 h3 hi hP' hD') hS'
/-- a reference goes into an array of its class -/
theorem w_aastT {n i j0 q : Nat} {f : Nat → Option Nat} {x : Int32} {fs : List Value} (cx : Cx p s m args c cc nL own G) (hP : pw G A ad C H) (hS : va_S A H0 H locs) (hCi : C i = some (.inl (gT G, n, .inr (.inr (.inr (.inr f)))))) (hCj : C j0 = some (.inr (0, fs))) (hq : ad j0 = q) (j : Nat) (hx : x = nI j) (hj : j < n) (hn : n < 2 ^ 31) (hdg : decode cc pc = .ok (.aastore, 1))
    (kk : ∀ (H1 : Heap) (locs1 : List Loc), pw G A ad (va_up C i (some (.inl (gT G, n, .inr (.inr (.inr (.inr (va_up f j (some q)))))))))  H1 → va_S A H0 H1 locs1 → W p l e R s m args below meth c H1 locs1 cells slots Q (F0 m (pc + 1) ls rest)) : W p l e R s m args below meth c H locs cells slots Q (F0 m pc ls (.ref q :: .int x :: .ref (ad i) :: rest)) := by
  subst hq
  obtain ⟨ws, hP, hD, h1, h2, h3⟩ := hP
  obtain ⟨q0, hq0⟩ := h1 i _ hCi
  obtain ⟨qk, hqk⟩ := h1 j0 _ hCj
  refine va_astq (r := (RX0, TX0, 10)) cx.1.1 cx.1.2.1 cx.2.1 hP hD hS q0 3 qk 0 hq0 rfl hqk rfl (by rw [hx]; exact vp_in_nI hj hn) hdg (fun H1 locs1 hP' hD' hS' => kk H1 locs1 (pw_set hD h1 h2 h3 hCi hq0 (e1 := .inl (gT G, n, .inr (.inr (.inr (.inr (va_up f j (some (ad j0)))))))) ?_ ?_) hS')
  · rw [hx, nI_clamp (Nat.lt_trans hj hn)] at hP'; exact hP'
  · rw [hx, nI_clamp (Nat.lt_trans hj hn)] at hD'; exact hD'
theorem w_aastR {n i j0 q : Nat} {f : Nat → Option Nat} {x : Int32} {fs : List Value} (cx : Cx p s m args c cc nL own G) (hP : pw G A ad C H) (hS : va_S A H0 H locs) (hCi : C i = some (.inl (gR G, n, .inr (.inr (.inr (.inr f)))))) (hCj : C j0 = some (.inr (1, fs))) (hq : ad j0 = q) (j : Nat) (hx : x = nI j) (hj : j < n) (hn : n < 2 ^ 31) (hdg : decode cc pc = .ok (.aastore, 1))
    (kk : ∀ (H1 : Heap) (locs1 : List Loc), pw G A ad (va_up C i (some (.inl (gR G, n, .inr (.inr (.inr (.inr (va_up f j (some q)))))))))  H1 → va_S A H0 H1 locs1 → W p l e R s m args below meth c H1 locs1 cells slots Q (F0 m (pc + 1) ls rest)) : W p l e R s m args below meth c H locs cells slots Q (F0 m pc ls (.ref q :: .int x :: .ref (ad i) :: rest)) := by
  subst hq
  obtain ⟨ws, hP, hD, h1, h2, h3⟩ := hP
  obtain ⟨q0, hq0⟩ := h1 i _ hCi
  obtain ⟨qk, hqk⟩ := h1 j0 _ hCj
  refine va_astq (r := (RX1, TX1, 10)) cx.1.1 cx.1.2.1 cx.2.1 hP hD hS q0 4 qk 1 hq0 rfl hqk rfl (by rw [hx]; exact vp_in_nI hj hn) hdg (fun H1 locs1 hP' hD' hS' => kk H1 locs1 (pw_set hD h1 h2 h3 hCi hq0 (e1 := .inl (gR G, n, .inr (.inr (.inr (.inr (va_up f j (some (ad j0)))))))) ?_ ?_) hS')
  · rw [hx, nI_clamp (Nat.lt_trans hj hn)] at hP'; exact hP'
  · rw [hx, nI_clamp (Nat.lt_trans hj hn)] at hD'; exact hD'
end AL
