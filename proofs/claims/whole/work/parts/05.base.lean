-- the classes, the array classes, what is known of the tables
abbrev classes : List vw_C := [(RX0, TX0, 10), (RX1, TX1, 10), (RX2, TX2, 13), (RX3, TX3, 28)]
abbrev GG : Type := va_G × ClassId × ClassId × ClassId × ClassId × ClassId
abbrev gI (G : GG) : ClassId := G.2.1
abbrev gJ (G : GG) : ClassId := G.2.2.1
abbrev gZ (G : GG) : ClassId := G.2.2.2.1
abbrev gT (G : GG) : ClassId := G.2.2.2.2.1
abbrev gR (G : GG) : ClassId := G.2.2.2.2.2
abbrev tysG (G : GG) : List (ClassId × FieldType) := [(gI G, .int), (gJ G, .long), (gZ G, .boolean), (gT G, .object "TrueWeights$Thing"), (gR G, .object "TrueWeights$Trial")]
def kx (G : GG) (U : State) : Prop := va_K G.1 classes (tysG G) U ∧ va_Nw (.methodLinkNest RX0 35 yX2_isWithin RX2) U ∧ va_AO "TrueWeights$Thing" U ∧ va_AO "TrueWeights$Trial" U
theorem kx.warm {G : GG} {s U : State} (h : kx G s) (hW : s.WarmedH U.vm) : kx G U := ⟨va_K.moved hW.alike h.1, va_Nw.warmM hW h.2.1, va_AO.moved hW.alike h.2.2.1, va_AO.moved hW.alike h.2.2.2⟩
theorem kx.calling {G : GG} {U : State} {g : JFrame} {mk : MethodId} {a : Array Value} (h : kx G U) : kx G (U.calling g mk a) := ⟨va_K.moved (u := U) (U := U.calling g mk a) (Vm.Alike.refl U.vm) h.1, va_Nw.same rfl (show U.vm = (U.calling g mk a).vm from rfl) h.2.1, va_AO.moved (u := U) (U := U.calling g mk a) (Vm.Alike.refl U.vm) h.2.2.1, va_AO.moved (u := U) (U := U.calling g mk a) (Vm.Alike.refl U.vm) h.2.2.2⟩
-- what a walk stands on
def Cx (p : Program) (s : State) (m : MethodId) (args : Array Value) (c : Code) (cc : ByteArray) (nL : Nat) (own : String) (G : GG) : Prop := CallFix p m c cc nL s args lw_use own ∧ kx G s
-- a picture: logical cells at addresses
def pa (G : GG) (ad : Nat → Nat) (C : Nat → Option va_E) (H : Heap) : Prop := ∀ (i : Nat) (e : va_E), C i = some e → va_at G.1 classes (ad i, e) H
theorem pa.none {G : GG} {ad : Nat → Nat} {H : Heap} : pa G ad (fun _ => none) H := fun _ _ h => by cases h
-- read-only contracts
def Rd (v : Option Value) : Array Value → State → Outcome → State → Prop := fun _ st o t => o = .returned v ∧ t.heap = st.heap
def wsM (y : MethodName) (b : ByteArray) (n : Nat) (r : Option FieldType) : List Cond := .code y b n r :: lw_use
def rmM (f lo cs sl : Nat) : Room := { frames := f, cells := cs, slots := sl, locals := lo }
def PcM (G : GG) (ad : Nat → Nat) (C : Nat → Option va_E) (av : List Value) : Array Value → State → Prop := va_Pc av (fun U => pa G ad C U.heap ∧ kx G U)
def MR (l : Launch) (y : MethodName) (b : ByteArray) (n : Nat) (r : Option FieldType) (f lo : Nat) (G : GG) (ad : Nat → Nat) (C : Nat → Option va_E) (av : List Value) (v : Option Value) : Prop :=
  Met l y (wsM y b n r) (rmM f lo 0 0) (PcM G ad C av) (Rd v) 0 0 (fun _ => False)
theorem PcM.blind {G : GG} {ad : Nat → Nat} {C : Nat → Option va_E} {av : List Value} : FrameBlind (PcM G ad C av) := fun _ _ _ _ q => ⟨q.1, q.2.1, q.2.2.calling⟩
theorem lv_entry0 (vs : List Value) {n : Nat} {lv : List (Nat × Value)} (h : (lg_sl vs).length ≤ n) (hv : lv_args 0 vs = lv) : lv_has ((lg_sl vs ++ List.replicate (n - (lg_sl vs).length) Slot.unset).toArray) n lv := hv ▸ lv_entry vs h
theorem MR.of {l : Launch} {y : MethodName} {b : ByteArray} {n : Nat} {r : Option FieldType} {f lo : Nat} {G : GG} {ad : Nat → Nat} {C : Nat → Option va_E} {av : List Value} {v : Option Value} (lv : List (Nat × Value)) (hy : plainName y.cls = true) (hn : (lg_sl av).length ≤ n) (hlv : lv_args 0 av = lv)
    (body : ∀ (p : Program) (e : Env) (s : State) (m : MethodId) (args : Array Value) (below : List Frame) (meth : Method) (c : Code), Cx p s m args c b n y.cls G → meth.sig.returnType = r → meth.locks = false → pa G ad C s.heap → ∀ ls : Array Slot, lv_has ls n lv →
      W p l e (rmM f lo 0 0) s m args below meth c s.heap [] 0 0 (MQ below (Rd v) args s 0 0 (fun _ => False)) (F0 m 0 ls [])) : MR l y b n r f lo G ad C av v := by
  refine Met.ofW (cc := b) (maxL := n) (ret := r) hy rfl ?_
  intro p e s m args below meth c s₁ B hml hv
  obtain ⟨rfl, hP, hK⟩ := hv
  have hts : ∀ w ∈ lw_use, w.before av.toArray s = true := fun w hw => atoms_spec (ws := wsM y b n r) B.pre w (List.mem_cons_of_mem _ hw)
  rw [lg_entry_eq]
  exact body p e s m av.toArray below meth c ⟨⟨B.exec, B.bytes, hml, findClass_of_methodNamed B.named, hts⟩, hK⟩ B.returns B.notSynchronized hP _ (lv_entry0 av hn hlv)
-- what a callee is
def CalV (y : MethodName) (b : ByteArray) (n : Nat) (r : Option FieldType) (Cn : String) (k : Nat) : Prop := (.instanceMethod y : Cond) ∈ lw_use ∧ (.selects Cn y y : Cond) ∈ lw_use ∧ (.initialized Cn : Cond) ∈ lw_use ∧ (.code y b n r : Cond) ∈ lw_use ∧ (y.cls = Cn ∧ y.cls ≠ "java/lang/invoke/MethodHandle" ∧ y.cls ≠ "java/lang/invoke/VarHandle" ∧ (parseMethodDescriptor y.desc).map (fun d => d.parameters.length) = some k)
def CalS (y : MethodName) (b : ByteArray) (n : Nat) (r : Option FieldType) (k : Nat) : Prop := (.static y : Cond) ∈ lw_use ∧ (.initialized y.cls : Cond) ∈ lw_use ∧ (.code y b n r : Cond) ∈ lw_use ∧ (y.cls ≠ "java/lang/invoke/MethodHandle" ∧ y.cls ≠ "java/lang/invoke/VarHandle" ∧ (parseMethodDescriptor y.desc).map (fun d => d.parameters.length) = some k)
def CalI (y : MethodName) (b : ByteArray) (n : Nat) (k : Nat) : Prop := (.instanceMethod y : Cond) ∈ lw_use ∧ (.initialized y.cls : Cond) ∈ lw_use ∧ (.code y b n none : Cond) ∈ lw_use ∧ y.name = "<init>" ∧ (y.cls ≠ "java/lang/invoke/MethodHandle" ∧ y.cls ≠ "java/lang/invoke/VarHandle" ∧ (parseMethodDescriptor y.desc).map (fun d => d.parameters.length) = some k)
theorem good_cons {w : Cond} {ws : List Cond} (h : w ∈ lw_use) (hs : GoodIn lw_use ws) : GoodIn lw_use (w :: ws) := fun x hx => by
  rcases List.mem_cons.mp hx with e | e
  · subst e; exact lw_use_in _ h
  · exact hs _ e
section RB
variable {p : Program} {l : Launch} {e : Env} {R : Room} {s : State} {m : MethodId} {args : Array Value} {below : List Frame} {meth : Method} {c : Code} {H : Heap} {locs : List Loc} {cells slots : Nat} {Q : State → Prop}
variable {cc : ByteArray} {pc nL idx : Nat} {ls : Array Slot} {rest : List Value} {own : String} {G : GG} {a : Nat}
theorem w_rd {v : Option Value} {st0 : List Value} {aa : Array Value} (hr : CallRun p l e R s m args below meth c H locs cells slots 0 0 (F0 m pc ls st0) rest (Rd v aa) (fun _ => False)) {st : List Value} (hst : v.toList ++ rest = st)
    (kk : W p l e R s m args below meth c H locs cells slots Q (F0 m (pc + 3) ls st)) : W p l e R s m args below meth c H locs cells slots Q (F0 m pc ls st0) := by
  subst hst
  intro T hT X
  obtain ⟨v', st₀, t, T', L, h0, X', hL, e1, ⟨hv, hh⟩, st⟩ := hr T hT X
  cases hv
  obtain ⟨t2, a1, b1⟩ := kk T' (by rw [e1, hh, h0]) (Stand.forget X' (fun q h => (hL q h).elim))
  exact ⟨t2, st t2 a1, b1⟩
theorem w_callV {y : MethodName} {b : ByteArray} {n : Nat} {r : Option FieldType} {f lo : Nat} {ad : Nat → Nat} {C : Nat → Option va_E} {As : List Value} {v : Option Value} {Cn : String} {k ci N : Nat} {T : u_T} {fs : List Value} (cx : Cx p s m args c cc nL own G) (hM : MR l y b n r f lo G ad C (.ref a :: As) v) (lk : (.methodLink own idx y : Cond) ∈ lw_use) (cal : CalV y b n r Cn k) (hc : classes[ci]? = some (Cn, T, N)) (ha : va_at G.1 classes (a, .inr (ci, fs)) H) (hP : pa G ad C H) (hk : As.length = k)
    (hR : f + 1 ≤ R.frames ∧ 8 + (n + 11) + lo ≤ R.locals) (hls : ls.size = nL) (hro : (rest.map fun v => v.category).sum ≤ 8) (hf : cells ≤ R.cells ∧ slots ≤ R.slots) {st0 st : List Value} (hst0 : st0 = As.reverse ++ .ref a :: rest) (hst : v.toList ++ rest = st) (hdg : decode cc pc = .ok (.invokevirtual idx, 3))
    (kk : W p l e R s m args below meth c H locs cells slots Q (F0 m (pc + 3) ls st)) : W p l e R s m args below meth c H locs cells slots Q (F0 m pc ls st0) := by
  obtain ⟨h1, h2, h3, h4, h5⟩ := cal
  refine w_rd (W.runV (C := Cn) (b := a) (As := As) (rest := rest) (n := k) (bytes := b) (maxL := n) (ret := r) cx.1 hM (cwV k cx.1.2.2.2.2 (good_cons lk (good_cons h1 (good_cons h2 (good_cons h3 (lw_use_cons h4))))) rfl rfl rfl h5 hR) ⟨PcM.blind, va_recv (ws := [(a, .inr (ci, fs))]) (q0 := 0) cx.2.1 (fun k q h => ?_) hc rfl, fun U hU hW => ⟨rfl, by rw [hU]; exact hP, cx.2.warm hW⟩⟩ rfl hk hls hst0 (lv_room hro) hdg hf) hst kk
  match k, h with
  | 0, h => cases h; exact ha
theorem w_callS {y : MethodName} {b : ByteArray} {n : Nat} {r : Option FieldType} {f lo : Nat} {ad : Nat → Nat} {C : Nat → Option va_E} {As : List Value} {v : Option Value} {k : Nat} (cx : Cx p s m args c cc nL own G) (hM : MR l y b n r f lo G ad C As v) (lk : (.methodLink own idx y : Cond) ∈ lw_use) (cal : CalS y b n r k) (hP : pa G ad C H) (hk : As.length = k)
    (hR : f + 1 ≤ R.frames ∧ 8 + (n + 11) + lo ≤ R.locals) (hls : ls.size = nL) (hro : (rest.map fun v => v.category).sum ≤ 8) (hf : cells ≤ R.cells ∧ slots ≤ R.slots) {st0 st : List Value} (hst0 : st0 = As.reverse ++ rest) (hst : v.toList ++ rest = st) (hdg : decode cc pc = .ok (.invokestatic idx, 3))
    (kk : W p l e R s m args below meth c H locs cells slots Q (F0 m (pc + 3) ls st)) : W p l e R s m args below meth c H locs cells slots Q (F0 m pc ls st0) := by
  obtain ⟨h1, h2, h3, h4⟩ := cal
  exact w_rd (W.runS (As := As) (rest := rest) (n := k) (bytes := b) (maxL := n) (ret := r) cx.1 hM (va_cwS k cx.1.2.2.2.2 (good_cons lk (good_cons h1 (good_cons h2 (lw_use_cons h3)))) rfl rfl rfl h4 hR) ⟨PcM.blind, fun U hU hW => ⟨rfl, by rw [hU]; exact hP, cx.2.warm hW⟩⟩ rfl hk hls hst0 (lv_room hro) hdg hf) hst kk
theorem w_get {ci N : Nat} {Cn : String} {T : u_T} {fs : List Value} {v : Value} (cx : Cx p s m args c cc nL own G) (hc : classes[ci]? = some (Cn, T, N)) (hin : ∀ w ∈ u_ws Cn T N, w ∈ lw_use) (ha : va_at G.1 classes (a, .inr (ci, fs)) H) (k : Nat) (hk : k < N) (lk : (.fieldLink own idx (T k).1 (T k).2.1 (T k).2.2.1 : Cond) ∈ lw_use) (hv : fs[k]? = some v) (hdg : decode cc pc = .ok (.getfield idx, 3))
    (kk : W p l e R s m args below meth c H locs cells slots Q (F0 m (pc + 3) ls (v :: rest))) : W p l e R s m args below meth c H locs cells slots Q (F0 m pc ls (.ref a :: rest)) := by
  refine va_get (ws := [(a, .inr (ci, fs))]) cx.1.1 cx.1.2.1 cx.1.2.2.2.2 hin cx.1.2.2.2.1 cx.2.1 (fun k q h => ?_) 0 rfl hc k hk (cx.1.2.2.2.2 _ lk) (fun _ h => h) hv hdg kk
  match k, h with
  | 0, h => cases h; exact ha
theorem w_one {q : Nat × va_E} (ha : va_at G.1 classes q H) : va_P G.1 classes [q] H := fun k q' h => by
  match k, h with
  | 0, h => cases h; exact ha
theorem w_iald {n : Nat} {f : Nat → Int32} {x : Int32} (cx : Cx p s m args c cc nL own G) (ha : va_at G.1 classes (a, .inl (gI G, n, .inl f)) H) (j : Nat) (hx : x = nI j) (hj : j < n) (hn : n < 2 ^ 31) (hdg : decode cc pc = .ok (.iaload, 1))
    (kk : W p l e R s m args below meth c H locs cells slots Q (F0 m (pc + 1) ls (.int (f j) :: rest))) : W p l e R s m args below meth c H locs cells slots Q (F0 m pc ls (.int x :: .ref a :: rest)) := by
  refine va_iald (ws := [(a, .inl (gI G, n, .inl f))]) cx.1.1 cx.1.2.1 cx.2.1 (w_one ha) 0 0 rfl rfl (by rw [hx]; exact vp_in_nI hj hn) hdg ?_
  rw [hx, nI_clamp (Nat.lt_trans hj hn)]
  exact kk
theorem w_zald {n : Nat} {f : Nat → Int32} {x : Int32} (cx : Cx p s m args c cc nL own G) (ha : va_at G.1 classes (a, .inl (gZ G, n, .inl f)) H) (j : Nat) (hx : x = nI j) (hj : j < n) (hn : n < 2 ^ 31) (hdg : decode cc pc = .ok (.baload, 1))
    (kk : W p l e R s m args below meth c H locs cells slots Q (F0 m (pc + 1) ls (.int (f j) :: rest))) : W p l e R s m args below meth c H locs cells slots Q (F0 m pc ls (.int x :: .ref a :: rest)) := by
  refine va_zald (ws := [(a, .inl (gZ G, n, .inl f))]) cx.1.1 cx.1.2.1 cx.2.1 (w_one ha) 0 2 rfl rfl (by rw [hx]; exact vp_in_nI hj hn) hdg ?_
  rw [hx, nI_clamp (Nat.lt_trans hj hn)]
  exact kk
theorem w_lald {n : Nat} {f : Nat → Int64} {x : Int32} (cx : Cx p s m args c cc nL own G) (ha : va_at G.1 classes (a, .inl (gJ G, n, .inr (.inl f))) H) (j : Nat) (hx : x = nI j) (hj : j < n) (hn : n < 2 ^ 31) (hdg : decode cc pc = .ok (.laload, 1))
    (kk : W p l e R s m args below meth c H locs cells slots Q (F0 m (pc + 1) ls (.long (f j) :: rest))) : W p l e R s m args below meth c H locs cells slots Q (F0 m pc ls (.int x :: .ref a :: rest)) := by
  refine va_lald (ws := [(a, .inl (gJ G, n, .inr (.inl f)))]) cx.1.1 cx.1.2.1 cx.2.1 (w_one ha) 0 1 rfl rfl (by rw [hx]; exact vp_in_nI hj hn) hdg ?_
  rw [hx, nI_clamp (Nat.lt_trans hj hn)]
  exact kk
theorem w_aaldT {n : Nat} {f : Nat → Option Nat} {x : Int32} {v : Value} (cx : Cx p s m args c cc nL own G) (ha : va_at G.1 classes (a, .inl (gT G, n, .inr (.inr (.inr (.inr f))))) H) (j : Nat) (hx : x = nI j) (hj : j < n) (hn : n < 2 ^ 31) (hv : va_rf (f j) = v) (hdg : decode cc pc = .ok (.aaload, 1))
    (kk : W p l e R s m args below meth c H locs cells slots Q (F0 m (pc + 1) ls (v :: rest))) : W p l e R s m args below meth c H locs cells slots Q (F0 m pc ls (.int x :: .ref a :: rest)) := by
  refine va_aldq (ws := [(a, .inl (gT G, n, .inr (.inr (.inr (.inr f)))))]) cx.1.1 cx.1.2.1 cx.2.1 (w_one ha) 0 3 rfl rfl (by rw [hx]; exact vp_in_nI hj hn) hdg ?_
  rw [hx, nI_clamp (Nat.lt_trans hj hn), hv]
  exact kk
theorem w_aaldR {n : Nat} {f : Nat → Option Nat} {x : Int32} {v : Value} (cx : Cx p s m args c cc nL own G) (ha : va_at G.1 classes (a, .inl (gR G, n, .inr (.inr (.inr (.inr f))))) H) (j : Nat) (hx : x = nI j) (hj : j < n) (hn : n < 2 ^ 31) (hv : va_rf (f j) = v) (hdg : decode cc pc = .ok (.aaload, 1))
    (kk : W p l e R s m args below meth c H locs cells slots Q (F0 m (pc + 1) ls (v :: rest))) : W p l e R s m args below meth c H locs cells slots Q (F0 m pc ls (.int x :: .ref a :: rest)) := by
  refine va_aldq (ws := [(a, .inl (gR G, n, .inr (.inr (.inr (.inr f)))))]) cx.1.1 cx.1.2.1 cx.2.1 (w_one ha) 0 4 rfl rfl (by rw [hx]; exact vp_in_nI hj hn) hdg ?_
  rw [hx, nI_clamp (Nat.lt_trans hj hn), hv]
  exact kk
theorem w_ldc {v : Int32} (cx : Cx p s m args c cc nL own G) (lk : (.constant own idx v : Cond) ∈ lw_use) (hdg : decode cc pc = .ok (.ldc idx, 2))
    (kk : W p l e R s m args below meth c H locs cells slots Q (F0 m (pc + 2) ls (.int v :: rest))) : W p l e R s m args below meth c H locs cells slots Q (F0 m pc ls rest) := lv_ldc cx.1.1 cx.1.2.1 cx.1.2.2.2.1 (cx.1.2.2.2.2 _ lk) hdg kk
theorem w_ldc2 {v : Int64} (cx : Cx p s m args c cc nL own G) (lk : (.constantLong own idx v : Cond) ∈ lw_use) (hdg : decode cc pc = .ok (.ldc2_w idx, 3))
    (kk : W p l e R s m args below meth c H locs cells slots Q (F0 m (pc + 3) ls (.long v :: rest))) : W p l e R s m args below meth c H locs cells slots Q (F0 m pc ls rest) := lv_ldc2 cx.1.1 cx.1.2.1 cx.1.2.2.2.1 (cx.1.2.2.2.2 _ lk) hdg kk
theorem r_int {v w : Int32} (cx : Cx p s m args c cc nL own G) (hr : meth.sig.returnType = some .int) (hlocks : meth.locks = false) (h : v = w) (hdg : decode cc pc = .ok (.ireturn, 1)) : W p l e R s m args below meth c s.heap [] cells slots (MQ below (Rd (some (.int w))) args s cells slots (fun _ => False)) (F0 m pc ls [.int v]) := by
  subst h
  exact W.iret cx.1.1 cx.1.2.1 hr (fun t ht hW => ⟨rfl, ht⟩) (fun q h => by cases h) hdg hlocks
theorem r_bool {v w : Int32} (cx : Cx p s m args c cc nL own G) (hr : meth.sig.returnType = some .boolean) (hlocks : meth.locks = false) (h : v = w) (h01 : v = 0 ∨ v = 1) (hdg : decode cc pc = .ok (.ireturn, 1)) : W p l e R s m args below meth c s.heap [] cells slots (MQ below (Rd (some (.int w))) args s cells slots (fun _ => False)) (F0 m pc ls [.int v]) := by
  subst h
  exact W.zret cx.1.1 cx.1.2.1 hr (by rcases h01 with e | e <;> subst e <;> rfl) (fun t ht hW => ⟨rfl, ht⟩) (fun q h => by cases h) hdg hlocks
theorem r_long {v w : Int64} (cx : Cx p s m args c cc nL own G) (hr : meth.sig.returnType = some .long) (hlocks : meth.locks = false) (h : v = w) (hdg : decode cc pc = .ok (.lreturn, 1)) : W p l e R s m args below meth c s.heap [] cells slots (MQ below (Rd (some (.long w))) args s cells slots (fun _ => False)) (F0 m pc ls [.long v]) := by
  subst h
  exact W.lret cx.1.1 cx.1.2.1 hr (fun t ht hW => ⟨rfl, ht⟩) (fun q h => by cases h) hdg hlocks
theorem r_ref {v w : Value} {n : String} (cx : Cx p s m args c cc nL own G) (hr : meth.sig.returnType = some (.object n)) (hlocks : meth.locks = false) (h : v = w) (hv : v = .null ∨ ∃ a, v = .ref a) (hdg : decode cc pc = .ok (.areturn, 1)) : W p l e R s m args below meth c s.heap [] cells slots (MQ below (Rd (some w)) args s cells slots (fun _ => False)) (F0 m pc ls [v]) := by
  subst h
  exact W.aret cx.1.1 cx.1.2.1 hr (Or.inl ⟨_, rfl⟩) hv (fun t ht hW => ⟨rfl, ht⟩) (fun q h => by cases h) hdg hlocks
end RB
