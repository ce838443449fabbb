theorem nIlt {n m : Nat} (h : n < 2 ^ 31) (hm : m < 2 ^ 31) (h2 : nI n < nI m) : n < m := (nI_ltI h hm).mp h2
theorem WF_addR {S : St} (h : WF S) (hn : nr S < 300) {i k : Nat} {er sp : Int32} : WF (addR S i k er sp) :=
  ((((((((h.inc hn).setA (k := 13) _ _ (by decide) (by decide) (by decide) (by decide)).setA (k := 14) _ _ (by decide) (by decide) (by decide) (by decide)).setA (k := 15) _ _ (by decide) (by decide) (by decide) (by decide)).setA (k := 16) _ _ (by decide) (by decide) (by decide) (by decide)).setA (k := 17) _ _ (by decide) (by decide) (by decide) (by decide)).setA (k := 18) _ _ (by decide) (by decide) (by decide) (by decide)).setA (k := 20) _ _ (by decide) (by decide) (by decide) (by decide))
theorem WB_addR {S : St} (hW : WF S) (h : WB S) {i k : Nat} (hk : k < nt S) {er sp : Int32} : WB (addR S i k er sp) := by
  refine WB.add (v := ar S 5 k) h rfl ?_ (hW.la hk)
  unfold addR
  rw [ar_upd, ar_diff _ _ _ _ (by decide), ar_diff _ _ _ _ (by decide), ar_diff _ _ _ _ (by decide), ar_diff _ _ _ _ (by decide), ar_diff _ _ _ _ (by decide), ar_diff _ _ _ _ (by decide), ar_setRf]
theorem nr_uns (u : Nat) : ∀ (q k : Nat) (Z : St), nr (r_X2_unsettleAllBasedOn u q k Z) = nr Z := by
  intro q
  induction q with
  | zero => intro k Z; rw [r_X2_unsettleAllBasedOn]
  | succ q ih =>
    intro k Z
    rw [r_X2_unsettleAllBasedOn]
    split <;> rw [ih] <;> rfl
theorem nr_takeTrial (S : St) (i n : Nat) : nr (f_X2_takeTrial S i n) = nr S := by
  unfold f_X2_takeTrial
  repeat' split
  all_goals first | rfl | (unfold f_X2_unsettleAllBasedOn; rw [nr_uns]; rfl)
set_option maxRecDepth 100000 in
theorem tl_X2_trial {p : Program} {l : Launch} {e : Env} {s : State} {m : MethodId} {args : Array Value} {below : List Frame} {meth : Method} {c : Code} {H : Heap} {locs : List Loc} {ls : Array Slot} {G : GG} {A : Nat → Prop} {ad : Nat → Nat} {S : St} {E : Ex} {i k : Nat} {er sp : Int32} (hW : WF S) (hBa : WB S) (hZ : ZR S) (hi : i < nt S) (hk : k < nt S) (hn : nr S < 300) (cx : Cx p s m args c cX2_trial 11 yX2_trial.cls G) (hr : meth.sig.returnType = some .int) (hlk : meth.locks = false) (hA : ∀ q, s.heap.size ≤ q → A q) (hP : pw G A ad (cX G ad S E) H) (hS : va_S A s.heap H locs) (hl : lv_has ls 11 [(0, .ref (ad 0)), (1, .int (nI i)), (2, .int (nI k)), (5, .ref (ad (10 + 2 * i))), (6, .ref (ad (10 + 2 * k))), (8, .int sp), (9, .int er)]) : W p l e (rmM 7 200 1 10) s m args below meth c H locs 0 0 (MQ below (Qw (some (.int (nI (nr S), f_X2_takeTrial (addR S i k er sp) i (nr S)).1)) G A (fun ad' H => ad' 0 = ad 0 ∧ pw G A ad' (cX G ad' (nI (nr S), f_X2_takeTrial (addR S i k er sp) i (nr S)).2 E) H)) args s 1 10 A) (F0 m 157 ls []) := by
  have hx := cx.1.1
  have hb := cx.1.2.1
  refine w_new (100 + nr S) [.int 0, .int 0, .int 0, .null, .int 0, .int 0, .int 0, .int 0, .int 0, .int 0] cx (ci := 1) rfl iX1 tyX1_ok k_43 k_240 k_32 hP hS hA cX_freeR (fun j hj => by rcases (show j = 0 ∨ j = 1 ∨ j = 2 ∨ j = 3 ∨ j = 4 ∨ j = 5 ∨ j = 6 ∨ j = 7 ∨ j = 8 ∨ j = 9 by omega) with rfl | rfl | rfl | rfl | rfl | rfl | rfl | rfl | rfl | rfl <;> rfl) (Nat.le_of_ble_eq_true rfl) (Nat.le_of_ble_eq_true rfl) dX2_trial_157 (fun q1 H hP hS => ?_)
  have h40 := hW.t
  have a0 : ∀ j, j ≠ 100 + nr S → va_up ad (100 + nr S) q1 j = ad j := fun j h => va_up_ne _ _ h
  have g0 : va_at G.1 classes (ad 0, .inr (2, [.ref (ad 1), .ref (ad 2), .ref (ad 3), .ref (ad 4), .ref (ad 5), .ref (ad 6), .ref (ad 7), .ref (ad 8), .ref (ad 9), .int (sc S 0), .int (nI (nt S)), .int (nI (nr S)), .int (sc S 1)])) H := by have h9 := hP.pa 0 _ ((va_up_ne _ _ (by omega)).trans (cX_lo 0 (by decide) rfl)); rw [a0 0 (by omega)] at h9; exact h9
  have gk : va_at G.1 classes (ad (10 + 2 * k), eT ad S k) H := by have h9 := hP.pa (10 + 2 * k) _ ((va_up_ne _ _ (by omega)).trans (cX_T hk hW.t)); rw [a0 (10 + 2 * k) (by omega)] at h9; exact h9
  refine lv_dup hx hb dX2_trial_160 rfl ?_
  refine lv_aload_n hx hb dX2_trial_161 rfl (lv_at hl 0 rfl) ?_
  refine w_get cx (ci := 2) rfl iX2 g0 11 (by decide) k_56 (v := .int (nI (nr S))) rfl dX2_trial_162 ?_
  refine lv_iload_n hx hb dX2_trial_165 rfl (lv_at hl 1 rfl) ?_
  refine lv_iload_n hx hb dX2_trial_166 rfl (lv_at hl 2 rfl) ?_
  refine lv_aload hx hb dX2_trial_167 (lv_at hl 4 rfl) ?_
  have hfin : ∀ (H1 : Heap) (locs1 : List Loc), pw G A (va_up ad (100 + nr S) q1) (va_up (va_up (cX G ad S E) (100 + nr S) (some (.inr (1, [.int 0, .int 0, .int 0, .null, .int 0, .int 0, .int 0, .int 0, .int 0, .int 0])))) (100 + nr S) (some (.inr (1, [.int (nI (nr S)), .int (nI i), .int (nI k), rT ad (ar S 5 k), .int (sc S 0), .int er, .int sp, .int 1, .int 0, .int 0])))) H1 → va_S A s.heap H1 locs1 → W p l e (rmM 7 200 1 10) s m args below meth c H1 locs1 1 10 (MQ below (Qw (some (.int (nI (nr S), f_X2_takeTrial (addR S i k er sp) i (nr S)).1)) G A (fun ad1 H => ad1 0 = ad 0 ∧ pw G A ad1 (cX G ad1 (nI (nr S), f_X2_takeTrial (addR S i k er sp) i (nr S)).2 E) H)) args s 1 10 A) (F0 m 183 ls [.ref q1]) := by
    intro H locs hP hS
    obtain ⟨a2, ea2⟩ : ∃ zz, zz = va_up ad (100 + nr S) q1 := ⟨_, rfl⟩
    rw [← ea2] at hP a0
    have hT : a2 (100 + nr S) = q1 := by rw [ea2, va_up_self]
    clear ea2
    refine lv_astore (lv' := [(10, .ref q1), (0, .ref (ad 0)), (1, .int (nI i)), (2, .int (nI k)), (5, .ref (ad (10 + 2 * i))), (6, .ref (ad (10 + 2 * k))), (8, .int sp), (9, .int er)]) hx hb dX2_trial_183 hl (by decide) rfl (fun ls hl => ?_)
    rw [← a0 0 (by omega), ← a0 (10 + 2 * i) (by omega), ← hT] at hl
    rw [← a0 0 (by omega)]
    refine lv_aload_n hx hb dX2_trial_185 rfl (lv_at hl 1 rfl) ?_
    refine w_get (fs := [.ref (ad 1), .ref (ad 2), .ref (ad 3), .ref (ad 4), .ref (ad 5), .ref (ad 6), .ref (ad 7), .ref (ad 8), .ref (ad 9), .int (sc S 0), .int (nI (nt S)), .int (nI (nr S)), .int (sc S 1)]) cx (ci := 2) rfl iX2 (hP.pa 0 _ (by rw [va_up_ne _ _ (by omega), va_up_ne _ _ (by omega)]; exact cX_lo 0 (by decide) rfl)) 1 (by decide) k_46 (v := .ref (ad 2)) rfl dX2_trial_186 ?_
    rw [← a0 2 (by omega)]
    refine lv_aload_n hx hb dX2_trial_189 rfl (lv_at hl 1 rfl) ?_
    refine w_get (fs := [.ref (ad 1), .ref (ad 2), .ref (ad 3), .ref (ad 4), .ref (ad 5), .ref (ad 6), .ref (ad 7), .ref (ad 8), .ref (ad 9), .int (sc S 0), .int (nI (nt S)), .int (nI (nr S)), .int (sc S 1)]) cx (ci := 2) rfl iX2 (hP.pa 0 _ (by rw [va_up_ne _ _ (by omega), va_up_ne _ _ (by omega)]; exact cX_lo 0 (by decide) rfl)) 11 (by decide) k_56 (v := .int (nI (nr S))) rfl dX2_trial_190 ?_
    refine lv_aload hx hb dX2_trial_193 (lv_at hl 0 rfl) ?_
    refine w_aastR (i := 2) (j0 := 100 + nr S) (n := 300) (f := fRs ad S) cx hP hS (by rw [va_up_ne _ _ (by omega), va_up_ne _ _ (by omega)]; exact cX_lo 2 (by decide) rfl) (va_up_self _ _ _) rfl (nr S) rfl hn (by decide) dX2_trial_195 (fun H locs hP hS => ?_)
    refine lv_aload_n hx hb dX2_trial_196 rfl (lv_at hl 1 rfl) ?_
    refine lv_dup hx hb dX2_trial_197 rfl ?_
    refine w_get (fs := [.ref (ad 1), .ref (ad 2), .ref (ad 3), .ref (ad 4), .ref (ad 5), .ref (ad 6), .ref (ad 7), .ref (ad 8), .ref (ad 9), .int (sc S 0), .int (nI (nt S)), .int (nI (nr S)), .int (sc S 1)]) cx (ci := 2) rfl iX2 (hP.pa 0 _ (by rw [va_up_ne _ _ (by omega), va_up_ne _ _ (by omega), va_up_ne _ _ (by omega)]; exact cX_lo 0 (by decide) rfl)) 11 (by decide) k_56 (v := .int (nI (nr S))) rfl dX2_trial_198 ?_
    refine lv_iconst (v := 1) hx hb dX2_trial_201 (by decide) ?_
    refine lv_iadd hx hb dX2_trial_202 ?_
    refine w_nrm (y := nI (nr S + 1)) (nI_1 _) ?_
    refine w_put (i := 0) (fs := [.ref (ad 1), .ref (ad 2), .ref (ad 3), .ref (ad 4), .ref (ad 5), .ref (ad 6), .ref (ad 7), .ref (ad 8), .ref (ad 9), .int (sc S 0), .int (nI (nt S)), .int (nI (nr S)), .int (sc S 1)]) cx (ci := 2) rfl iX2 tyX2_ok nmX2 hP hS (by rw [va_up_ne _ _ (by omega), va_up_ne _ _ (by omega), va_up_ne _ _ (by omega)]; exact cX_lo 0 (by decide) rfl) 11 (by decide) k_56 rfl rfl rfl rfl (Nat.lt_of_lt_of_eq (show 11 < 13 by decide) rfl) dX2_trial_203 (fun H locs hP hS => ?_)
    have hP := hP.eq (cX_addR (i := i) (k := k) (er := er) (sp := sp) (E := E) hZ hT a0 (fun j hj h => (hW.la hj h).2) (fun j hj h => (hBa.ba hj h).2) hk hW.t (by rw [va_up_self]; rfl) (by rw [va_up_ne _ _ (by omega), va_up_self, hT]) (by rw [va_up_ne _ _ (by omega), va_up_ne _ _ (by omega), va_up_self]) (fun j h0 h1 h2 => by rw [va_up_ne _ _ h0, va_up_ne _ _ h1, va_up_ne _ _ h2, va_up_ne _ _ h2]))
    have hW1 : WF (addR S i k er sp) := WF_addR hW hn
    have hB1 : WB (addR S i k er sp) := WB_addR hW hBa hk
    refine lv_aload_n hx hb dX2_trial_206 rfl (lv_at hl 1 rfl) ?_
    refine lv_aload hx hb dX2_trial_207 (lv_at hl 4 rfl) ?_
    refine lv_aload hx hb dX2_trial_209 (lv_at hl 0 rfl) ?_
    refine w_callVW (As := [.ref (a2 (10 + 2 * i)), .ref (a2 (100 + nr S))]) (rest := []) (st := []) cx (c_X2_takeTrial l G a2 (addR S i k er sp) E hW1 hB1 (i := i) hi (n := nr S) (Nat.lt_succ_self _)) k_288 cal_yX2_takeTrial (ci := 2) rfl (hP.pa _ _ (cX_lo 0 (by decide) rfl)) hP hS hA rfl ⟨Nat.le_of_ble_eq_true rfl, Nat.le_of_ble_eq_true rfl⟩ hl.1 (Nat.le_of_ble_eq_true rfl) ⟨Nat.le_of_ble_eq_true rfl, Nat.le_of_ble_eq_true rfl⟩ rfl rfl dX2_trial_211 (fun ad1 H locs hX1 hP hz1 hq1 hS => ?_)
    rw [hX1] at hP
    refine lv_aload hx hb dX2_trial_214 (lv_at hl 0 rfl) ?_
    refine w_get cx (ci := 1) rfl iX1 (hP.pa _ _ (cX_R (n := nr S) (by rw [nr_takeTrial]; exact Nat.lt_succ_self _))) 0 (by decide) k_246 (v := .int (nI (nr S))) rfl dX2_trial_216 ?_
    exact x_int cx hr hlk (ad' := a2) ⟨rfl, hP⟩ hS dX2_trial_219
  by_cases c_1 : ar S 5 k = -1000000
  · rw [rT_null c_1] at hfin
    refine w_get cx (ci := 0) rfl iX0 gk 9 (by decide) k_122 (v := .null) (congrArg some (rT_null c_1)) dX2_trial_169 ?_
    refine lv_aload_n hx hb dX2_trial_172 rfl (lv_at hl 0 rfl) ?_
    refine w_get cx (ci := 2) rfl iX2 g0 9 (by decide) k_54 (v := .int (sc S 0)) rfl dX2_trial_173 ?_
    refine lv_iload hx hb dX2_trial_176 (lv_at hl 6 rfl) ?_
    refine lv_iload hx hb dX2_trial_178 (lv_at hl 5 rfl) ?_
    refine w_callI (a := va_up ad (100 + nr S) q1 (100 + nr S)) (ad := va_up ad (100 + nr S) q1) (C := va_up (cX G ad S E) (100 + nr S) (some (.inr (1, [.int 0, .int 0, .int 0, .null, .int 0, .int 0, .int 0, .int 0, .int 0, .int 0])))) (As := [.int (nI (nr S)), .int (nI i), .int (nI k), .null, .int (sc S 0), .int er, .int sp]) (rest := [.ref q1]) cx (c_X1_init_n l G (va_up ad (100 + nr S) q1) _ (i := 100 + nr S) (va_up_self _ _ _) (nI (nr S)) (nI i) (nI k) (sc S 0) er sp) k_241 cal_yX1_init hP hS hA rfl ⟨Nat.le_of_ble_eq_true rfl, Nat.le_of_ble_eq_true rfl⟩ hl.1 (Nat.le_of_ble_eq_true rfl) ⟨Nat.le_of_ble_eq_true rfl, Nat.le_of_ble_eq_true rfl⟩ (by rw [va_up_self]; rfl) dX2_trial_180 (fun a2 H locs hX1 hP hz1 hq1 hS => ?_)
    rw [hX1] at hP
    exact hfin _ _ hP hS
  · rw [rT_ref c_1] at hfin
    refine w_get cx (ci := 0) rfl iX0 gk 9 (by decide) k_122 (v := .ref (ad (100 + ix (ar S 5 k)))) (congrArg some (rT_ref c_1)) dX2_trial_169 ?_
    refine lv_aload_n hx hb dX2_trial_172 rfl (lv_at hl 0 rfl) ?_
    refine w_get cx (ci := 2) rfl iX2 g0 9 (by decide) k_54 (v := .int (sc S 0)) rfl dX2_trial_173 ?_
    refine lv_iload hx hb dX2_trial_176 (lv_at hl 6 rfl) ?_
    refine lv_iload hx hb dX2_trial_178 (lv_at hl 5 rfl) ?_
    refine w_callI (a := va_up ad (100 + nr S) q1 (100 + nr S)) (ad := va_up ad (100 + nr S) q1) (C := va_up (cX G ad S E) (100 + nr S) (some (.inr (1, [.int 0, .int 0, .int 0, .null, .int 0, .int 0, .int 0, .int 0, .int 0, .int 0])))) (As := [.int (nI (nr S)), .int (nI i), .int (nI k), .ref (ad (100 + ix (ar S 5 k))), .int (sc S 0), .int er, .int sp]) (rest := [.ref q1]) cx (c_X1_init_r l G (va_up ad (100 + nr S) q1) _ (i := 100 + nr S) (va_up_self _ _ _) (nI (nr S)) (nI i) (nI k) (ad (100 + ix (ar S 5 k))) (sc S 0) er sp) k_241 cal_yX1_init hP hS hA rfl ⟨Nat.le_of_ble_eq_true rfl, Nat.le_of_ble_eq_true rfl⟩ hl.1 (Nat.le_of_ble_eq_true rfl) ⟨Nat.le_of_ble_eq_true rfl, Nat.le_of_ble_eq_true rfl⟩ (by rw [va_up_self]; rfl) dX2_trial_180 (fun a2 H locs hX1 hP hz1 hq1 hS => ?_)
    rw [hX1] at hP
    exact hfin _ _ hP hS
def f_X2_thing (S : St) (x y z u : Int32) : Int32 × St :=
  if f_X2_isWithin x 0 3 = 0 then ((-2), S)
  else if f_X2_isWithin y 0 100 = 0 then ((-2), S)
  else if f_X2_isWithin z 1 4000 = 0 then ((-2), S)
  else if f_X2_isOwner u = 0 then ((-1), S)
  else if nI (nt S) < 40 then (nI (nt S), addT S x y z u)
  else ((-4), S)
set_option maxRecDepth 20000 in
theorem c_X2_thing (l : Launch) (G : GG) (ad : Nat → Nat) (S : St) (E : Ex) (hW : WF S) (hZ : ZT S) (x y z u : Int32) : MW l yX2_thing cX2_thing 6 (some .int) 2 42 2 13 G ad (cX G ad S E) [.ref (ad 0), .int x, .int y, .int z, .int u] (some (.int (f_X2_thing S x y z u).1)) (fun ad' => cX G ad' (f_X2_thing S x y z u).2 E) (fun ad' => ad' 0 = ad 0) := by
  refine MW.of [(0, .ref (ad 0)), (1, .int x), (2, .int y), (3, .int z), (4, .int u)] (by decide) (Nat.le_of_ble_eq_true rfl) rfl ?_
  intro p e s m args below meth c A cx hr hlk hnm hA hP ls hl
  have hx := cx.1.1
  have hb := cx.1.2.1
  have hS : va_S A s.heap s.heap [] := va_S.rf
  refine lv_iload_n hx hb dX2_thing_0 rfl (lv_at hl 1 rfl) ?_
  refine lv_iconst (v := 0) hx hb dX2_thing_1 (by decide) ?_
  refine lv_iconst (v := 3) hx hb dX2_thing_2 (by decide) ?_
  refine w_callS (As := [.int x, .int 0, .int 3]) (rest := []) (st := [.int (f_X2_isWithin x 0 3)]) cx (c_X2_isWithin l G ad _ x 0 3) k_91 cal_yX2_isWithin hP.pa rfl ⟨Nat.le_of_ble_eq_true rfl, Nat.le_of_ble_eq_true rfl⟩ hl.1 (Nat.le_of_ble_eq_true rfl) ⟨Nat.zero_le _, Nat.zero_le _⟩ rfl rfl dX2_thing_3 ?_
  refine lv_if_ne (tgt := 12) hx hb dX2_thing_6 (by decide) (fun c_1 => ?_) (fun c_1 => ?_)
  · refine lv_iload_n hx hb dX2_thing_12 rfl (lv_at hl 2 rfl) ?_
    refine lv_iconst (v := 0) hx hb dX2_thing_13 (by decide) ?_
    refine lv_bipush (v := 100) hx hb dX2_thing_14 (by decide) ?_
    refine w_callS (As := [.int y, .int 0, .int 100]) (rest := []) (st := [.int (f_X2_isWithin y 0 100)]) cx (c_X2_isWithin l G ad _ y 0 100) k_91 cal_yX2_isWithin hP.pa rfl ⟨Nat.le_of_ble_eq_true rfl, Nat.le_of_ble_eq_true rfl⟩ hl.1 (Nat.le_of_ble_eq_true rfl) ⟨Nat.zero_le _, Nat.zero_le _⟩ rfl rfl dX2_thing_16 ?_
    refine lv_if_ne (tgt := 25) hx hb dX2_thing_19 (by decide) (fun c_2 => ?_) (fun c_2 => ?_)
    · refine lv_iload_n hx hb dX2_thing_25 rfl (lv_at hl 3 rfl) ?_
      refine lv_iconst (v := 1) hx hb dX2_thing_26 (by decide) ?_
      refine lv_sipush (v := 4000) hx hb dX2_thing_27 (by decide) ?_
      refine w_callS (As := [.int z, .int 1, .int 4000]) (rest := []) (st := [.int (f_X2_isWithin z 1 4000)]) cx (c_X2_isWithin l G ad _ z 1 4000) k_91 cal_yX2_isWithin hP.pa rfl ⟨Nat.le_of_ble_eq_true rfl, Nat.le_of_ble_eq_true rfl⟩ hl.1 (Nat.le_of_ble_eq_true rfl) ⟨Nat.zero_le _, Nat.zero_le _⟩ rfl rfl dX2_thing_30 ?_
      refine lv_if_ne (tgt := 39) hx hb dX2_thing_33 (by decide) (fun c_3 => ?_) (fun c_3 => ?_)
      · refine lv_iload hx hb dX2_thing_39 (lv_at hl 4 rfl) ?_
        refine w_callS (As := [.int u]) (rest := []) (st := [.int (f_X2_isOwner u)]) cx (c_X2_isOwner l G ad _ u) k_98 cal_yX2_isOwner hP.pa rfl ⟨Nat.le_of_ble_eq_true rfl, Nat.le_of_ble_eq_true rfl⟩ hl.1 (Nat.le_of_ble_eq_true rfl) ⟨Nat.zero_le _, Nat.zero_le _⟩ rfl rfl dX2_thing_41 ?_
        refine lv_if_ne (tgt := 49) hx hb dX2_thing_44 (by decide) (fun c_4 => ?_) (fun c_4 => ?_)
        · refine lv_aload_n hx hb dX2_thing_49 rfl (lv_at hl 0 rfl) ?_
          refine w_get cx (ci := 2) rfl iX2 (hP.pa _ _ (cX_lo 0 (by decide) rfl)) 10 (by decide) k_55 (v := .int (nI (nt S))) rfl dX2_thing_50 ?_
          refine lv_bipush (v := 40) hx hb dX2_thing_53 (by decide) ?_
          refine lv_icmp_lt (tgt := 61) hx hb dX2_thing_55 (by decide) (fun c_5 => ?_) (fun c_5 => ?_)
          · refine lv_aload_n hx hb dX2_thing_61 rfl (lv_at hl 0 rfl) ?_
            refine w_get cx (ci := 2) rfl iX2 (hP.pa _ _ (cX_lo 0 (by decide) rfl)) 10 (by decide) k_55 (v := .int (nI (nt S))) rfl dX2_thing_62 ?_
            refine lv_istore (lv' := [(5, .int (nI (nt S))), (0, .ref (ad 0)), (1, .int x), (2, .int y), (3, .int z), (4, .int u)]) hx hb dX2_thing_65 hl (by decide) rfl (fun ls hl => ?_)
            refine lv_aload_n hx hb dX2_thing_67 rfl (lv_at hl 1 rfl) ?_
            refine w_get cx (ci := 2) rfl iX2 (hP.pa _ _ (cX_lo 0 (by decide) rfl)) 0 (by decide) k_45 (v := .ref (ad 1)) rfl dX2_thing_68 ?_
            refine lv_iload hx hb dX2_thing_71 (lv_at hl 0 rfl) ?_
            have hn : nt S < 40 := nIlt (Nat.lt_of_le_of_lt hW.t (by decide)) (by decide) c_5
            rw [show f_X2_thing S x y z u = (nI (nt S), addT S x y z u) from by rw [f_X2_thing, if_neg c_1, if_neg c_2, if_neg c_3, if_neg c_4, if_pos c_5]]
            refine w_new (10 + 2 * nt S) [.int 0, .int 0, .int 0, .null, .int 0, .int 0, .int 0, .int 0, .int 0, .null] cx (ci := 0) rfl iX0 tyX0_ok k_41 k_101 k_30 hP hS hA (cX_freeT hn) (fun j hj => by rcases (show j = 0 ∨ j = 1 ∨ j = 2 ∨ j = 3 ∨ j = 4 ∨ j = 5 ∨ j = 6 ∨ j = 7 ∨ j = 8 ∨ j = 9 by omega) with rfl | rfl | rfl | rfl | rfl | rfl | rfl | rfl | rfl | rfl <;> rfl) (Nat.le_of_ble_eq_true rfl) (Nat.le_of_ble_eq_true rfl) dX2_thing_73 (fun q1 H hP hS => ?_)
            refine lv_dup hx hb dX2_thing_76 rfl ?_
            refine lv_iload_n hx hb dX2_thing_77 rfl (lv_at hl 2 rfl) ?_
            refine lv_iload_n hx hb dX2_thing_78 rfl (lv_at hl 3 rfl) ?_
            refine lv_iload_n hx hb dX2_thing_79 rfl (lv_at hl 4 rfl) ?_
            refine lv_iload hx hb dX2_thing_80 (lv_at hl 5 rfl) ?_
            refine w_callI (a := va_up ad (10 + 2 * nt S) q1 (10 + 2 * nt S)) (ad := va_up ad (10 + 2 * nt S) q1) (C := va_up (cX G ad S E) (10 + 2 * nt S) (some (.inr (0, [.int 0, .int 0, .int 0, .null, .int 0, .int 0, .int 0, .int 0, .int 0, .null])))) (As := [.int x, .int y, .int z, .int u]) (rest := [.ref q1, .int (nI (nt S)), .ref (ad 1)]) cx (c_X0_init l G (va_up ad (10 + 2 * nt S) q1) _ (i := 10 + 2 * nt S) (j := 11 + 2 * nt S) (by omega) (va_up_self _ _ _) ((va_up_ne _ _ (show 11 + 2 * nt S ≠ 10 + 2 * nt S by omega)).trans (cX_freeD hn)) x y z u) k_102 cal_yX0_init hP hS hA rfl ⟨Nat.le_of_ble_eq_true rfl, Nat.le_of_ble_eq_true rfl⟩ hl.1 (Nat.le_of_ble_eq_true rfl) ⟨Nat.le_of_ble_eq_true rfl, Nat.le_of_ble_eq_true rfl⟩ (by rw [va_up_self]; rfl) dX2_thing_82 (fun a2 H locs hX1 hP hz1 hq1 hS => ?_)
            obtain ⟨q2, hX1⟩ := hX1
            have hT : a2 (10 + 2 * nt S) = q1 := by rw [hX1, va_up_ne _ _ (by omega), va_up_self]
            have hD : a2 (11 + 2 * nt S) = q2 := by rw [hX1, va_up_self]
            have ha : ∀ k, k ≠ 10 + 2 * nt S → k ≠ 11 + 2 * nt S → a2 k = ad k := fun k h1 h2 => by rw [hX1, va_up_ne _ _ h2, va_up_ne _ _ h1]
            clear hX1
            rw [show ad 1 = a2 1 from (ha 1 (by omega) (by omega)).symm]
            rw [show ad 0 = a2 0 from (ha 0 (by omega) (by omega)).symm] at hl ⊢
            refine w_aastT (i := 1) (j0 := 10 + 2 * nt S) (n := 40) (f := fTs ad S) cx hP hS (by rw [va_up_ne _ _ (by omega), va_up_ne _ _ (by omega), va_up_ne _ _ (by omega)]; exact cX_lo 1 (by decide) rfl) (by rw [va_up_ne _ _ (by omega), va_up_self]) hT (nt S) rfl hn (by decide) dX2_thing_85 (fun H locs hP hS => ?_)
            refine lv_aload_n hx hb dX2_thing_86 rfl (lv_at hl 1 rfl) ?_
            refine lv_dup hx hb dX2_thing_87 rfl ?_
            refine w_get (fs := [.ref (ad 1), .ref (ad 2), .ref (ad 3), .ref (ad 4), .ref (ad 5), .ref (ad 6), .ref (ad 7), .ref (ad 8), .ref (ad 9), .int (sc S 0), .int (nI (nt S)), .int (nI (nr S)), .int (sc S 1)]) cx (ci := 2) rfl iX2 (hP.pa 0 _ (by rw [va_up_ne _ _ (by omega), va_up_ne _ _ (by omega), va_up_ne _ _ (by omega), va_up_ne _ _ (by omega)]; exact cX_lo 0 (by decide) rfl)) 10 (by decide) k_55 (v := .int (nI (nt S))) rfl dX2_thing_88 ?_
            refine lv_iconst (v := 1) hx hb dX2_thing_91 (by decide) ?_
            refine lv_iadd hx hb dX2_thing_92 ?_
            refine w_nrm (y := nI (nt S + 1)) (nI_1 _) ?_
            refine w_put (i := 0) (fs := [.ref (ad 1), .ref (ad 2), .ref (ad 3), .ref (ad 4), .ref (ad 5), .ref (ad 6), .ref (ad 7), .ref (ad 8), .ref (ad 9), .int (sc S 0), .int (nI (nt S)), .int (nI (nr S)), .int (sc S 1)]) cx (ci := 2) rfl iX2 tyX2_ok nmX2 hP hS (by rw [va_up_ne _ _ (by omega), va_up_ne _ _ (by omega), va_up_ne _ _ (by omega), va_up_ne _ _ (by omega)]; exact cX_lo 0 (by decide) rfl) 10 (by decide) k_55 rfl rfl rfl rfl (Nat.lt_of_lt_of_eq (show 10 < 13 by decide) rfl) dX2_thing_93 (fun H locs hP hS => ?_)
            refine lv_iload hx hb dX2_thing_96 (lv_at hl 0 rfl) ?_
            refine x_int cx hr hlk (ad' := a2) ⟨rfl, hP.eq (cX_addT hn hZ hT hD ha (by rw [va_up_self]; rfl) (by rw [va_up_ne _ _ (by omega), va_up_self]) (by rw [va_up_ne _ _ (by omega), va_up_ne _ _ (by omega), va_up_ne _ _ (by omega), va_up_self, hD]) (by rw [va_up_ne _ _ (by omega), va_up_ne _ _ (by omega), va_up_self]) (fun k h0 h1 h2 h3 => by rw [va_up_ne _ _ h0, va_up_ne _ _ h1, va_up_ne _ _ h3, va_up_ne _ _ h2, va_up_ne _ _ h2]))⟩ hS dX2_thing_98
          · refine lv_bipush (v := -4) hx hb dX2_thing_58 (by decide) ?_
            rw [show f_X2_thing S x y z u = ((-4), S) from by rw [f_X2_thing, if_neg c_1, if_neg c_2, if_neg c_3, if_neg c_4, if_neg c_5]]
            refine W.widen (k := 2) (n := 13) (Nat.le_of_ble_eq_true rfl) (Nat.le_of_ble_eq_true rfl) ?_
            exact x_int cx hr hlk (ad' := ad) ⟨rfl, hP⟩ hS dX2_thing_60
        · refine lv_iconst (v := -1) hx hb dX2_thing_47 (by decide) ?_
          rw [show f_X2_thing S x y z u = ((-1), S) from by rw [f_X2_thing, if_neg c_1, if_neg c_2, if_neg c_3, if_pos c_4]]
          refine W.widen (k := 2) (n := 13) (Nat.le_of_ble_eq_true rfl) (Nat.le_of_ble_eq_true rfl) ?_
          exact x_int cx hr hlk (ad' := ad) ⟨rfl, hP⟩ hS dX2_thing_48
      · refine lv_bipush (v := -2) hx hb dX2_thing_36 (by decide) ?_
        rw [show f_X2_thing S x y z u = ((-2), S) from by rw [f_X2_thing, if_neg c_1, if_neg c_2, if_pos c_3]]
        refine W.widen (k := 2) (n := 13) (Nat.le_of_ble_eq_true rfl) (Nat.le_of_ble_eq_true rfl) ?_
        exact x_int cx hr hlk (ad' := ad) ⟨rfl, hP⟩ hS dX2_thing_38
    · refine lv_bipush (v := -2) hx hb dX2_thing_22 (by decide) ?_
      rw [show f_X2_thing S x y z u = ((-2), S) from by rw [f_X2_thing, if_neg c_1, if_pos c_2]]
      refine W.widen (k := 2) (n := 13) (Nat.le_of_ble_eq_true rfl) (Nat.le_of_ble_eq_true rfl) ?_
      exact x_int cx hr hlk (ad' := ad) ⟨rfl, hP⟩ hS dX2_thing_24
  · refine lv_bipush (v := -2) hx hb dX2_thing_9 (by decide) ?_
    rw [show f_X2_thing S x y z u = ((-2), S) from by rw [f_X2_thing, if_pos c_1]]
    refine W.widen (k := 2) (n := 13) (Nat.le_of_ble_eq_true rfl) (Nat.le_of_ble_eq_true rfl) ?_
    exact x_int cx hr hlk (ad' := ad) ⟨rfl, hP⟩ hS dX2_thing_11
set_option maxRecDepth 1000000 in
theorem c_X2_trial_out (l : Launch) (G : GG) (ad : Nat → Nat) (S : St) (E : Ex) (hW : WF S) {n : Int32} (hn : nT S n) {y : Int32} (hy : nT S y) (x z : Int32) : MW l yX2_trial cX2_trial 11 (some .int) 7 200 1 10 G ad (cX G ad S E) [.ref (ad 0), .int n, .int y, .int x, .int z] (some (.int (((-1, S) : Int32 × St)).1)) (fun ad' => cX G ad' (((-1, S) : Int32 × St)).2 E) (fun ad' => ad' 0 = ad 0) := by
  refine MW.of [(0, .ref (ad 0)), (1, .int n), (2, .int y), (3, .int x), (4, .int z)] (by decide) (Nat.le_of_ble_eq_true rfl) rfl ?_
  intro p e s m args below meth c A cx hr hlk hnm hA hP ls hl
  have hx := cx.1.1
  have hb := cx.1.2.1
  have hS : va_S A s.heap s.heap [] := va_S.rf
  refine lv_aload_n hx hb dX2_trial_0 rfl (lv_at hl 0 rfl) ?_
  refine lv_iload_n hx hb dX2_trial_1 rfl (lv_at hl 1 rfl) ?_
  refine w_callV (As := [.int n]) (rest := []) (st := [.null]) cx (c_X2_thingAt_out l G ad S E hW hn) k_149 cal_yX2_thingAt (ci := 2) rfl (hP.pa _ _ (cX_lo 0 (by decide) rfl)) hP.pa rfl ⟨Nat.le_of_ble_eq_true rfl, Nat.le_of_ble_eq_true rfl⟩ hl.1 (Nat.le_of_ble_eq_true rfl) ⟨Nat.zero_le _, Nat.zero_le _⟩ rfl rfl dX2_trial_2 ?_
  refine lv_astoreN (lv' := [(5, .null), (0, .ref (ad 0)), (1, .int n), (2, .int y), (3, .int x), (4, .int z)]) hx hb dX2_trial_5 hl (by decide) rfl (fun ls hl => ?_)
  refine lv_aload_n hx hb dX2_trial_7 rfl (lv_at hl 1 rfl) ?_
  refine lv_iload_n hx hb dX2_trial_8 rfl (lv_at hl 3 rfl) ?_
  refine w_callV (As := [.int y]) (rest := []) (st := [.null]) cx (c_X2_thingAt_out l G ad S E hW hy) k_149 cal_yX2_thingAt (ci := 2) rfl (hP.pa _ _ (cX_lo 0 (by decide) rfl)) hP.pa rfl ⟨Nat.le_of_ble_eq_true rfl, Nat.le_of_ble_eq_true rfl⟩ hl.1 (Nat.le_of_ble_eq_true rfl) ⟨Nat.zero_le _, Nat.zero_le _⟩ rfl rfl dX2_trial_9 ?_
  refine lv_astoreN (lv' := [(6, .null), (5, .null), (0, .ref (ad 0)), (1, .int n), (2, .int y), (3, .int x), (4, .int z)]) hx hb dX2_trial_12 hl (by decide) rfl (fun ls hl => ?_)
  refine lv_aloadN hx hb dX2_trial_14 (lv_at hl 1 rfl) ?_
  refine lv_ifnullN (tgt := 24) hx hb dX2_trial_16 (by decide) ?_
  refine lv_iconst (v := -1) hx hb dX2_trial_24 (by decide) ?_
  refine W.widen (k := 1) (n := 10) (Nat.le_of_ble_eq_true rfl) (Nat.le_of_ble_eq_true rfl) ?_
  exact x_int cx hr hlk (ad' := ad) ⟨rfl, hP⟩ hS dX2_trial_25
set_option maxRecDepth 1000000 in
theorem c_X2_trial_out1 (l : Launch) (G : GG) (ad : Nat → Nat) (S : St) (E : Ex) (hW : WF S) {n : Int32} (hn : nT S n) {k : Nat} (hk : k < nt S) (x z : Int32) : MW l yX2_trial cX2_trial 11 (some .int) 7 200 1 10 G ad (cX G ad S E) [.ref (ad 0), .int n, .int (nI k), .int x, .int z] (some (.int (((-1, S) : Int32 × St)).1)) (fun ad' => cX G ad' (((-1, S) : Int32 × St)).2 E) (fun ad' => ad' 0 = ad 0) := by
  refine MW.of [(0, .ref (ad 0)), (1, .int n), (2, .int (nI k)), (3, .int x), (4, .int z)] (by decide) (Nat.le_of_ble_eq_true rfl) rfl ?_
  intro p e s m args below meth c A cx hr hlk hnm hA hP ls hl
  have hx := cx.1.1
  have hb := cx.1.2.1
  have hS : va_S A s.heap s.heap [] := va_S.rf
  refine lv_aload_n hx hb dX2_trial_0 rfl (lv_at hl 0 rfl) ?_
  refine lv_iload_n hx hb dX2_trial_1 rfl (lv_at hl 1 rfl) ?_
  refine w_callV (As := [.int n]) (rest := []) (st := [.null]) cx (c_X2_thingAt_out l G ad S E hW hn) k_149 cal_yX2_thingAt (ci := 2) rfl (hP.pa _ _ (cX_lo 0 (by decide) rfl)) hP.pa rfl ⟨Nat.le_of_ble_eq_true rfl, Nat.le_of_ble_eq_true rfl⟩ hl.1 (Nat.le_of_ble_eq_true rfl) ⟨Nat.zero_le _, Nat.zero_le _⟩ rfl rfl dX2_trial_2 ?_
  refine lv_astoreN (lv' := [(5, .null), (0, .ref (ad 0)), (1, .int n), (2, .int (nI k)), (3, .int x), (4, .int z)]) hx hb dX2_trial_5 hl (by decide) rfl (fun ls hl => ?_)
  refine lv_aload_n hx hb dX2_trial_7 rfl (lv_at hl 1 rfl) ?_
  refine lv_iload_n hx hb dX2_trial_8 rfl (lv_at hl 3 rfl) ?_
  refine w_callV (As := [.int (nI k)]) (rest := []) (st := [.ref (ad (10 + 2 * k))]) cx (c_X2_thingAt_in l G ad S E hW hk) k_149 cal_yX2_thingAt (ci := 2) rfl (hP.pa _ _ (cX_lo 0 (by decide) rfl)) hP.pa rfl ⟨Nat.le_of_ble_eq_true rfl, Nat.le_of_ble_eq_true rfl⟩ hl.1 (Nat.le_of_ble_eq_true rfl) ⟨Nat.zero_le _, Nat.zero_le _⟩ rfl rfl dX2_trial_9 ?_
  refine lv_astore (lv' := [(6, .ref (ad (10 + 2 * k))), (5, .null), (0, .ref (ad 0)), (1, .int n), (2, .int (nI k)), (3, .int x), (4, .int z)]) hx hb dX2_trial_12 hl (by decide) rfl (fun ls hl => ?_)
  refine lv_aloadN hx hb dX2_trial_14 (lv_at hl 1 rfl) ?_
  refine lv_ifnullN (tgt := 24) hx hb dX2_trial_16 (by decide) ?_
  refine lv_iconst (v := -1) hx hb dX2_trial_24 (by decide) ?_
  refine W.widen (k := 1) (n := 10) (Nat.le_of_ble_eq_true rfl) (Nat.le_of_ble_eq_true rfl) ?_
  exact x_int cx hr hlk (ad' := ad) ⟨rfl, hP⟩ hS dX2_trial_25
set_option maxRecDepth 1000000 in
theorem c_X2_trial_out2 (l : Launch) (G : GG) (ad : Nat → Nat) (S : St) (E : Ex) (hW : WF S) {i : Nat} (hi : i < nt S) {n : Int32} (hn : nT S n) (x z : Int32) : MW l yX2_trial cX2_trial 11 (some .int) 7 200 1 10 G ad (cX G ad S E) [.ref (ad 0), .int (nI i), .int n, .int x, .int z] (some (.int (((-1, S) : Int32 × St)).1)) (fun ad' => cX G ad' (((-1, S) : Int32 × St)).2 E) (fun ad' => ad' 0 = ad 0) := by
  refine MW.of [(0, .ref (ad 0)), (1, .int (nI i)), (2, .int n), (3, .int x), (4, .int z)] (by decide) (Nat.le_of_ble_eq_true rfl) rfl ?_
  intro p e s m args below meth c A cx hr hlk hnm hA hP ls hl
  have hx := cx.1.1
  have hb := cx.1.2.1
  have hS : va_S A s.heap s.heap [] := va_S.rf
  refine lv_aload_n hx hb dX2_trial_0 rfl (lv_at hl 0 rfl) ?_
  refine lv_iload_n hx hb dX2_trial_1 rfl (lv_at hl 1 rfl) ?_
  refine w_callV (As := [.int (nI i)]) (rest := []) (st := [.ref (ad (10 + 2 * i))]) cx (c_X2_thingAt_in l G ad S E hW hi) k_149 cal_yX2_thingAt (ci := 2) rfl (hP.pa _ _ (cX_lo 0 (by decide) rfl)) hP.pa rfl ⟨Nat.le_of_ble_eq_true rfl, Nat.le_of_ble_eq_true rfl⟩ hl.1 (Nat.le_of_ble_eq_true rfl) ⟨Nat.zero_le _, Nat.zero_le _⟩ rfl rfl dX2_trial_2 ?_
  refine lv_astore (lv' := [(5, .ref (ad (10 + 2 * i))), (0, .ref (ad 0)), (1, .int (nI i)), (2, .int n), (3, .int x), (4, .int z)]) hx hb dX2_trial_5 hl (by decide) rfl (fun ls hl => ?_)
  refine lv_aload_n hx hb dX2_trial_7 rfl (lv_at hl 1 rfl) ?_
  refine lv_iload_n hx hb dX2_trial_8 rfl (lv_at hl 3 rfl) ?_
  refine w_callV (As := [.int n]) (rest := []) (st := [.null]) cx (c_X2_thingAt_out l G ad S E hW hn) k_149 cal_yX2_thingAt (ci := 2) rfl (hP.pa _ _ (cX_lo 0 (by decide) rfl)) hP.pa rfl ⟨Nat.le_of_ble_eq_true rfl, Nat.le_of_ble_eq_true rfl⟩ hl.1 (Nat.le_of_ble_eq_true rfl) ⟨Nat.zero_le _, Nat.zero_le _⟩ rfl rfl dX2_trial_9 ?_
  refine lv_astoreN (lv' := [(6, .null), (5, .ref (ad (10 + 2 * i))), (0, .ref (ad 0)), (1, .int (nI i)), (2, .int n), (3, .int x), (4, .int z)]) hx hb dX2_trial_12 hl (by decide) rfl (fun ls hl => ?_)
  refine lv_aload hx hb dX2_trial_14 (lv_at hl 1 rfl) ?_
  refine lv_ifnull hx hb dX2_trial_16 ?_
  refine lv_aloadN hx hb dX2_trial_19 (lv_at hl 0 rfl) ?_
  refine lv_ifnonnullN hx hb dX2_trial_21 ?_
  refine lv_iconst (v := -1) hx hb dX2_trial_24 (by decide) ?_
  refine W.widen (k := 1) (n := 10) (Nat.le_of_ble_eq_true rfl) (Nat.le_of_ble_eq_true rfl) ?_
  exact x_int cx hr hlk (ad' := ad) ⟨rfl, hP⟩ hS dX2_trial_25
def f_X2_trial (S : St) (i k : Nat) (x z : Int32) : Int32 × St :=
  if ar S 0 i = 3 then (if f_X2_isWithin z 0 100000 = 0 then ((-2), S)
    else if f_X0_canBeTried S i = 0 then ((-3), S)
    else if nI i = nI k then ((-3), S)
    else if f_X0_canTryOthers S k (sc S 0) = 0 then ((-3), S)
    else if nI (nr S) < 300 then (nI (nr S), f_X2_takeTrial (addR S i k ((f_X0_errorHeld S k) + (f_X0_middleDraw S i)) (((f_X0_spanOn S k (sc S 0)) + z) + (f_X0_spreadOfDraws S i))) i (nr S))
    else ((-4), S))
  else if f_X2_isWithin x ((-100000)) 100000 = 0 then ((-2), S)
  else if f_X2_isWithin z 0 100000 = 0 then ((-2), S)
  else if f_X0_canBeTried S i = 0 then ((-3), S)
  else if nI i = nI k then ((-3), S)
  else if f_X0_canTryOthers S k (sc S 0) = 0 then ((-3), S)
  else if nI (nr S) < 300 then (nI (nr S), f_X2_takeTrial (addR S i k ((f_X0_errorHeld S k) + x) ((f_X0_spanOn S k (sc S 0)) + z)) i (nr S))
  else ((-4), S)
set_option maxRecDepth 1000000 in
theorem c_X2_trial (l : Launch) (G : GG) (ad : Nat → Nat) (S : St) (E : Ex) (hW : WF S) (hBa : WB S) (hZ : ZR S) {i : Nat} (hi : i < nt S) {k : Nat} (hk : k < nt S) (x z : Int32) : MW l yX2_trial cX2_trial 11 (some .int) 7 200 1 10 G ad (cX G ad S E) [.ref (ad 0), .int (nI i), .int (nI k), .int x, .int z] (some (.int (f_X2_trial S i k x z).1)) (fun ad' => cX G ad' (f_X2_trial S i k x z).2 E) (fun ad' => ad' 0 = ad 0) := by
  refine MW.of [(0, .ref (ad 0)), (1, .int (nI i)), (2, .int (nI k)), (3, .int x), (4, .int z)] (by decide) (Nat.le_of_ble_eq_true rfl) rfl ?_
  intro p e s m args below meth c A cx hr hlk hnm hA hP ls hl
  have hx := cx.1.1
  have hb := cx.1.2.1
  have hS : va_S A s.heap s.heap [] := va_S.rf
  refine lv_aload_n hx hb dX2_trial_0 rfl (lv_at hl 0 rfl) ?_
  refine lv_iload_n hx hb dX2_trial_1 rfl (lv_at hl 1 rfl) ?_
  refine w_callV (As := [.int (nI i)]) (rest := []) (st := [.ref (ad (10 + 2 * i))]) cx (c_X2_thingAt_in l G ad S E hW hi) k_149 cal_yX2_thingAt (ci := 2) rfl (hP.pa _ _ (cX_lo 0 (by decide) rfl)) hP.pa rfl ⟨Nat.le_of_ble_eq_true rfl, Nat.le_of_ble_eq_true rfl⟩ hl.1 (Nat.le_of_ble_eq_true rfl) ⟨Nat.zero_le _, Nat.zero_le _⟩ rfl rfl dX2_trial_2 ?_
  refine lv_astore (lv' := [(5, .ref (ad (10 + 2 * i))), (0, .ref (ad 0)), (1, .int (nI i)), (2, .int (nI k)), (3, .int x), (4, .int z)]) hx hb dX2_trial_5 hl (by decide) rfl (fun ls hl => ?_)
  refine lv_aload_n hx hb dX2_trial_7 rfl (lv_at hl 1 rfl) ?_
  refine lv_iload_n hx hb dX2_trial_8 rfl (lv_at hl 3 rfl) ?_
  refine w_callV (As := [.int (nI k)]) (rest := []) (st := [.ref (ad (10 + 2 * k))]) cx (c_X2_thingAt_in l G ad S E hW hk) k_149 cal_yX2_thingAt (ci := 2) rfl (hP.pa _ _ (cX_lo 0 (by decide) rfl)) hP.pa rfl ⟨Nat.le_of_ble_eq_true rfl, Nat.le_of_ble_eq_true rfl⟩ hl.1 (Nat.le_of_ble_eq_true rfl) ⟨Nat.zero_le _, Nat.zero_le _⟩ rfl rfl dX2_trial_9 ?_
  refine lv_astore (lv' := [(6, .ref (ad (10 + 2 * k))), (5, .ref (ad (10 + 2 * i))), (0, .ref (ad 0)), (1, .int (nI i)), (2, .int (nI k)), (3, .int x), (4, .int z)]) hx hb dX2_trial_12 hl (by decide) rfl (fun ls hl => ?_)
  refine lv_aload hx hb dX2_trial_14 (lv_at hl 1 rfl) ?_
  refine lv_ifnull hx hb dX2_trial_16 ?_
  refine lv_aload hx hb dX2_trial_19 (lv_at hl 0 rfl) ?_
  refine lv_ifnonnull (tgt := 26) hx hb dX2_trial_21 (by decide) ?_
  refine lv_aload hx hb dX2_trial_26 (lv_at hl 1 rfl) ?_
  refine w_get cx (ci := 0) rfl iX0 (hP.pa _ _ (cX_T hi hW.t)) 0 (by decide) k_108 (v := .int (ar S 0 i)) rfl dX2_trial_28 ?_
  refine lv_iconst (v := 3) hx hb dX2_trial_31 (by decide) ?_
  refine lv_icmp_eq (tgt := 49) hx hb dX2_trial_32 (by decide) (fun c_1 => ?_) (fun c_1 => ?_)
  · refine lv_iload hx hb dX2_trial_49 (lv_at hl 6 rfl) ?_
    refine lv_iconst (v := 0) hx hb dX2_trial_51 (by decide) ?_
    refine w_ldc cx k_162 dX2_trial_52 ?_
    refine w_callS (As := [.int z, .int 0, .int 100000]) (rest := []) (st := [.int (f_X2_isWithin z 0 100000)]) cx (c_X2_isWithin l G ad _ z 0 100000) k_91 cal_yX2_isWithin hP.pa rfl ⟨Nat.le_of_ble_eq_true rfl, Nat.le_of_ble_eq_true rfl⟩ hl.1 (Nat.le_of_ble_eq_true rfl) ⟨Nat.zero_le _, Nat.zero_le _⟩ rfl rfl dX2_trial_54 ?_
    refine lv_if_ne (tgt := 63) hx hb dX2_trial_57 (by decide) (fun c_2 => ?_) (fun c_2 => ?_)
    · refine lv_aload hx hb dX2_trial_63 (lv_at hl 1 rfl) ?_
      refine w_callV (As := []) (rest := []) (st := [.int (f_X0_canBeTried S i)]) cx (c_X0_canBeTried l G ad S E hW (i := i) hi) k_188 cal_yX0_canBeTried (ci := 0) rfl (hP.pa _ _ (cX_T hi hW.t)) hP.pa rfl ⟨Nat.le_of_ble_eq_true rfl, Nat.le_of_ble_eq_true rfl⟩ hl.1 (Nat.le_of_ble_eq_true rfl) ⟨Nat.zero_le _, Nat.zero_le _⟩ rfl rfl dX2_trial_65 ?_
      refine lv_if_eq (tgt := 88) hx hb dX2_trial_68 (by decide) (fun c_3 => ?_) (fun c_3 => ?_)
      · refine lv_bipush (v := -3) hx hb dX2_trial_88 (by decide) ?_
        rw [show f_X2_trial S i k x z = ((-3), S) from by rw [f_X2_trial, if_pos c_1, if_neg c_2, if_pos c_3]]
        refine W.widen (k := 1) (n := 10) (Nat.le_of_ble_eq_true rfl) (Nat.le_of_ble_eq_true rfl) ?_
        exact x_int cx hr hlk (ad' := ad) ⟨rfl, hP⟩ hS dX2_trial_90
      · refine lv_iload_n hx hb dX2_trial_71 rfl (lv_at hl 3 rfl) ?_
        refine lv_iload_n hx hb dX2_trial_72 rfl (lv_at hl 4 rfl) ?_
        refine lv_icmp_eq (tgt := 88) hx hb dX2_trial_73 (by decide) (fun c_4 => ?_) (fun c_4 => ?_)
        · refine lv_bipush (v := -3) hx hb dX2_trial_88 (by decide) ?_
          rw [show f_X2_trial S i k x z = ((-3), S) from by rw [f_X2_trial, if_pos c_1, if_neg c_2, if_neg c_3, if_pos c_4]]
          refine W.widen (k := 1) (n := 10) (Nat.le_of_ble_eq_true rfl) (Nat.le_of_ble_eq_true rfl) ?_
          exact x_int cx hr hlk (ad' := ad) ⟨rfl, hP⟩ hS dX2_trial_90
        · refine lv_aload hx hb dX2_trial_76 (lv_at hl 0 rfl) ?_
          refine lv_aload_n hx hb dX2_trial_78 rfl (lv_at hl 2 rfl) ?_
          refine w_get cx (ci := 2) rfl iX2 (hP.pa _ _ (cX_lo 0 (by decide) rfl)) 9 (by decide) k_54 (v := .int (sc S 0)) rfl dX2_trial_79 ?_
          refine w_callV (As := [.int (sc S 0)]) (rest := []) (st := [.int (f_X0_canTryOthers S k (sc S 0))]) cx (c_X0_canTryOthers l G ad S E hW (i := k) hk (sc S 0)) k_193 cal_yX0_canTryOthers (ci := 0) rfl (hP.pa _ _ (cX_T hk hW.t)) hP.pa rfl ⟨Nat.le_of_ble_eq_true rfl, Nat.le_of_ble_eq_true rfl⟩ hl.1 (Nat.le_of_ble_eq_true rfl) ⟨Nat.zero_le _, Nat.zero_le _⟩ rfl rfl dX2_trial_82 ?_
          refine lv_if_ne (tgt := 91) hx hb dX2_trial_85 (by decide) (fun c_5 => ?_) (fun c_5 => ?_)
          · refine lv_aload_n hx hb dX2_trial_91 rfl (lv_at hl 2 rfl) ?_
            refine w_get cx (ci := 2) rfl iX2 (hP.pa _ _ (cX_lo 0 (by decide) rfl)) 11 (by decide) k_56 (v := .int (nI (nr S))) rfl dX2_trial_92 ?_
            refine lv_sipush (v := 300) hx hb dX2_trial_95 (by decide) ?_
            refine lv_icmp_lt (tgt := 104) hx hb dX2_trial_98 (by decide) (fun c_6 => ?_) (fun c_6 => ?_)
            · refine lv_iload_n hx hb dX2_trial_104 rfl (lv_at hl 5 rfl) ?_
              refine lv_istore (lv' := [(7, .int x), (6, .ref (ad (10 + 2 * k))), (5, .ref (ad (10 + 2 * i))), (0, .ref (ad 0)), (1, .int (nI i)), (2, .int (nI k)), (3, .int x), (4, .int z)]) hx hb dX2_trial_105 hl (by decide) rfl (fun ls hl => ?_)
              refine lv_aload hx hb dX2_trial_107 (lv_at hl 1 rfl) ?_
              refine lv_aload_n hx hb dX2_trial_109 rfl (lv_at hl 3 rfl) ?_
              refine w_get cx (ci := 2) rfl iX2 (hP.pa _ _ (cX_lo 0 (by decide) rfl)) 9 (by decide) k_54 (v := .int (sc S 0)) rfl dX2_trial_110 ?_
              refine w_callV (As := [.int (sc S 0)]) (rest := []) (st := [.int (f_X0_spanOn S k (sc S 0))]) cx (c_X0_spanOn l G ad S E hW (i := k) hk (sc S 0)) k_213 cal_yX0_spanOn (ci := 0) rfl (hP.pa _ _ (cX_T hk hW.t)) hP.pa rfl ⟨Nat.le_of_ble_eq_true rfl, Nat.le_of_ble_eq_true rfl⟩ hl.1 (Nat.le_of_ble_eq_true rfl) ⟨Nat.zero_le _, Nat.zero_le _⟩ rfl rfl dX2_trial_113 ?_
              refine lv_iload hx hb dX2_trial_116 (lv_at hl 7 rfl) ?_
              refine lv_iadd hx hb dX2_trial_118 ?_
              refine lv_istore (lv' := [(8, .int ((f_X0_spanOn S k (sc S 0)) + z)), (7, .int x), (6, .ref (ad (10 + 2 * k))), (5, .ref (ad (10 + 2 * i))), (0, .ref (ad 0)), (1, .int (nI i)), (2, .int (nI k)), (3, .int x), (4, .int z)]) hx hb dX2_trial_119 hl (by decide) rfl (fun ls hl => ?_)
              refine lv_aload hx hb dX2_trial_121 (lv_at hl 3 rfl) ?_
              refine w_get cx (ci := 0) rfl iX0 (hP.pa _ _ (cX_T hi hW.t)) 0 (by decide) k_108 (v := .int (ar S 0 i)) rfl dX2_trial_123 ?_
              refine lv_iconst (v := 3) hx hb dX2_trial_126 (by decide) ?_
              refine lv_icmp_ne (tgt := 147) hx hb dX2_trial_127 (by decide) (fun c_7 => ?_) (fun c_7 => ?_)
              · exact absurd c_1 c_7
              · refine lv_aload hx hb dX2_trial_130 (lv_at hl 3 rfl) ?_
                refine w_callV (As := []) (rest := []) (st := [.int (f_X0_middleDraw S i)]) cx (c_X0_middleDraw l G ad S E hW (i := i) hi) k_217 cal_yX0_middleDraw (ci := 0) rfl (hP.pa _ _ (cX_T hi hW.t)) hP.pa rfl ⟨Nat.le_of_ble_eq_true rfl, Nat.le_of_ble_eq_true rfl⟩ hl.1 (Nat.le_of_ble_eq_true rfl) ⟨Nat.zero_le _, Nat.zero_le _⟩ rfl rfl dX2_trial_132 ?_
                refine lv_istore (lv' := [(7, .int (f_X0_middleDraw S i)), (8, .int ((f_X0_spanOn S k (sc S 0)) + z)), (6, .ref (ad (10 + 2 * k))), (5, .ref (ad (10 + 2 * i))), (0, .ref (ad 0)), (1, .int (nI i)), (2, .int (nI k)), (3, .int x), (4, .int z)]) hx hb dX2_trial_135 hl (by decide) rfl (fun ls hl => ?_)
                refine lv_iload hx hb dX2_trial_137 (lv_at hl 1 rfl) ?_
                refine lv_aload hx hb dX2_trial_139 (lv_at hl 3 rfl) ?_
                refine w_callV (As := []) (rest := [.int ((f_X0_spanOn S k (sc S 0)) + z)]) (st := [.int (f_X0_spreadOfDraws S i), .int ((f_X0_spanOn S k (sc S 0)) + z)]) cx (c_X0_spreadOfDraws l G ad S E hW (i := i) hi) k_232 cal_yX0_spreadOfDraws (ci := 0) rfl (hP.pa _ _ (cX_T hi hW.t)) hP.pa rfl ⟨Nat.le_of_ble_eq_true rfl, Nat.le_of_ble_eq_true rfl⟩ hl.1 (Nat.le_of_ble_eq_true rfl) ⟨Nat.zero_le _, Nat.zero_le _⟩ rfl rfl dX2_trial_141 ?_
                refine lv_iadd hx hb dX2_trial_144 ?_
                refine lv_istore (lv' := [(8, .int (((f_X0_spanOn S k (sc S 0)) + z) + (f_X0_spreadOfDraws S i))), (7, .int (f_X0_middleDraw S i)), (6, .ref (ad (10 + 2 * k))), (5, .ref (ad (10 + 2 * i))), (0, .ref (ad 0)), (1, .int (nI i)), (2, .int (nI k)), (3, .int x), (4, .int z)]) hx hb dX2_trial_145 hl (by decide) rfl (fun ls hl => ?_)
                refine lv_aload hx hb dX2_trial_147 (lv_at hl 2 rfl) ?_
                refine w_callV (As := []) (rest := []) (st := [.int (f_X0_errorHeld S k)]) cx (c_X0_errorHeld l G ad S E hW (i := k) hk) k_236 cal_yX0_errorHeld (ci := 0) rfl (hP.pa _ _ (cX_T hk hW.t)) hP.pa rfl ⟨Nat.le_of_ble_eq_true rfl, Nat.le_of_ble_eq_true rfl⟩ hl.1 (Nat.le_of_ble_eq_true rfl) ⟨Nat.zero_le _, Nat.zero_le _⟩ rfl rfl dX2_trial_149 ?_
                refine lv_iload hx hb dX2_trial_152 (lv_at hl 1 rfl) ?_
                refine lv_iadd hx hb dX2_trial_154 ?_
                refine lv_istore (lv' := [(9, .int ((f_X0_errorHeld S k) + (f_X0_middleDraw S i))), (8, .int (((f_X0_spanOn S k (sc S 0)) + z) + (f_X0_spreadOfDraws S i))), (7, .int (f_X0_middleDraw S i)), (6, .ref (ad (10 + 2 * k))), (5, .ref (ad (10 + 2 * i))), (0, .ref (ad 0)), (1, .int (nI i)), (2, .int (nI k)), (3, .int x), (4, .int z)]) hx hb dX2_trial_155 hl (by decide) rfl (fun ls hl => ?_)
                rw [show f_X2_trial S i k x z = (nI (nr S), f_X2_takeTrial (addR S i k ((f_X0_errorHeld S k) + (f_X0_middleDraw S i)) (((f_X0_spanOn S k (sc S 0)) + z) + (f_X0_spreadOfDraws S i))) i (nr S)) from by rw [f_X2_trial, if_pos c_1, if_neg c_2, if_neg c_3, if_neg c_4, if_neg c_5, if_pos c_6]]
                exact tl_X2_trial hW hBa hZ hi hk (nIlt (Nat.lt_of_le_of_lt hW.r (by decide)) (by decide) c_6) cx hr hlk hA hP hS (lv_sub hl [5, 6, 7, 4, 3, 1, 0] rfl)
            · refine lv_bipush (v := -4) hx hb dX2_trial_101 (by decide) ?_
              rw [show f_X2_trial S i k x z = ((-4), S) from by rw [f_X2_trial, if_pos c_1, if_neg c_2, if_neg c_3, if_neg c_4, if_neg c_5, if_neg c_6]]
              refine W.widen (k := 1) (n := 10) (Nat.le_of_ble_eq_true rfl) (Nat.le_of_ble_eq_true rfl) ?_
              exact x_int cx hr hlk (ad' := ad) ⟨rfl, hP⟩ hS dX2_trial_103
          · refine lv_bipush (v := -3) hx hb dX2_trial_88 (by decide) ?_
            rw [show f_X2_trial S i k x z = ((-3), S) from by rw [f_X2_trial, if_pos c_1, if_neg c_2, if_neg c_3, if_neg c_4, if_pos c_5]]
            refine W.widen (k := 1) (n := 10) (Nat.le_of_ble_eq_true rfl) (Nat.le_of_ble_eq_true rfl) ?_
            exact x_int cx hr hlk (ad' := ad) ⟨rfl, hP⟩ hS dX2_trial_90
    · refine lv_bipush (v := -2) hx hb dX2_trial_60 (by decide) ?_
      rw [show f_X2_trial S i k x z = ((-2), S) from by rw [f_X2_trial, if_pos c_1, if_pos c_2]]
      refine W.widen (k := 1) (n := 10) (Nat.le_of_ble_eq_true rfl) (Nat.le_of_ble_eq_true rfl) ?_
      exact x_int cx hr hlk (ad' := ad) ⟨rfl, hP⟩ hS dX2_trial_62
  · refine lv_iload_n hx hb dX2_trial_35 rfl (lv_at hl 5 rfl) ?_
    refine w_ldc cx k_161 dX2_trial_36 ?_
    refine w_ldc cx k_162 dX2_trial_38 ?_
    refine w_callS (As := [.int x, .int ((-100000)), .int 100000]) (rest := []) (st := [.int (f_X2_isWithin x ((-100000)) 100000)]) cx (c_X2_isWithin l G ad _ x ((-100000)) 100000) k_91 cal_yX2_isWithin hP.pa rfl ⟨Nat.le_of_ble_eq_true rfl, Nat.le_of_ble_eq_true rfl⟩ hl.1 (Nat.le_of_ble_eq_true rfl) ⟨Nat.zero_le _, Nat.zero_le _⟩ rfl rfl dX2_trial_40 ?_
    refine lv_if_ne (tgt := 49) hx hb dX2_trial_43 (by decide) (fun c_8 => ?_) (fun c_8 => ?_)
    · refine lv_iload hx hb dX2_trial_49 (lv_at hl 6 rfl) ?_
      refine lv_iconst (v := 0) hx hb dX2_trial_51 (by decide) ?_
      refine w_ldc cx k_162 dX2_trial_52 ?_
      refine w_callS (As := [.int z, .int 0, .int 100000]) (rest := []) (st := [.int (f_X2_isWithin z 0 100000)]) cx (c_X2_isWithin l G ad _ z 0 100000) k_91 cal_yX2_isWithin hP.pa rfl ⟨Nat.le_of_ble_eq_true rfl, Nat.le_of_ble_eq_true rfl⟩ hl.1 (Nat.le_of_ble_eq_true rfl) ⟨Nat.zero_le _, Nat.zero_le _⟩ rfl rfl dX2_trial_54 ?_
      refine lv_if_ne (tgt := 63) hx hb dX2_trial_57 (by decide) (fun c_9 => ?_) (fun c_9 => ?_)
      · refine lv_aload hx hb dX2_trial_63 (lv_at hl 1 rfl) ?_
        refine w_callV (As := []) (rest := []) (st := [.int (f_X0_canBeTried S i)]) cx (c_X0_canBeTried l G ad S E hW (i := i) hi) k_188 cal_yX0_canBeTried (ci := 0) rfl (hP.pa _ _ (cX_T hi hW.t)) hP.pa rfl ⟨Nat.le_of_ble_eq_true rfl, Nat.le_of_ble_eq_true rfl⟩ hl.1 (Nat.le_of_ble_eq_true rfl) ⟨Nat.zero_le _, Nat.zero_le _⟩ rfl rfl dX2_trial_65 ?_
        refine lv_if_eq (tgt := 88) hx hb dX2_trial_68 (by decide) (fun c_10 => ?_) (fun c_10 => ?_)
        · refine lv_bipush (v := -3) hx hb dX2_trial_88 (by decide) ?_
          rw [show f_X2_trial S i k x z = ((-3), S) from by rw [f_X2_trial, if_neg c_1, if_neg c_8, if_neg c_9, if_pos c_10]]
          refine W.widen (k := 1) (n := 10) (Nat.le_of_ble_eq_true rfl) (Nat.le_of_ble_eq_true rfl) ?_
          exact x_int cx hr hlk (ad' := ad) ⟨rfl, hP⟩ hS dX2_trial_90
        · refine lv_iload_n hx hb dX2_trial_71 rfl (lv_at hl 3 rfl) ?_
          refine lv_iload_n hx hb dX2_trial_72 rfl (lv_at hl 4 rfl) ?_
          refine lv_icmp_eq (tgt := 88) hx hb dX2_trial_73 (by decide) (fun c_11 => ?_) (fun c_11 => ?_)
          · refine lv_bipush (v := -3) hx hb dX2_trial_88 (by decide) ?_
            rw [show f_X2_trial S i k x z = ((-3), S) from by rw [f_X2_trial, if_neg c_1, if_neg c_8, if_neg c_9, if_neg c_10, if_pos c_11]]
            refine W.widen (k := 1) (n := 10) (Nat.le_of_ble_eq_true rfl) (Nat.le_of_ble_eq_true rfl) ?_
            exact x_int cx hr hlk (ad' := ad) ⟨rfl, hP⟩ hS dX2_trial_90
          · refine lv_aload hx hb dX2_trial_76 (lv_at hl 0 rfl) ?_
            refine lv_aload_n hx hb dX2_trial_78 rfl (lv_at hl 2 rfl) ?_
            refine w_get cx (ci := 2) rfl iX2 (hP.pa _ _ (cX_lo 0 (by decide) rfl)) 9 (by decide) k_54 (v := .int (sc S 0)) rfl dX2_trial_79 ?_
            refine w_callV (As := [.int (sc S 0)]) (rest := []) (st := [.int (f_X0_canTryOthers S k (sc S 0))]) cx (c_X0_canTryOthers l G ad S E hW (i := k) hk (sc S 0)) k_193 cal_yX0_canTryOthers (ci := 0) rfl (hP.pa _ _ (cX_T hk hW.t)) hP.pa rfl ⟨Nat.le_of_ble_eq_true rfl, Nat.le_of_ble_eq_true rfl⟩ hl.1 (Nat.le_of_ble_eq_true rfl) ⟨Nat.zero_le _, Nat.zero_le _⟩ rfl rfl dX2_trial_82 ?_
            refine lv_if_ne (tgt := 91) hx hb dX2_trial_85 (by decide) (fun c_12 => ?_) (fun c_12 => ?_)
            · refine lv_aload_n hx hb dX2_trial_91 rfl (lv_at hl 2 rfl) ?_
              refine w_get cx (ci := 2) rfl iX2 (hP.pa _ _ (cX_lo 0 (by decide) rfl)) 11 (by decide) k_56 (v := .int (nI (nr S))) rfl dX2_trial_92 ?_
              refine lv_sipush (v := 300) hx hb dX2_trial_95 (by decide) ?_
              refine lv_icmp_lt (tgt := 104) hx hb dX2_trial_98 (by decide) (fun c_13 => ?_) (fun c_13 => ?_)
              · refine lv_iload_n hx hb dX2_trial_104 rfl (lv_at hl 5 rfl) ?_
                refine lv_istore (lv' := [(7, .int x), (6, .ref (ad (10 + 2 * k))), (5, .ref (ad (10 + 2 * i))), (0, .ref (ad 0)), (1, .int (nI i)), (2, .int (nI k)), (3, .int x), (4, .int z)]) hx hb dX2_trial_105 hl (by decide) rfl (fun ls hl => ?_)
                refine lv_aload hx hb dX2_trial_107 (lv_at hl 1 rfl) ?_
                refine lv_aload_n hx hb dX2_trial_109 rfl (lv_at hl 3 rfl) ?_
                refine w_get cx (ci := 2) rfl iX2 (hP.pa _ _ (cX_lo 0 (by decide) rfl)) 9 (by decide) k_54 (v := .int (sc S 0)) rfl dX2_trial_110 ?_
                refine w_callV (As := [.int (sc S 0)]) (rest := []) (st := [.int (f_X0_spanOn S k (sc S 0))]) cx (c_X0_spanOn l G ad S E hW (i := k) hk (sc S 0)) k_213 cal_yX0_spanOn (ci := 0) rfl (hP.pa _ _ (cX_T hk hW.t)) hP.pa rfl ⟨Nat.le_of_ble_eq_true rfl, Nat.le_of_ble_eq_true rfl⟩ hl.1 (Nat.le_of_ble_eq_true rfl) ⟨Nat.zero_le _, Nat.zero_le _⟩ rfl rfl dX2_trial_113 ?_
                refine lv_iload hx hb dX2_trial_116 (lv_at hl 7 rfl) ?_
                refine lv_iadd hx hb dX2_trial_118 ?_
                refine lv_istore (lv' := [(8, .int ((f_X0_spanOn S k (sc S 0)) + z)), (7, .int x), (6, .ref (ad (10 + 2 * k))), (5, .ref (ad (10 + 2 * i))), (0, .ref (ad 0)), (1, .int (nI i)), (2, .int (nI k)), (3, .int x), (4, .int z)]) hx hb dX2_trial_119 hl (by decide) rfl (fun ls hl => ?_)
                refine lv_aload hx hb dX2_trial_121 (lv_at hl 3 rfl) ?_
                refine w_get cx (ci := 0) rfl iX0 (hP.pa _ _ (cX_T hi hW.t)) 0 (by decide) k_108 (v := .int (ar S 0 i)) rfl dX2_trial_123 ?_
                refine lv_iconst (v := 3) hx hb dX2_trial_126 (by decide) ?_
                refine lv_icmp_ne (tgt := 147) hx hb dX2_trial_127 (by decide) (fun c_14 => ?_) (fun c_14 => ?_)
                · refine lv_aload hx hb dX2_trial_147 (lv_at hl 2 rfl) ?_
                  refine w_callV (As := []) (rest := []) (st := [.int (f_X0_errorHeld S k)]) cx (c_X0_errorHeld l G ad S E hW (i := k) hk) k_236 cal_yX0_errorHeld (ci := 0) rfl (hP.pa _ _ (cX_T hk hW.t)) hP.pa rfl ⟨Nat.le_of_ble_eq_true rfl, Nat.le_of_ble_eq_true rfl⟩ hl.1 (Nat.le_of_ble_eq_true rfl) ⟨Nat.zero_le _, Nat.zero_le _⟩ rfl rfl dX2_trial_149 ?_
                  refine lv_iload hx hb dX2_trial_152 (lv_at hl 1 rfl) ?_
                  refine lv_iadd hx hb dX2_trial_154 ?_
                  refine lv_istore (lv' := [(9, .int ((f_X0_errorHeld S k) + x)), (8, .int ((f_X0_spanOn S k (sc S 0)) + z)), (7, .int x), (6, .ref (ad (10 + 2 * k))), (5, .ref (ad (10 + 2 * i))), (0, .ref (ad 0)), (1, .int (nI i)), (2, .int (nI k)), (3, .int x), (4, .int z)]) hx hb dX2_trial_155 hl (by decide) rfl (fun ls hl => ?_)
                  rw [show f_X2_trial S i k x z = (nI (nr S), f_X2_takeTrial (addR S i k ((f_X0_errorHeld S k) + x) ((f_X0_spanOn S k (sc S 0)) + z)) i (nr S)) from by rw [f_X2_trial, if_neg c_1, if_neg c_8, if_neg c_9, if_neg c_10, if_neg c_11, if_neg c_12, if_pos c_13]]
                  exact tl_X2_trial hW hBa hZ hi hk (nIlt (Nat.lt_of_le_of_lt hW.r (by decide)) (by decide) c_13) cx hr hlk hA hP hS (lv_sub hl [5, 6, 7, 4, 3, 1, 0] rfl)
                · exact absurd c_14 c_1
              · refine lv_bipush (v := -4) hx hb dX2_trial_101 (by decide) ?_
                rw [show f_X2_trial S i k x z = ((-4), S) from by rw [f_X2_trial, if_neg c_1, if_neg c_8, if_neg c_9, if_neg c_10, if_neg c_11, if_neg c_12, if_neg c_13]]
                refine W.widen (k := 1) (n := 10) (Nat.le_of_ble_eq_true rfl) (Nat.le_of_ble_eq_true rfl) ?_
                exact x_int cx hr hlk (ad' := ad) ⟨rfl, hP⟩ hS dX2_trial_103
            · refine lv_bipush (v := -3) hx hb dX2_trial_88 (by decide) ?_
              rw [show f_X2_trial S i k x z = ((-3), S) from by rw [f_X2_trial, if_neg c_1, if_neg c_8, if_neg c_9, if_neg c_10, if_neg c_11, if_pos c_12]]
              refine W.widen (k := 1) (n := 10) (Nat.le_of_ble_eq_true rfl) (Nat.le_of_ble_eq_true rfl) ?_
              exact x_int cx hr hlk (ad' := ad) ⟨rfl, hP⟩ hS dX2_trial_90
      · refine lv_bipush (v := -2) hx hb dX2_trial_60 (by decide) ?_
        rw [show f_X2_trial S i k x z = ((-2), S) from by rw [f_X2_trial, if_neg c_1, if_neg c_8, if_pos c_9]]
        refine W.widen (k := 1) (n := 10) (Nat.le_of_ble_eq_true rfl) (Nat.le_of_ble_eq_true rfl) ?_
        exact x_int cx hr hlk (ad' := ad) ⟨rfl, hP⟩ hS dX2_trial_62
    · refine lv_bipush (v := -2) hx hb dX2_trial_46 (by decide) ?_
      rw [show f_X2_trial S i k x z = ((-2), S) from by rw [f_X2_trial, if_neg c_1, if_pos c_8]]
      refine W.widen (k := 1) (n := 10) (Nat.le_of_ble_eq_true rfl) (Nat.le_of_ble_eq_true rfl) ?_
      exact x_int cx hr hlk (ad' := ad) ⟨rfl, hP⟩ hS dX2_trial_48
