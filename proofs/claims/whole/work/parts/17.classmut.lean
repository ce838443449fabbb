theorem dcb {x : Int32} (h : okx x 4) (h2 : ¬ f_X2_isWithin x 0 2 = 0) : ix x < 3 := by
  obtain ⟨j, -, hj, e⟩ := within_nI (a := 0) (b := 2) (by decide) (by decide) h2
  rw [e]; unfold ix; rw [nI_clamp (by omega)]; omega
section SN
variable {p : Program} {l : Launch} {e : Env} {R : Room} {s : State} {m : MethodId} {args : Array Value} {below : List Frame} {meth : Method} {c : Code} {H : Heap} {locs : List Loc} {cells slots : Nat} {Q : State → Prop}
variable {cc : ByteArray} {pc nL : Nat} {ls : Array Slot} {rest : List Value} {G : GG}
theorem w_callSN {b : ByteArray} {n : Nat} {r : Option FieldType} {f lo : Nat} {ad : Nat → Nat} {C : Nat → Option va_E} {As : List Value} {v : Option Value} {k : Nat} (cx : Cx p s m args c cc nL RX0 G) (hM : MR l yX2_isWithin b n r f lo G ad C As v) (cal : CalS yX2_isWithin b n r k) (hP : pa G ad C H) (hk : As.length = k)
    (hR : f + 1 ≤ R.frames ∧ 8 + (n + 11) + lo ≤ R.locals) (hls : ls.size = nL) (hro : (rest.map fun v => v.category).sum ≤ 8) (hf : cells ≤ R.cells ∧ slots ≤ R.slots) {st0 st : List Value} (hst0 : st0 = As.reverse ++ rest) (hst : v.toList ++ rest = st) (hdg : decode cc pc = .ok (.invokestatic 35, 3))
    (kk : W p l e R s m args below meth c H locs cells slots Q (F0 m (pc + 3) ls st)) : W p l e R s m args below meth c H locs cells slots Q (F0 m pc ls st0) := by
  obtain ⟨h1, h2, h3, h4⟩ := cal
  have hr := va_runSN (l := l) (e := e) (R := R) (below := below) (meth := meth) (H := H) (locs := locs) (cells := cells) (slots := slots) (g := F0 m pc ls st0) (host := RX2) (As := As) (rest := rest) (n := k) (bytes := b) (maxL := n) (ret := r) cx.1 hM ⟨va_cnB k cx.1.2.2.2.2 (lw_use_cons h3) rfl rfl rfl cx.2.2.1 (cx.1.2.2.2.2 _ h2) h4 hR, cx.1.2.2.2.2 _ h1, trivial⟩ ⟨PcM.blind, fun U hU hW => ⟨rfl, by rw [hU]; exact hP, cx.2.warm hW⟩⟩ rfl hk hls hst0 (lv_room hro) hdg hf
  subst hst
  intro T hT X
  obtain ⟨v', st₀, t, T', L, h0, X', hL, e1, e2, ⟨hv, hh⟩, st⟩ := hr T hT X
  cases hv
  obtain ⟨t2, a1, b1⟩ := kk T' (by rw [e1, hh, h0]) (Stand.forget X' (fun q h => (hL q h).elim))
  exact ⟨t2, st t2 a1, b1⟩
end SN
def f_X2_pass (S : St) (x : Int32) : Int32 × St :=
  if f_X2_isWithin x 1 5000 = 0 then ((-2), S)
  else if (sc S 0) + x ≤ 20000 then ((sc S 0) + x, (setS S 0 ((sc S 0) + x)))
  else ((-4), S)
set_option maxRecDepth 20000 in
theorem c_X2_pass (l : Launch) (G : GG) (ad : Nat → Nat) (S : St) (E : Ex) (hW : WF S) (x : Int32) : MW l yX2_pass cX2_pass 2 (some .int) 1 22 0 0 G ad (cX G ad S E) [.ref (ad 0), .int x] (some (.int (f_X2_pass S x).1)) (fun ad' => cX G ad' (f_X2_pass S x).2 E) (fun ad' => ad' = ad) := by
  refine MW.of [(0, .ref (ad 0)), (1, .int x)] (by decide) (Nat.le_of_ble_eq_true rfl) rfl ?_
  intro p e s m args below meth c A cx hr hlk hnm hA hP ls hl
  have hx := cx.1.1
  have hb := cx.1.2.1
  have hS : va_S A s.heap s.heap [] := va_S.rf
  refine lv_iload_n hx hb dX2_pass_0 rfl (lv_at hl 1 rfl) ?_
  refine lv_iconst (v := 1) hx hb dX2_pass_1 (by decide) ?_
  refine lv_sipush (v := 5000) hx hb dX2_pass_2 (by decide) ?_
  refine w_callS (As := [.int x, .int 1, .int 5000]) (rest := []) (st := [.int (f_X2_isWithin x 1 5000)]) cx (c_X2_isWithin l G ad _ x 1 5000) k_91 cal_yX2_isWithin hP.pa rfl ⟨Nat.le_of_ble_eq_true rfl, Nat.le_of_ble_eq_true rfl⟩ hl.1 (Nat.le_of_ble_eq_true rfl) ⟨Nat.zero_le _, Nat.zero_le _⟩ rfl rfl dX2_pass_5 ?_
  refine lv_if_ne (tgt := 14) hx hb dX2_pass_8 (by decide) (fun c_1 => ?_) (fun c_1 => ?_)
  · refine lv_aload_n hx hb dX2_pass_14 rfl (lv_at hl 0 rfl) ?_
    refine w_get cx (ci := 2) rfl iX2 (hP.pa _ _ (cX_lo 0 (by decide) rfl)) 9 (by decide) k_54 (v := .int (sc S 0)) rfl dX2_pass_15 ?_
    refine lv_iload_n hx hb dX2_pass_18 rfl (lv_at hl 1 rfl) ?_
    refine lv_iadd hx hb dX2_pass_19 ?_
    refine lv_sipush (v := 20000) hx hb dX2_pass_20 (by decide) ?_
    refine lv_icmp_le (tgt := 29) hx hb dX2_pass_23 (by decide) (fun c_2 => ?_) (fun c_2 => ?_)
    · refine lv_aload_n hx hb dX2_pass_29 rfl (lv_at hl 0 rfl) ?_
      refine lv_dup hx hb dX2_pass_30 rfl ?_
      refine w_get cx (ci := 2) rfl iX2 (hP.pa _ _ (cX_lo 0 (by decide) rfl)) 9 (by decide) k_54 (v := .int (sc S 0)) rfl dX2_pass_31 ?_
      refine lv_iload_n hx hb dX2_pass_34 rfl (lv_at hl 1 rfl) ?_
      refine lv_iadd hx hb dX2_pass_35 ?_
      refine xX_put cx hP hS 9 0 (by decide) (by decide) k_54 dX2_pass_36 (fun H locs hP hS => ?_)
      refine lv_aload_n hx hb dX2_pass_39 rfl (lv_at hl 0 rfl) ?_
      refine w_get cx (ci := 2) rfl iX2 (hP.pa _ _ (cX_lo 0 (by decide) rfl)) 9 (by decide) k_54 (v := .int ((sc S 0) + x)) rfl dX2_pass_40 ?_
      rw [show f_X2_pass S x = ((sc S 0) + x, (setS S 0 ((sc S 0) + x))) from by rw [f_X2_pass, if_neg c_1, if_pos c_2]]
      exact x_int cx hr hlk (ad' := ad) ⟨rfl, hP⟩ hS dX2_pass_43
    · refine lv_bipush (v := -4) hx hb dX2_pass_26 (by decide) ?_
      rw [show f_X2_pass S x = ((-4), S) from by rw [f_X2_pass, if_neg c_1, if_neg c_2]]
      exact x_int cx hr hlk (ad' := ad) ⟨rfl, hP⟩ hS dX2_pass_28
  · refine lv_bipush (v := -2) hx hb dX2_pass_11 (by decide) ?_
    rw [show f_X2_pass S x = ((-2), S) from by rw [f_X2_pass, if_pos c_1]]
    exact x_int cx hr hlk (ad' := ad) ⟨rfl, hP⟩ hS dX2_pass_13
def f_X0_addDraw (S : St) (i : Nat) (x : Int32) : Int32 × St :=
  if f_X2_isWithin (ar S 8 i) 0 2 = 0 then (ar S 8 i, S)
  else ((ar S 8 i) + 1, (setA (setA S 9 (3 * i + (ix (ar S 8 i))) x) 8 i ((ar S 8 i) + 1)))
set_option maxRecDepth 20000 in
theorem c_X0_addDraw (l : Launch) (G : GG) (ad : Nat → Nat) (S : St) (E : Ex) (hW : WF S) {i : Nat} (hi : i < nt S) (x : Int32) : MW l yX0_addDraw cX0_addDraw 2 (some .int) 1 22 0 0 G ad (cX G ad S E) [.ref (ad (10 + 2 * i)), .int x] (some (.int (f_X0_addDraw S i x).1)) (fun ad' => cX G ad' (f_X0_addDraw S i x).2 E) (fun ad' => ad' = ad) := by
  refine MW.of [(0, .ref (ad (10 + 2 * i))), (1, .int x)] (by decide) (Nat.le_of_ble_eq_true rfl) rfl ?_
  intro p e s m args below meth c A cx hr hlk hnm hA hP ls hl
  have hx := cx.1.1
  have hb := cx.1.2.1
  have hS : va_S A s.heap s.heap [] := va_S.rf
  refine lv_aload_n hx hb dX0_addDraw_0 rfl (lv_at hl 0 rfl) ?_
  refine w_get cx (ci := 0) rfl iX0 (hP.pa _ _ (cX_T hi hW.t)) 5 (by decide) k_116 (v := .int (ar S 8 i)) rfl dX0_addDraw_1 ?_
  refine lv_iconst (v := 0) hx hb dX0_addDraw_4 (by decide) ?_
  refine lv_iconst (v := 2) hx hb dX0_addDraw_5 (by decide) ?_
  refine w_callSN (As := [.int (ar S 8 i), .int 0, .int 2]) (rest := []) (st := [.int (f_X2_isWithin (ar S 8 i) 0 2)]) cx (c_X2_isWithin l G ad _ (ar S 8 i) 0 2) cal_yX2_isWithin hP.pa rfl ⟨Nat.le_of_ble_eq_true rfl, Nat.le_of_ble_eq_true rfl⟩ hl.1 (Nat.le_of_ble_eq_true rfl) ⟨Nat.zero_le _, Nat.zero_le _⟩ rfl rfl dX0_addDraw_6 ?_
  refine lv_if_eq (tgt := 32) hx hb dX0_addDraw_9 (by decide) (fun c_1 => ?_) (fun c_1 => ?_)
  · refine lv_aload_n hx hb dX0_addDraw_32 rfl (lv_at hl 0 rfl) ?_
    refine w_get cx (ci := 0) rfl iX0 (hP.pa _ _ (cX_T hi hW.t)) 5 (by decide) k_116 (v := .int (ar S 8 i)) rfl dX0_addDraw_33 ?_
    rw [show f_X0_addDraw S i x = (ar S 8 i, S) from by rw [f_X0_addDraw, if_pos c_1]]
    exact x_int cx hr hlk (ad' := ad) ⟨rfl, hP⟩ hS dX0_addDraw_36
  · refine lv_aload_n hx hb dX0_addDraw_12 rfl (lv_at hl 0 rfl) ?_
    refine w_get cx (ci := 0) rfl iX0 (hP.pa _ _ (cX_T hi hW.t)) 3 (by decide) k_113 (v := .ref (ad (11 + 2 * i))) rfl dX0_addDraw_13 ?_
    refine lv_aload_n hx hb dX0_addDraw_16 rfl (lv_at hl 0 rfl) ?_
    refine w_get cx (ci := 0) rfl iX0 (hP.pa _ _ (cX_T hi hW.t)) 5 (by decide) k_116 (v := .int (ar S 8 i)) rfl dX0_addDraw_17 ?_
    refine lv_iload_n hx hb dX0_addDraw_20 rfl (lv_at hl 1 rfl) ?_
    refine xD_ast cx hP hS hi hW.t (ix (ar S 8 i)) (hW.dc hi).1 (dcb (hW.dc hi) c_1) dX0_addDraw_21 (fun H locs hP hS => ?_)
    refine lv_aload_n hx hb dX0_addDraw_22 rfl (lv_at hl 0 rfl) ?_
    refine lv_dup hx hb dX0_addDraw_23 rfl ?_
    refine w_get cx (ci := 0) rfl iX0 (hP.pa _ _ (cX_T hi hW.t)) 5 (by decide) k_116 (v := .int (ar (setA S 9 (3 * i + (ix (ar S 8 i))) x) 8 i)) rfl dX0_addDraw_24 ?_
    refine w_nrm (y := ar S 8 i) rfl ?_
    refine lv_iconst (v := 1) hx hb dX0_addDraw_27 (by decide) ?_
    refine lv_iadd hx hb dX0_addDraw_28 ?_
    refine xT_put cx hP hS hi hW.t 5 8 (by decide) (by decide) k_116 dX0_addDraw_29 (fun H locs hP hS => ?_)
    refine lv_aload_n hx hb dX0_addDraw_32 rfl (lv_at hl 0 rfl) ?_
    refine w_get cx (ci := 0) rfl iX0 (hP.pa _ _ (cX_T hi hW.t)) 5 (by decide) k_116 (v := .int (ar (setA (setA S 9 (3 * i + (ix (ar S 8 i))) x) 8 i ((ar S 8 i) + 1)) 8 i)) rfl dX0_addDraw_33 ?_
    refine w_nrm (y := (ar S 8 i) + 1) (ar_same (setA S 9 (3 * i + (ix (ar S 8 i))) x) 8 i ((ar S 8 i) + 1)) ?_
    rw [show f_X0_addDraw S i x = ((ar S 8 i) + 1, (setA (setA S 9 (3 * i + (ix (ar S 8 i))) x) 8 i ((ar S 8 i) + 1))) from by rw [f_X0_addDraw, if_neg c_1]]
    exact x_int cx hr hlk (ad' := ad) ⟨rfl, hP⟩ hS dX0_addDraw_36
set_option maxRecDepth 20000 in
theorem c_X2_draw_out (l : Launch) (G : GG) (ad : Nat → Nat) (S : St) (E : Ex) (hW : WF S) {n : Int32} (hn : nT S n) (x : Int32) : MW l yX2_draw cX2_draw 4 (some .int) 2 43 0 0 G ad (cX G ad S E) [.ref (ad 0), .int n, .int x] (some (.int (((-1, S) : Int32 × St)).1)) (fun ad' => cX G ad' (((-1, S) : Int32 × St)).2 E) (fun ad' => ad' = ad) := by
  refine MW.of [(0, .ref (ad 0)), (1, .int n), (2, .int x)] (by decide) (Nat.le_of_ble_eq_true rfl) rfl ?_
  intro p e s m args below meth c A cx hr hlk hnm hA hP ls hl
  have hx := cx.1.1
  have hb := cx.1.2.1
  have hS : va_S A s.heap s.heap [] := va_S.rf
  refine lv_aload_n hx hb dX2_draw_0 rfl (lv_at hl 0 rfl) ?_
  refine lv_iload_n hx hb dX2_draw_1 rfl (lv_at hl 1 rfl) ?_
  refine w_callV (As := [.int n]) (rest := []) (st := [.null]) cx (c_X2_thingAt_out l G ad S E hW hn) k_149 cal_yX2_thingAt (ci := 2) rfl (hP.pa _ _ (cX_lo 0 (by decide) rfl)) hP.pa rfl ⟨Nat.le_of_ble_eq_true rfl, Nat.le_of_ble_eq_true rfl⟩ hl.1 (Nat.le_of_ble_eq_true rfl) ⟨Nat.zero_le _, Nat.zero_le _⟩ rfl rfl dX2_draw_2 ?_
  refine lv_astore_nN (lv' := [(3, .null), (0, .ref (ad 0)), (1, .int n), (2, .int x)]) hx hb dX2_draw_5 rfl hl (by decide) rfl (fun ls hl => ?_)
  refine lv_aload_nN hx hb dX2_draw_6 rfl (lv_at hl 0 rfl) ?_
  refine lv_ifnonnullN hx hb dX2_draw_7 ?_
  refine lv_iconst (v := -1) hx hb dX2_draw_10 (by decide) ?_
  exact x_int cx hr hlk (ad' := ad) ⟨rfl, hP⟩ hS dX2_draw_11
def f_X2_draw (S : St) (i : Nat) (x : Int32) : Int32 × St :=
  if f_X2_isWithin x ((-100000)) 100000 = 0 then ((-2), S)
  else if ar S 0 i = 3 then (if f_X0_hasAllDraws S i = 0 then ((f_X0_addDraw S i x).1, (f_X0_addDraw S i x).2)
    else ((-4), S))
  else ((-3), S)
set_option maxRecDepth 20000 in
theorem c_X2_draw (l : Launch) (G : GG) (ad : Nat → Nat) (S : St) (E : Ex) (hW : WF S) {i : Nat} (hi : i < nt S) (x : Int32) : MW l yX2_draw cX2_draw 4 (some .int) 2 43 0 0 G ad (cX G ad S E) [.ref (ad 0), .int (nI i), .int x] (some (.int (f_X2_draw S i x).1)) (fun ad' => cX G ad' (f_X2_draw S i x).2 E) (fun ad' => ad' = ad) := by
  refine MW.of [(0, .ref (ad 0)), (1, .int (nI i)), (2, .int x)] (by decide) (Nat.le_of_ble_eq_true rfl) rfl ?_
  intro p e s m args below meth c A cx hr hlk hnm hA hP ls hl
  have hx := cx.1.1
  have hb := cx.1.2.1
  have hS : va_S A s.heap s.heap [] := va_S.rf
  refine lv_aload_n hx hb dX2_draw_0 rfl (lv_at hl 0 rfl) ?_
  refine lv_iload_n hx hb dX2_draw_1 rfl (lv_at hl 1 rfl) ?_
  refine w_callV (As := [.int (nI i)]) (rest := []) (st := [.ref (ad (10 + 2 * i))]) cx (c_X2_thingAt_in l G ad S E hW hi) k_149 cal_yX2_thingAt (ci := 2) rfl (hP.pa _ _ (cX_lo 0 (by decide) rfl)) hP.pa rfl ⟨Nat.le_of_ble_eq_true rfl, Nat.le_of_ble_eq_true rfl⟩ hl.1 (Nat.le_of_ble_eq_true rfl) ⟨Nat.zero_le _, Nat.zero_le _⟩ rfl rfl dX2_draw_2 ?_
  refine lv_astore_n (lv' := [(3, .ref (ad (10 + 2 * i))), (0, .ref (ad 0)), (1, .int (nI i)), (2, .int x)]) hx hb dX2_draw_5 rfl hl (by decide) rfl (fun ls hl => ?_)
  refine lv_aload_n hx hb dX2_draw_6 rfl (lv_at hl 0 rfl) ?_
  refine lv_ifnonnull (tgt := 12) hx hb dX2_draw_7 (by decide) ?_
  refine lv_iload_n hx hb dX2_draw_12 rfl (lv_at hl 3 rfl) ?_
  refine w_ldc cx k_161 dX2_draw_13 ?_
  refine w_ldc cx k_162 dX2_draw_15 ?_
  refine w_callS (As := [.int x, .int ((-100000)), .int 100000]) (rest := []) (st := [.int (f_X2_isWithin x ((-100000)) 100000)]) cx (c_X2_isWithin l G ad _ x ((-100000)) 100000) k_91 cal_yX2_isWithin hP.pa rfl ⟨Nat.le_of_ble_eq_true rfl, Nat.le_of_ble_eq_true rfl⟩ hl.1 (Nat.le_of_ble_eq_true rfl) ⟨Nat.zero_le _, Nat.zero_le _⟩ rfl rfl dX2_draw_17 ?_
  refine lv_if_ne (tgt := 26) hx hb dX2_draw_20 (by decide) (fun c_1 => ?_) (fun c_1 => ?_)
  · refine lv_aload_n hx hb dX2_draw_26 rfl (lv_at hl 0 rfl) ?_
    refine w_get cx (ci := 0) rfl iX0 (hP.pa _ _ (cX_T hi hW.t)) 0 (by decide) k_108 (v := .int (ar S 0 i)) rfl dX2_draw_27 ?_
    refine lv_iconst (v := 3) hx hb dX2_draw_30 (by decide) ?_
    refine lv_icmp_eq (tgt := 37) hx hb dX2_draw_31 (by decide) (fun c_2 => ?_) (fun c_2 => ?_)
    · refine lv_aload_n hx hb dX2_draw_37 rfl (lv_at hl 0 rfl) ?_
      refine w_callV (As := []) (rest := []) (st := [.int (f_X0_hasAllDraws S i)]) cx (c_X0_hasAllDraws l G ad S E hW (i := i) hi) k_163 cal_yX0_hasAllDraws (ci := 0) rfl (hP.pa _ _ (cX_T hi hW.t)) hP.pa rfl ⟨Nat.le_of_ble_eq_true rfl, Nat.le_of_ble_eq_true rfl⟩ hl.1 (Nat.le_of_ble_eq_true rfl) ⟨Nat.zero_le _, Nat.zero_le _⟩ rfl rfl dX2_draw_38 ?_
      refine lv_if_eq (tgt := 47) hx hb dX2_draw_41 (by decide) (fun c_3 => ?_) (fun c_3 => ?_)
      · refine lv_aload_n hx hb dX2_draw_47 rfl (lv_at hl 0 rfl) ?_
        refine lv_iload_n hx hb dX2_draw_48 rfl (lv_at hl 3 rfl) ?_
        refine w_callVW (As := [.int x]) (rest := []) (st := [.int ((f_X0_addDraw S i x).1)]) cx (c_X0_addDraw l G ad S E hW (i := i) hi x) k_167 cal_yX0_addDraw (ci := 0) rfl (hP.pa _ _ (cX_T hi hW.t)) hP hS hA rfl ⟨Nat.le_of_ble_eq_true rfl, Nat.le_of_ble_eq_true rfl⟩ hl.1 (Nat.le_of_ble_eq_true rfl) ⟨Nat.le_of_ble_eq_true rfl, Nat.le_of_ble_eq_true rfl⟩ rfl rfl dX2_draw_49 (fun ad1 H locs hX1 hP hz1 hq1 hS => ?_)
        rw [hX1] at hP
        rw [show f_X2_draw S i x = ((f_X0_addDraw S i x).1, (f_X0_addDraw S i x).2) from by rw [f_X2_draw, if_neg c_1, if_pos c_2, if_pos c_3]]
        exact x_int cx hr hlk (ad' := ad) ⟨rfl, hP⟩ hS dX2_draw_52
      · refine lv_bipush (v := -4) hx hb dX2_draw_44 (by decide) ?_
        rw [show f_X2_draw S i x = ((-4), S) from by rw [f_X2_draw, if_neg c_1, if_pos c_2, if_neg c_3]]
        exact x_int cx hr hlk (ad' := ad) ⟨rfl, hP⟩ hS dX2_draw_46
    · refine lv_bipush (v := -3) hx hb dX2_draw_34 (by decide) ?_
      rw [show f_X2_draw S i x = ((-3), S) from by rw [f_X2_draw, if_neg c_1, if_neg c_2]]
      exact x_int cx hr hlk (ad' := ad) ⟨rfl, hP⟩ hS dX2_draw_36
  · refine lv_bipush (v := -2) hx hb dX2_draw_23 (by decide) ?_
    rw [show f_X2_draw S i x = ((-2), S) from by rw [f_X2_draw, if_pos c_1]]
    exact x_int cx hr hlk (ad' := ad) ⟨rfl, hP⟩ hS dX2_draw_25
set_option maxRecDepth 20000 in
theorem c_X2_allow_out (l : Launch) (G : GG) (ad : Nat → Nat) (S : St) (E : Ex) (hW : WF S) {n : Int32} (hn : f_X2_isWithin n 1 3 = 0) (b x : Int32) : MW l yX2_allow cX2_allow 6 (some .int) 1 22 0 0 G ad (cX G ad S E) [.ref (ad 0), .int n, .int b, .int x] (some (.int (((-2, S) : Int32 × St)).1)) (fun ad' => cX G ad' (((-2, S) : Int32 × St)).2 E) (fun ad' => ad' = ad) := by
  refine MW.of [(0, .ref (ad 0)), (1, .int n), (2, .int b), (3, .int x)] (by decide) (Nat.le_of_ble_eq_true rfl) rfl ?_
  intro p e s m args below meth c A cx hr hlk hnm hA hP ls hl
  have hx := cx.1.1
  have hb := cx.1.2.1
  have hS : va_S A s.heap s.heap [] := va_S.rf
  refine lv_iload_n hx hb dX2_allow_0 rfl (lv_at hl 1 rfl) ?_
  refine lv_iconst (v := 1) hx hb dX2_allow_1 (by decide) ?_
  refine lv_iconst (v := 3) hx hb dX2_allow_2 (by decide) ?_
  refine w_callS (As := [.int n, .int 1, .int 3]) (rest := []) (st := [.int (f_X2_isWithin n 1 3)]) cx (c_X2_isWithin l G ad _ n 1 3) k_91 cal_yX2_isWithin hP.pa rfl ⟨Nat.le_of_ble_eq_true rfl, Nat.le_of_ble_eq_true rfl⟩ hl.1 (Nat.le_of_ble_eq_true rfl) ⟨Nat.zero_le _, Nat.zero_le _⟩ rfl rfl dX2_allow_3 ?_
  refine lv_if_ne (tgt := 12) hx hb dX2_allow_6 (by decide) (fun c_1 => ?_) (fun c_1 => ?_)
  · exact absurd hn c_1
  · refine lv_bipush (v := -2) hx hb dX2_allow_9 (by decide) ?_
    exact x_int cx hr hlk (ad' := ad) ⟨rfl, hP⟩ hS dX2_allow_11
def f_X2_allow (S : St) (k : Nat) (b x : Int32) : Int32 × St :=
  if f_X2_isWithin x 0 100000 = 0 then ((-2), S)
  else if b = 0 then (fA S 11 k, (setA S 11 k x))
  else (fA S 10 k, (setA S 10 k x))
set_option maxRecDepth 20000 in
theorem c_X2_allow (l : Launch) (G : GG) (ad : Nat → Nat) (S : St) (E : Ex) (hW : WF S) {k : Nat} (h1 : 1 ≤ k) (h3 : k ≤ 3) (b x : Int32) : MW l yX2_allow cX2_allow 6 (some .int) 1 22 0 0 G ad (cX G ad S E) [.ref (ad 0), .int (nI k), .int b, .int x] (some (.int (f_X2_allow S k b x).1)) (fun ad' => cX G ad' (f_X2_allow S k b x).2 E) (fun ad' => ad' = ad) := by
  refine MW.of [(0, .ref (ad 0)), (1, .int (nI k)), (2, .int b), (3, .int x)] (by decide) (Nat.le_of_ble_eq_true rfl) rfl ?_
  intro p e s m args below meth c A cx hr hlk hnm hA hP ls hl
  have hx := cx.1.1
  have hb := cx.1.2.1
  have hS : va_S A s.heap s.heap [] := va_S.rf
  refine lv_iload_n hx hb dX2_allow_0 rfl (lv_at hl 1 rfl) ?_
  refine lv_iconst (v := 1) hx hb dX2_allow_1 (by decide) ?_
  refine lv_iconst (v := 3) hx hb dX2_allow_2 (by decide) ?_
  refine w_callS (As := [.int (nI k), .int 1, .int 3]) (rest := []) (st := [.int (f_X2_isWithin (nI k) 1 3)]) cx (c_X2_isWithin l G ad _ (nI k) 1 3) k_91 cal_yX2_isWithin hP.pa rfl ⟨Nat.le_of_ble_eq_true rfl, Nat.le_of_ble_eq_true rfl⟩ hl.1 (Nat.le_of_ble_eq_true rfl) ⟨Nat.zero_le _, Nat.zero_le _⟩ rfl rfl dX2_allow_3 ?_
  refine lv_if_ne (tgt := 12) hx hb dX2_allow_6 (by decide) (fun c_1 => ?_) (fun c_1 => ?_)
  · refine lv_iload_n hx hb dX2_allow_12 rfl (lv_at hl 3 rfl) ?_
    refine lv_iconst (v := 0) hx hb dX2_allow_13 (by decide) ?_
    refine w_ldc cx k_162 dX2_allow_14 ?_
    refine w_callS (As := [.int x, .int 0, .int 100000]) (rest := []) (st := [.int (f_X2_isWithin x 0 100000)]) cx (c_X2_isWithin l G ad _ x 0 100000) k_91 cal_yX2_isWithin hP.pa rfl ⟨Nat.le_of_ble_eq_true rfl, Nat.le_of_ble_eq_true rfl⟩ hl.1 (Nat.le_of_ble_eq_true rfl) ⟨Nat.zero_le _, Nat.zero_le _⟩ rfl rfl dX2_allow_16 ?_
    refine lv_if_ne (tgt := 25) hx hb dX2_allow_19 (by decide) (fun c_2 => ?_) (fun c_2 => ?_)
    · refine lv_iload_n hx hb dX2_allow_25 rfl (lv_at hl 2 rfl) ?_
      refine lv_if_eq (tgt := 36) hx hb dX2_allow_26 (by decide) (fun c_3 => ?_) (fun c_3 => ?_)
      · refine lv_aload_n hx hb dX2_allow_36 rfl (lv_at hl 0 rfl) ?_
        refine w_get cx (ci := 2) rfl iX2 (hP.pa _ _ (cX_lo 0 (by decide) rfl)) 3 (by decide) k_48 (v := .ref (ad 4)) rfl dX2_allow_37 ?_
        refine lv_astore (lv' := [(4, .ref (ad 4)), (0, .ref (ad 0)), (1, .int (nI k)), (2, .int b), (3, .int x)]) hx hb dX2_allow_40 hl (by decide) rfl (fun ls hl => ?_)
        refine lv_aload hx hb dX2_allow_42 (lv_at hl 0 rfl) ?_
        refine lv_iload_n hx hb dX2_allow_44 rfl (lv_at hl 2 rfl) ?_
        refine w_iald cx (hP.pa _ _ (cX_lo 4 (by decide) rfl)) k rfl (Nat.lt_succ_of_le h3) (by decide) dX2_allow_45 ?_
        refine lv_istore (lv' := [(5, .int (fA S 11 k)), (4, .ref (ad 4)), (0, .ref (ad 0)), (1, .int (nI k)), (2, .int b), (3, .int x)]) hx hb dX2_allow_46 hl (by decide) rfl (fun ls hl => ?_)
        refine lv_aload hx hb dX2_allow_48 (lv_at hl 1 rfl) ?_
        refine lv_iload_n hx hb dX2_allow_50 rfl (lv_at hl 3 rfl) ?_
        refine lv_iload_n hx hb dX2_allow_51 rfl (lv_at hl 5 rfl) ?_
        refine xU_ast cx hP hS k rfl (Nat.lt_succ_of_le h3) h1 dX2_allow_52 (fun H locs hP hS => ?_)
        refine lv_iload hx hb dX2_allow_53 (lv_at hl 0 rfl) ?_
        rw [show f_X2_allow S k b x = (fA S 11 k, (setA S 11 k x)) from by rw [f_X2_allow, if_neg c_2, if_pos c_3]]
        exact x_int cx hr hlk (ad' := ad) ⟨rfl, hP⟩ hS dX2_allow_55
      · refine lv_aload_n hx hb dX2_allow_29 rfl (lv_at hl 0 rfl) ?_
        refine w_get cx (ci := 2) rfl iX2 (hP.pa _ _ (cX_lo 0 (by decide) rfl)) 2 (by decide) k_47 (v := .ref (ad 3)) rfl dX2_allow_30 ?_
        refine lv_goto (tgt := 40) hx hb dX2_allow_33 (by decide) ?_
        refine lv_astore (lv' := [(4, .ref (ad 3)), (0, .ref (ad 0)), (1, .int (nI k)), (2, .int b), (3, .int x)]) hx hb dX2_allow_40 hl (by decide) rfl (fun ls hl => ?_)
        refine lv_aload hx hb dX2_allow_42 (lv_at hl 0 rfl) ?_
        refine lv_iload_n hx hb dX2_allow_44 rfl (lv_at hl 2 rfl) ?_
        refine w_iald cx (hP.pa _ _ (cX_lo 3 (by decide) rfl)) k rfl (Nat.lt_succ_of_le h3) (by decide) dX2_allow_45 ?_
        refine lv_istore (lv' := [(5, .int (fA S 10 k)), (4, .ref (ad 3)), (0, .ref (ad 0)), (1, .int (nI k)), (2, .int b), (3, .int x)]) hx hb dX2_allow_46 hl (by decide) rfl (fun ls hl => ?_)
        refine lv_aload hx hb dX2_allow_48 (lv_at hl 1 rfl) ?_
        refine lv_iload_n hx hb dX2_allow_50 rfl (lv_at hl 3 rfl) ?_
        refine lv_iload_n hx hb dX2_allow_51 rfl (lv_at hl 5 rfl) ?_
        refine xN_ast cx hP hS k rfl (Nat.lt_succ_of_le h3) h1 dX2_allow_52 (fun H locs hP hS => ?_)
        refine lv_iload hx hb dX2_allow_53 (lv_at hl 0 rfl) ?_
        rw [show f_X2_allow S k b x = (fA S 10 k, (setA S 10 k x)) from by rw [f_X2_allow, if_neg c_2, if_neg c_3]]
        exact x_int cx hr hlk (ad' := ad) ⟨rfl, hP⟩ hS dX2_allow_55
    · refine lv_bipush (v := -2) hx hb dX2_allow_22 (by decide) ?_
      rw [show f_X2_allow S k b x = ((-2), S) from by rw [f_X2_allow, if_pos c_2]]
      exact x_int cx hr hlk (ad' := ad) ⟨rfl, hP⟩ hS dX2_allow_24
  · exact absurd c_1 (nI_within (a := 1) (b := 3) h1 h3 (by decide))
set_option maxRecDepth 20000 in
theorem c_X2_move_out (l : Launch) (G : GG) (ad : Nat → Nat) (S : St) (E : Ex) (hW : WF S) {n : Int32} (hn : nT S n) (x : Int32) : MW l yX2_move cX2_move 5 (some .int) 2 43 0 0 G ad (cX G ad S E) [.ref (ad 0), .int n, .int x] (some (.int (((-1, S) : Int32 × St)).1)) (fun ad' => cX G ad' (((-1, S) : Int32 × St)).2 E) (fun ad' => ad' = ad) := by
  refine MW.of [(0, .ref (ad 0)), (1, .int n), (2, .int x)] (by decide) (Nat.le_of_ble_eq_true rfl) rfl ?_
  intro p e s m args below meth c A cx hr hlk hnm hA hP ls hl
  have hx := cx.1.1
  have hb := cx.1.2.1
  have hS : va_S A s.heap s.heap [] := va_S.rf
  refine lv_aload_n hx hb dX2_move_0 rfl (lv_at hl 0 rfl) ?_
  refine lv_iload_n hx hb dX2_move_1 rfl (lv_at hl 1 rfl) ?_
  refine w_callV (As := [.int n]) (rest := []) (st := [.null]) cx (c_X2_thingAt_out l G ad S E hW hn) k_149 cal_yX2_thingAt (ci := 2) rfl (hP.pa _ _ (cX_lo 0 (by decide) rfl)) hP.pa rfl ⟨Nat.le_of_ble_eq_true rfl, Nat.le_of_ble_eq_true rfl⟩ hl.1 (Nat.le_of_ble_eq_true rfl) ⟨Nat.zero_le _, Nat.zero_le _⟩ rfl rfl dX2_move_2 ?_
  refine lv_astore_nN (lv' := [(3, .null), (0, .ref (ad 0)), (1, .int n), (2, .int x)]) hx hb dX2_move_5 rfl hl (by decide) rfl (fun ls hl => ?_)
  refine lv_aload_nN hx hb dX2_move_6 rfl (lv_at hl 0 rfl) ?_
  refine lv_ifnullN (tgt := 17) hx hb dX2_move_7 (by decide) ?_
  refine lv_iconst (v := -1) hx hb dX2_move_17 (by decide) ?_
  exact x_int cx hr hlk (ad' := ad) ⟨rfl, hP⟩ hS dX2_move_18
def f_X2_move (S : St) (i : Nat) (x : Int32) : Int32 × St :=
  if f_X2_isOwner x = 0 then ((-1), S)
  else if f_X0_isOfTrade S i = 0 then ((-3), S)
  else (ar S 3 i, (setA (setA S 3 i x) 6 i ((-1000000))))
set_option maxRecDepth 20000 in
theorem c_X2_move (l : Launch) (G : GG) (ad : Nat → Nat) (S : St) (E : Ex) (hW : WF S) {i : Nat} (hi : i < nt S) (x : Int32) : MW l yX2_move cX2_move 5 (some .int) 2 43 0 0 G ad (cX G ad S E) [.ref (ad 0), .int (nI i), .int x] (some (.int (f_X2_move S i x).1)) (fun ad' => cX G ad' (f_X2_move S i x).2 E) (fun ad' => ad' = ad) := by
  refine MW.of [(0, .ref (ad 0)), (1, .int (nI i)), (2, .int x)] (by decide) (Nat.le_of_ble_eq_true rfl) rfl ?_
  intro p e s m args below meth c A cx hr hlk hnm hA hP ls hl
  have hx := cx.1.1
  have hb := cx.1.2.1
  have hS : va_S A s.heap s.heap [] := va_S.rf
  refine lv_aload_n hx hb dX2_move_0 rfl (lv_at hl 0 rfl) ?_
  refine lv_iload_n hx hb dX2_move_1 rfl (lv_at hl 1 rfl) ?_
  refine w_callV (As := [.int (nI i)]) (rest := []) (st := [.ref (ad (10 + 2 * i))]) cx (c_X2_thingAt_in l G ad S E hW hi) k_149 cal_yX2_thingAt (ci := 2) rfl (hP.pa _ _ (cX_lo 0 (by decide) rfl)) hP.pa rfl ⟨Nat.le_of_ble_eq_true rfl, Nat.le_of_ble_eq_true rfl⟩ hl.1 (Nat.le_of_ble_eq_true rfl) ⟨Nat.zero_le _, Nat.zero_le _⟩ rfl rfl dX2_move_2 ?_
  refine lv_astore_n (lv' := [(3, .ref (ad (10 + 2 * i))), (0, .ref (ad 0)), (1, .int (nI i)), (2, .int x)]) hx hb dX2_move_5 rfl hl (by decide) rfl (fun ls hl => ?_)
  refine lv_aload_n hx hb dX2_move_6 rfl (lv_at hl 0 rfl) ?_
  refine lv_ifnull hx hb dX2_move_7 ?_
  refine lv_iload_n hx hb dX2_move_10 rfl (lv_at hl 3 rfl) ?_
  refine w_callS (As := [.int x]) (rest := []) (st := [.int (f_X2_isOwner x)]) cx (c_X2_isOwner l G ad _ x) k_98 cal_yX2_isOwner hP.pa rfl ⟨Nat.le_of_ble_eq_true rfl, Nat.le_of_ble_eq_true rfl⟩ hl.1 (Nat.le_of_ble_eq_true rfl) ⟨Nat.zero_le _, Nat.zero_le _⟩ rfl rfl dX2_move_11 ?_
  refine lv_if_ne (tgt := 19) hx hb dX2_move_14 (by decide) (fun c_1 => ?_) (fun c_1 => ?_)
  · refine lv_aload_n hx hb dX2_move_19 rfl (lv_at hl 0 rfl) ?_
    refine w_callV (As := []) (rest := []) (st := [.int (f_X0_isOfTrade S i)]) cx (c_X0_isOfTrade l G ad S E hW (i := i) hi) k_180 cal_yX0_isOfTrade (ci := 0) rfl (hP.pa _ _ (cX_T hi hW.t)) hP.pa rfl ⟨Nat.le_of_ble_eq_true rfl, Nat.le_of_ble_eq_true rfl⟩ hl.1 (Nat.le_of_ble_eq_true rfl) ⟨Nat.zero_le _, Nat.zero_le _⟩ rfl rfl dX2_move_20 ?_
    refine lv_if_ne (tgt := 29) hx hb dX2_move_23 (by decide) (fun c_2 => ?_) (fun c_2 => ?_)
    · refine lv_aload_n hx hb dX2_move_29 rfl (lv_at hl 0 rfl) ?_
      refine w_get cx (ci := 0) rfl iX0 (hP.pa _ _ (cX_T hi hW.t)) 4 (by decide) k_115 (v := .int (ar S 3 i)) rfl dX2_move_30 ?_
      refine lv_istore (lv' := [(4, .int (ar S 3 i)), (3, .ref (ad (10 + 2 * i))), (0, .ref (ad 0)), (1, .int (nI i)), (2, .int x)]) hx hb dX2_move_33 hl (by decide) rfl (fun ls hl => ?_)
      refine lv_aload_n hx hb dX2_move_35 rfl (lv_at hl 1 rfl) ?_
      refine lv_iload_n hx hb dX2_move_36 rfl (lv_at hl 4 rfl) ?_
      refine xT_put cx hP hS hi hW.t 4 3 (by decide) (by decide) k_115 dX2_move_37 (fun H locs hP hS => ?_)
      refine lv_aload_n hx hb dX2_move_40 rfl (lv_at hl 1 rfl) ?_
      refine w_ldc cx k_156 dX2_move_41 ?_
      refine xT_put cx hP hS hi hW.t 8 6 (by decide) (by decide) k_121 dX2_move_43 (fun H locs hP hS => ?_)
      refine lv_iload hx hb dX2_move_46 (lv_at hl 0 rfl) ?_
      rw [show f_X2_move S i x = (ar S 3 i, (setA (setA S 3 i x) 6 i ((-1000000)))) from by rw [f_X2_move, if_neg c_1, if_neg c_2]]
      exact x_int cx hr hlk (ad' := ad) ⟨rfl, hP⟩ hS dX2_move_48
    · refine lv_bipush (v := -3) hx hb dX2_move_26 (by decide) ?_
      rw [show f_X2_move S i x = ((-3), S) from by rw [f_X2_move, if_neg c_1, if_pos c_2]]
      exact x_int cx hr hlk (ad' := ad) ⟨rfl, hP⟩ hS dX2_move_28
  · refine lv_iconst (v := -1) hx hb dX2_move_17 (by decide) ?_
    rw [show f_X2_move S i x = ((-1), S) from by rw [f_X2_move, if_pos c_1]]
    exact x_int cx hr hlk (ad' := ad) ⟨rfl, hP⟩ hS dX2_move_18
def f_X2_markPutOn (E : Ex) (k : Nat) : Ex :=
  (upd E.1 (k / 32) ((E.1 (k / 32)) ||| (1 <<< (((nI k) - (nI k) / 32 * 32) &&& 31))), E.2)
set_option maxRecDepth 20000 in
theorem c_X2_markPutOn (l : Launch) (G : GG) (ad : Nat → Nat) (S : St) (E : Ex) (hW : WF S) {k : Nat} (h1 : 1 ≤ k) (hk : k < 10000) : MW l yX2_markPutOn cX2_markPutOn 2 none 2 42 0 0 G ad (cX G ad S E) [.ref (ad 0), .int (nI k)] (none) (fun ad' => cX G ad' S (f_X2_markPutOn E k)) (fun ad' => ad' = ad) := by
  refine MW.of [(0, .ref (ad 0)), (1, .int (nI k))] (by decide) (Nat.le_of_ble_eq_true rfl) rfl ?_
  intro p e s m args below meth c A cx hr hlk hnm hA hP ls hl
  have hx := cx.1.1
  have hb := cx.1.2.1
  have hS : va_S A s.heap s.heap [] := va_S.rf
  refine lv_iload_n hx hb dX2_markPutOn_0 rfl (lv_at hl 1 rfl) ?_
  refine w_callS (As := [.int (nI k)]) (rest := []) (st := [.int (f_X2_isSealNumber (nI k))]) cx (c_X2_isSealNumber l G ad _ (nI k)) k_389 cal_yX2_isSealNumber hP.pa rfl ⟨Nat.le_of_ble_eq_true rfl, Nat.le_of_ble_eq_true rfl⟩ hl.1 (Nat.le_of_ble_eq_true rfl) ⟨Nat.zero_le _, Nat.zero_le _⟩ rfl rfl dX2_markPutOn_1 ?_
  refine lv_if_eq (tgt := 25) hx hb dX2_markPutOn_4 (by decide) (fun c_1 => ?_) (fun c_1 => ?_)
  · exact absurd c_1 (isN_in h1 hk)
  · refine lv_aload_n hx hb dX2_markPutOn_7 rfl (lv_at hl 0 rfl) ?_
    refine w_get cx (ci := 2) rfl iX2 (hP.pa _ _ (cX_lo 0 (by decide) rfl)) 6 (by decide) k_51 (v := .ref (ad 7)) rfl dX2_markPutOn_8 ?_
    refine lv_iload_n hx hb dX2_markPutOn_11 rfl (lv_at hl 1 rfl) ?_
    refine lv_bipush (v := 32) hx hb dX2_markPutOn_12 (by decide) ?_
    refine lv_idiv hx hb dX2_markPutOn_14 (by decide) ?_
    refine lv_dup2_11 hx hb dX2_markPutOn_15 rfl rfl ?_
    refine w_iald cx (hP.pa _ _ (cX_lo 7 (by decide) rfl)) (k / 32) (pk_div (Nat.lt_of_lt_of_le hk (by decide)) (by decide) (by decide)) (by omega) (by decide) dX2_markPutOn_16 ?_
    refine lv_iconst (v := 1) hx hb dX2_markPutOn_17 (by decide) ?_
    refine lv_iload_n hx hb dX2_markPutOn_18 rfl (lv_at hl 1 rfl) ?_
    refine lv_bipush (v := 32) hx hb dX2_markPutOn_19 (by decide) ?_
    refine lv_irem hx hb dX2_markPutOn_21 (by decide) ?_
    refine lv_ishl hx hb dX2_markPutOn_22 ?_
    refine lv_ior hx hb dX2_markPutOn_23 ?_
    refine xE1_ast cx hP hS (k / 32) (pk_div (Nat.lt_of_lt_of_le hk (by decide)) (by decide) (by decide)) (by omega) dX2_markPutOn_24 (fun H locs hP hS => ?_)
    rw [show f_X2_markPutOn E k = (upd E.1 (k / 32) ((E.1 (k / 32)) ||| (1 <<< (((nI k) - (nI k) / 32 * 32) &&& 31))), E.2) from by rw [f_X2_markPutOn]]
    exact x_void cx hr hlk (ad' := ad) ⟨rfl, hP⟩ hS dX2_markPutOn_25
set_option maxRecDepth 20000 in
theorem c_X2_seal_out (l : Launch) (G : GG) (ad : Nat → Nat) (S : St) (E : Ex) (hW : WF S) {n : Int32} (hn : nT S n) (x : Int32) : MW l yX2_seal cX2_seal 4 (some .int) 3 68 0 0 G ad (cX G ad S E) [.ref (ad 0), .int n, .int x] (some (.int (((-1, S) : Int32 × St)).1)) (fun ad' => cX G ad' (((-1, S) : Int32 × St)).2 E) (fun ad' => ad' = ad) := by
  refine MW.of [(0, .ref (ad 0)), (1, .int n), (2, .int x)] (by decide) (Nat.le_of_ble_eq_true rfl) rfl ?_
  intro p e s m args below meth c A cx hr hlk hnm hA hP ls hl
  have hx := cx.1.1
  have hb := cx.1.2.1
  have hS : va_S A s.heap s.heap [] := va_S.rf
  refine lv_aload_n hx hb dX2_seal_0 rfl (lv_at hl 0 rfl) ?_
  refine lv_iload_n hx hb dX2_seal_1 rfl (lv_at hl 1 rfl) ?_
  refine w_callV (As := [.int n]) (rest := []) (st := [.null]) cx (c_X2_thingAt_out l G ad S E hW hn) k_149 cal_yX2_thingAt (ci := 2) rfl (hP.pa _ _ (cX_lo 0 (by decide) rfl)) hP.pa rfl ⟨Nat.le_of_ble_eq_true rfl, Nat.le_of_ble_eq_true rfl⟩ hl.1 (Nat.le_of_ble_eq_true rfl) ⟨Nat.zero_le _, Nat.zero_le _⟩ rfl rfl dX2_seal_2 ?_
  refine lv_astore_nN (lv' := [(3, .null), (0, .ref (ad 0)), (1, .int n), (2, .int x)]) hx hb dX2_seal_5 rfl hl (by decide) rfl (fun ls hl => ?_)
  refine lv_aload_nN hx hb dX2_seal_6 rfl (lv_at hl 0 rfl) ?_
  refine lv_ifnonnullN hx hb dX2_seal_7 ?_
  refine lv_iconst (v := -1) hx hb dX2_seal_10 (by decide) ?_
  exact x_int cx hr hlk (ad' := ad) ⟨rfl, hP⟩ hS dX2_seal_11
set_option maxRecDepth 20000 in
theorem c_X2_seal_far (l : Launch) (G : GG) (ad : Nat → Nat) (S : St) (E : Ex) (hW : WF S) {i : Nat} (hi : i < nt S) {n : Int32} (hn : f_X2_isSealNumber n = 0) : MW l yX2_seal cX2_seal 4 (some .int) 3 68 0 0 G ad (cX G ad S E) [.ref (ad 0), .int (nI i), .int n] (some (.int (((-2, S) : Int32 × St)).1)) (fun ad' => cX G ad' (((-2, S) : Int32 × St)).2 E) (fun ad' => ad' = ad) := by
  refine MW.of [(0, .ref (ad 0)), (1, .int (nI i)), (2, .int n)] (by decide) (Nat.le_of_ble_eq_true rfl) rfl ?_
  intro p e s m args below meth c A cx hr hlk hnm hA hP ls hl
  have hx := cx.1.1
  have hb := cx.1.2.1
  have hS : va_S A s.heap s.heap [] := va_S.rf
  refine lv_aload_n hx hb dX2_seal_0 rfl (lv_at hl 0 rfl) ?_
  refine lv_iload_n hx hb dX2_seal_1 rfl (lv_at hl 1 rfl) ?_
  refine w_callV (As := [.int (nI i)]) (rest := []) (st := [.ref (ad (10 + 2 * i))]) cx (c_X2_thingAt_in l G ad S E hW hi) k_149 cal_yX2_thingAt (ci := 2) rfl (hP.pa _ _ (cX_lo 0 (by decide) rfl)) hP.pa rfl ⟨Nat.le_of_ble_eq_true rfl, Nat.le_of_ble_eq_true rfl⟩ hl.1 (Nat.le_of_ble_eq_true rfl) ⟨Nat.zero_le _, Nat.zero_le _⟩ rfl rfl dX2_seal_2 ?_
  refine lv_astore_n (lv' := [(3, .ref (ad (10 + 2 * i))), (0, .ref (ad 0)), (1, .int (nI i)), (2, .int n)]) hx hb dX2_seal_5 rfl hl (by decide) rfl (fun ls hl => ?_)
  refine lv_aload_n hx hb dX2_seal_6 rfl (lv_at hl 0 rfl) ?_
  refine lv_ifnonnull (tgt := 12) hx hb dX2_seal_7 (by decide) ?_
  refine lv_iload_n hx hb dX2_seal_12 rfl (lv_at hl 3 rfl) ?_
  refine w_callS (As := [.int n]) (rest := []) (st := [.int (f_X2_isSealNumber n)]) cx (c_X2_isSealNumber l G ad _ n) k_389 cal_yX2_isSealNumber hP.pa rfl ⟨Nat.le_of_ble_eq_true rfl, Nat.le_of_ble_eq_true rfl⟩ hl.1 (Nat.le_of_ble_eq_true rfl) ⟨Nat.zero_le _, Nat.zero_le _⟩ rfl rfl dX2_seal_13 ?_
  refine lv_if_ne (tgt := 22) hx hb dX2_seal_16 (by decide) (fun c_1 => ?_) (fun c_1 => ?_)
  · exact absurd hn c_1
  · refine lv_bipush (v := -2) hx hb dX2_seal_19 (by decide) ?_
    exact x_int cx hr hlk (ad' := ad) ⟨rfl, hP⟩ hS dX2_seal_21
def f_X2_seal (S : St) (E : Ex) (i k : Nat) : Int32 × St × Ex :=
  if f_X0_isOfTrade S i = 0 then ((-3), S, E)
  else if f_X2_judgement S i = 1 then (if f_X2_wasPutOn E k = 0 then (1, (setA S 6 i (nI k)), (f_X2_markPutOn E k))
    else ((-3), S, E))
  else ((-3), S, E)
set_option maxRecDepth 20000 in
theorem c_X2_seal (l : Launch) (G : GG) (ad : Nat → Nat) (S : St) (E : Ex) (hW : WF S) {i : Nat} (hi : i < nt S) {k : Nat} (h1 : 1 ≤ k) (hk : k < 10000) : MW l yX2_seal cX2_seal 4 (some .int) 3 68 0 0 G ad (cX G ad S E) [.ref (ad 0), .int (nI i), .int (nI k)] (some (.int (f_X2_seal S E i k).1)) (fun ad' => cX G ad' (f_X2_seal S E i k).2.1 (f_X2_seal S E i k).2.2) (fun ad' => ad' = ad) := by
  refine MW.of [(0, .ref (ad 0)), (1, .int (nI i)), (2, .int (nI k))] (by decide) (Nat.le_of_ble_eq_true rfl) rfl ?_
  intro p e s m args below meth c A cx hr hlk hnm hA hP ls hl
  have hx := cx.1.1
  have hb := cx.1.2.1
  have hS : va_S A s.heap s.heap [] := va_S.rf
  refine lv_aload_n hx hb dX2_seal_0 rfl (lv_at hl 0 rfl) ?_
  refine lv_iload_n hx hb dX2_seal_1 rfl (lv_at hl 1 rfl) ?_
  refine w_callV (As := [.int (nI i)]) (rest := []) (st := [.ref (ad (10 + 2 * i))]) cx (c_X2_thingAt_in l G ad S E hW hi) k_149 cal_yX2_thingAt (ci := 2) rfl (hP.pa _ _ (cX_lo 0 (by decide) rfl)) hP.pa rfl ⟨Nat.le_of_ble_eq_true rfl, Nat.le_of_ble_eq_true rfl⟩ hl.1 (Nat.le_of_ble_eq_true rfl) ⟨Nat.zero_le _, Nat.zero_le _⟩ rfl rfl dX2_seal_2 ?_
  refine lv_astore_n (lv' := [(3, .ref (ad (10 + 2 * i))), (0, .ref (ad 0)), (1, .int (nI i)), (2, .int (nI k))]) hx hb dX2_seal_5 rfl hl (by decide) rfl (fun ls hl => ?_)
  refine lv_aload_n hx hb dX2_seal_6 rfl (lv_at hl 0 rfl) ?_
  refine lv_ifnonnull (tgt := 12) hx hb dX2_seal_7 (by decide) ?_
  refine lv_iload_n hx hb dX2_seal_12 rfl (lv_at hl 3 rfl) ?_
  refine w_callS (As := [.int (nI k)]) (rest := []) (st := [.int (f_X2_isSealNumber (nI k))]) cx (c_X2_isSealNumber l G ad _ (nI k)) k_389 cal_yX2_isSealNumber hP.pa rfl ⟨Nat.le_of_ble_eq_true rfl, Nat.le_of_ble_eq_true rfl⟩ hl.1 (Nat.le_of_ble_eq_true rfl) ⟨Nat.zero_le _, Nat.zero_le _⟩ rfl rfl dX2_seal_13 ?_
  refine lv_if_ne (tgt := 22) hx hb dX2_seal_16 (by decide) (fun c_1 => ?_) (fun c_1 => ?_)
  · refine lv_aload_n hx hb dX2_seal_22 rfl (lv_at hl 0 rfl) ?_
    refine w_callV (As := []) (rest := []) (st := [.int (f_X0_isOfTrade S i)]) cx (c_X0_isOfTrade l G ad S E hW (i := i) hi) k_180 cal_yX0_isOfTrade (ci := 0) rfl (hP.pa _ _ (cX_T hi hW.t)) hP.pa rfl ⟨Nat.le_of_ble_eq_true rfl, Nat.le_of_ble_eq_true rfl⟩ hl.1 (Nat.le_of_ble_eq_true rfl) ⟨Nat.zero_le _, Nat.zero_le _⟩ rfl rfl dX2_seal_23 ?_
    refine lv_if_eq (tgt := 46) hx hb dX2_seal_26 (by decide) (fun c_2 => ?_) (fun c_2 => ?_)
    · refine lv_bipush (v := -3) hx hb dX2_seal_46 (by decide) ?_
      rw [show f_X2_seal S E i k = ((-3), S, E) from by rw [f_X2_seal, if_pos c_2]]
      exact x_int cx hr hlk (ad' := ad) ⟨rfl, hP⟩ hS dX2_seal_48
    · refine lv_aload_n hx hb dX2_seal_29 rfl (lv_at hl 1 rfl) ?_
      refine lv_aload_n hx hb dX2_seal_30 rfl (lv_at hl 0 rfl) ?_
      refine w_callV (As := [.ref (ad (10 + 2 * i))]) (rest := []) (st := [.int (f_X2_judgement S i)]) cx (c_X2_judgement l G ad S E hW (i := i) hi) k_359 cal_yX2_judgement (ci := 2) rfl (hP.pa _ _ (cX_lo 0 (by decide) rfl)) hP.pa rfl ⟨Nat.le_of_ble_eq_true rfl, Nat.le_of_ble_eq_true rfl⟩ hl.1 (Nat.le_of_ble_eq_true rfl) ⟨Nat.zero_le _, Nat.zero_le _⟩ rfl rfl dX2_seal_31 ?_
      refine lv_iconst (v := 1) hx hb dX2_seal_34 (by decide) ?_
      refine lv_icmp_ne (tgt := 46) hx hb dX2_seal_35 (by decide) (fun c_3 => ?_) (fun c_3 => ?_)
      · refine lv_bipush (v := -3) hx hb dX2_seal_46 (by decide) ?_
        rw [show f_X2_seal S E i k = ((-3), S, E) from by rw [f_X2_seal, if_neg c_2, if_neg c_3]]
        exact x_int cx hr hlk (ad' := ad) ⟨rfl, hP⟩ hS dX2_seal_48
      · refine lv_aload_n hx hb dX2_seal_38 rfl (lv_at hl 1 rfl) ?_
        refine lv_iload_n hx hb dX2_seal_39 rfl (lv_at hl 3 rfl) ?_
        refine w_callV (As := [.int (nI k)]) (rest := []) (st := [.int (f_X2_wasPutOn E k)]) cx (c_X2_wasPutOn l G ad S E hW h1 hk) k_392 cal_yX2_wasPutOn (ci := 2) rfl (hP.pa _ _ (cX_lo 0 (by decide) rfl)) hP.pa rfl ⟨Nat.le_of_ble_eq_true rfl, Nat.le_of_ble_eq_true rfl⟩ hl.1 (Nat.le_of_ble_eq_true rfl) ⟨Nat.zero_le _, Nat.zero_le _⟩ rfl rfl dX2_seal_40 ?_
        refine lv_if_eq (tgt := 49) hx hb dX2_seal_43 (by decide) (fun c_4 => ?_) (fun c_4 => ?_)
        · refine lv_aload_n hx hb dX2_seal_49 rfl (lv_at hl 1 rfl) ?_
          refine lv_iload_n hx hb dX2_seal_50 rfl (lv_at hl 3 rfl) ?_
          refine w_callVW (As := [.int (nI k)]) (rest := []) (st := []) cx (c_X2_markPutOn l G ad S E hW h1 hk) k_396 cal_yX2_markPutOn (ci := 2) rfl (hP.pa _ _ (cX_lo 0 (by decide) rfl)) hP hS hA rfl ⟨Nat.le_of_ble_eq_true rfl, Nat.le_of_ble_eq_true rfl⟩ hl.1 (Nat.le_of_ble_eq_true rfl) ⟨Nat.le_of_ble_eq_true rfl, Nat.le_of_ble_eq_true rfl⟩ rfl rfl dX2_seal_51 (fun ad1 H locs hX1 hP hz1 hq1 hS => ?_)
          rw [hX1] at hP
          refine lv_aload_n hx hb dX2_seal_54 rfl (lv_at hl 0 rfl) ?_
          refine lv_iload_n hx hb dX2_seal_55 rfl (lv_at hl 3 rfl) ?_
          refine xT_put cx hP hS hi hW.t 8 6 (by decide) (by decide) k_121 dX2_seal_56 (fun H locs hP hS => ?_)
          refine lv_iconst (v := 1) hx hb dX2_seal_59 (by decide) ?_
          rw [show f_X2_seal S E i k = (1, (setA S 6 i (nI k)), (f_X2_markPutOn E k)) from by rw [f_X2_seal, if_neg c_2, if_pos c_3, if_pos c_4]]
          exact x_int cx hr hlk (ad' := ad) ⟨rfl, hP⟩ hS dX2_seal_60
        · refine lv_bipush (v := -3) hx hb dX2_seal_46 (by decide) ?_
          rw [show f_X2_seal S E i k = ((-3), S, E) from by rw [f_X2_seal, if_neg c_2, if_pos c_3, if_neg c_4]]
          exact x_int cx hr hlk (ad' := ad) ⟨rfl, hP⟩ hS dX2_seal_48
  · exact absurd c_1 (isN_in h1 hk)
set_option maxRecDepth 20000 in
theorem c_X2_charge_out (l : Launch) (G : GG) (ad : Nat → Nat) (S : St) (E : Ex) (hW : WF S) {n : Int32} (hn : nT S n)  : MW l yX2_charge cX2_charge 7 (some .int) 3 68 0 0 G ad (cX G ad S E) [.ref (ad 0), .int n] (some (.int (((-1, S) : Int32 × St)).1)) (fun ad' => cX G ad' (((-1, S) : Int32 × St)).2 E) (fun ad' => ad' = ad) := by
  refine MW.of [(0, .ref (ad 0)), (1, .int n)] (by decide) (Nat.le_of_ble_eq_true rfl) rfl ?_
  intro p e s m args below meth c A cx hr hlk hnm hA hP ls hl
  have hx := cx.1.1
  have hb := cx.1.2.1
  have hS : va_S A s.heap s.heap [] := va_S.rf
  refine lv_aload_n hx hb dX2_charge_0 rfl (lv_at hl 0 rfl) ?_
  refine lv_iload_n hx hb dX2_charge_1 rfl (lv_at hl 1 rfl) ?_
  refine w_callV (As := [.int n]) (rest := []) (st := [.null]) cx (c_X2_thingAt_out l G ad S E hW hn) k_149 cal_yX2_thingAt (ci := 2) rfl (hP.pa _ _ (cX_lo 0 (by decide) rfl)) hP.pa rfl ⟨Nat.le_of_ble_eq_true rfl, Nat.le_of_ble_eq_true rfl⟩ hl.1 (Nat.le_of_ble_eq_true rfl) ⟨Nat.zero_le _, Nat.zero_le _⟩ rfl rfl dX2_charge_2 ?_
  refine lv_astore_nN (lv' := [(2, .null), (0, .ref (ad 0)), (1, .int n)]) hx hb dX2_charge_5 rfl hl (by decide) rfl (fun ls hl => ?_)
  refine lv_aload_nN hx hb dX2_charge_6 rfl (lv_at hl 0 rfl) ?_
  refine lv_ifnonnullN hx hb dX2_charge_7 ?_
  refine lv_iconst (v := -1) hx hb dX2_charge_10 (by decide) ?_
  exact x_int cx hr hlk (ad' := ad) ⟨rfl, hP⟩ hS dX2_charge_11
def f_X2_charge (S : St) (i : Nat) : Int32 × St :=
  if ar S 5 i = -1000000 then (if f_X0_isOfTrade S i = 0 then ((-3), S)
    else if f_X2_judgement S i = 3 then ((-3), S)
    else ((-3), S))
  else if f_X0_isOfTrade S i = 0 then ((-3), S)
  else if f_X2_judgement S i = 3 then (if ar S 15 (ix (ar S 5 i)) = sc S 0 then (if ar S 21 (ix (ar S 5 i)) = 0 then (if f_X2_isOwner (ar S 3 i) = 0 then ((-3), S)
        else ((10 * (((f_X0_errorSize (setS (setA (setA (setA S 21 (ix (ar S 5 i)) 1) 7 i ((ar S 7 i) + 1)) 22 (ix (ar S 3 i)) ((ar (setA (setA S 21 (ix (ar S 5 i)) 1) 7 i ((ar S 7 i) + 1)) 22 (ix (ar S 3 i))) + 1)) 1 ((sc S 1) + 1)) i) - (f_X0_spanOn (setS (setA (setA (setA S 21 (ix (ar S 5 i)) 1) 7 i ((ar S 7 i) + 1)) 22 (ix (ar S 3 i)) ((ar (setA (setA S 21 (ix (ar S 5 i)) 1) 7 i ((ar S 7 i) + 1)) 22 (ix (ar S 3 i))) + 1)) 1 ((sc S 1) + 1)) i (sc S 0))) - (f_X2_allowanceFor (setS (setA (setA (setA S 21 (ix (ar S 5 i)) 1) 7 i ((ar S 7 i) + 1)) 22 (ix (ar S 3 i)) ((ar (setA (setA S 21 (ix (ar S 5 i)) 1) 7 i ((ar S 7 i) + 1)) 22 (ix (ar S 3 i))) + 1)) 1 ((sc S 1) + 1)) i))) * (f_min (ar (setS (setA (setA (setA S 21 (ix (ar S 5 i)) 1) 7 i ((ar S 7 i) + 1)) 22 (ix (ar S 3 i)) ((ar (setA (setA S 21 (ix (ar S 5 i)) 1) 7 i ((ar S 7 i) + 1)) 22 (ix (ar S 3 i))) + 1)) 1 ((sc S 1) + 1)) 22 (ix (ar S 3 i))) 5), (setL (setS (setA (setA (setA S 21 (ix (ar S 5 i)) 1) 7 i ((ar S 7 i) + 1)) 22 (ix (ar S 3 i)) ((ar (setA (setA S 21 (ix (ar S 5 i)) 1) 7 i ((ar S 7 i) + 1)) 22 (ix (ar S 3 i))) + 1)) 1 ((sc S 1) + 1)) (ix (ar S 3 i)) ((os (setS (setA (setA (setA S 21 (ix (ar S 5 i)) 1) 7 i ((ar S 7 i) + 1)) 22 (ix (ar S 3 i)) ((ar (setA (setA S 21 (ix (ar S 5 i)) 1) 7 i ((ar S 7 i) + 1)) 22 (ix (ar S 3 i))) + 1)) 1 ((sc S 1) + 1)) (ix (ar S 3 i))) + (((10 * (((f_X0_errorSize (setS (setA (setA (setA S 21 (ix (ar S 5 i)) 1) 7 i ((ar S 7 i) + 1)) 22 (ix (ar S 3 i)) ((ar (setA (setA S 21 (ix (ar S 5 i)) 1) 7 i ((ar S 7 i) + 1)) 22 (ix (ar S 3 i))) + 1)) 1 ((sc S 1) + 1)) i) - (f_X0_spanOn (setS (setA (setA (setA S 21 (ix (ar S 5 i)) 1) 7 i ((ar S 7 i) + 1)) 22 (ix (ar S 3 i)) ((ar (setA (setA S 21 (ix (ar S 5 i)) 1) 7 i ((ar S 7 i) + 1)) 22 (ix (ar S 3 i))) + 1)) 1 ((sc S 1) + 1)) i (sc S 0))) - (f_X2_allowanceFor (setS (setA (setA (setA S 21 (ix (ar S 5 i)) 1) 7 i ((ar S 7 i) + 1)) 22 (ix (ar S 3 i)) ((ar (setA (setA S 21 (ix (ar S 5 i)) 1) 7 i ((ar S 7 i) + 1)) 22 (ix (ar S 3 i))) + 1)) 1 ((sc S 1) + 1)) i))) * (f_min (ar (setS (setA (setA (setA S 21 (ix (ar S 5 i)) 1) 7 i ((ar S 7 i) + 1)) 22 (ix (ar S 3 i)) ((ar (setA (setA S 21 (ix (ar S 5 i)) 1) 7 i ((ar S 7 i) + 1)) 22 (ix (ar S 3 i))) + 1)) 1 ((sc S 1) + 1)) 22 (ix (ar S 3 i))) 5)).toInt64)))))
      else ((-3), S))
    else ((-3), S))
  else ((-3), S)
set_option maxRecDepth 20000 in
theorem c_X2_charge (l : Launch) (G : GG) (ad : Nat → Nat) (S : St) (E : Ex) (hW : WF S) {i : Nat} (hi : i < nt S) : MW l yX2_charge cX2_charge 7 (some .int) 3 68 0 0 G ad (cX G ad S E) [.ref (ad 0), .int (nI i)] (some (.int (f_X2_charge S i).1)) (fun ad' => cX G ad' (f_X2_charge S i).2 E) (fun ad' => ad' = ad) := by
  refine MW.of [(0, .ref (ad 0)), (1, .int (nI i))] (by decide) (Nat.le_of_ble_eq_true rfl) rfl ?_
  intro p e s m args below meth c A cx hr hlk hnm hA hP ls hl
  have hx := cx.1.1
  have hb := cx.1.2.1
  have hS : va_S A s.heap s.heap [] := va_S.rf
  refine lv_aload_n hx hb dX2_charge_0 rfl (lv_at hl 0 rfl) ?_
  refine lv_iload_n hx hb dX2_charge_1 rfl (lv_at hl 1 rfl) ?_
  refine w_callV (As := [.int (nI i)]) (rest := []) (st := [.ref (ad (10 + 2 * i))]) cx (c_X2_thingAt_in l G ad S E hW hi) k_149 cal_yX2_thingAt (ci := 2) rfl (hP.pa _ _ (cX_lo 0 (by decide) rfl)) hP.pa rfl ⟨Nat.le_of_ble_eq_true rfl, Nat.le_of_ble_eq_true rfl⟩ hl.1 (Nat.le_of_ble_eq_true rfl) ⟨Nat.zero_le _, Nat.zero_le _⟩ rfl rfl dX2_charge_2 ?_
  refine lv_astore_n (lv' := [(2, .ref (ad (10 + 2 * i))), (0, .ref (ad 0)), (1, .int (nI i))]) hx hb dX2_charge_5 rfl hl (by decide) rfl (fun ls hl => ?_)
  refine lv_aload_n hx hb dX2_charge_6 rfl (lv_at hl 0 rfl) ?_
  refine lv_ifnonnull (tgt := 12) hx hb dX2_charge_7 (by decide) ?_
  refine lv_aload_n hx hb dX2_charge_12 rfl (lv_at hl 0 rfl) ?_
  by_cases c_1 : ar S 5 i = -1000000
  · refine w_get cx (ci := 0) rfl iX0 (hP.pa _ _ (cX_T hi hW.t)) 9 (by decide) k_122 (v := .null) (congrArg some (rT_null c_1)) dX2_charge_13 ?_
    refine lv_astore_nN (lv' := [(3, .null), (2, .ref (ad (10 + 2 * i))), (0, .ref (ad 0)), (1, .int (nI i))]) hx hb dX2_charge_16 rfl hl (by decide) rfl (fun ls hl => ?_)
    refine lv_aload_n hx hb dX2_charge_17 rfl (lv_at hl 1 rfl) ?_
    refine w_callV (As := []) (rest := []) (st := [.int (f_X0_isOfTrade S i)]) cx (c_X0_isOfTrade l G ad S E hW (i := i) hi) k_180 cal_yX0_isOfTrade (ci := 0) rfl (hP.pa _ _ (cX_T hi hW.t)) hP.pa rfl ⟨Nat.le_of_ble_eq_true rfl, Nat.le_of_ble_eq_true rfl⟩ hl.1 (Nat.le_of_ble_eq_true rfl) ⟨Nat.zero_le _, Nat.zero_le _⟩ rfl rfl dX2_charge_18 ?_
    refine lv_if_eq (tgt := 37) hx hb dX2_charge_21 (by decide) (fun c_2 => ?_) (fun c_2 => ?_)
    · refine lv_bipush (v := -3) hx hb dX2_charge_37 (by decide) ?_
      rw [show f_X2_charge S i = ((-3), S) from by rw [f_X2_charge, if_pos c_1, if_pos c_2]]
      exact x_int cx hr hlk (ad' := ad) ⟨rfl, hP⟩ hS dX2_charge_39
    · refine lv_aload_n hx hb dX2_charge_24 rfl (lv_at hl 2 rfl) ?_
      refine lv_aload_n hx hb dX2_charge_25 rfl (lv_at hl 1 rfl) ?_
      refine w_callV (As := [.ref (ad (10 + 2 * i))]) (rest := []) (st := [.int (f_X2_judgement S i)]) cx (c_X2_judgement l G ad S E hW (i := i) hi) k_359 cal_yX2_judgement (ci := 2) rfl (hP.pa _ _ (cX_lo 0 (by decide) rfl)) hP.pa rfl ⟨Nat.le_of_ble_eq_true rfl, Nat.le_of_ble_eq_true rfl⟩ hl.1 (Nat.le_of_ble_eq_true rfl) ⟨Nat.zero_le _, Nat.zero_le _⟩ rfl rfl dX2_charge_26 ?_
      refine lv_iconst (v := 3) hx hb dX2_charge_29 (by decide) ?_
      refine lv_icmp_ne (tgt := 37) hx hb dX2_charge_30 (by decide) (fun c_3 => ?_) (fun c_3 => ?_)
      · refine lv_bipush (v := -3) hx hb dX2_charge_37 (by decide) ?_
        rw [show f_X2_charge S i = ((-3), S) from by rw [f_X2_charge, if_pos c_1, if_neg c_2, if_neg c_3]]
        exact x_int cx hr hlk (ad' := ad) ⟨rfl, hP⟩ hS dX2_charge_39
      · refine lv_aload_nN hx hb dX2_charge_33 rfl (lv_at hl 0 rfl) ?_
        refine lv_ifnonnullN hx hb dX2_charge_34 ?_
        refine lv_bipush (v := -3) hx hb dX2_charge_37 (by decide) ?_
        rw [show f_X2_charge S i = ((-3), S) from by rw [f_X2_charge, if_pos c_1, if_neg c_2, if_pos c_3]]
        exact x_int cx hr hlk (ad' := ad) ⟨rfl, hP⟩ hS dX2_charge_39
  · refine w_get cx (ci := 0) rfl iX0 (hP.pa _ _ (cX_T hi hW.t)) 9 (by decide) k_122 (v := .ref (ad (100 + ix (ar S 5 i)))) (congrArg some (rT_ref c_1)) dX2_charge_13 ?_
    refine lv_astore_n (lv' := [(3, .ref (ad (100 + ix (ar S 5 i)))), (2, .ref (ad (10 + 2 * i))), (0, .ref (ad 0)), (1, .int (nI i))]) hx hb dX2_charge_16 rfl hl (by decide) rfl (fun ls hl => ?_)
    refine lv_aload_n hx hb dX2_charge_17 rfl (lv_at hl 1 rfl) ?_
    refine w_callV (As := []) (rest := []) (st := [.int (f_X0_isOfTrade S i)]) cx (c_X0_isOfTrade l G ad S E hW (i := i) hi) k_180 cal_yX0_isOfTrade (ci := 0) rfl (hP.pa _ _ (cX_T hi hW.t)) hP.pa rfl ⟨Nat.le_of_ble_eq_true rfl, Nat.le_of_ble_eq_true rfl⟩ hl.1 (Nat.le_of_ble_eq_true rfl) ⟨Nat.zero_le _, Nat.zero_le _⟩ rfl rfl dX2_charge_18 ?_
    refine lv_if_eq (tgt := 37) hx hb dX2_charge_21 (by decide) (fun c_4 => ?_) (fun c_4 => ?_)
    · refine lv_bipush (v := -3) hx hb dX2_charge_37 (by decide) ?_
      rw [show f_X2_charge S i = ((-3), S) from by rw [f_X2_charge, if_neg c_1, if_pos c_4]]
      exact x_int cx hr hlk (ad' := ad) ⟨rfl, hP⟩ hS dX2_charge_39
    · refine lv_aload_n hx hb dX2_charge_24 rfl (lv_at hl 2 rfl) ?_
      refine lv_aload_n hx hb dX2_charge_25 rfl (lv_at hl 1 rfl) ?_
      refine w_callV (As := [.ref (ad (10 + 2 * i))]) (rest := []) (st := [.int (f_X2_judgement S i)]) cx (c_X2_judgement l G ad S E hW (i := i) hi) k_359 cal_yX2_judgement (ci := 2) rfl (hP.pa _ _ (cX_lo 0 (by decide) rfl)) hP.pa rfl ⟨Nat.le_of_ble_eq_true rfl, Nat.le_of_ble_eq_true rfl⟩ hl.1 (Nat.le_of_ble_eq_true rfl) ⟨Nat.zero_le _, Nat.zero_le _⟩ rfl rfl dX2_charge_26 ?_
      refine lv_iconst (v := 3) hx hb dX2_charge_29 (by decide) ?_
      refine lv_icmp_ne (tgt := 37) hx hb dX2_charge_30 (by decide) (fun c_5 => ?_) (fun c_5 => ?_)
      · refine lv_bipush (v := -3) hx hb dX2_charge_37 (by decide) ?_
        rw [show f_X2_charge S i = ((-3), S) from by rw [f_X2_charge, if_neg c_1, if_neg c_4, if_neg c_5]]
        exact x_int cx hr hlk (ad' := ad) ⟨rfl, hP⟩ hS dX2_charge_39
      · refine lv_aload_n hx hb dX2_charge_33 rfl (lv_at hl 0 rfl) ?_
        refine lv_ifnonnull (tgt := 40) hx hb dX2_charge_34 (by decide) ?_
        refine lv_aload_n hx hb dX2_charge_40 rfl (lv_at hl 0 rfl) ?_
        refine w_get cx (ci := 1) rfl iX1 (hP.pa _ _ (cX_R (hW.la hi c_1).2)) 4 (by decide) k_254 (v := .int (ar S 15 (ix (ar S 5 i)))) rfl dX2_charge_41 ?_
        refine lv_aload_n hx hb dX2_charge_44 rfl (lv_at hl 2 rfl) ?_
        refine w_get cx (ci := 2) rfl iX2 (hP.pa _ _ (cX_lo 0 (by decide) rfl)) 9 (by decide) k_54 (v := .int (sc S 0)) rfl dX2_charge_45 ?_
        refine lv_icmp_ne (tgt := 58) hx hb dX2_charge_48 (by decide) (fun c_6 => ?_) (fun c_6 => ?_)
        · refine lv_bipush (v := -3) hx hb dX2_charge_58 (by decide) ?_
          rw [show f_X2_charge S i = ((-3), S) from by rw [f_X2_charge, if_neg c_1, if_neg c_4, if_pos c_5, if_neg c_6]]
          exact x_int cx hr hlk (ad' := ad) ⟨rfl, hP⟩ hS dX2_charge_60
        · refine lv_aload_n hx hb dX2_charge_51 rfl (lv_at hl 0 rfl) ?_
          refine w_get cx (ci := 1) rfl iX1 (hP.pa _ _ (cX_R (hW.la hi c_1).2)) 9 (by decide) k_266 (v := .int (ar S 21 (ix (ar S 5 i)))) rfl dX2_charge_52 ?_
          refine lv_if_eq (tgt := 61) hx hb dX2_charge_55 (by decide) (fun c_7 => ?_) (fun c_7 => ?_)
          · refine lv_aload_n hx hb dX2_charge_61 rfl (lv_at hl 1 rfl) ?_
            refine w_get cx (ci := 0) rfl iX0 (hP.pa _ _ (cX_T hi hW.t)) 4 (by decide) k_115 (v := .int (ar S 3 i)) rfl dX2_charge_62 ?_
            refine lv_istore (lv' := [(4, .int (ar S 3 i)), (3, .ref (ad (100 + ix (ar S 5 i)))), (2, .ref (ad (10 + 2 * i))), (0, .ref (ad 0)), (1, .int (nI i))]) hx hb dX2_charge_65 hl (by decide) rfl (fun ls hl => ?_)
            refine lv_iload hx hb dX2_charge_67 (lv_at hl 0 rfl) ?_
            refine w_callS (As := [.int (ar S 3 i)]) (rest := []) (st := [.int (f_X2_isOwner (ar S 3 i))]) cx (c_X2_isOwner l G ad _ (ar S 3 i)) k_98 cal_yX2_isOwner hP.pa rfl ⟨Nat.le_of_ble_eq_true rfl, Nat.le_of_ble_eq_true rfl⟩ hl.1 (Nat.le_of_ble_eq_true rfl) ⟨Nat.zero_le _, Nat.zero_le _⟩ rfl rfl dX2_charge_69 ?_
            refine lv_if_ne (tgt := 78) hx hb dX2_charge_72 (by decide) (fun c_8 => ?_) (fun c_8 => ?_)
            · refine lv_aload_n hx hb dX2_charge_78 rfl (lv_at hl 1 rfl) ?_
              refine lv_iconst (v := 1) hx hb dX2_charge_79 (by decide) ?_
              refine xR_put (n := ix (ar S 5 i)) cx hP hS (hW.la hi c_1).2 9 21 (by decide) (by decide) (Or.inr rfl) k_266 dX2_charge_80 (fun H locs hP hS => ?_)
              refine lv_aload_n hx hb dX2_charge_83 rfl (lv_at hl 2 rfl) ?_
              refine lv_dup hx hb dX2_charge_84 rfl ?_
              refine w_get cx (ci := 0) rfl iX0 (hP.pa _ _ (cX_T hi hW.t)) 7 (by decide) k_119 (v := .int (ar (setA S 21 (ix (ar S 5 i)) 1) 7 i)) rfl dX2_charge_85 ?_
              refine w_nrm (y := ar S 7 i) rfl ?_
              refine lv_iconst (v := 1) hx hb dX2_charge_88 (by decide) ?_
              refine lv_iadd hx hb dX2_charge_89 ?_
              refine xT_put cx hP hS hi hW.t 7 7 (by decide) (by decide) k_119 dX2_charge_90 (fun H locs hP hS => ?_)
              refine lv_aload_n hx hb dX2_charge_93 rfl (lv_at hl 3 rfl) ?_
              refine w_get cx (ci := 2) rfl iX2 (hP.pa _ _ (cX_lo 0 (by decide) rfl)) 4 (by decide) k_49 (v := .ref (ad 5)) rfl dX2_charge_94 ?_
              refine lv_iload hx hb dX2_charge_97 (lv_at hl 0 rfl) ?_
              refine lv_dup2_11 hx hb dX2_charge_99 rfl rfl ?_
              refine w_iald cx (hP.pa _ _ (cX_lo 5 (by decide) rfl)) (ix (ar S 3 i)) (hW.ow hi).1 (hW.ow hi).2 (by decide) dX2_charge_100 ?_
              refine lv_iconst (v := 1) hx hb dX2_charge_101 (by decide) ?_
              refine lv_iadd hx hb dX2_charge_102 ?_
              refine xC_ast cx hP hS (ix (ar S 3 i)) (hW.ow hi).1 (hW.ow hi).2 dX2_charge_103 (fun H locs hP hS => ?_)
              refine lv_aload_n hx hb dX2_charge_104 rfl (lv_at hl 3 rfl) ?_
              refine lv_dup hx hb dX2_charge_105 rfl ?_
              refine w_get cx (ci := 2) rfl iX2 (hP.pa _ _ (cX_lo 0 (by decide) rfl)) 12 (by decide) k_57 (v := .int (sc S 1)) rfl dX2_charge_106 ?_
              refine lv_iconst (v := 1) hx hb dX2_charge_109 (by decide) ?_
              refine lv_iadd hx hb dX2_charge_110 ?_
              refine xX_put cx hP hS 12 1 (by decide) (by decide) k_57 dX2_charge_111 (fun H locs hP hS => ?_)
              refine lv_aload_n hx hb dX2_charge_114 rfl (lv_at hl 2 rfl) ?_
              refine w_callV (As := []) (rest := []) (st := [.int (f_X0_errorSize (setS (setA (setA (setA S 21 (ix (ar S 5 i)) 1) 7 i ((ar S 7 i) + 1)) 22 (ix (ar S 3 i)) ((ar (setA (setA S 21 (ix (ar S 5 i)) 1) 7 i ((ar S 7 i) + 1)) 22 (ix (ar S 3 i))) + 1)) 1 ((sc S 1) + 1)) i)]) cx (c_X0_errorSize l G ad (setS (setA (setA (setA S 21 (ix (ar S 5 i)) 1) 7 i ((ar S 7 i) + 1)) 22 (ix (ar S 3 i)) ((ar (setA (setA S 21 (ix (ar S 5 i)) 1) 7 i ((ar S 7 i) + 1)) 22 (ix (ar S 3 i))) + 1)) 1 ((sc S 1) + 1)) E (((hW.setA (ix (ar S 5 i)) 1 (by decide) (by decide) (by decide) (by decide)).setA i ((ar S 7 i) + 1) (by decide) (by decide) (by decide) (by decide)).setA (ix (ar S 3 i)) ((ar (setA (setA S 21 (ix (ar S 5 i)) 1) 7 i ((ar S 7 i) + 1)) 22 (ix (ar S 3 i))) + 1) (by decide) (by decide) (by decide) (by decide)) (i := i) hi) k_363 cal_yX0_errorSize (ci := 0) rfl (hP.pa _ _ (cX_T hi hW.t)) hP.pa rfl ⟨Nat.le_of_ble_eq_true rfl, Nat.le_of_ble_eq_true rfl⟩ hl.1 (Nat.le_of_ble_eq_true rfl) ⟨Nat.zero_le _, Nat.zero_le _⟩ rfl rfl dX2_charge_115 ?_
              refine lv_aload_n hx hb dX2_charge_118 rfl (lv_at hl 2 rfl) ?_
              refine lv_aload_n hx hb dX2_charge_119 rfl (lv_at hl 3 rfl) ?_
              refine w_get cx (ci := 2) rfl iX2 (hP.pa _ _ (cX_lo 0 (by decide) rfl)) 9 (by decide) k_54 (v := .int (sc S 0)) rfl dX2_charge_120 ?_
              refine w_callV (As := [.int (sc S 0)]) (rest := [.int (f_X0_errorSize (setS (setA (setA (setA S 21 (ix (ar S 5 i)) 1) 7 i ((ar S 7 i) + 1)) 22 (ix (ar S 3 i)) ((ar (setA (setA S 21 (ix (ar S 5 i)) 1) 7 i ((ar S 7 i) + 1)) 22 (ix (ar S 3 i))) + 1)) 1 ((sc S 1) + 1)) i)]) (st := [.int (f_X0_spanOn (setS (setA (setA (setA S 21 (ix (ar S 5 i)) 1) 7 i ((ar S 7 i) + 1)) 22 (ix (ar S 3 i)) ((ar (setA (setA S 21 (ix (ar S 5 i)) 1) 7 i ((ar S 7 i) + 1)) 22 (ix (ar S 3 i))) + 1)) 1 ((sc S 1) + 1)) i (sc S 0)), .int (f_X0_errorSize (setS (setA (setA (setA S 21 (ix (ar S 5 i)) 1) 7 i ((ar S 7 i) + 1)) 22 (ix (ar S 3 i)) ((ar (setA (setA S 21 (ix (ar S 5 i)) 1) 7 i ((ar S 7 i) + 1)) 22 (ix (ar S 3 i))) + 1)) 1 ((sc S 1) + 1)) i)]) cx (c_X0_spanOn l G ad (setS (setA (setA (setA S 21 (ix (ar S 5 i)) 1) 7 i ((ar S 7 i) + 1)) 22 (ix (ar S 3 i)) ((ar (setA (setA S 21 (ix (ar S 5 i)) 1) 7 i ((ar S 7 i) + 1)) 22 (ix (ar S 3 i))) + 1)) 1 ((sc S 1) + 1)) E (((hW.setA (ix (ar S 5 i)) 1 (by decide) (by decide) (by decide) (by decide)).setA i ((ar S 7 i) + 1) (by decide) (by decide) (by decide) (by decide)).setA (ix (ar S 3 i)) ((ar (setA (setA S 21 (ix (ar S 5 i)) 1) 7 i ((ar S 7 i) + 1)) 22 (ix (ar S 3 i))) + 1) (by decide) (by decide) (by decide) (by decide)) (i := i) hi (sc S 0)) k_213 cal_yX0_spanOn (ci := 0) rfl (hP.pa _ _ (cX_T hi hW.t)) hP.pa rfl ⟨Nat.le_of_ble_eq_true rfl, Nat.le_of_ble_eq_true rfl⟩ hl.1 (Nat.le_of_ble_eq_true rfl) ⟨Nat.zero_le _, Nat.zero_le _⟩ rfl rfl dX2_charge_123 ?_
              refine lv_isub hx hb dX2_charge_126 ?_
              refine lv_aload_n hx hb dX2_charge_127 rfl (lv_at hl 3 rfl) ?_
              refine lv_aload_n hx hb dX2_charge_128 rfl (lv_at hl 2 rfl) ?_
              refine w_callV (As := [.ref (ad (10 + 2 * i))]) (rest := [.int ((f_X0_errorSize (setS (setA (setA (setA S 21 (ix (ar S 5 i)) 1) 7 i ((ar S 7 i) + 1)) 22 (ix (ar S 3 i)) ((ar (setA (setA S 21 (ix (ar S 5 i)) 1) 7 i ((ar S 7 i) + 1)) 22 (ix (ar S 3 i))) + 1)) 1 ((sc S 1) + 1)) i) - (f_X0_spanOn (setS (setA (setA (setA S 21 (ix (ar S 5 i)) 1) 7 i ((ar S 7 i) + 1)) 22 (ix (ar S 3 i)) ((ar (setA (setA S 21 (ix (ar S 5 i)) 1) 7 i ((ar S 7 i) + 1)) 22 (ix (ar S 3 i))) + 1)) 1 ((sc S 1) + 1)) i (sc S 0)))]) (st := [.int (f_X2_allowanceFor (setS (setA (setA (setA S 21 (ix (ar S 5 i)) 1) 7 i ((ar S 7 i) + 1)) 22 (ix (ar S 3 i)) ((ar (setA (setA S 21 (ix (ar S 5 i)) 1) 7 i ((ar S 7 i) + 1)) 22 (ix (ar S 3 i))) + 1)) 1 ((sc S 1) + 1)) i), .int ((f_X0_errorSize (setS (setA (setA (setA S 21 (ix (ar S 5 i)) 1) 7 i ((ar S 7 i) + 1)) 22 (ix (ar S 3 i)) ((ar (setA (setA S 21 (ix (ar S 5 i)) 1) 7 i ((ar S 7 i) + 1)) 22 (ix (ar S 3 i))) + 1)) 1 ((sc S 1) + 1)) i) - (f_X0_spanOn (setS (setA (setA (setA S 21 (ix (ar S 5 i)) 1) 7 i ((ar S 7 i) + 1)) 22 (ix (ar S 3 i)) ((ar (setA (setA S 21 (ix (ar S 5 i)) 1) 7 i ((ar S 7 i) + 1)) 22 (ix (ar S 3 i))) + 1)) 1 ((sc S 1) + 1)) i (sc S 0)))]) cx (c_X2_allowanceFor l G ad (setS (setA (setA (setA S 21 (ix (ar S 5 i)) 1) 7 i ((ar S 7 i) + 1)) 22 (ix (ar S 3 i)) ((ar (setA (setA S 21 (ix (ar S 5 i)) 1) 7 i ((ar S 7 i) + 1)) 22 (ix (ar S 3 i))) + 1)) 1 ((sc S 1) + 1)) E (((hW.setA (ix (ar S 5 i)) 1 (by decide) (by decide) (by decide) (by decide)).setA i ((ar S 7 i) + 1) (by decide) (by decide) (by decide) (by decide)).setA (ix (ar S 3 i)) ((ar (setA (setA S 21 (ix (ar S 5 i)) 1) 7 i ((ar S 7 i) + 1)) 22 (ix (ar S 3 i))) + 1) (by decide) (by decide) (by decide) (by decide)) (i := i) hi) k_368 cal_yX2_allowanceFor (ci := 2) rfl (hP.pa _ _ (cX_lo 0 (by decide) rfl)) hP.pa rfl ⟨Nat.le_of_ble_eq_true rfl, Nat.le_of_ble_eq_true rfl⟩ hl.1 (Nat.le_of_ble_eq_true rfl) ⟨Nat.zero_le _, Nat.zero_le _⟩ rfl rfl dX2_charge_129 ?_
              refine lv_isub hx hb dX2_charge_132 ?_
              refine lv_istore (lv' := [(5, .int (((f_X0_errorSize (setS (setA (setA (setA S 21 (ix (ar S 5 i)) 1) 7 i ((ar S 7 i) + 1)) 22 (ix (ar S 3 i)) ((ar (setA (setA S 21 (ix (ar S 5 i)) 1) 7 i ((ar S 7 i) + 1)) 22 (ix (ar S 3 i))) + 1)) 1 ((sc S 1) + 1)) i) - (f_X0_spanOn (setS (setA (setA (setA S 21 (ix (ar S 5 i)) 1) 7 i ((ar S 7 i) + 1)) 22 (ix (ar S 3 i)) ((ar (setA (setA S 21 (ix (ar S 5 i)) 1) 7 i ((ar S 7 i) + 1)) 22 (ix (ar S 3 i))) + 1)) 1 ((sc S 1) + 1)) i (sc S 0))) - (f_X2_allowanceFor (setS (setA (setA (setA S 21 (ix (ar S 5 i)) 1) 7 i ((ar S 7 i) + 1)) 22 (ix (ar S 3 i)) ((ar (setA (setA S 21 (ix (ar S 5 i)) 1) 7 i ((ar S 7 i) + 1)) 22 (ix (ar S 3 i))) + 1)) 1 ((sc S 1) + 1)) i))), (4, .int (ar S 3 i)), (3, .ref (ad (100 + ix (ar S 5 i)))), (2, .ref (ad (10 + 2 * i))), (0, .ref (ad 0)), (1, .int (nI i))]) hx hb dX2_charge_133 hl (by decide) rfl (fun ls hl => ?_)
              refine lv_bipush (v := 10) hx hb dX2_charge_135 (by decide) ?_
              refine lv_iload hx hb dX2_charge_137 (lv_at hl 0 rfl) ?_
              refine lv_imul hx hb dX2_charge_139 ?_
              refine lv_aload_n hx hb dX2_charge_140 rfl (lv_at hl 4 rfl) ?_
              refine w_get cx (ci := 2) rfl iX2 (hP.pa _ _ (cX_lo 0 (by decide) rfl)) 4 (by decide) k_49 (v := .ref (ad 5)) rfl dX2_charge_141 ?_
              refine lv_iload hx hb dX2_charge_144 (lv_at hl 1 rfl) ?_
              refine w_iald cx (hP.pa _ _ (cX_lo 5 (by decide) rfl)) (ix (ar S 3 i)) (hW.ow hi).1 (hW.ow hi).2 (by decide) dX2_charge_146 ?_
              refine lv_iconst (v := 5) hx hb dX2_charge_147 (by decide) ?_
              refine w_min cx hl.1 k_408 (Nat.le_of_ble_eq_true rfl) (Nat.le_of_ble_eq_true rfl) ⟨Nat.zero_le _, Nat.zero_le _⟩ (Nat.le_of_ble_eq_true rfl) dX2_charge_148 ?_
              refine lv_imul hx hb dX2_charge_151 ?_
              refine lv_istore (lv' := [(6, .int ((10 * (((f_X0_errorSize (setS (setA (setA (setA S 21 (ix (ar S 5 i)) 1) 7 i ((ar S 7 i) + 1)) 22 (ix (ar S 3 i)) ((ar (setA (setA S 21 (ix (ar S 5 i)) 1) 7 i ((ar S 7 i) + 1)) 22 (ix (ar S 3 i))) + 1)) 1 ((sc S 1) + 1)) i) - (f_X0_spanOn (setS (setA (setA (setA S 21 (ix (ar S 5 i)) 1) 7 i ((ar S 7 i) + 1)) 22 (ix (ar S 3 i)) ((ar (setA (setA S 21 (ix (ar S 5 i)) 1) 7 i ((ar S 7 i) + 1)) 22 (ix (ar S 3 i))) + 1)) 1 ((sc S 1) + 1)) i (sc S 0))) - (f_X2_allowanceFor (setS (setA (setA (setA S 21 (ix (ar S 5 i)) 1) 7 i ((ar S 7 i) + 1)) 22 (ix (ar S 3 i)) ((ar (setA (setA S 21 (ix (ar S 5 i)) 1) 7 i ((ar S 7 i) + 1)) 22 (ix (ar S 3 i))) + 1)) 1 ((sc S 1) + 1)) i))) * (f_min (ar (setS (setA (setA (setA S 21 (ix (ar S 5 i)) 1) 7 i ((ar S 7 i) + 1)) 22 (ix (ar S 3 i)) ((ar (setA (setA S 21 (ix (ar S 5 i)) 1) 7 i ((ar S 7 i) + 1)) 22 (ix (ar S 3 i))) + 1)) 1 ((sc S 1) + 1)) 22 (ix (ar S 3 i))) 5))), (5, .int (((f_X0_errorSize (setS (setA (setA (setA S 21 (ix (ar S 5 i)) 1) 7 i ((ar S 7 i) + 1)) 22 (ix (ar S 3 i)) ((ar (setA (setA S 21 (ix (ar S 5 i)) 1) 7 i ((ar S 7 i) + 1)) 22 (ix (ar S 3 i))) + 1)) 1 ((sc S 1) + 1)) i) - (f_X0_spanOn (setS (setA (setA (setA S 21 (ix (ar S 5 i)) 1) 7 i ((ar S 7 i) + 1)) 22 (ix (ar S 3 i)) ((ar (setA (setA S 21 (ix (ar S 5 i)) 1) 7 i ((ar S 7 i) + 1)) 22 (ix (ar S 3 i))) + 1)) 1 ((sc S 1) + 1)) i (sc S 0))) - (f_X2_allowanceFor (setS (setA (setA (setA S 21 (ix (ar S 5 i)) 1) 7 i ((ar S 7 i) + 1)) 22 (ix (ar S 3 i)) ((ar (setA (setA S 21 (ix (ar S 5 i)) 1) 7 i ((ar S 7 i) + 1)) 22 (ix (ar S 3 i))) + 1)) 1 ((sc S 1) + 1)) i))), (4, .int (ar S 3 i)), (3, .ref (ad (100 + ix (ar S 5 i)))), (2, .ref (ad (10 + 2 * i))), (0, .ref (ad 0)), (1, .int (nI i))]) hx hb dX2_charge_152 hl (by decide) rfl (fun ls hl => ?_)
              refine lv_aload_n hx hb dX2_charge_154 rfl (lv_at hl 5 rfl) ?_
              refine w_get cx (ci := 2) rfl iX2 (hP.pa _ _ (cX_lo 0 (by decide) rfl)) 5 (by decide) k_50 (v := .ref (ad 6)) rfl dX2_charge_155 ?_
              refine lv_iload hx hb dX2_charge_158 (lv_at hl 2 rfl) ?_
              refine lv_dup2_11 hx hb dX2_charge_160 rfl rfl ?_
              refine w_lald cx (hP.pa _ _ (cX_lo 6 (by decide) rfl)) (ix (ar S 3 i)) (hW.ow hi).1 (hW.ow hi).2 (by decide) dX2_charge_161 ?_
              refine lv_iload hx hb dX2_charge_162 (lv_at hl 0 rfl) ?_
              refine lv_i2l hx hb dX2_charge_164 rfl ?_
              refine lv_ladd hx hb dX2_charge_165 ?_
              refine xO_ast cx hP hS (ix (ar S 3 i)) (hW.ow hi).1 (hW.ow hi).2 dX2_charge_166 (fun H locs hP hS => ?_)
              refine lv_iload hx hb dX2_charge_167 (lv_at hl 0 rfl) ?_
              rw [show f_X2_charge S i = ((10 * (((f_X0_errorSize (setS (setA (setA (setA S 21 (ix (ar S 5 i)) 1) 7 i ((ar S 7 i) + 1)) 22 (ix (ar S 3 i)) ((ar (setA (setA S 21 (ix (ar S 5 i)) 1) 7 i ((ar S 7 i) + 1)) 22 (ix (ar S 3 i))) + 1)) 1 ((sc S 1) + 1)) i) - (f_X0_spanOn (setS (setA (setA (setA S 21 (ix (ar S 5 i)) 1) 7 i ((ar S 7 i) + 1)) 22 (ix (ar S 3 i)) ((ar (setA (setA S 21 (ix (ar S 5 i)) 1) 7 i ((ar S 7 i) + 1)) 22 (ix (ar S 3 i))) + 1)) 1 ((sc S 1) + 1)) i (sc S 0))) - (f_X2_allowanceFor (setS (setA (setA (setA S 21 (ix (ar S 5 i)) 1) 7 i ((ar S 7 i) + 1)) 22 (ix (ar S 3 i)) ((ar (setA (setA S 21 (ix (ar S 5 i)) 1) 7 i ((ar S 7 i) + 1)) 22 (ix (ar S 3 i))) + 1)) 1 ((sc S 1) + 1)) i))) * (f_min (ar (setS (setA (setA (setA S 21 (ix (ar S 5 i)) 1) 7 i ((ar S 7 i) + 1)) 22 (ix (ar S 3 i)) ((ar (setA (setA S 21 (ix (ar S 5 i)) 1) 7 i ((ar S 7 i) + 1)) 22 (ix (ar S 3 i))) + 1)) 1 ((sc S 1) + 1)) 22 (ix (ar S 3 i))) 5), (setL (setS (setA (setA (setA S 21 (ix (ar S 5 i)) 1) 7 i ((ar S 7 i) + 1)) 22 (ix (ar S 3 i)) ((ar (setA (setA S 21 (ix (ar S 5 i)) 1) 7 i ((ar S 7 i) + 1)) 22 (ix (ar S 3 i))) + 1)) 1 ((sc S 1) + 1)) (ix (ar S 3 i)) ((os (setS (setA (setA (setA S 21 (ix (ar S 5 i)) 1) 7 i ((ar S 7 i) + 1)) 22 (ix (ar S 3 i)) ((ar (setA (setA S 21 (ix (ar S 5 i)) 1) 7 i ((ar S 7 i) + 1)) 22 (ix (ar S 3 i))) + 1)) 1 ((sc S 1) + 1)) (ix (ar S 3 i))) + (((10 * (((f_X0_errorSize (setS (setA (setA (setA S 21 (ix (ar S 5 i)) 1) 7 i ((ar S 7 i) + 1)) 22 (ix (ar S 3 i)) ((ar (setA (setA S 21 (ix (ar S 5 i)) 1) 7 i ((ar S 7 i) + 1)) 22 (ix (ar S 3 i))) + 1)) 1 ((sc S 1) + 1)) i) - (f_X0_spanOn (setS (setA (setA (setA S 21 (ix (ar S 5 i)) 1) 7 i ((ar S 7 i) + 1)) 22 (ix (ar S 3 i)) ((ar (setA (setA S 21 (ix (ar S 5 i)) 1) 7 i ((ar S 7 i) + 1)) 22 (ix (ar S 3 i))) + 1)) 1 ((sc S 1) + 1)) i (sc S 0))) - (f_X2_allowanceFor (setS (setA (setA (setA S 21 (ix (ar S 5 i)) 1) 7 i ((ar S 7 i) + 1)) 22 (ix (ar S 3 i)) ((ar (setA (setA S 21 (ix (ar S 5 i)) 1) 7 i ((ar S 7 i) + 1)) 22 (ix (ar S 3 i))) + 1)) 1 ((sc S 1) + 1)) i))) * (f_min (ar (setS (setA (setA (setA S 21 (ix (ar S 5 i)) 1) 7 i ((ar S 7 i) + 1)) 22 (ix (ar S 3 i)) ((ar (setA (setA S 21 (ix (ar S 5 i)) 1) 7 i ((ar S 7 i) + 1)) 22 (ix (ar S 3 i))) + 1)) 1 ((sc S 1) + 1)) 22 (ix (ar S 3 i))) 5)).toInt64)))) from by rw [f_X2_charge, if_neg c_1, if_neg c_4, if_pos c_5, if_pos c_6, if_pos c_7, if_neg c_8]]
              exact x_int cx hr hlk (ad' := ad) ⟨rfl, hP⟩ hS dX2_charge_169
            · refine lv_bipush (v := -3) hx hb dX2_charge_75 (by decide) ?_
              rw [show f_X2_charge S i = ((-3), S) from by rw [f_X2_charge, if_neg c_1, if_neg c_4, if_pos c_5, if_pos c_6, if_pos c_7, if_pos c_8]]
              exact x_int cx hr hlk (ad' := ad) ⟨rfl, hP⟩ hS dX2_charge_77
          · refine lv_bipush (v := -3) hx hb dX2_charge_58 (by decide) ?_
            rw [show f_X2_charge S i = ((-3), S) from by rw [f_X2_charge, if_neg c_1, if_neg c_4, if_pos c_5, if_pos c_6, if_neg c_7]]
            exact x_int cx hr hlk (ad' := ad) ⟨rfl, hP⟩ hS dX2_charge_60
