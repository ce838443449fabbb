set_option maxRecDepth 20000 in
theorem c_X2_thingAt_in (l : Launch) (G : GG) (ad : Nat → Nat) (S : St) (E : Ex) (hW : WF S) {j : Nat} (hj : j < nt S) : MR l yX2_thingAt cX2_thingAt 2 (some (.object "TrueWeights$Thing")) 1 22 G ad (cX G ad S E) [.ref (ad 0), .int (nI j)] (some (.ref (ad (10 + 2 * j)))) := by
  refine MR.of [(0, .ref (ad 0)), (1, .int (nI j))] (by decide) (Nat.le_of_ble_eq_true rfl) rfl ?_
  intro p e s m args below meth c cx hr hlk hP ls hl
  have hx := cx.1.1
  have hb := cx.1.2.1
  refine lv_iload_n hx hb dX2_thingAt_0 rfl (lv_at hl 1 rfl) ?_
  refine lv_iconst (v := 0) hx hb dX2_thingAt_1 (by decide) ?_
  refine lv_aload_n hx hb dX2_thingAt_2 rfl (lv_at hl 0 rfl) ?_
  refine w_get cx (ci := 2) rfl iX2 (hP _ _ (cX_lo 0 (by decide) rfl)) 10 (by decide) k_55 (v := .int (nI (nt S))) rfl dX2_thingAt_3 ?_
  refine lv_iconst (v := 1) hx hb dX2_thingAt_6 (by decide) ?_
  refine lv_isub hx hb dX2_thingAt_7 ?_
  refine w_callS (As := [.int (nI j), .int 0, .int ((nI (nt S)) - 1)]) (rest := []) (st := [.int (f_X2_isWithin (nI j) 0 ((nI (nt S)) - 1))]) cx (c_X2_isWithin l G ad _ (nI j) 0 ((nI (nt S)) - 1)) k_91 cal_yX2_isWithin hP rfl ⟨Nat.le_of_ble_eq_true rfl, Nat.le_of_ble_eq_true rfl⟩ hl.1 (Nat.le_of_ble_eq_true rfl) ⟨Nat.zero_le _, Nat.zero_le _⟩ rfl rfl dX2_thingAt_8 ?_
  refine lv_if_eq (tgt := 23) hx hb dX2_thingAt_11 (by decide) (fun c_1 => ?_) (fun c_1 => ?_)
  · exact absurd c_1 (isW_in hj (Nat.lt_of_le_of_lt hW.t (by decide)))
  · refine lv_aload_n hx hb dX2_thingAt_14 rfl (lv_at hl 0 rfl) ?_
    refine w_get cx (ci := 2) rfl iX2 (hP _ _ (cX_lo 0 (by decide) rfl)) 0 (by decide) k_45 (v := .ref (ad 1)) rfl dX2_thingAt_15 ?_
    refine lv_iload_n hx hb dX2_thingAt_18 rfl (lv_at hl 1 rfl) ?_
    refine w_aaldT (v := .ref (ad (10 + 2 * j))) cx (hP _ _ (cX_lo 1 (by decide) rfl)) j rfl (Nat.lt_of_lt_of_le hj hW.t) (by decide) (by rw [fTs, if_pos hj]; rfl) dX2_thingAt_19 ?_
    refine lv_goto (tgt := 24) hx hb dX2_thingAt_20 (by decide) ?_
    exact r_ref cx hr hlk rfl (Or.inr ⟨_, rfl⟩) dX2_thingAt_24
set_option maxRecDepth 20000 in
theorem c_X2_thingAt_out (l : Launch) (G : GG) (ad : Nat → Nat) (S : St) (E : Ex) (hW : WF S) {n : Int32} (hn : nT S n) : MR l yX2_thingAt cX2_thingAt 2 (some (.object "TrueWeights$Thing")) 1 22 G ad (cX G ad S E) [.ref (ad 0), .int n] (some (.null)) := by
  refine MR.of [(0, .ref (ad 0)), (1, .int n)] (by decide) (Nat.le_of_ble_eq_true rfl) rfl ?_
  intro p e s m args below meth c cx hr hlk hP ls hl
  have hx := cx.1.1
  have hb := cx.1.2.1
  refine lv_iload_n hx hb dX2_thingAt_0 rfl (lv_at hl 1 rfl) ?_
  refine lv_iconst (v := 0) hx hb dX2_thingAt_1 (by decide) ?_
  refine lv_aload_n hx hb dX2_thingAt_2 rfl (lv_at hl 0 rfl) ?_
  refine w_get cx (ci := 2) rfl iX2 (hP _ _ (cX_lo 0 (by decide) rfl)) 10 (by decide) k_55 (v := .int (nI (nt S))) rfl dX2_thingAt_3 ?_
  refine lv_iconst (v := 1) hx hb dX2_thingAt_6 (by decide) ?_
  refine lv_isub hx hb dX2_thingAt_7 ?_
  refine w_callS (As := [.int n, .int 0, .int ((nI (nt S)) - 1)]) (rest := []) (st := [.int (f_X2_isWithin n 0 ((nI (nt S)) - 1))]) cx (c_X2_isWithin l G ad _ n 0 ((nI (nt S)) - 1)) k_91 cal_yX2_isWithin hP rfl ⟨Nat.le_of_ble_eq_true rfl, Nat.le_of_ble_eq_true rfl⟩ hl.1 (Nat.le_of_ble_eq_true rfl) ⟨Nat.zero_le _, Nat.zero_le _⟩ rfl rfl dX2_thingAt_8 ?_
  refine lv_if_eq (tgt := 23) hx hb dX2_thingAt_11 (by decide) (fun c_1 => ?_) (fun c_1 => ?_)
  · refine lv_null hx hb dX2_thingAt_23 ?_
    exact r_ref cx hr hlk rfl (Or.inl rfl) dX2_thingAt_24
  · exact absurd (isW_out (Nat.lt_of_le_of_lt hW.t (by decide)) hn) c_1
set_option maxRecDepth 20000 in
theorem c_X2_trialAt_in (l : Launch) (G : GG) (ad : Nat → Nat) (S : St) (E : Ex) (hW : WF S) {j : Nat} (hj : j < nr S) : MR l yX2_trialAt cX2_trialAt 2 (some (.object "TrueWeights$Trial")) 1 22 G ad (cX G ad S E) [.ref (ad 0), .int (nI j)] (some (.ref (ad (100 + j)))) := by
  refine MR.of [(0, .ref (ad 0)), (1, .int (nI j))] (by decide) (Nat.le_of_ble_eq_true rfl) rfl ?_
  intro p e s m args below meth c cx hr hlk hP ls hl
  have hx := cx.1.1
  have hb := cx.1.2.1
  refine lv_iload_n hx hb dX2_trialAt_0 rfl (lv_at hl 1 rfl) ?_
  refine lv_iconst (v := 0) hx hb dX2_trialAt_1 (by decide) ?_
  refine lv_aload_n hx hb dX2_trialAt_2 rfl (lv_at hl 0 rfl) ?_
  refine w_get cx (ci := 2) rfl iX2 (hP _ _ (cX_lo 0 (by decide) rfl)) 11 (by decide) k_56 (v := .int (nI (nr S))) rfl dX2_trialAt_3 ?_
  refine lv_iconst (v := 1) hx hb dX2_trialAt_6 (by decide) ?_
  refine lv_isub hx hb dX2_trialAt_7 ?_
  refine w_callS (As := [.int (nI j), .int 0, .int ((nI (nr S)) - 1)]) (rest := []) (st := [.int (f_X2_isWithin (nI j) 0 ((nI (nr S)) - 1))]) cx (c_X2_isWithin l G ad _ (nI j) 0 ((nI (nr S)) - 1)) k_91 cal_yX2_isWithin hP rfl ⟨Nat.le_of_ble_eq_true rfl, Nat.le_of_ble_eq_true rfl⟩ hl.1 (Nat.le_of_ble_eq_true rfl) ⟨Nat.zero_le _, Nat.zero_le _⟩ rfl rfl dX2_trialAt_8 ?_
  refine lv_if_eq (tgt := 23) hx hb dX2_trialAt_11 (by decide) (fun c_1 => ?_) (fun c_1 => ?_)
  · exact absurd c_1 (isW_in hj (Nat.lt_of_le_of_lt hW.r (by decide)))
  · refine lv_aload_n hx hb dX2_trialAt_14 rfl (lv_at hl 0 rfl) ?_
    refine w_get cx (ci := 2) rfl iX2 (hP _ _ (cX_lo 0 (by decide) rfl)) 1 (by decide) k_46 (v := .ref (ad 2)) rfl dX2_trialAt_15 ?_
    refine lv_iload_n hx hb dX2_trialAt_18 rfl (lv_at hl 1 rfl) ?_
    refine w_aaldR (v := .ref (ad (100 + j))) cx (hP _ _ (cX_lo 2 (by decide) rfl)) j rfl (Nat.lt_of_lt_of_le hj hW.r) (by decide) (by rw [fRs, if_pos hj]; rfl) dX2_trialAt_19 ?_
    refine lv_goto (tgt := 24) hx hb dX2_trialAt_20 (by decide) ?_
    exact r_ref cx hr hlk rfl (Or.inr ⟨_, rfl⟩) dX2_trialAt_24
set_option maxRecDepth 20000 in
theorem c_X2_trialAt_out (l : Launch) (G : GG) (ad : Nat → Nat) (S : St) (E : Ex) (hW : WF S) {n : Int32} (hn : nR S n) : MR l yX2_trialAt cX2_trialAt 2 (some (.object "TrueWeights$Trial")) 1 22 G ad (cX G ad S E) [.ref (ad 0), .int n] (some (.null)) := by
  refine MR.of [(0, .ref (ad 0)), (1, .int n)] (by decide) (Nat.le_of_ble_eq_true rfl) rfl ?_
  intro p e s m args below meth c cx hr hlk hP ls hl
  have hx := cx.1.1
  have hb := cx.1.2.1
  refine lv_iload_n hx hb dX2_trialAt_0 rfl (lv_at hl 1 rfl) ?_
  refine lv_iconst (v := 0) hx hb dX2_trialAt_1 (by decide) ?_
  refine lv_aload_n hx hb dX2_trialAt_2 rfl (lv_at hl 0 rfl) ?_
  refine w_get cx (ci := 2) rfl iX2 (hP _ _ (cX_lo 0 (by decide) rfl)) 11 (by decide) k_56 (v := .int (nI (nr S))) rfl dX2_trialAt_3 ?_
  refine lv_iconst (v := 1) hx hb dX2_trialAt_6 (by decide) ?_
  refine lv_isub hx hb dX2_trialAt_7 ?_
  refine w_callS (As := [.int n, .int 0, .int ((nI (nr S)) - 1)]) (rest := []) (st := [.int (f_X2_isWithin n 0 ((nI (nr S)) - 1))]) cx (c_X2_isWithin l G ad _ n 0 ((nI (nr S)) - 1)) k_91 cal_yX2_isWithin hP rfl ⟨Nat.le_of_ble_eq_true rfl, Nat.le_of_ble_eq_true rfl⟩ hl.1 (Nat.le_of_ble_eq_true rfl) ⟨Nat.zero_le _, Nat.zero_le _⟩ rfl rfl dX2_trialAt_8 ?_
  refine lv_if_eq (tgt := 23) hx hb dX2_trialAt_11 (by decide) (fun c_1 => ?_) (fun c_1 => ?_)
  · refine lv_null hx hb dX2_trialAt_23 ?_
    exact r_ref cx hr hlk rfl (Or.inl rfl) dX2_trialAt_24
  · exact absurd (isW_out (Nat.lt_of_le_of_lt hW.r (by decide)) hn) c_1
set_option maxRecDepth 20000 in
theorem c_X2_numberOf_n (l : Launch) (G : GG) (ad : Nat → Nat) (S : St) (E : Ex) (hW : WF S)  : MR l yX2_numberOf cX2_numberOf 1 (some .int) 0 0 G ad (cX G ad S E) [.null] (some (.int ((-1000000)))) := by
  refine MR.of [(0, .null)] (by decide) (Nat.le_of_ble_eq_true rfl) rfl ?_
  intro p e s m args below meth c cx hr hlk hP ls hl
  have hx := cx.1.1
  have hb := cx.1.2.1
  refine lv_aload_nN hx hb dX2_numberOf_0 rfl (lv_at hl 0 rfl) ?_
  refine lv_ifnonnullN hx hb dX2_numberOf_1 ?_
  refine w_ldc cx k_156 dX2_numberOf_4 ?_
  refine lv_goto (tgt := 13) hx hb dX2_numberOf_6 (by decide) ?_
  exact r_int cx hr hlk rfl dX2_numberOf_13
set_option maxRecDepth 20000 in
theorem c_X2_numberOf_r (l : Launch) (G : GG) (ad : Nat → Nat) (S : St) (E : Ex) (hW : WF S) {n : Nat} (hn : n < nr S) : MR l yX2_numberOf cX2_numberOf 1 (some .int) 0 0 G ad (cX G ad S E) [.ref (ad (100 + n))] (some (.int (nI n))) := by
  refine MR.of [(0, .ref (ad (100 + n)))] (by decide) (Nat.le_of_ble_eq_true rfl) rfl ?_
  intro p e s m args below meth c cx hr hlk hP ls hl
  have hx := cx.1.1
  have hb := cx.1.2.1
  refine lv_aload_n hx hb dX2_numberOf_0 rfl (lv_at hl 0 rfl) ?_
  refine lv_ifnonnull (tgt := 9) hx hb dX2_numberOf_1 (by decide) ?_
  refine lv_aload_n hx hb dX2_numberOf_9 rfl (lv_at hl 0 rfl) ?_
  refine w_get cx (ci := 1) rfl iX1 (hP _ _ (cX_R hn)) 0 (by decide) k_246 (v := .int (nI n)) rfl dX2_numberOf_10 ?_
  exact r_int cx hr hlk rfl dX2_numberOf_13
def f_X2_allowanceFor (S : St) (i : Nat)  : Int32 :=
  if f_X2_isWithin (ar S 0 i) 1 3 = 0 then 0
  else if ar S 4 i = 1 then fA S 10 (ix (ar S 0 i))
  else fA S 11 (ix (ar S 0 i))
set_option maxRecDepth 20000 in
theorem c_X2_allowanceFor (l : Launch) (G : GG) (ad : Nat → Nat) (S : St) (E : Ex) (hW : WF S) {i : Nat} (hi : i < nt S)  : MR l yX2_allowanceFor cX2_allowanceFor 3 (some .int) 1 22 G ad (cX G ad S E) [.ref (ad 0), .ref (ad (10 + 2 * i))] (some (.int (f_X2_allowanceFor S i))) := by
  refine MR.of [(0, .ref (ad 0)), (1, .ref (ad (10 + 2 * i)))] (by decide) (Nat.le_of_ble_eq_true rfl) rfl ?_
  intro p e s m args below meth c cx hr hlk hP ls hl
  have hx := cx.1.1
  have hb := cx.1.2.1
  refine lv_aload_n hx hb dX2_allowanceFor_0 rfl (lv_at hl 1 rfl) ?_
  refine w_get cx (ci := 0) rfl iX0 (hP _ _ (cX_T hi hW.t)) 0 (by decide) k_108 (v := .int (ar S 0 i)) rfl dX2_allowanceFor_1 ?_
  refine lv_istore_n (lv' := [(2, .int (ar S 0 i)), (0, .ref (ad 0)), (1, .ref (ad (10 + 2 * i)))]) hx hb dX2_allowanceFor_4 rfl hl (by decide) rfl (fun ls hl => ?_)
  refine lv_iload_n hx hb dX2_allowanceFor_5 rfl (lv_at hl 0 rfl) ?_
  refine lv_iconst (v := 1) hx hb dX2_allowanceFor_6 (by decide) ?_
  refine lv_iconst (v := 3) hx hb dX2_allowanceFor_7 (by decide) ?_
  refine w_callS (As := [.int (ar S 0 i), .int 1, .int 3]) (rest := []) (st := [.int (f_X2_isWithin (ar S 0 i) 1 3)]) cx (c_X2_isWithin l G ad _ (ar S 0 i) 1 3) k_91 cal_yX2_isWithin hP rfl ⟨Nat.le_of_ble_eq_true rfl, Nat.le_of_ble_eq_true rfl⟩ hl.1 (Nat.le_of_ble_eq_true rfl) ⟨Nat.zero_le _, Nat.zero_le _⟩ rfl rfl dX2_allowanceFor_8 ?_
  refine lv_if_ne (tgt := 16) hx hb dX2_allowanceFor_11 (by decide) (fun c_1 => ?_) (fun c_1 => ?_)
  · refine lv_aload_n hx hb dX2_allowanceFor_16 rfl (lv_at hl 2 rfl) ?_
    refine w_get cx (ci := 0) rfl iX0 (hP _ _ (cX_T hi hW.t)) 6 (by decide) k_117 (v := .int (ar S 4 i)) rfl dX2_allowanceFor_17 ?_
    refine lv_iconst (v := 1) hx hb dX2_allowanceFor_20 (by decide) ?_
    refine lv_icmp_ne (tgt := 33) hx hb dX2_allowanceFor_21 (by decide) (fun c_2 => ?_) (fun c_2 => ?_)
    · refine lv_aload_n hx hb dX2_allowanceFor_33 rfl (lv_at hl 1 rfl) ?_
      refine w_get cx (ci := 2) rfl iX2 (hP _ _ (cX_lo 0 (by decide) rfl)) 3 (by decide) k_48 (v := .ref (ad 4)) rfl dX2_allowanceFor_34 ?_
      refine lv_iload_n hx hb dX2_allowanceFor_37 rfl (lv_at hl 0 rfl) ?_
      refine w_iald cx (hP _ _ (cX_lo 4 (by decide) rfl)) (ix (ar S 0 i)) (hW.kd hi).1 (hW.kd hi).2 (by decide) dX2_allowanceFor_38 ?_
      exact r_int cx hr hlk (by rw [f_X2_allowanceFor, if_neg c_1, if_neg c_2]) dX2_allowanceFor_39
    · refine lv_aload_n hx hb dX2_allowanceFor_24 rfl (lv_at hl 1 rfl) ?_
      refine w_get cx (ci := 2) rfl iX2 (hP _ _ (cX_lo 0 (by decide) rfl)) 2 (by decide) k_47 (v := .ref (ad 3)) rfl dX2_allowanceFor_25 ?_
      refine lv_iload_n hx hb dX2_allowanceFor_28 rfl (lv_at hl 0 rfl) ?_
      refine w_iald cx (hP _ _ (cX_lo 3 (by decide) rfl)) (ix (ar S 0 i)) (hW.kd hi).1 (hW.kd hi).2 (by decide) dX2_allowanceFor_29 ?_
      refine lv_goto (tgt := 39) hx hb dX2_allowanceFor_30 (by decide) ?_
      exact r_int cx hr hlk (by rw [f_X2_allowanceFor, if_neg c_1, if_pos c_2]) dX2_allowanceFor_39
  · refine lv_iconst (v := 0) hx hb dX2_allowanceFor_14 (by decide) ?_
    exact r_int cx hr hlk (by rw [f_X2_allowanceFor, if_pos c_1]) dX2_allowanceFor_15
def f_X2_judgement (S : St) (i : Nat)  : Int32 :=
  if ar S 0 i = 0 then 0
  else if f_X0_isSettledNow S i = 0 then 0
  else if f_X2_allowanceFor S i < (f_X0_errorSize S i) + (f_X0_spanOn S i (sc S 0)) then (if (f_X0_errorSize S i) - (f_X0_spanOn S i (sc S 0)) ≤ f_X2_allowanceFor S i then 2
    else 3)
  else 1
set_option maxRecDepth 20000 in
theorem c_X2_judgement (l : Launch) (G : GG) (ad : Nat → Nat) (S : St) (E : Ex) (hW : WF S) {i : Nat} (hi : i < nt S)  : MR l yX2_judgement cX2_judgement 5 (some .int) 2 44 G ad (cX G ad S E) [.ref (ad 0), .ref (ad (10 + 2 * i))] (some (.int (f_X2_judgement S i))) := by
  refine MR.of [(0, .ref (ad 0)), (1, .ref (ad (10 + 2 * i)))] (by decide) (Nat.le_of_ble_eq_true rfl) rfl ?_
  intro p e s m args below meth c cx hr hlk hP ls hl
  have hx := cx.1.1
  have hb := cx.1.2.1
  refine lv_aload_n hx hb dX2_judgement_0 rfl (lv_at hl 1 rfl) ?_
  refine w_get cx (ci := 0) rfl iX0 (hP _ _ (cX_T hi hW.t)) 0 (by decide) k_108 (v := .int (ar S 0 i)) rfl dX2_judgement_1 ?_
  refine lv_if_eq (tgt := 14) hx hb dX2_judgement_4 (by decide) (fun c_1 => ?_) (fun c_1 => ?_)
  · refine lv_iconst (v := 0) hx hb dX2_judgement_14 (by decide) ?_
    exact r_int cx hr hlk (by rw [f_X2_judgement, if_pos c_1]) dX2_judgement_15
  · refine lv_aload_n hx hb dX2_judgement_7 rfl (lv_at hl 1 rfl) ?_
    refine w_callV (As := []) (rest := []) (st := [.int (f_X0_isSettledNow S i)]) cx (c_X0_isSettledNow l G ad S E hW (i := i) hi) k_336 cal_yX0_isSettledNow (ci := 0) rfl (hP _ _ (cX_T hi hW.t)) hP rfl ⟨Nat.le_of_ble_eq_true rfl, Nat.le_of_ble_eq_true rfl⟩ hl.1 (Nat.le_of_ble_eq_true rfl) ⟨Nat.zero_le _, Nat.zero_le _⟩ rfl rfl dX2_judgement_8 ?_
    refine lv_if_ne (tgt := 16) hx hb dX2_judgement_11 (by decide) (fun c_2 => ?_) (fun c_2 => ?_)
    · refine lv_aload_n hx hb dX2_judgement_16 rfl (lv_at hl 1 rfl) ?_
      refine w_callV (As := []) (rest := []) (st := [.int (f_X0_errorSize S i)]) cx (c_X0_errorSize l G ad S E hW (i := i) hi) k_363 cal_yX0_errorSize (ci := 0) rfl (hP _ _ (cX_T hi hW.t)) hP rfl ⟨Nat.le_of_ble_eq_true rfl, Nat.le_of_ble_eq_true rfl⟩ hl.1 (Nat.le_of_ble_eq_true rfl) ⟨Nat.zero_le _, Nat.zero_le _⟩ rfl rfl dX2_judgement_17 ?_
      refine lv_istore_n (lv' := [(2, .int (f_X0_errorSize S i)), (0, .ref (ad 0)), (1, .ref (ad (10 + 2 * i)))]) hx hb dX2_judgement_20 rfl hl (by decide) rfl (fun ls hl => ?_)
      refine lv_aload_n hx hb dX2_judgement_21 rfl (lv_at hl 2 rfl) ?_
      refine lv_aload_n hx hb dX2_judgement_22 rfl (lv_at hl 1 rfl) ?_
      refine w_get cx (ci := 2) rfl iX2 (hP _ _ (cX_lo 0 (by decide) rfl)) 9 (by decide) k_54 (v := .int (sc S 0)) rfl dX2_judgement_23 ?_
      refine w_callV (As := [.int (sc S 0)]) (rest := []) (st := [.int (f_X0_spanOn S i (sc S 0))]) cx (c_X0_spanOn l G ad S E hW (i := i) hi (sc S 0)) k_213 cal_yX0_spanOn (ci := 0) rfl (hP _ _ (cX_T hi hW.t)) hP rfl ⟨Nat.le_of_ble_eq_true rfl, Nat.le_of_ble_eq_true rfl⟩ hl.1 (Nat.le_of_ble_eq_true rfl) ⟨Nat.zero_le _, Nat.zero_le _⟩ rfl rfl dX2_judgement_26 ?_
      refine lv_istore_n (lv' := [(3, .int (f_X0_spanOn S i (sc S 0))), (2, .int (f_X0_errorSize S i)), (0, .ref (ad 0)), (1, .ref (ad (10 + 2 * i)))]) hx hb dX2_judgement_29 rfl hl (by decide) rfl (fun ls hl => ?_)
      refine lv_aload_n hx hb dX2_judgement_30 rfl (lv_at hl 2 rfl) ?_
      refine lv_aload_n hx hb dX2_judgement_31 rfl (lv_at hl 3 rfl) ?_
      refine w_callV (As := [.ref (ad (10 + 2 * i))]) (rest := []) (st := [.int (f_X2_allowanceFor S i)]) cx (c_X2_allowanceFor l G ad S E hW (i := i) hi) k_368 cal_yX2_allowanceFor (ci := 2) rfl (hP _ _ (cX_lo 0 (by decide) rfl)) hP rfl ⟨Nat.le_of_ble_eq_true rfl, Nat.le_of_ble_eq_true rfl⟩ hl.1 (Nat.le_of_ble_eq_true rfl) ⟨Nat.zero_le _, Nat.zero_le _⟩ rfl rfl dX2_judgement_32 ?_
      refine lv_istore (lv' := [(4, .int (f_X2_allowanceFor S i)), (3, .int (f_X0_spanOn S i (sc S 0))), (2, .int (f_X0_errorSize S i)), (0, .ref (ad 0)), (1, .ref (ad (10 + 2 * i)))]) hx hb dX2_judgement_35 hl (by decide) rfl (fun ls hl => ?_)
      refine lv_iload_n hx hb dX2_judgement_37 rfl (lv_at hl 2 rfl) ?_
      refine lv_iload_n hx hb dX2_judgement_38 rfl (lv_at hl 1 rfl) ?_
      refine lv_iadd hx hb dX2_judgement_39 ?_
      refine lv_iload hx hb dX2_judgement_40 (lv_at hl 0 rfl) ?_
      refine lv_icmp_gt (tgt := 47) hx hb dX2_judgement_42 (by decide) (fun c_3 => ?_) (fun c_3 => ?_)
      · refine lv_iload_n hx hb dX2_judgement_47 rfl (lv_at hl 2 rfl) ?_
        refine lv_iload_n hx hb dX2_judgement_48 rfl (lv_at hl 1 rfl) ?_
        refine lv_isub hx hb dX2_judgement_49 ?_
        refine lv_iload hx hb dX2_judgement_50 (lv_at hl 0 rfl) ?_
        refine lv_icmp_le (tgt := 59) hx hb dX2_judgement_52 (by decide) (fun c_4 => ?_) (fun c_4 => ?_)
        · refine lv_iconst (v := 2) hx hb dX2_judgement_59 (by decide) ?_
          exact r_int cx hr hlk (by rw [f_X2_judgement, if_neg c_1, if_neg c_2, if_pos c_3, if_pos c_4]) dX2_judgement_60
        · refine lv_iconst (v := 3) hx hb dX2_judgement_55 (by decide) ?_
          refine lv_goto (tgt := 60) hx hb dX2_judgement_56 (by decide) ?_
          exact r_int cx hr hlk (by rw [f_X2_judgement, if_neg c_1, if_neg c_2, if_pos c_3, if_neg c_4]) dX2_judgement_60
      · refine lv_iconst (v := 1) hx hb dX2_judgement_45 (by decide) ?_
        exact r_int cx hr hlk (by rw [f_X2_judgement, if_neg c_1, if_neg c_2, if_neg c_3]) dX2_judgement_46
    · refine lv_iconst (v := 0) hx hb dX2_judgement_14 (by decide) ?_
      exact r_int cx hr hlk (by rw [f_X2_judgement, if_neg c_1, if_pos c_2]) dX2_judgement_15
def f_X2_urgencyOf (S : St) (i : Nat)  : Int64 :=
  if ar S 5 i = -1000000 then 3298534883328
  else if f_X0_isSettledNow S i = 0 then 2199023255552 + ((((f_X0_errorSize S i) + (f_X0_spanOn S i (sc S 0))) - (f_X2_allowanceFor S i)).toInt64)
  else if f_X0_isDueOn S i (sc S 0) = 0 then (((f_X0_errorSize S i) + (f_X0_spanOn S i (sc S 0))) - (f_X2_allowanceFor S i)).toInt64
  else 1099511627776 + ((((f_X0_errorSize S i) + (f_X0_spanOn S i (sc S 0))) - (f_X2_allowanceFor S i)).toInt64)
set_option maxRecDepth 20000 in
theorem c_X2_urgencyOf (l : Launch) (G : GG) (ad : Nat → Nat) (S : St) (E : Ex) (hW : WF S) {i : Nat} (hi : i < nt S)  : MR l yX2_urgencyOf cX2_urgencyOf 3 (some .long) 3 65 G ad (cX G ad S E) [.ref (ad 0), .ref (ad (10 + 2 * i))] (some (.long (f_X2_urgencyOf S i))) := by
  refine MR.of [(0, .ref (ad 0)), (1, .ref (ad (10 + 2 * i)))] (by decide) (Nat.le_of_ble_eq_true rfl) rfl ?_
  intro p e s m args below meth c cx hr hlk hP ls hl
  have hx := cx.1.1
  have hb := cx.1.2.1
  refine lv_aload_n hx hb dX2_urgencyOf_0 rfl (lv_at hl 1 rfl) ?_
  by_cases c_1 : ar S 5 i = -1000000
  · refine w_get cx (ci := 0) rfl iX0 (hP _ _ (cX_T hi hW.t)) 9 (by decide) k_122 (v := .null) (congrArg some (rT_null c_1)) dX2_urgencyOf_1 ?_
    refine lv_ifnonnullN hx hb dX2_urgencyOf_4 ?_
    refine w_ldc2 cx k_426 dX2_urgencyOf_7 ?_
    exact r_long cx hr hlk (by rw [f_X2_urgencyOf, if_pos c_1]) dX2_urgencyOf_10
  · refine w_get cx (ci := 0) rfl iX0 (hP _ _ (cX_T hi hW.t)) 9 (by decide) k_122 (v := .ref (ad (100 + ix (ar S 5 i)))) (congrArg some (rT_ref c_1)) dX2_urgencyOf_1 ?_
    refine lv_ifnonnull (tgt := 11) hx hb dX2_urgencyOf_4 (by decide) ?_
    refine lv_aload_n hx hb dX2_urgencyOf_11 rfl (lv_at hl 1 rfl) ?_
    refine w_callV (As := []) (rest := []) (st := [.int (f_X0_errorSize S i)]) cx (c_X0_errorSize l G ad S E hW (i := i) hi) k_363 cal_yX0_errorSize (ci := 0) rfl (hP _ _ (cX_T hi hW.t)) hP rfl ⟨Nat.le_of_ble_eq_true rfl, Nat.le_of_ble_eq_true rfl⟩ hl.1 (Nat.le_of_ble_eq_true rfl) ⟨Nat.zero_le _, Nat.zero_le _⟩ rfl rfl dX2_urgencyOf_12 ?_
    refine lv_aload_n hx hb dX2_urgencyOf_15 rfl (lv_at hl 1 rfl) ?_
    refine lv_aload_n hx hb dX2_urgencyOf_16 rfl (lv_at hl 0 rfl) ?_
    refine w_get cx (ci := 2) rfl iX2 (hP _ _ (cX_lo 0 (by decide) rfl)) 9 (by decide) k_54 (v := .int (sc S 0)) rfl dX2_urgencyOf_17 ?_
    refine w_callV (As := [.int (sc S 0)]) (rest := [.int (f_X0_errorSize S i)]) (st := [.int (f_X0_spanOn S i (sc S 0)), .int (f_X0_errorSize S i)]) cx (c_X0_spanOn l G ad S E hW (i := i) hi (sc S 0)) k_213 cal_yX0_spanOn (ci := 0) rfl (hP _ _ (cX_T hi hW.t)) hP rfl ⟨Nat.le_of_ble_eq_true rfl, Nat.le_of_ble_eq_true rfl⟩ hl.1 (Nat.le_of_ble_eq_true rfl) ⟨Nat.zero_le _, Nat.zero_le _⟩ rfl rfl dX2_urgencyOf_20 ?_
    refine lv_iadd hx hb dX2_urgencyOf_23 ?_
    refine lv_aload_n hx hb dX2_urgencyOf_24 rfl (lv_at hl 0 rfl) ?_
    refine lv_aload_n hx hb dX2_urgencyOf_25 rfl (lv_at hl 1 rfl) ?_
    refine w_callV (As := [.ref (ad (10 + 2 * i))]) (rest := [.int ((f_X0_errorSize S i) + (f_X0_spanOn S i (sc S 0)))]) (st := [.int (f_X2_allowanceFor S i), .int ((f_X0_errorSize S i) + (f_X0_spanOn S i (sc S 0)))]) cx (c_X2_allowanceFor l G ad S E hW (i := i) hi) k_368 cal_yX2_allowanceFor (ci := 2) rfl (hP _ _ (cX_lo 0 (by decide) rfl)) hP rfl ⟨Nat.le_of_ble_eq_true rfl, Nat.le_of_ble_eq_true rfl⟩ hl.1 (Nat.le_of_ble_eq_true rfl) ⟨Nat.zero_le _, Nat.zero_le _⟩ rfl rfl dX2_urgencyOf_26 ?_
    refine lv_isub hx hb dX2_urgencyOf_29 ?_
    refine lv_istore_n (lv' := [(2, .int (((f_X0_errorSize S i) + (f_X0_spanOn S i (sc S 0))) - (f_X2_allowanceFor S i))), (0, .ref (ad 0)), (1, .ref (ad (10 + 2 * i)))]) hx hb dX2_urgencyOf_30 rfl hl (by decide) rfl (fun ls hl => ?_)
    refine lv_aload_n hx hb dX2_urgencyOf_31 rfl (lv_at hl 2 rfl) ?_
    refine w_callV (As := []) (rest := []) (st := [.int (f_X0_isSettledNow S i)]) cx (c_X0_isSettledNow l G ad S E hW (i := i) hi) k_336 cal_yX0_isSettledNow (ci := 0) rfl (hP _ _ (cX_T hi hW.t)) hP rfl ⟨Nat.le_of_ble_eq_true rfl, Nat.le_of_ble_eq_true rfl⟩ hl.1 (Nat.le_of_ble_eq_true rfl) ⟨Nat.zero_le _, Nat.zero_le _⟩ rfl rfl dX2_urgencyOf_32 ?_
    refine lv_if_ne (tgt := 45) hx hb dX2_urgencyOf_35 (by decide) (fun c_2 => ?_) (fun c_2 => ?_)
    · refine lv_aload_n hx hb dX2_urgencyOf_45 rfl (lv_at hl 2 rfl) ?_
      refine lv_aload_n hx hb dX2_urgencyOf_46 rfl (lv_at hl 1 rfl) ?_
      refine w_get cx (ci := 2) rfl iX2 (hP _ _ (cX_lo 0 (by decide) rfl)) 9 (by decide) k_54 (v := .int (sc S 0)) rfl dX2_urgencyOf_47 ?_
      refine w_callV (As := [.int (sc S 0)]) (rest := []) (st := [.int (f_X0_isDueOn S i (sc S 0))]) cx (c_X0_isDueOn l G ad S E hW (i := i) hi (sc S 0)) k_341 cal_yX0_isDueOn (ci := 0) rfl (hP _ _ (cX_T hi hW.t)) hP rfl ⟨Nat.le_of_ble_eq_true rfl, Nat.le_of_ble_eq_true rfl⟩ hl.1 (Nat.le_of_ble_eq_true rfl) ⟨Nat.zero_le _, Nat.zero_le _⟩ rfl rfl dX2_urgencyOf_50 ?_
      refine lv_if_eq (tgt := 65) hx hb dX2_urgencyOf_53 (by decide) (fun c_3 => ?_) (fun c_3 => ?_)
      · refine lv_iload_n hx hb dX2_urgencyOf_65 rfl (lv_at hl 0 rfl) ?_
        refine lv_i2l hx hb dX2_urgencyOf_66 rfl ?_
        exact r_long cx hr hlk (by rw [f_X2_urgencyOf, if_neg c_1, if_neg c_2, if_pos c_3]) dX2_urgencyOf_67
      · refine w_ldc2 cx k_428 dX2_urgencyOf_56 ?_
        refine lv_iload_n hx hb dX2_urgencyOf_59 rfl (lv_at hl 0 rfl) ?_
        refine lv_i2l hx hb dX2_urgencyOf_60 rfl ?_
        refine lv_ladd hx hb dX2_urgencyOf_61 ?_
        refine lv_goto (tgt := 67) hx hb dX2_urgencyOf_62 (by decide) ?_
        exact r_long cx hr hlk (by rw [f_X2_urgencyOf, if_neg c_1, if_neg c_2, if_neg c_3]) dX2_urgencyOf_67
    · refine w_ldc2 cx k_427 dX2_urgencyOf_38 ?_
      refine lv_iload_n hx hb dX2_urgencyOf_41 rfl (lv_at hl 0 rfl) ?_
      refine lv_i2l hx hb dX2_urgencyOf_42 rfl ?_
      refine lv_ladd hx hb dX2_urgencyOf_43 ?_
      exact r_long cx hr hlk (by rw [f_X2_urgencyOf, if_neg c_1, if_pos c_2]) dX2_urgencyOf_44
set_option maxRecDepth 20000 in
theorem c_X2_about_out (l : Launch) (G : GG) (ad : Nat → Nat) (S : St) (E : Ex) (hW : WF S) {n : Int32} (hn : nT S n) (x : Int32) : MR l yX2_about cX2_about 4 (some .int) 2 43 G ad (cX G ad S E) [.ref (ad 0), .int n, .int x] (some (.int (-1))) := by
  refine MR.of [(0, .ref (ad 0)), (1, .int n), (2, .int x)] (by decide) (Nat.le_of_ble_eq_true rfl) rfl ?_
  intro p e s m args below meth c cx hr hlk hP ls hl
  have hx := cx.1.1
  have hb := cx.1.2.1
  refine lv_aload_n hx hb dX2_about_0 rfl (lv_at hl 0 rfl) ?_
  refine lv_iload_n hx hb dX2_about_1 rfl (lv_at hl 1 rfl) ?_
  refine w_callV (As := [.int n]) (rest := []) (st := [.null]) cx (c_X2_thingAt_out l G ad S E hW hn) k_149 cal_yX2_thingAt (ci := 2) rfl (hP _ _ (cX_lo 0 (by decide) rfl)) hP rfl ⟨Nat.le_of_ble_eq_true rfl, Nat.le_of_ble_eq_true rfl⟩ hl.1 (Nat.le_of_ble_eq_true rfl) ⟨Nat.zero_le _, Nat.zero_le _⟩ rfl rfl dX2_about_2 ?_
  refine lv_astore_nN (lv' := [(3, .null), (0, .ref (ad 0)), (1, .int n), (2, .int x)]) hx hb dX2_about_5 rfl hl (by decide) rfl (fun ls hl => ?_)
  refine lv_aload_nN hx hb dX2_about_6 rfl (lv_at hl 0 rfl) ?_
  refine lv_ifnonnullN hx hb dX2_about_7 ?_
  refine lv_iconst (v := -1) hx hb dX2_about_10 (by decide) ?_
  exact r_int cx hr hlk rfl dX2_about_11
def f_X2_about (S : St) (i : Nat) (x : Int32) : Int32 :=
  if x = 0 then ar S 0 i
  else if x = 1 then ar S 1 i
  else if x = 2 then ar S 2 i
  else if x = 3 then ar S 3 i
  else if x = 4 then ar S 4 i
  else if x = 5 then (if ar S 5 i = -1000000 then (-1000000)
    else nI (ix (ar S 5 i)))
  else if x = 6 then ar S 6 i
  else if x = 7 then ar S 7 i
  else (-2)
set_option maxRecDepth 20000 in
theorem c_X2_about (l : Launch) (G : GG) (ad : Nat → Nat) (S : St) (E : Ex) (hW : WF S) {i : Nat} (hi : i < nt S) (x : Int32) : MR l yX2_about cX2_about 4 (some .int) 2 43 G ad (cX G ad S E) [.ref (ad 0), .int (nI i), .int x] (some (.int (f_X2_about S i x))) := by
  refine MR.of [(0, .ref (ad 0)), (1, .int (nI i)), (2, .int x)] (by decide) (Nat.le_of_ble_eq_true rfl) rfl ?_
  intro p e s m args below meth c cx hr hlk hP ls hl
  have hx := cx.1.1
  have hb := cx.1.2.1
  refine lv_aload_n hx hb dX2_about_0 rfl (lv_at hl 0 rfl) ?_
  refine lv_iload_n hx hb dX2_about_1 rfl (lv_at hl 1 rfl) ?_
  refine w_callV (As := [.int (nI i)]) (rest := []) (st := [.ref (ad (10 + 2 * i))]) cx (c_X2_thingAt_in l G ad S E hW hi) k_149 cal_yX2_thingAt (ci := 2) rfl (hP _ _ (cX_lo 0 (by decide) rfl)) hP rfl ⟨Nat.le_of_ble_eq_true rfl, Nat.le_of_ble_eq_true rfl⟩ hl.1 (Nat.le_of_ble_eq_true rfl) ⟨Nat.zero_le _, Nat.zero_le _⟩ rfl rfl dX2_about_2 ?_
  refine lv_astore_n (lv' := [(3, .ref (ad (10 + 2 * i))), (0, .ref (ad 0)), (1, .int (nI i)), (2, .int x)]) hx hb dX2_about_5 rfl hl (by decide) rfl (fun ls hl => ?_)
  refine lv_aload_n hx hb dX2_about_6 rfl (lv_at hl 0 rfl) ?_
  refine lv_ifnonnull (tgt := 12) hx hb dX2_about_7 (by decide) ?_
  refine lv_iload_n hx hb dX2_about_12 rfl (lv_at hl 3 rfl) ?_
  by_cases c_1 : x = 0
  · refine lv_tableIn (off := 47) (tgt := 60) hx hb dX2_about_13 (by rw [c_1]; decide) (by rw [c_1]; decide) (by rw [c_1]; decide) (by decide) ?_
    refine lv_aload_n hx hb dX2_about_60 rfl (lv_at hl 0 rfl) ?_
    refine w_get cx (ci := 0) rfl iX0 (hP _ _ (cX_T hi hW.t)) 0 (by decide) k_108 (v := .int (ar S 0 i)) rfl dX2_about_61 ?_
    exact r_int cx hr hlk (by rw [f_X2_about, if_pos c_1]) dX2_about_64
  · by_cases c_2 : x = 1
    · refine lv_tableIn (off := 52) (tgt := 65) hx hb dX2_about_13 (by rw [c_2]; decide) (by rw [c_2]; decide) (by rw [c_2]; decide) (by decide) ?_
      refine lv_aload_n hx hb dX2_about_65 rfl (lv_at hl 0 rfl) ?_
      refine w_get cx (ci := 0) rfl iX0 (hP _ _ (cX_T hi hW.t)) 1 (by decide) k_110 (v := .int (ar S 1 i)) rfl dX2_about_66 ?_
      exact r_int cx hr hlk (by rw [f_X2_about, if_neg c_1, if_pos c_2]) dX2_about_69
    · by_cases c_3 : x = 2
      · refine lv_tableIn (off := 57) (tgt := 70) hx hb dX2_about_13 (by rw [c_3]; decide) (by rw [c_3]; decide) (by rw [c_3]; decide) (by decide) ?_
        refine lv_aload_n hx hb dX2_about_70 rfl (lv_at hl 0 rfl) ?_
        refine w_get cx (ci := 0) rfl iX0 (hP _ _ (cX_T hi hW.t)) 2 (by decide) k_112 (v := .int (ar S 2 i)) rfl dX2_about_71 ?_
        exact r_int cx hr hlk (by rw [f_X2_about, if_neg c_1, if_neg c_2, if_pos c_3]) dX2_about_74
      · by_cases c_4 : x = 3
        · refine lv_tableIn (off := 62) (tgt := 75) hx hb dX2_about_13 (by rw [c_4]; decide) (by rw [c_4]; decide) (by rw [c_4]; decide) (by decide) ?_
          refine lv_aload_n hx hb dX2_about_75 rfl (lv_at hl 0 rfl) ?_
          refine w_get cx (ci := 0) rfl iX0 (hP _ _ (cX_T hi hW.t)) 4 (by decide) k_115 (v := .int (ar S 3 i)) rfl dX2_about_76 ?_
          exact r_int cx hr hlk (by rw [f_X2_about, if_neg c_1, if_neg c_2, if_neg c_3, if_pos c_4]) dX2_about_79
        · by_cases c_5 : x = 4
          · refine lv_tableIn (off := 67) (tgt := 80) hx hb dX2_about_13 (by rw [c_5]; decide) (by rw [c_5]; decide) (by rw [c_5]; decide) (by decide) ?_
            refine lv_aload_n hx hb dX2_about_80 rfl (lv_at hl 0 rfl) ?_
            refine w_get cx (ci := 0) rfl iX0 (hP _ _ (cX_T hi hW.t)) 6 (by decide) k_117 (v := .int (ar S 4 i)) rfl dX2_about_81 ?_
            exact r_int cx hr hlk (by rw [f_X2_about, if_neg c_1, if_neg c_2, if_neg c_3, if_neg c_4, if_pos c_5]) dX2_about_84
          · by_cases c_6 : x = 5
            · refine lv_tableIn (off := 72) (tgt := 85) hx hb dX2_about_13 (by rw [c_6]; decide) (by rw [c_6]; decide) (by rw [c_6]; decide) (by decide) ?_
              refine lv_aload_n hx hb dX2_about_85 rfl (lv_at hl 0 rfl) ?_
              by_cases c_7 : ar S 5 i = -1000000
              · refine w_get cx (ci := 0) rfl iX0 (hP _ _ (cX_T hi hW.t)) 9 (by decide) k_122 (v := .null) (congrArg some (rT_null c_7)) dX2_about_86 ?_
                refine w_callS (As := [.null]) (rest := []) (st := [.int ((-1000000))]) cx (c_X2_numberOf_n l G ad S E hW) k_153 cal_yX2_numberOf hP rfl ⟨Nat.le_of_ble_eq_true rfl, Nat.le_of_ble_eq_true rfl⟩ hl.1 (Nat.le_of_ble_eq_true rfl) ⟨Nat.zero_le _, Nat.zero_le _⟩ rfl rfl dX2_about_89 ?_
                exact r_int cx hr hlk (by rw [f_X2_about, if_neg c_1, if_neg c_2, if_neg c_3, if_neg c_4, if_neg c_5, if_pos c_6, if_pos c_7]) dX2_about_92
              · refine w_get cx (ci := 0) rfl iX0 (hP _ _ (cX_T hi hW.t)) 9 (by decide) k_122 (v := .ref (ad (100 + ix (ar S 5 i)))) (congrArg some (rT_ref c_7)) dX2_about_86 ?_
                refine w_callS (As := [.ref (ad (100 + ix (ar S 5 i)))]) (rest := []) (st := [.int (nI (ix (ar S 5 i)))]) cx (c_X2_numberOf_r l G ad S E hW (n := ix (ar S 5 i)) (hW.la hi c_7).2) k_153 cal_yX2_numberOf hP rfl ⟨Nat.le_of_ble_eq_true rfl, Nat.le_of_ble_eq_true rfl⟩ hl.1 (Nat.le_of_ble_eq_true rfl) ⟨Nat.zero_le _, Nat.zero_le _⟩ rfl rfl dX2_about_89 ?_
                exact r_int cx hr hlk (by rw [f_X2_about, if_neg c_1, if_neg c_2, if_neg c_3, if_neg c_4, if_neg c_5, if_pos c_6, if_neg c_7]) dX2_about_92
            · by_cases c_8 : x = 6
              · refine lv_tableIn (off := 80) (tgt := 93) hx hb dX2_about_13 (by rw [c_8]; decide) (by rw [c_8]; decide) (by rw [c_8]; decide) (by decide) ?_
                refine lv_aload_n hx hb dX2_about_93 rfl (lv_at hl 0 rfl) ?_
                refine w_get cx (ci := 0) rfl iX0 (hP _ _ (cX_T hi hW.t)) 8 (by decide) k_121 (v := .int (ar S 6 i)) rfl dX2_about_94 ?_
                exact r_int cx hr hlk (by rw [f_X2_about, if_neg c_1, if_neg c_2, if_neg c_3, if_neg c_4, if_neg c_5, if_neg c_6, if_pos c_8]) dX2_about_97
              · by_cases c_9 : x = 7
                · refine lv_tableIn (off := 85) (tgt := 98) hx hb dX2_about_13 (by rw [c_9]; decide) (by rw [c_9]; decide) (by rw [c_9]; decide) (by decide) ?_
                  refine lv_aload_n hx hb dX2_about_98 rfl (lv_at hl 0 rfl) ?_
                  refine w_get cx (ci := 0) rfl iX0 (hP _ _ (cX_T hi hW.t)) 7 (by decide) k_119 (v := .int (ar S 7 i)) rfl dX2_about_99 ?_
                  exact r_int cx hr hlk (by rw [f_X2_about, if_neg c_1, if_neg c_2, if_neg c_3, if_neg c_4, if_neg c_5, if_neg c_6, if_neg c_8, if_pos c_9]) dX2_about_102
                · refine lv_tableOut (tgt := 103) hx hb dX2_about_13 (tab_out8 c_1 c_2 c_3 c_4 c_5 c_6 c_8 c_9) (by decide) ?_
                  refine lv_bipush (v := -2) hx hb dX2_about_103 (by decide) ?_
                  exact r_int cx hr hlk (by rw [f_X2_about, if_neg c_1, if_neg c_2, if_neg c_3, if_neg c_4, if_neg c_5, if_neg c_6, if_neg c_8, if_neg c_9]) dX2_about_105
set_option maxRecDepth 20000 in
theorem c_X2_error_out (l : Launch) (G : GG) (ad : Nat → Nat) (S : St) (E : Ex) (hW : WF S) {n : Int32} (hn : nT S n)  : MR l yX2_error cX2_error 3 (some .int) 2 43 G ad (cX G ad S E) [.ref (ad 0), .int n] (some (.int (-1))) := by
  refine MR.of [(0, .ref (ad 0)), (1, .int n)] (by decide) (Nat.le_of_ble_eq_true rfl) rfl ?_
  intro p e s m args below meth c cx hr hlk hP ls hl
  have hx := cx.1.1
  have hb := cx.1.2.1
  refine lv_aload_n hx hb dX2_error_0 rfl (lv_at hl 0 rfl) ?_
  refine lv_iload_n hx hb dX2_error_1 rfl (lv_at hl 1 rfl) ?_
  refine w_callV (As := [.int n]) (rest := []) (st := [.null]) cx (c_X2_thingAt_out l G ad S E hW hn) k_149 cal_yX2_thingAt (ci := 2) rfl (hP _ _ (cX_lo 0 (by decide) rfl)) hP rfl ⟨Nat.le_of_ble_eq_true rfl, Nat.le_of_ble_eq_true rfl⟩ hl.1 (Nat.le_of_ble_eq_true rfl) ⟨Nat.zero_le _, Nat.zero_le _⟩ rfl rfl dX2_error_2 ?_
  refine lv_astore_nN (lv' := [(2, .null), (0, .ref (ad 0)), (1, .int n)]) hx hb dX2_error_5 rfl hl (by decide) rfl (fun ls hl => ?_)
  refine lv_aload_nN hx hb dX2_error_6 rfl (lv_at hl 0 rfl) ?_
  refine lv_ifnonnullN hx hb dX2_error_7 ?_
  refine lv_iconst (v := -1) hx hb dX2_error_10 (by decide) ?_
  exact r_int cx hr hlk rfl dX2_error_11
def f_X2_error (S : St) (i : Nat)  : Int32 :=
  if f_X0_isMeasured S i = 0 then (-1000000)
  else f_X0_errorHeld S i
set_option maxRecDepth 20000 in
theorem c_X2_error (l : Launch) (G : GG) (ad : Nat → Nat) (S : St) (E : Ex) (hW : WF S) {i : Nat} (hi : i < nt S)  : MR l yX2_error cX2_error 3 (some .int) 2 43 G ad (cX G ad S E) [.ref (ad 0), .int (nI i)] (some (.int (f_X2_error S i))) := by
  refine MR.of [(0, .ref (ad 0)), (1, .int (nI i))] (by decide) (Nat.le_of_ble_eq_true rfl) rfl ?_
  intro p e s m args below meth c cx hr hlk hP ls hl
  have hx := cx.1.1
  have hb := cx.1.2.1
  refine lv_aload_n hx hb dX2_error_0 rfl (lv_at hl 0 rfl) ?_
  refine lv_iload_n hx hb dX2_error_1 rfl (lv_at hl 1 rfl) ?_
  refine w_callV (As := [.int (nI i)]) (rest := []) (st := [.ref (ad (10 + 2 * i))]) cx (c_X2_thingAt_in l G ad S E hW hi) k_149 cal_yX2_thingAt (ci := 2) rfl (hP _ _ (cX_lo 0 (by decide) rfl)) hP rfl ⟨Nat.le_of_ble_eq_true rfl, Nat.le_of_ble_eq_true rfl⟩ hl.1 (Nat.le_of_ble_eq_true rfl) ⟨Nat.zero_le _, Nat.zero_le _⟩ rfl rfl dX2_error_2 ?_
  refine lv_astore_n (lv' := [(2, .ref (ad (10 + 2 * i))), (0, .ref (ad 0)), (1, .int (nI i))]) hx hb dX2_error_5 rfl hl (by decide) rfl (fun ls hl => ?_)
  refine lv_aload_n hx hb dX2_error_6 rfl (lv_at hl 0 rfl) ?_
  refine lv_ifnonnull (tgt := 12) hx hb dX2_error_7 (by decide) ?_
  refine lv_aload_n hx hb dX2_error_12 rfl (lv_at hl 0 rfl) ?_
  refine w_callV (As := []) (rest := []) (st := [.int (f_X0_isMeasured S i)]) cx (c_X0_isMeasured l G ad S E hW (i := i) hi) k_324 cal_yX0_isMeasured (ci := 0) rfl (hP _ _ (cX_T hi hW.t)) hP rfl ⟨Nat.le_of_ble_eq_true rfl, Nat.le_of_ble_eq_true rfl⟩ hl.1 (Nat.le_of_ble_eq_true rfl) ⟨Nat.zero_le _, Nat.zero_le _⟩ rfl rfl dX2_error_13 ?_
  refine lv_if_eq (tgt := 26) hx hb dX2_error_16 (by decide) (fun c_1 => ?_) (fun c_1 => ?_)
  · refine w_ldc cx k_156 dX2_error_26 ?_
    exact r_int cx hr hlk (by rw [f_X2_error, if_pos c_1]) dX2_error_28
  · refine lv_aload_n hx hb dX2_error_19 rfl (lv_at hl 0 rfl) ?_
    refine w_callV (As := []) (rest := []) (st := [.int (f_X0_errorHeld S i)]) cx (c_X0_errorHeld l G ad S E hW (i := i) hi) k_236 cal_yX0_errorHeld (ci := 0) rfl (hP _ _ (cX_T hi hW.t)) hP rfl ⟨Nat.le_of_ble_eq_true rfl, Nat.le_of_ble_eq_true rfl⟩ hl.1 (Nat.le_of_ble_eq_true rfl) ⟨Nat.zero_le _, Nat.zero_le _⟩ rfl rfl dX2_error_20 ?_
    refine lv_goto (tgt := 28) hx hb dX2_error_23 (by decide) ?_
    exact r_int cx hr hlk (by rw [f_X2_error, if_neg c_1]) dX2_error_28
set_option maxRecDepth 20000 in
theorem c_X2_span_out (l : Launch) (G : GG) (ad : Nat → Nat) (S : St) (E : Ex) (hW : WF S) {n : Int32} (hn : nT S n)  : MR l yX2_span cX2_span 3 (some .int) 2 43 G ad (cX G ad S E) [.ref (ad 0), .int n] (some (.int (-1))) := by
  refine MR.of [(0, .ref (ad 0)), (1, .int n)] (by decide) (Nat.le_of_ble_eq_true rfl) rfl ?_
  intro p e s m args below meth c cx hr hlk hP ls hl
  have hx := cx.1.1
  have hb := cx.1.2.1
  refine lv_aload_n hx hb dX2_span_0 rfl (lv_at hl 0 rfl) ?_
  refine lv_iload_n hx hb dX2_span_1 rfl (lv_at hl 1 rfl) ?_
  refine w_callV (As := [.int n]) (rest := []) (st := [.null]) cx (c_X2_thingAt_out l G ad S E hW hn) k_149 cal_yX2_thingAt (ci := 2) rfl (hP _ _ (cX_lo 0 (by decide) rfl)) hP rfl ⟨Nat.le_of_ble_eq_true rfl, Nat.le_of_ble_eq_true rfl⟩ hl.1 (Nat.le_of_ble_eq_true rfl) ⟨Nat.zero_le _, Nat.zero_le _⟩ rfl rfl dX2_span_2 ?_
  refine lv_astore_nN (lv' := [(2, .null), (0, .ref (ad 0)), (1, .int n)]) hx hb dX2_span_5 rfl hl (by decide) rfl (fun ls hl => ?_)
  refine lv_aload_nN hx hb dX2_span_6 rfl (lv_at hl 0 rfl) ?_
  refine lv_ifnonnullN hx hb dX2_span_7 ?_
  refine lv_iconst (v := -1) hx hb dX2_span_10 (by decide) ?_
  exact r_int cx hr hlk rfl dX2_span_11
def f_X2_span (S : St) (i : Nat)  : Int32 :=
  if f_X0_isMeasured S i = 0 then (-1000000)
  else f_X0_spanOn S i (sc S 0)
set_option maxRecDepth 20000 in
theorem c_X2_span (l : Launch) (G : GG) (ad : Nat → Nat) (S : St) (E : Ex) (hW : WF S) {i : Nat} (hi : i < nt S)  : MR l yX2_span cX2_span 3 (some .int) 2 43 G ad (cX G ad S E) [.ref (ad 0), .int (nI i)] (some (.int (f_X2_span S i))) := by
  refine MR.of [(0, .ref (ad 0)), (1, .int (nI i))] (by decide) (Nat.le_of_ble_eq_true rfl) rfl ?_
  intro p e s m args below meth c cx hr hlk hP ls hl
  have hx := cx.1.1
  have hb := cx.1.2.1
  refine lv_aload_n hx hb dX2_span_0 rfl (lv_at hl 0 rfl) ?_
  refine lv_iload_n hx hb dX2_span_1 rfl (lv_at hl 1 rfl) ?_
  refine w_callV (As := [.int (nI i)]) (rest := []) (st := [.ref (ad (10 + 2 * i))]) cx (c_X2_thingAt_in l G ad S E hW hi) k_149 cal_yX2_thingAt (ci := 2) rfl (hP _ _ (cX_lo 0 (by decide) rfl)) hP rfl ⟨Nat.le_of_ble_eq_true rfl, Nat.le_of_ble_eq_true rfl⟩ hl.1 (Nat.le_of_ble_eq_true rfl) ⟨Nat.zero_le _, Nat.zero_le _⟩ rfl rfl dX2_span_2 ?_
  refine lv_astore_n (lv' := [(2, .ref (ad (10 + 2 * i))), (0, .ref (ad 0)), (1, .int (nI i))]) hx hb dX2_span_5 rfl hl (by decide) rfl (fun ls hl => ?_)
  refine lv_aload_n hx hb dX2_span_6 rfl (lv_at hl 0 rfl) ?_
  refine lv_ifnonnull (tgt := 12) hx hb dX2_span_7 (by decide) ?_
  refine lv_aload_n hx hb dX2_span_12 rfl (lv_at hl 0 rfl) ?_
  refine w_callV (As := []) (rest := []) (st := [.int (f_X0_isMeasured S i)]) cx (c_X0_isMeasured l G ad S E hW (i := i) hi) k_324 cal_yX0_isMeasured (ci := 0) rfl (hP _ _ (cX_T hi hW.t)) hP rfl ⟨Nat.le_of_ble_eq_true rfl, Nat.le_of_ble_eq_true rfl⟩ hl.1 (Nat.le_of_ble_eq_true rfl) ⟨Nat.zero_le _, Nat.zero_le _⟩ rfl rfl dX2_span_13 ?_
  refine lv_if_eq (tgt := 30) hx hb dX2_span_16 (by decide) (fun c_1 => ?_) (fun c_1 => ?_)
  · refine w_ldc cx k_156 dX2_span_30 ?_
    exact r_int cx hr hlk (by rw [f_X2_span, if_pos c_1]) dX2_span_32
  · refine lv_aload_n hx hb dX2_span_19 rfl (lv_at hl 0 rfl) ?_
    refine lv_aload_n hx hb dX2_span_20 rfl (lv_at hl 1 rfl) ?_
    refine w_get cx (ci := 2) rfl iX2 (hP _ _ (cX_lo 0 (by decide) rfl)) 9 (by decide) k_54 (v := .int (sc S 0)) rfl dX2_span_21 ?_
    refine w_callV (As := [.int (sc S 0)]) (rest := []) (st := [.int (f_X0_spanOn S i (sc S 0))]) cx (c_X0_spanOn l G ad S E hW (i := i) hi (sc S 0)) k_213 cal_yX0_spanOn (ci := 0) rfl (hP _ _ (cX_T hi hW.t)) hP rfl ⟨Nat.le_of_ble_eq_true rfl, Nat.le_of_ble_eq_true rfl⟩ hl.1 (Nat.le_of_ble_eq_true rfl) ⟨Nat.zero_le _, Nat.zero_le _⟩ rfl rfl dX2_span_24 ?_
    refine lv_goto (tgt := 32) hx hb dX2_span_27 (by decide) ?_
    exact r_int cx hr hlk (by rw [f_X2_span, if_neg c_1]) dX2_span_32
set_option maxRecDepth 20000 in
theorem c_X2_settled_out (l : Launch) (G : GG) (ad : Nat → Nat) (S : St) (E : Ex) (hW : WF S) {n : Int32} (hn : nT S n)  : MR l yX2_settled cX2_settled 3 (some .int) 2 43 G ad (cX G ad S E) [.ref (ad 0), .int n] (some (.int (-1))) := by
  refine MR.of [(0, .ref (ad 0)), (1, .int n)] (by decide) (Nat.le_of_ble_eq_true rfl) rfl ?_
  intro p e s m args below meth c cx hr hlk hP ls hl
  have hx := cx.1.1
  have hb := cx.1.2.1
  refine lv_aload_n hx hb dX2_settled_0 rfl (lv_at hl 0 rfl) ?_
  refine lv_iload_n hx hb dX2_settled_1 rfl (lv_at hl 1 rfl) ?_
  refine w_callV (As := [.int n]) (rest := []) (st := [.null]) cx (c_X2_thingAt_out l G ad S E hW hn) k_149 cal_yX2_thingAt (ci := 2) rfl (hP _ _ (cX_lo 0 (by decide) rfl)) hP rfl ⟨Nat.le_of_ble_eq_true rfl, Nat.le_of_ble_eq_true rfl⟩ hl.1 (Nat.le_of_ble_eq_true rfl) ⟨Nat.zero_le _, Nat.zero_le _⟩ rfl rfl dX2_settled_2 ?_
  refine lv_astore_nN (lv' := [(2, .null), (0, .ref (ad 0)), (1, .int n)]) hx hb dX2_settled_5 rfl hl (by decide) rfl (fun ls hl => ?_)
  refine lv_aload_nN hx hb dX2_settled_6 rfl (lv_at hl 0 rfl) ?_
  refine lv_ifnonnullN hx hb dX2_settled_7 ?_
  refine lv_iconst (v := -1) hx hb dX2_settled_10 (by decide) ?_
  exact r_int cx hr hlk rfl dX2_settled_11
def f_X2_settled (S : St) (i : Nat)  : Int32 :=
  if f_X0_isSettledNow S i = 0 then 0
  else 1
set_option maxRecDepth 20000 in
theorem c_X2_settled (l : Launch) (G : GG) (ad : Nat → Nat) (S : St) (E : Ex) (hW : WF S) {i : Nat} (hi : i < nt S)  : MR l yX2_settled cX2_settled 3 (some .int) 2 43 G ad (cX G ad S E) [.ref (ad 0), .int (nI i)] (some (.int (f_X2_settled S i))) := by
  refine MR.of [(0, .ref (ad 0)), (1, .int (nI i))] (by decide) (Nat.le_of_ble_eq_true rfl) rfl ?_
  intro p e s m args below meth c cx hr hlk hP ls hl
  have hx := cx.1.1
  have hb := cx.1.2.1
  refine lv_aload_n hx hb dX2_settled_0 rfl (lv_at hl 0 rfl) ?_
  refine lv_iload_n hx hb dX2_settled_1 rfl (lv_at hl 1 rfl) ?_
  refine w_callV (As := [.int (nI i)]) (rest := []) (st := [.ref (ad (10 + 2 * i))]) cx (c_X2_thingAt_in l G ad S E hW hi) k_149 cal_yX2_thingAt (ci := 2) rfl (hP _ _ (cX_lo 0 (by decide) rfl)) hP rfl ⟨Nat.le_of_ble_eq_true rfl, Nat.le_of_ble_eq_true rfl⟩ hl.1 (Nat.le_of_ble_eq_true rfl) ⟨Nat.zero_le _, Nat.zero_le _⟩ rfl rfl dX2_settled_2 ?_
  refine lv_astore_n (lv' := [(2, .ref (ad (10 + 2 * i))), (0, .ref (ad 0)), (1, .int (nI i))]) hx hb dX2_settled_5 rfl hl (by decide) rfl (fun ls hl => ?_)
  refine lv_aload_n hx hb dX2_settled_6 rfl (lv_at hl 0 rfl) ?_
  refine lv_ifnonnull (tgt := 12) hx hb dX2_settled_7 (by decide) ?_
  refine lv_aload_n hx hb dX2_settled_12 rfl (lv_at hl 0 rfl) ?_
  refine w_callV (As := []) (rest := []) (st := [.int (f_X0_isSettledNow S i)]) cx (c_X0_isSettledNow l G ad S E hW (i := i) hi) k_336 cal_yX0_isSettledNow (ci := 0) rfl (hP _ _ (cX_T hi hW.t)) hP rfl ⟨Nat.le_of_ble_eq_true rfl, Nat.le_of_ble_eq_true rfl⟩ hl.1 (Nat.le_of_ble_eq_true rfl) ⟨Nat.zero_le _, Nat.zero_le _⟩ rfl rfl dX2_settled_13 ?_
  refine lv_if_eq (tgt := 23) hx hb dX2_settled_16 (by decide) (fun c_1 => ?_) (fun c_1 => ?_)
  · refine lv_iconst (v := 0) hx hb dX2_settled_23 (by decide) ?_
    exact r_int cx hr hlk (by rw [f_X2_settled, if_pos c_1]) dX2_settled_24
  · refine lv_iconst (v := 1) hx hb dX2_settled_19 (by decide) ?_
    refine lv_goto (tgt := 24) hx hb dX2_settled_20 (by decide) ?_
    exact r_int cx hr hlk (by rw [f_X2_settled, if_neg c_1]) dX2_settled_24
set_option maxRecDepth 20000 in
theorem c_X2_due_out (l : Launch) (G : GG) (ad : Nat → Nat) (S : St) (E : Ex) (hW : WF S) {n : Int32} (hn : nT S n)  : MR l yX2_due cX2_due 3 (some .int) 3 65 G ad (cX G ad S E) [.ref (ad 0), .int n] (some (.int (-1))) := by
  refine MR.of [(0, .ref (ad 0)), (1, .int n)] (by decide) (Nat.le_of_ble_eq_true rfl) rfl ?_
  intro p e s m args below meth c cx hr hlk hP ls hl
  have hx := cx.1.1
  have hb := cx.1.2.1
  refine lv_aload_n hx hb dX2_due_0 rfl (lv_at hl 0 rfl) ?_
  refine lv_iload_n hx hb dX2_due_1 rfl (lv_at hl 1 rfl) ?_
  refine w_callV (As := [.int n]) (rest := []) (st := [.null]) cx (c_X2_thingAt_out l G ad S E hW hn) k_149 cal_yX2_thingAt (ci := 2) rfl (hP _ _ (cX_lo 0 (by decide) rfl)) hP rfl ⟨Nat.le_of_ble_eq_true rfl, Nat.le_of_ble_eq_true rfl⟩ hl.1 (Nat.le_of_ble_eq_true rfl) ⟨Nat.zero_le _, Nat.zero_le _⟩ rfl rfl dX2_due_2 ?_
  refine lv_astore_nN (lv' := [(2, .null), (0, .ref (ad 0)), (1, .int n)]) hx hb dX2_due_5 rfl hl (by decide) rfl (fun ls hl => ?_)
  refine lv_aload_nN hx hb dX2_due_6 rfl (lv_at hl 0 rfl) ?_
  refine lv_ifnonnullN hx hb dX2_due_7 ?_
  refine lv_iconst (v := -1) hx hb dX2_due_10 (by decide) ?_
  exact r_int cx hr hlk rfl dX2_due_11
def f_X2_due (S : St) (i : Nat)  : Int32 :=
  if f_X0_isDueOn S i (sc S 0) = 0 then 0
  else 1
set_option maxRecDepth 20000 in
theorem c_X2_due (l : Launch) (G : GG) (ad : Nat → Nat) (S : St) (E : Ex) (hW : WF S) {i : Nat} (hi : i < nt S)  : MR l yX2_due cX2_due 3 (some .int) 3 65 G ad (cX G ad S E) [.ref (ad 0), .int (nI i)] (some (.int (f_X2_due S i))) := by
  refine MR.of [(0, .ref (ad 0)), (1, .int (nI i))] (by decide) (Nat.le_of_ble_eq_true rfl) rfl ?_
  intro p e s m args below meth c cx hr hlk hP ls hl
  have hx := cx.1.1
  have hb := cx.1.2.1
  refine lv_aload_n hx hb dX2_due_0 rfl (lv_at hl 0 rfl) ?_
  refine lv_iload_n hx hb dX2_due_1 rfl (lv_at hl 1 rfl) ?_
  refine w_callV (As := [.int (nI i)]) (rest := []) (st := [.ref (ad (10 + 2 * i))]) cx (c_X2_thingAt_in l G ad S E hW hi) k_149 cal_yX2_thingAt (ci := 2) rfl (hP _ _ (cX_lo 0 (by decide) rfl)) hP rfl ⟨Nat.le_of_ble_eq_true rfl, Nat.le_of_ble_eq_true rfl⟩ hl.1 (Nat.le_of_ble_eq_true rfl) ⟨Nat.zero_le _, Nat.zero_le _⟩ rfl rfl dX2_due_2 ?_
  refine lv_astore_n (lv' := [(2, .ref (ad (10 + 2 * i))), (0, .ref (ad 0)), (1, .int (nI i))]) hx hb dX2_due_5 rfl hl (by decide) rfl (fun ls hl => ?_)
  refine lv_aload_n hx hb dX2_due_6 rfl (lv_at hl 0 rfl) ?_
  refine lv_ifnonnull (tgt := 12) hx hb dX2_due_7 (by decide) ?_
  refine lv_aload_n hx hb dX2_due_12 rfl (lv_at hl 0 rfl) ?_
  refine lv_aload_n hx hb dX2_due_13 rfl (lv_at hl 1 rfl) ?_
  refine w_get cx (ci := 2) rfl iX2 (hP _ _ (cX_lo 0 (by decide) rfl)) 9 (by decide) k_54 (v := .int (sc S 0)) rfl dX2_due_14 ?_
  refine w_callV (As := [.int (sc S 0)]) (rest := []) (st := [.int (f_X0_isDueOn S i (sc S 0))]) cx (c_X0_isDueOn l G ad S E hW (i := i) hi (sc S 0)) k_341 cal_yX0_isDueOn (ci := 0) rfl (hP _ _ (cX_T hi hW.t)) hP rfl ⟨Nat.le_of_ble_eq_true rfl, Nat.le_of_ble_eq_true rfl⟩ hl.1 (Nat.le_of_ble_eq_true rfl) ⟨Nat.zero_le _, Nat.zero_le _⟩ rfl rfl dX2_due_17 ?_
  refine lv_if_eq (tgt := 27) hx hb dX2_due_20 (by decide) (fun c_1 => ?_) (fun c_1 => ?_)
  · refine lv_iconst (v := 0) hx hb dX2_due_27 (by decide) ?_
    exact r_int cx hr hlk (by rw [f_X2_due, if_pos c_1]) dX2_due_28
  · refine lv_iconst (v := 1) hx hb dX2_due_23 (by decide) ?_
    refine lv_goto (tgt := 28) hx hb dX2_due_24 (by decide) ?_
    exact r_int cx hr hlk (by rw [f_X2_due, if_neg c_1]) dX2_due_28
set_option maxRecDepth 20000 in
theorem c_X2_left_out (l : Launch) (G : GG) (ad : Nat → Nat) (S : St) (E : Ex) (hW : WF S) {n : Int32} (hn : nT S n)  : MR l yX2_left cX2_left 3 (some .int) 2 44 G ad (cX G ad S E) [.ref (ad 0), .int n] (some (.int (-1))) := by
  refine MR.of [(0, .ref (ad 0)), (1, .int n)] (by decide) (Nat.le_of_ble_eq_true rfl) rfl ?_
  intro p e s m args below meth c cx hr hlk hP ls hl
  have hx := cx.1.1
  have hb := cx.1.2.1
  refine lv_aload_n hx hb dX2_left_0 rfl (lv_at hl 0 rfl) ?_
  refine lv_iload_n hx hb dX2_left_1 rfl (lv_at hl 1 rfl) ?_
  refine w_callV (As := [.int n]) (rest := []) (st := [.null]) cx (c_X2_thingAt_out l G ad S E hW hn) k_149 cal_yX2_thingAt (ci := 2) rfl (hP _ _ (cX_lo 0 (by decide) rfl)) hP rfl ⟨Nat.le_of_ble_eq_true rfl, Nat.le_of_ble_eq_true rfl⟩ hl.1 (Nat.le_of_ble_eq_true rfl) ⟨Nat.zero_le _, Nat.zero_le _⟩ rfl rfl dX2_left_2 ?_
  refine lv_astore_nN (lv' := [(2, .null), (0, .ref (ad 0)), (1, .int n)]) hx hb dX2_left_5 rfl hl (by decide) rfl (fun ls hl => ?_)
  refine lv_aload_nN hx hb dX2_left_6 rfl (lv_at hl 0 rfl) ?_
  refine lv_ifnonnullN hx hb dX2_left_7 ?_
  refine lv_iconst (v := -1) hx hb dX2_left_10 (by decide) ?_
  exact r_int cx hr hlk rfl dX2_left_11
def f_X2_left (S : St) (i : Nat)  : Int32 :=
  if ar S 0 i = 0 then (-1000000)
  else f_X0_daysUntilDue S i (sc S 0)
set_option maxRecDepth 20000 in
theorem c_X2_left (l : Launch) (G : GG) (ad : Nat → Nat) (S : St) (E : Ex) (hW : WF S) {i : Nat} (hi : i < nt S)  : MR l yX2_left cX2_left 3 (some .int) 2 44 G ad (cX G ad S E) [.ref (ad 0), .int (nI i)] (some (.int (f_X2_left S i))) := by
  refine MR.of [(0, .ref (ad 0)), (1, .int (nI i))] (by decide) (Nat.le_of_ble_eq_true rfl) rfl ?_
  intro p e s m args below meth c cx hr hlk hP ls hl
  have hx := cx.1.1
  have hb := cx.1.2.1
  refine lv_aload_n hx hb dX2_left_0 rfl (lv_at hl 0 rfl) ?_
  refine lv_iload_n hx hb dX2_left_1 rfl (lv_at hl 1 rfl) ?_
  refine w_callV (As := [.int (nI i)]) (rest := []) (st := [.ref (ad (10 + 2 * i))]) cx (c_X2_thingAt_in l G ad S E hW hi) k_149 cal_yX2_thingAt (ci := 2) rfl (hP _ _ (cX_lo 0 (by decide) rfl)) hP rfl ⟨Nat.le_of_ble_eq_true rfl, Nat.le_of_ble_eq_true rfl⟩ hl.1 (Nat.le_of_ble_eq_true rfl) ⟨Nat.zero_le _, Nat.zero_le _⟩ rfl rfl dX2_left_2 ?_
  refine lv_astore_n (lv' := [(2, .ref (ad (10 + 2 * i))), (0, .ref (ad 0)), (1, .int (nI i))]) hx hb dX2_left_5 rfl hl (by decide) rfl (fun ls hl => ?_)
  refine lv_aload_n hx hb dX2_left_6 rfl (lv_at hl 0 rfl) ?_
  refine lv_ifnonnull (tgt := 12) hx hb dX2_left_7 (by decide) ?_
  refine lv_aload_n hx hb dX2_left_12 rfl (lv_at hl 0 rfl) ?_
  refine w_get cx (ci := 0) rfl iX0 (hP _ _ (cX_T hi hW.t)) 0 (by decide) k_108 (v := .int (ar S 0 i)) rfl dX2_left_13 ?_
  refine lv_if_ne (tgt := 24) hx hb dX2_left_16 (by decide) (fun c_1 => ?_) (fun c_1 => ?_)
  · refine lv_aload_n hx hb dX2_left_24 rfl (lv_at hl 0 rfl) ?_
    refine lv_aload_n hx hb dX2_left_25 rfl (lv_at hl 1 rfl) ?_
    refine w_get cx (ci := 2) rfl iX2 (hP _ _ (cX_lo 0 (by decide) rfl)) 9 (by decide) k_54 (v := .int (sc S 0)) rfl dX2_left_26 ?_
    refine w_callV (As := [.int (sc S 0)]) (rest := []) (st := [.int (f_X0_daysUntilDue S i (sc S 0))]) cx (c_X0_daysUntilDue l G ad S E hW (i := i) hi (sc S 0)) k_346 cal_yX0_daysUntilDue (ci := 0) rfl (hP _ _ (cX_T hi hW.t)) hP rfl ⟨Nat.le_of_ble_eq_true rfl, Nat.le_of_ble_eq_true rfl⟩ hl.1 (Nat.le_of_ble_eq_true rfl) ⟨Nat.zero_le _, Nat.zero_le _⟩ rfl rfl dX2_left_29 ?_
    exact r_int cx hr hlk (by rw [f_X2_left, if_neg c_1]) dX2_left_32
  · refine w_ldc cx k_156 dX2_left_19 ?_
    refine lv_goto (tgt := 32) hx hb dX2_left_21 (by decide) ?_
    exact r_int cx hr hlk (by rw [f_X2_left, if_pos c_1]) dX2_left_32
set_option maxRecDepth 20000 in
theorem c_X2_judge_out (l : Launch) (G : GG) (ad : Nat → Nat) (S : St) (E : Ex) (hW : WF S) {n : Int32} (hn : nT S n)  : MR l yX2_judge cX2_judge 3 (some .int) 3 68 G ad (cX G ad S E) [.ref (ad 0), .int n] (some (.int (-1))) := by
  refine MR.of [(0, .ref (ad 0)), (1, .int n)] (by decide) (Nat.le_of_ble_eq_true rfl) rfl ?_
  intro p e s m args below meth c cx hr hlk hP ls hl
  have hx := cx.1.1
  have hb := cx.1.2.1
  refine lv_aload_n hx hb dX2_judge_0 rfl (lv_at hl 0 rfl) ?_
  refine lv_iload_n hx hb dX2_judge_1 rfl (lv_at hl 1 rfl) ?_
  refine w_callV (As := [.int n]) (rest := []) (st := [.null]) cx (c_X2_thingAt_out l G ad S E hW hn) k_149 cal_yX2_thingAt (ci := 2) rfl (hP _ _ (cX_lo 0 (by decide) rfl)) hP rfl ⟨Nat.le_of_ble_eq_true rfl, Nat.le_of_ble_eq_true rfl⟩ hl.1 (Nat.le_of_ble_eq_true rfl) ⟨Nat.zero_le _, Nat.zero_le _⟩ rfl rfl dX2_judge_2 ?_
  refine lv_astore_nN (lv' := [(2, .null), (0, .ref (ad 0)), (1, .int n)]) hx hb dX2_judge_5 rfl hl (by decide) rfl (fun ls hl => ?_)
  refine lv_aload_nN hx hb dX2_judge_6 rfl (lv_at hl 0 rfl) ?_
  refine lv_ifnonnullN hx hb dX2_judge_7 ?_
  refine lv_iconst (v := -1) hx hb dX2_judge_10 (by decide) ?_
  refine lv_goto (tgt := 19) hx hb dX2_judge_11 (by decide) ?_
  exact r_int cx hr hlk rfl dX2_judge_19
def f_X2_judge (S : St) (i : Nat)  : Int32 :=
  f_X2_judgement S i
set_option maxRecDepth 20000 in
theorem c_X2_judge (l : Launch) (G : GG) (ad : Nat → Nat) (S : St) (E : Ex) (hW : WF S) {i : Nat} (hi : i < nt S)  : MR l yX2_judge cX2_judge 3 (some .int) 3 68 G ad (cX G ad S E) [.ref (ad 0), .int (nI i)] (some (.int (f_X2_judge S i))) := by
  refine MR.of [(0, .ref (ad 0)), (1, .int (nI i))] (by decide) (Nat.le_of_ble_eq_true rfl) rfl ?_
  intro p e s m args below meth c cx hr hlk hP ls hl
  have hx := cx.1.1
  have hb := cx.1.2.1
  refine lv_aload_n hx hb dX2_judge_0 rfl (lv_at hl 0 rfl) ?_
  refine lv_iload_n hx hb dX2_judge_1 rfl (lv_at hl 1 rfl) ?_
  refine w_callV (As := [.int (nI i)]) (rest := []) (st := [.ref (ad (10 + 2 * i))]) cx (c_X2_thingAt_in l G ad S E hW hi) k_149 cal_yX2_thingAt (ci := 2) rfl (hP _ _ (cX_lo 0 (by decide) rfl)) hP rfl ⟨Nat.le_of_ble_eq_true rfl, Nat.le_of_ble_eq_true rfl⟩ hl.1 (Nat.le_of_ble_eq_true rfl) ⟨Nat.zero_le _, Nat.zero_le _⟩ rfl rfl dX2_judge_2 ?_
  refine lv_astore_n (lv' := [(2, .ref (ad (10 + 2 * i))), (0, .ref (ad 0)), (1, .int (nI i))]) hx hb dX2_judge_5 rfl hl (by decide) rfl (fun ls hl => ?_)
  refine lv_aload_n hx hb dX2_judge_6 rfl (lv_at hl 0 rfl) ?_
  refine lv_ifnonnull (tgt := 14) hx hb dX2_judge_7 (by decide) ?_
  refine lv_aload_n hx hb dX2_judge_14 rfl (lv_at hl 1 rfl) ?_
  refine lv_aload_n hx hb dX2_judge_15 rfl (lv_at hl 0 rfl) ?_
  refine w_callV (As := [.ref (ad (10 + 2 * i))]) (rest := []) (st := [.int (f_X2_judgement S i)]) cx (c_X2_judgement l G ad S E hW (i := i) hi) k_359 cal_yX2_judgement (ci := 2) rfl (hP _ _ (cX_lo 0 (by decide) rfl)) hP rfl ⟨Nat.le_of_ble_eq_true rfl, Nat.le_of_ble_eq_true rfl⟩ hl.1 (Nat.le_of_ble_eq_true rfl) ⟨Nat.zero_le _, Nat.zero_le _⟩ rfl rfl dX2_judge_16 ?_
  exact r_int cx hr hlk (by rw [f_X2_judge]) dX2_judge_19
set_option maxRecDepth 20000 in
theorem c_X2_stays_out (l : Launch) (G : GG) (ad : Nat → Nat) (S : St) (E : Ex) (hW : WF S) {n : Int32} (hn : nT S n)  : MR l yX2_stays cX2_stays 6 (some .int) 3 68 G ad (cX G ad S E) [.ref (ad 0), .int n] (some (.int (-1))) := by
  refine MR.of [(0, .ref (ad 0)), (1, .int n)] (by decide) (Nat.le_of_ble_eq_true rfl) rfl ?_
  intro p e s m args below meth c cx hr hlk hP ls hl
  have hx := cx.1.1
  have hb := cx.1.2.1
  refine lv_aload_n hx hb dX2_stays_0 rfl (lv_at hl 0 rfl) ?_
  refine lv_iload_n hx hb dX2_stays_1 rfl (lv_at hl 1 rfl) ?_
  refine w_callV (As := [.int n]) (rest := []) (st := [.null]) cx (c_X2_thingAt_out l G ad S E hW hn) k_149 cal_yX2_thingAt (ci := 2) rfl (hP _ _ (cX_lo 0 (by decide) rfl)) hP rfl ⟨Nat.le_of_ble_eq_true rfl, Nat.le_of_ble_eq_true rfl⟩ hl.1 (Nat.le_of_ble_eq_true rfl) ⟨Nat.zero_le _, Nat.zero_le _⟩ rfl rfl dX2_stays_2 ?_
  refine lv_astore_nN (lv' := [(2, .null), (0, .ref (ad 0)), (1, .int n)]) hx hb dX2_stays_5 rfl hl (by decide) rfl (fun ls hl => ?_)
  refine lv_aload_nN hx hb dX2_stays_6 rfl (lv_at hl 0 rfl) ?_
  refine lv_ifnonnullN hx hb dX2_stays_7 ?_
  refine lv_iconst (v := -1) hx hb dX2_stays_10 (by decide) ?_
  exact r_int cx hr hlk rfl dX2_stays_11
def f_X2_stays (S : St) (i : Nat)  : Int32 :=
  if f_X2_judgement S i = 1 then f_X0_daysNoWiderThan S i ((f_X2_allowanceFor S i) - (f_X0_errorSize S i)) (sc S 0)
  else if f_X2_judgement S i = 3 then f_X0_daysNoWiderThan S i (((f_X0_errorSize S i) - (f_X2_allowanceFor S i)) - 1) (sc S 0)
  else if f_X2_judgement S i = 2 then 20000
  else (-1000000)
set_option maxRecDepth 20000 in
theorem c_X2_stays (l : Launch) (G : GG) (ad : Nat → Nat) (S : St) (E : Ex) (hW : WF S) {i : Nat} (hi : i < nt S)  : MR l yX2_stays cX2_stays 6 (some .int) 3 68 G ad (cX G ad S E) [.ref (ad 0), .int (nI i)] (some (.int (f_X2_stays S i))) := by
  refine MR.of [(0, .ref (ad 0)), (1, .int (nI i))] (by decide) (Nat.le_of_ble_eq_true rfl) rfl ?_
  intro p e s m args below meth c cx hr hlk hP ls hl
  have hx := cx.1.1
  have hb := cx.1.2.1
  refine lv_aload_n hx hb dX2_stays_0 rfl (lv_at hl 0 rfl) ?_
  refine lv_iload_n hx hb dX2_stays_1 rfl (lv_at hl 1 rfl) ?_
  refine w_callV (As := [.int (nI i)]) (rest := []) (st := [.ref (ad (10 + 2 * i))]) cx (c_X2_thingAt_in l G ad S E hW hi) k_149 cal_yX2_thingAt (ci := 2) rfl (hP _ _ (cX_lo 0 (by decide) rfl)) hP rfl ⟨Nat.le_of_ble_eq_true rfl, Nat.le_of_ble_eq_true rfl⟩ hl.1 (Nat.le_of_ble_eq_true rfl) ⟨Nat.zero_le _, Nat.zero_le _⟩ rfl rfl dX2_stays_2 ?_
  refine lv_astore_n (lv' := [(2, .ref (ad (10 + 2 * i))), (0, .ref (ad 0)), (1, .int (nI i))]) hx hb dX2_stays_5 rfl hl (by decide) rfl (fun ls hl => ?_)
  refine lv_aload_n hx hb dX2_stays_6 rfl (lv_at hl 0 rfl) ?_
  refine lv_ifnonnull (tgt := 12) hx hb dX2_stays_7 (by decide) ?_
  refine lv_aload_n hx hb dX2_stays_12 rfl (lv_at hl 1 rfl) ?_
  refine lv_aload_n hx hb dX2_stays_13 rfl (lv_at hl 0 rfl) ?_
  refine w_callV (As := [.ref (ad (10 + 2 * i))]) (rest := []) (st := [.int (f_X2_judgement S i)]) cx (c_X2_judgement l G ad S E hW (i := i) hi) k_359 cal_yX2_judgement (ci := 2) rfl (hP _ _ (cX_lo 0 (by decide) rfl)) hP rfl ⟨Nat.le_of_ble_eq_true rfl, Nat.le_of_ble_eq_true rfl⟩ hl.1 (Nat.le_of_ble_eq_true rfl) ⟨Nat.zero_le _, Nat.zero_le _⟩ rfl rfl dX2_stays_14 ?_
  refine lv_istore_n (lv' := [(3, .int (f_X2_judgement S i)), (2, .ref (ad (10 + 2 * i))), (0, .ref (ad 0)), (1, .int (nI i))]) hx hb dX2_stays_17 rfl hl (by decide) rfl (fun ls hl => ?_)
  refine lv_aload_n hx hb dX2_stays_18 rfl (lv_at hl 1 rfl) ?_
  refine w_callV (As := []) (rest := []) (st := [.int (f_X0_errorSize S i)]) cx (c_X0_errorSize l G ad S E hW (i := i) hi) k_363 cal_yX0_errorSize (ci := 0) rfl (hP _ _ (cX_T hi hW.t)) hP rfl ⟨Nat.le_of_ble_eq_true rfl, Nat.le_of_ble_eq_true rfl⟩ hl.1 (Nat.le_of_ble_eq_true rfl) ⟨Nat.zero_le _, Nat.zero_le _⟩ rfl rfl dX2_stays_19 ?_
  refine lv_istore (lv' := [(4, .int (f_X0_errorSize S i)), (3, .int (f_X2_judgement S i)), (2, .ref (ad (10 + 2 * i))), (0, .ref (ad 0)), (1, .int (nI i))]) hx hb dX2_stays_22 hl (by decide) rfl (fun ls hl => ?_)
  refine lv_aload_n hx hb dX2_stays_24 rfl (lv_at hl 3 rfl) ?_
  refine lv_aload_n hx hb dX2_stays_25 rfl (lv_at hl 2 rfl) ?_
  refine w_callV (As := [.ref (ad (10 + 2 * i))]) (rest := []) (st := [.int (f_X2_allowanceFor S i)]) cx (c_X2_allowanceFor l G ad S E hW (i := i) hi) k_368 cal_yX2_allowanceFor (ci := 2) rfl (hP _ _ (cX_lo 0 (by decide) rfl)) hP rfl ⟨Nat.le_of_ble_eq_true rfl, Nat.le_of_ble_eq_true rfl⟩ hl.1 (Nat.le_of_ble_eq_true rfl) ⟨Nat.zero_le _, Nat.zero_le _⟩ rfl rfl dX2_stays_26 ?_
  refine lv_istore (lv' := [(5, .int (f_X2_allowanceFor S i)), (4, .int (f_X0_errorSize S i)), (3, .int (f_X2_judgement S i)), (2, .ref (ad (10 + 2 * i))), (0, .ref (ad 0)), (1, .int (nI i))]) hx hb dX2_stays_29 hl (by decide) rfl (fun ls hl => ?_)
  refine lv_iload_n hx hb dX2_stays_31 rfl (lv_at hl 2 rfl) ?_
  refine lv_iconst (v := 1) hx hb dX2_stays_32 (by decide) ?_
  refine lv_icmp_ne (tgt := 50) hx hb dX2_stays_33 (by decide) (fun c_1 => ?_) (fun c_1 => ?_)
  · refine lv_iload_n hx hb dX2_stays_50 rfl (lv_at hl 2 rfl) ?_
    refine lv_iconst (v := 3) hx hb dX2_stays_51 (by decide) ?_
    refine lv_icmp_ne (tgt := 71) hx hb dX2_stays_52 (by decide) (fun c_2 => ?_) (fun c_2 => ?_)
    · refine lv_iload_n hx hb dX2_stays_71 rfl (lv_at hl 2 rfl) ?_
      refine lv_iconst (v := 2) hx hb dX2_stays_72 (by decide) ?_
      refine lv_icmp_ne (tgt := 82) hx hb dX2_stays_73 (by decide) (fun c_3 => ?_) (fun c_3 => ?_)
      · refine w_ldc cx k_156 dX2_stays_82 ?_
        exact r_int cx hr hlk (by rw [f_X2_stays, if_neg c_1, if_neg c_2, if_neg c_3]) dX2_stays_84
      · refine lv_sipush (v := 20000) hx hb dX2_stays_76 (by decide) ?_
        refine lv_goto (tgt := 84) hx hb dX2_stays_79 (by decide) ?_
        exact r_int cx hr hlk (by rw [f_X2_stays, if_neg c_1, if_neg c_2, if_pos c_3]) dX2_stays_84
    · refine lv_aload_n hx hb dX2_stays_55 rfl (lv_at hl 3 rfl) ?_
      refine lv_iload hx hb dX2_stays_56 (lv_at hl 1 rfl) ?_
      refine lv_iload hx hb dX2_stays_58 (lv_at hl 0 rfl) ?_
      refine lv_isub hx hb dX2_stays_60 ?_
      refine lv_iconst (v := 1) hx hb dX2_stays_61 (by decide) ?_
      refine lv_isub hx hb dX2_stays_62 ?_
      refine lv_aload_n hx hb dX2_stays_63 rfl (lv_at hl 4 rfl) ?_
      refine w_get cx (ci := 2) rfl iX2 (hP _ _ (cX_lo 0 (by decide) rfl)) 9 (by decide) k_54 (v := .int (sc S 0)) rfl dX2_stays_64 ?_
      refine w_callV (As := [.int (((f_X0_errorSize S i) - (f_X2_allowanceFor S i)) - 1), .int (sc S 0)]) (rest := []) (st := [.int (f_X0_daysNoWiderThan S i (((f_X0_errorSize S i) - (f_X2_allowanceFor S i)) - 1) (sc S 0))]) cx (c_X0_daysNoWiderThan l G ad S E hW (i := i) hi (((f_X0_errorSize S i) - (f_X2_allowanceFor S i)) - 1) (sc S 0)) k_376 cal_yX0_daysNoWiderThan (ci := 0) rfl (hP _ _ (cX_T hi hW.t)) hP rfl ⟨Nat.le_of_ble_eq_true rfl, Nat.le_of_ble_eq_true rfl⟩ hl.1 (Nat.le_of_ble_eq_true rfl) ⟨Nat.zero_le _, Nat.zero_le _⟩ rfl rfl dX2_stays_67 ?_
      exact r_int cx hr hlk (by rw [f_X2_stays, if_neg c_1, if_pos c_2]) dX2_stays_70
  · refine lv_aload_n hx hb dX2_stays_36 rfl (lv_at hl 3 rfl) ?_
    refine lv_iload hx hb dX2_stays_37 (lv_at hl 0 rfl) ?_
    refine lv_iload hx hb dX2_stays_39 (lv_at hl 1 rfl) ?_
    refine lv_isub hx hb dX2_stays_41 ?_
    refine lv_aload_n hx hb dX2_stays_42 rfl (lv_at hl 4 rfl) ?_
    refine w_get cx (ci := 2) rfl iX2 (hP _ _ (cX_lo 0 (by decide) rfl)) 9 (by decide) k_54 (v := .int (sc S 0)) rfl dX2_stays_43 ?_
    refine w_callV (As := [.int ((f_X2_allowanceFor S i) - (f_X0_errorSize S i)), .int (sc S 0)]) (rest := []) (st := [.int (f_X0_daysNoWiderThan S i ((f_X2_allowanceFor S i) - (f_X0_errorSize S i)) (sc S 0))]) cx (c_X0_daysNoWiderThan l G ad S E hW (i := i) hi ((f_X2_allowanceFor S i) - (f_X0_errorSize S i)) (sc S 0)) k_376 cal_yX0_daysNoWiderThan (ci := 0) rfl (hP _ _ (cX_T hi hW.t)) hP rfl ⟨Nat.le_of_ble_eq_true rfl, Nat.le_of_ble_eq_true rfl⟩ hl.1 (Nat.le_of_ble_eq_true rfl) ⟨Nat.zero_le _, Nat.zero_le _⟩ rfl rfl dX2_stays_46 ?_
    exact r_int cx hr hlk (by rw [f_X2_stays, if_pos c_1]) dX2_stays_49
set_option maxRecDepth 20000 in
theorem c_X2_told_out (l : Launch) (G : GG) (ad : Nat → Nat) (S : St) (E : Ex) (hW : WF S) {n : Int32} (hn : nR S n) (x : Int32) : MR l yX2_told cX2_told 4 (some .int) 2 43 G ad (cX G ad S E) [.ref (ad 0), .int n, .int x] (some (.int (-1))) := by
  refine MR.of [(0, .ref (ad 0)), (1, .int n), (2, .int x)] (by decide) (Nat.le_of_ble_eq_true rfl) rfl ?_
  intro p e s m args below meth c cx hr hlk hP ls hl
  have hx := cx.1.1
  have hb := cx.1.2.1
  refine lv_aload_n hx hb dX2_told_0 rfl (lv_at hl 0 rfl) ?_
  refine lv_iload_n hx hb dX2_told_1 rfl (lv_at hl 1 rfl) ?_
  refine w_callV (As := [.int n]) (rest := []) (st := [.null]) cx (c_X2_trialAt_out l G ad S E hW hn) k_308 cal_yX2_trialAt (ci := 2) rfl (hP _ _ (cX_lo 0 (by decide) rfl)) hP rfl ⟨Nat.le_of_ble_eq_true rfl, Nat.le_of_ble_eq_true rfl⟩ hl.1 (Nat.le_of_ble_eq_true rfl) ⟨Nat.zero_le _, Nat.zero_le _⟩ rfl rfl dX2_told_2 ?_
  refine lv_astore_nN (lv' := [(3, .null), (0, .ref (ad 0)), (1, .int n), (2, .int x)]) hx hb dX2_told_5 rfl hl (by decide) rfl (fun ls hl => ?_)
  refine lv_aload_nN hx hb dX2_told_6 rfl (lv_at hl 0 rfl) ?_
  refine lv_ifnonnullN hx hb dX2_told_7 ?_
  refine lv_iconst (v := -1) hx hb dX2_told_10 (by decide) ?_
  exact r_int cx hr hlk rfl dX2_told_11
def f_X2_told (S : St) (n : Nat) (x : Int32) : Int32 :=
  if x = 0 then ar S 13 n
  else if x = 1 then ar S 14 n
  else if x = 2 then ar S 15 n
  else if x = 3 then ar S 16 n
  else if x = 4 then ar S 17 n
  else if x = 5 then (if ar S 18 n = 0 then 0
    else 1)
  else if x = 6 then (if ar S 19 n = 0 then 0
    else 1)
  else if x = 7 then (if ar S 20 n = -1000000 then (-1000000)
    else nI (ix (ar S 20 n)))
  else (-2)
set_option maxRecDepth 20000 in
theorem c_X2_told (l : Launch) (G : GG) (ad : Nat → Nat) (S : St) (E : Ex) (hW : WF S) (hBa : WB S) {n : Nat} (hn : n < nr S) (x : Int32) : MR l yX2_told cX2_told 4 (some .int) 2 43 G ad (cX G ad S E) [.ref (ad 0), .int (nI n), .int x] (some (.int (f_X2_told S n x))) := by
  refine MR.of [(0, .ref (ad 0)), (1, .int (nI n)), (2, .int x)] (by decide) (Nat.le_of_ble_eq_true rfl) rfl ?_
  intro p e s m args below meth c cx hr hlk hP ls hl
  have hx := cx.1.1
  have hb := cx.1.2.1
  refine lv_aload_n hx hb dX2_told_0 rfl (lv_at hl 0 rfl) ?_
  refine lv_iload_n hx hb dX2_told_1 rfl (lv_at hl 1 rfl) ?_
  refine w_callV (As := [.int (nI n)]) (rest := []) (st := [.ref (ad (100 + n))]) cx (c_X2_trialAt_in l G ad S E hW hn) k_308 cal_yX2_trialAt (ci := 2) rfl (hP _ _ (cX_lo 0 (by decide) rfl)) hP rfl ⟨Nat.le_of_ble_eq_true rfl, Nat.le_of_ble_eq_true rfl⟩ hl.1 (Nat.le_of_ble_eq_true rfl) ⟨Nat.zero_le _, Nat.zero_le _⟩ rfl rfl dX2_told_2 ?_
  refine lv_astore_n (lv' := [(3, .ref (ad (100 + n))), (0, .ref (ad 0)), (1, .int (nI n)), (2, .int x)]) hx hb dX2_told_5 rfl hl (by decide) rfl (fun ls hl => ?_)
  refine lv_aload_n hx hb dX2_told_6 rfl (lv_at hl 0 rfl) ?_
  refine lv_ifnonnull (tgt := 12) hx hb dX2_told_7 (by decide) ?_
  refine lv_iload_n hx hb dX2_told_12 rfl (lv_at hl 3 rfl) ?_
  by_cases c_1 : x = 0
  · refine lv_tableIn (off := 47) (tgt := 60) hx hb dX2_told_13 (by rw [c_1]; decide) (by rw [c_1]; decide) (by rw [c_1]; decide) (by decide) ?_
    refine lv_aload_n hx hb dX2_told_60 rfl (lv_at hl 0 rfl) ?_
    refine w_get cx (ci := 1) rfl iX1 (hP _ _ (cX_R hn)) 1 (by decide) k_248 (v := .int (ar S 13 n)) rfl dX2_told_61 ?_
    exact r_int cx hr hlk (by rw [f_X2_told, if_pos c_1]) dX2_told_64
  · by_cases c_2 : x = 1
    · refine lv_tableIn (off := 52) (tgt := 65) hx hb dX2_told_13 (by rw [c_2]; decide) (by rw [c_2]; decide) (by rw [c_2]; decide) (by decide) ?_
      refine lv_aload_n hx hb dX2_told_65 rfl (lv_at hl 0 rfl) ?_
      refine w_get cx (ci := 1) rfl iX1 (hP _ _ (cX_R hn)) 2 (by decide) k_250 (v := .int (ar S 14 n)) rfl dX2_told_66 ?_
      exact r_int cx hr hlk (by rw [f_X2_told, if_neg c_1, if_pos c_2]) dX2_told_69
    · by_cases c_3 : x = 2
      · refine lv_tableIn (off := 57) (tgt := 70) hx hb dX2_told_13 (by rw [c_3]; decide) (by rw [c_3]; decide) (by rw [c_3]; decide) (by decide) ?_
        refine lv_aload_n hx hb dX2_told_70 rfl (lv_at hl 0 rfl) ?_
        refine w_get cx (ci := 1) rfl iX1 (hP _ _ (cX_R hn)) 4 (by decide) k_254 (v := .int (ar S 15 n)) rfl dX2_told_71 ?_
        exact r_int cx hr hlk (by rw [f_X2_told, if_neg c_1, if_neg c_2, if_pos c_3]) dX2_told_74
      · by_cases c_4 : x = 3
        · refine lv_tableIn (off := 62) (tgt := 75) hx hb dX2_told_13 (by rw [c_4]; decide) (by rw [c_4]; decide) (by rw [c_4]; decide) (by decide) ?_
          refine lv_aload_n hx hb dX2_told_75 rfl (lv_at hl 0 rfl) ?_
          refine w_get cx (ci := 1) rfl iX1 (hP _ _ (cX_R hn)) 5 (by decide) k_257 (v := .int (ar S 16 n)) rfl dX2_told_76 ?_
          exact r_int cx hr hlk (by rw [f_X2_told, if_neg c_1, if_neg c_2, if_neg c_3, if_pos c_4]) dX2_told_79
        · by_cases c_5 : x = 4
          · refine lv_tableIn (off := 67) (tgt := 80) hx hb dX2_told_13 (by rw [c_5]; decide) (by rw [c_5]; decide) (by rw [c_5]; decide) (by decide) ?_
            refine lv_aload_n hx hb dX2_told_80 rfl (lv_at hl 0 rfl) ?_
            refine w_get cx (ci := 1) rfl iX1 (hP _ _ (cX_R hn)) 6 (by decide) k_260 (v := .int (ar S 17 n)) rfl dX2_told_81 ?_
            exact r_int cx hr hlk (by rw [f_X2_told, if_neg c_1, if_neg c_2, if_neg c_3, if_neg c_4, if_pos c_5]) dX2_told_84
          · by_cases c_6 : x = 5
            · refine lv_tableIn (off := 72) (tgt := 85) hx hb dX2_told_13 (by rw [c_6]; decide) (by rw [c_6]; decide) (by rw [c_6]; decide) (by decide) ?_
              refine lv_aload_n hx hb dX2_told_85 rfl (lv_at hl 0 rfl) ?_
              refine w_get cx (ci := 1) rfl iX1 (hP _ _ (cX_R hn)) 7 (by decide) k_263 (v := .int (ar S 18 n)) rfl dX2_told_86 ?_
              refine lv_if_eq (tgt := 96) hx hb dX2_told_89 (by decide) (fun c_7 => ?_) (fun c_7 => ?_)
              · refine lv_iconst (v := 0) hx hb dX2_told_96 (by decide) ?_
                exact r_int cx hr hlk (by rw [f_X2_told, if_neg c_1, if_neg c_2, if_neg c_3, if_neg c_4, if_neg c_5, if_pos c_6, if_pos c_7]) dX2_told_97
              · refine lv_iconst (v := 1) hx hb dX2_told_92 (by decide) ?_
                refine lv_goto (tgt := 97) hx hb dX2_told_93 (by decide) ?_
                exact r_int cx hr hlk (by rw [f_X2_told, if_neg c_1, if_neg c_2, if_neg c_3, if_neg c_4, if_neg c_5, if_pos c_6, if_neg c_7]) dX2_told_97
            · by_cases c_8 : x = 6
              · refine lv_tableIn (off := 85) (tgt := 98) hx hb dX2_told_13 (by rw [c_8]; decide) (by rw [c_8]; decide) (by rw [c_8]; decide) (by decide) ?_
                refine lv_aload_n hx hb dX2_told_98 rfl (lv_at hl 0 rfl) ?_
                refine w_get cx (ci := 1) rfl iX1 (hP _ _ (cX_R hn)) 8 (by decide) k_265 (v := .int (ar S 19 n)) rfl dX2_told_99 ?_
                refine lv_if_eq (tgt := 109) hx hb dX2_told_102 (by decide) (fun c_9 => ?_) (fun c_9 => ?_)
                · refine lv_iconst (v := 0) hx hb dX2_told_109 (by decide) ?_
                  exact r_int cx hr hlk (by rw [f_X2_told, if_neg c_1, if_neg c_2, if_neg c_3, if_neg c_4, if_neg c_5, if_neg c_6, if_pos c_8, if_pos c_9]) dX2_told_110
                · refine lv_iconst (v := 1) hx hb dX2_told_105 (by decide) ?_
                  refine lv_goto (tgt := 110) hx hb dX2_told_106 (by decide) ?_
                  exact r_int cx hr hlk (by rw [f_X2_told, if_neg c_1, if_neg c_2, if_neg c_3, if_neg c_4, if_neg c_5, if_neg c_6, if_pos c_8, if_neg c_9]) dX2_told_110
              · by_cases c_10 : x = 7
                · refine lv_tableIn (off := 98) (tgt := 111) hx hb dX2_told_13 (by rw [c_10]; decide) (by rw [c_10]; decide) (by rw [c_10]; decide) (by decide) ?_
                  refine lv_aload_n hx hb dX2_told_111 rfl (lv_at hl 0 rfl) ?_
                  by_cases c_11 : ar S 20 n = -1000000
                  · refine w_get cx (ci := 1) rfl iX1 (hP _ _ (cX_R hn)) 3 (by decide) k_252 (v := .null) (congrArg some (rT_null c_11)) dX2_told_112 ?_
                    refine w_callS (As := [.null]) (rest := []) (st := [.int ((-1000000))]) cx (c_X2_numberOf_n l G ad S E hW) k_153 cal_yX2_numberOf hP rfl ⟨Nat.le_of_ble_eq_true rfl, Nat.le_of_ble_eq_true rfl⟩ hl.1 (Nat.le_of_ble_eq_true rfl) ⟨Nat.zero_le _, Nat.zero_le _⟩ rfl rfl dX2_told_115 ?_
                    exact r_int cx hr hlk (by rw [f_X2_told, if_neg c_1, if_neg c_2, if_neg c_3, if_neg c_4, if_neg c_5, if_neg c_6, if_neg c_8, if_pos c_10, if_pos c_11]) dX2_told_118
                  · refine w_get cx (ci := 1) rfl iX1 (hP _ _ (cX_R hn)) 3 (by decide) k_252 (v := .ref (ad (100 + ix (ar S 20 n)))) (congrArg some (rT_ref c_11)) dX2_told_112 ?_
                    refine w_callS (As := [.ref (ad (100 + ix (ar S 20 n)))]) (rest := []) (st := [.int (nI (ix (ar S 20 n)))]) cx (c_X2_numberOf_r l G ad S E hW (n := ix (ar S 20 n)) (Nat.lt_trans (hBa.ba hn c_11).2 hn)) k_153 cal_yX2_numberOf hP rfl ⟨Nat.le_of_ble_eq_true rfl, Nat.le_of_ble_eq_true rfl⟩ hl.1 (Nat.le_of_ble_eq_true rfl) ⟨Nat.zero_le _, Nat.zero_le _⟩ rfl rfl dX2_told_115 ?_
                    exact r_int cx hr hlk (by rw [f_X2_told, if_neg c_1, if_neg c_2, if_neg c_3, if_neg c_4, if_neg c_5, if_neg c_6, if_neg c_8, if_pos c_10, if_neg c_11]) dX2_told_118
                · refine lv_tableOut (tgt := 119) hx hb dX2_told_13 (tab_out8 c_1 c_2 c_3 c_4 c_5 c_6 c_8 c_10) (by decide) ?_
                  refine lv_bipush (v := -2) hx hb dX2_told_119 (by decide) ?_
                  exact r_int cx hr hlk (by rw [f_X2_told, if_neg c_1, if_neg c_2, if_neg c_3, if_neg c_4, if_neg c_5, if_neg c_6, if_neg c_8, if_neg c_10]) dX2_told_121
set_option maxRecDepth 20000 in
theorem c_X2_charged_out (l : Launch) (G : GG) (ad : Nat → Nat) (S : St) (E : Ex) (hW : WF S) {n : Int32} (hn : f_X2_isOwner n = 0) : MR l yX2_charged cX2_charged 2 (some .long) 2 42 G ad (cX G ad S E) [.ref (ad 0), .int n] (some (.long (-1))) := by
  refine MR.of [(0, .ref (ad 0)), (1, .int n)] (by decide) (Nat.le_of_ble_eq_true rfl) rfl ?_
  intro p e s m args below meth c cx hr hlk hP ls hl
  have hx := cx.1.1
  have hb := cx.1.2.1
  refine lv_iload_n hx hb dX2_charged_0 rfl (lv_at hl 1 rfl) ?_
  refine w_callS (As := [.int n]) (rest := []) (st := [.int (f_X2_isOwner n)]) cx (c_X2_isOwner l G ad _ n) k_98 cal_yX2_isOwner hP rfl ⟨Nat.le_of_ble_eq_true rfl, Nat.le_of_ble_eq_true rfl⟩ hl.1 (Nat.le_of_ble_eq_true rfl) ⟨Nat.zero_le _, Nat.zero_le _⟩ rfl rfl dX2_charged_1 ?_
  refine lv_if_eq (tgt := 16) hx hb dX2_charged_4 (by decide) (fun c_1 => ?_) (fun c_1 => ?_)
  · refine w_ldc2 cx k_413 dX2_charged_16 ?_
    exact r_long cx hr hlk rfl dX2_charged_19
  · exact absurd hn c_1
def f_X2_charged (S : St) (o : Nat) : Int64 :=
  os S o
set_option maxRecDepth 20000 in
theorem c_X2_charged (l : Launch) (G : GG) (ad : Nat → Nat) (S : St) (E : Ex) (hW : WF S) {o : Nat} (ho : o < 10) : MR l yX2_charged cX2_charged 2 (some .long) 2 42 G ad (cX G ad S E) [.ref (ad 0), .int (nI o)] (some (.long (f_X2_charged S o))) := by
  refine MR.of [(0, .ref (ad 0)), (1, .int (nI o))] (by decide) (Nat.le_of_ble_eq_true rfl) rfl ?_
  intro p e s m args below meth c cx hr hlk hP ls hl
  have hx := cx.1.1
  have hb := cx.1.2.1
  refine lv_iload_n hx hb dX2_charged_0 rfl (lv_at hl 1 rfl) ?_
  refine w_callS (As := [.int (nI o)]) (rest := []) (st := [.int (f_X2_isOwner (nI o))]) cx (c_X2_isOwner l G ad _ (nI o)) k_98 cal_yX2_isOwner hP rfl ⟨Nat.le_of_ble_eq_true rfl, Nat.le_of_ble_eq_true rfl⟩ hl.1 (Nat.le_of_ble_eq_true rfl) ⟨Nat.zero_le _, Nat.zero_le _⟩ rfl rfl dX2_charged_1 ?_
  refine lv_if_eq (tgt := 16) hx hb dX2_charged_4 (by decide) (fun c_1 => ?_) (fun c_1 => ?_)
  · exact absurd c_1 (isO_in ho)
  · refine lv_aload_n hx hb dX2_charged_7 rfl (lv_at hl 0 rfl) ?_
    refine w_get cx (ci := 2) rfl iX2 (hP _ _ (cX_lo 0 (by decide) rfl)) 5 (by decide) k_50 (v := .ref (ad 6)) rfl dX2_charged_8 ?_
    refine lv_iload_n hx hb dX2_charged_11 rfl (lv_at hl 1 rfl) ?_
    refine w_lald cx (hP _ _ (cX_lo 6 (by decide) rfl)) o rfl ho (by decide) dX2_charged_12 ?_
    refine lv_goto (tgt := 19) hx hb dX2_charged_13 (by decide) ?_
    exact r_long cx hr hlk (by rw [f_X2_charged]) dX2_charged_19
def f_X2_wasPutOn (E : Ex) (k : Nat) : Int32 :=
  if (E.1 (k / 32)) &&& (1 <<< (((nI k) - (nI k) / 32 * 32) &&& 31)) = 0 then 0
  else 1
theorem b_X2_wasPutOn (E : Ex) (k : Nat) : f_X2_wasPutOn E k = 0 ∨ f_X2_wasPutOn E k = 1 := by
  unfold f_X2_wasPutOn
  repeat' split
  all_goals first | exact Or.inl rfl | exact Or.inr rfl
set_option maxRecDepth 20000 in
theorem c_X2_wasPutOn (l : Launch) (G : GG) (ad : Nat → Nat) (S : St) (E : Ex) (hW : WF S) {k : Nat} (h1 : 1 ≤ k) (hk : k < 10000) : MR l yX2_wasPutOn cX2_wasPutOn 2 (some .boolean) 2 42 G ad (cX G ad S E) [.ref (ad 0), .int (nI k)] (some (.int (f_X2_wasPutOn E k))) := by
  refine MR.of [(0, .ref (ad 0)), (1, .int (nI k))] (by decide) (Nat.le_of_ble_eq_true rfl) rfl ?_
  intro p e s m args below meth c cx hr hlk hP ls hl
  have hx := cx.1.1
  have hb := cx.1.2.1
  refine lv_iload_n hx hb dX2_wasPutOn_0 rfl (lv_at hl 1 rfl) ?_
  refine w_callS (As := [.int (nI k)]) (rest := []) (st := [.int (f_X2_isSealNumber (nI k))]) cx (c_X2_isSealNumber l G ad _ (nI k)) k_389 cal_yX2_isSealNumber hP rfl ⟨Nat.le_of_ble_eq_true rfl, Nat.le_of_ble_eq_true rfl⟩ hl.1 (Nat.le_of_ble_eq_true rfl) ⟨Nat.zero_le _, Nat.zero_le _⟩ rfl rfl dX2_wasPutOn_1 ?_
  refine lv_if_eq (tgt := 30) hx hb dX2_wasPutOn_4 (by decide) (fun c_1 => ?_) (fun c_1 => ?_)
  · exact absurd c_1 (isN_in h1 hk)
  · refine lv_aload_n hx hb dX2_wasPutOn_7 rfl (lv_at hl 0 rfl) ?_
    refine w_get cx (ci := 2) rfl iX2 (hP _ _ (cX_lo 0 (by decide) rfl)) 6 (by decide) k_51 (v := .ref (ad 7)) rfl dX2_wasPutOn_8 ?_
    refine lv_iload_n hx hb dX2_wasPutOn_11 rfl (lv_at hl 1 rfl) ?_
    refine lv_bipush (v := 32) hx hb dX2_wasPutOn_12 (by decide) ?_
    refine lv_idiv hx hb dX2_wasPutOn_14 (by decide) ?_
    refine w_iald cx (hP _ _ (cX_lo 7 (by decide) rfl)) (k / 32) (pk_div (Nat.lt_of_lt_of_le hk (by decide)) (by decide) (by decide)) (by omega) (by decide) dX2_wasPutOn_15 ?_
    refine lv_iconst (v := 1) hx hb dX2_wasPutOn_16 (by decide) ?_
    refine lv_iload_n hx hb dX2_wasPutOn_17 rfl (lv_at hl 1 rfl) ?_
    refine lv_bipush (v := 32) hx hb dX2_wasPutOn_18 (by decide) ?_
    refine lv_irem hx hb dX2_wasPutOn_20 (by decide) ?_
    refine lv_ishl hx hb dX2_wasPutOn_21 ?_
    refine lv_iand hx hb dX2_wasPutOn_22 ?_
    refine lv_if_eq (tgt := 30) hx hb dX2_wasPutOn_23 (by decide) (fun c_2 => ?_) (fun c_2 => ?_)
    · refine lv_iconst (v := 0) hx hb dX2_wasPutOn_30 (by decide) ?_
      exact r_bool cx hr hlk (by rw [f_X2_wasPutOn, if_pos c_2]) (Or.inl rfl) dX2_wasPutOn_31
    · refine lv_iconst (v := 1) hx hb dX2_wasPutOn_26 (by decide) ?_
      refine lv_goto (tgt := 31) hx hb dX2_wasPutOn_27 (by decide) ?_
      exact r_bool cx hr hlk (by rw [f_X2_wasPutOn, if_neg c_2]) (Or.inr rfl) dX2_wasPutOn_31
