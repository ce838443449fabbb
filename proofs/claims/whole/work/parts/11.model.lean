theorem ix3_0 (i : Nat) : 3 * nI i = nI (3 * i + 0) := by rw [Nat.add_zero, ← pk_mul]; rfl
theorem ix3 (i k : Nat) (x : Int32) (h : x = 3 * nI i + nI k) : x = nI (3 * i + k) := by rw [h, ← nI_add, ← pk_mul]; rfl
set_option maxRecDepth 20000 in
theorem c_X3_isThing_in (l : Launch) (G : GG) (ad : Nat → Nat) (S : St) (hW : WF S) {j : Nat} (hj : j < nt S) : MR l yX3_isThing cX3_isThing 2 (some .boolean) 1 22 G ad (cM G ad S) [.ref (ad 0), .int (nI j)] (some (.int (1))) := by
  refine MR.of [(0, .ref (ad 0)), (1, .int (nI j))] (by decide) (Nat.le_of_ble_eq_true rfl) rfl ?_
  intro p e s m args below meth c cx hr hlk hP ls hl
  have hx := cx.1.1
  have hb := cx.1.2.1
  refine lv_iload_n hx hb dX3_isThing_0 rfl (lv_at hl 1 rfl) ?_
  refine lv_iconst (v := 0) hx hb dX3_isThing_1 (by decide) ?_
  refine lv_aload_n hx hb dX3_isThing_2 rfl (lv_at hl 0 rfl) ?_
  refine w_get cx (ci := 3) rfl iX3 (hP _ _ cM_0) 1 (by decide) k_452 (v := .int (nI (nt S))) rfl dX3_isThing_3 ?_
  refine lv_iconst (v := 1) hx hb dX3_isThing_6 (by decide) ?_
  refine lv_isub hx hb dX3_isThing_7 ?_
  refine w_callS (As := [.int (nI j), .int 0, .int ((nI (nt S)) - 1)]) (rest := []) (st := [.int (f_X3_in (nI j) 0 ((nI (nt S)) - 1))]) cx (c_X3_in l G ad _ (nI j) 0 ((nI (nt S)) - 1)) k_541 cal_yX3_in hP rfl ⟨Nat.le_of_ble_eq_true rfl, Nat.le_of_ble_eq_true rfl⟩ hl.1 (Nat.le_of_ble_eq_true rfl) ⟨Nat.zero_le _, Nat.zero_le _⟩ rfl rfl dX3_isThing_8 ?_
  exact r_bool cx hr hlk ((b_X3_in _ _ _).resolve_left (in_in hj (Nat.lt_of_le_of_lt hW.t (by decide)))) (b_X3_in (nI j) 0 ((nI (nt S)) - 1)) dX3_isThing_11
set_option maxRecDepth 20000 in
theorem c_X3_isThing_out (l : Launch) (G : GG) (ad : Nat → Nat) (S : St) (hW : WF S) {n : Int32} (hn : nT S n) : MR l yX3_isThing cX3_isThing 2 (some .boolean) 1 22 G ad (cM G ad S) [.ref (ad 0), .int n] (some (.int (0))) := by
  refine MR.of [(0, .ref (ad 0)), (1, .int n)] (by decide) (Nat.le_of_ble_eq_true rfl) rfl ?_
  intro p e s m args below meth c cx hr hlk hP ls hl
  have hx := cx.1.1
  have hb := cx.1.2.1
  refine lv_iload_n hx hb dX3_isThing_0 rfl (lv_at hl 1 rfl) ?_
  refine lv_iconst (v := 0) hx hb dX3_isThing_1 (by decide) ?_
  refine lv_aload_n hx hb dX3_isThing_2 rfl (lv_at hl 0 rfl) ?_
  refine w_get cx (ci := 3) rfl iX3 (hP _ _ cM_0) 1 (by decide) k_452 (v := .int (nI (nt S))) rfl dX3_isThing_3 ?_
  refine lv_iconst (v := 1) hx hb dX3_isThing_6 (by decide) ?_
  refine lv_isub hx hb dX3_isThing_7 ?_
  refine w_callS (As := [.int n, .int 0, .int ((nI (nt S)) - 1)]) (rest := []) (st := [.int (f_X3_in n 0 ((nI (nt S)) - 1))]) cx (c_X3_in l G ad _ n 0 ((nI (nt S)) - 1)) k_541 cal_yX3_in hP rfl ⟨Nat.le_of_ble_eq_true rfl, Nat.le_of_ble_eq_true rfl⟩ hl.1 (Nat.le_of_ble_eq_true rfl) ⟨Nat.zero_le _, Nat.zero_le _⟩ rfl rfl dX3_isThing_8 ?_
  exact r_bool cx hr hlk (in_out (Nat.lt_of_le_of_lt hW.t (by decide)) hn) (b_X3_in n 0 ((nI (nt S)) - 1)) dX3_isThing_11
def f_X3_isTool (S : St) (i : Nat)  : Int32 :=
  if ar S 0 i = 2 then 1
  else if ar S 0 i = 3 then 1
  else 0
theorem b_X3_isTool (S : St) (i : Nat)  : f_X3_isTool S i = 0 ∨ f_X3_isTool S i = 1 := by
  unfold f_X3_isTool
  repeat' split
  all_goals first | exact Or.inl rfl | exact Or.inr rfl
set_option maxRecDepth 20000 in
theorem c_X3_isTool (l : Launch) (G : GG) (ad : Nat → Nat) (S : St) (hW : WF S) {i : Nat} (hi : i < nt S)  : MR l yX3_isTool cX3_isTool 2 (some .boolean) 0 0 G ad (cM G ad S) [.ref (ad 0), .int (nI i)] (some (.int (f_X3_isTool S i))) := by
  refine MR.of [(0, .ref (ad 0)), (1, .int (nI i))] (by decide) (Nat.le_of_ble_eq_true rfl) rfl ?_
  intro p e s m args below meth c cx hr hlk hP ls hl
  have hx := cx.1.1
  have hb := cx.1.2.1
  refine lv_aload_n hx hb dX3_isTool_0 rfl (lv_at hl 0 rfl) ?_
  refine w_get cx (ci := 3) rfl iX3 (hP _ _ cM_0) 2 (by decide) k_453 (v := .ref (ad 1)) rfl dX3_isTool_1 ?_
  refine lv_iload_n hx hb dX3_isTool_4 rfl (lv_at hl 1 rfl) ?_
  refine w_iald cx (hP _ _ (cM_A (n := 40) 0 (by decide) rfl rfl)) i rfl (Nat.lt_of_lt_of_le hi hW.t) (by decide) dX3_isTool_5 ?_
  refine lv_iconst (v := 2) hx hb dX3_isTool_6 (by decide) ?_
  refine lv_icmp_eq (tgt := 20) hx hb dX3_isTool_7 (by decide) (fun c_1 => ?_) (fun c_1 => ?_)
  · refine lv_iconst (v := 1) hx hb dX3_isTool_20 (by decide) ?_
    refine lv_goto (tgt := 25) hx hb dX3_isTool_21 (by decide) ?_
    exact r_bool cx hr hlk (by rw [f_X3_isTool, if_pos c_1]) (Or.inr rfl) dX3_isTool_25
  · refine lv_aload_n hx hb dX3_isTool_10 rfl (lv_at hl 0 rfl) ?_
    refine w_get cx (ci := 3) rfl iX3 (hP _ _ cM_0) 2 (by decide) k_453 (v := .ref (ad 1)) rfl dX3_isTool_11 ?_
    refine lv_iload_n hx hb dX3_isTool_14 rfl (lv_at hl 1 rfl) ?_
    refine w_iald cx (hP _ _ (cM_A (n := 40) 0 (by decide) rfl rfl)) i rfl (Nat.lt_of_lt_of_le hi hW.t) (by decide) dX3_isTool_15 ?_
    refine lv_iconst (v := 3) hx hb dX3_isTool_16 (by decide) ?_
    refine lv_icmp_ne (tgt := 24) hx hb dX3_isTool_17 (by decide) (fun c_2 => ?_) (fun c_2 => ?_)
    · refine lv_iconst (v := 0) hx hb dX3_isTool_24 (by decide) ?_
      exact r_bool cx hr hlk (by rw [f_X3_isTool, if_neg c_1, if_neg c_2]) (Or.inl rfl) dX3_isTool_25
    · refine lv_iconst (v := 1) hx hb dX3_isTool_20 (by decide) ?_
      refine lv_goto (tgt := 25) hx hb dX3_isTool_21 (by decide) ?_
      exact r_bool cx hr hlk (by rw [f_X3_isTool, if_neg c_1, if_pos c_2]) (Or.inr rfl) dX3_isTool_25
def f_X3_settledNow (S : St) (i : Nat)  : Int32 :=
  if ar S 0 i = 0 then 1
  else if ar S 5 i = -1000000 then 0
  else if ar S 18 (ix (ar S 5 i)) = 0 then 0
  else 1
theorem b_X3_settledNow (S : St) (i : Nat)  : f_X3_settledNow S i = 0 ∨ f_X3_settledNow S i = 1 := by
  unfold f_X3_settledNow
  repeat' split
  all_goals first | exact Or.inl rfl | exact Or.inr rfl
set_option maxRecDepth 20000 in
theorem c_X3_settledNow (l : Launch) (G : GG) (ad : Nat → Nat) (S : St) (hW : WF S) {i : Nat} (hi : i < nt S)  : MR l yX3_settledNow cX3_settledNow 2 (some .boolean) 0 0 G ad (cM G ad S) [.ref (ad 0), .int (nI i)] (some (.int (f_X3_settledNow S i))) := by
  refine MR.of [(0, .ref (ad 0)), (1, .int (nI i))] (by decide) (Nat.le_of_ble_eq_true rfl) rfl ?_
  intro p e s m args below meth c cx hr hlk hP ls hl
  have hx := cx.1.1
  have hb := cx.1.2.1
  refine lv_aload_n hx hb dX3_settledNow_0 rfl (lv_at hl 0 rfl) ?_
  refine w_get cx (ci := 3) rfl iX3 (hP _ _ cM_0) 2 (by decide) k_453 (v := .ref (ad 1)) rfl dX3_settledNow_1 ?_
  refine lv_iload_n hx hb dX3_settledNow_4 rfl (lv_at hl 1 rfl) ?_
  refine w_iald cx (hP _ _ (cM_A (n := 40) 0 (by decide) rfl rfl)) i rfl (Nat.lt_of_lt_of_le hi hW.t) (by decide) dX3_settledNow_5 ?_
  refine lv_if_eq (tgt := 34) hx hb dX3_settledNow_6 (by decide) (fun c_1 => ?_) (fun c_1 => ?_)
  · refine lv_iconst (v := 1) hx hb dX3_settledNow_34 (by decide) ?_
    refine lv_goto (tgt := 39) hx hb dX3_settledNow_35 (by decide) ?_
    exact r_bool cx hr hlk (by rw [f_X3_settledNow, if_pos c_1]) (Or.inr rfl) dX3_settledNow_39
  · refine lv_aload_n hx hb dX3_settledNow_9 rfl (lv_at hl 0 rfl) ?_
    refine w_get cx (ci := 3) rfl iX3 (hP _ _ cM_0) 7 (by decide) k_458 (v := .ref (ad 6)) rfl dX3_settledNow_10 ?_
    refine lv_iload_n hx hb dX3_settledNow_13 rfl (lv_at hl 1 rfl) ?_
    refine w_iald cx (hP _ _ (cM_A (n := 40) 5 (by decide) rfl rfl)) i rfl (Nat.lt_of_lt_of_le hi hW.t) (by decide) dX3_settledNow_14 ?_
    refine w_ldc cx k_548 dX3_settledNow_15 ?_
    refine lv_icmp_eq (tgt := 38) hx hb dX3_settledNow_17 (by decide) (fun c_2 => ?_) (fun c_2 => ?_)
    · refine lv_iconst (v := 0) hx hb dX3_settledNow_38 (by decide) ?_
      exact r_bool cx hr hlk (by rw [f_X3_settledNow, if_neg c_1, if_pos c_2]) (Or.inl rfl) dX3_settledNow_39
    · refine lv_aload_n hx hb dX3_settledNow_20 rfl (lv_at hl 0 rfl) ?_
      refine w_get cx (ci := 3) rfl iX3 (hP _ _ cM_0) 21 (by decide) k_472 (v := .ref (ad 19)) rfl dX3_settledNow_21 ?_
      refine lv_aload_n hx hb dX3_settledNow_24 rfl (lv_at hl 0 rfl) ?_
      refine w_get cx (ci := 3) rfl iX3 (hP _ _ cM_0) 7 (by decide) k_458 (v := .ref (ad 6)) rfl dX3_settledNow_25 ?_
      refine lv_iload_n hx hb dX3_settledNow_28 rfl (lv_at hl 1 rfl) ?_
      refine w_iald cx (hP _ _ (cM_A (n := 40) 5 (by decide) rfl rfl)) i rfl (Nat.lt_of_lt_of_le hi hW.t) (by decide) dX3_settledNow_29 ?_
      refine w_zald cx (hP _ _ (cM_A (n := 300) 18 (by decide) rfl rfl)) (ix (ar S 5 i)) (hW.la hi c_2).1 (Nat.lt_of_lt_of_le (hW.la hi c_2).2 hW.r) (by decide) dX3_settledNow_30 ?_
      refine lv_if_eq (tgt := 38) hx hb dX3_settledNow_31 (by decide) (fun c_3 => ?_) (fun c_3 => ?_)
      · refine lv_iconst (v := 0) hx hb dX3_settledNow_38 (by decide) ?_
        exact r_bool cx hr hlk (by rw [f_X3_settledNow, if_neg c_1, if_neg c_2, if_pos c_3]) (Or.inl rfl) dX3_settledNow_39
      · refine lv_iconst (v := 1) hx hb dX3_settledNow_34 (by decide) ?_
        refine lv_goto (tgt := 39) hx hb dX3_settledNow_35 (by decide) ?_
        exact r_bool cx hr hlk (by rw [f_X3_settledNow, if_neg c_1, if_neg c_2, if_neg c_3]) (Or.inr rfl) dX3_settledNow_39
def f_X3_dueNow (S : St) (i : Nat)  : Int32 :=
  if ar S 0 i = 0 then 0
  else if ar S 5 i = -1000000 then 1
  else if (sc S 0) - (ar S 15 (ix (ar S 5 i))) ≤ ar S 2 i then 0
  else 1
theorem b_X3_dueNow (S : St) (i : Nat)  : f_X3_dueNow S i = 0 ∨ f_X3_dueNow S i = 1 := by
  unfold f_X3_dueNow
  repeat' split
  all_goals first | exact Or.inl rfl | exact Or.inr rfl
set_option maxRecDepth 20000 in
theorem c_X3_dueNow (l : Launch) (G : GG) (ad : Nat → Nat) (S : St) (hW : WF S) {i : Nat} (hi : i < nt S)  : MR l yX3_dueNow cX3_dueNow 2 (some .boolean) 0 0 G ad (cM G ad S) [.ref (ad 0), .int (nI i)] (some (.int (f_X3_dueNow S i))) := by
  refine MR.of [(0, .ref (ad 0)), (1, .int (nI i))] (by decide) (Nat.le_of_ble_eq_true rfl) rfl ?_
  intro p e s m args below meth c cx hr hlk hP ls hl
  have hx := cx.1.1
  have hb := cx.1.2.1
  refine lv_aload_n hx hb dX3_dueNow_0 rfl (lv_at hl 0 rfl) ?_
  refine w_get cx (ci := 3) rfl iX3 (hP _ _ cM_0) 2 (by decide) k_453 (v := .ref (ad 1)) rfl dX3_dueNow_1 ?_
  refine lv_iload_n hx hb dX3_dueNow_4 rfl (lv_at hl 1 rfl) ?_
  refine w_iald cx (hP _ _ (cM_A (n := 40) 0 (by decide) rfl rfl)) i rfl (Nat.lt_of_lt_of_le hi hW.t) (by decide) dX3_dueNow_5 ?_
  refine lv_if_eq (tgt := 49) hx hb dX3_dueNow_6 (by decide) (fun c_1 => ?_) (fun c_1 => ?_)
  · refine lv_iconst (v := 0) hx hb dX3_dueNow_49 (by decide) ?_
    exact r_bool cx hr hlk (by rw [f_X3_dueNow, if_pos c_1]) (Or.inl rfl) dX3_dueNow_50
  · refine lv_aload_n hx hb dX3_dueNow_9 rfl (lv_at hl 0 rfl) ?_
    refine w_get cx (ci := 3) rfl iX3 (hP _ _ cM_0) 7 (by decide) k_458 (v := .ref (ad 6)) rfl dX3_dueNow_10 ?_
    refine lv_iload_n hx hb dX3_dueNow_13 rfl (lv_at hl 1 rfl) ?_
    refine w_iald cx (hP _ _ (cM_A (n := 40) 5 (by decide) rfl rfl)) i rfl (Nat.lt_of_lt_of_le hi hW.t) (by decide) dX3_dueNow_14 ?_
    refine w_ldc cx k_548 dX3_dueNow_15 ?_
    refine lv_icmp_eq (tgt := 45) hx hb dX3_dueNow_17 (by decide) (fun c_2 => ?_) (fun c_2 => ?_)
    · refine lv_iconst (v := 1) hx hb dX3_dueNow_45 (by decide) ?_
      refine lv_goto (tgt := 50) hx hb dX3_dueNow_46 (by decide) ?_
      exact r_bool cx hr hlk (by rw [f_X3_dueNow, if_neg c_1, if_pos c_2]) (Or.inr rfl) dX3_dueNow_50
    · refine lv_aload_n hx hb dX3_dueNow_20 rfl (lv_at hl 0 rfl) ?_
      refine w_get cx (ci := 3) rfl iX3 (hP _ _ cM_0) 0 (by decide) k_451 (v := .int (sc S 0)) rfl dX3_dueNow_21 ?_
      refine lv_aload_n hx hb dX3_dueNow_24 rfl (lv_at hl 0 rfl) ?_
      refine w_get cx (ci := 3) rfl iX3 (hP _ _ cM_0) 18 (by decide) k_469 (v := .ref (ad 16)) rfl dX3_dueNow_25 ?_
      refine lv_aload_n hx hb dX3_dueNow_28 rfl (lv_at hl 0 rfl) ?_
      refine w_get cx (ci := 3) rfl iX3 (hP _ _ cM_0) 7 (by decide) k_458 (v := .ref (ad 6)) rfl dX3_dueNow_29 ?_
      refine lv_iload_n hx hb dX3_dueNow_32 rfl (lv_at hl 1 rfl) ?_
      refine w_iald cx (hP _ _ (cM_A (n := 40) 5 (by decide) rfl rfl)) i rfl (Nat.lt_of_lt_of_le hi hW.t) (by decide) dX3_dueNow_33 ?_
      refine w_iald cx (hP _ _ (cM_A (n := 300) 15 (by decide) rfl rfl)) (ix (ar S 5 i)) (hW.la hi c_2).1 (Nat.lt_of_lt_of_le (hW.la hi c_2).2 hW.r) (by decide) dX3_dueNow_34 ?_
      refine lv_isub hx hb dX3_dueNow_35 ?_
      refine lv_aload_n hx hb dX3_dueNow_36 rfl (lv_at hl 0 rfl) ?_
      refine w_get cx (ci := 3) rfl iX3 (hP _ _ cM_0) 4 (by decide) k_455 (v := .ref (ad 3)) rfl dX3_dueNow_37 ?_
      refine lv_iload_n hx hb dX3_dueNow_40 rfl (lv_at hl 1 rfl) ?_
      refine w_iald cx (hP _ _ (cM_A (n := 40) 2 (by decide) rfl rfl)) i rfl (Nat.lt_of_lt_of_le hi hW.t) (by decide) dX3_dueNow_41 ?_
      refine lv_icmp_le (tgt := 49) hx hb dX3_dueNow_42 (by decide) (fun c_3 => ?_) (fun c_3 => ?_)
      · refine lv_iconst (v := 0) hx hb dX3_dueNow_49 (by decide) ?_
        exact r_bool cx hr hlk (by rw [f_X3_dueNow, if_neg c_1, if_neg c_2, if_pos c_3]) (Or.inl rfl) dX3_dueNow_50
      · refine lv_iconst (v := 1) hx hb dX3_dueNow_45 (by decide) ?_
        refine lv_goto (tgt := 50) hx hb dX3_dueNow_46 (by decide) ?_
        exact r_bool cx hr hlk (by rw [f_X3_dueNow, if_neg c_1, if_neg c_2, if_neg c_3]) (Or.inr rfl) dX3_dueNow_50
def f_X3_errorOf (S : St) (i : Nat)  : Int32 :=
  if ar S 5 i = -1000000 then 0
  else ar S 16 (ix (ar S 5 i))
set_option maxRecDepth 20000 in
theorem c_X3_errorOf (l : Launch) (G : GG) (ad : Nat → Nat) (S : St) (hW : WF S) {i : Nat} (hi : i < nt S)  : MR l yX3_errorOf cX3_errorOf 2 (some .int) 0 0 G ad (cM G ad S) [.ref (ad 0), .int (nI i)] (some (.int (f_X3_errorOf S i))) := by
  refine MR.of [(0, .ref (ad 0)), (1, .int (nI i))] (by decide) (Nat.le_of_ble_eq_true rfl) rfl ?_
  intro p e s m args below meth c cx hr hlk hP ls hl
  have hx := cx.1.1
  have hb := cx.1.2.1
  refine lv_aload_n hx hb dX3_errorOf_0 rfl (lv_at hl 0 rfl) ?_
  refine w_get cx (ci := 3) rfl iX3 (hP _ _ cM_0) 7 (by decide) k_458 (v := .ref (ad 6)) rfl dX3_errorOf_1 ?_
  refine lv_iload_n hx hb dX3_errorOf_4 rfl (lv_at hl 1 rfl) ?_
  refine w_iald cx (hP _ _ (cM_A (n := 40) 5 (by decide) rfl rfl)) i rfl (Nat.lt_of_lt_of_le hi hW.t) (by decide) dX3_errorOf_5 ?_
  refine w_ldc cx k_548 dX3_errorOf_6 ?_
  refine lv_icmp_ne (tgt := 15) hx hb dX3_errorOf_8 (by decide) (fun c_1 => ?_) (fun c_1 => ?_)
  · refine lv_aload_n hx hb dX3_errorOf_15 rfl (lv_at hl 0 rfl) ?_
    refine w_get cx (ci := 3) rfl iX3 (hP _ _ cM_0) 19 (by decide) k_470 (v := .ref (ad 17)) rfl dX3_errorOf_16 ?_
    refine lv_aload_n hx hb dX3_errorOf_19 rfl (lv_at hl 0 rfl) ?_
    refine w_get cx (ci := 3) rfl iX3 (hP _ _ cM_0) 7 (by decide) k_458 (v := .ref (ad 6)) rfl dX3_errorOf_20 ?_
    refine lv_iload_n hx hb dX3_errorOf_23 rfl (lv_at hl 1 rfl) ?_
    refine w_iald cx (hP _ _ (cM_A (n := 40) 5 (by decide) rfl rfl)) i rfl (Nat.lt_of_lt_of_le hi hW.t) (by decide) dX3_errorOf_24 ?_
    refine w_iald cx (hP _ _ (cM_A (n := 300) 16 (by decide) rfl rfl)) (ix (ar S 5 i)) (hW.la hi c_1).1 (Nat.lt_of_lt_of_le (hW.la hi c_1).2 hW.r) (by decide) dX3_errorOf_25 ?_
    exact r_int cx hr hlk (by rw [f_X3_errorOf, if_neg c_1]) dX3_errorOf_26
  · refine lv_iconst (v := 0) hx hb dX3_errorOf_11 (by decide) ?_
    refine lv_goto (tgt := 26) hx hb dX3_errorOf_12 (by decide) ?_
    exact r_int cx hr hlk (by rw [f_X3_errorOf, if_pos c_1]) dX3_errorOf_26
def f_X3_spanOn (S : St) (i : Nat) (d : Int32) : Int32 :=
  if ar S 5 i = -1000000 then 0
  else (ar S 17 (ix (ar S 5 i))) + ((((ar S 1 i) * (d - (ar S 15 (ix (ar S 5 i))))) + 99) / 100)
set_option maxRecDepth 20000 in
theorem c_X3_spanOn (l : Launch) (G : GG) (ad : Nat → Nat) (S : St) (hW : WF S) {i : Nat} (hi : i < nt S) (d : Int32) : MR l yX3_spanOn cX3_spanOn 3 (some .int) 0 0 G ad (cM G ad S) [.ref (ad 0), .int (nI i), .int d] (some (.int (f_X3_spanOn S i d))) := by
  refine MR.of [(0, .ref (ad 0)), (1, .int (nI i)), (2, .int d)] (by decide) (Nat.le_of_ble_eq_true rfl) rfl ?_
  intro p e s m args below meth c cx hr hlk hP ls hl
  have hx := cx.1.1
  have hb := cx.1.2.1
  refine lv_aload_n hx hb dX3_spanOn_0 rfl (lv_at hl 0 rfl) ?_
  refine w_get cx (ci := 3) rfl iX3 (hP _ _ cM_0) 7 (by decide) k_458 (v := .ref (ad 6)) rfl dX3_spanOn_1 ?_
  refine lv_iload_n hx hb dX3_spanOn_4 rfl (lv_at hl 1 rfl) ?_
  refine w_iald cx (hP _ _ (cM_A (n := 40) 5 (by decide) rfl rfl)) i rfl (Nat.lt_of_lt_of_le hi hW.t) (by decide) dX3_spanOn_5 ?_
  refine w_ldc cx k_548 dX3_spanOn_6 ?_
  refine lv_icmp_ne (tgt := 15) hx hb dX3_spanOn_8 (by decide) (fun c_1 => ?_) (fun c_1 => ?_)
  · refine lv_aload_n hx hb dX3_spanOn_15 rfl (lv_at hl 0 rfl) ?_
    refine w_get cx (ci := 3) rfl iX3 (hP _ _ cM_0) 20 (by decide) k_471 (v := .ref (ad 18)) rfl dX3_spanOn_16 ?_
    refine lv_aload_n hx hb dX3_spanOn_19 rfl (lv_at hl 0 rfl) ?_
    refine w_get cx (ci := 3) rfl iX3 (hP _ _ cM_0) 7 (by decide) k_458 (v := .ref (ad 6)) rfl dX3_spanOn_20 ?_
    refine lv_iload_n hx hb dX3_spanOn_23 rfl (lv_at hl 1 rfl) ?_
    refine w_iald cx (hP _ _ (cM_A (n := 40) 5 (by decide) rfl rfl)) i rfl (Nat.lt_of_lt_of_le hi hW.t) (by decide) dX3_spanOn_24 ?_
    refine w_iald cx (hP _ _ (cM_A (n := 300) 17 (by decide) rfl rfl)) (ix (ar S 5 i)) (hW.la hi c_1).1 (Nat.lt_of_lt_of_le (hW.la hi c_1).2 hW.r) (by decide) dX3_spanOn_25 ?_
    refine lv_aload_n hx hb dX3_spanOn_26 rfl (lv_at hl 0 rfl) ?_
    refine w_get cx (ci := 3) rfl iX3 (hP _ _ cM_0) 3 (by decide) k_454 (v := .ref (ad 2)) rfl dX3_spanOn_27 ?_
    refine lv_iload_n hx hb dX3_spanOn_30 rfl (lv_at hl 1 rfl) ?_
    refine w_iald cx (hP _ _ (cM_A (n := 40) 1 (by decide) rfl rfl)) i rfl (Nat.lt_of_lt_of_le hi hW.t) (by decide) dX3_spanOn_31 ?_
    refine lv_iload_n hx hb dX3_spanOn_32 rfl (lv_at hl 2 rfl) ?_
    refine lv_aload_n hx hb dX3_spanOn_33 rfl (lv_at hl 0 rfl) ?_
    refine w_get cx (ci := 3) rfl iX3 (hP _ _ cM_0) 18 (by decide) k_469 (v := .ref (ad 16)) rfl dX3_spanOn_34 ?_
    refine lv_aload_n hx hb dX3_spanOn_37 rfl (lv_at hl 0 rfl) ?_
    refine w_get cx (ci := 3) rfl iX3 (hP _ _ cM_0) 7 (by decide) k_458 (v := .ref (ad 6)) rfl dX3_spanOn_38 ?_
    refine lv_iload_n hx hb dX3_spanOn_41 rfl (lv_at hl 1 rfl) ?_
    refine w_iald cx (hP _ _ (cM_A (n := 40) 5 (by decide) rfl rfl)) i rfl (Nat.lt_of_lt_of_le hi hW.t) (by decide) dX3_spanOn_42 ?_
    refine w_iald cx (hP _ _ (cM_A (n := 300) 15 (by decide) rfl rfl)) (ix (ar S 5 i)) (hW.la hi c_1).1 (Nat.lt_of_lt_of_le (hW.la hi c_1).2 hW.r) (by decide) dX3_spanOn_43 ?_
    refine lv_isub hx hb dX3_spanOn_44 ?_
    refine lv_imul hx hb dX3_spanOn_45 ?_
    refine lv_bipush (v := 99) hx hb dX3_spanOn_46 (by decide) ?_
    refine lv_iadd hx hb dX3_spanOn_48 ?_
    refine lv_bipush (v := 100) hx hb dX3_spanOn_49 (by decide) ?_
    refine lv_idiv hx hb dX3_spanOn_51 (by decide) ?_
    refine lv_iadd hx hb dX3_spanOn_52 ?_
    exact r_int cx hr hlk (by rw [f_X3_spanOn, if_neg c_1]) dX3_spanOn_53
  · refine lv_iconst (v := 0) hx hb dX3_spanOn_11 (by decide) ?_
    refine lv_goto (tgt := 53) hx hb dX3_spanOn_12 (by decide) ?_
    exact r_int cx hr hlk (by rw [f_X3_spanOn, if_pos c_1]) dX3_spanOn_53
def f_X3_middle (S : St) (i : Nat)  : Int32 :=
  if ar S 9 (3 * i + 0) ≤ ar S 9 (3 * i + 1) then (if ar S 9 (3 * i + 2) ≤ ar S 9 (3 * i + 1) then (if ar S 9 (3 * i + 0) ≤ ar S 9 (3 * i + 2) then ar S 9 (3 * i + 2)
      else ar S 9 (3 * i + 0))
    else ar S 9 (3 * i + 1))
  else if ar S 9 (3 * i + 2) ≤ ar S 9 (3 * i + 0) then (if ar S 9 (3 * i + 1) ≤ ar S 9 (3 * i + 2) then ar S 9 (3 * i + 2)
    else ar S 9 (3 * i + 1))
  else ar S 9 (3 * i + 0)
set_option maxRecDepth 20000 in
theorem c_X3_middle (l : Launch) (G : GG) (ad : Nat → Nat) (S : St) (hW : WF S) {i : Nat} (hi : i < nt S)  : MR l yX3_middle cX3_middle 7 (some .int) 0 0 G ad (cM G ad S) [.ref (ad 0), .int (nI i)] (some (.int (f_X3_middle S i))) := by
  refine MR.of [(0, .ref (ad 0)), (1, .int (nI i))] (by decide) (Nat.le_of_ble_eq_true rfl) rfl ?_
  intro p e s m args below meth c cx hr hlk hP ls hl
  have hx := cx.1.1
  have hb := cx.1.2.1
  refine lv_aload_n hx hb dX3_middle_0 rfl (lv_at hl 0 rfl) ?_
  refine w_get cx (ci := 3) rfl iX3 (hP _ _ cM_0) 11 (by decide) k_462 (v := .ref (ad 10)) rfl dX3_middle_1 ?_
  refine lv_iconst (v := 3) hx hb dX3_middle_4 (by decide) ?_
  refine lv_iload_n hx hb dX3_middle_5 rfl (lv_at hl 1 rfl) ?_
  refine lv_imul hx hb dX3_middle_6 ?_
  refine w_iald cx (hP _ _ (cM_A (n := 120) 9 (by decide) rfl rfl)) (3 * i + 0) (ix3_0 i) (by have h40 := hW.t; omega) (by decide) dX3_middle_7 ?_
  refine lv_istore_n (lv' := [(2, .int (ar S 9 (3 * i + 0))), (0, .ref (ad 0)), (1, .int (nI i))]) hx hb dX3_middle_8 rfl hl (by decide) rfl (fun ls hl => ?_)
  refine lv_aload_n hx hb dX3_middle_9 rfl (lv_at hl 1 rfl) ?_
  refine w_get cx (ci := 3) rfl iX3 (hP _ _ cM_0) 11 (by decide) k_462 (v := .ref (ad 10)) rfl dX3_middle_10 ?_
  refine lv_iconst (v := 3) hx hb dX3_middle_13 (by decide) ?_
  refine lv_iload_n hx hb dX3_middle_14 rfl (lv_at hl 2 rfl) ?_
  refine lv_imul hx hb dX3_middle_15 ?_
  refine lv_iconst (v := 1) hx hb dX3_middle_16 (by decide) ?_
  refine lv_iadd hx hb dX3_middle_17 ?_
  refine w_iald cx (hP _ _ (cM_A (n := 120) 9 (by decide) rfl rfl)) (3 * i + 1) (ix3 i 1 _ rfl) (by have h40 := hW.t; omega) (by decide) dX3_middle_18 ?_
  refine lv_istore_n (lv' := [(3, .int (ar S 9 (3 * i + 1))), (2, .int (ar S 9 (3 * i + 0))), (0, .ref (ad 0)), (1, .int (nI i))]) hx hb dX3_middle_19 rfl hl (by decide) rfl (fun ls hl => ?_)
  refine lv_aload_n hx hb dX3_middle_20 rfl (lv_at hl 2 rfl) ?_
  refine w_get cx (ci := 3) rfl iX3 (hP _ _ cM_0) 11 (by decide) k_462 (v := .ref (ad 10)) rfl dX3_middle_21 ?_
  refine lv_iconst (v := 3) hx hb dX3_middle_24 (by decide) ?_
  refine lv_iload_n hx hb dX3_middle_25 rfl (lv_at hl 3 rfl) ?_
  refine lv_imul hx hb dX3_middle_26 ?_
  refine lv_iconst (v := 2) hx hb dX3_middle_27 (by decide) ?_
  refine lv_iadd hx hb dX3_middle_28 ?_
  refine w_iald cx (hP _ _ (cM_A (n := 120) 9 (by decide) rfl rfl)) (3 * i + 2) (ix3 i 2 _ rfl) (by have h40 := hW.t; omega) (by decide) dX3_middle_29 ?_
  refine lv_istore (lv' := [(4, .int (ar S 9 (3 * i + 2))), (3, .int (ar S 9 (3 * i + 1))), (2, .int (ar S 9 (3 * i + 0))), (0, .ref (ad 0)), (1, .int (nI i))]) hx hb dX3_middle_30 hl (by decide) rfl (fun ls hl => ?_)
  refine lv_iload_n hx hb dX3_middle_32 rfl (lv_at hl 2 rfl) ?_
  refine lv_iload_n hx hb dX3_middle_33 rfl (lv_at hl 1 rfl) ?_
  refine lv_icmp_le (tgt := 41) hx hb dX3_middle_34 (by decide) (fun c_1 => ?_) (fun c_1 => ?_)
  · refine lv_iload_n hx hb dX3_middle_41 rfl (lv_at hl 1 rfl) ?_
    refine lv_istore (lv' := [(5, .int (ar S 9 (3 * i + 1))), (4, .int (ar S 9 (3 * i + 2))), (3, .int (ar S 9 (3 * i + 1))), (2, .int (ar S 9 (3 * i + 0))), (0, .ref (ad 0)), (1, .int (nI i))]) hx hb dX3_middle_42 hl (by decide) rfl (fun ls hl => ?_)
    refine lv_iload_n hx hb dX3_middle_44 rfl (lv_at hl 3 rfl) ?_
    refine lv_iload_n hx hb dX3_middle_45 rfl (lv_at hl 2 rfl) ?_
    refine lv_icmp_le (tgt := 53) hx hb dX3_middle_46 (by decide) (fun c_2 => ?_) (fun c_2 => ?_)
    · refine lv_iload_n hx hb dX3_middle_53 rfl (lv_at hl 3 rfl) ?_
      refine lv_istore (lv' := [(6, .int (ar S 9 (3 * i + 0))), (5, .int (ar S 9 (3 * i + 1))), (4, .int (ar S 9 (3 * i + 2))), (3, .int (ar S 9 (3 * i + 1))), (2, .int (ar S 9 (3 * i + 0))), (0, .ref (ad 0)), (1, .int (nI i))]) hx hb dX3_middle_54 hl (by decide) rfl (fun ls hl => ?_)
      refine lv_iload hx hb dX3_middle_56 (lv_at hl 2 rfl) ?_
      refine lv_iload hx hb dX3_middle_58 (lv_at hl 1 rfl) ?_
      refine lv_icmp_le (tgt := 68) hx hb dX3_middle_60 (by decide) (fun c_3 => ?_) (fun c_3 => ?_)
      · refine lv_iload hx hb dX3_middle_68 (lv_at hl 2 rfl) ?_
        refine lv_iload hx hb dX3_middle_70 (lv_at hl 0 rfl) ?_
        refine lv_icmp_ge (tgt := 80) hx hb dX3_middle_72 (by decide) (fun c_4 => ?_) (fun c_4 => ?_)
        · refine lv_iload hx hb dX3_middle_80 (lv_at hl 2 rfl) ?_
          exact r_int cx hr hlk (by rw [f_X3_middle, if_pos c_1, if_pos c_3, if_pos c_4]) dX3_middle_82
        · refine lv_iload hx hb dX3_middle_75 (lv_at hl 0 rfl) ?_
          refine lv_goto (tgt := 82) hx hb dX3_middle_77 (by decide) ?_
          exact r_int cx hr hlk (by rw [f_X3_middle, if_pos c_1, if_pos c_3, if_neg c_4]) dX3_middle_82
      · refine lv_iload hx hb dX3_middle_63 (lv_at hl 1 rfl) ?_
        refine lv_goto (tgt := 82) hx hb dX3_middle_65 (by decide) ?_
        exact r_int cx hr hlk (by rw [f_X3_middle, if_pos c_1, if_neg c_3]) dX3_middle_82
    · exact absurd c_1 c_2
  · refine lv_iload_n hx hb dX3_middle_37 rfl (lv_at hl 2 rfl) ?_
    refine lv_goto (tgt := 42) hx hb dX3_middle_38 (by decide) ?_
    refine lv_istore (lv' := [(5, .int (ar S 9 (3 * i + 0))), (4, .int (ar S 9 (3 * i + 2))), (3, .int (ar S 9 (3 * i + 1))), (2, .int (ar S 9 (3 * i + 0))), (0, .ref (ad 0)), (1, .int (nI i))]) hx hb dX3_middle_42 hl (by decide) rfl (fun ls hl => ?_)
    refine lv_iload_n hx hb dX3_middle_44 rfl (lv_at hl 3 rfl) ?_
    refine lv_iload_n hx hb dX3_middle_45 rfl (lv_at hl 2 rfl) ?_
    refine lv_icmp_le (tgt := 53) hx hb dX3_middle_46 (by decide) (fun c_5 => ?_) (fun c_5 => ?_)
    · exact absurd c_5 c_1
    · refine lv_iload_n hx hb dX3_middle_49 rfl (lv_at hl 2 rfl) ?_
      refine lv_goto (tgt := 54) hx hb dX3_middle_50 (by decide) ?_
      refine lv_istore (lv' := [(6, .int (ar S 9 (3 * i + 1))), (5, .int (ar S 9 (3 * i + 0))), (4, .int (ar S 9 (3 * i + 2))), (3, .int (ar S 9 (3 * i + 1))), (2, .int (ar S 9 (3 * i + 0))), (0, .ref (ad 0)), (1, .int (nI i))]) hx hb dX3_middle_54 hl (by decide) rfl (fun ls hl => ?_)
      refine lv_iload hx hb dX3_middle_56 (lv_at hl 2 rfl) ?_
      refine lv_iload hx hb dX3_middle_58 (lv_at hl 1 rfl) ?_
      refine lv_icmp_le (tgt := 68) hx hb dX3_middle_60 (by decide) (fun c_6 => ?_) (fun c_6 => ?_)
      · refine lv_iload hx hb dX3_middle_68 (lv_at hl 2 rfl) ?_
        refine lv_iload hx hb dX3_middle_70 (lv_at hl 0 rfl) ?_
        refine lv_icmp_ge (tgt := 80) hx hb dX3_middle_72 (by decide) (fun c_7 => ?_) (fun c_7 => ?_)
        · refine lv_iload hx hb dX3_middle_80 (lv_at hl 2 rfl) ?_
          exact r_int cx hr hlk (by rw [f_X3_middle, if_neg c_1, if_pos c_6, if_pos c_7]) dX3_middle_82
        · refine lv_iload hx hb dX3_middle_75 (lv_at hl 0 rfl) ?_
          refine lv_goto (tgt := 82) hx hb dX3_middle_77 (by decide) ?_
          exact r_int cx hr hlk (by rw [f_X3_middle, if_neg c_1, if_pos c_6, if_neg c_7]) dX3_middle_82
      · refine lv_iload hx hb dX3_middle_63 (lv_at hl 1 rfl) ?_
        refine lv_goto (tgt := 82) hx hb dX3_middle_65 (by decide) ?_
        exact r_int cx hr hlk (by rw [f_X3_middle, if_neg c_1, if_neg c_6]) dX3_middle_82
def f_X3_range (S : St) (i : Nat)  : Int32 :=
  if ar S 9 (3 * i + 1) ≤ ar S 9 (3 * i + 0) then (if ar S 9 (3 * i + 0) ≤ ar S 9 (3 * i + 1) then (if ar S 9 (3 * i + 2) ≤ ar S 9 (3 * i + 0) then (if ar S 9 (3 * i + 0) ≤ ar S 9 (3 * i + 2) then (ar S 9 (3 * i + 0)) - (ar S 9 (3 * i + 0))
        else (ar S 9 (3 * i + 0)) - (ar S 9 (3 * i + 2)))
      else if ar S 9 (3 * i + 0) ≤ ar S 9 (3 * i + 2) then (ar S 9 (3 * i + 2)) - (ar S 9 (3 * i + 0))
      else (ar S 9 (3 * i + 2)) - (ar S 9 (3 * i + 2)))
    else if ar S 9 (3 * i + 2) ≤ ar S 9 (3 * i + 0) then (if ar S 9 (3 * i + 1) ≤ ar S 9 (3 * i + 2) then (ar S 9 (3 * i + 0)) - (ar S 9 (3 * i + 1))
      else (ar S 9 (3 * i + 0)) - (ar S 9 (3 * i + 2)))
    else if ar S 9 (3 * i + 1) ≤ ar S 9 (3 * i + 2) then (ar S 9 (3 * i + 2)) - (ar S 9 (3 * i + 1))
    else (ar S 9 (3 * i + 2)) - (ar S 9 (3 * i + 2)))
  else if ar S 9 (3 * i + 0) ≤ ar S 9 (3 * i + 1) then (if ar S 9 (3 * i + 2) ≤ ar S 9 (3 * i + 1) then (if ar S 9 (3 * i + 0) ≤ ar S 9 (3 * i + 2) then (ar S 9 (3 * i + 1)) - (ar S 9 (3 * i + 0))
      else (ar S 9 (3 * i + 1)) - (ar S 9 (3 * i + 2)))
    else if ar S 9 (3 * i + 0) ≤ ar S 9 (3 * i + 2) then (ar S 9 (3 * i + 2)) - (ar S 9 (3 * i + 0))
    else (ar S 9 (3 * i + 2)) - (ar S 9 (3 * i + 2)))
  else if ar S 9 (3 * i + 2) ≤ ar S 9 (3 * i + 1) then (if ar S 9 (3 * i + 1) ≤ ar S 9 (3 * i + 2) then (ar S 9 (3 * i + 1)) - (ar S 9 (3 * i + 1))
    else (ar S 9 (3 * i + 1)) - (ar S 9 (3 * i + 2)))
  else if ar S 9 (3 * i + 1) ≤ ar S 9 (3 * i + 2) then (ar S 9 (3 * i + 2)) - (ar S 9 (3 * i + 1))
  else (ar S 9 (3 * i + 2)) - (ar S 9 (3 * i + 2))
set_option maxRecDepth 20000 in
theorem c_X3_range (l : Launch) (G : GG) (ad : Nat → Nat) (S : St) (hW : WF S) {i : Nat} (hi : i < nt S)  : MR l yX3_range cX3_range 5 (some .int) 0 0 G ad (cM G ad S) [.ref (ad 0), .int (nI i)] (some (.int (f_X3_range S i))) := by
  refine MR.of [(0, .ref (ad 0)), (1, .int (nI i))] (by decide) (Nat.le_of_ble_eq_true rfl) rfl ?_
  intro p e s m args below meth c cx hr hlk hP ls hl
  have hx := cx.1.1
  have hb := cx.1.2.1
  refine lv_aload_n hx hb dX3_range_0 rfl (lv_at hl 0 rfl) ?_
  refine w_get cx (ci := 3) rfl iX3 (hP _ _ cM_0) 11 (by decide) k_462 (v := .ref (ad 10)) rfl dX3_range_1 ?_
  refine lv_iconst (v := 3) hx hb dX3_range_4 (by decide) ?_
  refine lv_iload_n hx hb dX3_range_5 rfl (lv_at hl 1 rfl) ?_
  refine lv_imul hx hb dX3_range_6 ?_
  refine w_iald cx (hP _ _ (cM_A (n := 120) 9 (by decide) rfl rfl)) (3 * i + 0) (ix3_0 i) (by have h40 := hW.t; omega) (by decide) dX3_range_7 ?_
  refine lv_istore_n (lv' := [(2, .int (ar S 9 (3 * i + 0))), (0, .ref (ad 0)), (1, .int (nI i))]) hx hb dX3_range_8 rfl hl (by decide) rfl (fun ls hl => ?_)
  refine lv_iload_n hx hb dX3_range_9 rfl (lv_at hl 0 rfl) ?_
  refine lv_istore_n (lv' := [(3, .int (ar S 9 (3 * i + 0))), (2, .int (ar S 9 (3 * i + 0))), (0, .ref (ad 0)), (1, .int (nI i))]) hx hb dX3_range_10 rfl hl (by decide) rfl (fun ls hl => ?_)
  refine lv_iconst (v := 1) hx hb dX3_range_11 (by decide) ?_
  refine lv_istore (lv' := [(4, .int 1), (3, .int (ar S 9 (3 * i + 0))), (2, .int (ar S 9 (3 * i + 0))), (0, .ref (ad 0)), (1, .int (nI i))]) hx hb dX3_range_12 hl (by decide) rfl (fun ls hl => ?_)
  refine lv_iload hx hb dX3_range_14 (lv_at hl 0 rfl) ?_
  refine lv_iconst (v := 3) hx hb dX3_range_16 (by decide) ?_
  refine lv_icmp_ge (tgt := 88) hx hb dX3_range_17 (by decide) (fun c_1 => ?_) (fun c_1 => ?_)
  · exact absurd c_1 (by decide)
  · refine lv_aload_n hx hb dX3_range_20 rfl (lv_at hl 3 rfl) ?_
    refine w_get cx (ci := 3) rfl iX3 (hP _ _ cM_0) 11 (by decide) k_462 (v := .ref (ad 10)) rfl dX3_range_21 ?_
    refine lv_iconst (v := 3) hx hb dX3_range_24 (by decide) ?_
    refine lv_iload_n hx hb dX3_range_25 rfl (lv_at hl 4 rfl) ?_
    refine lv_imul hx hb dX3_range_26 ?_
    refine lv_iload hx hb dX3_range_27 (lv_at hl 0 rfl) ?_
    refine lv_iadd hx hb dX3_range_29 ?_
    refine w_iald cx (hP _ _ (cM_A (n := 120) 9 (by decide) rfl rfl)) (3 * i + 1) (ix3 i 1 _ rfl) (by have h40 := hW.t; omega) (by decide) dX3_range_30 ?_
    refine lv_iload_n hx hb dX3_range_31 rfl (lv_at hl 2 rfl) ?_
    refine lv_icmp_le (tgt := 49) hx hb dX3_range_32 (by decide) (fun c_2 => ?_) (fun c_2 => ?_)
    · refine lv_iload_n hx hb dX3_range_49 rfl (lv_at hl 2 rfl) ?_
      refine lv_istore_n (lv' := [(2, .int (ar S 9 (3 * i + 0))), (4, .int 1), (3, .int (ar S 9 (3 * i + 0))), (0, .ref (ad 0)), (1, .int (nI i))]) hx hb dX3_range_50 rfl hl (by decide) rfl (fun ls hl => ?_)
      refine lv_aload_n hx hb dX3_range_51 rfl (lv_at hl 3 rfl) ?_
      refine w_get cx (ci := 3) rfl iX3 (hP _ _ cM_0) 11 (by decide) k_462 (v := .ref (ad 10)) rfl dX3_range_52 ?_
      refine lv_iconst (v := 3) hx hb dX3_range_55 (by decide) ?_
      refine lv_iload_n hx hb dX3_range_56 rfl (lv_at hl 4 rfl) ?_
      refine lv_imul hx hb dX3_range_57 ?_
      refine lv_iload hx hb dX3_range_58 (lv_at hl 1 rfl) ?_
      refine lv_iadd hx hb dX3_range_60 ?_
      refine w_iald cx (hP _ _ (cM_A (n := 120) 9 (by decide) rfl rfl)) (3 * i + 1) (ix3 i 1 _ rfl) (by have h40 := hW.t; omega) (by decide) dX3_range_61 ?_
      refine lv_iload_n hx hb dX3_range_62 rfl (lv_at hl 2 rfl) ?_
      refine lv_icmp_ge (tgt := 80) hx hb dX3_range_63 (by decide) (fun c_3 => ?_) (fun c_3 => ?_)
      · refine lv_iload_n hx hb dX3_range_80 rfl (lv_at hl 2 rfl) ?_
        refine lv_istore_n (lv' := [(3, .int (ar S 9 (3 * i + 0))), (2, .int (ar S 9 (3 * i + 0))), (4, .int 1), (0, .ref (ad 0)), (1, .int (nI i))]) hx hb dX3_range_81 rfl hl (by decide) rfl (fun ls hl => ?_)
        refine lv_iinc (v := 2) (lv' := [(4, .int 2), (3, .int (ar S 9 (3 * i + 0))), (2, .int (ar S 9 (3 * i + 0))), (0, .ref (ad 0)), (1, .int (nI i))]) hx hb dX3_range_82 hl (k := 2) rfl (by decide) (by decide) rfl (fun ls hl => ?_)
        refine lv_goto (tgt := 14) hx hb dX3_range_85 (by decide) ?_
        refine lv_iload hx hb dX3_range_14 (lv_at hl 0 rfl) ?_
        refine lv_iconst (v := 3) hx hb dX3_range_16 (by decide) ?_
        refine lv_icmp_ge (tgt := 88) hx hb dX3_range_17 (by decide) (fun c_4 => ?_) (fun c_4 => ?_)
        · exact absurd c_4 (by decide)
        · refine lv_aload_n hx hb dX3_range_20 rfl (lv_at hl 3 rfl) ?_
          refine w_get cx (ci := 3) rfl iX3 (hP _ _ cM_0) 11 (by decide) k_462 (v := .ref (ad 10)) rfl dX3_range_21 ?_
          refine lv_iconst (v := 3) hx hb dX3_range_24 (by decide) ?_
          refine lv_iload_n hx hb dX3_range_25 rfl (lv_at hl 4 rfl) ?_
          refine lv_imul hx hb dX3_range_26 ?_
          refine lv_iload hx hb dX3_range_27 (lv_at hl 0 rfl) ?_
          refine lv_iadd hx hb dX3_range_29 ?_
          refine w_iald cx (hP _ _ (cM_A (n := 120) 9 (by decide) rfl rfl)) (3 * i + 2) (ix3 i 2 _ rfl) (by have h40 := hW.t; omega) (by decide) dX3_range_30 ?_
          refine lv_iload_n hx hb dX3_range_31 rfl (lv_at hl 2 rfl) ?_
          refine lv_icmp_le (tgt := 49) hx hb dX3_range_32 (by decide) (fun c_5 => ?_) (fun c_5 => ?_)
          · refine lv_iload_n hx hb dX3_range_49 rfl (lv_at hl 2 rfl) ?_
            refine lv_istore_n (lv' := [(2, .int (ar S 9 (3 * i + 0))), (4, .int 2), (3, .int (ar S 9 (3 * i + 0))), (0, .ref (ad 0)), (1, .int (nI i))]) hx hb dX3_range_50 rfl hl (by decide) rfl (fun ls hl => ?_)
            refine lv_aload_n hx hb dX3_range_51 rfl (lv_at hl 3 rfl) ?_
            refine w_get cx (ci := 3) rfl iX3 (hP _ _ cM_0) 11 (by decide) k_462 (v := .ref (ad 10)) rfl dX3_range_52 ?_
            refine lv_iconst (v := 3) hx hb dX3_range_55 (by decide) ?_
            refine lv_iload_n hx hb dX3_range_56 rfl (lv_at hl 4 rfl) ?_
            refine lv_imul hx hb dX3_range_57 ?_
            refine lv_iload hx hb dX3_range_58 (lv_at hl 1 rfl) ?_
            refine lv_iadd hx hb dX3_range_60 ?_
            refine w_iald cx (hP _ _ (cM_A (n := 120) 9 (by decide) rfl rfl)) (3 * i + 2) (ix3 i 2 _ rfl) (by have h40 := hW.t; omega) (by decide) dX3_range_61 ?_
            refine lv_iload_n hx hb dX3_range_62 rfl (lv_at hl 2 rfl) ?_
            refine lv_icmp_ge (tgt := 80) hx hb dX3_range_63 (by decide) (fun c_6 => ?_) (fun c_6 => ?_)
            · refine lv_iload_n hx hb dX3_range_80 rfl (lv_at hl 2 rfl) ?_
              refine lv_istore_n (lv' := [(3, .int (ar S 9 (3 * i + 0))), (2, .int (ar S 9 (3 * i + 0))), (4, .int 2), (0, .ref (ad 0)), (1, .int (nI i))]) hx hb dX3_range_81 rfl hl (by decide) rfl (fun ls hl => ?_)
              refine lv_iinc (v := 3) (lv' := [(4, .int 3), (3, .int (ar S 9 (3 * i + 0))), (2, .int (ar S 9 (3 * i + 0))), (0, .ref (ad 0)), (1, .int (nI i))]) hx hb dX3_range_82 hl (k := 2) rfl (by decide) (by decide) rfl (fun ls hl => ?_)
              refine lv_goto (tgt := 14) hx hb dX3_range_85 (by decide) ?_
              refine lv_iload hx hb dX3_range_14 (lv_at hl 0 rfl) ?_
              refine lv_iconst (v := 3) hx hb dX3_range_16 (by decide) ?_
              refine lv_icmp_ge (tgt := 88) hx hb dX3_range_17 (by decide) (fun c_7 => ?_) (fun c_7 => ?_)
              · refine lv_iload_n hx hb dX3_range_88 rfl (lv_at hl 2 rfl) ?_
                refine lv_iload_n hx hb dX3_range_89 rfl (lv_at hl 1 rfl) ?_
                refine lv_isub hx hb dX3_range_90 ?_
                exact r_int cx hr hlk (by rw [f_X3_range, if_pos c_2, if_pos c_3, if_pos c_5, if_pos c_6]) dX3_range_91
              · exact absurd (by decide) c_7
            · refine lv_aload_n hx hb dX3_range_66 rfl (lv_at hl 3 rfl) ?_
              refine w_get cx (ci := 3) rfl iX3 (hP _ _ cM_0) 11 (by decide) k_462 (v := .ref (ad 10)) rfl dX3_range_67 ?_
              refine lv_iconst (v := 3) hx hb dX3_range_70 (by decide) ?_
              refine lv_iload_n hx hb dX3_range_71 rfl (lv_at hl 4 rfl) ?_
              refine lv_imul hx hb dX3_range_72 ?_
              refine lv_iload hx hb dX3_range_73 (lv_at hl 1 rfl) ?_
              refine lv_iadd hx hb dX3_range_75 ?_
              refine w_iald cx (hP _ _ (cM_A (n := 120) 9 (by decide) rfl rfl)) (3 * i + 2) (ix3 i 2 _ rfl) (by have h40 := hW.t; omega) (by decide) dX3_range_76 ?_
              refine lv_goto (tgt := 81) hx hb dX3_range_77 (by decide) ?_
              refine lv_istore_n (lv' := [(3, .int (ar S 9 (3 * i + 2))), (2, .int (ar S 9 (3 * i + 0))), (4, .int 2), (0, .ref (ad 0)), (1, .int (nI i))]) hx hb dX3_range_81 rfl hl (by decide) rfl (fun ls hl => ?_)
              refine lv_iinc (v := 3) (lv' := [(4, .int 3), (3, .int (ar S 9 (3 * i + 2))), (2, .int (ar S 9 (3 * i + 0))), (0, .ref (ad 0)), (1, .int (nI i))]) hx hb dX3_range_82 hl (k := 2) rfl (by decide) (by decide) rfl (fun ls hl => ?_)
              refine lv_goto (tgt := 14) hx hb dX3_range_85 (by decide) ?_
              refine lv_iload hx hb dX3_range_14 (lv_at hl 0 rfl) ?_
              refine lv_iconst (v := 3) hx hb dX3_range_16 (by decide) ?_
              refine lv_icmp_ge (tgt := 88) hx hb dX3_range_17 (by decide) (fun c_8 => ?_) (fun c_8 => ?_)
              · refine lv_iload_n hx hb dX3_range_88 rfl (lv_at hl 2 rfl) ?_
                refine lv_iload_n hx hb dX3_range_89 rfl (lv_at hl 1 rfl) ?_
                refine lv_isub hx hb dX3_range_90 ?_
                exact r_int cx hr hlk (by rw [f_X3_range, if_pos c_2, if_pos c_3, if_pos c_5, if_neg c_6]) dX3_range_91
              · exact absurd (by decide) c_8
          · refine lv_aload_n hx hb dX3_range_35 rfl (lv_at hl 3 rfl) ?_
            refine w_get cx (ci := 3) rfl iX3 (hP _ _ cM_0) 11 (by decide) k_462 (v := .ref (ad 10)) rfl dX3_range_36 ?_
            refine lv_iconst (v := 3) hx hb dX3_range_39 (by decide) ?_
            refine lv_iload_n hx hb dX3_range_40 rfl (lv_at hl 4 rfl) ?_
            refine lv_imul hx hb dX3_range_41 ?_
            refine lv_iload hx hb dX3_range_42 (lv_at hl 0 rfl) ?_
            refine lv_iadd hx hb dX3_range_44 ?_
            refine w_iald cx (hP _ _ (cM_A (n := 120) 9 (by decide) rfl rfl)) (3 * i + 2) (ix3 i 2 _ rfl) (by have h40 := hW.t; omega) (by decide) dX3_range_45 ?_
            refine lv_goto (tgt := 50) hx hb dX3_range_46 (by decide) ?_
            refine lv_istore_n (lv' := [(2, .int (ar S 9 (3 * i + 2))), (4, .int 2), (3, .int (ar S 9 (3 * i + 0))), (0, .ref (ad 0)), (1, .int (nI i))]) hx hb dX3_range_50 rfl hl (by decide) rfl (fun ls hl => ?_)
            refine lv_aload_n hx hb dX3_range_51 rfl (lv_at hl 3 rfl) ?_
            refine w_get cx (ci := 3) rfl iX3 (hP _ _ cM_0) 11 (by decide) k_462 (v := .ref (ad 10)) rfl dX3_range_52 ?_
            refine lv_iconst (v := 3) hx hb dX3_range_55 (by decide) ?_
            refine lv_iload_n hx hb dX3_range_56 rfl (lv_at hl 4 rfl) ?_
            refine lv_imul hx hb dX3_range_57 ?_
            refine lv_iload hx hb dX3_range_58 (lv_at hl 1 rfl) ?_
            refine lv_iadd hx hb dX3_range_60 ?_
            refine w_iald cx (hP _ _ (cM_A (n := 120) 9 (by decide) rfl rfl)) (3 * i + 2) (ix3 i 2 _ rfl) (by have h40 := hW.t; omega) (by decide) dX3_range_61 ?_
            refine lv_iload_n hx hb dX3_range_62 rfl (lv_at hl 2 rfl) ?_
            refine lv_icmp_ge (tgt := 80) hx hb dX3_range_63 (by decide) (fun c_9 => ?_) (fun c_9 => ?_)
            · refine lv_iload_n hx hb dX3_range_80 rfl (lv_at hl 2 rfl) ?_
              refine lv_istore_n (lv' := [(3, .int (ar S 9 (3 * i + 0))), (2, .int (ar S 9 (3 * i + 2))), (4, .int 2), (0, .ref (ad 0)), (1, .int (nI i))]) hx hb dX3_range_81 rfl hl (by decide) rfl (fun ls hl => ?_)
              refine lv_iinc (v := 3) (lv' := [(4, .int 3), (3, .int (ar S 9 (3 * i + 0))), (2, .int (ar S 9 (3 * i + 2))), (0, .ref (ad 0)), (1, .int (nI i))]) hx hb dX3_range_82 hl (k := 2) rfl (by decide) (by decide) rfl (fun ls hl => ?_)
              refine lv_goto (tgt := 14) hx hb dX3_range_85 (by decide) ?_
              refine lv_iload hx hb dX3_range_14 (lv_at hl 0 rfl) ?_
              refine lv_iconst (v := 3) hx hb dX3_range_16 (by decide) ?_
              refine lv_icmp_ge (tgt := 88) hx hb dX3_range_17 (by decide) (fun c_10 => ?_) (fun c_10 => ?_)
              · refine lv_iload_n hx hb dX3_range_88 rfl (lv_at hl 2 rfl) ?_
                refine lv_iload_n hx hb dX3_range_89 rfl (lv_at hl 1 rfl) ?_
                refine lv_isub hx hb dX3_range_90 ?_
                exact r_int cx hr hlk (by rw [f_X3_range, if_pos c_2, if_pos c_3, if_neg c_5, if_pos c_9]) dX3_range_91
              · exact absurd (by decide) c_10
            · refine lv_aload_n hx hb dX3_range_66 rfl (lv_at hl 3 rfl) ?_
              refine w_get cx (ci := 3) rfl iX3 (hP _ _ cM_0) 11 (by decide) k_462 (v := .ref (ad 10)) rfl dX3_range_67 ?_
              refine lv_iconst (v := 3) hx hb dX3_range_70 (by decide) ?_
              refine lv_iload_n hx hb dX3_range_71 rfl (lv_at hl 4 rfl) ?_
              refine lv_imul hx hb dX3_range_72 ?_
              refine lv_iload hx hb dX3_range_73 (lv_at hl 1 rfl) ?_
              refine lv_iadd hx hb dX3_range_75 ?_
              refine w_iald cx (hP _ _ (cM_A (n := 120) 9 (by decide) rfl rfl)) (3 * i + 2) (ix3 i 2 _ rfl) (by have h40 := hW.t; omega) (by decide) dX3_range_76 ?_
              refine lv_goto (tgt := 81) hx hb dX3_range_77 (by decide) ?_
              refine lv_istore_n (lv' := [(3, .int (ar S 9 (3 * i + 2))), (2, .int (ar S 9 (3 * i + 2))), (4, .int 2), (0, .ref (ad 0)), (1, .int (nI i))]) hx hb dX3_range_81 rfl hl (by decide) rfl (fun ls hl => ?_)
              refine lv_iinc (v := 3) (lv' := [(4, .int 3), (3, .int (ar S 9 (3 * i + 2))), (2, .int (ar S 9 (3 * i + 2))), (0, .ref (ad 0)), (1, .int (nI i))]) hx hb dX3_range_82 hl (k := 2) rfl (by decide) (by decide) rfl (fun ls hl => ?_)
              refine lv_goto (tgt := 14) hx hb dX3_range_85 (by decide) ?_
              refine lv_iload hx hb dX3_range_14 (lv_at hl 0 rfl) ?_
              refine lv_iconst (v := 3) hx hb dX3_range_16 (by decide) ?_
              refine lv_icmp_ge (tgt := 88) hx hb dX3_range_17 (by decide) (fun c_11 => ?_) (fun c_11 => ?_)
              · refine lv_iload_n hx hb dX3_range_88 rfl (lv_at hl 2 rfl) ?_
                refine lv_iload_n hx hb dX3_range_89 rfl (lv_at hl 1 rfl) ?_
                refine lv_isub hx hb dX3_range_90 ?_
                exact r_int cx hr hlk (by rw [f_X3_range, if_pos c_2, if_pos c_3, if_neg c_5, if_neg c_9]) dX3_range_91
              · exact absurd (by decide) c_11
      · refine lv_aload_n hx hb dX3_range_66 rfl (lv_at hl 3 rfl) ?_
        refine w_get cx (ci := 3) rfl iX3 (hP _ _ cM_0) 11 (by decide) k_462 (v := .ref (ad 10)) rfl dX3_range_67 ?_
        refine lv_iconst (v := 3) hx hb dX3_range_70 (by decide) ?_
        refine lv_iload_n hx hb dX3_range_71 rfl (lv_at hl 4 rfl) ?_
        refine lv_imul hx hb dX3_range_72 ?_
        refine lv_iload hx hb dX3_range_73 (lv_at hl 1 rfl) ?_
        refine lv_iadd hx hb dX3_range_75 ?_
        refine w_iald cx (hP _ _ (cM_A (n := 120) 9 (by decide) rfl rfl)) (3 * i + 1) (ix3 i 1 _ rfl) (by have h40 := hW.t; omega) (by decide) dX3_range_76 ?_
        refine lv_goto (tgt := 81) hx hb dX3_range_77 (by decide) ?_
        refine lv_istore_n (lv' := [(3, .int (ar S 9 (3 * i + 1))), (2, .int (ar S 9 (3 * i + 0))), (4, .int 1), (0, .ref (ad 0)), (1, .int (nI i))]) hx hb dX3_range_81 rfl hl (by decide) rfl (fun ls hl => ?_)
        refine lv_iinc (v := 2) (lv' := [(4, .int 2), (3, .int (ar S 9 (3 * i + 1))), (2, .int (ar S 9 (3 * i + 0))), (0, .ref (ad 0)), (1, .int (nI i))]) hx hb dX3_range_82 hl (k := 2) rfl (by decide) (by decide) rfl (fun ls hl => ?_)
        refine lv_goto (tgt := 14) hx hb dX3_range_85 (by decide) ?_
        refine lv_iload hx hb dX3_range_14 (lv_at hl 0 rfl) ?_
        refine lv_iconst (v := 3) hx hb dX3_range_16 (by decide) ?_
        refine lv_icmp_ge (tgt := 88) hx hb dX3_range_17 (by decide) (fun c_12 => ?_) (fun c_12 => ?_)
        · exact absurd c_12 (by decide)
        · refine lv_aload_n hx hb dX3_range_20 rfl (lv_at hl 3 rfl) ?_
          refine w_get cx (ci := 3) rfl iX3 (hP _ _ cM_0) 11 (by decide) k_462 (v := .ref (ad 10)) rfl dX3_range_21 ?_
          refine lv_iconst (v := 3) hx hb dX3_range_24 (by decide) ?_
          refine lv_iload_n hx hb dX3_range_25 rfl (lv_at hl 4 rfl) ?_
          refine lv_imul hx hb dX3_range_26 ?_
          refine lv_iload hx hb dX3_range_27 (lv_at hl 0 rfl) ?_
          refine lv_iadd hx hb dX3_range_29 ?_
          refine w_iald cx (hP _ _ (cM_A (n := 120) 9 (by decide) rfl rfl)) (3 * i + 2) (ix3 i 2 _ rfl) (by have h40 := hW.t; omega) (by decide) dX3_range_30 ?_
          refine lv_iload_n hx hb dX3_range_31 rfl (lv_at hl 2 rfl) ?_
          refine lv_icmp_le (tgt := 49) hx hb dX3_range_32 (by decide) (fun c_13 => ?_) (fun c_13 => ?_)
          · refine lv_iload_n hx hb dX3_range_49 rfl (lv_at hl 2 rfl) ?_
            refine lv_istore_n (lv' := [(2, .int (ar S 9 (3 * i + 0))), (4, .int 2), (3, .int (ar S 9 (3 * i + 1))), (0, .ref (ad 0)), (1, .int (nI i))]) hx hb dX3_range_50 rfl hl (by decide) rfl (fun ls hl => ?_)
            refine lv_aload_n hx hb dX3_range_51 rfl (lv_at hl 3 rfl) ?_
            refine w_get cx (ci := 3) rfl iX3 (hP _ _ cM_0) 11 (by decide) k_462 (v := .ref (ad 10)) rfl dX3_range_52 ?_
            refine lv_iconst (v := 3) hx hb dX3_range_55 (by decide) ?_
            refine lv_iload_n hx hb dX3_range_56 rfl (lv_at hl 4 rfl) ?_
            refine lv_imul hx hb dX3_range_57 ?_
            refine lv_iload hx hb dX3_range_58 (lv_at hl 1 rfl) ?_
            refine lv_iadd hx hb dX3_range_60 ?_
            refine w_iald cx (hP _ _ (cM_A (n := 120) 9 (by decide) rfl rfl)) (3 * i + 2) (ix3 i 2 _ rfl) (by have h40 := hW.t; omega) (by decide) dX3_range_61 ?_
            refine lv_iload_n hx hb dX3_range_62 rfl (lv_at hl 2 rfl) ?_
            refine lv_icmp_ge (tgt := 80) hx hb dX3_range_63 (by decide) (fun c_14 => ?_) (fun c_14 => ?_)
            · refine lv_iload_n hx hb dX3_range_80 rfl (lv_at hl 2 rfl) ?_
              refine lv_istore_n (lv' := [(3, .int (ar S 9 (3 * i + 1))), (2, .int (ar S 9 (3 * i + 0))), (4, .int 2), (0, .ref (ad 0)), (1, .int (nI i))]) hx hb dX3_range_81 rfl hl (by decide) rfl (fun ls hl => ?_)
              refine lv_iinc (v := 3) (lv' := [(4, .int 3), (3, .int (ar S 9 (3 * i + 1))), (2, .int (ar S 9 (3 * i + 0))), (0, .ref (ad 0)), (1, .int (nI i))]) hx hb dX3_range_82 hl (k := 2) rfl (by decide) (by decide) rfl (fun ls hl => ?_)
              refine lv_goto (tgt := 14) hx hb dX3_range_85 (by decide) ?_
              refine lv_iload hx hb dX3_range_14 (lv_at hl 0 rfl) ?_
              refine lv_iconst (v := 3) hx hb dX3_range_16 (by decide) ?_
              refine lv_icmp_ge (tgt := 88) hx hb dX3_range_17 (by decide) (fun c_15 => ?_) (fun c_15 => ?_)
              · refine lv_iload_n hx hb dX3_range_88 rfl (lv_at hl 2 rfl) ?_
                refine lv_iload_n hx hb dX3_range_89 rfl (lv_at hl 1 rfl) ?_
                refine lv_isub hx hb dX3_range_90 ?_
                exact r_int cx hr hlk (by rw [f_X3_range, if_pos c_2, if_neg c_3, if_pos c_13, if_pos c_14]) dX3_range_91
              · exact absurd (by decide) c_15
            · refine lv_aload_n hx hb dX3_range_66 rfl (lv_at hl 3 rfl) ?_
              refine w_get cx (ci := 3) rfl iX3 (hP _ _ cM_0) 11 (by decide) k_462 (v := .ref (ad 10)) rfl dX3_range_67 ?_
              refine lv_iconst (v := 3) hx hb dX3_range_70 (by decide) ?_
              refine lv_iload_n hx hb dX3_range_71 rfl (lv_at hl 4 rfl) ?_
              refine lv_imul hx hb dX3_range_72 ?_
              refine lv_iload hx hb dX3_range_73 (lv_at hl 1 rfl) ?_
              refine lv_iadd hx hb dX3_range_75 ?_
              refine w_iald cx (hP _ _ (cM_A (n := 120) 9 (by decide) rfl rfl)) (3 * i + 2) (ix3 i 2 _ rfl) (by have h40 := hW.t; omega) (by decide) dX3_range_76 ?_
              refine lv_goto (tgt := 81) hx hb dX3_range_77 (by decide) ?_
              refine lv_istore_n (lv' := [(3, .int (ar S 9 (3 * i + 2))), (2, .int (ar S 9 (3 * i + 0))), (4, .int 2), (0, .ref (ad 0)), (1, .int (nI i))]) hx hb dX3_range_81 rfl hl (by decide) rfl (fun ls hl => ?_)
              refine lv_iinc (v := 3) (lv' := [(4, .int 3), (3, .int (ar S 9 (3 * i + 2))), (2, .int (ar S 9 (3 * i + 0))), (0, .ref (ad 0)), (1, .int (nI i))]) hx hb dX3_range_82 hl (k := 2) rfl (by decide) (by decide) rfl (fun ls hl => ?_)
              refine lv_goto (tgt := 14) hx hb dX3_range_85 (by decide) ?_
              refine lv_iload hx hb dX3_range_14 (lv_at hl 0 rfl) ?_
              refine lv_iconst (v := 3) hx hb dX3_range_16 (by decide) ?_
              refine lv_icmp_ge (tgt := 88) hx hb dX3_range_17 (by decide) (fun c_16 => ?_) (fun c_16 => ?_)
              · refine lv_iload_n hx hb dX3_range_88 rfl (lv_at hl 2 rfl) ?_
                refine lv_iload_n hx hb dX3_range_89 rfl (lv_at hl 1 rfl) ?_
                refine lv_isub hx hb dX3_range_90 ?_
                exact r_int cx hr hlk (by rw [f_X3_range, if_pos c_2, if_neg c_3, if_pos c_13, if_neg c_14]) dX3_range_91
              · exact absurd (by decide) c_16
          · refine lv_aload_n hx hb dX3_range_35 rfl (lv_at hl 3 rfl) ?_
            refine w_get cx (ci := 3) rfl iX3 (hP _ _ cM_0) 11 (by decide) k_462 (v := .ref (ad 10)) rfl dX3_range_36 ?_
            refine lv_iconst (v := 3) hx hb dX3_range_39 (by decide) ?_
            refine lv_iload_n hx hb dX3_range_40 rfl (lv_at hl 4 rfl) ?_
            refine lv_imul hx hb dX3_range_41 ?_
            refine lv_iload hx hb dX3_range_42 (lv_at hl 0 rfl) ?_
            refine lv_iadd hx hb dX3_range_44 ?_
            refine w_iald cx (hP _ _ (cM_A (n := 120) 9 (by decide) rfl rfl)) (3 * i + 2) (ix3 i 2 _ rfl) (by have h40 := hW.t; omega) (by decide) dX3_range_45 ?_
            refine lv_goto (tgt := 50) hx hb dX3_range_46 (by decide) ?_
            refine lv_istore_n (lv' := [(2, .int (ar S 9 (3 * i + 2))), (4, .int 2), (3, .int (ar S 9 (3 * i + 1))), (0, .ref (ad 0)), (1, .int (nI i))]) hx hb dX3_range_50 rfl hl (by decide) rfl (fun ls hl => ?_)
            refine lv_aload_n hx hb dX3_range_51 rfl (lv_at hl 3 rfl) ?_
            refine w_get cx (ci := 3) rfl iX3 (hP _ _ cM_0) 11 (by decide) k_462 (v := .ref (ad 10)) rfl dX3_range_52 ?_
            refine lv_iconst (v := 3) hx hb dX3_range_55 (by decide) ?_
            refine lv_iload_n hx hb dX3_range_56 rfl (lv_at hl 4 rfl) ?_
            refine lv_imul hx hb dX3_range_57 ?_
            refine lv_iload hx hb dX3_range_58 (lv_at hl 1 rfl) ?_
            refine lv_iadd hx hb dX3_range_60 ?_
            refine w_iald cx (hP _ _ (cM_A (n := 120) 9 (by decide) rfl rfl)) (3 * i + 2) (ix3 i 2 _ rfl) (by have h40 := hW.t; omega) (by decide) dX3_range_61 ?_
            refine lv_iload_n hx hb dX3_range_62 rfl (lv_at hl 2 rfl) ?_
            refine lv_icmp_ge (tgt := 80) hx hb dX3_range_63 (by decide) (fun c_17 => ?_) (fun c_17 => ?_)
            · refine lv_iload_n hx hb dX3_range_80 rfl (lv_at hl 2 rfl) ?_
              refine lv_istore_n (lv' := [(3, .int (ar S 9 (3 * i + 1))), (2, .int (ar S 9 (3 * i + 2))), (4, .int 2), (0, .ref (ad 0)), (1, .int (nI i))]) hx hb dX3_range_81 rfl hl (by decide) rfl (fun ls hl => ?_)
              refine lv_iinc (v := 3) (lv' := [(4, .int 3), (3, .int (ar S 9 (3 * i + 1))), (2, .int (ar S 9 (3 * i + 2))), (0, .ref (ad 0)), (1, .int (nI i))]) hx hb dX3_range_82 hl (k := 2) rfl (by decide) (by decide) rfl (fun ls hl => ?_)
              refine lv_goto (tgt := 14) hx hb dX3_range_85 (by decide) ?_
              refine lv_iload hx hb dX3_range_14 (lv_at hl 0 rfl) ?_
              refine lv_iconst (v := 3) hx hb dX3_range_16 (by decide) ?_
              refine lv_icmp_ge (tgt := 88) hx hb dX3_range_17 (by decide) (fun c_18 => ?_) (fun c_18 => ?_)
              · refine lv_iload_n hx hb dX3_range_88 rfl (lv_at hl 2 rfl) ?_
                refine lv_iload_n hx hb dX3_range_89 rfl (lv_at hl 1 rfl) ?_
                refine lv_isub hx hb dX3_range_90 ?_
                exact r_int cx hr hlk (by rw [f_X3_range, if_pos c_2, if_neg c_3, if_neg c_13, if_pos c_17]) dX3_range_91
              · exact absurd (by decide) c_18
            · refine lv_aload_n hx hb dX3_range_66 rfl (lv_at hl 3 rfl) ?_
              refine w_get cx (ci := 3) rfl iX3 (hP _ _ cM_0) 11 (by decide) k_462 (v := .ref (ad 10)) rfl dX3_range_67 ?_
              refine lv_iconst (v := 3) hx hb dX3_range_70 (by decide) ?_
              refine lv_iload_n hx hb dX3_range_71 rfl (lv_at hl 4 rfl) ?_
              refine lv_imul hx hb dX3_range_72 ?_
              refine lv_iload hx hb dX3_range_73 (lv_at hl 1 rfl) ?_
              refine lv_iadd hx hb dX3_range_75 ?_
              refine w_iald cx (hP _ _ (cM_A (n := 120) 9 (by decide) rfl rfl)) (3 * i + 2) (ix3 i 2 _ rfl) (by have h40 := hW.t; omega) (by decide) dX3_range_76 ?_
              refine lv_goto (tgt := 81) hx hb dX3_range_77 (by decide) ?_
              refine lv_istore_n (lv' := [(3, .int (ar S 9 (3 * i + 2))), (2, .int (ar S 9 (3 * i + 2))), (4, .int 2), (0, .ref (ad 0)), (1, .int (nI i))]) hx hb dX3_range_81 rfl hl (by decide) rfl (fun ls hl => ?_)
              refine lv_iinc (v := 3) (lv' := [(4, .int 3), (3, .int (ar S 9 (3 * i + 2))), (2, .int (ar S 9 (3 * i + 2))), (0, .ref (ad 0)), (1, .int (nI i))]) hx hb dX3_range_82 hl (k := 2) rfl (by decide) (by decide) rfl (fun ls hl => ?_)
              refine lv_goto (tgt := 14) hx hb dX3_range_85 (by decide) ?_
              refine lv_iload hx hb dX3_range_14 (lv_at hl 0 rfl) ?_
              refine lv_iconst (v := 3) hx hb dX3_range_16 (by decide) ?_
              refine lv_icmp_ge (tgt := 88) hx hb dX3_range_17 (by decide) (fun c_19 => ?_) (fun c_19 => ?_)
              · refine lv_iload_n hx hb dX3_range_88 rfl (lv_at hl 2 rfl) ?_
                refine lv_iload_n hx hb dX3_range_89 rfl (lv_at hl 1 rfl) ?_
                refine lv_isub hx hb dX3_range_90 ?_
                exact r_int cx hr hlk (by rw [f_X3_range, if_pos c_2, if_neg c_3, if_neg c_13, if_neg c_17]) dX3_range_91
              · exact absurd (by decide) c_19
    · refine lv_aload_n hx hb dX3_range_35 rfl (lv_at hl 3 rfl) ?_
      refine w_get cx (ci := 3) rfl iX3 (hP _ _ cM_0) 11 (by decide) k_462 (v := .ref (ad 10)) rfl dX3_range_36 ?_
      refine lv_iconst (v := 3) hx hb dX3_range_39 (by decide) ?_
      refine lv_iload_n hx hb dX3_range_40 rfl (lv_at hl 4 rfl) ?_
      refine lv_imul hx hb dX3_range_41 ?_
      refine lv_iload hx hb dX3_range_42 (lv_at hl 0 rfl) ?_
      refine lv_iadd hx hb dX3_range_44 ?_
      refine w_iald cx (hP _ _ (cM_A (n := 120) 9 (by decide) rfl rfl)) (3 * i + 1) (ix3 i 1 _ rfl) (by have h40 := hW.t; omega) (by decide) dX3_range_45 ?_
      refine lv_goto (tgt := 50) hx hb dX3_range_46 (by decide) ?_
      refine lv_istore_n (lv' := [(2, .int (ar S 9 (3 * i + 1))), (4, .int 1), (3, .int (ar S 9 (3 * i + 0))), (0, .ref (ad 0)), (1, .int (nI i))]) hx hb dX3_range_50 rfl hl (by decide) rfl (fun ls hl => ?_)
      refine lv_aload_n hx hb dX3_range_51 rfl (lv_at hl 3 rfl) ?_
      refine w_get cx (ci := 3) rfl iX3 (hP _ _ cM_0) 11 (by decide) k_462 (v := .ref (ad 10)) rfl dX3_range_52 ?_
      refine lv_iconst (v := 3) hx hb dX3_range_55 (by decide) ?_
      refine lv_iload_n hx hb dX3_range_56 rfl (lv_at hl 4 rfl) ?_
      refine lv_imul hx hb dX3_range_57 ?_
      refine lv_iload hx hb dX3_range_58 (lv_at hl 1 rfl) ?_
      refine lv_iadd hx hb dX3_range_60 ?_
      refine w_iald cx (hP _ _ (cM_A (n := 120) 9 (by decide) rfl rfl)) (3 * i + 1) (ix3 i 1 _ rfl) (by have h40 := hW.t; omega) (by decide) dX3_range_61 ?_
      refine lv_iload_n hx hb dX3_range_62 rfl (lv_at hl 2 rfl) ?_
      refine lv_icmp_ge (tgt := 80) hx hb dX3_range_63 (by decide) (fun c_20 => ?_) (fun c_20 => ?_)
      · refine lv_iload_n hx hb dX3_range_80 rfl (lv_at hl 2 rfl) ?_
        refine lv_istore_n (lv' := [(3, .int (ar S 9 (3 * i + 0))), (2, .int (ar S 9 (3 * i + 1))), (4, .int 1), (0, .ref (ad 0)), (1, .int (nI i))]) hx hb dX3_range_81 rfl hl (by decide) rfl (fun ls hl => ?_)
        refine lv_iinc (v := 2) (lv' := [(4, .int 2), (3, .int (ar S 9 (3 * i + 0))), (2, .int (ar S 9 (3 * i + 1))), (0, .ref (ad 0)), (1, .int (nI i))]) hx hb dX3_range_82 hl (k := 2) rfl (by decide) (by decide) rfl (fun ls hl => ?_)
        refine lv_goto (tgt := 14) hx hb dX3_range_85 (by decide) ?_
        refine lv_iload hx hb dX3_range_14 (lv_at hl 0 rfl) ?_
        refine lv_iconst (v := 3) hx hb dX3_range_16 (by decide) ?_
        refine lv_icmp_ge (tgt := 88) hx hb dX3_range_17 (by decide) (fun c_21 => ?_) (fun c_21 => ?_)
        · exact absurd c_21 (by decide)
        · refine lv_aload_n hx hb dX3_range_20 rfl (lv_at hl 3 rfl) ?_
          refine w_get cx (ci := 3) rfl iX3 (hP _ _ cM_0) 11 (by decide) k_462 (v := .ref (ad 10)) rfl dX3_range_21 ?_
          refine lv_iconst (v := 3) hx hb dX3_range_24 (by decide) ?_
          refine lv_iload_n hx hb dX3_range_25 rfl (lv_at hl 4 rfl) ?_
          refine lv_imul hx hb dX3_range_26 ?_
          refine lv_iload hx hb dX3_range_27 (lv_at hl 0 rfl) ?_
          refine lv_iadd hx hb dX3_range_29 ?_
          refine w_iald cx (hP _ _ (cM_A (n := 120) 9 (by decide) rfl rfl)) (3 * i + 2) (ix3 i 2 _ rfl) (by have h40 := hW.t; omega) (by decide) dX3_range_30 ?_
          refine lv_iload_n hx hb dX3_range_31 rfl (lv_at hl 2 rfl) ?_
          refine lv_icmp_le (tgt := 49) hx hb dX3_range_32 (by decide) (fun c_22 => ?_) (fun c_22 => ?_)
          · refine lv_iload_n hx hb dX3_range_49 rfl (lv_at hl 2 rfl) ?_
            refine lv_istore_n (lv' := [(2, .int (ar S 9 (3 * i + 1))), (4, .int 2), (3, .int (ar S 9 (3 * i + 0))), (0, .ref (ad 0)), (1, .int (nI i))]) hx hb dX3_range_50 rfl hl (by decide) rfl (fun ls hl => ?_)
            refine lv_aload_n hx hb dX3_range_51 rfl (lv_at hl 3 rfl) ?_
            refine w_get cx (ci := 3) rfl iX3 (hP _ _ cM_0) 11 (by decide) k_462 (v := .ref (ad 10)) rfl dX3_range_52 ?_
            refine lv_iconst (v := 3) hx hb dX3_range_55 (by decide) ?_
            refine lv_iload_n hx hb dX3_range_56 rfl (lv_at hl 4 rfl) ?_
            refine lv_imul hx hb dX3_range_57 ?_
            refine lv_iload hx hb dX3_range_58 (lv_at hl 1 rfl) ?_
            refine lv_iadd hx hb dX3_range_60 ?_
            refine w_iald cx (hP _ _ (cM_A (n := 120) 9 (by decide) rfl rfl)) (3 * i + 2) (ix3 i 2 _ rfl) (by have h40 := hW.t; omega) (by decide) dX3_range_61 ?_
            refine lv_iload_n hx hb dX3_range_62 rfl (lv_at hl 2 rfl) ?_
            refine lv_icmp_ge (tgt := 80) hx hb dX3_range_63 (by decide) (fun c_23 => ?_) (fun c_23 => ?_)
            · refine lv_iload_n hx hb dX3_range_80 rfl (lv_at hl 2 rfl) ?_
              refine lv_istore_n (lv' := [(3, .int (ar S 9 (3 * i + 0))), (2, .int (ar S 9 (3 * i + 1))), (4, .int 2), (0, .ref (ad 0)), (1, .int (nI i))]) hx hb dX3_range_81 rfl hl (by decide) rfl (fun ls hl => ?_)
              refine lv_iinc (v := 3) (lv' := [(4, .int 3), (3, .int (ar S 9 (3 * i + 0))), (2, .int (ar S 9 (3 * i + 1))), (0, .ref (ad 0)), (1, .int (nI i))]) hx hb dX3_range_82 hl (k := 2) rfl (by decide) (by decide) rfl (fun ls hl => ?_)
              refine lv_goto (tgt := 14) hx hb dX3_range_85 (by decide) ?_
              refine lv_iload hx hb dX3_range_14 (lv_at hl 0 rfl) ?_
              refine lv_iconst (v := 3) hx hb dX3_range_16 (by decide) ?_
              refine lv_icmp_ge (tgt := 88) hx hb dX3_range_17 (by decide) (fun c_24 => ?_) (fun c_24 => ?_)
              · refine lv_iload_n hx hb dX3_range_88 rfl (lv_at hl 2 rfl) ?_
                refine lv_iload_n hx hb dX3_range_89 rfl (lv_at hl 1 rfl) ?_
                refine lv_isub hx hb dX3_range_90 ?_
                exact r_int cx hr hlk (by rw [f_X3_range, if_neg c_2, if_pos c_20, if_pos c_22, if_pos c_23]) dX3_range_91
              · exact absurd (by decide) c_24
            · refine lv_aload_n hx hb dX3_range_66 rfl (lv_at hl 3 rfl) ?_
              refine w_get cx (ci := 3) rfl iX3 (hP _ _ cM_0) 11 (by decide) k_462 (v := .ref (ad 10)) rfl dX3_range_67 ?_
              refine lv_iconst (v := 3) hx hb dX3_range_70 (by decide) ?_
              refine lv_iload_n hx hb dX3_range_71 rfl (lv_at hl 4 rfl) ?_
              refine lv_imul hx hb dX3_range_72 ?_
              refine lv_iload hx hb dX3_range_73 (lv_at hl 1 rfl) ?_
              refine lv_iadd hx hb dX3_range_75 ?_
              refine w_iald cx (hP _ _ (cM_A (n := 120) 9 (by decide) rfl rfl)) (3 * i + 2) (ix3 i 2 _ rfl) (by have h40 := hW.t; omega) (by decide) dX3_range_76 ?_
              refine lv_goto (tgt := 81) hx hb dX3_range_77 (by decide) ?_
              refine lv_istore_n (lv' := [(3, .int (ar S 9 (3 * i + 2))), (2, .int (ar S 9 (3 * i + 1))), (4, .int 2), (0, .ref (ad 0)), (1, .int (nI i))]) hx hb dX3_range_81 rfl hl (by decide) rfl (fun ls hl => ?_)
              refine lv_iinc (v := 3) (lv' := [(4, .int 3), (3, .int (ar S 9 (3 * i + 2))), (2, .int (ar S 9 (3 * i + 1))), (0, .ref (ad 0)), (1, .int (nI i))]) hx hb dX3_range_82 hl (k := 2) rfl (by decide) (by decide) rfl (fun ls hl => ?_)
              refine lv_goto (tgt := 14) hx hb dX3_range_85 (by decide) ?_
              refine lv_iload hx hb dX3_range_14 (lv_at hl 0 rfl) ?_
              refine lv_iconst (v := 3) hx hb dX3_range_16 (by decide) ?_
              refine lv_icmp_ge (tgt := 88) hx hb dX3_range_17 (by decide) (fun c_25 => ?_) (fun c_25 => ?_)
              · refine lv_iload_n hx hb dX3_range_88 rfl (lv_at hl 2 rfl) ?_
                refine lv_iload_n hx hb dX3_range_89 rfl (lv_at hl 1 rfl) ?_
                refine lv_isub hx hb dX3_range_90 ?_
                exact r_int cx hr hlk (by rw [f_X3_range, if_neg c_2, if_pos c_20, if_pos c_22, if_neg c_23]) dX3_range_91
              · exact absurd (by decide) c_25
          · refine lv_aload_n hx hb dX3_range_35 rfl (lv_at hl 3 rfl) ?_
            refine w_get cx (ci := 3) rfl iX3 (hP _ _ cM_0) 11 (by decide) k_462 (v := .ref (ad 10)) rfl dX3_range_36 ?_
            refine lv_iconst (v := 3) hx hb dX3_range_39 (by decide) ?_
            refine lv_iload_n hx hb dX3_range_40 rfl (lv_at hl 4 rfl) ?_
            refine lv_imul hx hb dX3_range_41 ?_
            refine lv_iload hx hb dX3_range_42 (lv_at hl 0 rfl) ?_
            refine lv_iadd hx hb dX3_range_44 ?_
            refine w_iald cx (hP _ _ (cM_A (n := 120) 9 (by decide) rfl rfl)) (3 * i + 2) (ix3 i 2 _ rfl) (by have h40 := hW.t; omega) (by decide) dX3_range_45 ?_
            refine lv_goto (tgt := 50) hx hb dX3_range_46 (by decide) ?_
            refine lv_istore_n (lv' := [(2, .int (ar S 9 (3 * i + 2))), (4, .int 2), (3, .int (ar S 9 (3 * i + 0))), (0, .ref (ad 0)), (1, .int (nI i))]) hx hb dX3_range_50 rfl hl (by decide) rfl (fun ls hl => ?_)
            refine lv_aload_n hx hb dX3_range_51 rfl (lv_at hl 3 rfl) ?_
            refine w_get cx (ci := 3) rfl iX3 (hP _ _ cM_0) 11 (by decide) k_462 (v := .ref (ad 10)) rfl dX3_range_52 ?_
            refine lv_iconst (v := 3) hx hb dX3_range_55 (by decide) ?_
            refine lv_iload_n hx hb dX3_range_56 rfl (lv_at hl 4 rfl) ?_
            refine lv_imul hx hb dX3_range_57 ?_
            refine lv_iload hx hb dX3_range_58 (lv_at hl 1 rfl) ?_
            refine lv_iadd hx hb dX3_range_60 ?_
            refine w_iald cx (hP _ _ (cM_A (n := 120) 9 (by decide) rfl rfl)) (3 * i + 2) (ix3 i 2 _ rfl) (by have h40 := hW.t; omega) (by decide) dX3_range_61 ?_
            refine lv_iload_n hx hb dX3_range_62 rfl (lv_at hl 2 rfl) ?_
            refine lv_icmp_ge (tgt := 80) hx hb dX3_range_63 (by decide) (fun c_26 => ?_) (fun c_26 => ?_)
            · refine lv_iload_n hx hb dX3_range_80 rfl (lv_at hl 2 rfl) ?_
              refine lv_istore_n (lv' := [(3, .int (ar S 9 (3 * i + 0))), (2, .int (ar S 9 (3 * i + 2))), (4, .int 2), (0, .ref (ad 0)), (1, .int (nI i))]) hx hb dX3_range_81 rfl hl (by decide) rfl (fun ls hl => ?_)
              refine lv_iinc (v := 3) (lv' := [(4, .int 3), (3, .int (ar S 9 (3 * i + 0))), (2, .int (ar S 9 (3 * i + 2))), (0, .ref (ad 0)), (1, .int (nI i))]) hx hb dX3_range_82 hl (k := 2) rfl (by decide) (by decide) rfl (fun ls hl => ?_)
              refine lv_goto (tgt := 14) hx hb dX3_range_85 (by decide) ?_
              refine lv_iload hx hb dX3_range_14 (lv_at hl 0 rfl) ?_
              refine lv_iconst (v := 3) hx hb dX3_range_16 (by decide) ?_
              refine lv_icmp_ge (tgt := 88) hx hb dX3_range_17 (by decide) (fun c_27 => ?_) (fun c_27 => ?_)
              · refine lv_iload_n hx hb dX3_range_88 rfl (lv_at hl 2 rfl) ?_
                refine lv_iload_n hx hb dX3_range_89 rfl (lv_at hl 1 rfl) ?_
                refine lv_isub hx hb dX3_range_90 ?_
                exact r_int cx hr hlk (by rw [f_X3_range, if_neg c_2, if_pos c_20, if_neg c_22, if_pos c_26]) dX3_range_91
              · exact absurd (by decide) c_27
            · refine lv_aload_n hx hb dX3_range_66 rfl (lv_at hl 3 rfl) ?_
              refine w_get cx (ci := 3) rfl iX3 (hP _ _ cM_0) 11 (by decide) k_462 (v := .ref (ad 10)) rfl dX3_range_67 ?_
              refine lv_iconst (v := 3) hx hb dX3_range_70 (by decide) ?_
              refine lv_iload_n hx hb dX3_range_71 rfl (lv_at hl 4 rfl) ?_
              refine lv_imul hx hb dX3_range_72 ?_
              refine lv_iload hx hb dX3_range_73 (lv_at hl 1 rfl) ?_
              refine lv_iadd hx hb dX3_range_75 ?_
              refine w_iald cx (hP _ _ (cM_A (n := 120) 9 (by decide) rfl rfl)) (3 * i + 2) (ix3 i 2 _ rfl) (by have h40 := hW.t; omega) (by decide) dX3_range_76 ?_
              refine lv_goto (tgt := 81) hx hb dX3_range_77 (by decide) ?_
              refine lv_istore_n (lv' := [(3, .int (ar S 9 (3 * i + 2))), (2, .int (ar S 9 (3 * i + 2))), (4, .int 2), (0, .ref (ad 0)), (1, .int (nI i))]) hx hb dX3_range_81 rfl hl (by decide) rfl (fun ls hl => ?_)
              refine lv_iinc (v := 3) (lv' := [(4, .int 3), (3, .int (ar S 9 (3 * i + 2))), (2, .int (ar S 9 (3 * i + 2))), (0, .ref (ad 0)), (1, .int (nI i))]) hx hb dX3_range_82 hl (k := 2) rfl (by decide) (by decide) rfl (fun ls hl => ?_)
              refine lv_goto (tgt := 14) hx hb dX3_range_85 (by decide) ?_
              refine lv_iload hx hb dX3_range_14 (lv_at hl 0 rfl) ?_
              refine lv_iconst (v := 3) hx hb dX3_range_16 (by decide) ?_
              refine lv_icmp_ge (tgt := 88) hx hb dX3_range_17 (by decide) (fun c_28 => ?_) (fun c_28 => ?_)
              · refine lv_iload_n hx hb dX3_range_88 rfl (lv_at hl 2 rfl) ?_
                refine lv_iload_n hx hb dX3_range_89 rfl (lv_at hl 1 rfl) ?_
                refine lv_isub hx hb dX3_range_90 ?_
                exact r_int cx hr hlk (by rw [f_X3_range, if_neg c_2, if_pos c_20, if_neg c_22, if_neg c_26]) dX3_range_91
              · exact absurd (by decide) c_28
      · refine lv_aload_n hx hb dX3_range_66 rfl (lv_at hl 3 rfl) ?_
        refine w_get cx (ci := 3) rfl iX3 (hP _ _ cM_0) 11 (by decide) k_462 (v := .ref (ad 10)) rfl dX3_range_67 ?_
        refine lv_iconst (v := 3) hx hb dX3_range_70 (by decide) ?_
        refine lv_iload_n hx hb dX3_range_71 rfl (lv_at hl 4 rfl) ?_
        refine lv_imul hx hb dX3_range_72 ?_
        refine lv_iload hx hb dX3_range_73 (lv_at hl 1 rfl) ?_
        refine lv_iadd hx hb dX3_range_75 ?_
        refine w_iald cx (hP _ _ (cM_A (n := 120) 9 (by decide) rfl rfl)) (3 * i + 1) (ix3 i 1 _ rfl) (by have h40 := hW.t; omega) (by decide) dX3_range_76 ?_
        refine lv_goto (tgt := 81) hx hb dX3_range_77 (by decide) ?_
        refine lv_istore_n (lv' := [(3, .int (ar S 9 (3 * i + 1))), (2, .int (ar S 9 (3 * i + 1))), (4, .int 1), (0, .ref (ad 0)), (1, .int (nI i))]) hx hb dX3_range_81 rfl hl (by decide) rfl (fun ls hl => ?_)
        refine lv_iinc (v := 2) (lv' := [(4, .int 2), (3, .int (ar S 9 (3 * i + 1))), (2, .int (ar S 9 (3 * i + 1))), (0, .ref (ad 0)), (1, .int (nI i))]) hx hb dX3_range_82 hl (k := 2) rfl (by decide) (by decide) rfl (fun ls hl => ?_)
        refine lv_goto (tgt := 14) hx hb dX3_range_85 (by decide) ?_
        refine lv_iload hx hb dX3_range_14 (lv_at hl 0 rfl) ?_
        refine lv_iconst (v := 3) hx hb dX3_range_16 (by decide) ?_
        refine lv_icmp_ge (tgt := 88) hx hb dX3_range_17 (by decide) (fun c_29 => ?_) (fun c_29 => ?_)
        · exact absurd c_29 (by decide)
        · refine lv_aload_n hx hb dX3_range_20 rfl (lv_at hl 3 rfl) ?_
          refine w_get cx (ci := 3) rfl iX3 (hP _ _ cM_0) 11 (by decide) k_462 (v := .ref (ad 10)) rfl dX3_range_21 ?_
          refine lv_iconst (v := 3) hx hb dX3_range_24 (by decide) ?_
          refine lv_iload_n hx hb dX3_range_25 rfl (lv_at hl 4 rfl) ?_
          refine lv_imul hx hb dX3_range_26 ?_
          refine lv_iload hx hb dX3_range_27 (lv_at hl 0 rfl) ?_
          refine lv_iadd hx hb dX3_range_29 ?_
          refine w_iald cx (hP _ _ (cM_A (n := 120) 9 (by decide) rfl rfl)) (3 * i + 2) (ix3 i 2 _ rfl) (by have h40 := hW.t; omega) (by decide) dX3_range_30 ?_
          refine lv_iload_n hx hb dX3_range_31 rfl (lv_at hl 2 rfl) ?_
          refine lv_icmp_le (tgt := 49) hx hb dX3_range_32 (by decide) (fun c_30 => ?_) (fun c_30 => ?_)
          · refine lv_iload_n hx hb dX3_range_49 rfl (lv_at hl 2 rfl) ?_
            refine lv_istore_n (lv' := [(2, .int (ar S 9 (3 * i + 1))), (4, .int 2), (3, .int (ar S 9 (3 * i + 1))), (0, .ref (ad 0)), (1, .int (nI i))]) hx hb dX3_range_50 rfl hl (by decide) rfl (fun ls hl => ?_)
            refine lv_aload_n hx hb dX3_range_51 rfl (lv_at hl 3 rfl) ?_
            refine w_get cx (ci := 3) rfl iX3 (hP _ _ cM_0) 11 (by decide) k_462 (v := .ref (ad 10)) rfl dX3_range_52 ?_
            refine lv_iconst (v := 3) hx hb dX3_range_55 (by decide) ?_
            refine lv_iload_n hx hb dX3_range_56 rfl (lv_at hl 4 rfl) ?_
            refine lv_imul hx hb dX3_range_57 ?_
            refine lv_iload hx hb dX3_range_58 (lv_at hl 1 rfl) ?_
            refine lv_iadd hx hb dX3_range_60 ?_
            refine w_iald cx (hP _ _ (cM_A (n := 120) 9 (by decide) rfl rfl)) (3 * i + 2) (ix3 i 2 _ rfl) (by have h40 := hW.t; omega) (by decide) dX3_range_61 ?_
            refine lv_iload_n hx hb dX3_range_62 rfl (lv_at hl 2 rfl) ?_
            refine lv_icmp_ge (tgt := 80) hx hb dX3_range_63 (by decide) (fun c_31 => ?_) (fun c_31 => ?_)
            · refine lv_iload_n hx hb dX3_range_80 rfl (lv_at hl 2 rfl) ?_
              refine lv_istore_n (lv' := [(3, .int (ar S 9 (3 * i + 1))), (2, .int (ar S 9 (3 * i + 1))), (4, .int 2), (0, .ref (ad 0)), (1, .int (nI i))]) hx hb dX3_range_81 rfl hl (by decide) rfl (fun ls hl => ?_)
              refine lv_iinc (v := 3) (lv' := [(4, .int 3), (3, .int (ar S 9 (3 * i + 1))), (2, .int (ar S 9 (3 * i + 1))), (0, .ref (ad 0)), (1, .int (nI i))]) hx hb dX3_range_82 hl (k := 2) rfl (by decide) (by decide) rfl (fun ls hl => ?_)
              refine lv_goto (tgt := 14) hx hb dX3_range_85 (by decide) ?_
              refine lv_iload hx hb dX3_range_14 (lv_at hl 0 rfl) ?_
              refine lv_iconst (v := 3) hx hb dX3_range_16 (by decide) ?_
              refine lv_icmp_ge (tgt := 88) hx hb dX3_range_17 (by decide) (fun c_32 => ?_) (fun c_32 => ?_)
              · refine lv_iload_n hx hb dX3_range_88 rfl (lv_at hl 2 rfl) ?_
                refine lv_iload_n hx hb dX3_range_89 rfl (lv_at hl 1 rfl) ?_
                refine lv_isub hx hb dX3_range_90 ?_
                exact r_int cx hr hlk (by rw [f_X3_range, if_neg c_2, if_neg c_20, if_pos c_30, if_pos c_31]) dX3_range_91
              · exact absurd (by decide) c_32
            · refine lv_aload_n hx hb dX3_range_66 rfl (lv_at hl 3 rfl) ?_
              refine w_get cx (ci := 3) rfl iX3 (hP _ _ cM_0) 11 (by decide) k_462 (v := .ref (ad 10)) rfl dX3_range_67 ?_
              refine lv_iconst (v := 3) hx hb dX3_range_70 (by decide) ?_
              refine lv_iload_n hx hb dX3_range_71 rfl (lv_at hl 4 rfl) ?_
              refine lv_imul hx hb dX3_range_72 ?_
              refine lv_iload hx hb dX3_range_73 (lv_at hl 1 rfl) ?_
              refine lv_iadd hx hb dX3_range_75 ?_
              refine w_iald cx (hP _ _ (cM_A (n := 120) 9 (by decide) rfl rfl)) (3 * i + 2) (ix3 i 2 _ rfl) (by have h40 := hW.t; omega) (by decide) dX3_range_76 ?_
              refine lv_goto (tgt := 81) hx hb dX3_range_77 (by decide) ?_
              refine lv_istore_n (lv' := [(3, .int (ar S 9 (3 * i + 2))), (2, .int (ar S 9 (3 * i + 1))), (4, .int 2), (0, .ref (ad 0)), (1, .int (nI i))]) hx hb dX3_range_81 rfl hl (by decide) rfl (fun ls hl => ?_)
              refine lv_iinc (v := 3) (lv' := [(4, .int 3), (3, .int (ar S 9 (3 * i + 2))), (2, .int (ar S 9 (3 * i + 1))), (0, .ref (ad 0)), (1, .int (nI i))]) hx hb dX3_range_82 hl (k := 2) rfl (by decide) (by decide) rfl (fun ls hl => ?_)
              refine lv_goto (tgt := 14) hx hb dX3_range_85 (by decide) ?_
              refine lv_iload hx hb dX3_range_14 (lv_at hl 0 rfl) ?_
              refine lv_iconst (v := 3) hx hb dX3_range_16 (by decide) ?_
              refine lv_icmp_ge (tgt := 88) hx hb dX3_range_17 (by decide) (fun c_33 => ?_) (fun c_33 => ?_)
              · refine lv_iload_n hx hb dX3_range_88 rfl (lv_at hl 2 rfl) ?_
                refine lv_iload_n hx hb dX3_range_89 rfl (lv_at hl 1 rfl) ?_
                refine lv_isub hx hb dX3_range_90 ?_
                exact r_int cx hr hlk (by rw [f_X3_range, if_neg c_2, if_neg c_20, if_pos c_30, if_neg c_31]) dX3_range_91
              · exact absurd (by decide) c_33
          · refine lv_aload_n hx hb dX3_range_35 rfl (lv_at hl 3 rfl) ?_
            refine w_get cx (ci := 3) rfl iX3 (hP _ _ cM_0) 11 (by decide) k_462 (v := .ref (ad 10)) rfl dX3_range_36 ?_
            refine lv_iconst (v := 3) hx hb dX3_range_39 (by decide) ?_
            refine lv_iload_n hx hb dX3_range_40 rfl (lv_at hl 4 rfl) ?_
            refine lv_imul hx hb dX3_range_41 ?_
            refine lv_iload hx hb dX3_range_42 (lv_at hl 0 rfl) ?_
            refine lv_iadd hx hb dX3_range_44 ?_
            refine w_iald cx (hP _ _ (cM_A (n := 120) 9 (by decide) rfl rfl)) (3 * i + 2) (ix3 i 2 _ rfl) (by have h40 := hW.t; omega) (by decide) dX3_range_45 ?_
            refine lv_goto (tgt := 50) hx hb dX3_range_46 (by decide) ?_
            refine lv_istore_n (lv' := [(2, .int (ar S 9 (3 * i + 2))), (4, .int 2), (3, .int (ar S 9 (3 * i + 1))), (0, .ref (ad 0)), (1, .int (nI i))]) hx hb dX3_range_50 rfl hl (by decide) rfl (fun ls hl => ?_)
            refine lv_aload_n hx hb dX3_range_51 rfl (lv_at hl 3 rfl) ?_
            refine w_get cx (ci := 3) rfl iX3 (hP _ _ cM_0) 11 (by decide) k_462 (v := .ref (ad 10)) rfl dX3_range_52 ?_
            refine lv_iconst (v := 3) hx hb dX3_range_55 (by decide) ?_
            refine lv_iload_n hx hb dX3_range_56 rfl (lv_at hl 4 rfl) ?_
            refine lv_imul hx hb dX3_range_57 ?_
            refine lv_iload hx hb dX3_range_58 (lv_at hl 1 rfl) ?_
            refine lv_iadd hx hb dX3_range_60 ?_
            refine w_iald cx (hP _ _ (cM_A (n := 120) 9 (by decide) rfl rfl)) (3 * i + 2) (ix3 i 2 _ rfl) (by have h40 := hW.t; omega) (by decide) dX3_range_61 ?_
            refine lv_iload_n hx hb dX3_range_62 rfl (lv_at hl 2 rfl) ?_
            refine lv_icmp_ge (tgt := 80) hx hb dX3_range_63 (by decide) (fun c_34 => ?_) (fun c_34 => ?_)
            · refine lv_iload_n hx hb dX3_range_80 rfl (lv_at hl 2 rfl) ?_
              refine lv_istore_n (lv' := [(3, .int (ar S 9 (3 * i + 1))), (2, .int (ar S 9 (3 * i + 2))), (4, .int 2), (0, .ref (ad 0)), (1, .int (nI i))]) hx hb dX3_range_81 rfl hl (by decide) rfl (fun ls hl => ?_)
              refine lv_iinc (v := 3) (lv' := [(4, .int 3), (3, .int (ar S 9 (3 * i + 1))), (2, .int (ar S 9 (3 * i + 2))), (0, .ref (ad 0)), (1, .int (nI i))]) hx hb dX3_range_82 hl (k := 2) rfl (by decide) (by decide) rfl (fun ls hl => ?_)
              refine lv_goto (tgt := 14) hx hb dX3_range_85 (by decide) ?_
              refine lv_iload hx hb dX3_range_14 (lv_at hl 0 rfl) ?_
              refine lv_iconst (v := 3) hx hb dX3_range_16 (by decide) ?_
              refine lv_icmp_ge (tgt := 88) hx hb dX3_range_17 (by decide) (fun c_35 => ?_) (fun c_35 => ?_)
              · refine lv_iload_n hx hb dX3_range_88 rfl (lv_at hl 2 rfl) ?_
                refine lv_iload_n hx hb dX3_range_89 rfl (lv_at hl 1 rfl) ?_
                refine lv_isub hx hb dX3_range_90 ?_
                exact r_int cx hr hlk (by rw [f_X3_range, if_neg c_2, if_neg c_20, if_neg c_30, if_pos c_34]) dX3_range_91
              · exact absurd (by decide) c_35
            · refine lv_aload_n hx hb dX3_range_66 rfl (lv_at hl 3 rfl) ?_
              refine w_get cx (ci := 3) rfl iX3 (hP _ _ cM_0) 11 (by decide) k_462 (v := .ref (ad 10)) rfl dX3_range_67 ?_
              refine lv_iconst (v := 3) hx hb dX3_range_70 (by decide) ?_
              refine lv_iload_n hx hb dX3_range_71 rfl (lv_at hl 4 rfl) ?_
              refine lv_imul hx hb dX3_range_72 ?_
              refine lv_iload hx hb dX3_range_73 (lv_at hl 1 rfl) ?_
              refine lv_iadd hx hb dX3_range_75 ?_
              refine w_iald cx (hP _ _ (cM_A (n := 120) 9 (by decide) rfl rfl)) (3 * i + 2) (ix3 i 2 _ rfl) (by have h40 := hW.t; omega) (by decide) dX3_range_76 ?_
              refine lv_goto (tgt := 81) hx hb dX3_range_77 (by decide) ?_
              refine lv_istore_n (lv' := [(3, .int (ar S 9 (3 * i + 2))), (2, .int (ar S 9 (3 * i + 2))), (4, .int 2), (0, .ref (ad 0)), (1, .int (nI i))]) hx hb dX3_range_81 rfl hl (by decide) rfl (fun ls hl => ?_)
              refine lv_iinc (v := 3) (lv' := [(4, .int 3), (3, .int (ar S 9 (3 * i + 2))), (2, .int (ar S 9 (3 * i + 2))), (0, .ref (ad 0)), (1, .int (nI i))]) hx hb dX3_range_82 hl (k := 2) rfl (by decide) (by decide) rfl (fun ls hl => ?_)
              refine lv_goto (tgt := 14) hx hb dX3_range_85 (by decide) ?_
              refine lv_iload hx hb dX3_range_14 (lv_at hl 0 rfl) ?_
              refine lv_iconst (v := 3) hx hb dX3_range_16 (by decide) ?_
              refine lv_icmp_ge (tgt := 88) hx hb dX3_range_17 (by decide) (fun c_36 => ?_) (fun c_36 => ?_)
              · refine lv_iload_n hx hb dX3_range_88 rfl (lv_at hl 2 rfl) ?_
                refine lv_iload_n hx hb dX3_range_89 rfl (lv_at hl 1 rfl) ?_
                refine lv_isub hx hb dX3_range_90 ?_
                exact r_int cx hr hlk (by rw [f_X3_range, if_neg c_2, if_neg c_20, if_neg c_30, if_neg c_34]) dX3_range_91
              · exact absurd (by decide) c_36
def f_X3_allowance (S : St) (i : Nat)  : Int32 :=
  if ar S 4 i = 1 then ar S 10 (ix (ar S 0 i))
  else ar S 11 (ix (ar S 0 i))
set_option maxRecDepth 20000 in
theorem c_X3_allowance (l : Launch) (G : GG) (ad : Nat → Nat) (S : St) (hW : WF S) {i : Nat} (hi : i < nt S)  : MR l yX3_allowance cX3_allowance 2 (some .int) 0 0 G ad (cM G ad S) [.ref (ad 0), .int (nI i)] (some (.int (f_X3_allowance S i))) := by
  refine MR.of [(0, .ref (ad 0)), (1, .int (nI i))] (by decide) (Nat.le_of_ble_eq_true rfl) rfl ?_
  intro p e s m args below meth c cx hr hlk hP ls hl
  have hx := cx.1.1
  have hb := cx.1.2.1
  refine lv_aload_n hx hb dX3_allowance_0 rfl (lv_at hl 0 rfl) ?_
  refine w_get cx (ci := 3) rfl iX3 (hP _ _ cM_0) 6 (by decide) k_457 (v := .ref (ad 5)) rfl dX3_allowance_1 ?_
  refine lv_iload_n hx hb dX3_allowance_4 rfl (lv_at hl 1 rfl) ?_
  refine w_iald cx (hP _ _ (cM_A (n := 40) 4 (by decide) rfl rfl)) i rfl (Nat.lt_of_lt_of_le hi hW.t) (by decide) dX3_allowance_5 ?_
  refine lv_iconst (v := 1) hx hb dX3_allowance_6 (by decide) ?_
  refine lv_icmp_ne (tgt := 24) hx hb dX3_allowance_7 (by decide) (fun c_1 => ?_) (fun c_1 => ?_)
  · refine lv_aload_n hx hb dX3_allowance_24 rfl (lv_at hl 0 rfl) ?_
    refine w_get cx (ci := 3) rfl iX3 (hP _ _ cM_0) 13 (by decide) k_464 (v := .ref (ad 12)) rfl dX3_allowance_25 ?_
    refine lv_aload_n hx hb dX3_allowance_28 rfl (lv_at hl 0 rfl) ?_
    refine w_get cx (ci := 3) rfl iX3 (hP _ _ cM_0) 2 (by decide) k_453 (v := .ref (ad 1)) rfl dX3_allowance_29 ?_
    refine lv_iload_n hx hb dX3_allowance_32 rfl (lv_at hl 1 rfl) ?_
    refine w_iald cx (hP _ _ (cM_A (n := 40) 0 (by decide) rfl rfl)) i rfl (Nat.lt_of_lt_of_le hi hW.t) (by decide) dX3_allowance_33 ?_
    refine w_iald cx (hP _ _ (cM_A (n := 4) 11 (by decide) rfl rfl)) (ix (ar S 0 i)) (hW.kd hi).1 (hW.kd hi).2 (by decide) dX3_allowance_34 ?_
    exact r_int cx hr hlk (by rw [f_X3_allowance, if_neg c_1]) dX3_allowance_35
  · refine lv_aload_n hx hb dX3_allowance_10 rfl (lv_at hl 0 rfl) ?_
    refine w_get cx (ci := 3) rfl iX3 (hP _ _ cM_0) 12 (by decide) k_463 (v := .ref (ad 11)) rfl dX3_allowance_11 ?_
    refine lv_aload_n hx hb dX3_allowance_14 rfl (lv_at hl 0 rfl) ?_
    refine w_get cx (ci := 3) rfl iX3 (hP _ _ cM_0) 2 (by decide) k_453 (v := .ref (ad 1)) rfl dX3_allowance_15 ?_
    refine lv_iload_n hx hb dX3_allowance_18 rfl (lv_at hl 1 rfl) ?_
    refine w_iald cx (hP _ _ (cM_A (n := 40) 0 (by decide) rfl rfl)) i rfl (Nat.lt_of_lt_of_le hi hW.t) (by decide) dX3_allowance_19 ?_
    refine w_iald cx (hP _ _ (cM_A (n := 4) 10 (by decide) rfl rfl)) (ix (ar S 0 i)) (hW.kd hi).1 (hW.kd hi).2 (by decide) dX3_allowance_20 ?_
    refine lv_goto (tgt := 35) hx hb dX3_allowance_21 (by decide) ?_
    exact r_int cx hr hlk (by rw [f_X3_allowance, if_pos c_1]) dX3_allowance_35
def f_X3_judgedOn (S : St) (i : Nat) (d : Int32) : Int32 :=
  if ar S 0 i = 0 then 0
  else if f_X3_settledNow S i = 0 then 0
  else if (f_X3_errorOf S i) - (f_X3_spanOn S i d) < -(f_X3_allowance S i) then (if f_X3_allowance S i < (f_X3_errorOf S i) - (f_X3_spanOn S i d) then 3
    else if -(f_X3_allowance S i) ≤ (f_X3_errorOf S i) + (f_X3_spanOn S i d) then 2
    else 3)
  else if f_X3_allowance S i < (f_X3_errorOf S i) + (f_X3_spanOn S i d) then (if f_X3_allowance S i < (f_X3_errorOf S i) - (f_X3_spanOn S i d) then 3
    else if -(f_X3_allowance S i) ≤ (f_X3_errorOf S i) + (f_X3_spanOn S i d) then 2
    else 3)
  else 1
set_option maxRecDepth 20000 in
theorem c_X3_judgedOn (l : Launch) (G : GG) (ad : Nat → Nat) (S : St) (hW : WF S) {i : Nat} (hi : i < nt S) (d : Int32) : MR l yX3_judgedOn cX3_judgedOn 6 (some .int) 1 22 G ad (cM G ad S) [.ref (ad 0), .int (nI i), .int d] (some (.int (f_X3_judgedOn S i d))) := by
  refine MR.of [(0, .ref (ad 0)), (1, .int (nI i)), (2, .int d)] (by decide) (Nat.le_of_ble_eq_true rfl) rfl ?_
  intro p e s m args below meth c cx hr hlk hP ls hl
  have hx := cx.1.1
  have hb := cx.1.2.1
  refine lv_aload_n hx hb dX3_judgedOn_0 rfl (lv_at hl 0 rfl) ?_
  refine w_get cx (ci := 3) rfl iX3 (hP _ _ cM_0) 2 (by decide) k_453 (v := .ref (ad 1)) rfl dX3_judgedOn_1 ?_
  refine lv_iload_n hx hb dX3_judgedOn_4 rfl (lv_at hl 1 rfl) ?_
  refine w_iald cx (hP _ _ (cM_A (n := 40) 0 (by decide) rfl rfl)) i rfl (Nat.lt_of_lt_of_le hi hW.t) (by decide) dX3_judgedOn_5 ?_
  refine lv_if_eq (tgt := 17) hx hb dX3_judgedOn_6 (by decide) (fun c_1 => ?_) (fun c_1 => ?_)
  · refine lv_iconst (v := 0) hx hb dX3_judgedOn_17 (by decide) ?_
    exact r_int cx hr hlk (by rw [f_X3_judgedOn, if_pos c_1]) dX3_judgedOn_18
  · refine lv_aload_n hx hb dX3_judgedOn_9 rfl (lv_at hl 0 rfl) ?_
    refine lv_iload_n hx hb dX3_judgedOn_10 rfl (lv_at hl 1 rfl) ?_
    refine w_callV (As := [.int (nI i)]) (rest := []) (st := [.int (f_X3_settledNow S i)]) cx (c_X3_settledNow l G ad S hW (i := i) hi) k_579 cal_yX3_settledNow (ci := 3) rfl (hP _ _ cM_0) hP rfl ⟨Nat.le_of_ble_eq_true rfl, Nat.le_of_ble_eq_true rfl⟩ hl.1 (Nat.le_of_ble_eq_true rfl) ⟨Nat.zero_le _, Nat.zero_le _⟩ rfl rfl dX3_judgedOn_11 ?_
    refine lv_if_ne (tgt := 19) hx hb dX3_judgedOn_14 (by decide) (fun c_2 => ?_) (fun c_2 => ?_)
    · refine lv_aload_n hx hb dX3_judgedOn_19 rfl (lv_at hl 0 rfl) ?_
      refine lv_iload_n hx hb dX3_judgedOn_20 rfl (lv_at hl 1 rfl) ?_
      refine w_callV (As := [.int (nI i)]) (rest := []) (st := [.int (f_X3_allowance S i)]) cx (c_X3_allowance l G ad S hW (i := i) hi) k_647 cal_yX3_allowance (ci := 3) rfl (hP _ _ cM_0) hP rfl ⟨Nat.le_of_ble_eq_true rfl, Nat.le_of_ble_eq_true rfl⟩ hl.1 (Nat.le_of_ble_eq_true rfl) ⟨Nat.zero_le _, Nat.zero_le _⟩ rfl rfl dX3_judgedOn_21 ?_
      refine lv_istore_n (lv' := [(3, .int (f_X3_allowance S i)), (0, .ref (ad 0)), (1, .int (nI i)), (2, .int d)]) hx hb dX3_judgedOn_24 rfl hl (by decide) rfl (fun ls hl => ?_)
      refine lv_aload_n hx hb dX3_judgedOn_25 rfl (lv_at hl 1 rfl) ?_
      refine lv_iload_n hx hb dX3_judgedOn_26 rfl (lv_at hl 2 rfl) ?_
      refine w_callV (As := [.int (nI i)]) (rest := []) (st := [.int (f_X3_errorOf S i)]) cx (c_X3_errorOf l G ad S hW (i := i) hi) k_587 cal_yX3_errorOf (ci := 3) rfl (hP _ _ cM_0) hP rfl ⟨Nat.le_of_ble_eq_true rfl, Nat.le_of_ble_eq_true rfl⟩ hl.1 (Nat.le_of_ble_eq_true rfl) ⟨Nat.zero_le _, Nat.zero_le _⟩ rfl rfl dX3_judgedOn_27 ?_
      refine lv_aload_n hx hb dX3_judgedOn_30 rfl (lv_at hl 1 rfl) ?_
      refine lv_iload_n hx hb dX3_judgedOn_31 rfl (lv_at hl 2 rfl) ?_
      refine lv_iload_n hx hb dX3_judgedOn_32 rfl (lv_at hl 3 rfl) ?_
      refine w_callV (As := [.int (nI i), .int d]) (rest := [.int (f_X3_errorOf S i)]) (st := [.int (f_X3_spanOn S i d), .int (f_X3_errorOf S i)]) cx (c_X3_spanOn l G ad S hW (i := i) hi d) k_595 cal_yX3_spanOn (ci := 3) rfl (hP _ _ cM_0) hP rfl ⟨Nat.le_of_ble_eq_true rfl, Nat.le_of_ble_eq_true rfl⟩ hl.1 (Nat.le_of_ble_eq_true rfl) ⟨Nat.zero_le _, Nat.zero_le _⟩ rfl rfl dX3_judgedOn_33 ?_
      refine lv_isub hx hb dX3_judgedOn_36 ?_
      refine lv_istore (lv' := [(4, .int ((f_X3_errorOf S i) - (f_X3_spanOn S i d))), (3, .int (f_X3_allowance S i)), (0, .ref (ad 0)), (1, .int (nI i)), (2, .int d)]) hx hb dX3_judgedOn_37 hl (by decide) rfl (fun ls hl => ?_)
      refine lv_aload_n hx hb dX3_judgedOn_39 rfl (lv_at hl 2 rfl) ?_
      refine lv_iload_n hx hb dX3_judgedOn_40 rfl (lv_at hl 3 rfl) ?_
      refine w_callV (As := [.int (nI i)]) (rest := []) (st := [.int (f_X3_errorOf S i)]) cx (c_X3_errorOf l G ad S hW (i := i) hi) k_587 cal_yX3_errorOf (ci := 3) rfl (hP _ _ cM_0) hP rfl ⟨Nat.le_of_ble_eq_true rfl, Nat.le_of_ble_eq_true rfl⟩ hl.1 (Nat.le_of_ble_eq_true rfl) ⟨Nat.zero_le _, Nat.zero_le _⟩ rfl rfl dX3_judgedOn_41 ?_
      refine lv_aload_n hx hb dX3_judgedOn_44 rfl (lv_at hl 2 rfl) ?_
      refine lv_iload_n hx hb dX3_judgedOn_45 rfl (lv_at hl 3 rfl) ?_
      refine lv_iload_n hx hb dX3_judgedOn_46 rfl (lv_at hl 4 rfl) ?_
      refine w_callV (As := [.int (nI i), .int d]) (rest := [.int (f_X3_errorOf S i)]) (st := [.int (f_X3_spanOn S i d), .int (f_X3_errorOf S i)]) cx (c_X3_spanOn l G ad S hW (i := i) hi d) k_595 cal_yX3_spanOn (ci := 3) rfl (hP _ _ cM_0) hP rfl ⟨Nat.le_of_ble_eq_true rfl, Nat.le_of_ble_eq_true rfl⟩ hl.1 (Nat.le_of_ble_eq_true rfl) ⟨Nat.zero_le _, Nat.zero_le _⟩ rfl rfl dX3_judgedOn_47 ?_
      refine lv_iadd hx hb dX3_judgedOn_50 ?_
      refine lv_istore (lv' := [(5, .int ((f_X3_errorOf S i) + (f_X3_spanOn S i d))), (4, .int ((f_X3_errorOf S i) - (f_X3_spanOn S i d))), (3, .int (f_X3_allowance S i)), (0, .ref (ad 0)), (1, .int (nI i)), (2, .int d)]) hx hb dX3_judgedOn_51 hl (by decide) rfl (fun ls hl => ?_)
      refine lv_iload hx hb dX3_judgedOn_53 (lv_at hl 1 rfl) ?_
      refine lv_iload_n hx hb dX3_judgedOn_55 rfl (lv_at hl 2 rfl) ?_
      refine lv_ineg hx hb dX3_judgedOn_56 ?_
      refine lv_icmp_lt (tgt := 68) hx hb dX3_judgedOn_57 (by decide) (fun c_3 => ?_) (fun c_3 => ?_)
      · refine lv_iload hx hb dX3_judgedOn_68 (lv_at hl 1 rfl) ?_
        refine lv_iload_n hx hb dX3_judgedOn_70 rfl (lv_at hl 2 rfl) ?_
        refine lv_icmp_gt (tgt := 81) hx hb dX3_judgedOn_71 (by decide) (fun c_4 => ?_) (fun c_4 => ?_)
        · refine lv_iconst (v := 3) hx hb dX3_judgedOn_81 (by decide) ?_
          refine lv_goto (tgt := 86) hx hb dX3_judgedOn_82 (by decide) ?_
          exact r_int cx hr hlk (by rw [f_X3_judgedOn, if_neg c_1, if_neg c_2, if_pos c_3, if_pos c_4]) dX3_judgedOn_86
        · refine lv_iload hx hb dX3_judgedOn_74 (lv_at hl 0 rfl) ?_
          refine lv_iload_n hx hb dX3_judgedOn_76 rfl (lv_at hl 2 rfl) ?_
          refine lv_ineg hx hb dX3_judgedOn_77 ?_
          refine lv_icmp_ge (tgt := 85) hx hb dX3_judgedOn_78 (by decide) (fun c_5 => ?_) (fun c_5 => ?_)
          · refine lv_iconst (v := 2) hx hb dX3_judgedOn_85 (by decide) ?_
            exact r_int cx hr hlk (by rw [f_X3_judgedOn, if_neg c_1, if_neg c_2, if_pos c_3, if_neg c_4, if_pos c_5]) dX3_judgedOn_86
          · refine lv_iconst (v := 3) hx hb dX3_judgedOn_81 (by decide) ?_
            refine lv_goto (tgt := 86) hx hb dX3_judgedOn_82 (by decide) ?_
            exact r_int cx hr hlk (by rw [f_X3_judgedOn, if_neg c_1, if_neg c_2, if_pos c_3, if_neg c_4, if_neg c_5]) dX3_judgedOn_86
      · refine lv_iload hx hb dX3_judgedOn_60 (lv_at hl 0 rfl) ?_
        refine lv_iload_n hx hb dX3_judgedOn_62 rfl (lv_at hl 2 rfl) ?_
        refine lv_icmp_gt (tgt := 68) hx hb dX3_judgedOn_63 (by decide) (fun c_6 => ?_) (fun c_6 => ?_)
        · refine lv_iload hx hb dX3_judgedOn_68 (lv_at hl 1 rfl) ?_
          refine lv_iload_n hx hb dX3_judgedOn_70 rfl (lv_at hl 2 rfl) ?_
          refine lv_icmp_gt (tgt := 81) hx hb dX3_judgedOn_71 (by decide) (fun c_7 => ?_) (fun c_7 => ?_)
          · refine lv_iconst (v := 3) hx hb dX3_judgedOn_81 (by decide) ?_
            refine lv_goto (tgt := 86) hx hb dX3_judgedOn_82 (by decide) ?_
            exact r_int cx hr hlk (by rw [f_X3_judgedOn, if_neg c_1, if_neg c_2, if_neg c_3, if_pos c_6, if_pos c_7]) dX3_judgedOn_86
          · refine lv_iload hx hb dX3_judgedOn_74 (lv_at hl 0 rfl) ?_
            refine lv_iload_n hx hb dX3_judgedOn_76 rfl (lv_at hl 2 rfl) ?_
            refine lv_ineg hx hb dX3_judgedOn_77 ?_
            refine lv_icmp_ge (tgt := 85) hx hb dX3_judgedOn_78 (by decide) (fun c_8 => ?_) (fun c_8 => ?_)
            · refine lv_iconst (v := 2) hx hb dX3_judgedOn_85 (by decide) ?_
              exact r_int cx hr hlk (by rw [f_X3_judgedOn, if_neg c_1, if_neg c_2, if_neg c_3, if_pos c_6, if_neg c_7, if_pos c_8]) dX3_judgedOn_86
            · refine lv_iconst (v := 3) hx hb dX3_judgedOn_81 (by decide) ?_
              refine lv_goto (tgt := 86) hx hb dX3_judgedOn_82 (by decide) ?_
              exact r_int cx hr hlk (by rw [f_X3_judgedOn, if_neg c_1, if_neg c_2, if_neg c_3, if_pos c_6, if_neg c_7, if_neg c_8]) dX3_judgedOn_86
        · refine lv_iconst (v := 1) hx hb dX3_judgedOn_66 (by decide) ?_
          exact r_int cx hr hlk (by rw [f_X3_judgedOn, if_neg c_1, if_neg c_2, if_neg c_3, if_neg c_6]) dX3_judgedOn_67
    · refine lv_iconst (v := 0) hx hb dX3_judgedOn_17 (by decide) ?_
      exact r_int cx hr hlk (by rw [f_X3_judgedOn, if_neg c_1, if_pos c_2]) dX3_judgedOn_18
def f_X3_group (S : St) (i : Nat)  : Int32 :=
  if ar S 5 i = -1000000 then 0
  else if f_X3_settledNow S i = 0 then 1
  else if f_X3_dueNow S i = 0 then 3
  else 2
set_option maxRecDepth 20000 in
theorem c_X3_group (l : Launch) (G : GG) (ad : Nat → Nat) (S : St) (hW : WF S) {i : Nat} (hi : i < nt S)  : MR l yX3_group cX3_group 2 (some .int) 1 21 G ad (cM G ad S) [.ref (ad 0), .int (nI i)] (some (.int (f_X3_group S i))) := by
  refine MR.of [(0, .ref (ad 0)), (1, .int (nI i))] (by decide) (Nat.le_of_ble_eq_true rfl) rfl ?_
  intro p e s m args below meth c cx hr hlk hP ls hl
  have hx := cx.1.1
  have hb := cx.1.2.1
  refine lv_aload_n hx hb dX3_group_0 rfl (lv_at hl 0 rfl) ?_
  refine w_get cx (ci := 3) rfl iX3 (hP _ _ cM_0) 7 (by decide) k_458 (v := .ref (ad 6)) rfl dX3_group_1 ?_
  refine lv_iload_n hx hb dX3_group_4 rfl (lv_at hl 1 rfl) ?_
  refine w_iald cx (hP _ _ (cM_A (n := 40) 5 (by decide) rfl rfl)) i rfl (Nat.lt_of_lt_of_le hi hW.t) (by decide) dX3_group_5 ?_
  refine w_ldc cx k_548 dX3_group_6 ?_
  refine lv_icmp_ne (tgt := 15) hx hb dX3_group_8 (by decide) (fun c_1 => ?_) (fun c_1 => ?_)
  · refine lv_aload_n hx hb dX3_group_15 rfl (lv_at hl 0 rfl) ?_
    refine lv_iload_n hx hb dX3_group_16 rfl (lv_at hl 1 rfl) ?_
    refine w_callV (As := [.int (nI i)]) (rest := []) (st := [.int (f_X3_settledNow S i)]) cx (c_X3_settledNow l G ad S hW (i := i) hi) k_579 cal_yX3_settledNow (ci := 3) rfl (hP _ _ cM_0) hP rfl ⟨Nat.le_of_ble_eq_true rfl, Nat.le_of_ble_eq_true rfl⟩ hl.1 (Nat.le_of_ble_eq_true rfl) ⟨Nat.zero_le _, Nat.zero_le _⟩ rfl rfl dX3_group_17 ?_
    refine lv_if_ne (tgt := 27) hx hb dX3_group_20 (by decide) (fun c_2 => ?_) (fun c_2 => ?_)
    · refine lv_aload_n hx hb dX3_group_27 rfl (lv_at hl 0 rfl) ?_
      refine lv_iload_n hx hb dX3_group_28 rfl (lv_at hl 1 rfl) ?_
      refine w_callV (As := [.int (nI i)]) (rest := []) (st := [.int (f_X3_dueNow S i)]) cx (c_X3_dueNow l G ad S hW (i := i) hi) k_583 cal_yX3_dueNow (ci := 3) rfl (hP _ _ cM_0) hP rfl ⟨Nat.le_of_ble_eq_true rfl, Nat.le_of_ble_eq_true rfl⟩ hl.1 (Nat.le_of_ble_eq_true rfl) ⟨Nat.zero_le _, Nat.zero_le _⟩ rfl rfl dX3_group_29 ?_
      refine lv_if_eq (tgt := 39) hx hb dX3_group_32 (by decide) (fun c_3 => ?_) (fun c_3 => ?_)
      · refine lv_iconst (v := 3) hx hb dX3_group_39 (by decide) ?_
        exact r_int cx hr hlk (by rw [f_X3_group, if_neg c_1, if_neg c_2, if_pos c_3]) dX3_group_40
      · refine lv_iconst (v := 2) hx hb dX3_group_35 (by decide) ?_
        refine lv_goto (tgt := 40) hx hb dX3_group_36 (by decide) ?_
        exact r_int cx hr hlk (by rw [f_X3_group, if_neg c_1, if_neg c_2, if_neg c_3]) dX3_group_40
    · refine lv_iconst (v := 1) hx hb dX3_group_23 (by decide) ?_
      refine lv_goto (tgt := 40) hx hb dX3_group_24 (by decide) ?_
      exact r_int cx hr hlk (by rw [f_X3_group, if_neg c_1, if_pos c_2]) dX3_group_40
  · refine lv_iconst (v := 0) hx hb dX3_group_11 (by decide) ?_
    refine lv_goto (tgt := 40) hx hb dX3_group_12 (by decide) ?_
    exact r_int cx hr hlk (by rw [f_X3_group, if_pos c_1]) dX3_group_40
def f_X3_weight (S : St) (i : Nat)  : Int32 :=
  if 0 ≤ f_X3_errorOf S i then (if ar S 5 i = -1000000 then 0
    else ((f_X3_errorOf S i) + (f_X3_spanOn S i (sc S 0))) - (f_X3_allowance S i))
  else if ar S 5 i = -1000000 then 0
  else ((-(f_X3_errorOf S i)) + (f_X3_spanOn S i (sc S 0))) - (f_X3_allowance S i)
set_option maxRecDepth 20000 in
theorem c_X3_weight (l : Launch) (G : GG) (ad : Nat → Nat) (S : St) (hW : WF S) {i : Nat} (hi : i < nt S)  : MR l yX3_weight cX3_weight 3 (some .int) 1 22 G ad (cM G ad S) [.ref (ad 0), .int (nI i)] (some (.int (f_X3_weight S i))) := by
  refine MR.of [(0, .ref (ad 0)), (1, .int (nI i))] (by decide) (Nat.le_of_ble_eq_true rfl) rfl ?_
  intro p e s m args below meth c cx hr hlk hP ls hl
  have hx := cx.1.1
  have hb := cx.1.2.1
  refine lv_aload_n hx hb dX3_weight_0 rfl (lv_at hl 0 rfl) ?_
  refine lv_iload_n hx hb dX3_weight_1 rfl (lv_at hl 1 rfl) ?_
  refine w_callV (As := [.int (nI i)]) (rest := []) (st := [.int (f_X3_errorOf S i)]) cx (c_X3_errorOf l G ad S hW (i := i) hi) k_587 cal_yX3_errorOf (ci := 3) rfl (hP _ _ cM_0) hP rfl ⟨Nat.le_of_ble_eq_true rfl, Nat.le_of_ble_eq_true rfl⟩ hl.1 (Nat.le_of_ble_eq_true rfl) ⟨Nat.zero_le _, Nat.zero_le _⟩ rfl rfl dX3_weight_2 ?_
  refine lv_if_ge (tgt := 17) hx hb dX3_weight_5 (by decide) (fun c_1 => ?_) (fun c_1 => ?_)
  · refine lv_aload_n hx hb dX3_weight_17 rfl (lv_at hl 0 rfl) ?_
    refine lv_iload_n hx hb dX3_weight_18 rfl (lv_at hl 1 rfl) ?_
    refine w_callV (As := [.int (nI i)]) (rest := []) (st := [.int (f_X3_errorOf S i)]) cx (c_X3_errorOf l G ad S hW (i := i) hi) k_587 cal_yX3_errorOf (ci := 3) rfl (hP _ _ cM_0) hP rfl ⟨Nat.le_of_ble_eq_true rfl, Nat.le_of_ble_eq_true rfl⟩ hl.1 (Nat.le_of_ble_eq_true rfl) ⟨Nat.zero_le _, Nat.zero_le _⟩ rfl rfl dX3_weight_19 ?_
    refine lv_istore_n (lv' := [(2, .int (f_X3_errorOf S i)), (0, .ref (ad 0)), (1, .int (nI i))]) hx hb dX3_weight_22 rfl hl (by decide) rfl (fun ls hl => ?_)
    refine lv_aload_n hx hb dX3_weight_23 rfl (lv_at hl 1 rfl) ?_
    refine w_get cx (ci := 3) rfl iX3 (hP _ _ cM_0) 7 (by decide) k_458 (v := .ref (ad 6)) rfl dX3_weight_24 ?_
    refine lv_iload_n hx hb dX3_weight_27 rfl (lv_at hl 2 rfl) ?_
    refine w_iald cx (hP _ _ (cM_A (n := 40) 5 (by decide) rfl rfl)) i rfl (Nat.lt_of_lt_of_le hi hW.t) (by decide) dX3_weight_28 ?_
    refine w_ldc cx k_548 dX3_weight_29 ?_
    refine lv_icmp_ne (tgt := 38) hx hb dX3_weight_31 (by decide) (fun c_2 => ?_) (fun c_2 => ?_)
    · refine lv_iload_n hx hb dX3_weight_38 rfl (lv_at hl 0 rfl) ?_
      refine lv_aload_n hx hb dX3_weight_39 rfl (lv_at hl 1 rfl) ?_
      refine lv_iload_n hx hb dX3_weight_40 rfl (lv_at hl 2 rfl) ?_
      refine lv_aload_n hx hb dX3_weight_41 rfl (lv_at hl 1 rfl) ?_
      refine w_get cx (ci := 3) rfl iX3 (hP _ _ cM_0) 0 (by decide) k_451 (v := .int (sc S 0)) rfl dX3_weight_42 ?_
      refine w_callV (As := [.int (nI i), .int (sc S 0)]) (rest := [.int (f_X3_errorOf S i)]) (st := [.int (f_X3_spanOn S i (sc S 0)), .int (f_X3_errorOf S i)]) cx (c_X3_spanOn l G ad S hW (i := i) hi (sc S 0)) k_595 cal_yX3_spanOn (ci := 3) rfl (hP _ _ cM_0) hP rfl ⟨Nat.le_of_ble_eq_true rfl, Nat.le_of_ble_eq_true rfl⟩ hl.1 (Nat.le_of_ble_eq_true rfl) ⟨Nat.zero_le _, Nat.zero_le _⟩ rfl rfl dX3_weight_45 ?_
      refine lv_iadd hx hb dX3_weight_48 ?_
      refine lv_aload_n hx hb dX3_weight_49 rfl (lv_at hl 1 rfl) ?_
      refine lv_iload_n hx hb dX3_weight_50 rfl (lv_at hl 2 rfl) ?_
      refine w_callV (As := [.int (nI i)]) (rest := [.int ((f_X3_errorOf S i) + (f_X3_spanOn S i (sc S 0)))]) (st := [.int (f_X3_allowance S i), .int ((f_X3_errorOf S i) + (f_X3_spanOn S i (sc S 0)))]) cx (c_X3_allowance l G ad S hW (i := i) hi) k_647 cal_yX3_allowance (ci := 3) rfl (hP _ _ cM_0) hP rfl ⟨Nat.le_of_ble_eq_true rfl, Nat.le_of_ble_eq_true rfl⟩ hl.1 (Nat.le_of_ble_eq_true rfl) ⟨Nat.zero_le _, Nat.zero_le _⟩ rfl rfl dX3_weight_51 ?_
      refine lv_isub hx hb dX3_weight_54 ?_
      exact r_int cx hr hlk (by rw [f_X3_weight, if_pos c_1, if_neg c_2]) dX3_weight_55
    · refine lv_iconst (v := 0) hx hb dX3_weight_34 (by decide) ?_
      refine lv_goto (tgt := 55) hx hb dX3_weight_35 (by decide) ?_
      exact r_int cx hr hlk (by rw [f_X3_weight, if_pos c_1, if_pos c_2]) dX3_weight_55
  · refine lv_aload_n hx hb dX3_weight_8 rfl (lv_at hl 0 rfl) ?_
    refine lv_iload_n hx hb dX3_weight_9 rfl (lv_at hl 1 rfl) ?_
    refine w_callV (As := [.int (nI i)]) (rest := []) (st := [.int (f_X3_errorOf S i)]) cx (c_X3_errorOf l G ad S hW (i := i) hi) k_587 cal_yX3_errorOf (ci := 3) rfl (hP _ _ cM_0) hP rfl ⟨Nat.le_of_ble_eq_true rfl, Nat.le_of_ble_eq_true rfl⟩ hl.1 (Nat.le_of_ble_eq_true rfl) ⟨Nat.zero_le _, Nat.zero_le _⟩ rfl rfl dX3_weight_10 ?_
    refine lv_ineg hx hb dX3_weight_13 ?_
    refine lv_goto (tgt := 22) hx hb dX3_weight_14 (by decide) ?_
    refine lv_istore_n (lv' := [(2, .int (-(f_X3_errorOf S i))), (0, .ref (ad 0)), (1, .int (nI i))]) hx hb dX3_weight_22 rfl hl (by decide) rfl (fun ls hl => ?_)
    refine lv_aload_n hx hb dX3_weight_23 rfl (lv_at hl 1 rfl) ?_
    refine w_get cx (ci := 3) rfl iX3 (hP _ _ cM_0) 7 (by decide) k_458 (v := .ref (ad 6)) rfl dX3_weight_24 ?_
    refine lv_iload_n hx hb dX3_weight_27 rfl (lv_at hl 2 rfl) ?_
    refine w_iald cx (hP _ _ (cM_A (n := 40) 5 (by decide) rfl rfl)) i rfl (Nat.lt_of_lt_of_le hi hW.t) (by decide) dX3_weight_28 ?_
    refine w_ldc cx k_548 dX3_weight_29 ?_
    refine lv_icmp_ne (tgt := 38) hx hb dX3_weight_31 (by decide) (fun c_3 => ?_) (fun c_3 => ?_)
    · refine lv_iload_n hx hb dX3_weight_38 rfl (lv_at hl 0 rfl) ?_
      refine lv_aload_n hx hb dX3_weight_39 rfl (lv_at hl 1 rfl) ?_
      refine lv_iload_n hx hb dX3_weight_40 rfl (lv_at hl 2 rfl) ?_
      refine lv_aload_n hx hb dX3_weight_41 rfl (lv_at hl 1 rfl) ?_
      refine w_get cx (ci := 3) rfl iX3 (hP _ _ cM_0) 0 (by decide) k_451 (v := .int (sc S 0)) rfl dX3_weight_42 ?_
      refine w_callV (As := [.int (nI i), .int (sc S 0)]) (rest := [.int (-(f_X3_errorOf S i))]) (st := [.int (f_X3_spanOn S i (sc S 0)), .int (-(f_X3_errorOf S i))]) cx (c_X3_spanOn l G ad S hW (i := i) hi (sc S 0)) k_595 cal_yX3_spanOn (ci := 3) rfl (hP _ _ cM_0) hP rfl ⟨Nat.le_of_ble_eq_true rfl, Nat.le_of_ble_eq_true rfl⟩ hl.1 (Nat.le_of_ble_eq_true rfl) ⟨Nat.zero_le _, Nat.zero_le _⟩ rfl rfl dX3_weight_45 ?_
      refine lv_iadd hx hb dX3_weight_48 ?_
      refine lv_aload_n hx hb dX3_weight_49 rfl (lv_at hl 1 rfl) ?_
      refine lv_iload_n hx hb dX3_weight_50 rfl (lv_at hl 2 rfl) ?_
      refine w_callV (As := [.int (nI i)]) (rest := [.int ((-(f_X3_errorOf S i)) + (f_X3_spanOn S i (sc S 0)))]) (st := [.int (f_X3_allowance S i), .int ((-(f_X3_errorOf S i)) + (f_X3_spanOn S i (sc S 0)))]) cx (c_X3_allowance l G ad S hW (i := i) hi) k_647 cal_yX3_allowance (ci := 3) rfl (hP _ _ cM_0) hP rfl ⟨Nat.le_of_ble_eq_true rfl, Nat.le_of_ble_eq_true rfl⟩ hl.1 (Nat.le_of_ble_eq_true rfl) ⟨Nat.zero_le _, Nat.zero_le _⟩ rfl rfl dX3_weight_51 ?_
      refine lv_isub hx hb dX3_weight_54 ?_
      exact r_int cx hr hlk (by rw [f_X3_weight, if_neg c_1, if_neg c_3]) dX3_weight_55
    · refine lv_iconst (v := 0) hx hb dX3_weight_34 (by decide) ?_
      refine lv_goto (tgt := 55) hx hb dX3_weight_35 (by decide) ?_
      exact r_int cx hr hlk (by rw [f_X3_weight, if_neg c_1, if_pos c_3]) dX3_weight_55
def f_X3_isAhead (S : St) (i k : Nat) : Int32 :=
  if f_X3_group S i = f_X3_group S k then (if f_X3_weight S i = f_X3_weight S k then (if nI k ≤ nI i then 0
      else 1)
    else if f_X3_weight S i ≤ f_X3_weight S k then 0
    else 1)
  else if f_X3_group S k ≤ f_X3_group S i then 0
  else 1
theorem b_X3_isAhead (S : St) (i k : Nat) : f_X3_isAhead S i k = 0 ∨ f_X3_isAhead S i k = 1 := by
  unfold f_X3_isAhead
  repeat' split
  all_goals first | exact Or.inl rfl | exact Or.inr rfl
set_option maxRecDepth 20000 in
theorem c_X3_isAhead (l : Launch) (G : GG) (ad : Nat → Nat) (S : St) (hW : WF S) {i : Nat} (hi : i < nt S) {k : Nat} (hk : k < nt S) : MR l yX3_isAhead cX3_isAhead 3 (some .boolean) 2 44 G ad (cM G ad S) [.ref (ad 0), .int (nI i), .int (nI k)] (some (.int (f_X3_isAhead S i k))) := by
  refine MR.of [(0, .ref (ad 0)), (1, .int (nI i)), (2, .int (nI k))] (by decide) (Nat.le_of_ble_eq_true rfl) rfl ?_
  intro p e s m args below meth c cx hr hlk hP ls hl
  have hx := cx.1.1
  have hb := cx.1.2.1
  refine lv_aload_n hx hb dX3_isAhead_0 rfl (lv_at hl 0 rfl) ?_
  refine lv_iload_n hx hb dX3_isAhead_1 rfl (lv_at hl 1 rfl) ?_
  refine w_callV (As := [.int (nI i)]) (rest := []) (st := [.int (f_X3_group S i)]) cx (c_X3_group l G ad S hW (i := i) hi) k_680 cal_yX3_group (ci := 3) rfl (hP _ _ cM_0) hP rfl ⟨Nat.le_of_ble_eq_true rfl, Nat.le_of_ble_eq_true rfl⟩ hl.1 (Nat.le_of_ble_eq_true rfl) ⟨Nat.zero_le _, Nat.zero_le _⟩ rfl rfl dX3_isAhead_2 ?_
  refine lv_aload_n hx hb dX3_isAhead_5 rfl (lv_at hl 0 rfl) ?_
  refine lv_iload_n hx hb dX3_isAhead_6 rfl (lv_at hl 2 rfl) ?_
  refine w_callV (As := [.int (nI k)]) (rest := [.int (f_X3_group S i)]) (st := [.int (f_X3_group S k), .int (f_X3_group S i)]) cx (c_X3_group l G ad S hW (i := k) hk) k_680 cal_yX3_group (ci := 3) rfl (hP _ _ cM_0) hP rfl ⟨Nat.le_of_ble_eq_true rfl, Nat.le_of_ble_eq_true rfl⟩ hl.1 (Nat.le_of_ble_eq_true rfl) ⟨Nat.zero_le _, Nat.zero_le _⟩ rfl rfl dX3_isAhead_7 ?_
  refine lv_icmp_eq (tgt := 32) hx hb dX3_isAhead_10 (by decide) (fun c_1 => ?_) (fun c_1 => ?_)
  · refine lv_aload_n hx hb dX3_isAhead_32 rfl (lv_at hl 0 rfl) ?_
    refine lv_iload_n hx hb dX3_isAhead_33 rfl (lv_at hl 1 rfl) ?_
    refine w_callV (As := [.int (nI i)]) (rest := []) (st := [.int (f_X3_weight S i)]) cx (c_X3_weight l G ad S hW (i := i) hi) k_684 cal_yX3_weight (ci := 3) rfl (hP _ _ cM_0) hP rfl ⟨Nat.le_of_ble_eq_true rfl, Nat.le_of_ble_eq_true rfl⟩ hl.1 (Nat.le_of_ble_eq_true rfl) ⟨Nat.zero_le _, Nat.zero_le _⟩ rfl rfl dX3_isAhead_34 ?_
    refine lv_aload_n hx hb dX3_isAhead_37 rfl (lv_at hl 0 rfl) ?_
    refine lv_iload_n hx hb dX3_isAhead_38 rfl (lv_at hl 2 rfl) ?_
    refine w_callV (As := [.int (nI k)]) (rest := [.int (f_X3_weight S i)]) (st := [.int (f_X3_weight S k), .int (f_X3_weight S i)]) cx (c_X3_weight l G ad S hW (i := k) hk) k_684 cal_yX3_weight (ci := 3) rfl (hP _ _ cM_0) hP rfl ⟨Nat.le_of_ble_eq_true rfl, Nat.le_of_ble_eq_true rfl⟩ hl.1 (Nat.le_of_ble_eq_true rfl) ⟨Nat.zero_le _, Nat.zero_le _⟩ rfl rfl dX3_isAhead_39 ?_
    refine lv_icmp_eq (tgt := 66) hx hb dX3_isAhead_42 (by decide) (fun c_2 => ?_) (fun c_2 => ?_)
    · refine lv_iload_n hx hb dX3_isAhead_66 rfl (lv_at hl 1 rfl) ?_
      refine lv_iload_n hx hb dX3_isAhead_67 rfl (lv_at hl 2 rfl) ?_
      refine lv_icmp_ge (tgt := 75) hx hb dX3_isAhead_68 (by decide) (fun c_3 => ?_) (fun c_3 => ?_)
      · refine lv_iconst (v := 0) hx hb dX3_isAhead_75 (by decide) ?_
        exact r_bool cx hr hlk (by rw [f_X3_isAhead, if_pos c_1, if_pos c_2, if_pos c_3]) (Or.inl rfl) dX3_isAhead_76
      · refine lv_iconst (v := 1) hx hb dX3_isAhead_71 (by decide) ?_
        refine lv_goto (tgt := 76) hx hb dX3_isAhead_72 (by decide) ?_
        exact r_bool cx hr hlk (by rw [f_X3_isAhead, if_pos c_1, if_pos c_2, if_neg c_3]) (Or.inr rfl) dX3_isAhead_76
    · refine lv_aload_n hx hb dX3_isAhead_45 rfl (lv_at hl 0 rfl) ?_
      refine lv_iload_n hx hb dX3_isAhead_46 rfl (lv_at hl 1 rfl) ?_
      refine w_callV (As := [.int (nI i)]) (rest := []) (st := [.int (f_X3_weight S i)]) cx (c_X3_weight l G ad S hW (i := i) hi) k_684 cal_yX3_weight (ci := 3) rfl (hP _ _ cM_0) hP rfl ⟨Nat.le_of_ble_eq_true rfl, Nat.le_of_ble_eq_true rfl⟩ hl.1 (Nat.le_of_ble_eq_true rfl) ⟨Nat.zero_le _, Nat.zero_le _⟩ rfl rfl dX3_isAhead_47 ?_
      refine lv_aload_n hx hb dX3_isAhead_50 rfl (lv_at hl 0 rfl) ?_
      refine lv_iload_n hx hb dX3_isAhead_51 rfl (lv_at hl 2 rfl) ?_
      refine w_callV (As := [.int (nI k)]) (rest := [.int (f_X3_weight S i)]) (st := [.int (f_X3_weight S k), .int (f_X3_weight S i)]) cx (c_X3_weight l G ad S hW (i := k) hk) k_684 cal_yX3_weight (ci := 3) rfl (hP _ _ cM_0) hP rfl ⟨Nat.le_of_ble_eq_true rfl, Nat.le_of_ble_eq_true rfl⟩ hl.1 (Nat.le_of_ble_eq_true rfl) ⟨Nat.zero_le _, Nat.zero_le _⟩ rfl rfl dX3_isAhead_52 ?_
      refine lv_icmp_le (tgt := 62) hx hb dX3_isAhead_55 (by decide) (fun c_4 => ?_) (fun c_4 => ?_)
      · refine lv_iconst (v := 0) hx hb dX3_isAhead_62 (by decide) ?_
        refine lv_goto (tgt := 76) hx hb dX3_isAhead_63 (by decide) ?_
        exact r_bool cx hr hlk (by rw [f_X3_isAhead, if_pos c_1, if_neg c_2, if_pos c_4]) (Or.inl rfl) dX3_isAhead_76
      · refine lv_iconst (v := 1) hx hb dX3_isAhead_58 (by decide) ?_
        refine lv_goto (tgt := 76) hx hb dX3_isAhead_59 (by decide) ?_
        exact r_bool cx hr hlk (by rw [f_X3_isAhead, if_pos c_1, if_neg c_2, if_neg c_4]) (Or.inr rfl) dX3_isAhead_76
  · refine lv_aload_n hx hb dX3_isAhead_13 rfl (lv_at hl 0 rfl) ?_
    refine lv_iload_n hx hb dX3_isAhead_14 rfl (lv_at hl 1 rfl) ?_
    refine w_callV (As := [.int (nI i)]) (rest := []) (st := [.int (f_X3_group S i)]) cx (c_X3_group l G ad S hW (i := i) hi) k_680 cal_yX3_group (ci := 3) rfl (hP _ _ cM_0) hP rfl ⟨Nat.le_of_ble_eq_true rfl, Nat.le_of_ble_eq_true rfl⟩ hl.1 (Nat.le_of_ble_eq_true rfl) ⟨Nat.zero_le _, Nat.zero_le _⟩ rfl rfl dX3_isAhead_15 ?_
    refine lv_aload_n hx hb dX3_isAhead_18 rfl (lv_at hl 0 rfl) ?_
    refine lv_iload_n hx hb dX3_isAhead_19 rfl (lv_at hl 2 rfl) ?_
    refine w_callV (As := [.int (nI k)]) (rest := [.int (f_X3_group S i)]) (st := [.int (f_X3_group S k), .int (f_X3_group S i)]) cx (c_X3_group l G ad S hW (i := k) hk) k_680 cal_yX3_group (ci := 3) rfl (hP _ _ cM_0) hP rfl ⟨Nat.le_of_ble_eq_true rfl, Nat.le_of_ble_eq_true rfl⟩ hl.1 (Nat.le_of_ble_eq_true rfl) ⟨Nat.zero_le _, Nat.zero_le _⟩ rfl rfl dX3_isAhead_20 ?_
    refine lv_icmp_ge (tgt := 30) hx hb dX3_isAhead_23 (by decide) (fun c_5 => ?_) (fun c_5 => ?_)
    · refine lv_iconst (v := 0) hx hb dX3_isAhead_30 (by decide) ?_
      exact r_bool cx hr hlk (by rw [f_X3_isAhead, if_neg c_1, if_pos c_5]) (Or.inl rfl) dX3_isAhead_31
    · refine lv_iconst (v := 1) hx hb dX3_isAhead_26 (by decide) ?_
      refine lv_goto (tgt := 31) hx hb dX3_isAhead_27 (by decide) ?_
      exact r_bool cx hr hlk (by rw [f_X3_isAhead, if_neg c_1, if_neg c_5]) (Or.inr rfl) dX3_isAhead_31
set_option maxRecDepth 20000 in
theorem c_X3_about_out (l : Launch) (G : GG) (ad : Nat → Nat) (S : St) (hW : WF S) {n : Int32} (hn : nT S n) (x : Int32) : MR l yX3_about cX3_about 3 (some .int) 2 43 G ad (cM G ad S) [.ref (ad 0), .int n, .int x] (some (.int (-1))) := by
  refine MR.of [(0, .ref (ad 0)), (1, .int n), (2, .int x)] (by decide) (Nat.le_of_ble_eq_true rfl) rfl ?_
  intro p e s m args below meth c cx hr hlk hP ls hl
  have hx := cx.1.1
  have hb := cx.1.2.1
  refine lv_aload_n hx hb dX3_about_0 rfl (lv_at hl 0 rfl) ?_
  refine lv_iload_n hx hb dX3_about_1 rfl (lv_at hl 1 rfl) ?_
  refine w_callV (As := [.int n]) (rest := []) (st := [.int 0]) cx (c_X3_isThing_out l G ad S hW hn) k_553 cal_yX3_isThing (ci := 3) rfl (hP _ _ cM_0) hP rfl ⟨Nat.le_of_ble_eq_true rfl, Nat.le_of_ble_eq_true rfl⟩ hl.1 (Nat.le_of_ble_eq_true rfl) ⟨Nat.zero_le _, Nat.zero_le _⟩ rfl rfl dX3_about_2 ?_
  refine lv_if_ne (tgt := 10) hx hb dX3_about_5 (by decide) (fun c_1 => ?_) (fun c_1 => ?_)
  · exact absurd (by decide) c_1
  · refine lv_iconst (v := -1) hx hb dX3_about_8 (by decide) ?_
    exact r_int cx hr hlk rfl dX3_about_9
def f_X3_about (S : St) (i : Nat) (x : Int32) : Int32 :=
  if x = 0 then ar S 0 i
  else if x = 1 then ar S 1 i
  else if x = 2 then ar S 2 i
  else if x = 3 then ar S 3 i
  else if x = 4 then ar S 4 i
  else if x = 5 then ar S 5 i
  else if x = 6 then ar S 6 i
  else if x = 7 then ar S 7 i
  else (-2)
set_option maxRecDepth 20000 in
theorem c_X3_about (l : Launch) (G : GG) (ad : Nat → Nat) (S : St) (hW : WF S) {i : Nat} (hi : i < nt S) (x : Int32) : MR l yX3_about cX3_about 3 (some .int) 2 43 G ad (cM G ad S) [.ref (ad 0), .int (nI i), .int x] (some (.int (f_X3_about S i x))) := by
  refine MR.of [(0, .ref (ad 0)), (1, .int (nI i)), (2, .int x)] (by decide) (Nat.le_of_ble_eq_true rfl) rfl ?_
  intro p e s m args below meth c cx hr hlk hP ls hl
  have hx := cx.1.1
  have hb := cx.1.2.1
  refine lv_aload_n hx hb dX3_about_0 rfl (lv_at hl 0 rfl) ?_
  refine lv_iload_n hx hb dX3_about_1 rfl (lv_at hl 1 rfl) ?_
  refine w_callV (As := [.int (nI i)]) (rest := []) (st := [.int 1]) cx (c_X3_isThing_in l G ad S hW hi) k_553 cal_yX3_isThing (ci := 3) rfl (hP _ _ cM_0) hP rfl ⟨Nat.le_of_ble_eq_true rfl, Nat.le_of_ble_eq_true rfl⟩ hl.1 (Nat.le_of_ble_eq_true rfl) ⟨Nat.zero_le _, Nat.zero_le _⟩ rfl rfl dX3_about_2 ?_
  refine lv_if_ne (tgt := 10) hx hb dX3_about_5 (by decide) (fun c_1 => ?_) (fun c_1 => ?_)
  · refine lv_iload_n hx hb dX3_about_10 rfl (lv_at hl 2 rfl) ?_
    by_cases c_2 : x = 0
    · refine lv_tableIn (off := 45) (tgt := 56) hx hb dX3_about_11 (by rw [c_2]; decide) (by rw [c_2]; decide) (by rw [c_2]; decide) (by decide) ?_
      refine lv_aload_n hx hb dX3_about_56 rfl (lv_at hl 0 rfl) ?_
      refine w_get cx (ci := 3) rfl iX3 (hP _ _ cM_0) 2 (by decide) k_453 (v := .ref (ad 1)) rfl dX3_about_57 ?_
      refine lv_iload_n hx hb dX3_about_60 rfl (lv_at hl 1 rfl) ?_
      refine w_iald cx (hP _ _ (cM_A (n := 40) 0 (by decide) rfl rfl)) i rfl (Nat.lt_of_lt_of_le hi hW.t) (by decide) dX3_about_61 ?_
      exact r_int cx hr hlk (by rw [f_X3_about, if_pos c_2]) dX3_about_62
    · by_cases c_3 : x = 1
      · refine lv_tableIn (off := 52) (tgt := 63) hx hb dX3_about_11 (by rw [c_3]; decide) (by rw [c_3]; decide) (by rw [c_3]; decide) (by decide) ?_
        refine lv_aload_n hx hb dX3_about_63 rfl (lv_at hl 0 rfl) ?_
        refine w_get cx (ci := 3) rfl iX3 (hP _ _ cM_0) 3 (by decide) k_454 (v := .ref (ad 2)) rfl dX3_about_64 ?_
        refine lv_iload_n hx hb dX3_about_67 rfl (lv_at hl 1 rfl) ?_
        refine w_iald cx (hP _ _ (cM_A (n := 40) 1 (by decide) rfl rfl)) i rfl (Nat.lt_of_lt_of_le hi hW.t) (by decide) dX3_about_68 ?_
        exact r_int cx hr hlk (by rw [f_X3_about, if_neg c_2, if_pos c_3]) dX3_about_69
      · by_cases c_4 : x = 2
        · refine lv_tableIn (off := 59) (tgt := 70) hx hb dX3_about_11 (by rw [c_4]; decide) (by rw [c_4]; decide) (by rw [c_4]; decide) (by decide) ?_
          refine lv_aload_n hx hb dX3_about_70 rfl (lv_at hl 0 rfl) ?_
          refine w_get cx (ci := 3) rfl iX3 (hP _ _ cM_0) 4 (by decide) k_455 (v := .ref (ad 3)) rfl dX3_about_71 ?_
          refine lv_iload_n hx hb dX3_about_74 rfl (lv_at hl 1 rfl) ?_
          refine w_iald cx (hP _ _ (cM_A (n := 40) 2 (by decide) rfl rfl)) i rfl (Nat.lt_of_lt_of_le hi hW.t) (by decide) dX3_about_75 ?_
          exact r_int cx hr hlk (by rw [f_X3_about, if_neg c_2, if_neg c_3, if_pos c_4]) dX3_about_76
        · by_cases c_5 : x = 3
          · refine lv_tableIn (off := 66) (tgt := 77) hx hb dX3_about_11 (by rw [c_5]; decide) (by rw [c_5]; decide) (by rw [c_5]; decide) (by decide) ?_
            refine lv_aload_n hx hb dX3_about_77 rfl (lv_at hl 0 rfl) ?_
            refine w_get cx (ci := 3) rfl iX3 (hP _ _ cM_0) 5 (by decide) k_456 (v := .ref (ad 4)) rfl dX3_about_78 ?_
            refine lv_iload_n hx hb dX3_about_81 rfl (lv_at hl 1 rfl) ?_
            refine w_iald cx (hP _ _ (cM_A (n := 40) 3 (by decide) rfl rfl)) i rfl (Nat.lt_of_lt_of_le hi hW.t) (by decide) dX3_about_82 ?_
            exact r_int cx hr hlk (by rw [f_X3_about, if_neg c_2, if_neg c_3, if_neg c_4, if_pos c_5]) dX3_about_83
          · by_cases c_6 : x = 4
            · refine lv_tableIn (off := 73) (tgt := 84) hx hb dX3_about_11 (by rw [c_6]; decide) (by rw [c_6]; decide) (by rw [c_6]; decide) (by decide) ?_
              refine lv_aload_n hx hb dX3_about_84 rfl (lv_at hl 0 rfl) ?_
              refine w_get cx (ci := 3) rfl iX3 (hP _ _ cM_0) 6 (by decide) k_457 (v := .ref (ad 5)) rfl dX3_about_85 ?_
              refine lv_iload_n hx hb dX3_about_88 rfl (lv_at hl 1 rfl) ?_
              refine w_iald cx (hP _ _ (cM_A (n := 40) 4 (by decide) rfl rfl)) i rfl (Nat.lt_of_lt_of_le hi hW.t) (by decide) dX3_about_89 ?_
              exact r_int cx hr hlk (by rw [f_X3_about, if_neg c_2, if_neg c_3, if_neg c_4, if_neg c_5, if_pos c_6]) dX3_about_90
            · by_cases c_7 : x = 5
              · refine lv_tableIn (off := 80) (tgt := 91) hx hb dX3_about_11 (by rw [c_7]; decide) (by rw [c_7]; decide) (by rw [c_7]; decide) (by decide) ?_
                refine lv_aload_n hx hb dX3_about_91 rfl (lv_at hl 0 rfl) ?_
                refine w_get cx (ci := 3) rfl iX3 (hP _ _ cM_0) 7 (by decide) k_458 (v := .ref (ad 6)) rfl dX3_about_92 ?_
                refine lv_iload_n hx hb dX3_about_95 rfl (lv_at hl 1 rfl) ?_
                refine w_iald cx (hP _ _ (cM_A (n := 40) 5 (by decide) rfl rfl)) i rfl (Nat.lt_of_lt_of_le hi hW.t) (by decide) dX3_about_96 ?_
                exact r_int cx hr hlk (by rw [f_X3_about, if_neg c_2, if_neg c_3, if_neg c_4, if_neg c_5, if_neg c_6, if_pos c_7]) dX3_about_97
              · by_cases c_8 : x = 6
                · refine lv_tableIn (off := 87) (tgt := 98) hx hb dX3_about_11 (by rw [c_8]; decide) (by rw [c_8]; decide) (by rw [c_8]; decide) (by decide) ?_
                  refine lv_aload_n hx hb dX3_about_98 rfl (lv_at hl 0 rfl) ?_
                  refine w_get cx (ci := 3) rfl iX3 (hP _ _ cM_0) 8 (by decide) k_459 (v := .ref (ad 7)) rfl dX3_about_99 ?_
                  refine lv_iload_n hx hb dX3_about_102 rfl (lv_at hl 1 rfl) ?_
                  refine w_iald cx (hP _ _ (cM_A (n := 40) 6 (by decide) rfl rfl)) i rfl (Nat.lt_of_lt_of_le hi hW.t) (by decide) dX3_about_103 ?_
                  exact r_int cx hr hlk (by rw [f_X3_about, if_neg c_2, if_neg c_3, if_neg c_4, if_neg c_5, if_neg c_6, if_neg c_7, if_pos c_8]) dX3_about_104
                · by_cases c_9 : x = 7
                  · refine lv_tableIn (off := 94) (tgt := 105) hx hb dX3_about_11 (by rw [c_9]; decide) (by rw [c_9]; decide) (by rw [c_9]; decide) (by decide) ?_
                    refine lv_aload_n hx hb dX3_about_105 rfl (lv_at hl 0 rfl) ?_
                    refine w_get cx (ci := 3) rfl iX3 (hP _ _ cM_0) 9 (by decide) k_460 (v := .ref (ad 8)) rfl dX3_about_106 ?_
                    refine lv_iload_n hx hb dX3_about_109 rfl (lv_at hl 1 rfl) ?_
                    refine w_iald cx (hP _ _ (cM_A (n := 40) 7 (by decide) rfl rfl)) i rfl (Nat.lt_of_lt_of_le hi hW.t) (by decide) dX3_about_110 ?_
                    exact r_int cx hr hlk (by rw [f_X3_about, if_neg c_2, if_neg c_3, if_neg c_4, if_neg c_5, if_neg c_6, if_neg c_7, if_neg c_8, if_pos c_9]) dX3_about_111
                  · refine lv_tableOut (tgt := 112) hx hb dX3_about_11 (tab_out8 c_2 c_3 c_4 c_5 c_6 c_7 c_8 c_9) (by decide) ?_
                    refine lv_bipush (v := -2) hx hb dX3_about_112 (by decide) ?_
                    exact r_int cx hr hlk (by rw [f_X3_about, if_neg c_2, if_neg c_3, if_neg c_4, if_neg c_5, if_neg c_6, if_neg c_7, if_neg c_8, if_neg c_9]) dX3_about_114
  · exact absurd c_1 (by decide)
set_option maxRecDepth 20000 in
theorem c_X3_error_out (l : Launch) (G : GG) (ad : Nat → Nat) (S : St) (hW : WF S) {n : Int32} (hn : nT S n)  : MR l yX3_error cX3_error 2 (some .int) 2 43 G ad (cM G ad S) [.ref (ad 0), .int n] (some (.int (-1))) := by
  refine MR.of [(0, .ref (ad 0)), (1, .int n)] (by decide) (Nat.le_of_ble_eq_true rfl) rfl ?_
  intro p e s m args below meth c cx hr hlk hP ls hl
  have hx := cx.1.1
  have hb := cx.1.2.1
  refine lv_aload_n hx hb dX3_error_0 rfl (lv_at hl 0 rfl) ?_
  refine lv_iload_n hx hb dX3_error_1 rfl (lv_at hl 1 rfl) ?_
  refine w_callV (As := [.int n]) (rest := []) (st := [.int 0]) cx (c_X3_isThing_out l G ad S hW hn) k_553 cal_yX3_isThing (ci := 3) rfl (hP _ _ cM_0) hP rfl ⟨Nat.le_of_ble_eq_true rfl, Nat.le_of_ble_eq_true rfl⟩ hl.1 (Nat.le_of_ble_eq_true rfl) ⟨Nat.zero_le _, Nat.zero_le _⟩ rfl rfl dX3_error_2 ?_
  refine lv_if_ne (tgt := 10) hx hb dX3_error_5 (by decide) (fun c_1 => ?_) (fun c_1 => ?_)
  · exact absurd (by decide) c_1
  · refine lv_iconst (v := -1) hx hb dX3_error_8 (by decide) ?_
    exact r_int cx hr hlk rfl dX3_error_9
def f_X3_error (S : St) (i : Nat)  : Int32 :=
  if ar S 0 i = 0 then 0
  else if ar S 5 i = -1000000 then (-1000000)
  else ar S 16 (ix (ar S 5 i))
set_option maxRecDepth 20000 in
theorem c_X3_error (l : Launch) (G : GG) (ad : Nat → Nat) (S : St) (hW : WF S) {i : Nat} (hi : i < nt S)  : MR l yX3_error cX3_error 2 (some .int) 2 43 G ad (cM G ad S) [.ref (ad 0), .int (nI i)] (some (.int (f_X3_error S i))) := by
  refine MR.of [(0, .ref (ad 0)), (1, .int (nI i))] (by decide) (Nat.le_of_ble_eq_true rfl) rfl ?_
  intro p e s m args below meth c cx hr hlk hP ls hl
  have hx := cx.1.1
  have hb := cx.1.2.1
  refine lv_aload_n hx hb dX3_error_0 rfl (lv_at hl 0 rfl) ?_
  refine lv_iload_n hx hb dX3_error_1 rfl (lv_at hl 1 rfl) ?_
  refine w_callV (As := [.int (nI i)]) (rest := []) (st := [.int 1]) cx (c_X3_isThing_in l G ad S hW hi) k_553 cal_yX3_isThing (ci := 3) rfl (hP _ _ cM_0) hP rfl ⟨Nat.le_of_ble_eq_true rfl, Nat.le_of_ble_eq_true rfl⟩ hl.1 (Nat.le_of_ble_eq_true rfl) ⟨Nat.zero_le _, Nat.zero_le _⟩ rfl rfl dX3_error_2 ?_
  refine lv_if_ne (tgt := 10) hx hb dX3_error_5 (by decide) (fun c_1 => ?_) (fun c_1 => ?_)
  · refine lv_aload_n hx hb dX3_error_10 rfl (lv_at hl 0 rfl) ?_
    refine w_get cx (ci := 3) rfl iX3 (hP _ _ cM_0) 2 (by decide) k_453 (v := .ref (ad 1)) rfl dX3_error_11 ?_
    refine lv_iload_n hx hb dX3_error_14 rfl (lv_at hl 1 rfl) ?_
    refine w_iald cx (hP _ _ (cM_A (n := 40) 0 (by decide) rfl rfl)) i rfl (Nat.lt_of_lt_of_le hi hW.t) (by decide) dX3_error_15 ?_
    refine lv_if_ne (tgt := 23) hx hb dX3_error_16 (by decide) (fun c_2 => ?_) (fun c_2 => ?_)
    · refine lv_aload_n hx hb dX3_error_23 rfl (lv_at hl 0 rfl) ?_
      refine w_get cx (ci := 3) rfl iX3 (hP _ _ cM_0) 7 (by decide) k_458 (v := .ref (ad 6)) rfl dX3_error_24 ?_
      refine lv_iload_n hx hb dX3_error_27 rfl (lv_at hl 1 rfl) ?_
      refine w_iald cx (hP _ _ (cM_A (n := 40) 5 (by decide) rfl rfl)) i rfl (Nat.lt_of_lt_of_le hi hW.t) (by decide) dX3_error_28 ?_
      refine w_ldc cx k_548 dX3_error_29 ?_
      refine lv_icmp_ne (tgt := 39) hx hb dX3_error_31 (by decide) (fun c_3 => ?_) (fun c_3 => ?_)
      · refine lv_aload_n hx hb dX3_error_39 rfl (lv_at hl 0 rfl) ?_
        refine w_get cx (ci := 3) rfl iX3 (hP _ _ cM_0) 19 (by decide) k_470 (v := .ref (ad 17)) rfl dX3_error_40 ?_
        refine lv_aload_n hx hb dX3_error_43 rfl (lv_at hl 0 rfl) ?_
        refine w_get cx (ci := 3) rfl iX3 (hP _ _ cM_0) 7 (by decide) k_458 (v := .ref (ad 6)) rfl dX3_error_44 ?_
        refine lv_iload_n hx hb dX3_error_47 rfl (lv_at hl 1 rfl) ?_
        refine w_iald cx (hP _ _ (cM_A (n := 40) 5 (by decide) rfl rfl)) i rfl (Nat.lt_of_lt_of_le hi hW.t) (by decide) dX3_error_48 ?_
        refine w_iald cx (hP _ _ (cM_A (n := 300) 16 (by decide) rfl rfl)) (ix (ar S 5 i)) (hW.la hi c_3).1 (Nat.lt_of_lt_of_le (hW.la hi c_3).2 hW.r) (by decide) dX3_error_49 ?_
        exact r_int cx hr hlk (by rw [f_X3_error, if_neg c_2, if_neg c_3]) dX3_error_50
      · refine w_ldc cx k_548 dX3_error_34 ?_
        refine lv_goto (tgt := 50) hx hb dX3_error_36 (by decide) ?_
        exact r_int cx hr hlk (by rw [f_X3_error, if_neg c_2, if_pos c_3]) dX3_error_50
    · refine lv_iconst (v := 0) hx hb dX3_error_19 (by decide) ?_
      refine lv_goto (tgt := 50) hx hb dX3_error_20 (by decide) ?_
      exact r_int cx hr hlk (by rw [f_X3_error, if_pos c_2]) dX3_error_50
  · exact absurd c_1 (by decide)
set_option maxRecDepth 20000 in
theorem c_X3_span_out (l : Launch) (G : GG) (ad : Nat → Nat) (S : St) (hW : WF S) {n : Int32} (hn : nT S n)  : MR l yX3_span cX3_span 2 (some .int) 2 43 G ad (cM G ad S) [.ref (ad 0), .int n] (some (.int (-1))) := by
  refine MR.of [(0, .ref (ad 0)), (1, .int n)] (by decide) (Nat.le_of_ble_eq_true rfl) rfl ?_
  intro p e s m args below meth c cx hr hlk hP ls hl
  have hx := cx.1.1
  have hb := cx.1.2.1
  refine lv_aload_n hx hb dX3_span_0 rfl (lv_at hl 0 rfl) ?_
  refine lv_iload_n hx hb dX3_span_1 rfl (lv_at hl 1 rfl) ?_
  refine w_callV (As := [.int n]) (rest := []) (st := [.int 0]) cx (c_X3_isThing_out l G ad S hW hn) k_553 cal_yX3_isThing (ci := 3) rfl (hP _ _ cM_0) hP rfl ⟨Nat.le_of_ble_eq_true rfl, Nat.le_of_ble_eq_true rfl⟩ hl.1 (Nat.le_of_ble_eq_true rfl) ⟨Nat.zero_le _, Nat.zero_le _⟩ rfl rfl dX3_span_2 ?_
  refine lv_if_ne (tgt := 10) hx hb dX3_span_5 (by decide) (fun c_1 => ?_) (fun c_1 => ?_)
  · exact absurd (by decide) c_1
  · refine lv_iconst (v := -1) hx hb dX3_span_8 (by decide) ?_
    exact r_int cx hr hlk rfl dX3_span_9
def f_X3_span (S : St) (i : Nat)  : Int32 :=
  if ar S 0 i = 0 then 0
  else if ar S 5 i = -1000000 then (-1000000)
  else f_X3_spanOn S i (sc S 0)
set_option maxRecDepth 20000 in
theorem c_X3_span (l : Launch) (G : GG) (ad : Nat → Nat) (S : St) (hW : WF S) {i : Nat} (hi : i < nt S)  : MR l yX3_span cX3_span 2 (some .int) 2 43 G ad (cM G ad S) [.ref (ad 0), .int (nI i)] (some (.int (f_X3_span S i))) := by
  refine MR.of [(0, .ref (ad 0)), (1, .int (nI i))] (by decide) (Nat.le_of_ble_eq_true rfl) rfl ?_
  intro p e s m args below meth c cx hr hlk hP ls hl
  have hx := cx.1.1
  have hb := cx.1.2.1
  refine lv_aload_n hx hb dX3_span_0 rfl (lv_at hl 0 rfl) ?_
  refine lv_iload_n hx hb dX3_span_1 rfl (lv_at hl 1 rfl) ?_
  refine w_callV (As := [.int (nI i)]) (rest := []) (st := [.int 1]) cx (c_X3_isThing_in l G ad S hW hi) k_553 cal_yX3_isThing (ci := 3) rfl (hP _ _ cM_0) hP rfl ⟨Nat.le_of_ble_eq_true rfl, Nat.le_of_ble_eq_true rfl⟩ hl.1 (Nat.le_of_ble_eq_true rfl) ⟨Nat.zero_le _, Nat.zero_le _⟩ rfl rfl dX3_span_2 ?_
  refine lv_if_ne (tgt := 10) hx hb dX3_span_5 (by decide) (fun c_1 => ?_) (fun c_1 => ?_)
  · refine lv_aload_n hx hb dX3_span_10 rfl (lv_at hl 0 rfl) ?_
    refine w_get cx (ci := 3) rfl iX3 (hP _ _ cM_0) 2 (by decide) k_453 (v := .ref (ad 1)) rfl dX3_span_11 ?_
    refine lv_iload_n hx hb dX3_span_14 rfl (lv_at hl 1 rfl) ?_
    refine w_iald cx (hP _ _ (cM_A (n := 40) 0 (by decide) rfl rfl)) i rfl (Nat.lt_of_lt_of_le hi hW.t) (by decide) dX3_span_15 ?_
    refine lv_if_ne (tgt := 23) hx hb dX3_span_16 (by decide) (fun c_2 => ?_) (fun c_2 => ?_)
    · refine lv_aload_n hx hb dX3_span_23 rfl (lv_at hl 0 rfl) ?_
      refine w_get cx (ci := 3) rfl iX3 (hP _ _ cM_0) 7 (by decide) k_458 (v := .ref (ad 6)) rfl dX3_span_24 ?_
      refine lv_iload_n hx hb dX3_span_27 rfl (lv_at hl 1 rfl) ?_
      refine w_iald cx (hP _ _ (cM_A (n := 40) 5 (by decide) rfl rfl)) i rfl (Nat.lt_of_lt_of_le hi hW.t) (by decide) dX3_span_28 ?_
      refine w_ldc cx k_548 dX3_span_29 ?_
      refine lv_icmp_ne (tgt := 39) hx hb dX3_span_31 (by decide) (fun c_3 => ?_) (fun c_3 => ?_)
      · refine lv_aload_n hx hb dX3_span_39 rfl (lv_at hl 0 rfl) ?_
        refine lv_iload_n hx hb dX3_span_40 rfl (lv_at hl 1 rfl) ?_
        refine lv_aload_n hx hb dX3_span_41 rfl (lv_at hl 0 rfl) ?_
        refine w_get cx (ci := 3) rfl iX3 (hP _ _ cM_0) 0 (by decide) k_451 (v := .int (sc S 0)) rfl dX3_span_42 ?_
        refine w_callV (As := [.int (nI i), .int (sc S 0)]) (rest := []) (st := [.int (f_X3_spanOn S i (sc S 0))]) cx (c_X3_spanOn l G ad S hW (i := i) hi (sc S 0)) k_595 cal_yX3_spanOn (ci := 3) rfl (hP _ _ cM_0) hP rfl ⟨Nat.le_of_ble_eq_true rfl, Nat.le_of_ble_eq_true rfl⟩ hl.1 (Nat.le_of_ble_eq_true rfl) ⟨Nat.zero_le _, Nat.zero_le _⟩ rfl rfl dX3_span_45 ?_
        exact r_int cx hr hlk (by rw [f_X3_span, if_neg c_2, if_neg c_3]) dX3_span_48
      · refine w_ldc cx k_548 dX3_span_34 ?_
        refine lv_goto (tgt := 48) hx hb dX3_span_36 (by decide) ?_
        exact r_int cx hr hlk (by rw [f_X3_span, if_neg c_2, if_pos c_3]) dX3_span_48
    · refine lv_iconst (v := 0) hx hb dX3_span_19 (by decide) ?_
      refine lv_goto (tgt := 48) hx hb dX3_span_20 (by decide) ?_
      exact r_int cx hr hlk (by rw [f_X3_span, if_pos c_2]) dX3_span_48
  · exact absurd c_1 (by decide)
set_option maxRecDepth 20000 in
theorem c_X3_settled_out (l : Launch) (G : GG) (ad : Nat → Nat) (S : St) (hW : WF S) {n : Int32} (hn : nT S n)  : MR l yX3_settled cX3_settled 2 (some .int) 2 43 G ad (cM G ad S) [.ref (ad 0), .int n] (some (.int (-1))) := by
  refine MR.of [(0, .ref (ad 0)), (1, .int n)] (by decide) (Nat.le_of_ble_eq_true rfl) rfl ?_
  intro p e s m args below meth c cx hr hlk hP ls hl
  have hx := cx.1.1
  have hb := cx.1.2.1
  refine lv_aload_n hx hb dX3_settled_0 rfl (lv_at hl 0 rfl) ?_
  refine lv_iload_n hx hb dX3_settled_1 rfl (lv_at hl 1 rfl) ?_
  refine w_callV (As := [.int n]) (rest := []) (st := [.int 0]) cx (c_X3_isThing_out l G ad S hW hn) k_553 cal_yX3_isThing (ci := 3) rfl (hP _ _ cM_0) hP rfl ⟨Nat.le_of_ble_eq_true rfl, Nat.le_of_ble_eq_true rfl⟩ hl.1 (Nat.le_of_ble_eq_true rfl) ⟨Nat.zero_le _, Nat.zero_le _⟩ rfl rfl dX3_settled_2 ?_
  refine lv_if_ne (tgt := 12) hx hb dX3_settled_5 (by decide) (fun c_1 => ?_) (fun c_1 => ?_)
  · exact absurd (by decide) c_1
  · refine lv_iconst (v := -1) hx hb dX3_settled_8 (by decide) ?_
    refine lv_goto (tgt := 25) hx hb dX3_settled_9 (by decide) ?_
    exact r_int cx hr hlk rfl dX3_settled_25
def f_X3_settled (S : St) (i : Nat)  : Int32 :=
  if f_X3_settledNow S i = 0 then 0
  else 1
set_option maxRecDepth 20000 in
theorem c_X3_settled (l : Launch) (G : GG) (ad : Nat → Nat) (S : St) (hW : WF S) {i : Nat} (hi : i < nt S)  : MR l yX3_settled cX3_settled 2 (some .int) 2 43 G ad (cM G ad S) [.ref (ad 0), .int (nI i)] (some (.int (f_X3_settled S i))) := by
  refine MR.of [(0, .ref (ad 0)), (1, .int (nI i))] (by decide) (Nat.le_of_ble_eq_true rfl) rfl ?_
  intro p e s m args below meth c cx hr hlk hP ls hl
  have hx := cx.1.1
  have hb := cx.1.2.1
  refine lv_aload_n hx hb dX3_settled_0 rfl (lv_at hl 0 rfl) ?_
  refine lv_iload_n hx hb dX3_settled_1 rfl (lv_at hl 1 rfl) ?_
  refine w_callV (As := [.int (nI i)]) (rest := []) (st := [.int 1]) cx (c_X3_isThing_in l G ad S hW hi) k_553 cal_yX3_isThing (ci := 3) rfl (hP _ _ cM_0) hP rfl ⟨Nat.le_of_ble_eq_true rfl, Nat.le_of_ble_eq_true rfl⟩ hl.1 (Nat.le_of_ble_eq_true rfl) ⟨Nat.zero_le _, Nat.zero_le _⟩ rfl rfl dX3_settled_2 ?_
  refine lv_if_ne (tgt := 12) hx hb dX3_settled_5 (by decide) (fun c_1 => ?_) (fun c_1 => ?_)
  · refine lv_aload_n hx hb dX3_settled_12 rfl (lv_at hl 0 rfl) ?_
    refine lv_iload_n hx hb dX3_settled_13 rfl (lv_at hl 1 rfl) ?_
    refine w_callV (As := [.int (nI i)]) (rest := []) (st := [.int (f_X3_settledNow S i)]) cx (c_X3_settledNow l G ad S hW (i := i) hi) k_579 cal_yX3_settledNow (ci := 3) rfl (hP _ _ cM_0) hP rfl ⟨Nat.le_of_ble_eq_true rfl, Nat.le_of_ble_eq_true rfl⟩ hl.1 (Nat.le_of_ble_eq_true rfl) ⟨Nat.zero_le _, Nat.zero_le _⟩ rfl rfl dX3_settled_14 ?_
    refine lv_if_eq (tgt := 24) hx hb dX3_settled_17 (by decide) (fun c_2 => ?_) (fun c_2 => ?_)
    · refine lv_iconst (v := 0) hx hb dX3_settled_24 (by decide) ?_
      exact r_int cx hr hlk (by rw [f_X3_settled, if_pos c_2]) dX3_settled_25
    · refine lv_iconst (v := 1) hx hb dX3_settled_20 (by decide) ?_
      refine lv_goto (tgt := 25) hx hb dX3_settled_21 (by decide) ?_
      exact r_int cx hr hlk (by rw [f_X3_settled, if_neg c_2]) dX3_settled_25
  · exact absurd c_1 (by decide)
set_option maxRecDepth 20000 in
theorem c_X3_due_out (l : Launch) (G : GG) (ad : Nat → Nat) (S : St) (hW : WF S) {n : Int32} (hn : nT S n)  : MR l yX3_due cX3_due 2 (some .int) 2 43 G ad (cM G ad S) [.ref (ad 0), .int n] (some (.int (-1))) := by
  refine MR.of [(0, .ref (ad 0)), (1, .int n)] (by decide) (Nat.le_of_ble_eq_true rfl) rfl ?_
  intro p e s m args below meth c cx hr hlk hP ls hl
  have hx := cx.1.1
  have hb := cx.1.2.1
  refine lv_aload_n hx hb dX3_due_0 rfl (lv_at hl 0 rfl) ?_
  refine lv_iload_n hx hb dX3_due_1 rfl (lv_at hl 1 rfl) ?_
  refine w_callV (As := [.int n]) (rest := []) (st := [.int 0]) cx (c_X3_isThing_out l G ad S hW hn) k_553 cal_yX3_isThing (ci := 3) rfl (hP _ _ cM_0) hP rfl ⟨Nat.le_of_ble_eq_true rfl, Nat.le_of_ble_eq_true rfl⟩ hl.1 (Nat.le_of_ble_eq_true rfl) ⟨Nat.zero_le _, Nat.zero_le _⟩ rfl rfl dX3_due_2 ?_
  refine lv_if_ne (tgt := 12) hx hb dX3_due_5 (by decide) (fun c_1 => ?_) (fun c_1 => ?_)
  · exact absurd (by decide) c_1
  · refine lv_iconst (v := -1) hx hb dX3_due_8 (by decide) ?_
    refine lv_goto (tgt := 25) hx hb dX3_due_9 (by decide) ?_
    exact r_int cx hr hlk rfl dX3_due_25
def f_X3_due (S : St) (i : Nat)  : Int32 :=
  if f_X3_dueNow S i = 0 then 0
  else 1
set_option maxRecDepth 20000 in
theorem c_X3_due (l : Launch) (G : GG) (ad : Nat → Nat) (S : St) (hW : WF S) {i : Nat} (hi : i < nt S)  : MR l yX3_due cX3_due 2 (some .int) 2 43 G ad (cM G ad S) [.ref (ad 0), .int (nI i)] (some (.int (f_X3_due S i))) := by
  refine MR.of [(0, .ref (ad 0)), (1, .int (nI i))] (by decide) (Nat.le_of_ble_eq_true rfl) rfl ?_
  intro p e s m args below meth c cx hr hlk hP ls hl
  have hx := cx.1.1
  have hb := cx.1.2.1
  refine lv_aload_n hx hb dX3_due_0 rfl (lv_at hl 0 rfl) ?_
  refine lv_iload_n hx hb dX3_due_1 rfl (lv_at hl 1 rfl) ?_
  refine w_callV (As := [.int (nI i)]) (rest := []) (st := [.int 1]) cx (c_X3_isThing_in l G ad S hW hi) k_553 cal_yX3_isThing (ci := 3) rfl (hP _ _ cM_0) hP rfl ⟨Nat.le_of_ble_eq_true rfl, Nat.le_of_ble_eq_true rfl⟩ hl.1 (Nat.le_of_ble_eq_true rfl) ⟨Nat.zero_le _, Nat.zero_le _⟩ rfl rfl dX3_due_2 ?_
  refine lv_if_ne (tgt := 12) hx hb dX3_due_5 (by decide) (fun c_1 => ?_) (fun c_1 => ?_)
  · refine lv_aload_n hx hb dX3_due_12 rfl (lv_at hl 0 rfl) ?_
    refine lv_iload_n hx hb dX3_due_13 rfl (lv_at hl 1 rfl) ?_
    refine w_callV (As := [.int (nI i)]) (rest := []) (st := [.int (f_X3_dueNow S i)]) cx (c_X3_dueNow l G ad S hW (i := i) hi) k_583 cal_yX3_dueNow (ci := 3) rfl (hP _ _ cM_0) hP rfl ⟨Nat.le_of_ble_eq_true rfl, Nat.le_of_ble_eq_true rfl⟩ hl.1 (Nat.le_of_ble_eq_true rfl) ⟨Nat.zero_le _, Nat.zero_le _⟩ rfl rfl dX3_due_14 ?_
    refine lv_if_eq (tgt := 24) hx hb dX3_due_17 (by decide) (fun c_2 => ?_) (fun c_2 => ?_)
    · refine lv_iconst (v := 0) hx hb dX3_due_24 (by decide) ?_
      exact r_int cx hr hlk (by rw [f_X3_due, if_pos c_2]) dX3_due_25
    · refine lv_iconst (v := 1) hx hb dX3_due_20 (by decide) ?_
      refine lv_goto (tgt := 25) hx hb dX3_due_21 (by decide) ?_
      exact r_int cx hr hlk (by rw [f_X3_due, if_neg c_2]) dX3_due_25
  · exact absurd c_1 (by decide)
set_option maxRecDepth 20000 in
theorem c_X3_judge_out (l : Launch) (G : GG) (ad : Nat → Nat) (S : St) (hW : WF S) {n : Int32} (hn : nT S n)  : MR l yX3_judge cX3_judge 2 (some .int) 2 47 G ad (cM G ad S) [.ref (ad 0), .int n] (some (.int (-1))) := by
  refine MR.of [(0, .ref (ad 0)), (1, .int n)] (by decide) (Nat.le_of_ble_eq_true rfl) rfl ?_
  intro p e s m args below meth c cx hr hlk hP ls hl
  have hx := cx.1.1
  have hb := cx.1.2.1
  refine lv_aload_n hx hb dX3_judge_0 rfl (lv_at hl 0 rfl) ?_
  refine lv_iload_n hx hb dX3_judge_1 rfl (lv_at hl 1 rfl) ?_
  refine w_callV (As := [.int n]) (rest := []) (st := [.int 0]) cx (c_X3_isThing_out l G ad S hW hn) k_553 cal_yX3_isThing (ci := 3) rfl (hP _ _ cM_0) hP rfl ⟨Nat.le_of_ble_eq_true rfl, Nat.le_of_ble_eq_true rfl⟩ hl.1 (Nat.le_of_ble_eq_true rfl) ⟨Nat.zero_le _, Nat.zero_le _⟩ rfl rfl dX3_judge_2 ?_
  refine lv_if_eq (tgt := 20) hx hb dX3_judge_5 (by decide) (fun c_1 => ?_) (fun c_1 => ?_)
  · refine lv_iconst (v := -1) hx hb dX3_judge_20 (by decide) ?_
    exact r_int cx hr hlk rfl dX3_judge_21
  · exact absurd (by decide) c_1
def f_X3_judge (S : St) (i : Nat)  : Int32 :=
  f_X3_judgedOn S i (sc S 0)
set_option maxRecDepth 20000 in
theorem c_X3_judge (l : Launch) (G : GG) (ad : Nat → Nat) (S : St) (hW : WF S) {i : Nat} (hi : i < nt S)  : MR l yX3_judge cX3_judge 2 (some .int) 2 47 G ad (cM G ad S) [.ref (ad 0), .int (nI i)] (some (.int (f_X3_judge S i))) := by
  refine MR.of [(0, .ref (ad 0)), (1, .int (nI i))] (by decide) (Nat.le_of_ble_eq_true rfl) rfl ?_
  intro p e s m args below meth c cx hr hlk hP ls hl
  have hx := cx.1.1
  have hb := cx.1.2.1
  refine lv_aload_n hx hb dX3_judge_0 rfl (lv_at hl 0 rfl) ?_
  refine lv_iload_n hx hb dX3_judge_1 rfl (lv_at hl 1 rfl) ?_
  refine w_callV (As := [.int (nI i)]) (rest := []) (st := [.int 1]) cx (c_X3_isThing_in l G ad S hW hi) k_553 cal_yX3_isThing (ci := 3) rfl (hP _ _ cM_0) hP rfl ⟨Nat.le_of_ble_eq_true rfl, Nat.le_of_ble_eq_true rfl⟩ hl.1 (Nat.le_of_ble_eq_true rfl) ⟨Nat.zero_le _, Nat.zero_le _⟩ rfl rfl dX3_judge_2 ?_
  refine lv_if_eq (tgt := 20) hx hb dX3_judge_5 (by decide) (fun c_1 => ?_) (fun c_1 => ?_)
  · exact absurd c_1 (by decide)
  · refine lv_aload_n hx hb dX3_judge_8 rfl (lv_at hl 0 rfl) ?_
    refine lv_iload_n hx hb dX3_judge_9 rfl (lv_at hl 1 rfl) ?_
    refine lv_aload_n hx hb dX3_judge_10 rfl (lv_at hl 0 rfl) ?_
    refine w_get cx (ci := 3) rfl iX3 (hP _ _ cM_0) 0 (by decide) k_451 (v := .int (sc S 0)) rfl dX3_judge_11 ?_
    refine w_callV (As := [.int (nI i), .int (sc S 0)]) (rest := []) (st := [.int (f_X3_judgedOn S i (sc S 0))]) cx (c_X3_judgedOn l G ad S hW (i := i) hi (sc S 0)) k_643 cal_yX3_judgedOn (ci := 3) rfl (hP _ _ cM_0) hP rfl ⟨Nat.le_of_ble_eq_true rfl, Nat.le_of_ble_eq_true rfl⟩ hl.1 (Nat.le_of_ble_eq_true rfl) ⟨Nat.zero_le _, Nat.zero_le _⟩ rfl rfl dX3_judge_14 ?_
    refine lv_goto (tgt := 21) hx hb dX3_judge_17 (by decide) ?_
    exact r_int cx hr hlk (by rw [f_X3_judge]) dX3_judge_21
theorem dueNow_la {S : St} {i : Nat} (h0 : ¬ ar S 0 i = 0) (h : f_X3_dueNow S i = 0) : ¬ ar S 5 i = -1000000 := by
  intro e
  rw [f_X3_dueNow, if_neg h0, if_pos e] at h
  exact absurd h (by decide)
set_option maxRecDepth 20000 in
theorem c_X3_left_out (l : Launch) (G : GG) (ad : Nat → Nat) (S : St) (hW : WF S) {n : Int32} (hn : nT S n)  : MR l yX3_left cX3_left 2 (some .int) 2 43 G ad (cM G ad S) [.ref (ad 0), .int n] (some (.int (-1))) := by
  refine MR.of [(0, .ref (ad 0)), (1, .int n)] (by decide) (Nat.le_of_ble_eq_true rfl) rfl ?_
  intro p e s m args below meth c cx hr hlk hP ls hl
  have hx := cx.1.1
  have hb := cx.1.2.1
  refine lv_aload_n hx hb dX3_left_0 rfl (lv_at hl 0 rfl) ?_
  refine lv_iload_n hx hb dX3_left_1 rfl (lv_at hl 1 rfl) ?_
  refine w_callV (As := [.int n]) (rest := []) (st := [.int 0]) cx (c_X3_isThing_out l G ad S hW hn) k_553 cal_yX3_isThing (ci := 3) rfl (hP _ _ cM_0) hP rfl ⟨Nat.le_of_ble_eq_true rfl, Nat.le_of_ble_eq_true rfl⟩ hl.1 (Nat.le_of_ble_eq_true rfl) ⟨Nat.zero_le _, Nat.zero_le _⟩ rfl rfl dX3_left_2 ?_
  refine lv_if_ne (tgt := 10) hx hb dX3_left_5 (by decide) (fun c_1 => ?_) (fun c_1 => ?_)
  · exact absurd (by decide) c_1
  · refine lv_iconst (v := -1) hx hb dX3_left_8 (by decide) ?_
    exact r_int cx hr hlk rfl dX3_left_9
def f_X3_left (S : St) (i : Nat)  : Int32 :=
  if ar S 0 i = 0 then (-1000000)
  else if f_X3_dueNow S i = 0 then (((ar S 15 (ix (ar S 5 i))) + (ar S 2 i)) + 1) - (sc S 0)
  else 0
set_option maxRecDepth 20000 in
theorem c_X3_left (l : Launch) (G : GG) (ad : Nat → Nat) (S : St) (hW : WF S) {i : Nat} (hi : i < nt S)  : MR l yX3_left cX3_left 2 (some .int) 2 43 G ad (cM G ad S) [.ref (ad 0), .int (nI i)] (some (.int (f_X3_left S i))) := by
  refine MR.of [(0, .ref (ad 0)), (1, .int (nI i))] (by decide) (Nat.le_of_ble_eq_true rfl) rfl ?_
  intro p e s m args below meth c cx hr hlk hP ls hl
  have hx := cx.1.1
  have hb := cx.1.2.1
  refine lv_aload_n hx hb dX3_left_0 rfl (lv_at hl 0 rfl) ?_
  refine lv_iload_n hx hb dX3_left_1 rfl (lv_at hl 1 rfl) ?_
  refine w_callV (As := [.int (nI i)]) (rest := []) (st := [.int 1]) cx (c_X3_isThing_in l G ad S hW hi) k_553 cal_yX3_isThing (ci := 3) rfl (hP _ _ cM_0) hP rfl ⟨Nat.le_of_ble_eq_true rfl, Nat.le_of_ble_eq_true rfl⟩ hl.1 (Nat.le_of_ble_eq_true rfl) ⟨Nat.zero_le _, Nat.zero_le _⟩ rfl rfl dX3_left_2 ?_
  refine lv_if_ne (tgt := 10) hx hb dX3_left_5 (by decide) (fun c_1 => ?_) (fun c_1 => ?_)
  · refine lv_aload_n hx hb dX3_left_10 rfl (lv_at hl 0 rfl) ?_
    refine w_get cx (ci := 3) rfl iX3 (hP _ _ cM_0) 2 (by decide) k_453 (v := .ref (ad 1)) rfl dX3_left_11 ?_
    refine lv_iload_n hx hb dX3_left_14 rfl (lv_at hl 1 rfl) ?_
    refine w_iald cx (hP _ _ (cM_A (n := 40) 0 (by decide) rfl rfl)) i rfl (Nat.lt_of_lt_of_le hi hW.t) (by decide) dX3_left_15 ?_
    refine lv_if_ne (tgt := 24) hx hb dX3_left_16 (by decide) (fun c_2 => ?_) (fun c_2 => ?_)
    · refine lv_aload_n hx hb dX3_left_24 rfl (lv_at hl 0 rfl) ?_
      refine lv_iload_n hx hb dX3_left_25 rfl (lv_at hl 1 rfl) ?_
      refine w_callV (As := [.int (nI i)]) (rest := []) (st := [.int (f_X3_dueNow S i)]) cx (c_X3_dueNow l G ad S hW (i := i) hi) k_583 cal_yX3_dueNow (ci := 3) rfl (hP _ _ cM_0) hP rfl ⟨Nat.le_of_ble_eq_true rfl, Nat.le_of_ble_eq_true rfl⟩ hl.1 (Nat.le_of_ble_eq_true rfl) ⟨Nat.zero_le _, Nat.zero_le _⟩ rfl rfl dX3_left_26 ?_
      refine lv_if_eq (tgt := 36) hx hb dX3_left_29 (by decide) (fun c_3 => ?_) (fun c_3 => ?_)
      · refine lv_aload_n hx hb dX3_left_36 rfl (lv_at hl 0 rfl) ?_
        refine w_get cx (ci := 3) rfl iX3 (hP _ _ cM_0) 18 (by decide) k_469 (v := .ref (ad 16)) rfl dX3_left_37 ?_
        refine lv_aload_n hx hb dX3_left_40 rfl (lv_at hl 0 rfl) ?_
        refine w_get cx (ci := 3) rfl iX3 (hP _ _ cM_0) 7 (by decide) k_458 (v := .ref (ad 6)) rfl dX3_left_41 ?_
        refine lv_iload_n hx hb dX3_left_44 rfl (lv_at hl 1 rfl) ?_
        refine w_iald cx (hP _ _ (cM_A (n := 40) 5 (by decide) rfl rfl)) i rfl (Nat.lt_of_lt_of_le hi hW.t) (by decide) dX3_left_45 ?_
        refine w_iald cx (hP _ _ (cM_A (n := 300) 15 (by decide) rfl rfl)) (ix (ar S 5 i)) (hW.la hi (dueNow_la c_2 c_3)).1 (Nat.lt_of_lt_of_le (hW.la hi (dueNow_la c_2 c_3)).2 hW.r) (by decide) dX3_left_46 ?_
        refine lv_aload_n hx hb dX3_left_47 rfl (lv_at hl 0 rfl) ?_
        refine w_get cx (ci := 3) rfl iX3 (hP _ _ cM_0) 4 (by decide) k_455 (v := .ref (ad 3)) rfl dX3_left_48 ?_
        refine lv_iload_n hx hb dX3_left_51 rfl (lv_at hl 1 rfl) ?_
        refine w_iald cx (hP _ _ (cM_A (n := 40) 2 (by decide) rfl rfl)) i rfl (Nat.lt_of_lt_of_le hi hW.t) (by decide) dX3_left_52 ?_
        refine lv_iadd hx hb dX3_left_53 ?_
        refine lv_iconst (v := 1) hx hb dX3_left_54 (by decide) ?_
        refine lv_iadd hx hb dX3_left_55 ?_
        refine lv_aload_n hx hb dX3_left_56 rfl (lv_at hl 0 rfl) ?_
        refine w_get cx (ci := 3) rfl iX3 (hP _ _ cM_0) 0 (by decide) k_451 (v := .int (sc S 0)) rfl dX3_left_57 ?_
        refine lv_isub hx hb dX3_left_60 ?_
        exact r_int cx hr hlk (by rw [f_X3_left, if_neg c_2, if_pos c_3]) dX3_left_61
      · refine lv_iconst (v := 0) hx hb dX3_left_32 (by decide) ?_
        refine lv_goto (tgt := 61) hx hb dX3_left_33 (by decide) ?_
        exact r_int cx hr hlk (by rw [f_X3_left, if_neg c_2, if_neg c_3]) dX3_left_61
    · refine w_ldc cx k_548 dX3_left_19 ?_
      refine lv_goto (tgt := 61) hx hb dX3_left_21 (by decide) ?_
      exact r_int cx hr hlk (by rw [f_X3_left, if_pos c_2]) dX3_left_61
  · exact absurd c_1 (by decide)
set_option maxRecDepth 20000 in
theorem c_X3_told_out (l : Launch) (G : GG) (ad : Nat → Nat) (S : St) (hW : WF S) {n : Int32} (hn : nR S n) (x : Int32) : MR l yX3_told cX3_told 3 (some .int) 1 22 G ad (cM G ad S) [.ref (ad 0), .int n, .int x] (some (.int (-1))) := by
  refine MR.of [(0, .ref (ad 0)), (1, .int n), (2, .int x)] (by decide) (Nat.le_of_ble_eq_true rfl) rfl ?_
  intro p e s m args below meth c cx hr hlk hP ls hl
  have hx := cx.1.1
  have hb := cx.1.2.1
  refine lv_iload_n hx hb dX3_told_0 rfl (lv_at hl 1 rfl) ?_
  refine lv_iconst (v := 0) hx hb dX3_told_1 (by decide) ?_
  refine lv_aload_n hx hb dX3_told_2 rfl (lv_at hl 0 rfl) ?_
  refine w_get cx (ci := 3) rfl iX3 (hP _ _ cM_0) 15 (by decide) k_466 (v := .int (nI (nr S))) rfl dX3_told_3 ?_
  refine lv_iconst (v := 1) hx hb dX3_told_6 (by decide) ?_
  refine lv_isub hx hb dX3_told_7 ?_
  refine w_callS (As := [.int n, .int 0, .int ((nI (nr S)) - 1)]) (rest := []) (st := [.int (f_X3_in n 0 ((nI (nr S)) - 1))]) cx (c_X3_in l G ad _ n 0 ((nI (nr S)) - 1)) k_541 cal_yX3_in hP rfl ⟨Nat.le_of_ble_eq_true rfl, Nat.le_of_ble_eq_true rfl⟩ hl.1 (Nat.le_of_ble_eq_true rfl) ⟨Nat.zero_le _, Nat.zero_le _⟩ rfl rfl dX3_told_8 ?_
  refine lv_if_ne (tgt := 16) hx hb dX3_told_11 (by decide) (fun c_1 => ?_) (fun c_1 => ?_)
  · exact absurd (in_out (Nat.lt_of_le_of_lt hW.r (by decide)) hn) c_1
  · refine lv_iconst (v := -1) hx hb dX3_told_14 (by decide) ?_
    exact r_int cx hr hlk rfl dX3_told_15
def f_X3_told (S : St) (n : Nat) (x : Int32) : Int32 :=
  if x = 0 then ar S 13 n
  else if x = 1 then ar S 14 n
  else if x = 2 then ar S 15 n
  else if x = 3 then ar S 16 n
  else if x = 4 then ar S 17 n
  else if x = 5 then (if ar S 18 n = 0 then 0
    else 1)
  else if x = 6 then (if ar S 19 n = 0 then 0
    else 1)
  else if x = 7 then ar S 20 n
  else (-2)
set_option maxRecDepth 20000 in
theorem c_X3_told (l : Launch) (G : GG) (ad : Nat → Nat) (S : St) (hW : WF S) {n : Nat} (hn : n < nr S) (x : Int32) : MR l yX3_told cX3_told 3 (some .int) 1 22 G ad (cM G ad S) [.ref (ad 0), .int (nI n), .int x] (some (.int (f_X3_told S n x))) := by
  refine MR.of [(0, .ref (ad 0)), (1, .int (nI n)), (2, .int x)] (by decide) (Nat.le_of_ble_eq_true rfl) rfl ?_
  intro p e s m args below meth c cx hr hlk hP ls hl
  have hx := cx.1.1
  have hb := cx.1.2.1
  refine lv_iload_n hx hb dX3_told_0 rfl (lv_at hl 1 rfl) ?_
  refine lv_iconst (v := 0) hx hb dX3_told_1 (by decide) ?_
  refine lv_aload_n hx hb dX3_told_2 rfl (lv_at hl 0 rfl) ?_
  refine w_get cx (ci := 3) rfl iX3 (hP _ _ cM_0) 15 (by decide) k_466 (v := .int (nI (nr S))) rfl dX3_told_3 ?_
  refine lv_iconst (v := 1) hx hb dX3_told_6 (by decide) ?_
  refine lv_isub hx hb dX3_told_7 ?_
  refine w_callS (As := [.int (nI n), .int 0, .int ((nI (nr S)) - 1)]) (rest := []) (st := [.int (f_X3_in (nI n) 0 ((nI (nr S)) - 1))]) cx (c_X3_in l G ad _ (nI n) 0 ((nI (nr S)) - 1)) k_541 cal_yX3_in hP rfl ⟨Nat.le_of_ble_eq_true rfl, Nat.le_of_ble_eq_true rfl⟩ hl.1 (Nat.le_of_ble_eq_true rfl) ⟨Nat.zero_le _, Nat.zero_le _⟩ rfl rfl dX3_told_8 ?_
  refine lv_if_ne (tgt := 16) hx hb dX3_told_11 (by decide) (fun c_1 => ?_) (fun c_1 => ?_)
  · refine lv_iload_n hx hb dX3_told_16 rfl (lv_at hl 2 rfl) ?_
    by_cases c_2 : x = 0
    · refine lv_tableIn (off := 47) (tgt := 64) hx hb dX3_told_17 (by rw [c_2]; decide) (by rw [c_2]; decide) (by rw [c_2]; decide) (by decide) ?_
      refine lv_aload_n hx hb dX3_told_64 rfl (lv_at hl 0 rfl) ?_
      refine w_get cx (ci := 3) rfl iX3 (hP _ _ cM_0) 16 (by decide) k_467 (v := .ref (ad 14)) rfl dX3_told_65 ?_
      refine lv_iload_n hx hb dX3_told_68 rfl (lv_at hl 1 rfl) ?_
      refine w_iald cx (hP _ _ (cM_A (n := 300) 13 (by decide) rfl rfl)) n rfl (Nat.lt_of_lt_of_le hn hW.r) (by decide) dX3_told_69 ?_
      exact r_int cx hr hlk (by rw [f_X3_told, if_pos c_2]) dX3_told_70
    · by_cases c_3 : x = 1
      · refine lv_tableIn (off := 54) (tgt := 71) hx hb dX3_told_17 (by rw [c_3]; decide) (by rw [c_3]; decide) (by rw [c_3]; decide) (by decide) ?_
        refine lv_aload_n hx hb dX3_told_71 rfl (lv_at hl 0 rfl) ?_
        refine w_get cx (ci := 3) rfl iX3 (hP _ _ cM_0) 17 (by decide) k_468 (v := .ref (ad 15)) rfl dX3_told_72 ?_
        refine lv_iload_n hx hb dX3_told_75 rfl (lv_at hl 1 rfl) ?_
        refine w_iald cx (hP _ _ (cM_A (n := 300) 14 (by decide) rfl rfl)) n rfl (Nat.lt_of_lt_of_le hn hW.r) (by decide) dX3_told_76 ?_
        exact r_int cx hr hlk (by rw [f_X3_told, if_neg c_2, if_pos c_3]) dX3_told_77
      · by_cases c_4 : x = 2
        · refine lv_tableIn (off := 61) (tgt := 78) hx hb dX3_told_17 (by rw [c_4]; decide) (by rw [c_4]; decide) (by rw [c_4]; decide) (by decide) ?_
          refine lv_aload_n hx hb dX3_told_78 rfl (lv_at hl 0 rfl) ?_
          refine w_get cx (ci := 3) rfl iX3 (hP _ _ cM_0) 18 (by decide) k_469 (v := .ref (ad 16)) rfl dX3_told_79 ?_
          refine lv_iload_n hx hb dX3_told_82 rfl (lv_at hl 1 rfl) ?_
          refine w_iald cx (hP _ _ (cM_A (n := 300) 15 (by decide) rfl rfl)) n rfl (Nat.lt_of_lt_of_le hn hW.r) (by decide) dX3_told_83 ?_
          exact r_int cx hr hlk (by rw [f_X3_told, if_neg c_2, if_neg c_3, if_pos c_4]) dX3_told_84
        · by_cases c_5 : x = 3
          · refine lv_tableIn (off := 68) (tgt := 85) hx hb dX3_told_17 (by rw [c_5]; decide) (by rw [c_5]; decide) (by rw [c_5]; decide) (by decide) ?_
            refine lv_aload_n hx hb dX3_told_85 rfl (lv_at hl 0 rfl) ?_
            refine w_get cx (ci := 3) rfl iX3 (hP _ _ cM_0) 19 (by decide) k_470 (v := .ref (ad 17)) rfl dX3_told_86 ?_
            refine lv_iload_n hx hb dX3_told_89 rfl (lv_at hl 1 rfl) ?_
            refine w_iald cx (hP _ _ (cM_A (n := 300) 16 (by decide) rfl rfl)) n rfl (Nat.lt_of_lt_of_le hn hW.r) (by decide) dX3_told_90 ?_
            exact r_int cx hr hlk (by rw [f_X3_told, if_neg c_2, if_neg c_3, if_neg c_4, if_pos c_5]) dX3_told_91
          · by_cases c_6 : x = 4
            · refine lv_tableIn (off := 75) (tgt := 92) hx hb dX3_told_17 (by rw [c_6]; decide) (by rw [c_6]; decide) (by rw [c_6]; decide) (by decide) ?_
              refine lv_aload_n hx hb dX3_told_92 rfl (lv_at hl 0 rfl) ?_
              refine w_get cx (ci := 3) rfl iX3 (hP _ _ cM_0) 20 (by decide) k_471 (v := .ref (ad 18)) rfl dX3_told_93 ?_
              refine lv_iload_n hx hb dX3_told_96 rfl (lv_at hl 1 rfl) ?_
              refine w_iald cx (hP _ _ (cM_A (n := 300) 17 (by decide) rfl rfl)) n rfl (Nat.lt_of_lt_of_le hn hW.r) (by decide) dX3_told_97 ?_
              exact r_int cx hr hlk (by rw [f_X3_told, if_neg c_2, if_neg c_3, if_neg c_4, if_neg c_5, if_pos c_6]) dX3_told_98
            · by_cases c_7 : x = 5
              · refine lv_tableIn (off := 82) (tgt := 99) hx hb dX3_told_17 (by rw [c_7]; decide) (by rw [c_7]; decide) (by rw [c_7]; decide) (by decide) ?_
                refine lv_aload_n hx hb dX3_told_99 rfl (lv_at hl 0 rfl) ?_
                refine w_get cx (ci := 3) rfl iX3 (hP _ _ cM_0) 21 (by decide) k_472 (v := .ref (ad 19)) rfl dX3_told_100 ?_
                refine lv_iload_n hx hb dX3_told_103 rfl (lv_at hl 1 rfl) ?_
                refine w_zald cx (hP _ _ (cM_A (n := 300) 18 (by decide) rfl rfl)) n rfl (Nat.lt_of_lt_of_le hn hW.r) (by decide) dX3_told_104 ?_
                refine lv_if_eq (tgt := 112) hx hb dX3_told_105 (by decide) (fun c_8 => ?_) (fun c_8 => ?_)
                · refine lv_iconst (v := 0) hx hb dX3_told_112 (by decide) ?_
                  exact r_int cx hr hlk (by rw [f_X3_told, if_neg c_2, if_neg c_3, if_neg c_4, if_neg c_5, if_neg c_6, if_pos c_7, if_pos c_8]) dX3_told_113
                · refine lv_iconst (v := 1) hx hb dX3_told_108 (by decide) ?_
                  refine lv_goto (tgt := 113) hx hb dX3_told_109 (by decide) ?_
                  exact r_int cx hr hlk (by rw [f_X3_told, if_neg c_2, if_neg c_3, if_neg c_4, if_neg c_5, if_neg c_6, if_pos c_7, if_neg c_8]) dX3_told_113
              · by_cases c_9 : x = 6
                · refine lv_tableIn (off := 97) (tgt := 114) hx hb dX3_told_17 (by rw [c_9]; decide) (by rw [c_9]; decide) (by rw [c_9]; decide) (by decide) ?_
                  refine lv_aload_n hx hb dX3_told_114 rfl (lv_at hl 0 rfl) ?_
                  refine w_get cx (ci := 3) rfl iX3 (hP _ _ cM_0) 22 (by decide) k_473 (v := .ref (ad 20)) rfl dX3_told_115 ?_
                  refine lv_iload_n hx hb dX3_told_118 rfl (lv_at hl 1 rfl) ?_
                  refine w_zald cx (hP _ _ (cM_A (n := 300) 19 (by decide) rfl rfl)) n rfl (Nat.lt_of_lt_of_le hn hW.r) (by decide) dX3_told_119 ?_
                  refine lv_if_eq (tgt := 127) hx hb dX3_told_120 (by decide) (fun c_10 => ?_) (fun c_10 => ?_)
                  · refine lv_iconst (v := 0) hx hb dX3_told_127 (by decide) ?_
                    exact r_int cx hr hlk (by rw [f_X3_told, if_neg c_2, if_neg c_3, if_neg c_4, if_neg c_5, if_neg c_6, if_neg c_7, if_pos c_9, if_pos c_10]) dX3_told_128
                  · refine lv_iconst (v := 1) hx hb dX3_told_123 (by decide) ?_
                    refine lv_goto (tgt := 128) hx hb dX3_told_124 (by decide) ?_
                    exact r_int cx hr hlk (by rw [f_X3_told, if_neg c_2, if_neg c_3, if_neg c_4, if_neg c_5, if_neg c_6, if_neg c_7, if_pos c_9, if_neg c_10]) dX3_told_128
                · by_cases c_11 : x = 7
                  · refine lv_tableIn (off := 112) (tgt := 129) hx hb dX3_told_17 (by rw [c_11]; decide) (by rw [c_11]; decide) (by rw [c_11]; decide) (by decide) ?_
                    refine lv_aload_n hx hb dX3_told_129 rfl (lv_at hl 0 rfl) ?_
                    refine w_get cx (ci := 3) rfl iX3 (hP _ _ cM_0) 23 (by decide) k_474 (v := .ref (ad 21)) rfl dX3_told_130 ?_
                    refine lv_iload_n hx hb dX3_told_133 rfl (lv_at hl 1 rfl) ?_
                    refine w_iald cx (hP _ _ (cM_A (n := 300) 20 (by decide) rfl rfl)) n rfl (Nat.lt_of_lt_of_le hn hW.r) (by decide) dX3_told_134 ?_
                    exact r_int cx hr hlk (by rw [f_X3_told, if_neg c_2, if_neg c_3, if_neg c_4, if_neg c_5, if_neg c_6, if_neg c_7, if_neg c_9, if_pos c_11]) dX3_told_135
                  · refine lv_tableOut (tgt := 136) hx hb dX3_told_17 (tab_out8 c_2 c_3 c_4 c_5 c_6 c_7 c_9 c_11) (by decide) ?_
                    refine lv_bipush (v := -2) hx hb dX3_told_136 (by decide) ?_
                    exact r_int cx hr hlk (by rw [f_X3_told, if_neg c_2, if_neg c_3, if_neg c_4, if_neg c_5, if_neg c_6, if_neg c_7, if_neg c_9, if_neg c_11]) dX3_told_138
  · exact absurd c_1 (in_in hn (Nat.lt_of_le_of_lt hW.r (by decide)))
set_option maxRecDepth 20000 in
theorem c_X3_charged_out (l : Launch) (G : GG) (ad : Nat → Nat) (S : St) (hW : WF S) {n : Int32} (hn : f_X3_in n 0 9 = 0) : MR l yX3_charged cX3_charged 2 (some .long) 1 22 G ad (cM G ad S) [.ref (ad 0), .int n] (some (.long (-1))) := by
  refine MR.of [(0, .ref (ad 0)), (1, .int n)] (by decide) (Nat.le_of_ble_eq_true rfl) rfl ?_
  intro p e s m args below meth c cx hr hlk hP ls hl
  have hx := cx.1.1
  have hb := cx.1.2.1
  refine lv_iload_n hx hb dX3_charged_0 rfl (lv_at hl 1 rfl) ?_
  refine lv_iconst (v := 0) hx hb dX3_charged_1 (by decide) ?_
  refine lv_bipush (v := 9) hx hb dX3_charged_2 (by decide) ?_
  refine w_callS (As := [.int n, .int 0, .int 9]) (rest := []) (st := [.int (f_X3_in n 0 9)]) cx (c_X3_in l G ad _ n 0 9) k_541 cal_yX3_in hP rfl ⟨Nat.le_of_ble_eq_true rfl, Nat.le_of_ble_eq_true rfl⟩ hl.1 (Nat.le_of_ble_eq_true rfl) ⟨Nat.zero_le _, Nat.zero_le _⟩ rfl rfl dX3_charged_4 ?_
  refine lv_if_eq (tgt := 19) hx hb dX3_charged_7 (by decide) (fun c_1 => ?_) (fun c_1 => ?_)
  · refine w_ldc2 cx k_671 dX3_charged_19 ?_
    exact r_long cx hr hlk rfl dX3_charged_22
  · exact absurd hn c_1
def f_X3_charged (S : St) (o : Nat) : Int64 :=
  os S o
set_option maxRecDepth 20000 in
theorem c_X3_charged (l : Launch) (G : GG) (ad : Nat → Nat) (S : St) (hW : WF S) {o : Nat} (ho : o < 10) : MR l yX3_charged cX3_charged 2 (some .long) 1 22 G ad (cM G ad S) [.ref (ad 0), .int (nI o)] (some (.long (f_X3_charged S o))) := by
  refine MR.of [(0, .ref (ad 0)), (1, .int (nI o))] (by decide) (Nat.le_of_ble_eq_true rfl) rfl ?_
  intro p e s m args below meth c cx hr hlk hP ls hl
  have hx := cx.1.1
  have hb := cx.1.2.1
  refine lv_iload_n hx hb dX3_charged_0 rfl (lv_at hl 1 rfl) ?_
  refine lv_iconst (v := 0) hx hb dX3_charged_1 (by decide) ?_
  refine lv_bipush (v := 9) hx hb dX3_charged_2 (by decide) ?_
  refine w_callS (As := [.int (nI o), .int 0, .int 9]) (rest := []) (st := [.int (f_X3_in (nI o) 0 9)]) cx (c_X3_in l G ad _ (nI o) 0 9) k_541 cal_yX3_in hP rfl ⟨Nat.le_of_ble_eq_true rfl, Nat.le_of_ble_eq_true rfl⟩ hl.1 (Nat.le_of_ble_eq_true rfl) ⟨Nat.zero_le _, Nat.zero_le _⟩ rfl rfl dX3_charged_4 ?_
  refine lv_if_eq (tgt := 19) hx hb dX3_charged_7 (by decide) (fun c_1 => ?_) (fun c_1 => ?_)
  · exact absurd c_1 (isO_in ho)
  · refine lv_aload_n hx hb dX3_charged_10 rfl (lv_at hl 0 rfl) ?_
    refine w_get cx (ci := 3) rfl iX3 (hP _ _ cM_0) 27 (by decide) k_478 (v := .ref (ad 24)) rfl dX3_charged_11 ?_
    refine lv_iload_n hx hb dX3_charged_14 rfl (lv_at hl 1 rfl) ?_
    refine w_lald cx (hP _ _ cM_L) o rfl ho (by decide) dX3_charged_15 ?_
    refine lv_goto (tgt := 22) hx hb dX3_charged_16 (by decide) ?_
    exact r_long cx hr hlk (by rw [f_X3_charged]) dX3_charged_22
