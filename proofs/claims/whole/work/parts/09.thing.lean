def f_X0_isOfTrade (S : St) (i : Nat)  : Int32 :=
  if ar S 0 i = 2 then 1
  else if ar S 0 i = 3 then 1
  else 0
theorem b_X0_isOfTrade (S : St) (i : Nat)  : f_X0_isOfTrade S i = 0 ∨ f_X0_isOfTrade S i = 1 := by
  unfold f_X0_isOfTrade
  repeat' split
  all_goals first | exact Or.inl rfl | exact Or.inr rfl
set_option maxRecDepth 20000 in
theorem c_X0_isOfTrade (l : Launch) (G : GG) (ad : Nat → Nat) (S : St) (E : Ex) (hW : WF S) {i : Nat} (hi : i < nt S)  : MR l yX0_isOfTrade cX0_isOfTrade 1 (some .boolean) 0 0 G ad (cX G ad S E) [.ref (ad (10 + 2 * i))] (some (.int (f_X0_isOfTrade S i))) := by
  refine MR.of [(0, .ref (ad (10 + 2 * i)))] (by decide) (Nat.le_of_ble_eq_true rfl) rfl ?_
  intro p e s m args below meth c cx hr hlk hP ls hl
  have hx := cx.1.1
  have hb := cx.1.2.1
  refine lv_aload_n hx hb dX0_isOfTrade_0 rfl (lv_at hl 0 rfl) ?_
  refine w_get cx (ci := 0) rfl iX0 (hP _ _ (cX_T hi hW.t)) 0 (by decide) k_107 (v := .int (ar S 0 i)) rfl dX0_isOfTrade_1 ?_
  refine lv_iconst (v := 2) hx hb dX0_isOfTrade_4 (by decide) ?_
  refine lv_icmp_eq (tgt := 16) hx hb dX0_isOfTrade_5 (by decide) (fun c_1 => ?_) (fun c_1 => ?_)
  · refine lv_iconst (v := 1) hx hb dX0_isOfTrade_16 (by decide) ?_
    refine lv_goto (tgt := 21) hx hb dX0_isOfTrade_17 (by decide) ?_
    exact r_bool cx hr hlk (by rw [f_X0_isOfTrade, if_pos c_1]) (Or.inr rfl) dX0_isOfTrade_21
  · refine lv_aload_n hx hb dX0_isOfTrade_8 rfl (lv_at hl 0 rfl) ?_
    refine w_get cx (ci := 0) rfl iX0 (hP _ _ (cX_T hi hW.t)) 0 (by decide) k_107 (v := .int (ar S 0 i)) rfl dX0_isOfTrade_9 ?_
    refine lv_iconst (v := 3) hx hb dX0_isOfTrade_12 (by decide) ?_
    refine lv_icmp_ne (tgt := 20) hx hb dX0_isOfTrade_13 (by decide) (fun c_2 => ?_) (fun c_2 => ?_)
    · refine lv_iconst (v := 0) hx hb dX0_isOfTrade_20 (by decide) ?_
      exact r_bool cx hr hlk (by rw [f_X0_isOfTrade, if_neg c_1, if_neg c_2]) (Or.inl rfl) dX0_isOfTrade_21
    · refine lv_iconst (v := 1) hx hb dX0_isOfTrade_16 (by decide) ?_
      refine lv_goto (tgt := 21) hx hb dX0_isOfTrade_17 (by decide) ?_
      exact r_bool cx hr hlk (by rw [f_X0_isOfTrade, if_neg c_1, if_pos c_2]) (Or.inr rfl) dX0_isOfTrade_21
def f_X0_hasAllDraws (S : St) (i : Nat)  : Int32 :=
  if ar S 8 i < 3 then 0
  else 1
theorem b_X0_hasAllDraws (S : St) (i : Nat)  : f_X0_hasAllDraws S i = 0 ∨ f_X0_hasAllDraws S i = 1 := by
  unfold f_X0_hasAllDraws
  repeat' split
  all_goals first | exact Or.inl rfl | exact Or.inr rfl
set_option maxRecDepth 20000 in
theorem c_X0_hasAllDraws (l : Launch) (G : GG) (ad : Nat → Nat) (S : St) (E : Ex) (hW : WF S) {i : Nat} (hi : i < nt S)  : MR l yX0_hasAllDraws cX0_hasAllDraws 1 (some .boolean) 0 0 G ad (cX G ad S E) [.ref (ad (10 + 2 * i))] (some (.int (f_X0_hasAllDraws S i))) := by
  refine MR.of [(0, .ref (ad (10 + 2 * i)))] (by decide) (Nat.le_of_ble_eq_true rfl) rfl ?_
  intro p e s m args below meth c cx hr hlk hP ls hl
  have hx := cx.1.1
  have hb := cx.1.2.1
  refine lv_aload_n hx hb dX0_hasAllDraws_0 rfl (lv_at hl 0 rfl) ?_
  refine w_get cx (ci := 0) rfl iX0 (hP _ _ (cX_T hi hW.t)) 5 (by decide) k_116 (v := .int (ar S 8 i)) rfl dX0_hasAllDraws_1 ?_
  refine lv_iconst (v := 3) hx hb dX0_hasAllDraws_4 (by decide) ?_
  refine lv_icmp_lt (tgt := 12) hx hb dX0_hasAllDraws_5 (by decide) (fun c_1 => ?_) (fun c_1 => ?_)
  · refine lv_iconst (v := 0) hx hb dX0_hasAllDraws_12 (by decide) ?_
    exact r_bool cx hr hlk (by rw [f_X0_hasAllDraws, if_pos c_1]) (Or.inl rfl) dX0_hasAllDraws_13
  · refine lv_iconst (v := 1) hx hb dX0_hasAllDraws_8 (by decide) ?_
    refine lv_goto (tgt := 13) hx hb dX0_hasAllDraws_9 (by decide) ?_
    exact r_bool cx hr hlk (by rw [f_X0_hasAllDraws, if_neg c_1]) (Or.inr rfl) dX0_hasAllDraws_13
def f_X0_leastDraw (S : St) (i : Nat)  : Int32 :=
  f_min (fD S i 0) (f_min (fD S i 1) (fD S i 2))
set_option maxRecDepth 20000 in
theorem c_X0_leastDraw (l : Launch) (G : GG) (ad : Nat → Nat) (S : St) (E : Ex) (hW : WF S) {i : Nat} (hi : i < nt S)  : MR l yX0_leastDraw cX0_leastDraw 1 (some .int) 1 23 G ad (cX G ad S E) [.ref (ad (10 + 2 * i))] (some (.int (f_X0_leastDraw S i))) := by
  refine MR.of [(0, .ref (ad (10 + 2 * i)))] (by decide) (Nat.le_of_ble_eq_true rfl) rfl ?_
  intro p e s m args below meth c cx hr hlk hP ls hl
  have hx := cx.1.1
  have hb := cx.1.2.1
  refine lv_aload_n hx hb dX0_leastDraw_0 rfl (lv_at hl 0 rfl) ?_
  refine w_get cx (ci := 0) rfl iX0 (hP _ _ (cX_T hi hW.t)) 3 (by decide) k_113 (v := .ref (ad (11 + 2 * i))) rfl dX0_leastDraw_1 ?_
  refine lv_iconst (v := 0) hx hb dX0_leastDraw_4 (by decide) ?_
  refine w_iald cx (hP _ _ (cX_D hi hW.t)) 0 (by decide) (by decide) (by decide) dX0_leastDraw_5 ?_
  refine lv_aload_n hx hb dX0_leastDraw_6 rfl (lv_at hl 0 rfl) ?_
  refine w_get cx (ci := 0) rfl iX0 (hP _ _ (cX_T hi hW.t)) 3 (by decide) k_113 (v := .ref (ad (11 + 2 * i))) rfl dX0_leastDraw_7 ?_
  refine lv_iconst (v := 1) hx hb dX0_leastDraw_10 (by decide) ?_
  refine w_iald cx (hP _ _ (cX_D hi hW.t)) 1 (by decide) (by decide) (by decide) dX0_leastDraw_11 ?_
  refine lv_aload_n hx hb dX0_leastDraw_12 rfl (lv_at hl 0 rfl) ?_
  refine w_get cx (ci := 0) rfl iX0 (hP _ _ (cX_T hi hW.t)) 3 (by decide) k_113 (v := .ref (ad (11 + 2 * i))) rfl dX0_leastDraw_13 ?_
  refine lv_iconst (v := 2) hx hb dX0_leastDraw_16 (by decide) ?_
  refine w_iald cx (hP _ _ (cX_D hi hW.t)) 2 (by decide) (by decide) (by decide) dX0_leastDraw_17 ?_
  refine w_min cx hl.1 k_225 (Nat.le_of_ble_eq_true rfl) (Nat.le_of_ble_eq_true rfl) ⟨Nat.zero_le _, Nat.zero_le _⟩ (Nat.le_of_ble_eq_true rfl) dX0_leastDraw_18 ?_
  refine w_min cx hl.1 k_225 (Nat.le_of_ble_eq_true rfl) (Nat.le_of_ble_eq_true rfl) ⟨Nat.zero_le _, Nat.zero_le _⟩ (Nat.le_of_ble_eq_true rfl) dX0_leastDraw_21 ?_
  exact r_int cx hr hlk (by rw [f_X0_leastDraw]) dX0_leastDraw_24
def f_X0_greatestDraw (S : St) (i : Nat)  : Int32 :=
  f_max (fD S i 0) (f_max (fD S i 1) (fD S i 2))
set_option maxRecDepth 20000 in
theorem c_X0_greatestDraw (l : Launch) (G : GG) (ad : Nat → Nat) (S : St) (E : Ex) (hW : WF S) {i : Nat} (hi : i < nt S)  : MR l yX0_greatestDraw cX0_greatestDraw 1 (some .int) 1 23 G ad (cX G ad S E) [.ref (ad (10 + 2 * i))] (some (.int (f_X0_greatestDraw S i))) := by
  refine MR.of [(0, .ref (ad (10 + 2 * i)))] (by decide) (Nat.le_of_ble_eq_true rfl) rfl ?_
  intro p e s m args below meth c cx hr hlk hP ls hl
  have hx := cx.1.1
  have hb := cx.1.2.1
  refine lv_aload_n hx hb dX0_greatestDraw_0 rfl (lv_at hl 0 rfl) ?_
  refine w_get cx (ci := 0) rfl iX0 (hP _ _ (cX_T hi hW.t)) 3 (by decide) k_113 (v := .ref (ad (11 + 2 * i))) rfl dX0_greatestDraw_1 ?_
  refine lv_iconst (v := 0) hx hb dX0_greatestDraw_4 (by decide) ?_
  refine w_iald cx (hP _ _ (cX_D hi hW.t)) 0 (by decide) (by decide) (by decide) dX0_greatestDraw_5 ?_
  refine lv_aload_n hx hb dX0_greatestDraw_6 rfl (lv_at hl 0 rfl) ?_
  refine w_get cx (ci := 0) rfl iX0 (hP _ _ (cX_T hi hW.t)) 3 (by decide) k_113 (v := .ref (ad (11 + 2 * i))) rfl dX0_greatestDraw_7 ?_
  refine lv_iconst (v := 1) hx hb dX0_greatestDraw_10 (by decide) ?_
  refine w_iald cx (hP _ _ (cX_D hi hW.t)) 1 (by decide) (by decide) (by decide) dX0_greatestDraw_11 ?_
  refine lv_aload_n hx hb dX0_greatestDraw_12 rfl (lv_at hl 0 rfl) ?_
  refine w_get cx (ci := 0) rfl iX0 (hP _ _ (cX_T hi hW.t)) 3 (by decide) k_113 (v := .ref (ad (11 + 2 * i))) rfl dX0_greatestDraw_13 ?_
  refine lv_iconst (v := 2) hx hb dX0_greatestDraw_16 (by decide) ?_
  refine w_iald cx (hP _ _ (cX_D hi hW.t)) 2 (by decide) (by decide) (by decide) dX0_greatestDraw_17 ?_
  refine w_max cx hl.1 k_210 (Nat.le_of_ble_eq_true rfl) (Nat.le_of_ble_eq_true rfl) ⟨Nat.zero_le _, Nat.zero_le _⟩ (Nat.le_of_ble_eq_true rfl) dX0_greatestDraw_18 ?_
  refine w_max cx hl.1 k_210 (Nat.le_of_ble_eq_true rfl) (Nat.le_of_ble_eq_true rfl) ⟨Nat.zero_le _, Nat.zero_le _⟩ (Nat.le_of_ble_eq_true rfl) dX0_greatestDraw_21 ?_
  exact r_int cx hr hlk (by rw [f_X0_greatestDraw]) dX0_greatestDraw_24
def f_X0_middleDraw (S : St) (i : Nat)  : Int32 :=
  ((((fD S i 0) + (fD S i 1)) + (fD S i 2)) - (f_X0_leastDraw S i)) - (f_X0_greatestDraw S i)
set_option maxRecDepth 20000 in
theorem c_X0_middleDraw (l : Launch) (G : GG) (ad : Nat → Nat) (S : St) (E : Ex) (hW : WF S) {i : Nat} (hi : i < nt S)  : MR l yX0_middleDraw cX0_middleDraw 1 (some .int) 2 43 G ad (cX G ad S E) [.ref (ad (10 + 2 * i))] (some (.int (f_X0_middleDraw S i))) := by
  refine MR.of [(0, .ref (ad (10 + 2 * i)))] (by decide) (Nat.le_of_ble_eq_true rfl) rfl ?_
  intro p e s m args below meth c cx hr hlk hP ls hl
  have hx := cx.1.1
  have hb := cx.1.2.1
  refine lv_aload_n hx hb dX0_middleDraw_0 rfl (lv_at hl 0 rfl) ?_
  refine w_get cx (ci := 0) rfl iX0 (hP _ _ (cX_T hi hW.t)) 3 (by decide) k_113 (v := .ref (ad (11 + 2 * i))) rfl dX0_middleDraw_1 ?_
  refine lv_iconst (v := 0) hx hb dX0_middleDraw_4 (by decide) ?_
  refine w_iald cx (hP _ _ (cX_D hi hW.t)) 0 (by decide) (by decide) (by decide) dX0_middleDraw_5 ?_
  refine lv_aload_n hx hb dX0_middleDraw_6 rfl (lv_at hl 0 rfl) ?_
  refine w_get cx (ci := 0) rfl iX0 (hP _ _ (cX_T hi hW.t)) 3 (by decide) k_113 (v := .ref (ad (11 + 2 * i))) rfl dX0_middleDraw_7 ?_
  refine lv_iconst (v := 1) hx hb dX0_middleDraw_10 (by decide) ?_
  refine w_iald cx (hP _ _ (cX_D hi hW.t)) 1 (by decide) (by decide) (by decide) dX0_middleDraw_11 ?_
  refine lv_iadd hx hb dX0_middleDraw_12 ?_
  refine lv_aload_n hx hb dX0_middleDraw_13 rfl (lv_at hl 0 rfl) ?_
  refine w_get cx (ci := 0) rfl iX0 (hP _ _ (cX_T hi hW.t)) 3 (by decide) k_113 (v := .ref (ad (11 + 2 * i))) rfl dX0_middleDraw_14 ?_
  refine lv_iconst (v := 2) hx hb dX0_middleDraw_17 (by decide) ?_
  refine w_iald cx (hP _ _ (cX_D hi hW.t)) 2 (by decide) (by decide) (by decide) dX0_middleDraw_18 ?_
  refine lv_iadd hx hb dX0_middleDraw_19 ?_
  refine lv_aload_n hx hb dX0_middleDraw_20 rfl (lv_at hl 0 rfl) ?_
  refine w_callV (As := []) (rest := [.int (((fD S i 0) + (fD S i 1)) + (fD S i 2))]) (st := [.int (f_X0_leastDraw S i), .int (((fD S i 0) + (fD S i 1)) + (fD S i 2))]) cx (c_X0_leastDraw l G ad S E hW (i := i) hi) k_221 cal_yX0_leastDraw (ci := 0) rfl (hP _ _ (cX_T hi hW.t)) hP rfl ⟨Nat.le_of_ble_eq_true rfl, Nat.le_of_ble_eq_true rfl⟩ hl.1 (Nat.le_of_ble_eq_true rfl) ⟨Nat.zero_le _, Nat.zero_le _⟩ rfl rfl dX0_middleDraw_21 ?_
  refine lv_isub hx hb dX0_middleDraw_24 ?_
  refine lv_aload_n hx hb dX0_middleDraw_25 rfl (lv_at hl 0 rfl) ?_
  refine w_callV (As := []) (rest := [.int ((((fD S i 0) + (fD S i 1)) + (fD S i 2)) - (f_X0_leastDraw S i))]) (st := [.int (f_X0_greatestDraw S i), .int ((((fD S i 0) + (fD S i 1)) + (fD S i 2)) - (f_X0_leastDraw S i))]) cx (c_X0_greatestDraw l G ad S E hW (i := i) hi) k_228 cal_yX0_greatestDraw (ci := 0) rfl (hP _ _ (cX_T hi hW.t)) hP rfl ⟨Nat.le_of_ble_eq_true rfl, Nat.le_of_ble_eq_true rfl⟩ hl.1 (Nat.le_of_ble_eq_true rfl) ⟨Nat.zero_le _, Nat.zero_le _⟩ rfl rfl dX0_middleDraw_26 ?_
  refine lv_isub hx hb dX0_middleDraw_29 ?_
  exact r_int cx hr hlk (by rw [f_X0_middleDraw]) dX0_middleDraw_30
def f_X0_spreadOfDraws (S : St) (i : Nat)  : Int32 :=
  (f_X0_greatestDraw S i) - (f_X0_leastDraw S i)
set_option maxRecDepth 20000 in
theorem c_X0_spreadOfDraws (l : Launch) (G : GG) (ad : Nat → Nat) (S : St) (E : Ex) (hW : WF S) {i : Nat} (hi : i < nt S)  : MR l yX0_spreadOfDraws cX0_spreadOfDraws 1 (some .int) 2 43 G ad (cX G ad S E) [.ref (ad (10 + 2 * i))] (some (.int (f_X0_spreadOfDraws S i))) := by
  refine MR.of [(0, .ref (ad (10 + 2 * i)))] (by decide) (Nat.le_of_ble_eq_true rfl) rfl ?_
  intro p e s m args below meth c cx hr hlk hP ls hl
  have hx := cx.1.1
  have hb := cx.1.2.1
  refine lv_aload_n hx hb dX0_spreadOfDraws_0 rfl (lv_at hl 0 rfl) ?_
  refine w_callV (As := []) (rest := []) (st := [.int (f_X0_greatestDraw S i)]) cx (c_X0_greatestDraw l G ad S E hW (i := i) hi) k_228 cal_yX0_greatestDraw (ci := 0) rfl (hP _ _ (cX_T hi hW.t)) hP rfl ⟨Nat.le_of_ble_eq_true rfl, Nat.le_of_ble_eq_true rfl⟩ hl.1 (Nat.le_of_ble_eq_true rfl) ⟨Nat.zero_le _, Nat.zero_le _⟩ rfl rfl dX0_spreadOfDraws_1 ?_
  refine lv_aload_n hx hb dX0_spreadOfDraws_4 rfl (lv_at hl 0 rfl) ?_
  refine w_callV (As := []) (rest := [.int (f_X0_greatestDraw S i)]) (st := [.int (f_X0_leastDraw S i), .int (f_X0_greatestDraw S i)]) cx (c_X0_leastDraw l G ad S E hW (i := i) hi) k_221 cal_yX0_leastDraw (ci := 0) rfl (hP _ _ (cX_T hi hW.t)) hP rfl ⟨Nat.le_of_ble_eq_true rfl, Nat.le_of_ble_eq_true rfl⟩ hl.1 (Nat.le_of_ble_eq_true rfl) ⟨Nat.zero_le _, Nat.zero_le _⟩ rfl rfl dX0_spreadOfDraws_5 ?_
  refine lv_isub hx hb dX0_spreadOfDraws_8 ?_
  exact r_int cx hr hlk (by rw [f_X0_spreadOfDraws]) dX0_spreadOfDraws_9
def f_X0_isMeasured (S : St) (i : Nat)  : Int32 :=
  if ar S 0 i = 0 then 1
  else if ar S 5 i = -1000000 then 0
  else 1
theorem b_X0_isMeasured (S : St) (i : Nat)  : f_X0_isMeasured S i = 0 ∨ f_X0_isMeasured S i = 1 := by
  unfold f_X0_isMeasured
  repeat' split
  all_goals first | exact Or.inl rfl | exact Or.inr rfl
set_option maxRecDepth 20000 in
theorem c_X0_isMeasured (l : Launch) (G : GG) (ad : Nat → Nat) (S : St) (E : Ex) (hW : WF S) {i : Nat} (hi : i < nt S)  : MR l yX0_isMeasured cX0_isMeasured 1 (some .boolean) 0 0 G ad (cX G ad S E) [.ref (ad (10 + 2 * i))] (some (.int (f_X0_isMeasured S i))) := by
  refine MR.of [(0, .ref (ad (10 + 2 * i)))] (by decide) (Nat.le_of_ble_eq_true rfl) rfl ?_
  intro p e s m args below meth c cx hr hlk hP ls hl
  have hx := cx.1.1
  have hb := cx.1.2.1
  refine lv_aload_n hx hb dX0_isMeasured_0 rfl (lv_at hl 0 rfl) ?_
  refine w_get cx (ci := 0) rfl iX0 (hP _ _ (cX_T hi hW.t)) 0 (by decide) k_107 (v := .int (ar S 0 i)) rfl dX0_isMeasured_1 ?_
  refine lv_if_eq (tgt := 14) hx hb dX0_isMeasured_4 (by decide) (fun c_1 => ?_) (fun c_1 => ?_)
  · refine lv_iconst (v := 1) hx hb dX0_isMeasured_14 (by decide) ?_
    refine lv_goto (tgt := 19) hx hb dX0_isMeasured_15 (by decide) ?_
    exact r_bool cx hr hlk (by rw [f_X0_isMeasured, if_pos c_1]) (Or.inr rfl) dX0_isMeasured_19
  · refine lv_aload_n hx hb dX0_isMeasured_7 rfl (lv_at hl 0 rfl) ?_
    by_cases c_2 : ar S 5 i = -1000000
    · refine w_get cx (ci := 0) rfl iX0 (hP _ _ (cX_T hi hW.t)) 9 (by decide) k_123 (v := .null) (congrArg some (rT_null c_2)) dX0_isMeasured_8 ?_
      refine lv_ifnullN (tgt := 18) hx hb dX0_isMeasured_11 (by decide) ?_
      refine lv_iconst (v := 0) hx hb dX0_isMeasured_18 (by decide) ?_
      exact r_bool cx hr hlk (by rw [f_X0_isMeasured, if_neg c_1, if_pos c_2]) (Or.inl rfl) dX0_isMeasured_19
    · refine w_get cx (ci := 0) rfl iX0 (hP _ _ (cX_T hi hW.t)) 9 (by decide) k_123 (v := .ref (ad (100 + ix (ar S 5 i)))) (congrArg some (rT_ref c_2)) dX0_isMeasured_8 ?_
      refine lv_ifnull hx hb dX0_isMeasured_11 ?_
      refine lv_iconst (v := 1) hx hb dX0_isMeasured_14 (by decide) ?_
      refine lv_goto (tgt := 19) hx hb dX0_isMeasured_15 (by decide) ?_
      exact r_bool cx hr hlk (by rw [f_X0_isMeasured, if_neg c_1, if_neg c_2]) (Or.inr rfl) dX0_isMeasured_19
def f_X0_isSettledNow (S : St) (i : Nat)  : Int32 :=
  if ar S 0 i = 0 then 1
  else if ar S 5 i = -1000000 then 0
  else if ar S 18 (ix (ar S 5 i)) = 0 then 0
  else 1
theorem b_X0_isSettledNow (S : St) (i : Nat)  : f_X0_isSettledNow S i = 0 ∨ f_X0_isSettledNow S i = 1 := by
  unfold f_X0_isSettledNow
  repeat' split
  all_goals first | exact Or.inl rfl | exact Or.inr rfl
set_option maxRecDepth 20000 in
theorem c_X0_isSettledNow (l : Launch) (G : GG) (ad : Nat → Nat) (S : St) (E : Ex) (hW : WF S) {i : Nat} (hi : i < nt S)  : MR l yX0_isSettledNow cX0_isSettledNow 1 (some .boolean) 0 0 G ad (cX G ad S E) [.ref (ad (10 + 2 * i))] (some (.int (f_X0_isSettledNow S i))) := by
  refine MR.of [(0, .ref (ad (10 + 2 * i)))] (by decide) (Nat.le_of_ble_eq_true rfl) rfl ?_
  intro p e s m args below meth c cx hr hlk hP ls hl
  have hx := cx.1.1
  have hb := cx.1.2.1
  refine lv_aload_n hx hb dX0_isSettledNow_0 rfl (lv_at hl 0 rfl) ?_
  refine w_get cx (ci := 0) rfl iX0 (hP _ _ (cX_T hi hW.t)) 0 (by decide) k_107 (v := .int (ar S 0 i)) rfl dX0_isSettledNow_1 ?_
  refine lv_if_eq (tgt := 24) hx hb dX0_isSettledNow_4 (by decide) (fun c_1 => ?_) (fun c_1 => ?_)
  · refine lv_iconst (v := 1) hx hb dX0_isSettledNow_24 (by decide) ?_
    refine lv_goto (tgt := 29) hx hb dX0_isSettledNow_25 (by decide) ?_
    exact r_bool cx hr hlk (by rw [f_X0_isSettledNow, if_pos c_1]) (Or.inr rfl) dX0_isSettledNow_29
  · refine lv_aload_n hx hb dX0_isSettledNow_7 rfl (lv_at hl 0 rfl) ?_
    by_cases c_2 : ar S 5 i = -1000000
    · refine w_get cx (ci := 0) rfl iX0 (hP _ _ (cX_T hi hW.t)) 9 (by decide) k_123 (v := .null) (congrArg some (rT_null c_2)) dX0_isSettledNow_8 ?_
      refine lv_ifnullN (tgt := 28) hx hb dX0_isSettledNow_11 (by decide) ?_
      refine lv_iconst (v := 0) hx hb dX0_isSettledNow_28 (by decide) ?_
      exact r_bool cx hr hlk (by rw [f_X0_isSettledNow, if_neg c_1, if_pos c_2]) (Or.inl rfl) dX0_isSettledNow_29
    · refine w_get cx (ci := 0) rfl iX0 (hP _ _ (cX_T hi hW.t)) 9 (by decide) k_123 (v := .ref (ad (100 + ix (ar S 5 i)))) (congrArg some (rT_ref c_2)) dX0_isSettledNow_8 ?_
      refine lv_ifnull hx hb dX0_isSettledNow_11 ?_
      refine lv_aload_n hx hb dX0_isSettledNow_14 rfl (lv_at hl 0 rfl) ?_
      refine w_get cx (ci := 0) rfl iX0 (hP _ _ (cX_T hi hW.t)) 9 (by decide) k_123 (v := .ref (ad (100 + ix (ar S 5 i)))) (congrArg some (rT_ref c_2)) dX0_isSettledNow_15 ?_
      refine w_get cx (ci := 1) rfl iX1 (hP _ _ (cX_R (hW.la hi c_2).2)) 7 (by decide) k_264 (v := .int (ar S 18 (ix (ar S 5 i)))) rfl dX0_isSettledNow_18 ?_
      refine lv_if_eq (tgt := 28) hx hb dX0_isSettledNow_21 (by decide) (fun c_3 => ?_) (fun c_3 => ?_)
      · refine lv_iconst (v := 0) hx hb dX0_isSettledNow_28 (by decide) ?_
        exact r_bool cx hr hlk (by rw [f_X0_isSettledNow, if_neg c_1, if_neg c_2, if_pos c_3]) (Or.inl rfl) dX0_isSettledNow_29
      · refine lv_iconst (v := 1) hx hb dX0_isSettledNow_24 (by decide) ?_
        refine lv_goto (tgt := 29) hx hb dX0_isSettledNow_25 (by decide) ?_
        exact r_bool cx hr hlk (by rw [f_X0_isSettledNow, if_neg c_1, if_neg c_2, if_neg c_3]) (Or.inr rfl) dX0_isSettledNow_29
def f_X0_daysUntilDue (S : St) (i : Nat) (d : Int32) : Int32 :=
  if ar S 5 i = -1000000 then 0
  else f_max 0 ((((ar S 15 (ix (ar S 5 i))) + (ar S 2 i)) + 1) - d)
set_option maxRecDepth 20000 in
theorem c_X0_daysUntilDue (l : Launch) (G : GG) (ad : Nat → Nat) (S : St) (E : Ex) (hW : WF S) {i : Nat} (hi : i < nt S) (d : Int32) : MR l yX0_daysUntilDue cX0_daysUntilDue 2 (some .int) 1 23 G ad (cX G ad S E) [.ref (ad (10 + 2 * i)), .int d] (some (.int (f_X0_daysUntilDue S i d))) := by
  refine MR.of [(0, .ref (ad (10 + 2 * i))), (1, .int d)] (by decide) (Nat.le_of_ble_eq_true rfl) rfl ?_
  intro p e s m args below meth c cx hr hlk hP ls hl
  have hx := cx.1.1
  have hb := cx.1.2.1
  refine lv_aload_n hx hb dX0_daysUntilDue_0 rfl (lv_at hl 0 rfl) ?_
  by_cases c_1 : ar S 5 i = -1000000
  · refine w_get cx (ci := 0) rfl iX0 (hP _ _ (cX_T hi hW.t)) 9 (by decide) k_123 (v := .null) (congrArg some (rT_null c_1)) dX0_daysUntilDue_1 ?_
    refine lv_ifnonnullN hx hb dX0_daysUntilDue_4 ?_
    refine lv_iconst (v := 0) hx hb dX0_daysUntilDue_7 (by decide) ?_
    refine lv_goto (tgt := 31) hx hb dX0_daysUntilDue_8 (by decide) ?_
    exact r_int cx hr hlk (by rw [f_X0_daysUntilDue, if_pos c_1]) dX0_daysUntilDue_31
  · refine w_get cx (ci := 0) rfl iX0 (hP _ _ (cX_T hi hW.t)) 9 (by decide) k_123 (v := .ref (ad (100 + ix (ar S 5 i)))) (congrArg some (rT_ref c_1)) dX0_daysUntilDue_1 ?_
    refine lv_ifnonnull (tgt := 11) hx hb dX0_daysUntilDue_4 (by decide) ?_
    refine lv_iconst (v := 0) hx hb dX0_daysUntilDue_11 (by decide) ?_
    refine lv_aload_n hx hb dX0_daysUntilDue_12 rfl (lv_at hl 0 rfl) ?_
    refine w_get cx (ci := 0) rfl iX0 (hP _ _ (cX_T hi hW.t)) 9 (by decide) k_123 (v := .ref (ad (100 + ix (ar S 5 i)))) (congrArg some (rT_ref c_1)) dX0_daysUntilDue_13 ?_
    refine w_get cx (ci := 1) rfl iX1 (hP _ _ (cX_R (hW.la hi c_1).2)) 4 (by decide) k_255 (v := .int (ar S 15 (ix (ar S 5 i)))) rfl dX0_daysUntilDue_16 ?_
    refine lv_aload_n hx hb dX0_daysUntilDue_19 rfl (lv_at hl 0 rfl) ?_
    refine w_get cx (ci := 0) rfl iX0 (hP _ _ (cX_T hi hW.t)) 2 (by decide) k_111 (v := .int (ar S 2 i)) rfl dX0_daysUntilDue_20 ?_
    refine lv_iadd hx hb dX0_daysUntilDue_23 ?_
    refine lv_iconst (v := 1) hx hb dX0_daysUntilDue_24 (by decide) ?_
    refine lv_iadd hx hb dX0_daysUntilDue_25 ?_
    refine lv_iload_n hx hb dX0_daysUntilDue_26 rfl (lv_at hl 1 rfl) ?_
    refine lv_isub hx hb dX0_daysUntilDue_27 ?_
    refine w_max cx hl.1 k_210 (Nat.le_of_ble_eq_true rfl) (Nat.le_of_ble_eq_true rfl) ⟨Nat.zero_le _, Nat.zero_le _⟩ (Nat.le_of_ble_eq_true rfl) dX0_daysUntilDue_28 ?_
    exact r_int cx hr hlk (by rw [f_X0_daysUntilDue, if_neg c_1]) dX0_daysUntilDue_31
def f_X0_isDueOn (S : St) (i : Nat) (d : Int32) : Int32 :=
  if ar S 0 i = 0 then 0
  else if f_X0_daysUntilDue S i d = 0 then 1
  else 0
theorem b_X0_isDueOn (S : St) (i : Nat) (d : Int32) : f_X0_isDueOn S i d = 0 ∨ f_X0_isDueOn S i d = 1 := by
  unfold f_X0_isDueOn
  repeat' split
  all_goals first | exact Or.inl rfl | exact Or.inr rfl
set_option maxRecDepth 20000 in
theorem c_X0_isDueOn (l : Launch) (G : GG) (ad : Nat → Nat) (S : St) (E : Ex) (hW : WF S) {i : Nat} (hi : i < nt S) (d : Int32) : MR l yX0_isDueOn cX0_isDueOn 2 (some .boolean) 2 44 G ad (cX G ad S E) [.ref (ad (10 + 2 * i)), .int d] (some (.int (f_X0_isDueOn S i d))) := by
  refine MR.of [(0, .ref (ad (10 + 2 * i))), (1, .int d)] (by decide) (Nat.le_of_ble_eq_true rfl) rfl ?_
  intro p e s m args below meth c cx hr hlk hP ls hl
  have hx := cx.1.1
  have hb := cx.1.2.1
  refine lv_aload_n hx hb dX0_isDueOn_0 rfl (lv_at hl 0 rfl) ?_
  refine w_get cx (ci := 0) rfl iX0 (hP _ _ (cX_T hi hW.t)) 0 (by decide) k_107 (v := .int (ar S 0 i)) rfl dX0_isDueOn_1 ?_
  refine lv_if_eq (tgt := 19) hx hb dX0_isDueOn_4 (by decide) (fun c_1 => ?_) (fun c_1 => ?_)
  · refine lv_iconst (v := 0) hx hb dX0_isDueOn_19 (by decide) ?_
    exact r_bool cx hr hlk (by rw [f_X0_isDueOn, if_pos c_1]) (Or.inl rfl) dX0_isDueOn_20
  · refine lv_aload_n hx hb dX0_isDueOn_7 rfl (lv_at hl 0 rfl) ?_
    refine lv_iload_n hx hb dX0_isDueOn_8 rfl (lv_at hl 1 rfl) ?_
    refine w_callV (As := [.int d]) (rest := []) (st := [.int (f_X0_daysUntilDue S i d)]) cx (c_X0_daysUntilDue l G ad S E hW (i := i) hi d) k_206 cal_yX0_daysUntilDue (ci := 0) rfl (hP _ _ (cX_T hi hW.t)) hP rfl ⟨Nat.le_of_ble_eq_true rfl, Nat.le_of_ble_eq_true rfl⟩ hl.1 (Nat.le_of_ble_eq_true rfl) ⟨Nat.zero_le _, Nat.zero_le _⟩ rfl rfl dX0_isDueOn_9 ?_
    refine lv_if_ne (tgt := 19) hx hb dX0_isDueOn_12 (by decide) (fun c_2 => ?_) (fun c_2 => ?_)
    · refine lv_iconst (v := 0) hx hb dX0_isDueOn_19 (by decide) ?_
      exact r_bool cx hr hlk (by rw [f_X0_isDueOn, if_neg c_1, if_neg c_2]) (Or.inl rfl) dX0_isDueOn_20
    · refine lv_iconst (v := 1) hx hb dX0_isDueOn_15 (by decide) ?_
      refine lv_goto (tgt := 20) hx hb dX0_isDueOn_16 (by decide) ?_
      exact r_bool cx hr hlk (by rw [f_X0_isDueOn, if_neg c_1, if_pos c_2]) (Or.inr rfl) dX0_isDueOn_20
def f_X0_canBeTried (S : St) (i : Nat)  : Int32 :=
  if ar S 0 i = 0 then 0
  else if ar S 0 i = 3 then (if f_X0_hasAllDraws S i = 0 then 0
    else 1)
  else 1
theorem b_X0_canBeTried (S : St) (i : Nat)  : f_X0_canBeTried S i = 0 ∨ f_X0_canBeTried S i = 1 := by
  unfold f_X0_canBeTried
  repeat' split
  all_goals first | exact Or.inl rfl | exact Or.inr rfl
set_option maxRecDepth 20000 in
theorem c_X0_canBeTried (l : Launch) (G : GG) (ad : Nat → Nat) (S : St) (E : Ex) (hW : WF S) {i : Nat} (hi : i < nt S)  : MR l yX0_canBeTried cX0_canBeTried 1 (some .boolean) 1 20 G ad (cX G ad S E) [.ref (ad (10 + 2 * i))] (some (.int (f_X0_canBeTried S i))) := by
  refine MR.of [(0, .ref (ad (10 + 2 * i)))] (by decide) (Nat.le_of_ble_eq_true rfl) rfl ?_
  intro p e s m args below meth c cx hr hlk hP ls hl
  have hx := cx.1.1
  have hb := cx.1.2.1
  refine lv_aload_n hx hb dX0_canBeTried_0 rfl (lv_at hl 0 rfl) ?_
  refine w_get cx (ci := 0) rfl iX0 (hP _ _ (cX_T hi hW.t)) 0 (by decide) k_107 (v := .int (ar S 0 i)) rfl dX0_canBeTried_1 ?_
  refine lv_if_eq (tgt := 26) hx hb dX0_canBeTried_4 (by decide) (fun c_1 => ?_) (fun c_1 => ?_)
  · refine lv_iconst (v := 0) hx hb dX0_canBeTried_26 (by decide) ?_
    exact r_bool cx hr hlk (by rw [f_X0_canBeTried, if_pos c_1]) (Or.inl rfl) dX0_canBeTried_27
  · refine lv_aload_n hx hb dX0_canBeTried_7 rfl (lv_at hl 0 rfl) ?_
    refine w_get cx (ci := 0) rfl iX0 (hP _ _ (cX_T hi hW.t)) 0 (by decide) k_107 (v := .int (ar S 0 i)) rfl dX0_canBeTried_8 ?_
    refine lv_iconst (v := 3) hx hb dX0_canBeTried_11 (by decide) ?_
    refine lv_icmp_ne (tgt := 22) hx hb dX0_canBeTried_12 (by decide) (fun c_2 => ?_) (fun c_2 => ?_)
    · refine lv_iconst (v := 1) hx hb dX0_canBeTried_22 (by decide) ?_
      refine lv_goto (tgt := 27) hx hb dX0_canBeTried_23 (by decide) ?_
      exact r_bool cx hr hlk (by rw [f_X0_canBeTried, if_neg c_1, if_neg c_2]) (Or.inr rfl) dX0_canBeTried_27
    · refine lv_aload_n hx hb dX0_canBeTried_15 rfl (lv_at hl 0 rfl) ?_
      refine w_callV (As := []) (rest := []) (st := [.int (f_X0_hasAllDraws S i)]) cx (c_X0_hasAllDraws l G ad S E hW (i := i) hi) k_192 cal_yX0_hasAllDraws (ci := 0) rfl (hP _ _ (cX_T hi hW.t)) hP rfl ⟨Nat.le_of_ble_eq_true rfl, Nat.le_of_ble_eq_true rfl⟩ hl.1 (Nat.le_of_ble_eq_true rfl) ⟨Nat.zero_le _, Nat.zero_le _⟩ rfl rfl dX0_canBeTried_16 ?_
      refine lv_if_eq (tgt := 26) hx hb dX0_canBeTried_19 (by decide) (fun c_3 => ?_) (fun c_3 => ?_)
      · refine lv_iconst (v := 0) hx hb dX0_canBeTried_26 (by decide) ?_
        exact r_bool cx hr hlk (by rw [f_X0_canBeTried, if_neg c_1, if_pos c_2, if_pos c_3]) (Or.inl rfl) dX0_canBeTried_27
      · refine lv_iconst (v := 1) hx hb dX0_canBeTried_22 (by decide) ?_
        refine lv_goto (tgt := 27) hx hb dX0_canBeTried_23 (by decide) ?_
        exact r_bool cx hr hlk (by rw [f_X0_canBeTried, if_neg c_1, if_pos c_2, if_neg c_3]) (Or.inr rfl) dX0_canBeTried_27
def f_X0_canTryOthers (S : St) (i : Nat) (d : Int32) : Int32 :=
  if f_X0_isOfTrade S i = 0 then (if f_X0_isSettledNow S i = 0 then 0
    else if f_X0_isDueOn S i d = 0 then 1
    else 0)
  else 0
theorem b_X0_canTryOthers (S : St) (i : Nat) (d : Int32) : f_X0_canTryOthers S i d = 0 ∨ f_X0_canTryOthers S i d = 1 := by
  unfold f_X0_canTryOthers
  repeat' split
  all_goals first | exact Or.inl rfl | exact Or.inr rfl
set_option maxRecDepth 20000 in
theorem c_X0_canTryOthers (l : Launch) (G : GG) (ad : Nat → Nat) (S : St) (E : Ex) (hW : WF S) {i : Nat} (hi : i < nt S) (d : Int32) : MR l yX0_canTryOthers cX0_canTryOthers 2 (some .boolean) 3 65 G ad (cX G ad S E) [.ref (ad (10 + 2 * i)), .int d] (some (.int (f_X0_canTryOthers S i d))) := by
  refine MR.of [(0, .ref (ad (10 + 2 * i))), (1, .int d)] (by decide) (Nat.le_of_ble_eq_true rfl) rfl ?_
  intro p e s m args below meth c cx hr hlk hP ls hl
  have hx := cx.1.1
  have hb := cx.1.2.1
  refine lv_aload_n hx hb dX0_canTryOthers_0 rfl (lv_at hl 0 rfl) ?_
  refine w_callV (As := []) (rest := []) (st := [.int (f_X0_isOfTrade S i)]) cx (c_X0_isOfTrade l G ad S E hW (i := i) hi) k_197 cal_yX0_isOfTrade (ci := 0) rfl (hP _ _ (cX_T hi hW.t)) hP rfl ⟨Nat.le_of_ble_eq_true rfl, Nat.le_of_ble_eq_true rfl⟩ hl.1 (Nat.le_of_ble_eq_true rfl) ⟨Nat.zero_le _, Nat.zero_le _⟩ rfl rfl dX0_canTryOthers_1 ?_
  refine lv_if_ne (tgt := 26) hx hb dX0_canTryOthers_4 (by decide) (fun c_1 => ?_) (fun c_1 => ?_)
  · refine lv_iconst (v := 0) hx hb dX0_canTryOthers_26 (by decide) ?_
    exact r_bool cx hr hlk (by rw [f_X0_canTryOthers, if_neg c_1]) (Or.inl rfl) dX0_canTryOthers_27
  · refine lv_aload_n hx hb dX0_canTryOthers_7 rfl (lv_at hl 0 rfl) ?_
    refine w_callV (As := []) (rest := []) (st := [.int (f_X0_isSettledNow S i)]) cx (c_X0_isSettledNow l G ad S E hW (i := i) hi) k_198 cal_yX0_isSettledNow (ci := 0) rfl (hP _ _ (cX_T hi hW.t)) hP rfl ⟨Nat.le_of_ble_eq_true rfl, Nat.le_of_ble_eq_true rfl⟩ hl.1 (Nat.le_of_ble_eq_true rfl) ⟨Nat.zero_le _, Nat.zero_le _⟩ rfl rfl dX0_canTryOthers_8 ?_
    refine lv_if_eq (tgt := 26) hx hb dX0_canTryOthers_11 (by decide) (fun c_2 => ?_) (fun c_2 => ?_)
    · refine lv_iconst (v := 0) hx hb dX0_canTryOthers_26 (by decide) ?_
      exact r_bool cx hr hlk (by rw [f_X0_canTryOthers, if_pos c_1, if_pos c_2]) (Or.inl rfl) dX0_canTryOthers_27
    · refine lv_aload_n hx hb dX0_canTryOthers_14 rfl (lv_at hl 0 rfl) ?_
      refine lv_iload_n hx hb dX0_canTryOthers_15 rfl (lv_at hl 1 rfl) ?_
      refine w_callV (As := [.int d]) (rest := []) (st := [.int (f_X0_isDueOn S i d)]) cx (c_X0_isDueOn l G ad S E hW (i := i) hi d) k_202 cal_yX0_isDueOn (ci := 0) rfl (hP _ _ (cX_T hi hW.t)) hP rfl ⟨Nat.le_of_ble_eq_true rfl, Nat.le_of_ble_eq_true rfl⟩ hl.1 (Nat.le_of_ble_eq_true rfl) ⟨Nat.zero_le _, Nat.zero_le _⟩ rfl rfl dX0_canTryOthers_16 ?_
      refine lv_if_ne (tgt := 26) hx hb dX0_canTryOthers_19 (by decide) (fun c_3 => ?_) (fun c_3 => ?_)
      · refine lv_iconst (v := 0) hx hb dX0_canTryOthers_26 (by decide) ?_
        exact r_bool cx hr hlk (by rw [f_X0_canTryOthers, if_pos c_1, if_neg c_2, if_neg c_3]) (Or.inl rfl) dX0_canTryOthers_27
      · refine lv_iconst (v := 1) hx hb dX0_canTryOthers_22 (by decide) ?_
        refine lv_goto (tgt := 27) hx hb dX0_canTryOthers_23 (by decide) ?_
        exact r_bool cx hr hlk (by rw [f_X0_canTryOthers, if_pos c_1, if_neg c_2, if_pos c_3]) (Or.inr rfl) dX0_canTryOthers_27
def f_X0_errorHeld (S : St) (i : Nat)  : Int32 :=
  if ar S 5 i = -1000000 then 0
  else ar S 16 (ix (ar S 5 i))
set_option maxRecDepth 20000 in
theorem c_X0_errorHeld (l : Launch) (G : GG) (ad : Nat → Nat) (S : St) (E : Ex) (hW : WF S) {i : Nat} (hi : i < nt S)  : MR l yX0_errorHeld cX0_errorHeld 1 (some .int) 0 0 G ad (cX G ad S E) [.ref (ad (10 + 2 * i))] (some (.int (f_X0_errorHeld S i))) := by
  refine MR.of [(0, .ref (ad (10 + 2 * i)))] (by decide) (Nat.le_of_ble_eq_true rfl) rfl ?_
  intro p e s m args below meth c cx hr hlk hP ls hl
  have hx := cx.1.1
  have hb := cx.1.2.1
  refine lv_aload_n hx hb dX0_errorHeld_0 rfl (lv_at hl 0 rfl) ?_
  by_cases c_1 : ar S 5 i = -1000000
  · refine w_get cx (ci := 0) rfl iX0 (hP _ _ (cX_T hi hW.t)) 9 (by decide) k_123 (v := .null) (congrArg some (rT_null c_1)) dX0_errorHeld_1 ?_
    refine lv_ifnonnullN hx hb dX0_errorHeld_4 ?_
    refine lv_iconst (v := 0) hx hb dX0_errorHeld_7 (by decide) ?_
    refine lv_goto (tgt := 18) hx hb dX0_errorHeld_8 (by decide) ?_
    exact r_int cx hr hlk (by rw [f_X0_errorHeld, if_pos c_1]) dX0_errorHeld_18
  · refine w_get cx (ci := 0) rfl iX0 (hP _ _ (cX_T hi hW.t)) 9 (by decide) k_123 (v := .ref (ad (100 + ix (ar S 5 i)))) (congrArg some (rT_ref c_1)) dX0_errorHeld_1 ?_
    refine lv_ifnonnull (tgt := 11) hx hb dX0_errorHeld_4 (by decide) ?_
    refine lv_aload_n hx hb dX0_errorHeld_11 rfl (lv_at hl 0 rfl) ?_
    refine w_get cx (ci := 0) rfl iX0 (hP _ _ (cX_T hi hW.t)) 9 (by decide) k_123 (v := .ref (ad (100 + ix (ar S 5 i)))) (congrArg some (rT_ref c_1)) dX0_errorHeld_12 ?_
    refine w_get cx (ci := 1) rfl iX1 (hP _ _ (cX_R (hW.la hi c_1).2)) 5 (by decide) k_258 (v := .int (ar S 16 (ix (ar S 5 i)))) rfl dX0_errorHeld_15 ?_
    exact r_int cx hr hlk (by rw [f_X0_errorHeld, if_neg c_1]) dX0_errorHeld_18
def f_X0_errorSize (S : St) (i : Nat)  : Int32 :=
  f_abs (f_X0_errorHeld S i)
set_option maxRecDepth 20000 in
theorem c_X0_errorSize (l : Launch) (G : GG) (ad : Nat → Nat) (S : St) (E : Ex) (hW : WF S) {i : Nat} (hi : i < nt S)  : MR l yX0_errorSize cX0_errorSize 1 (some .int) 1 23 G ad (cX G ad S E) [.ref (ad (10 + 2 * i))] (some (.int (f_X0_errorSize S i))) := by
  refine MR.of [(0, .ref (ad (10 + 2 * i)))] (by decide) (Nat.le_of_ble_eq_true rfl) rfl ?_
  intro p e s m args below meth c cx hr hlk hP ls hl
  have hx := cx.1.1
  have hb := cx.1.2.1
  refine lv_aload_n hx hb dX0_errorSize_0 rfl (lv_at hl 0 rfl) ?_
  refine w_callV (As := []) (rest := []) (st := [.int (f_X0_errorHeld S i)]) cx (c_X0_errorHeld l G ad S E hW (i := i) hi) k_367 cal_yX0_errorHeld (ci := 0) rfl (hP _ _ (cX_T hi hW.t)) hP rfl ⟨Nat.le_of_ble_eq_true rfl, Nat.le_of_ble_eq_true rfl⟩ hl.1 (Nat.le_of_ble_eq_true rfl) ⟨Nat.zero_le _, Nat.zero_le _⟩ rfl rfl dX0_errorSize_1 ?_
  refine w_abs cx hl.1 k_296 (Nat.le_of_ble_eq_true rfl) (Nat.le_of_ble_eq_true rfl) ⟨Nat.zero_le _, Nat.zero_le _⟩ (Nat.le_of_ble_eq_true rfl) dX0_errorSize_4 ?_
  exact r_int cx hr hlk (by rw [f_X0_errorSize]) dX0_errorSize_7
def f_X0_spanOn (S : St) (i : Nat) (d : Int32) : Int32 :=
  if ar S 5 i = -1000000 then 0
  else (ar S 17 (ix (ar S 5 i))) + (((((ar S 1 i) * (d - (ar S 15 (ix (ar S 5 i))))) + 100) - 1) / 100)
set_option maxRecDepth 20000 in
theorem c_X0_spanOn (l : Launch) (G : GG) (ad : Nat → Nat) (S : St) (E : Ex) (hW : WF S) {i : Nat} (hi : i < nt S) (d : Int32) : MR l yX0_spanOn cX0_spanOn 3 (some .int) 0 0 G ad (cX G ad S E) [.ref (ad (10 + 2 * i)), .int d] (some (.int (f_X0_spanOn S i d))) := by
  refine MR.of [(0, .ref (ad (10 + 2 * i))), (1, .int d)] (by decide) (Nat.le_of_ble_eq_true rfl) rfl ?_
  intro p e s m args below meth c cx hr hlk hP ls hl
  have hx := cx.1.1
  have hb := cx.1.2.1
  refine lv_aload_n hx hb dX0_spanOn_0 rfl (lv_at hl 0 rfl) ?_
  by_cases c_1 : ar S 5 i = -1000000
  · refine w_get cx (ci := 0) rfl iX0 (hP _ _ (cX_T hi hW.t)) 9 (by decide) k_123 (v := .null) (congrArg some (rT_null c_1)) dX0_spanOn_1 ?_
    refine lv_ifnonnullN hx hb dX0_spanOn_4 ?_
    refine lv_iconst (v := 0) hx hb dX0_spanOn_7 (by decide) ?_
    exact r_int cx hr hlk (by rw [f_X0_spanOn, if_pos c_1]) dX0_spanOn_8
  · refine w_get cx (ci := 0) rfl iX0 (hP _ _ (cX_T hi hW.t)) 9 (by decide) k_123 (v := .ref (ad (100 + ix (ar S 5 i)))) (congrArg some (rT_ref c_1)) dX0_spanOn_1 ?_
    refine lv_ifnonnull (tgt := 9) hx hb dX0_spanOn_4 (by decide) ?_
    refine lv_aload_n hx hb dX0_spanOn_9 rfl (lv_at hl 0 rfl) ?_
    refine w_get cx (ci := 0) rfl iX0 (hP _ _ (cX_T hi hW.t)) 1 (by decide) k_109 (v := .int (ar S 1 i)) rfl dX0_spanOn_10 ?_
    refine lv_iload_n hx hb dX0_spanOn_13 rfl (lv_at hl 1 rfl) ?_
    refine lv_aload_n hx hb dX0_spanOn_14 rfl (lv_at hl 0 rfl) ?_
    refine w_get cx (ci := 0) rfl iX0 (hP _ _ (cX_T hi hW.t)) 9 (by decide) k_123 (v := .ref (ad (100 + ix (ar S 5 i)))) (congrArg some (rT_ref c_1)) dX0_spanOn_15 ?_
    refine w_get cx (ci := 1) rfl iX1 (hP _ _ (cX_R (hW.la hi c_1).2)) 4 (by decide) k_255 (v := .int (ar S 15 (ix (ar S 5 i)))) rfl dX0_spanOn_18 ?_
    refine lv_isub hx hb dX0_spanOn_21 ?_
    refine lv_imul hx hb dX0_spanOn_22 ?_
    refine lv_istore_n (lv' := [(2, .int ((ar S 1 i) * (d - (ar S 15 (ix (ar S 5 i)))))), (0, .ref (ad (10 + 2 * i))), (1, .int d)]) hx hb dX0_spanOn_23 rfl hl (by decide) rfl (fun ls hl => ?_)
    refine lv_aload_n hx hb dX0_spanOn_24 rfl (lv_at hl 1 rfl) ?_
    refine w_get cx (ci := 0) rfl iX0 (hP _ _ (cX_T hi hW.t)) 9 (by decide) k_123 (v := .ref (ad (100 + ix (ar S 5 i)))) (congrArg some (rT_ref c_1)) dX0_spanOn_25 ?_
    refine w_get cx (ci := 1) rfl iX1 (hP _ _ (cX_R (hW.la hi c_1).2)) 6 (by decide) k_261 (v := .int (ar S 17 (ix (ar S 5 i)))) rfl dX0_spanOn_28 ?_
    refine lv_iload_n hx hb dX0_spanOn_31 rfl (lv_at hl 0 rfl) ?_
    refine lv_bipush (v := 100) hx hb dX0_spanOn_32 (by decide) ?_
    refine lv_iadd hx hb dX0_spanOn_34 ?_
    refine lv_iconst (v := 1) hx hb dX0_spanOn_35 (by decide) ?_
    refine lv_isub hx hb dX0_spanOn_36 ?_
    refine lv_bipush (v := 100) hx hb dX0_spanOn_37 (by decide) ?_
    refine lv_idiv hx hb dX0_spanOn_39 (by decide) ?_
    refine lv_iadd hx hb dX0_spanOn_40 ?_
    exact r_int cx hr hlk (by rw [f_X0_spanOn, if_neg c_1]) dX0_spanOn_41
def f_X0_daysNoWiderThan (S : St) (i : Nat) (x d : Int32) : Int32 :=
  if ar S 5 i = -1000000 then 20000
  else if 0 < ar S 1 i then (f_lmin 20000 ((((((x).toInt64) - ((ar S 17 (ix (ar S 5 i))).toInt64)) * 100) / ((ar S 1 i).toInt64)) - ((d - (ar S 15 (ix (ar S 5 i)))).toInt64))).toInt32
  else 20000
set_option maxRecDepth 20000 in
theorem c_X0_daysNoWiderThan (l : Launch) (G : GG) (ad : Nat → Nat) (S : St) (E : Ex) (hW : WF S) {i : Nat} (hi : i < nt S) (x d : Int32) : MR l yX0_daysNoWiderThan cX0_daysNoWiderThan 5 (some .int) 1 23 G ad (cX G ad S E) [.ref (ad (10 + 2 * i)), .int x, .int d] (some (.int (f_X0_daysNoWiderThan S i x d))) := by
  refine MR.of [(0, .ref (ad (10 + 2 * i))), (1, .int x), (2, .int d)] (by decide) (Nat.le_of_ble_eq_true rfl) rfl ?_
  intro p e s m args below meth c cx hr hlk hP ls hl
  have hx := cx.1.1
  have hb := cx.1.2.1
  refine lv_aload_n hx hb dX0_daysNoWiderThan_0 rfl (lv_at hl 0 rfl) ?_
  by_cases c_1 : ar S 5 i = -1000000
  · refine w_get cx (ci := 0) rfl iX0 (hP _ _ (cX_T hi hW.t)) 9 (by decide) k_123 (v := .null) (congrArg some (rT_null c_1)) dX0_daysNoWiderThan_1 ?_
    refine lv_ifnullN (tgt := 14) hx hb dX0_daysNoWiderThan_4 (by decide) ?_
    refine lv_sipush (v := 20000) hx hb dX0_daysNoWiderThan_14 (by decide) ?_
    exact r_int cx hr hlk (by rw [f_X0_daysNoWiderThan, if_pos c_1]) dX0_daysNoWiderThan_17
  · refine w_get cx (ci := 0) rfl iX0 (hP _ _ (cX_T hi hW.t)) 9 (by decide) k_123 (v := .ref (ad (100 + ix (ar S 5 i)))) (congrArg some (rT_ref c_1)) dX0_daysNoWiderThan_1 ?_
    refine lv_ifnull hx hb dX0_daysNoWiderThan_4 ?_
    refine lv_aload_n hx hb dX0_daysNoWiderThan_7 rfl (lv_at hl 0 rfl) ?_
    refine w_get cx (ci := 0) rfl iX0 (hP _ _ (cX_T hi hW.t)) 1 (by decide) k_109 (v := .int (ar S 1 i)) rfl dX0_daysNoWiderThan_8 ?_
    refine lv_if_gt (tgt := 18) hx hb dX0_daysNoWiderThan_11 (by decide) (fun c_2 => ?_) (fun c_2 => ?_)
    · refine lv_iload_n hx hb dX0_daysNoWiderThan_18 rfl (lv_at hl 1 rfl) ?_
      refine lv_i2l hx hb dX0_daysNoWiderThan_19 rfl ?_
      refine lv_aload_n hx hb dX0_daysNoWiderThan_20 rfl (lv_at hl 0 rfl) ?_
      refine w_get cx (ci := 0) rfl iX0 (hP _ _ (cX_T hi hW.t)) 9 (by decide) k_123 (v := .ref (ad (100 + ix (ar S 5 i)))) (congrArg some (rT_ref c_1)) dX0_daysNoWiderThan_21 ?_
      refine w_get cx (ci := 1) rfl iX1 (hP _ _ (cX_R (hW.la hi c_1).2)) 6 (by decide) k_261 (v := .int (ar S 17 (ix (ar S 5 i)))) rfl dX0_daysNoWiderThan_24 ?_
      refine lv_i2l hx hb dX0_daysNoWiderThan_27 rfl ?_
      refine lv_lsub hx hb dX0_daysNoWiderThan_28 ?_
      refine w_ldc2 cx k_380 dX0_daysNoWiderThan_29 ?_
      refine lv_lmul hx hb dX0_daysNoWiderThan_32 ?_
      refine lv_aload_n hx hb dX0_daysNoWiderThan_33 rfl (lv_at hl 0 rfl) ?_
      refine w_get cx (ci := 0) rfl iX0 (hP _ _ (cX_T hi hW.t)) 1 (by decide) k_109 (v := .int (ar S 1 i)) rfl dX0_daysNoWiderThan_34 ?_
      refine lv_i2l hx hb dX0_daysNoWiderThan_37 rfl ?_
      refine lv_ldiv hx hb dX0_daysNoWiderThan_38 (nz64' c_2) ?_
      refine lv_lstore_n (lv' := [(3, .long (((((x).toInt64) - ((ar S 17 (ix (ar S 5 i))).toInt64)) * 100) / ((ar S 1 i).toInt64))), (0, .ref (ad (10 + 2 * i))), (1, .int x), (2, .int d)]) hx hb dX0_daysNoWiderThan_39 rfl hl (by decide) rfl (fun ls hl => ?_)
      refine w_ldc2 cx k_381 dX0_daysNoWiderThan_40 ?_
      refine lv_lload_n hx hb dX0_daysNoWiderThan_43 rfl (lv_at hl 0 rfl) ?_
      refine lv_iload_n hx hb dX0_daysNoWiderThan_44 rfl (lv_at hl 3 rfl) ?_
      refine lv_aload_n hx hb dX0_daysNoWiderThan_45 rfl (lv_at hl 1 rfl) ?_
      refine w_get cx (ci := 0) rfl iX0 (hP _ _ (cX_T hi hW.t)) 9 (by decide) k_123 (v := .ref (ad (100 + ix (ar S 5 i)))) (congrArg some (rT_ref c_1)) dX0_daysNoWiderThan_46 ?_
      refine w_get cx (ci := 1) rfl iX1 (hP _ _ (cX_R (hW.la hi c_1).2)) 4 (by decide) k_255 (v := .int (ar S 15 (ix (ar S 5 i)))) rfl dX0_daysNoWiderThan_49 ?_
      refine lv_isub hx hb dX0_daysNoWiderThan_52 ?_
      refine lv_i2l hx hb dX0_daysNoWiderThan_53 rfl ?_
      refine lv_lsub hx hb dX0_daysNoWiderThan_54 ?_
      refine w_lmin cx hl.1 k_382 (Nat.le_of_ble_eq_true rfl) (Nat.le_of_ble_eq_true rfl) ⟨Nat.zero_le _, Nat.zero_le _⟩ (Nat.le_of_ble_eq_true rfl) dX0_daysNoWiderThan_55 ?_
      refine lv_l2i hx hb dX0_daysNoWiderThan_58 rfl ?_
      exact r_int cx hr hlk (by rw [f_X0_daysNoWiderThan, if_neg c_1, if_pos c_2]) dX0_daysNoWiderThan_59
    · refine lv_sipush (v := 20000) hx hb dX0_daysNoWiderThan_14 (by decide) ?_
      exact r_int cx hr hlk (by rw [f_X0_daysNoWiderThan, if_neg c_1, if_neg c_2]) dX0_daysNoWiderThan_17
def f_X0_isWrongedBy (S : St) (i n : Nat) : Int32 :=
  if ar S 5 i = -1000000 then 0
  else if ar S 18 (ix (ar S 5 i)) = 0 then 0
  else if f_abs ((ar S 16 (ix (ar S 5 i))) - (ar S 16 n)) ≤ (f_X0_spanOn S i (ar S 15 n)) + (ar S 17 n) then 0
  else 1
theorem b_X0_isWrongedBy (S : St) (i n : Nat) : f_X0_isWrongedBy S i n = 0 ∨ f_X0_isWrongedBy S i n = 1 := by
  unfold f_X0_isWrongedBy
  repeat' split
  all_goals first | exact Or.inl rfl | exact Or.inr rfl
set_option maxRecDepth 20000 in
theorem c_X0_isWrongedBy (l : Launch) (G : GG) (ad : Nat → Nat) (S : St) (E : Ex) (hW : WF S) {i : Nat} (hi : i < nt S) {n : Nat} (hn : n < nr S) : MR l yX0_isWrongedBy cX0_isWrongedBy 3 (some .boolean) 1 23 G ad (cX G ad S E) [.ref (ad (10 + 2 * i)), .ref (ad (100 + n))] (some (.int (f_X0_isWrongedBy S i n))) := by
  refine MR.of [(0, .ref (ad (10 + 2 * i))), (1, .ref (ad (100 + n)))] (by decide) (Nat.le_of_ble_eq_true rfl) rfl ?_
  intro p e s m args below meth c cx hr hlk hP ls hl
  have hx := cx.1.1
  have hb := cx.1.2.1
  refine lv_aload_n hx hb dX0_isWrongedBy_0 rfl (lv_at hl 0 rfl) ?_
  by_cases c_1 : ar S 5 i = -1000000
  · refine w_get cx (ci := 0) rfl iX0 (hP _ _ (cX_T hi hW.t)) 9 (by decide) k_123 (v := .null) (congrArg some (rT_null c_1)) dX0_isWrongedBy_1 ?_
    refine lv_ifnullN (tgt := 17) hx hb dX0_isWrongedBy_4 (by decide) ?_
    refine lv_iconst (v := 0) hx hb dX0_isWrongedBy_17 (by decide) ?_
    exact r_bool cx hr hlk (by rw [f_X0_isWrongedBy, if_pos c_1]) (Or.inl rfl) dX0_isWrongedBy_18
  · refine w_get cx (ci := 0) rfl iX0 (hP _ _ (cX_T hi hW.t)) 9 (by decide) k_123 (v := .ref (ad (100 + ix (ar S 5 i)))) (congrArg some (rT_ref c_1)) dX0_isWrongedBy_1 ?_
    refine lv_ifnull hx hb dX0_isWrongedBy_4 ?_
    refine lv_aload_n hx hb dX0_isWrongedBy_7 rfl (lv_at hl 0 rfl) ?_
    refine w_get cx (ci := 0) rfl iX0 (hP _ _ (cX_T hi hW.t)) 9 (by decide) k_123 (v := .ref (ad (100 + ix (ar S 5 i)))) (congrArg some (rT_ref c_1)) dX0_isWrongedBy_8 ?_
    refine w_get cx (ci := 1) rfl iX1 (hP _ _ (cX_R (hW.la hi c_1).2)) 7 (by decide) k_264 (v := .int (ar S 18 (ix (ar S 5 i)))) rfl dX0_isWrongedBy_11 ?_
    refine lv_if_ne (tgt := 19) hx hb dX0_isWrongedBy_14 (by decide) (fun c_2 => ?_) (fun c_2 => ?_)
    · refine lv_aload_n hx hb dX0_isWrongedBy_19 rfl (lv_at hl 0 rfl) ?_
      refine w_get cx (ci := 0) rfl iX0 (hP _ _ (cX_T hi hW.t)) 9 (by decide) k_123 (v := .ref (ad (100 + ix (ar S 5 i)))) (congrArg some (rT_ref c_1)) dX0_isWrongedBy_20 ?_
      refine w_get cx (ci := 1) rfl iX1 (hP _ _ (cX_R (hW.la hi c_1).2)) 5 (by decide) k_258 (v := .int (ar S 16 (ix (ar S 5 i)))) rfl dX0_isWrongedBy_23 ?_
      refine lv_aload_n hx hb dX0_isWrongedBy_26 rfl (lv_at hl 1 rfl) ?_
      refine w_get cx (ci := 1) rfl iX1 (hP _ _ (cX_R hn)) 5 (by decide) k_258 (v := .int (ar S 16 n)) rfl dX0_isWrongedBy_27 ?_
      refine lv_isub hx hb dX0_isWrongedBy_30 ?_
      refine w_abs cx hl.1 k_296 (Nat.le_of_ble_eq_true rfl) (Nat.le_of_ble_eq_true rfl) ⟨Nat.zero_le _, Nat.zero_le _⟩ (Nat.le_of_ble_eq_true rfl) dX0_isWrongedBy_31 ?_
      refine lv_istore_n (lv' := [(2, .int (f_abs ((ar S 16 (ix (ar S 5 i))) - (ar S 16 n)))), (0, .ref (ad (10 + 2 * i))), (1, .ref (ad (100 + n)))]) hx hb dX0_isWrongedBy_34 rfl hl (by decide) rfl (fun ls hl => ?_)
      refine lv_iload_n hx hb dX0_isWrongedBy_35 rfl (lv_at hl 0 rfl) ?_
      refine lv_aload_n hx hb dX0_isWrongedBy_36 rfl (lv_at hl 1 rfl) ?_
      refine lv_aload_n hx hb dX0_isWrongedBy_37 rfl (lv_at hl 2 rfl) ?_
      refine w_get cx (ci := 1) rfl iX1 (hP _ _ (cX_R hn)) 4 (by decide) k_255 (v := .int (ar S 15 n)) rfl dX0_isWrongedBy_38 ?_
      refine w_callV (As := [.int (ar S 15 n)]) (rest := [.int (f_abs ((ar S 16 (ix (ar S 5 i))) - (ar S 16 n)))]) (st := [.int (f_X0_spanOn S i (ar S 15 n)), .int (f_abs ((ar S 16 (ix (ar S 5 i))) - (ar S 16 n)))]) cx (c_X0_spanOn l G ad S E hW (i := i) hi (ar S 15 n)) k_299 cal_yX0_spanOn (ci := 0) rfl (hP _ _ (cX_T hi hW.t)) hP rfl ⟨Nat.le_of_ble_eq_true rfl, Nat.le_of_ble_eq_true rfl⟩ hl.1 (Nat.le_of_ble_eq_true rfl) ⟨Nat.zero_le _, Nat.zero_le _⟩ rfl rfl dX0_isWrongedBy_41 ?_
      refine lv_aload_n hx hb dX0_isWrongedBy_44 rfl (lv_at hl 2 rfl) ?_
      refine w_get cx (ci := 1) rfl iX1 (hP _ _ (cX_R hn)) 6 (by decide) k_261 (v := .int (ar S 17 n)) rfl dX0_isWrongedBy_45 ?_
      refine lv_iadd hx hb dX0_isWrongedBy_48 ?_
      refine lv_icmp_le (tgt := 56) hx hb dX0_isWrongedBy_49 (by decide) (fun c_3 => ?_) (fun c_3 => ?_)
      · refine lv_iconst (v := 0) hx hb dX0_isWrongedBy_56 (by decide) ?_
        exact r_bool cx hr hlk (by rw [f_X0_isWrongedBy, if_neg c_1, if_neg c_2, if_pos c_3]) (Or.inl rfl) dX0_isWrongedBy_57
      · refine lv_iconst (v := 1) hx hb dX0_isWrongedBy_52 (by decide) ?_
        refine lv_goto (tgt := 57) hx hb dX0_isWrongedBy_53 (by decide) ?_
        exact r_bool cx hr hlk (by rw [f_X0_isWrongedBy, if_neg c_1, if_neg c_2, if_neg c_3]) (Or.inr rfl) dX0_isWrongedBy_57
    · refine lv_iconst (v := 0) hx hb dX0_isWrongedBy_17 (by decide) ?_
      exact r_bool cx hr hlk (by rw [f_X0_isWrongedBy, if_neg c_1, if_pos c_2]) (Or.inl rfl) dX0_isWrongedBy_18
def f_X1_isShakenBy (S : St) (n k : Nat) : Int32 :=
  if ar S 20 n = -1000000 then 0
  else if ix (ar S 20 n) = k then 1
  else if ar S 18 (ix (ar S 20 n)) = 0 then 1
  else 0
theorem b_X1_isShakenBy (S : St) (n k : Nat) : f_X1_isShakenBy S n k = 0 ∨ f_X1_isShakenBy S n k = 1 := by
  unfold f_X1_isShakenBy
  repeat' split
  all_goals first | exact Or.inl rfl | exact Or.inr rfl
set_option maxRecDepth 20000 in
theorem c_X1_isShakenBy (l : Launch) (G : GG) (ad : Nat → Nat) (S : St) (E : Ex) (hW : WF S) (hBa : WB S) (hj : ∀ a b : Nat, a < nr S → b < nr S → ad (100 + a) = ad (100 + b) → a = b) {n : Nat} (hn : n < nr S) {k : Nat} (hk : k < nr S) : MR l yX1_isShakenBy cX1_isShakenBy 2 (some .boolean) 0 0 G ad (cX G ad S E) [.ref (ad (100 + n)), .ref (ad (100 + k))] (some (.int (f_X1_isShakenBy S n k))) := by
  refine MR.of [(0, .ref (ad (100 + n))), (1, .ref (ad (100 + k)))] (by decide) (Nat.le_of_ble_eq_true rfl) rfl ?_
  intro p e s m args below meth c cx hr hlk hP ls hl
  have hx := cx.1.1
  have hb := cx.1.2.1
  refine lv_aload_n hx hb dX1_isShakenBy_0 rfl (lv_at hl 0 rfl) ?_
  by_cases c_1 : ar S 20 n = -1000000
  · refine w_get cx (ci := 1) rfl iX1 (hP _ _ (cX_R hn)) 3 (by decide) k_251 (v := .null) (congrArg some (rT_null c_1)) dX1_isShakenBy_1 ?_
    refine lv_ifnullN (tgt := 29) hx hb dX1_isShakenBy_4 (by decide) ?_
    refine lv_iconst (v := 0) hx hb dX1_isShakenBy_29 (by decide) ?_
    exact r_bool cx hr hlk (by rw [f_X1_isShakenBy, if_pos c_1]) (Or.inl rfl) dX1_isShakenBy_30
  · refine w_get cx (ci := 1) rfl iX1 (hP _ _ (cX_R hn)) 3 (by decide) k_251 (v := .ref (ad (100 + ix (ar S 20 n)))) (congrArg some (rT_ref c_1)) dX1_isShakenBy_1 ?_
    refine lv_ifnull hx hb dX1_isShakenBy_4 ?_
    refine lv_aload_n hx hb dX1_isShakenBy_7 rfl (lv_at hl 0 rfl) ?_
    refine w_get cx (ci := 1) rfl iX1 (hP _ _ (cX_R hn)) 3 (by decide) k_251 (v := .ref (ad (100 + ix (ar S 20 n)))) (congrArg some (rT_ref c_1)) dX1_isShakenBy_8 ?_
    refine lv_aload_n hx hb dX1_isShakenBy_11 rfl (lv_at hl 1 rfl) ?_
    refine lv_acmp_eq (rx := some (ad (100 + ix (ar S 20 n)))) (ry := some (ad (100 + k))) (tgt := 25) hx hb dX1_isShakenBy_12 (by decide) (fun c_2 => ?_) (fun c_2 => ?_)
    · refine lv_iconst (v := 1) hx hb dX1_isShakenBy_25 (by decide) ?_
      refine lv_goto (tgt := 30) hx hb dX1_isShakenBy_26 (by decide) ?_
      exact r_bool cx hr hlk (by rw [f_X1_isShakenBy, if_neg c_1, if_pos (hj _ _ (Nat.lt_trans (hBa.ba hn c_1).2 hn) hk (Option.some.inj c_2))]) (Or.inr rfl) dX1_isShakenBy_30
    · refine lv_aload_n hx hb dX1_isShakenBy_15 rfl (lv_at hl 0 rfl) ?_
      refine w_get cx (ci := 1) rfl iX1 (hP _ _ (cX_R hn)) 3 (by decide) k_251 (v := .ref (ad (100 + ix (ar S 20 n)))) (congrArg some (rT_ref c_1)) dX1_isShakenBy_16 ?_
      refine w_get cx (ci := 1) rfl iX1 (hP _ _ (cX_R (Nat.lt_trans (hBa.ba hn c_1).2 hn))) 7 (by decide) k_262 (v := .int (ar S 18 (ix (ar S 20 n)))) rfl dX1_isShakenBy_19 ?_
      refine lv_if_ne (tgt := 29) hx hb dX1_isShakenBy_22 (by decide) (fun c_3 => ?_) (fun c_3 => ?_)
      · refine lv_iconst (v := 0) hx hb dX1_isShakenBy_29 (by decide) ?_
        exact r_bool cx hr hlk (by rw [f_X1_isShakenBy, if_neg c_1, if_neg (fun e => c_2 (by rw [e])), if_neg c_3]) (Or.inl rfl) dX1_isShakenBy_30
      · refine lv_iconst (v := 1) hx hb dX1_isShakenBy_25 (by decide) ?_
        refine lv_goto (tgt := 30) hx hb dX1_isShakenBy_26 (by decide) ?_
        exact r_bool cx hr hlk (by rw [f_X1_isShakenBy, if_neg c_1, if_neg (fun e => c_2 (by rw [e])), if_pos c_3]) (Or.inr rfl) dX1_isShakenBy_30
