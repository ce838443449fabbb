theorem pw_injR {G : GG} {A : Nat → Prop} {ad : Nat → Nat} {S : St} {E : Ex} {H : Heap} (h : pw G A ad (cX G ad S E) H) : ∀ a b : Nat, a < nr S → b < nr S → ad (100 + a) = ad (100 + b) → a = b := fun a b ha hb e => by
  have := h.inj (100 + a) (100 + b) _ _ (cX_R ha) (cX_R hb) e
  omega
def f_X0_take (S : St) (i n : Nat) : St :=
  (setA (setA (setA S 5 i (nI n)) 4 i ((ar S 4 i) + 1)) 8 i 0)
set_option maxRecDepth 20000 in
theorem c_X0_take (l : Launch) (G : GG) (ad : Nat → Nat) (S : St) (E : Ex) (hW : WF S) {i : Nat} (hi : i < nt S) {n : Nat} (hn : n < nr S) : MW l yX0_take cX0_take 2 none 0 0 0 0 G ad (cX G ad S E) [.ref (ad (10 + 2 * i)), .ref (ad (100 + n))] (none) (fun ad' => cX G ad' (f_X0_take S i n) E) (fun ad' => ad' = ad) := by
  refine MW.of [(0, .ref (ad (10 + 2 * i))), (1, .ref (ad (100 + n)))] (by decide) (Nat.le_of_ble_eq_true rfl) rfl ?_
  intro p e s m args below meth c A cx hr hlk hnm hA hP ls hl
  have hx := cx.1.1
  have hb := cx.1.2.1
  have hS : va_S A s.heap s.heap [] := va_S.rf
  refine lv_aload_n hx hb dX0_take_0 rfl (lv_at hl 0 rfl) ?_
  refine lv_aload_n hx hb dX0_take_1 rfl (lv_at hl 1 rfl) ?_
  refine xT_lat (n := n) cx hP hS hi hW.t (Nat.lt_of_lt_of_le (Nat.lt_of_lt_of_le hn hW.r) (by decide)) k_123 dX0_take_2 (fun H locs hP hS => ?_)
  refine lv_aload_n hx hb dX0_take_5 rfl (lv_at hl 0 rfl) ?_
  refine lv_dup hx hb dX0_take_6 rfl ?_
  refine w_get cx (ci := 0) rfl iX0 (hP.pa _ _ (cX_T hi hW.t)) 6 (by decide) k_118 (v := .int (ar (setA S 5 i (nI n)) 4 i)) rfl dX0_take_7 ?_
  refine w_nrm (y := ar S 4 i) rfl ?_
  refine lv_iconst (v := 1) hx hb dX0_take_10 (by decide) ?_
  refine lv_iadd hx hb dX0_take_11 ?_
  refine xT_put cx hP hS hi hW.t 6 4 (by decide) (by decide) k_118 dX0_take_12 (fun H locs hP hS => ?_)
  refine lv_aload_n hx hb dX0_take_15 rfl (lv_at hl 0 rfl) ?_
  refine lv_iconst (v := 0) hx hb dX0_take_16 (by decide) ?_
  refine xT_put cx hP hS hi hW.t 5 8 (by decide) (by decide) k_116 dX0_take_17 (fun H locs hP hS => ?_)
  rw [show f_X0_take S i n = (setA (setA (setA S 5 i (nI n)) 4 i ((ar S 4 i) + 1)) 8 i 0) from by rw [f_X0_take]]
  exact x_void cx hr hlk (ad' := ad) ⟨rfl, hP⟩ hS dX0_take_20
def r_X2_unsettleAllBasedOn (u : Nat) : Nat → Nat → St → St
  | 0, k, Z => Z
  | q + 1, k, Z => if f_X1_isShakenBy Z k u = 0 then r_X2_unsettleAllBasedOn u q (k + 1) Z
    else r_X2_unsettleAllBasedOn u q (k + 1) ((setA Z 18 k 0))
def f_X2_unsettleAllBasedOn (S : St) (u : Nat) : St :=
  r_X2_unsettleAllBasedOn u (nr S - (u + 1)) (u + 1) S
set_option maxRecDepth 20000 in
theorem c_X2_unsettleAllBasedOn (l : Launch) (G : GG) (ad : Nat → Nat) (S : St) (E : Ex) (hW : WF S) (hBa : WB S) {u : Nat} (hu : u < nr S) : MW l yX2_unsettleAllBasedOn cX2_unsettleAllBasedOn 4 none 2 43 0 0 G ad (cX G ad S E) [.ref (ad 0), .ref (ad (100 + u))] (none) (fun ad' => cX G ad' (f_X2_unsettleAllBasedOn S u) E) (fun ad' => ad' = ad) := by
  refine MW.of [(0, .ref (ad 0)), (1, .ref (ad (100 + u)))] (by decide) (Nat.le_of_ble_eq_true rfl) rfl ?_
  intro p e s m args below meth c A cx hr hlk hnm hA hP ls hl
  have hx := cx.1.1
  have hb := cx.1.2.1
  have hS : va_S A s.heap s.heap [] := va_S.rf
  refine lv_aload_n hx hb dX2_unsettleAllBasedOn_0 rfl (lv_at hl 1 rfl) ?_
  refine w_get cx (ci := 1) rfl iX1 (hP.pa _ _ (cX_R hu)) 0 (by decide) k_246 (v := .int (nI u)) rfl dX2_unsettleAllBasedOn_1 ?_
  refine lv_iconst (v := 1) hx hb dX2_unsettleAllBasedOn_4 (by decide) ?_
  refine lv_iadd hx hb dX2_unsettleAllBasedOn_5 ?_
  refine w_nrm (y := nI (u + 1)) (nI_1 _) ?_
  refine lv_istore_n (lv' := [(2, .int (nI (u + 1))), (0, .ref (ad 0)), (1, .ref (ad (100 + u)))]) hx hb dX2_unsettleAllBasedOn_6 rfl hl (by decide) rfl (fun ls hl => ?_)
  rw [show f_X2_unsettleAllBasedOn S u = r_X2_unsettleAllBasedOn u (nr S - (u + 1)) (u + 1) S from by rw [f_X2_unsettleAllBasedOn]]
  have lp : ∀ (q k : Nat) (Z : St) (H : Heap) (locs : List Loc), k + q = nr Z → WF Z → WB Z → u < nr Z → pw G A ad (cX G ad Z E) H → va_S A s.heap H locs → ∀ ls : Array Slot, lv_has ls 4 [(2, .int (nI k)), (0, .ref (ad 0)), (1, .ref (ad (100 + u)))] → W p l e (rmM 2 43 0 0) s m args below meth c H locs 0 0 (MQ below (Qw none G A (fun ad' H => ad' = ad ∧ pw G A ad' (cX G ad' (r_X2_unsettleAllBasedOn u q k Z) E) H)) args s 0 0 A) (F0 m 7 ls []) := by
    intro q
    induction q with
    | zero =>
      intro k Z H locs hk hW hBa hu hP hS ls hl
      have hk2 : k = nr Z := by omega
      subst hk2
      refine lv_iload_n hx hb dX2_unsettleAllBasedOn_7 rfl (lv_at hl 0 rfl) ?_
      refine lv_aload_n hx hb dX2_unsettleAllBasedOn_8 rfl (lv_at hl 1 rfl) ?_
      refine w_get cx (ci := 2) rfl iX2 (hP.pa _ _ (cX_lo 0 (by decide) rfl)) 11 (by decide) k_56 (v := .int (nI (nr Z))) rfl dX2_unsettleAllBasedOn_9 ?_
      refine lv_icmp_ge (tgt := 44) hx hb dX2_unsettleAllBasedOn_12 (by decide) (fun c_1 => ?_) (fun c_1 => ?_)
      · rw [show r_X2_unsettleAllBasedOn u 0 (nr Z) Z = Z from by rw [r_X2_unsettleAllBasedOn]]
        exact x_void cx hr hlk (ad' := ad) ⟨rfl, hP⟩ hS dX2_unsettleAllBasedOn_44
      · exact absurd (Int32.le_refl _) c_1
    | succ q ih =>
      intro k Z H locs hk1 hW hBa hu hP hS ls hl
      have hk : k < nr Z := by omega
      refine lv_iload_n hx hb dX2_unsettleAllBasedOn_7 rfl (lv_at hl 0 rfl) ?_
      refine lv_aload_n hx hb dX2_unsettleAllBasedOn_8 rfl (lv_at hl 1 rfl) ?_
      refine w_get cx (ci := 2) rfl iX2 (hP.pa _ _ (cX_lo 0 (by decide) rfl)) 11 (by decide) k_56 (v := .int (nI (nr Z))) rfl dX2_unsettleAllBasedOn_9 ?_
      refine lv_icmp_ge (tgt := 44) hx hb dX2_unsettleAllBasedOn_12 (by decide) (fun c_2 => ?_) (fun c_2 => ?_)
      · exact absurd c_2 (nI_ge (b := nr Z) hk (Nat.lt_of_le_of_lt hW.r (by decide)))
      · refine lv_aload_n hx hb dX2_unsettleAllBasedOn_15 rfl (lv_at hl 1 rfl) ?_
        refine lv_iload_n hx hb dX2_unsettleAllBasedOn_16 rfl (lv_at hl 0 rfl) ?_
        refine w_callV (As := [.int (nI k)]) (rest := []) (st := [.ref (ad (100 + k))]) cx (c_X2_trialAt_in l G ad Z E hW hk) k_308 cal_yX2_trialAt (ci := 2) rfl (hP.pa _ _ (cX_lo 0 (by decide) rfl)) hP.pa rfl ⟨Nat.le_of_ble_eq_true rfl, Nat.le_of_ble_eq_true rfl⟩ hl.1 (Nat.le_of_ble_eq_true rfl) ⟨Nat.zero_le _, Nat.zero_le _⟩ rfl rfl dX2_unsettleAllBasedOn_17 ?_
        refine lv_astore_n (lv' := [(3, .ref (ad (100 + k))), (2, .int (nI k)), (0, .ref (ad 0)), (1, .ref (ad (100 + u)))]) hx hb dX2_unsettleAllBasedOn_20 rfl hl (by decide) rfl (fun ls hl => ?_)
        refine lv_aload_n hx hb dX2_unsettleAllBasedOn_21 rfl (lv_at hl 0 rfl) ?_
        refine lv_ifnull hx hb dX2_unsettleAllBasedOn_22 ?_
        refine lv_aload_n hx hb dX2_unsettleAllBasedOn_25 rfl (lv_at hl 0 rfl) ?_
        refine lv_aload_n hx hb dX2_unsettleAllBasedOn_26 rfl (lv_at hl 3 rfl) ?_
        refine w_callV (As := [.ref (ad (100 + u))]) (rest := []) (st := [.int (f_X1_isShakenBy Z k u)]) cx (c_X1_isShakenBy l G ad Z E hW hBa (pw_injR hP) (n := k) hk (k := u) hu) k_312 cal_yX1_isShakenBy (ci := 1) rfl (hP.pa _ _ (cX_R hk)) hP.pa rfl ⟨Nat.le_of_ble_eq_true rfl, Nat.le_of_ble_eq_true rfl⟩ hl.1 (Nat.le_of_ble_eq_true rfl) ⟨Nat.zero_le _, Nat.zero_le _⟩ rfl rfl dX2_unsettleAllBasedOn_27 ?_
        refine lv_if_eq (tgt := 38) hx hb dX2_unsettleAllBasedOn_30 (by decide) (fun c_3 => ?_) (fun c_3 => ?_)
        · refine lv_iinc (v := nI (k + 1)) (lv' := [(2, .int (nI (k + 1))), (3, .ref (ad (100 + k))), (0, .ref (ad 0)), (1, .ref (ad (100 + u)))]) hx hb dX2_unsettleAllBasedOn_38 hl (k := 1) rfl (by rw [nI_succ]; rfl) (by decide) rfl (fun ls hl => ?_)
          refine lv_goto (tgt := 7) hx hb dX2_unsettleAllBasedOn_41 (by decide) ?_
          rw [show r_X2_unsettleAllBasedOn u (q + 1) k Z = r_X2_unsettleAllBasedOn u q (k + 1) Z from by rw [r_X2_unsettleAllBasedOn, if_pos c_3]]
          exact ih (k + 1) Z H locs (show k + 1 + q = nr Z by omega) hW hBa hu hP hS ls (lv_sub hl [0, 2, 3] rfl)
        · refine lv_aload_n hx hb dX2_unsettleAllBasedOn_33 rfl (lv_at hl 0 rfl) ?_
          refine lv_iconst (v := 0) hx hb dX2_unsettleAllBasedOn_34 (by decide) ?_
          refine xR_put (n := k) cx hP hS hk 7 18 (by decide) (by decide) (Or.inl rfl) k_263 dX2_unsettleAllBasedOn_35 (fun H locs hP hS => ?_)
          refine lv_iinc (v := nI (k + 1)) (lv' := [(2, .int (nI (k + 1))), (3, .ref (ad (100 + k))), (0, .ref (ad 0)), (1, .ref (ad (100 + u)))]) hx hb dX2_unsettleAllBasedOn_38 hl (k := 1) rfl (by rw [nI_succ]; rfl) (by decide) rfl (fun ls hl => ?_)
          refine lv_goto (tgt := 7) hx hb dX2_unsettleAllBasedOn_41 (by decide) ?_
          rw [show r_X2_unsettleAllBasedOn u (q + 1) k Z = r_X2_unsettleAllBasedOn u q (k + 1) ((setA Z 18 k 0)) from by rw [r_X2_unsettleAllBasedOn, if_neg c_3]]
          exact ih (k + 1) ((setA Z 18 k 0)) H locs (show k + 1 + q = nr Z by omega) (hW.setA k 0 (by decide) (by decide) (by decide) (by decide)) (hBa.setA k 0 (by decide)) hu hP hS ls (lv_sub hl [0, 2, 3] rfl)
  exact lp (nr S - (u + 1)) (u + 1) S _ _ (by omega) hW hBa hu hP hS ls hl
theorem nI_ok {n m : Nat} (h : n < m) (hm : n < 2 ^ 31) : okx (nI n) m := by
  unfold okx ix
  rw [nI_clamp hm]
  exact ⟨rfl, h⟩
theorem WF_took {S : St} (h : WF S) {i n : Nat} (hi : i < nt S) (hn : n < nr S) (v : Int32) (w : Int32) : WF (setA (f_X0_take (setA S 19 n v) i n) 6 i w) := by
  have h1 := (h.setA (k := 19) n v (by decide) (by decide) (by decide) (by decide))
  refine WF.setA ?_ i w (by decide) (by decide) (by decide) (by decide)
  obtain ⟨a1, a2, a3, a5, a6, a7⟩ := h1
  have hn2 : n < nr (setA S 19 n v) := hn
  have ha2 : nr (setA S 19 n v) ≤ 300 := a2
  refine ⟨a1, a2, fun j hj hx => ?_, fun j hj => ?_, fun j hj => ?_, fun j hj => ?_⟩
  · rw [f_X0_take, ar_ne _ _ _ _ _ (by decide), ar_ne _ _ _ _ _ (by decide), ar_setA, if_pos rfl] at hx ⊢
    by_cases e : j = i
    · rw [if_pos e]; exact nI_ok hn2 (by omega)
    · rw [if_neg e] at hx ⊢; exact a3 j hj hx
  · rw [f_X0_take, ar_ne _ _ _ _ _ (by decide), ar_ne _ _ _ _ _ (by decide), ar_ne _ _ _ _ _ (by decide)]; exact a5 j hj
  · rw [f_X0_take, ar_ne _ _ _ _ _ (by decide), ar_ne _ _ _ _ _ (by decide), ar_ne _ _ _ _ _ (by decide)]; exact a6 j hj
  · rw [f_X0_take, ar_setA, if_pos rfl]
    by_cases e : j = i
    · rw [if_pos e]; exact ⟨by decide, by decide⟩
    · rw [if_neg e, ar_ne _ _ _ _ _ (by decide), ar_ne _ _ _ _ _ (by decide)]; exact a7 j hj
theorem WB_took {S : St} (h : WB S) (i n : Nat) (v : Int32) (w : Int32) : WB (setA (f_X0_take (setA S 19 n v) i n) 6 i w) := by
  rw [f_X0_take]
  exact ((((h.setA (k := 19) n v (by decide)).setA (k := 5) i _ (by decide)).setA (k := 4) i _ (by decide)).setA (k := 8) i _ (by decide)).setA (k := 6) i w (by decide)

def f_X2_takeTrial (S : St) (i n : Nat) : St :=
  if ar S 5 i = -1000000 then (f_X0_take (setA S 19 n (f_X0_isWrongedBy S i n)) i n)
  else if ar (f_X0_take (setA S 19 n (f_X0_isWrongedBy S i n)) i n) 19 n = 0 then (f_X0_take (setA S 19 n (f_X0_isWrongedBy S i n)) i n)
  else (f_X2_unsettleAllBasedOn (setA (f_X0_take (setA S 19 n (f_X0_isWrongedBy S i n)) i n) 6 i ((-1000000))) (ix (ar S 5 i)))
set_option maxRecDepth 20000 in
theorem c_X2_takeTrial (l : Launch) (G : GG) (ad : Nat → Nat) (S : St) (E : Ex) (hW : WF S) (hBa : WB S) {i : Nat} (hi : i < nt S) {n : Nat} (hn : n < nr S) : MW l yX2_takeTrial cX2_takeTrial 4 none 3 66 0 0 G ad (cX G ad S E) [.ref (ad 0), .ref (ad (10 + 2 * i)), .ref (ad (100 + n))] (none) (fun ad' => cX G ad' (f_X2_takeTrial S i n) E) (fun ad' => ad' = ad) := by
  refine MW.of [(0, .ref (ad 0)), (1, .ref (ad (10 + 2 * i))), (2, .ref (ad (100 + n)))] (by decide) (Nat.le_of_ble_eq_true rfl) rfl ?_
  intro p e s m args below meth c A cx hr hlk hnm hA hP ls hl
  have hx := cx.1.1
  have hb := cx.1.2.1
  have hS : va_S A s.heap s.heap [] := va_S.rf
  refine lv_aload_n hx hb dX2_takeTrial_0 rfl (lv_at hl 1 rfl) ?_
  by_cases c_1 : ar S 5 i = -1000000
  · refine w_get cx (ci := 0) rfl iX0 (hP.pa _ _ (cX_T hi hW.t)) 9 (by decide) k_122 (v := .null) (congrArg some (rT_null c_1)) dX2_takeTrial_1 ?_
    refine lv_astore_nN (lv' := [(3, .null), (0, .ref (ad 0)), (1, .ref (ad (10 + 2 * i))), (2, .ref (ad (100 + n)))]) hx hb dX2_takeTrial_4 rfl hl (by decide) rfl (fun ls hl => ?_)
    refine lv_aload_n hx hb dX2_takeTrial_5 rfl (lv_at hl 3 rfl) ?_
    refine lv_aload_n hx hb dX2_takeTrial_6 rfl (lv_at hl 2 rfl) ?_
    refine lv_aload_n hx hb dX2_takeTrial_7 rfl (lv_at hl 3 rfl) ?_
    refine w_callV (As := [.ref (ad (100 + n))]) (rest := [.ref (ad (100 + n))]) (st := [.int (f_X0_isWrongedBy S i n), .ref (ad (100 + n))]) cx (c_X0_isWrongedBy l G ad S E hW (i := i) hi (n := n) hn) k_292 cal_yX0_isWrongedBy (ci := 0) rfl (hP.pa _ _ (cX_T hi hW.t)) hP.pa rfl ⟨Nat.le_of_ble_eq_true rfl, Nat.le_of_ble_eq_true rfl⟩ hl.1 (Nat.le_of_ble_eq_true rfl) ⟨Nat.zero_le _, Nat.zero_le _⟩ rfl rfl dX2_takeTrial_8 ?_
    refine xR_put (n := n) cx hP hS hn 8 19 (by decide) (by decide) (b_X0_isWrongedBy S i n) k_265 dX2_takeTrial_11 (fun H locs hP hS => ?_)
    refine lv_aload_n hx hb dX2_takeTrial_14 rfl (lv_at hl 2 rfl) ?_
    refine lv_aload_n hx hb dX2_takeTrial_15 rfl (lv_at hl 3 rfl) ?_
    refine w_callVW (As := [.ref (ad (100 + n))]) (rest := []) (st := []) cx (c_X0_take l G ad (setA S 19 n (f_X0_isWrongedBy S i n)) E (hW.setA n (f_X0_isWrongedBy S i n) (by decide) (by decide) (by decide) (by decide)) (i := i) hi (n := n) hn) k_300 cal_yX0_take (ci := 0) rfl (hP.pa _ _ (cX_T hi hW.t)) hP hS hA rfl ⟨Nat.le_of_ble_eq_true rfl, Nat.le_of_ble_eq_true rfl⟩ hl.1 (Nat.le_of_ble_eq_true rfl) ⟨Nat.le_of_ble_eq_true rfl, Nat.le_of_ble_eq_true rfl⟩ rfl rfl dX2_takeTrial_16 (fun ad1 H locs hX1 hP hz1 hq1 hS => ?_)
    rw [hX1] at hP
    refine lv_aload_nN hx hb dX2_takeTrial_19 rfl (lv_at hl 0 rfl) ?_
    refine lv_ifnullN (tgt := 30) hx hb dX2_takeTrial_20 (by decide) ?_
    rw [show f_X2_takeTrial S i n = (f_X0_take (setA S 19 n (f_X0_isWrongedBy S i n)) i n) from by rw [f_X2_takeTrial, if_pos c_1]]
    exact x_void cx hr hlk (ad' := ad) ⟨rfl, hP⟩ hS dX2_takeTrial_30
  · refine w_get cx (ci := 0) rfl iX0 (hP.pa _ _ (cX_T hi hW.t)) 9 (by decide) k_122 (v := .ref (ad (100 + ix (ar S 5 i)))) (congrArg some (rT_ref c_1)) dX2_takeTrial_1 ?_
    refine lv_astore_n (lv' := [(3, .ref (ad (100 + ix (ar S 5 i)))), (0, .ref (ad 0)), (1, .ref (ad (10 + 2 * i))), (2, .ref (ad (100 + n)))]) hx hb dX2_takeTrial_4 rfl hl (by decide) rfl (fun ls hl => ?_)
    refine lv_aload_n hx hb dX2_takeTrial_5 rfl (lv_at hl 3 rfl) ?_
    refine lv_aload_n hx hb dX2_takeTrial_6 rfl (lv_at hl 2 rfl) ?_
    refine lv_aload_n hx hb dX2_takeTrial_7 rfl (lv_at hl 3 rfl) ?_
    refine w_callV (As := [.ref (ad (100 + n))]) (rest := [.ref (ad (100 + n))]) (st := [.int (f_X0_isWrongedBy S i n), .ref (ad (100 + n))]) cx (c_X0_isWrongedBy l G ad S E hW (i := i) hi (n := n) hn) k_292 cal_yX0_isWrongedBy (ci := 0) rfl (hP.pa _ _ (cX_T hi hW.t)) hP.pa rfl ⟨Nat.le_of_ble_eq_true rfl, Nat.le_of_ble_eq_true rfl⟩ hl.1 (Nat.le_of_ble_eq_true rfl) ⟨Nat.zero_le _, Nat.zero_le _⟩ rfl rfl dX2_takeTrial_8 ?_
    refine xR_put (n := n) cx hP hS hn 8 19 (by decide) (by decide) (b_X0_isWrongedBy S i n) k_265 dX2_takeTrial_11 (fun H locs hP hS => ?_)
    refine lv_aload_n hx hb dX2_takeTrial_14 rfl (lv_at hl 2 rfl) ?_
    refine lv_aload_n hx hb dX2_takeTrial_15 rfl (lv_at hl 3 rfl) ?_
    refine w_callVW (As := [.ref (ad (100 + n))]) (rest := []) (st := []) cx (c_X0_take l G ad (setA S 19 n (f_X0_isWrongedBy S i n)) E (hW.setA n (f_X0_isWrongedBy S i n) (by decide) (by decide) (by decide) (by decide)) (i := i) hi (n := n) hn) k_300 cal_yX0_take (ci := 0) rfl (hP.pa _ _ (cX_T hi hW.t)) hP hS hA rfl ⟨Nat.le_of_ble_eq_true rfl, Nat.le_of_ble_eq_true rfl⟩ hl.1 (Nat.le_of_ble_eq_true rfl) ⟨Nat.le_of_ble_eq_true rfl, Nat.le_of_ble_eq_true rfl⟩ rfl rfl dX2_takeTrial_16 (fun ad1 H locs hX1 hP hz1 hq1 hS => ?_)
    rw [hX1] at hP
    refine lv_aload_n hx hb dX2_takeTrial_19 rfl (lv_at hl 0 rfl) ?_
    refine lv_ifnull hx hb dX2_takeTrial_20 ?_
    refine lv_aload_n hx hb dX2_takeTrial_23 rfl (lv_at hl 3 rfl) ?_
    refine w_get cx (ci := 1) rfl iX1 (hP.pa _ _ (cX_R hn)) 8 (by decide) k_265 (v := .int (ar (f_X0_take (setA S 19 n (f_X0_isWrongedBy S i n)) i n) 19 n)) rfl dX2_takeTrial_24 ?_
    refine lv_if_ne (tgt := 31) hx hb dX2_takeTrial_27 (by decide) (fun c_2 => ?_) (fun c_2 => ?_)
    · refine lv_aload_n hx hb dX2_takeTrial_31 rfl (lv_at hl 2 rfl) ?_
      refine w_ldc cx k_156 dX2_takeTrial_32 ?_
      refine xT_put cx hP hS hi hW.t 8 6 (by decide) (by decide) k_121 dX2_takeTrial_34 (fun H locs hP hS => ?_)
      refine lv_aload_n hx hb dX2_takeTrial_37 rfl (lv_at hl 1 rfl) ?_
      refine lv_aload_n hx hb dX2_takeTrial_38 rfl (lv_at hl 0 rfl) ?_
      refine w_callVW (As := [.ref (ad (100 + ix (ar S 5 i)))]) (rest := []) (st := []) cx (c_X2_unsettleAllBasedOn l G ad (setA (f_X0_take (setA S 19 n (f_X0_isWrongedBy S i n)) i n) 6 i ((-1000000))) E (WF_took hW hi hn _ _) (WB_took hBa i n _ _) (u := ix (ar S 5 i)) (hW.la hi c_1).2) k_304 cal_yX2_unsettleAllBasedOn (ci := 2) rfl (hP.pa _ _ (cX_lo 0 (by decide) rfl)) hP hS hA rfl ⟨Nat.le_of_ble_eq_true rfl, Nat.le_of_ble_eq_true rfl⟩ hl.1 (Nat.le_of_ble_eq_true rfl) ⟨Nat.le_of_ble_eq_true rfl, Nat.le_of_ble_eq_true rfl⟩ rfl rfl dX2_takeTrial_39 (fun ad1 H locs hX1 hP hz1 hq1 hS => ?_)
      rw [hX1] at hP
      rw [show f_X2_takeTrial S i n = (f_X2_unsettleAllBasedOn (setA (f_X0_take (setA S 19 n (f_X0_isWrongedBy S i n)) i n) 6 i ((-1000000))) (ix (ar S 5 i))) from by rw [f_X2_takeTrial, if_neg c_1, if_neg c_2]]
      exact x_void cx hr hlk (ad' := ad) ⟨rfl, hP⟩ hS dX2_takeTrial_42
    · rw [show f_X2_takeTrial S i n = (f_X0_take (setA S 19 n (f_X0_isWrongedBy S i n)) i n) from by rw [f_X2_takeTrial, if_neg c_1, if_pos c_2]]
      exact x_void cx hr hlk (ad' := ad) ⟨rfl, hP⟩ hS dX2_takeTrial_30
def r_X2_rankBehind (x : Int32) (u : Int64) : Nat → Ex → Ex
  | 0, F => ((F.1, upd F.2.1 0 x, F.2.2).1, (F.1, upd F.2.1 0 x, F.2.2).2.1, vp_updL (F.1, upd F.2.1 0 x, F.2.2).2.2 0 u)
  | q + 1, F => if 0 ≤ lg_cmp (F.2.2 q) u then ((F.1, upd F.2.1 (q + 1) x, F.2.2).1, (F.1, upd F.2.1 (q + 1) x, F.2.2).2.1, vp_updL (F.1, upd F.2.1 (q + 1) x, F.2.2).2.2 (q + 1) u)
    else r_X2_rankBehind x u q (((F.1, upd F.2.1 (q + 1) (F.2.1 q), F.2.2).1, (F.1, upd F.2.1 (q + 1) (F.2.1 q), F.2.2).2.1, vp_updL (F.1, upd F.2.1 (q + 1) (F.2.1 q), F.2.2).2.2 (q + 1) ((F.1, upd F.2.1 (q + 1) (F.2.1 q), F.2.2).2.2 q)))
def f_X2_rankBehind (E : Ex) (r : Nat) (x : Int32) (u : Int64) : Ex :=
  r_X2_rankBehind x u r E
set_option maxRecDepth 20000 in
theorem c_X2_rankBehind (l : Launch) (G : GG) (ad : Nat → Nat) (S : St) (E : Ex) (hW : WF S) {r : Nat} (hr0 : r < 40) (x : Int32) (u : Int64) : MW l yX2_rankBehind cX2_rankBehind 6 none 1 22 0 0 G ad (cX G ad S E) [.ref (ad 0), .int (nI r), .int x, .long (u)] (none) (fun ad' => cX G ad' S (f_X2_rankBehind E r x u)) (fun ad' => ad' = ad) := by
  refine MW.of [(0, .ref (ad 0)), (1, .int (nI r)), (2, .int x), (3, .long (u))] (by decide) (Nat.le_of_ble_eq_true rfl) rfl ?_
  intro p e s m args below meth c A cx hr hlk hnm hA hP ls hl
  have hx := cx.1.1
  have hb := cx.1.2.1
  have hS : va_S A s.heap s.heap [] := va_S.rf
  refine lv_iload_n hx hb dX2_rankBehind_0 rfl (lv_at hl 1 rfl) ?_
  refine lv_iconst (v := 0) hx hb dX2_rankBehind_1 (by decide) ?_
  refine lv_bipush (v := 39) hx hb dX2_rankBehind_2 (by decide) ?_
  refine w_callS (As := [.int (nI r), .int 0, .int 39]) (rest := []) (st := [.int (f_X2_isWithin (nI r) 0 39)]) cx (c_X2_isWithin l G ad _ (nI r) 0 39) k_91 cal_yX2_isWithin hP.pa rfl ⟨Nat.le_of_ble_eq_true rfl, Nat.le_of_ble_eq_true rfl⟩ hl.1 (Nat.le_of_ble_eq_true rfl) ⟨Nat.zero_le _, Nat.zero_le _⟩ rfl rfl dX2_rankBehind_4 ?_
  refine lv_if_ne (tgt := 11) hx hb dX2_rankBehind_7 (by decide) (fun c_1 => ?_) (fun c_1 => ?_)
  · refine lv_iload_n hx hb dX2_rankBehind_11 rfl (lv_at hl 1 rfl) ?_
    refine lv_istore (lv' := [(5, .int (nI r)), (0, .ref (ad 0)), (1, .int (nI r)), (2, .int x), (3, .long (u))]) hx hb dX2_rankBehind_12 hl (by decide) rfl (fun ls hl => ?_)
    rw [show f_X2_rankBehind E r x u = r_X2_rankBehind x u r E from by rw [f_X2_rankBehind]]
    have lp : ∀ (q : Nat) (F : Ex) (H : Heap) (locs : List Loc), q < 40 → pw G A ad (cX G ad S F) H → va_S A s.heap H locs → ∀ ls : Array Slot, lv_has ls 6 [(5, .int (nI q)), (0, .ref (ad 0)), (1, .int (nI r)), (2, .int x), (3, .long (u))] → W p l e (rmM 1 22 0 0) s m args below meth c H locs 0 0 (MQ below (Qw none G A (fun ad' H => ad' = ad ∧ pw G A ad' (cX G ad' S (r_X2_rankBehind x u q F)) H)) args s 0 0 A) (F0 m 14 ls []) := by
      intro q
      induction q with
      | zero =>
        intro F H locs hq hP hS ls hl
        refine lv_iload hx hb dX2_rankBehind_14 (lv_at hl 0 rfl) ?_
        refine lv_if_le (tgt := 71) hx hb dX2_rankBehind_16 (by decide) (fun c_2 => ?_) (fun c_2 => ?_)
        · refine lv_aload_n hx hb dX2_rankBehind_71 rfl (lv_at hl 1 rfl) ?_
          refine w_get cx (ci := 2) rfl iX2 (hP.pa _ _ (cX_lo 0 (by decide) rfl)) 7 (by decide) k_52 (v := .ref (ad 8)) rfl dX2_rankBehind_72 ?_
          refine lv_iload hx hb dX2_rankBehind_75 (lv_at hl 0 rfl) ?_
          refine lv_iload_n hx hb dX2_rankBehind_77 rfl (lv_at hl 3 rfl) ?_
          refine xE2_ast cx hP hS 0 rfl (by decide) dX2_rankBehind_78 (fun H locs hP hS => ?_)
          refine lv_aload_n hx hb dX2_rankBehind_79 rfl (lv_at hl 1 rfl) ?_
          refine w_get cx (ci := 2) rfl iX2 (hP.pa _ _ (cX_lo 0 (by decide) rfl)) 8 (by decide) k_53 (v := .ref (ad 9)) rfl dX2_rankBehind_80 ?_
          refine lv_iload hx hb dX2_rankBehind_83 (lv_at hl 0 rfl) ?_
          refine lv_lload_n hx hb dX2_rankBehind_85 rfl (lv_at hl 4 rfl) ?_
          refine xE3_ast cx hP hS 0 rfl (by decide) dX2_rankBehind_86 (fun H locs hP hS => ?_)
          rw [show r_X2_rankBehind x u 0 F = ((F.1, upd F.2.1 0 x, F.2.2).1, (F.1, upd F.2.1 0 x, F.2.2).2.1, vp_updL (F.1, upd F.2.1 0 x, F.2.2).2.2 0 u) from by rw [r_X2_rankBehind]]
          exact x_void cx hr hlk (ad' := ad) ⟨rfl, hP⟩ hS dX2_rankBehind_87
        · exact absurd (by decide) c_2
      | succ q ih =>
        intro F H locs hq hP hS ls hl
        refine lv_iload hx hb dX2_rankBehind_14 (lv_at hl 0 rfl) ?_
        refine lv_if_le (tgt := 71) hx hb dX2_rankBehind_16 (by decide) (fun c_3 => ?_) (fun c_3 => ?_)
        · exact absurd c_3 (nI_nle (Nat.succ_pos q) (by omega))
        · refine lv_aload_n hx hb dX2_rankBehind_19 rfl (lv_at hl 1 rfl) ?_
          refine w_get cx (ci := 2) rfl iX2 (hP.pa _ _ (cX_lo 0 (by decide) rfl)) 8 (by decide) k_53 (v := .ref (ad 9)) rfl dX2_rankBehind_20 ?_
          refine lv_iload hx hb dX2_rankBehind_23 (lv_at hl 0 rfl) ?_
          refine lv_iconst (v := 1) hx hb dX2_rankBehind_25 (by decide) ?_
          refine lv_isub hx hb dX2_rankBehind_26 ?_
          refine w_lald cx (hP.pa _ _ (cX_lo 9 (by decide) rfl)) q (nI_pred q) (by omega) (by decide) dX2_rankBehind_27 ?_
          refine lv_lload_n hx hb dX2_rankBehind_28 rfl (lv_at hl 4 rfl) ?_
          refine W.lcmp hx hb dX2_rankBehind_29 ?_
          refine lv_if_ge (tgt := 71) hx hb dX2_rankBehind_30 (by decide) (fun c_4 => ?_) (fun c_4 => ?_)
          · refine lv_aload_n hx hb dX2_rankBehind_71 rfl (lv_at hl 1 rfl) ?_
            refine w_get cx (ci := 2) rfl iX2 (hP.pa _ _ (cX_lo 0 (by decide) rfl)) 7 (by decide) k_52 (v := .ref (ad 8)) rfl dX2_rankBehind_72 ?_
            refine lv_iload hx hb dX2_rankBehind_75 (lv_at hl 0 rfl) ?_
            refine lv_iload_n hx hb dX2_rankBehind_77 rfl (lv_at hl 3 rfl) ?_
            refine xE2_ast cx hP hS (q + 1) rfl hq dX2_rankBehind_78 (fun H locs hP hS => ?_)
            refine lv_aload_n hx hb dX2_rankBehind_79 rfl (lv_at hl 1 rfl) ?_
            refine w_get cx (ci := 2) rfl iX2 (hP.pa _ _ (cX_lo 0 (by decide) rfl)) 8 (by decide) k_53 (v := .ref (ad 9)) rfl dX2_rankBehind_80 ?_
            refine lv_iload hx hb dX2_rankBehind_83 (lv_at hl 0 rfl) ?_
            refine lv_lload_n hx hb dX2_rankBehind_85 rfl (lv_at hl 4 rfl) ?_
            refine xE3_ast cx hP hS (q + 1) rfl hq dX2_rankBehind_86 (fun H locs hP hS => ?_)
            rw [show r_X2_rankBehind x u (q + 1) F = ((F.1, upd F.2.1 (q + 1) x, F.2.2).1, (F.1, upd F.2.1 (q + 1) x, F.2.2).2.1, vp_updL (F.1, upd F.2.1 (q + 1) x, F.2.2).2.2 (q + 1) u) from by rw [r_X2_rankBehind, if_pos c_4]]
            exact x_void cx hr hlk (ad' := ad) ⟨rfl, hP⟩ hS dX2_rankBehind_87
          · refine lv_aload_n hx hb dX2_rankBehind_33 rfl (lv_at hl 1 rfl) ?_
            refine w_get cx (ci := 2) rfl iX2 (hP.pa _ _ (cX_lo 0 (by decide) rfl)) 7 (by decide) k_52 (v := .ref (ad 8)) rfl dX2_rankBehind_34 ?_
            refine lv_iload hx hb dX2_rankBehind_37 (lv_at hl 0 rfl) ?_
            refine lv_aload_n hx hb dX2_rankBehind_39 rfl (lv_at hl 1 rfl) ?_
            refine w_get cx (ci := 2) rfl iX2 (hP.pa _ _ (cX_lo 0 (by decide) rfl)) 7 (by decide) k_52 (v := .ref (ad 8)) rfl dX2_rankBehind_40 ?_
            refine lv_iload hx hb dX2_rankBehind_43 (lv_at hl 0 rfl) ?_
            refine lv_iconst (v := 1) hx hb dX2_rankBehind_45 (by decide) ?_
            refine lv_isub hx hb dX2_rankBehind_46 ?_
            refine w_iald cx (hP.pa _ _ (cX_lo 8 (by decide) rfl)) q (nI_pred q) (by omega) (by decide) dX2_rankBehind_47 ?_
            refine xE2_ast cx hP hS (q + 1) rfl hq dX2_rankBehind_48 (fun H locs hP hS => ?_)
            refine lv_aload_n hx hb dX2_rankBehind_49 rfl (lv_at hl 1 rfl) ?_
            refine w_get cx (ci := 2) rfl iX2 (hP.pa _ _ (cX_lo 0 (by decide) rfl)) 8 (by decide) k_53 (v := .ref (ad 9)) rfl dX2_rankBehind_50 ?_
            refine lv_iload hx hb dX2_rankBehind_53 (lv_at hl 0 rfl) ?_
            refine lv_aload_n hx hb dX2_rankBehind_55 rfl (lv_at hl 1 rfl) ?_
            refine w_get cx (ci := 2) rfl iX2 (hP.pa _ _ (cX_lo 0 (by decide) rfl)) 8 (by decide) k_53 (v := .ref (ad 9)) rfl dX2_rankBehind_56 ?_
            refine lv_iload hx hb dX2_rankBehind_59 (lv_at hl 0 rfl) ?_
            refine lv_iconst (v := 1) hx hb dX2_rankBehind_61 (by decide) ?_
            refine lv_isub hx hb dX2_rankBehind_62 ?_
            refine w_lald cx (hP.pa _ _ (cX_lo 9 (by decide) rfl)) q (nI_pred q) (by omega) (by decide) dX2_rankBehind_63 ?_
            refine xE3_ast cx hP hS (q + 1) rfl hq dX2_rankBehind_64 (fun H locs hP hS => ?_)
            refine lv_iinc (v := nI q) (lv' := [(5, .int (nI q)), (0, .ref (ad 0)), (1, .int (nI r)), (2, .int x), (3, .long (u))]) hx hb dX2_rankBehind_65 hl (k := 0) rfl (pk_m1 _) (by decide) rfl (fun ls hl => ?_)
            refine lv_goto (tgt := 14) hx hb dX2_rankBehind_68 (by decide) ?_
            rw [show r_X2_rankBehind x u (q + 1) F = r_X2_rankBehind x u q (((F.1, upd F.2.1 (q + 1) (F.2.1 q), F.2.2).1, (F.1, upd F.2.1 (q + 1) (F.2.1 q), F.2.2).2.1, vp_updL (F.1, upd F.2.1 (q + 1) (F.2.1 q), F.2.2).2.2 (q + 1) ((F.1, upd F.2.1 (q + 1) (F.2.1 q), F.2.2).2.2 q))) from by rw [r_X2_rankBehind, if_neg c_4]]
            exact ih (((F.1, upd F.2.1 (q + 1) (F.2.1 q), F.2.2).1, (F.1, upd F.2.1 (q + 1) (F.2.1 q), F.2.2).2.1, vp_updL (F.1, upd F.2.1 (q + 1) (F.2.1 q), F.2.2).2.2 (q + 1) ((F.1, upd F.2.1 (q + 1) (F.2.1 q), F.2.2).2.2 q))) H locs (by omega) hP hS ls (lv_sub hl [0, 1, 2, 3, 4] rfl)
    exact lp r E _ _ hr0 hP hS ls hl
  · exact absurd c_1 (nI_within (a := 0) (b := 39) (Nat.zero_le _) (by omega) (by decide))
def r_X2_rankThings (S : St) : Nat → Nat → Nat → Ex → Int32 × Ex
  | 0, k, j, F => (nI j, F)
  | q + 1, k, j, F => if f_X0_isOfTrade S k = 0 then r_X2_rankThings S q (k + 1) j F
    else r_X2_rankThings S q (k + 1) (j + 1) ((f_X2_rankBehind F j (nI k) (f_X2_urgencyOf S k)))
def f_X2_rankThings (S : St) (E : Ex) : Int32 × Ex :=
  r_X2_rankThings S (nt S) 0 0 E
set_option maxRecDepth 20000 in
theorem c_X2_rankThings (l : Launch) (G : GG) (ad : Nat → Nat) (S : St) (E : Ex) (hW : WF S)  : MW l yX2_rankThings cX2_rankThings 4 (some .int) 4 87 0 0 G ad (cX G ad S E) [.ref (ad 0)] (some (.int (f_X2_rankThings S E).1)) (fun ad' => cX G ad' S (f_X2_rankThings S E).2) (fun ad' => ad' = ad) := by
  refine MW.of [(0, .ref (ad 0))] (by decide) (Nat.le_of_ble_eq_true rfl) rfl ?_
  intro p e s m args below meth c A cx hr hlk hnm hA hP ls hl
  have hx := cx.1.1
  have hb := cx.1.2.1
  have hS : va_S A s.heap s.heap [] := va_S.rf
  refine lv_iconst (v := 0) hx hb dX2_rankThings_0 (by decide) ?_
  refine lv_istore_n (lv' := [(1, .int 0), (0, .ref (ad 0))]) hx hb dX2_rankThings_1 rfl hl (by decide) rfl (fun ls hl => ?_)
  refine lv_iconst (v := 0) hx hb dX2_rankThings_2 (by decide) ?_
  refine lv_istore_n (lv' := [(2, .int 0), (1, .int 0), (0, .ref (ad 0))]) hx hb dX2_rankThings_3 rfl hl (by decide) rfl (fun ls hl => ?_)
  rw [show f_X2_rankThings S E = r_X2_rankThings S (nt S) 0 0 E from by rw [f_X2_rankThings]]
  have lp : ∀ (q k j : Nat) (F : Ex) (H : Heap) (locs : List Loc), k + q = nt S → j ≤ k → pw G A ad (cX G ad S F) H → va_S A s.heap H locs → ∀ ls : Array Slot, lv_has ls 4 [(2, .int (nI k)), (1, .int (nI j)), (0, .ref (ad 0))] → W p l e (rmM 4 87 0 0) s m args below meth c H locs 0 0 (MQ below (Qw (some (.int (r_X2_rankThings S q k j F).1)) G A (fun ad' H => ad' = ad ∧ pw G A ad' (cX G ad' S (r_X2_rankThings S q k j F).2) H)) args s 0 0 A) (F0 m 4 ls []) := by
    intro q
    induction q with
    | zero =>
      intro k j F H locs hk hj hP hS ls hl
      have hk2 : k = nt S := by omega
      subst hk2
      refine lv_iload_n hx hb dX2_rankThings_4 rfl (lv_at hl 0 rfl) ?_
      refine lv_aload_n hx hb dX2_rankThings_5 rfl (lv_at hl 2 rfl) ?_
      refine w_get cx (ci := 2) rfl iX2 (hP.pa _ _ (cX_lo 0 (by decide) rfl)) 10 (by decide) k_55 (v := .int (nI (nt S))) rfl dX2_rankThings_6 ?_
      refine lv_icmp_ge (tgt := 52) hx hb dX2_rankThings_9 (by decide) (fun c_1 => ?_) (fun c_1 => ?_)
      · refine lv_iload_n hx hb dX2_rankThings_52 rfl (lv_at hl 1 rfl) ?_
        rw [show r_X2_rankThings S 0 (nt S) j F = (nI j, F) from by rw [r_X2_rankThings]]
        exact x_int cx hr hlk (ad' := ad) ⟨rfl, hP⟩ hS dX2_rankThings_53
      · exact absurd (Int32.le_refl _) c_1
    | succ q ih =>
      intro k j F H locs hk1 hj hP hS ls hl
      have hk : k < nt S := by omega
      refine lv_iload_n hx hb dX2_rankThings_4 rfl (lv_at hl 0 rfl) ?_
      refine lv_aload_n hx hb dX2_rankThings_5 rfl (lv_at hl 2 rfl) ?_
      refine w_get cx (ci := 2) rfl iX2 (hP.pa _ _ (cX_lo 0 (by decide) rfl)) 10 (by decide) k_55 (v := .int (nI (nt S))) rfl dX2_rankThings_6 ?_
      refine lv_icmp_ge (tgt := 52) hx hb dX2_rankThings_9 (by decide) (fun c_2 => ?_) (fun c_2 => ?_)
      · exact absurd c_2 (nI_ge (b := nt S) hk (Nat.lt_of_le_of_lt hW.t (by decide)))
      · refine lv_aload_n hx hb dX2_rankThings_12 rfl (lv_at hl 2 rfl) ?_
        refine lv_iload_n hx hb dX2_rankThings_13 rfl (lv_at hl 0 rfl) ?_
        refine w_callV (As := [.int (nI k)]) (rest := []) (st := [.ref (ad (10 + 2 * k))]) cx (c_X2_thingAt_in l G ad S F hW hk) k_149 cal_yX2_thingAt (ci := 2) rfl (hP.pa _ _ (cX_lo 0 (by decide) rfl)) hP.pa rfl ⟨Nat.le_of_ble_eq_true rfl, Nat.le_of_ble_eq_true rfl⟩ hl.1 (Nat.le_of_ble_eq_true rfl) ⟨Nat.zero_le _, Nat.zero_le _⟩ rfl rfl dX2_rankThings_14 ?_
        refine lv_astore_n (lv' := [(3, .ref (ad (10 + 2 * k))), (2, .int (nI k)), (1, .int (nI j)), (0, .ref (ad 0))]) hx hb dX2_rankThings_17 rfl hl (by decide) rfl (fun ls hl => ?_)
        refine lv_aload_n hx hb dX2_rankThings_18 rfl (lv_at hl 0 rfl) ?_
        refine lv_ifnull hx hb dX2_rankThings_19 ?_
        refine lv_aload_n hx hb dX2_rankThings_22 rfl (lv_at hl 0 rfl) ?_
        refine w_callV (As := []) (rest := []) (st := [.int (f_X0_isOfTrade S k)]) cx (c_X0_isOfTrade l G ad S F hW (i := k) hk) k_180 cal_yX0_isOfTrade (ci := 0) rfl (hP.pa _ _ (cX_T hk hW.t)) hP.pa rfl ⟨Nat.le_of_ble_eq_true rfl, Nat.le_of_ble_eq_true rfl⟩ hl.1 (Nat.le_of_ble_eq_true rfl) ⟨Nat.zero_le _, Nat.zero_le _⟩ rfl rfl dX2_rankThings_23 ?_
        refine lv_if_ne (tgt := 32) hx hb dX2_rankThings_26 (by decide) (fun c_3 => ?_) (fun c_3 => ?_)
        · refine lv_aload_n hx hb dX2_rankThings_32 rfl (lv_at hl 3 rfl) ?_
          refine lv_iload_n hx hb dX2_rankThings_33 rfl (lv_at hl 2 rfl) ?_
          refine lv_iload_n hx hb dX2_rankThings_34 rfl (lv_at hl 1 rfl) ?_
          refine lv_aload_n hx hb dX2_rankThings_35 rfl (lv_at hl 3 rfl) ?_
          refine lv_aload_n hx hb dX2_rankThings_36 rfl (lv_at hl 0 rfl) ?_
          refine w_callV (As := [.ref (ad (10 + 2 * k))]) (rest := [.int (nI k), .int (nI j), .ref (ad 0)]) (st := [.long (f_X2_urgencyOf S k), .int (nI k), .int (nI j), .ref (ad 0)]) cx (c_X2_urgencyOf l G ad S F hW (i := k) hk) k_422 cal_yX2_urgencyOf (ci := 2) rfl (hP.pa _ _ (cX_lo 0 (by decide) rfl)) hP.pa rfl ⟨Nat.le_of_ble_eq_true rfl, Nat.le_of_ble_eq_true rfl⟩ hl.1 (Nat.le_of_ble_eq_true rfl) ⟨Nat.zero_le _, Nat.zero_le _⟩ rfl rfl dX2_rankThings_37 ?_
          refine w_callVW (As := [.int (nI j), .int (nI k), .long (f_X2_urgencyOf S k)]) (rest := []) (st := []) cx (c_X2_rankBehind l G ad S F hW (r := j) (Nat.lt_of_le_of_lt hj (Nat.lt_of_lt_of_le hk hW.t)) (nI k) (f_X2_urgencyOf S k)) k_429 cal_yX2_rankBehind (ci := 2) rfl (hP.pa _ _ (cX_lo 0 (by decide) rfl)) hP hS hA rfl ⟨Nat.le_of_ble_eq_true rfl, Nat.le_of_ble_eq_true rfl⟩ hl.1 (Nat.le_of_ble_eq_true rfl) ⟨Nat.le_of_ble_eq_true rfl, Nat.le_of_ble_eq_true rfl⟩ rfl rfl dX2_rankThings_40 (fun ad1 H locs hX1 hP hz1 hq1 hS => ?_)
          rw [hX1] at hP
          refine lv_iinc (v := nI (j + 1)) (lv' := [(1, .int (nI (j + 1))), (3, .ref (ad (10 + 2 * k))), (2, .int (nI k)), (0, .ref (ad 0))]) hx hb dX2_rankThings_43 hl (k := 2) rfl (by rw [nI_succ]; rfl) (by decide) rfl (fun ls hl => ?_)
          refine lv_iinc (v := nI (k + 1)) (lv' := [(2, .int (nI (k + 1))), (1, .int (nI (j + 1))), (3, .ref (ad (10 + 2 * k))), (0, .ref (ad 0))]) hx hb dX2_rankThings_46 hl (k := 2) rfl (by rw [nI_succ]; rfl) (by decide) rfl (fun ls hl => ?_)
          refine lv_goto (tgt := 4) hx hb dX2_rankThings_49 (by decide) ?_
          rw [show r_X2_rankThings S (q + 1) k j F = r_X2_rankThings S q (k + 1) (j + 1) ((f_X2_rankBehind F j (nI k) (f_X2_urgencyOf S k))) from by rw [r_X2_rankThings, if_neg c_3]]
          exact ih (k + 1) (j + 1) ((f_X2_rankBehind F j (nI k) (f_X2_urgencyOf S k))) H locs (by omega) (by omega) hP hS ls (lv_sub hl [0, 1, 3] rfl)
        · refine lv_goto (tgt := 46) hx hb dX2_rankThings_29 (by decide) ?_
          refine lv_iinc (v := nI (k + 1)) (lv' := [(2, .int (nI (k + 1))), (3, .ref (ad (10 + 2 * k))), (1, .int (nI j)), (0, .ref (ad 0))]) hx hb dX2_rankThings_46 hl (k := 1) rfl (by rw [nI_succ]; rfl) (by decide) rfl (fun ls hl => ?_)
          refine lv_goto (tgt := 4) hx hb dX2_rankThings_49 (by decide) ?_
          rw [show r_X2_rankThings S (q + 1) k j F = r_X2_rankThings S q (k + 1) j F from by rw [r_X2_rankThings, if_pos c_3]]
          exact ih (k + 1) j F H locs (by omega) (by omega) hP hS ls (lv_sub hl [0, 2, 3] rfl)
  exact lp (nt S) 0 0 E _ _ (Nat.zero_add _) (Nat.le_refl _) hP hS ls hl
theorem rank_le {S : St} : ∀ (q k j : Nat) (F : Ex), k + q = nt S → j ≤ k → ∃ n, n ≤ nt S ∧ (r_X2_rankThings S q k j F).1 = nI n := by
  intro q
  induction q with
  | zero => intro k j F h1 h2; exact ⟨j, by omega, by rw [r_X2_rankThings]⟩
  | succ q ih =>
    intro k j F h1 h2
    rw [r_X2_rankThings]
    split
    · exact ih _ _ _ (by omega) (by omega)
    · exact ih _ _ _ (by omega) (by omega)
theorem rank_ix {S : St} {E : Ex} {x : Int32} (h : nt S ≤ 40) (hx : ¬ f_X2_isWithin x 0 ((f_X2_rankThings S E).1 - 1) = 0) : okx x 40 := by
  obtain ⟨n, hn, e⟩ := rank_le (S := S) (nt S) 0 0 E (Nat.zero_add _) (Nat.le_refl _)
  rw [f_X2_rankThings, e] at hx
  by_cases hj : ∃ j, j < n ∧ x = nI j
  · obtain ⟨j, hj, rfl⟩ := hj
    exact nI_ok (by omega) (by omega)
  · exact absurd (isW_out (by omega) hj) hx

def f_X2_first (S : St) (E : Ex) (x : Int32) : Int32 × Ex :=
  if f_X2_isWithin x 0 (((f_X2_rankThings S E).1) - 1) = 0 then ((-1000000), (f_X2_rankThings S E).2)
  else ((f_X2_rankThings S E).2.2.1 (ix x), (f_X2_rankThings S E).2)
set_option maxRecDepth 20000 in
theorem c_X2_first (l : Launch) (G : GG) (ad : Nat → Nat) (S : St) (E : Ex) (hW : WF S) (x : Int32) : MW l yX2_first cX2_first 3 (some .int) 5 110 0 0 G ad (cX G ad S E) [.ref (ad 0), .int x] (some (.int (f_X2_first S E x).1)) (fun ad' => cX G ad' S (f_X2_first S E x).2) (fun ad' => ad' = ad) := by
  refine MW.of [(0, .ref (ad 0)), (1, .int x)] (by decide) (Nat.le_of_ble_eq_true rfl) rfl ?_
  intro p e s m args below meth c A cx hr hlk hnm hA hP ls hl
  have hx := cx.1.1
  have hb := cx.1.2.1
  have hS : va_S A s.heap s.heap [] := va_S.rf
  refine lv_aload_n hx hb dX2_first_0 rfl (lv_at hl 0 rfl) ?_
  refine w_callVW (As := []) (rest := []) (st := [.int ((f_X2_rankThings S E).1)]) cx (c_X2_rankThings l G ad S E hW) k_418 cal_yX2_rankThings (ci := 2) rfl (hP.pa _ _ (cX_lo 0 (by decide) rfl)) hP hS hA rfl ⟨Nat.le_of_ble_eq_true rfl, Nat.le_of_ble_eq_true rfl⟩ hl.1 (Nat.le_of_ble_eq_true rfl) ⟨Nat.le_of_ble_eq_true rfl, Nat.le_of_ble_eq_true rfl⟩ rfl rfl dX2_first_1 (fun ad1 H locs hX1 hP hz1 hq1 hS => ?_)
  rw [hX1] at hP
  refine lv_istore_n (lv' := [(2, .int ((f_X2_rankThings S E).1)), (0, .ref (ad 0)), (1, .int x)]) hx hb dX2_first_4 rfl hl (by decide) rfl (fun ls hl => ?_)
  refine lv_iload_n hx hb dX2_first_5 rfl (lv_at hl 2 rfl) ?_
  refine lv_iconst (v := 0) hx hb dX2_first_6 (by decide) ?_
  refine lv_iload_n hx hb dX2_first_7 rfl (lv_at hl 0 rfl) ?_
  refine lv_iconst (v := 1) hx hb dX2_first_8 (by decide) ?_
  refine lv_isub hx hb dX2_first_9 ?_
  refine w_callS (As := [.int x, .int 0, .int (((f_X2_rankThings S E).1) - 1)]) (rest := []) (st := [.int (f_X2_isWithin x 0 (((f_X2_rankThings S E).1) - 1))]) cx (c_X2_isWithin l G ad _ x 0 (((f_X2_rankThings S E).1) - 1)) k_91 cal_yX2_isWithin hP.pa rfl ⟨Nat.le_of_ble_eq_true rfl, Nat.le_of_ble_eq_true rfl⟩ hl.1 (Nat.le_of_ble_eq_true rfl) ⟨Nat.zero_le _, Nat.zero_le _⟩ rfl rfl dX2_first_10 ?_
  refine lv_if_eq (tgt := 25) hx hb dX2_first_13 (by decide) (fun c_1 => ?_) (fun c_1 => ?_)
  · refine w_ldc cx k_156 dX2_first_25 ?_
    rw [show f_X2_first S E x = ((-1000000), (f_X2_rankThings S E).2) from by rw [f_X2_first, if_pos c_1]]
    exact x_int cx hr hlk (ad' := ad) ⟨rfl, hP⟩ hS dX2_first_27
  · refine lv_aload_n hx hb dX2_first_16 rfl (lv_at hl 1 rfl) ?_
    refine w_get cx (ci := 2) rfl iX2 (hP.pa _ _ (cX_lo 0 (by decide) rfl)) 7 (by decide) k_52 (v := .ref (ad 8)) rfl dX2_first_17 ?_
    refine lv_iload_n hx hb dX2_first_20 rfl (lv_at hl 2 rfl) ?_
    refine w_iald cx (hP.pa _ _ (cX_lo 8 (by decide) rfl)) (ix x) (rank_ix hW.t c_1).1 (rank_ix hW.t c_1).2 (by decide) dX2_first_21 ?_
    refine lv_goto (tgt := 27) hx hb dX2_first_22 (by decide) ?_
    rw [show f_X2_first S E x = ((f_X2_rankThings S E).2.2.1 (ix x), (f_X2_rankThings S E).2) from by rw [f_X2_first, if_neg c_1]]
    exact x_int cx hr hlk (ad' := ad) ⟨rfl, hP⟩ hS dX2_first_27
