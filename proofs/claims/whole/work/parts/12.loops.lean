theorem i_neg_le {x : Int32} (h : x < 0) : x ≤ 0 := by rw [i_lt] at h; rw [i_le]; omega
theorem i_neg_nle {x : Int32} (h : x < 0) : ¬ 0 ≤ x := by rw [i_lt] at h; rw [i_le]; omega
def r_X2_unsettled (S : St) : Nat → Nat → Int32 → Int32
  | 0, k, z => z
  | q + 1, k, z => if ar S 18 k = 0 then r_X2_unsettled S q (k + 1) (z + 1)
    else r_X2_unsettled S q (k + 1) z
def f_X2_unsettled (S : St) : Int32 :=
  r_X2_unsettled S (nr S) 0 0
set_option maxRecDepth 20000 in
theorem c_X2_unsettled (l : Launch) (G : GG) (ad : Nat → Nat) (S : St) (E : Ex) (hW : WF S)  : MR l yX2_unsettled cX2_unsettled 4 (some .int) 2 43 G ad (cX G ad S E) [.ref (ad 0)] (some (.int (f_X2_unsettled S))) := by
  refine MR.of [(0, .ref (ad 0))] (by decide) (Nat.le_of_ble_eq_true rfl) rfl ?_
  intro p e s m args below meth c cx hr hlk hP ls hl
  have hx := cx.1.1
  have hb := cx.1.2.1
  refine lv_iconst (v := 0) hx hb dX2_unsettled_0 (by decide) ?_
  refine lv_istore_n (lv' := [(1, .int 0), (0, .ref (ad 0))]) hx hb dX2_unsettled_1 rfl hl (by decide) rfl (fun ls hl => ?_)
  refine lv_iconst (v := 0) hx hb dX2_unsettled_2 (by decide) ?_
  refine lv_istore_n (lv' := [(2, .int 0), (1, .int 0), (0, .ref (ad 0))]) hx hb dX2_unsettled_3 rfl hl (by decide) rfl (fun ls hl => ?_)
  rw [show f_X2_unsettled S = r_X2_unsettled S (nr S) 0 0 from by rw [f_X2_unsettled]]
  have lp : ∀ (q k : Nat) (z : Int32), k + q = nr S → ∀ ls : Array Slot, lv_has ls 4 [(2, .int (nI k)), (1, .int z), (0, .ref (ad 0))] → W p l e (rmM 2 43 0 0) s m args below meth c s.heap [] 0 0 (MQ below (Rd (some (.int (r_X2_unsettled S q k z)))) args s 0 0 (fun _ => False)) (F0 m 4 ls []) := by
    intro q
    induction q with
    | zero =>
      intro k z hk ls hl
      have hk2 : k = nr S := by omega
      subst hk2
      refine lv_iload_n hx hb dX2_unsettled_4 rfl (lv_at hl 0 rfl) ?_
      refine lv_aload_n hx hb dX2_unsettled_5 rfl (lv_at hl 2 rfl) ?_
      refine w_get cx (ci := 2) rfl iX2 (hP _ _ (cX_lo 0 (by decide) rfl)) 11 (by decide) k_56 (v := .int (nI (nr S))) rfl dX2_unsettled_6 ?_
      refine lv_icmp_ge (tgt := 38) hx hb dX2_unsettled_9 (by decide) (fun c_1 => ?_) (fun c_1 => ?_)
      · refine lv_iload_n hx hb dX2_unsettled_38 rfl (lv_at hl 1 rfl) ?_
        exact r_int cx hr hlk (by rw [r_X2_unsettled]) dX2_unsettled_39
      · exact absurd (Int32.le_refl _) c_1
    | succ q ih =>
      intro k z hk1 ls hl
      have hk : k < nr S := by omega
      refine lv_iload_n hx hb dX2_unsettled_4 rfl (lv_at hl 0 rfl) ?_
      refine lv_aload_n hx hb dX2_unsettled_5 rfl (lv_at hl 2 rfl) ?_
      refine w_get cx (ci := 2) rfl iX2 (hP _ _ (cX_lo 0 (by decide) rfl)) 11 (by decide) k_56 (v := .int (nI (nr S))) rfl dX2_unsettled_6 ?_
      refine lv_icmp_ge (tgt := 38) hx hb dX2_unsettled_9 (by decide) (fun c_2 => ?_) (fun c_2 => ?_)
      · exact absurd c_2 (nI_ge (b := nr S) hk (Nat.lt_of_le_of_lt hW.r (by decide)))
      · refine lv_aload_n hx hb dX2_unsettled_12 rfl (lv_at hl 2 rfl) ?_
        refine lv_iload_n hx hb dX2_unsettled_13 rfl (lv_at hl 0 rfl) ?_
        refine w_callV (As := [.int (nI k)]) (rest := []) (st := [.ref (ad (100 + k))]) cx (c_X2_trialAt_in l G ad S E hW hk) k_308 cal_yX2_trialAt (ci := 2) rfl (hP _ _ (cX_lo 0 (by decide) rfl)) hP rfl ⟨Nat.le_of_ble_eq_true rfl, Nat.le_of_ble_eq_true rfl⟩ hl.1 (Nat.le_of_ble_eq_true rfl) ⟨Nat.zero_le _, Nat.zero_le _⟩ rfl rfl dX2_unsettled_14 ?_
        refine lv_astore_n (lv' := [(3, .ref (ad (100 + k))), (2, .int (nI k)), (1, .int z), (0, .ref (ad 0))]) hx hb dX2_unsettled_17 rfl hl (by decide) rfl (fun ls hl => ?_)
        refine lv_aload_n hx hb dX2_unsettled_18 rfl (lv_at hl 0 rfl) ?_
        refine lv_ifnull hx hb dX2_unsettled_19 ?_
        refine lv_aload_n hx hb dX2_unsettled_22 rfl (lv_at hl 0 rfl) ?_
        refine w_get cx (ci := 1) rfl iX1 (hP _ _ (cX_R hk)) 7 (by decide) k_263 (v := .int (ar S 18 k)) rfl dX2_unsettled_23 ?_
        refine lv_if_ne (tgt := 32) hx hb dX2_unsettled_26 (by decide) (fun c_3 => ?_) (fun c_3 => ?_)
        · refine lv_iinc (v := nI (k + 1)) (lv' := [(2, .int (nI (k + 1))), (3, .ref (ad (100 + k))), (1, .int z), (0, .ref (ad 0))]) hx hb dX2_unsettled_32 hl (k := 1) rfl (by rw [nI_succ]; rfl) (by decide) rfl (fun ls hl => ?_)
          refine lv_goto (tgt := 4) hx hb dX2_unsettled_35 (by decide) ?_
          rw [show r_X2_unsettled S (q + 1) k z = r_X2_unsettled S q (k + 1) z from by rw [r_X2_unsettled, if_neg c_3]]
          exact ih (k + 1) z (by omega) ls (lv_sub hl [0, 2, 3] rfl)
        · refine lv_iinc (v := z + 1) (lv' := [(1, .int (z + 1)), (3, .ref (ad (100 + k))), (2, .int (nI k)), (0, .ref (ad 0))]) hx hb dX2_unsettled_29 hl (k := 2) rfl rfl (by decide) rfl (fun ls hl => ?_)
          refine lv_iinc (v := nI (k + 1)) (lv' := [(2, .int (nI (k + 1))), (1, .int (z + 1)), (3, .ref (ad (100 + k))), (0, .ref (ad 0))]) hx hb dX2_unsettled_32 hl (k := 2) rfl (by rw [nI_succ]; rfl) (by decide) rfl (fun ls hl => ?_)
          refine lv_goto (tgt := 4) hx hb dX2_unsettled_35 (by decide) ?_
          rw [show r_X2_unsettled S (q + 1) k z = r_X2_unsettled S q (k + 1) (z + 1) from by rw [r_X2_unsettled, if_pos c_3]]
          exact ih (k + 1) (z + 1) (by omega) ls (lv_sub hl [0, 1, 3] rfl)
  exact lp (nr S) 0 0 (Nat.zero_add _) ls hl
set_option maxRecDepth 20000 in
theorem c_X2_sealed_out (l : Launch) (G : GG) (ad : Nat → Nat) (S : St) (E : Ex) (hW : WF S) {n : Int32} (hn : f_X2_isSealNumber n = 0) : MR l yX2_sealed cX2_sealed 4 (some .int) 2 43 G ad (cX G ad S E) [.ref (ad 0), .int n] (some (.int (-2))) := by
  refine MR.of [(0, .ref (ad 0)), (1, .int n)] (by decide) (Nat.le_of_ble_eq_true rfl) rfl ?_
  intro p e s m args below meth c cx hr hlk hP ls hl
  have hx := cx.1.1
  have hb := cx.1.2.1
  refine lv_iload_n hx hb dX2_sealed_0 rfl (lv_at hl 1 rfl) ?_
  refine w_callS (As := [.int n]) (rest := []) (st := [.int (f_X2_isSealNumber n)]) cx (c_X2_isSealNumber l G ad _ n) k_389 cal_yX2_isSealNumber hP rfl ⟨Nat.le_of_ble_eq_true rfl, Nat.le_of_ble_eq_true rfl⟩ hl.1 (Nat.le_of_ble_eq_true rfl) ⟨Nat.zero_le _, Nat.zero_le _⟩ rfl rfl dX2_sealed_1 ?_
  refine lv_if_ne (tgt := 10) hx hb dX2_sealed_4 (by decide) (fun c_1 => ?_) (fun c_1 => ?_)
  · exact absurd hn c_1
  · refine lv_bipush (v := -2) hx hb dX2_sealed_7 (by decide) ?_
    exact r_int cx hr hlk rfl dX2_sealed_9
def r_X2_sealed (S : St) (x : Int32) : Nat → Nat → Int32
  | 0, k => (-1000000)
  | q + 1, k => if ar S 6 k = x then nI k
    else r_X2_sealed S x q (k + 1)
def f_X2_sealed (S : St) (x : Int32) : Int32 :=
  r_X2_sealed S x (nt S) 0
set_option maxRecDepth 20000 in
theorem c_X2_sealed (l : Launch) (G : GG) (ad : Nat → Nat) (S : St) (E : Ex) (hW : WF S) {x : Int32} (hn : ¬ f_X2_isSealNumber x = 0) : MR l yX2_sealed cX2_sealed 4 (some .int) 2 43 G ad (cX G ad S E) [.ref (ad 0), .int x] (some (.int (f_X2_sealed S x))) := by
  refine MR.of [(0, .ref (ad 0)), (1, .int x)] (by decide) (Nat.le_of_ble_eq_true rfl) rfl ?_
  intro p e s m args below meth c cx hr hlk hP ls hl
  have hx := cx.1.1
  have hb := cx.1.2.1
  refine lv_iload_n hx hb dX2_sealed_0 rfl (lv_at hl 1 rfl) ?_
  refine w_callS (As := [.int x]) (rest := []) (st := [.int (f_X2_isSealNumber x)]) cx (c_X2_isSealNumber l G ad _ x) k_389 cal_yX2_isSealNumber hP rfl ⟨Nat.le_of_ble_eq_true rfl, Nat.le_of_ble_eq_true rfl⟩ hl.1 (Nat.le_of_ble_eq_true rfl) ⟨Nat.zero_le _, Nat.zero_le _⟩ rfl rfl dX2_sealed_1 ?_
  refine lv_if_ne (tgt := 10) hx hb dX2_sealed_4 (by decide) (fun c_1 => ?_) (fun c_1 => ?_)
  · refine lv_iconst (v := 0) hx hb dX2_sealed_10 (by decide) ?_
    refine lv_istore_n (lv' := [(2, .int 0), (0, .ref (ad 0)), (1, .int x)]) hx hb dX2_sealed_11 rfl hl (by decide) rfl (fun ls hl => ?_)
    rw [show f_X2_sealed S x = r_X2_sealed S x (nt S) 0 from by rw [f_X2_sealed]]
    have lp : ∀ (q k : Nat), k + q = nt S → ∀ ls : Array Slot, lv_has ls 4 [(2, .int (nI k)), (0, .ref (ad 0)), (1, .int x)] → W p l e (rmM 2 43 0 0) s m args below meth c s.heap [] 0 0 (MQ below (Rd (some (.int (r_X2_sealed S x q k)))) args s 0 0 (fun _ => False)) (F0 m 12 ls []) := by
      intro q
      induction q with
      | zero =>
        intro k hk ls hl
        have hk2 : k = nt S := by omega
        subst hk2
        refine lv_iload_n hx hb dX2_sealed_12 rfl (lv_at hl 0 rfl) ?_
        refine lv_aload_n hx hb dX2_sealed_13 rfl (lv_at hl 1 rfl) ?_
        refine w_get cx (ci := 2) rfl iX2 (hP _ _ (cX_lo 0 (by decide) rfl)) 10 (by decide) k_55 (v := .int (nI (nt S))) rfl dX2_sealed_14 ?_
        refine lv_icmp_ge (tgt := 46) hx hb dX2_sealed_17 (by decide) (fun c_2 => ?_) (fun c_2 => ?_)
        · refine w_ldc cx k_156 dX2_sealed_46 ?_
          exact r_int cx hr hlk (by rw [r_X2_sealed]) dX2_sealed_48
        · exact absurd (Int32.le_refl _) c_2
      | succ q ih =>
        intro k hk1 ls hl
        have hk : k < nt S := by omega
        refine lv_iload_n hx hb dX2_sealed_12 rfl (lv_at hl 0 rfl) ?_
        refine lv_aload_n hx hb dX2_sealed_13 rfl (lv_at hl 1 rfl) ?_
        refine w_get cx (ci := 2) rfl iX2 (hP _ _ (cX_lo 0 (by decide) rfl)) 10 (by decide) k_55 (v := .int (nI (nt S))) rfl dX2_sealed_14 ?_
        refine lv_icmp_ge (tgt := 46) hx hb dX2_sealed_17 (by decide) (fun c_3 => ?_) (fun c_3 => ?_)
        · exact absurd c_3 (nI_ge (b := nt S) hk (Nat.lt_of_le_of_lt hW.t (by decide)))
        · refine lv_aload_n hx hb dX2_sealed_20 rfl (lv_at hl 1 rfl) ?_
          refine lv_iload_n hx hb dX2_sealed_21 rfl (lv_at hl 0 rfl) ?_
          refine w_callV (As := [.int (nI k)]) (rest := []) (st := [.ref (ad (10 + 2 * k))]) cx (c_X2_thingAt_in l G ad S E hW hk) k_149 cal_yX2_thingAt (ci := 2) rfl (hP _ _ (cX_lo 0 (by decide) rfl)) hP rfl ⟨Nat.le_of_ble_eq_true rfl, Nat.le_of_ble_eq_true rfl⟩ hl.1 (Nat.le_of_ble_eq_true rfl) ⟨Nat.zero_le _, Nat.zero_le _⟩ rfl rfl dX2_sealed_22 ?_
          refine lv_astore_n (lv' := [(3, .ref (ad (10 + 2 * k))), (2, .int (nI k)), (0, .ref (ad 0)), (1, .int x)]) hx hb dX2_sealed_25 rfl hl (by decide) rfl (fun ls hl => ?_)
          refine lv_aload_n hx hb dX2_sealed_26 rfl (lv_at hl 0 rfl) ?_
          refine lv_ifnull hx hb dX2_sealed_27 ?_
          refine lv_aload_n hx hb dX2_sealed_30 rfl (lv_at hl 0 rfl) ?_
          refine w_get cx (ci := 0) rfl iX0 (hP _ _ (cX_T hk hW.t)) 8 (by decide) k_121 (v := .int (ar S 6 k)) rfl dX2_sealed_31 ?_
          refine lv_iload_n hx hb dX2_sealed_34 rfl (lv_at hl 3 rfl) ?_
          refine lv_icmp_ne (tgt := 40) hx hb dX2_sealed_35 (by decide) (fun c_4 => ?_) (fun c_4 => ?_)
          · refine lv_iinc (v := nI (k + 1)) (lv' := [(2, .int (nI (k + 1))), (3, .ref (ad (10 + 2 * k))), (0, .ref (ad 0)), (1, .int x)]) hx hb dX2_sealed_40 hl (k := 1) rfl (by rw [nI_succ]; rfl) (by decide) rfl (fun ls hl => ?_)
            refine lv_goto (tgt := 12) hx hb dX2_sealed_43 (by decide) ?_
            rw [show r_X2_sealed S x (q + 1) k = r_X2_sealed S x q (k + 1) from by rw [r_X2_sealed, if_neg c_4]]
            exact ih (k + 1) (by omega) ls (lv_sub hl [0, 2, 3] rfl)
          · refine lv_iload_n hx hb dX2_sealed_38 rfl (lv_at hl 1 rfl) ?_
            exact r_int cx hr hlk (by rw [r_X2_sealed, if_pos c_4]) dX2_sealed_39
    exact lp (nt S) 0 (Nat.zero_add _) ls hl
  · exact absurd c_1 hn
def r_X2_howManyDue (S : St) : Nat → Nat → Int32 → Int32
  | 0, k, z => z
  | q + 1, k, z => if f_X0_isDueOn S k (sc S 0) = 0 then r_X2_howManyDue S q (k + 1) z
    else r_X2_howManyDue S q (k + 1) (z + 1)
def f_X2_howManyDue (S : St) : Int32 :=
  r_X2_howManyDue S (nt S) 0 0
set_option maxRecDepth 20000 in
theorem c_X2_howManyDue (l : Launch) (G : GG) (ad : Nat → Nat) (S : St) (E : Ex) (hW : WF S)  : MR l yX2_howManyDue cX2_howManyDue 4 (some .int) 3 65 G ad (cX G ad S E) [.ref (ad 0)] (some (.int (f_X2_howManyDue S))) := by
  refine MR.of [(0, .ref (ad 0))] (by decide) (Nat.le_of_ble_eq_true rfl) rfl ?_
  intro p e s m args below meth c cx hr hlk hP ls hl
  have hx := cx.1.1
  have hb := cx.1.2.1
  refine lv_iconst (v := 0) hx hb dX2_howManyDue_0 (by decide) ?_
  refine lv_istore_n (lv' := [(1, .int 0), (0, .ref (ad 0))]) hx hb dX2_howManyDue_1 rfl hl (by decide) rfl (fun ls hl => ?_)
  refine lv_iconst (v := 0) hx hb dX2_howManyDue_2 (by decide) ?_
  refine lv_istore_n (lv' := [(2, .int 0), (1, .int 0), (0, .ref (ad 0))]) hx hb dX2_howManyDue_3 rfl hl (by decide) rfl (fun ls hl => ?_)
  rw [show f_X2_howManyDue S = r_X2_howManyDue S (nt S) 0 0 from by rw [f_X2_howManyDue]]
  have lp : ∀ (q k : Nat) (z : Int32), k + q = nt S → ∀ ls : Array Slot, lv_has ls 4 [(2, .int (nI k)), (1, .int z), (0, .ref (ad 0))] → W p l e (rmM 3 65 0 0) s m args below meth c s.heap [] 0 0 (MQ below (Rd (some (.int (r_X2_howManyDue S q k z)))) args s 0 0 (fun _ => False)) (F0 m 4 ls []) := by
    intro q
    induction q with
    | zero =>
      intro k z hk ls hl
      have hk2 : k = nt S := by omega
      subst hk2
      refine lv_iload_n hx hb dX2_howManyDue_4 rfl (lv_at hl 0 rfl) ?_
      refine lv_aload_n hx hb dX2_howManyDue_5 rfl (lv_at hl 2 rfl) ?_
      refine w_get cx (ci := 2) rfl iX2 (hP _ _ (cX_lo 0 (by decide) rfl)) 10 (by decide) k_55 (v := .int (nI (nt S))) rfl dX2_howManyDue_6 ?_
      refine lv_icmp_ge (tgt := 42) hx hb dX2_howManyDue_9 (by decide) (fun c_1 => ?_) (fun c_1 => ?_)
      · refine lv_iload_n hx hb dX2_howManyDue_42 rfl (lv_at hl 1 rfl) ?_
        exact r_int cx hr hlk (by rw [r_X2_howManyDue]) dX2_howManyDue_43
      · exact absurd (Int32.le_refl _) c_1
    | succ q ih =>
      intro k z hk1 ls hl
      have hk : k < nt S := by omega
      refine lv_iload_n hx hb dX2_howManyDue_4 rfl (lv_at hl 0 rfl) ?_
      refine lv_aload_n hx hb dX2_howManyDue_5 rfl (lv_at hl 2 rfl) ?_
      refine w_get cx (ci := 2) rfl iX2 (hP _ _ (cX_lo 0 (by decide) rfl)) 10 (by decide) k_55 (v := .int (nI (nt S))) rfl dX2_howManyDue_6 ?_
      refine lv_icmp_ge (tgt := 42) hx hb dX2_howManyDue_9 (by decide) (fun c_2 => ?_) (fun c_2 => ?_)
      · exact absurd c_2 (nI_ge (b := nt S) hk (Nat.lt_of_le_of_lt hW.t (by decide)))
      · refine lv_aload_n hx hb dX2_howManyDue_12 rfl (lv_at hl 2 rfl) ?_
        refine lv_iload_n hx hb dX2_howManyDue_13 rfl (lv_at hl 0 rfl) ?_
        refine w_callV (As := [.int (nI k)]) (rest := []) (st := [.ref (ad (10 + 2 * k))]) cx (c_X2_thingAt_in l G ad S E hW hk) k_149 cal_yX2_thingAt (ci := 2) rfl (hP _ _ (cX_lo 0 (by decide) rfl)) hP rfl ⟨Nat.le_of_ble_eq_true rfl, Nat.le_of_ble_eq_true rfl⟩ hl.1 (Nat.le_of_ble_eq_true rfl) ⟨Nat.zero_le _, Nat.zero_le _⟩ rfl rfl dX2_howManyDue_14 ?_
        refine lv_astore_n (lv' := [(3, .ref (ad (10 + 2 * k))), (2, .int (nI k)), (1, .int z), (0, .ref (ad 0))]) hx hb dX2_howManyDue_17 rfl hl (by decide) rfl (fun ls hl => ?_)
        refine lv_aload_n hx hb dX2_howManyDue_18 rfl (lv_at hl 0 rfl) ?_
        refine lv_ifnull hx hb dX2_howManyDue_19 ?_
        refine lv_aload_n hx hb dX2_howManyDue_22 rfl (lv_at hl 0 rfl) ?_
        refine lv_aload_n hx hb dX2_howManyDue_23 rfl (lv_at hl 3 rfl) ?_
        refine w_get cx (ci := 2) rfl iX2 (hP _ _ (cX_lo 0 (by decide) rfl)) 9 (by decide) k_54 (v := .int (sc S 0)) rfl dX2_howManyDue_24 ?_
        refine w_callV (As := [.int (sc S 0)]) (rest := []) (st := [.int (f_X0_isDueOn S k (sc S 0))]) cx (c_X0_isDueOn l G ad S E hW (i := k) hk (sc S 0)) k_341 cal_yX0_isDueOn (ci := 0) rfl (hP _ _ (cX_T hk hW.t)) hP rfl ⟨Nat.le_of_ble_eq_true rfl, Nat.le_of_ble_eq_true rfl⟩ hl.1 (Nat.le_of_ble_eq_true rfl) ⟨Nat.zero_le _, Nat.zero_le _⟩ rfl rfl dX2_howManyDue_27 ?_
        refine lv_if_eq (tgt := 36) hx hb dX2_howManyDue_30 (by decide) (fun c_3 => ?_) (fun c_3 => ?_)
        · refine lv_iinc (v := nI (k + 1)) (lv' := [(2, .int (nI (k + 1))), (3, .ref (ad (10 + 2 * k))), (1, .int z), (0, .ref (ad 0))]) hx hb dX2_howManyDue_36 hl (k := 1) rfl (by rw [nI_succ]; rfl) (by decide) rfl (fun ls hl => ?_)
          refine lv_goto (tgt := 4) hx hb dX2_howManyDue_39 (by decide) ?_
          rw [show r_X2_howManyDue S (q + 1) k z = r_X2_howManyDue S q (k + 1) z from by rw [r_X2_howManyDue, if_pos c_3]]
          exact ih (k + 1) z (by omega) ls (lv_sub hl [0, 2, 3] rfl)
        · refine lv_iinc (v := z + 1) (lv' := [(1, .int (z + 1)), (3, .ref (ad (10 + 2 * k))), (2, .int (nI k)), (0, .ref (ad 0))]) hx hb dX2_howManyDue_33 hl (k := 2) rfl rfl (by decide) rfl (fun ls hl => ?_)
          refine lv_iinc (v := nI (k + 1)) (lv' := [(2, .int (nI (k + 1))), (1, .int (z + 1)), (3, .ref (ad (10 + 2 * k))), (0, .ref (ad 0))]) hx hb dX2_howManyDue_36 hl (k := 2) rfl (by rw [nI_succ]; rfl) (by decide) rfl (fun ls hl => ?_)
          refine lv_goto (tgt := 4) hx hb dX2_howManyDue_39 (by decide) ?_
          rw [show r_X2_howManyDue S (q + 1) k z = r_X2_howManyDue S q (k + 1) (z + 1) from by rw [r_X2_howManyDue, if_neg c_3]]
          exact ih (k + 1) (z + 1) (by omega) ls (lv_sub hl [0, 1, 3] rfl)
  exact lp (nt S) 0 0 (Nat.zero_add _) ls hl
def r_X2_howManyJudged (S : St) (x : Int32) : Nat → Nat → Int32 → Int32
  | 0, k, z => z
  | q + 1, k, z => if f_X0_isOfTrade S k = 0 then r_X2_howManyJudged S x q (k + 1) z
    else if f_X2_judgement S k = x then r_X2_howManyJudged S x q (k + 1) (z + 1)
    else r_X2_howManyJudged S x q (k + 1) z
def f_X2_howManyJudged (S : St) (x : Int32) : Int32 :=
  r_X2_howManyJudged S x (nt S) 0 0
set_option maxRecDepth 20000 in
theorem c_X2_howManyJudged (l : Launch) (G : GG) (ad : Nat → Nat) (S : St) (E : Ex) (hW : WF S) (x : Int32) : MR l yX2_howManyJudged cX2_howManyJudged 5 (some .int) 3 68 G ad (cX G ad S E) [.ref (ad 0), .int x] (some (.int (f_X2_howManyJudged S x))) := by
  refine MR.of [(0, .ref (ad 0)), (1, .int x)] (by decide) (Nat.le_of_ble_eq_true rfl) rfl ?_
  intro p e s m args below meth c cx hr hlk hP ls hl
  have hx := cx.1.1
  have hb := cx.1.2.1
  refine lv_iconst (v := 0) hx hb dX2_howManyJudged_0 (by decide) ?_
  refine lv_istore_n (lv' := [(2, .int 0), (0, .ref (ad 0)), (1, .int x)]) hx hb dX2_howManyJudged_1 rfl hl (by decide) rfl (fun ls hl => ?_)
  refine lv_iconst (v := 0) hx hb dX2_howManyJudged_2 (by decide) ?_
  refine lv_istore_n (lv' := [(3, .int 0), (2, .int 0), (0, .ref (ad 0)), (1, .int x)]) hx hb dX2_howManyJudged_3 rfl hl (by decide) rfl (fun ls hl => ?_)
  rw [show f_X2_howManyJudged S x = r_X2_howManyJudged S x (nt S) 0 0 from by rw [f_X2_howManyJudged]]
  have lp : ∀ (q k : Nat) (z : Int32), k + q = nt S → ∀ ls : Array Slot, lv_has ls 5 [(3, .int (nI k)), (2, .int z), (0, .ref (ad 0)), (1, .int x)] → W p l e (rmM 3 68 0 0) s m args below meth c s.heap [] 0 0 (MQ below (Rd (some (.int (r_X2_howManyJudged S x q k z)))) args s 0 0 (fun _ => False)) (F0 m 4 ls []) := by
    intro q
    induction q with
    | zero =>
      intro k z hk ls hl
      have hk2 : k = nt S := by omega
      subst hk2
      refine lv_iload_n hx hb dX2_howManyJudged_4 rfl (lv_at hl 0 rfl) ?_
      refine lv_aload_n hx hb dX2_howManyJudged_5 rfl (lv_at hl 2 rfl) ?_
      refine w_get cx (ci := 2) rfl iX2 (hP _ _ (cX_lo 0 (by decide) rfl)) 10 (by decide) k_55 (v := .int (nI (nt S))) rfl dX2_howManyJudged_6 ?_
      refine lv_icmp_ge (tgt := 51) hx hb dX2_howManyJudged_9 (by decide) (fun c_1 => ?_) (fun c_1 => ?_)
      · refine lv_iload_n hx hb dX2_howManyJudged_51 rfl (lv_at hl 1 rfl) ?_
        exact r_int cx hr hlk (by rw [r_X2_howManyJudged]) dX2_howManyJudged_52
      · exact absurd (Int32.le_refl _) c_1
    | succ q ih =>
      intro k z hk1 ls hl
      have hk : k < nt S := by omega
      refine lv_iload_n hx hb dX2_howManyJudged_4 rfl (lv_at hl 0 rfl) ?_
      refine lv_aload_n hx hb dX2_howManyJudged_5 rfl (lv_at hl 2 rfl) ?_
      refine w_get cx (ci := 2) rfl iX2 (hP _ _ (cX_lo 0 (by decide) rfl)) 10 (by decide) k_55 (v := .int (nI (nt S))) rfl dX2_howManyJudged_6 ?_
      refine lv_icmp_ge (tgt := 51) hx hb dX2_howManyJudged_9 (by decide) (fun c_2 => ?_) (fun c_2 => ?_)
      · exact absurd c_2 (nI_ge (b := nt S) hk (Nat.lt_of_le_of_lt hW.t (by decide)))
      · refine lv_aload_n hx hb dX2_howManyJudged_12 rfl (lv_at hl 2 rfl) ?_
        refine lv_iload_n hx hb dX2_howManyJudged_13 rfl (lv_at hl 0 rfl) ?_
        refine w_callV (As := [.int (nI k)]) (rest := []) (st := [.ref (ad (10 + 2 * k))]) cx (c_X2_thingAt_in l G ad S E hW hk) k_149 cal_yX2_thingAt (ci := 2) rfl (hP _ _ (cX_lo 0 (by decide) rfl)) hP rfl ⟨Nat.le_of_ble_eq_true rfl, Nat.le_of_ble_eq_true rfl⟩ hl.1 (Nat.le_of_ble_eq_true rfl) ⟨Nat.zero_le _, Nat.zero_le _⟩ rfl rfl dX2_howManyJudged_14 ?_
        refine lv_astore (lv' := [(4, .ref (ad (10 + 2 * k))), (3, .int (nI k)), (2, .int z), (0, .ref (ad 0)), (1, .int x)]) hx hb dX2_howManyJudged_17 hl (by decide) rfl (fun ls hl => ?_)
        refine lv_aload hx hb dX2_howManyJudged_19 (lv_at hl 0 rfl) ?_
        refine lv_ifnull hx hb dX2_howManyJudged_21 ?_
        refine lv_aload hx hb dX2_howManyJudged_24 (lv_at hl 0 rfl) ?_
        refine w_callV (As := []) (rest := []) (st := [.int (f_X0_isOfTrade S k)]) cx (c_X0_isOfTrade l G ad S E hW (i := k) hk) k_180 cal_yX0_isOfTrade (ci := 0) rfl (hP _ _ (cX_T hk hW.t)) hP rfl ⟨Nat.le_of_ble_eq_true rfl, Nat.le_of_ble_eq_true rfl⟩ hl.1 (Nat.le_of_ble_eq_true rfl) ⟨Nat.zero_le _, Nat.zero_le _⟩ rfl rfl dX2_howManyJudged_26 ?_
        refine lv_if_eq (tgt := 45) hx hb dX2_howManyJudged_29 (by decide) (fun c_3 => ?_) (fun c_3 => ?_)
        · refine lv_iinc (v := nI (k + 1)) (lv' := [(3, .int (nI (k + 1))), (4, .ref (ad (10 + 2 * k))), (2, .int z), (0, .ref (ad 0)), (1, .int x)]) hx hb dX2_howManyJudged_45 hl (k := 1) rfl (by rw [nI_succ]; rfl) (by decide) rfl (fun ls hl => ?_)
          refine lv_goto (tgt := 4) hx hb dX2_howManyJudged_48 (by decide) ?_
          rw [show r_X2_howManyJudged S x (q + 1) k z = r_X2_howManyJudged S x q (k + 1) z from by rw [r_X2_howManyJudged, if_pos c_3]]
          exact ih (k + 1) z (by omega) ls (lv_sub hl [0, 2, 3, 4] rfl)
        · refine lv_aload_n hx hb dX2_howManyJudged_32 rfl (lv_at hl 3 rfl) ?_
          refine lv_aload hx hb dX2_howManyJudged_33 (lv_at hl 0 rfl) ?_
          refine w_callV (As := [.ref (ad (10 + 2 * k))]) (rest := []) (st := [.int (f_X2_judgement S k)]) cx (c_X2_judgement l G ad S E hW (i := k) hk) k_359 cal_yX2_judgement (ci := 2) rfl (hP _ _ (cX_lo 0 (by decide) rfl)) hP rfl ⟨Nat.le_of_ble_eq_true rfl, Nat.le_of_ble_eq_true rfl⟩ hl.1 (Nat.le_of_ble_eq_true rfl) ⟨Nat.zero_le _, Nat.zero_le _⟩ rfl rfl dX2_howManyJudged_35 ?_
          refine lv_iload_n hx hb dX2_howManyJudged_38 rfl (lv_at hl 4 rfl) ?_
          refine lv_icmp_ne (tgt := 45) hx hb dX2_howManyJudged_39 (by decide) (fun c_4 => ?_) (fun c_4 => ?_)
          · refine lv_iinc (v := nI (k + 1)) (lv' := [(3, .int (nI (k + 1))), (4, .ref (ad (10 + 2 * k))), (2, .int z), (0, .ref (ad 0)), (1, .int x)]) hx hb dX2_howManyJudged_45 hl (k := 1) rfl (by rw [nI_succ]; rfl) (by decide) rfl (fun ls hl => ?_)
            refine lv_goto (tgt := 4) hx hb dX2_howManyJudged_48 (by decide) ?_
            rw [show r_X2_howManyJudged S x (q + 1) k z = r_X2_howManyJudged S x q (k + 1) z from by rw [r_X2_howManyJudged, if_neg c_3, if_neg c_4]]
            exact ih (k + 1) z (by omega) ls (lv_sub hl [0, 2, 3, 4] rfl)
          · refine lv_iinc (v := z + 1) (lv' := [(2, .int (z + 1)), (4, .ref (ad (10 + 2 * k))), (3, .int (nI k)), (0, .ref (ad 0)), (1, .int x)]) hx hb dX2_howManyJudged_42 hl (k := 2) rfl rfl (by decide) rfl (fun ls hl => ?_)
            refine lv_iinc (v := nI (k + 1)) (lv' := [(3, .int (nI (k + 1))), (2, .int (z + 1)), (4, .ref (ad (10 + 2 * k))), (0, .ref (ad 0)), (1, .int x)]) hx hb dX2_howManyJudged_45 hl (k := 2) rfl (by rw [nI_succ]; rfl) (by decide) rfl (fun ls hl => ?_)
            refine lv_goto (tgt := 4) hx hb dX2_howManyJudged_48 (by decide) ?_
            rw [show r_X2_howManyJudged S x (q + 1) k z = r_X2_howManyJudged S x q (k + 1) (z + 1) from by rw [r_X2_howManyJudged, if_neg c_3, if_pos c_4]]
            exact ih (k + 1) (z + 1) (by omega) ls (lv_sub hl [0, 1, 3, 4] rfl)
  exact lp (nt S) 0 0 (Nat.zero_add _) ls hl
def f_X2_count (S : St) (x : Int32) : Int32 :=
  if x = 0 then sc S 0
  else if x = 1 then nI (nt S)
  else if x = 2 then nI (nr S)
  else if x = 3 then f_X2_howManyDue S
  else if x = 4 then f_X2_howManyJudged S 1
  else if x = 5 then f_X2_howManyJudged S 2
  else if x = 6 then f_X2_howManyJudged S 3
  else if x = 7 then sc S 1
  else (-2)
set_option maxRecDepth 20000 in
theorem c_X2_count (l : Launch) (G : GG) (ad : Nat → Nat) (S : St) (E : Ex) (hW : WF S) (x : Int32) : MR l yX2_count cX2_count 2 (some .int) 4 92 G ad (cX G ad S E) [.ref (ad 0), .int x] (some (.int (f_X2_count S x))) := by
  refine MR.of [(0, .ref (ad 0)), (1, .int x)] (by decide) (Nat.le_of_ble_eq_true rfl) rfl ?_
  intro p e s m args below meth c cx hr hlk hP ls hl
  have hx := cx.1.1
  have hb := cx.1.2.1
  refine lv_iload_n hx hb dX2_count_0 rfl (lv_at hl 1 rfl) ?_
  by_cases c_1 : x = 0
  · refine lv_tableIn (off := 47) (tgt := 48) hx hb dX2_count_1 (by rw [c_1]; decide) (by rw [c_1]; decide) (by rw [c_1]; decide) (by decide) ?_
    refine lv_aload_n hx hb dX2_count_48 rfl (lv_at hl 0 rfl) ?_
    refine w_get cx (ci := 2) rfl iX2 (hP _ _ (cX_lo 0 (by decide) rfl)) 9 (by decide) k_54 (v := .int (sc S 0)) rfl dX2_count_49 ?_
    exact r_int cx hr hlk (by rw [f_X2_count, if_pos c_1]) dX2_count_52
  · by_cases c_2 : x = 1
    · refine lv_tableIn (off := 52) (tgt := 53) hx hb dX2_count_1 (by rw [c_2]; decide) (by rw [c_2]; decide) (by rw [c_2]; decide) (by decide) ?_
      refine lv_aload_n hx hb dX2_count_53 rfl (lv_at hl 0 rfl) ?_
      refine w_get cx (ci := 2) rfl iX2 (hP _ _ (cX_lo 0 (by decide) rfl)) 10 (by decide) k_55 (v := .int (nI (nt S))) rfl dX2_count_54 ?_
      exact r_int cx hr hlk (by rw [f_X2_count, if_neg c_1, if_pos c_2]) dX2_count_57
    · by_cases c_3 : x = 2
      · refine lv_tableIn (off := 57) (tgt := 58) hx hb dX2_count_1 (by rw [c_3]; decide) (by rw [c_3]; decide) (by rw [c_3]; decide) (by decide) ?_
        refine lv_aload_n hx hb dX2_count_58 rfl (lv_at hl 0 rfl) ?_
        refine w_get cx (ci := 2) rfl iX2 (hP _ _ (cX_lo 0 (by decide) rfl)) 11 (by decide) k_56 (v := .int (nI (nr S))) rfl dX2_count_59 ?_
        exact r_int cx hr hlk (by rw [f_X2_count, if_neg c_1, if_neg c_2, if_pos c_3]) dX2_count_62
      · by_cases c_4 : x = 3
        · refine lv_tableIn (off := 62) (tgt := 63) hx hb dX2_count_1 (by rw [c_4]; decide) (by rw [c_4]; decide) (by rw [c_4]; decide) (by decide) ?_
          refine lv_aload_n hx hb dX2_count_63 rfl (lv_at hl 0 rfl) ?_
          refine w_callV (As := []) (rest := []) (st := [.int (f_X2_howManyDue S)]) cx (c_X2_howManyDue l G ad S E hW ) k_437 cal_yX2_howManyDue (ci := 2) rfl (hP _ _ (cX_lo 0 (by decide) rfl)) hP rfl ⟨Nat.le_of_ble_eq_true rfl, Nat.le_of_ble_eq_true rfl⟩ hl.1 (Nat.le_of_ble_eq_true rfl) ⟨Nat.zero_le _, Nat.zero_le _⟩ rfl rfl dX2_count_64 ?_
          exact r_int cx hr hlk (by rw [f_X2_count, if_neg c_1, if_neg c_2, if_neg c_3, if_pos c_4]) dX2_count_67
        · by_cases c_5 : x = 4
          · refine lv_tableIn (off := 67) (tgt := 68) hx hb dX2_count_1 (by rw [c_5]; decide) (by rw [c_5]; decide) (by rw [c_5]; decide) (by decide) ?_
            refine lv_aload_n hx hb dX2_count_68 rfl (lv_at hl 0 rfl) ?_
            refine lv_iconst (v := 1) hx hb dX2_count_69 (by decide) ?_
            refine w_callV (As := [.int 1]) (rest := []) (st := [.int (f_X2_howManyJudged S 1)]) cx (c_X2_howManyJudged l G ad S E hW 1) k_441 cal_yX2_howManyJudged (ci := 2) rfl (hP _ _ (cX_lo 0 (by decide) rfl)) hP rfl ⟨Nat.le_of_ble_eq_true rfl, Nat.le_of_ble_eq_true rfl⟩ hl.1 (Nat.le_of_ble_eq_true rfl) ⟨Nat.zero_le _, Nat.zero_le _⟩ rfl rfl dX2_count_70 ?_
            exact r_int cx hr hlk (by rw [f_X2_count, if_neg c_1, if_neg c_2, if_neg c_3, if_neg c_4, if_pos c_5]) dX2_count_73
          · by_cases c_6 : x = 5
            · refine lv_tableIn (off := 73) (tgt := 74) hx hb dX2_count_1 (by rw [c_6]; decide) (by rw [c_6]; decide) (by rw [c_6]; decide) (by decide) ?_
              refine lv_aload_n hx hb dX2_count_74 rfl (lv_at hl 0 rfl) ?_
              refine lv_iconst (v := 2) hx hb dX2_count_75 (by decide) ?_
              refine w_callV (As := [.int 2]) (rest := []) (st := [.int (f_X2_howManyJudged S 2)]) cx (c_X2_howManyJudged l G ad S E hW 2) k_441 cal_yX2_howManyJudged (ci := 2) rfl (hP _ _ (cX_lo 0 (by decide) rfl)) hP rfl ⟨Nat.le_of_ble_eq_true rfl, Nat.le_of_ble_eq_true rfl⟩ hl.1 (Nat.le_of_ble_eq_true rfl) ⟨Nat.zero_le _, Nat.zero_le _⟩ rfl rfl dX2_count_76 ?_
              exact r_int cx hr hlk (by rw [f_X2_count, if_neg c_1, if_neg c_2, if_neg c_3, if_neg c_4, if_neg c_5, if_pos c_6]) dX2_count_79
            · by_cases c_7 : x = 6
              · refine lv_tableIn (off := 79) (tgt := 80) hx hb dX2_count_1 (by rw [c_7]; decide) (by rw [c_7]; decide) (by rw [c_7]; decide) (by decide) ?_
                refine lv_aload_n hx hb dX2_count_80 rfl (lv_at hl 0 rfl) ?_
                refine lv_iconst (v := 3) hx hb dX2_count_81 (by decide) ?_
                refine w_callV (As := [.int 3]) (rest := []) (st := [.int (f_X2_howManyJudged S 3)]) cx (c_X2_howManyJudged l G ad S E hW 3) k_441 cal_yX2_howManyJudged (ci := 2) rfl (hP _ _ (cX_lo 0 (by decide) rfl)) hP rfl ⟨Nat.le_of_ble_eq_true rfl, Nat.le_of_ble_eq_true rfl⟩ hl.1 (Nat.le_of_ble_eq_true rfl) ⟨Nat.zero_le _, Nat.zero_le _⟩ rfl rfl dX2_count_82 ?_
                exact r_int cx hr hlk (by rw [f_X2_count, if_neg c_1, if_neg c_2, if_neg c_3, if_neg c_4, if_neg c_5, if_neg c_6, if_pos c_7]) dX2_count_85
              · by_cases c_8 : x = 7
                · refine lv_tableIn (off := 85) (tgt := 86) hx hb dX2_count_1 (by rw [c_8]; decide) (by rw [c_8]; decide) (by rw [c_8]; decide) (by decide) ?_
                  refine lv_aload_n hx hb dX2_count_86 rfl (lv_at hl 0 rfl) ?_
                  refine w_get cx (ci := 2) rfl iX2 (hP _ _ (cX_lo 0 (by decide) rfl)) 12 (by decide) k_57 (v := .int (sc S 1)) rfl dX2_count_87 ?_
                  exact r_int cx hr hlk (by rw [f_X2_count, if_neg c_1, if_neg c_2, if_neg c_3, if_neg c_4, if_neg c_5, if_neg c_6, if_neg c_7, if_pos c_8]) dX2_count_90
                · refine lv_tableOut (tgt := 91) hx hb dX2_count_1 (tab_out8 c_1 c_2 c_3 c_4 c_5 c_6 c_7 c_8) (by decide) ?_
                  refine lv_bipush (v := -2) hx hb dX2_count_91 (by decide) ?_
                  exact r_int cx hr hlk (by rw [f_X2_count, if_neg c_1, if_neg c_2, if_neg c_3, if_neg c_4, if_neg c_5, if_neg c_6, if_neg c_7, if_neg c_8]) dX2_count_93
def r_X3_unsettled (S : St) : Nat → Nat → Int32 → Int32
  | 0, k, z => z
  | q + 1, k, z => if ar S 18 k = 0 then r_X3_unsettled S q (k + 1) (z + 1)
    else r_X3_unsettled S q (k + 1) (z + 0)
def f_X3_unsettled (S : St) : Int32 :=
  r_X3_unsettled S (nr S) 0 0
set_option maxRecDepth 20000 in
theorem c_X3_unsettled (l : Launch) (G : GG) (ad : Nat → Nat) (S : St) (hW : WF S)  : MR l yX3_unsettled cX3_unsettled 3 (some .int) 0 0 G ad (cM G ad S) [.ref (ad 0)] (some (.int (f_X3_unsettled S))) := by
  refine MR.of [(0, .ref (ad 0))] (by decide) (Nat.le_of_ble_eq_true rfl) rfl ?_
  intro p e s m args below meth c cx hr hlk hP ls hl
  have hx := cx.1.1
  have hb := cx.1.2.1
  refine lv_iconst (v := 0) hx hb dX3_unsettled_0 (by decide) ?_
  refine lv_istore_n (lv' := [(1, .int 0), (0, .ref (ad 0))]) hx hb dX3_unsettled_1 rfl hl (by decide) rfl (fun ls hl => ?_)
  refine lv_iconst (v := 0) hx hb dX3_unsettled_2 (by decide) ?_
  refine lv_istore_n (lv' := [(2, .int 0), (1, .int 0), (0, .ref (ad 0))]) hx hb dX3_unsettled_3 rfl hl (by decide) rfl (fun ls hl => ?_)
  rw [show f_X3_unsettled S = r_X3_unsettled S (nr S) 0 0 from by rw [f_X3_unsettled]]
  have lp : ∀ (q k : Nat) (z : Int32), k + q = nr S → ∀ ls : Array Slot, lv_has ls 3 [(2, .int (nI k)), (1, .int z), (0, .ref (ad 0))] → W p l e (rmM 0 0 0 0) s m args below meth c s.heap [] 0 0 (MQ below (Rd (some (.int (r_X3_unsettled S q k z)))) args s 0 0 (fun _ => False)) (F0 m 4 ls []) := by
    intro q
    induction q with
    | zero =>
      intro k z hk ls hl
      have hk2 : k = nr S := by omega
      subst hk2
      refine lv_iload_n hx hb dX3_unsettled_4 rfl (lv_at hl 0 rfl) ?_
      refine lv_aload_n hx hb dX3_unsettled_5 rfl (lv_at hl 2 rfl) ?_
      refine w_get cx (ci := 3) rfl iX3 (hP _ _ cM_0) 15 (by decide) k_466 (v := .int (nI (nr S))) rfl dX3_unsettled_6 ?_
      refine lv_icmp_ge (tgt := 35) hx hb dX3_unsettled_9 (by decide) (fun c_1 => ?_) (fun c_1 => ?_)
      · refine lv_iload_n hx hb dX3_unsettled_35 rfl (lv_at hl 1 rfl) ?_
        exact r_int cx hr hlk (by rw [r_X3_unsettled]) dX3_unsettled_36
      · exact absurd (Int32.le_refl _) c_1
    | succ q ih =>
      intro k z hk1 ls hl
      have hk : k < nr S := by omega
      refine lv_iload_n hx hb dX3_unsettled_4 rfl (lv_at hl 0 rfl) ?_
      refine lv_aload_n hx hb dX3_unsettled_5 rfl (lv_at hl 2 rfl) ?_
      refine w_get cx (ci := 3) rfl iX3 (hP _ _ cM_0) 15 (by decide) k_466 (v := .int (nI (nr S))) rfl dX3_unsettled_6 ?_
      refine lv_icmp_ge (tgt := 35) hx hb dX3_unsettled_9 (by decide) (fun c_2 => ?_) (fun c_2 => ?_)
      · exact absurd c_2 (nI_ge (b := nr S) hk (Nat.lt_of_le_of_lt hW.r (by decide)))
      · refine lv_iload_n hx hb dX3_unsettled_12 rfl (lv_at hl 1 rfl) ?_
        refine lv_aload_n hx hb dX3_unsettled_13 rfl (lv_at hl 2 rfl) ?_
        refine w_get cx (ci := 3) rfl iX3 (hP _ _ cM_0) 21 (by decide) k_472 (v := .ref (ad 19)) rfl dX3_unsettled_14 ?_
        refine lv_iload_n hx hb dX3_unsettled_17 rfl (lv_at hl 0 rfl) ?_
        refine w_zald cx (hP _ _ (cM_A (n := 300) 18 (by decide) rfl rfl)) k rfl (Nat.lt_of_lt_of_le hk hW.r) (by decide) dX3_unsettled_18 ?_
        refine lv_if_eq (tgt := 26) hx hb dX3_unsettled_19 (by decide) (fun c_3 => ?_) (fun c_3 => ?_)
        · refine lv_iconst (v := 1) hx hb dX3_unsettled_26 (by decide) ?_
          refine lv_iadd hx hb dX3_unsettled_27 ?_
          refine lv_istore_n (lv' := [(1, .int (z + 1)), (2, .int (nI k)), (0, .ref (ad 0))]) hx hb dX3_unsettled_28 rfl hl (by decide) rfl (fun ls hl => ?_)
          refine lv_iinc (v := nI (k + 1)) (lv' := [(2, .int (nI (k + 1))), (1, .int (z + 1)), (0, .ref (ad 0))]) hx hb dX3_unsettled_29 hl (k := 1) rfl (by rw [nI_succ]; rfl) (by decide) rfl (fun ls hl => ?_)
          refine lv_goto (tgt := 4) hx hb dX3_unsettled_32 (by decide) ?_
          rw [show r_X3_unsettled S (q + 1) k z = r_X3_unsettled S q (k + 1) (z + 1) from by rw [r_X3_unsettled, if_pos c_3]]
          exact ih (k + 1) (z + 1) (by omega) ls (lv_sub hl [0, 1, 2] rfl)
        · refine lv_iconst (v := 0) hx hb dX3_unsettled_22 (by decide) ?_
          refine lv_goto (tgt := 27) hx hb dX3_unsettled_23 (by decide) ?_
          refine lv_iadd hx hb dX3_unsettled_27 ?_
          refine lv_istore_n (lv' := [(1, .int (z + 0)), (2, .int (nI k)), (0, .ref (ad 0))]) hx hb dX3_unsettled_28 rfl hl (by decide) rfl (fun ls hl => ?_)
          refine lv_iinc (v := nI (k + 1)) (lv' := [(2, .int (nI (k + 1))), (1, .int (z + 0)), (0, .ref (ad 0))]) hx hb dX3_unsettled_29 hl (k := 1) rfl (by rw [nI_succ]; rfl) (by decide) rfl (fun ls hl => ?_)
          refine lv_goto (tgt := 4) hx hb dX3_unsettled_32 (by decide) ?_
          rw [show r_X3_unsettled S (q + 1) k z = r_X3_unsettled S q (k + 1) (z + 0) from by rw [r_X3_unsettled, if_neg c_3]]
          exact ih (k + 1) (z + 0) (by omega) ls (lv_sub hl [0, 1, 2] rfl)
  exact lp (nr S) 0 0 (Nat.zero_add _) ls hl
set_option maxRecDepth 20000 in
theorem c_X2_chain_out (l : Launch) (G : GG) (ad : Nat → Nat) (S : St) (E : Ex) (hW : WF S) {n : Int32} (hn : nT S n) (x : Int32) : MR l yX2_chain cX2_chain 6 (some .int) 2 43 G ad (cX G ad S E) [.ref (ad 0), .int n, .int x] (some (.int (-1))) := by
  refine MR.of [(0, .ref (ad 0)), (1, .int n), (2, .int x)] (by decide) (Nat.le_of_ble_eq_true rfl) rfl ?_
  intro p e s m args below meth c cx hr hlk hP ls hl
  have hx := cx.1.1
  have hb := cx.1.2.1
  refine lv_aload_n hx hb dX2_chain_0 rfl (lv_at hl 0 rfl) ?_
  refine lv_iload_n hx hb dX2_chain_1 rfl (lv_at hl 1 rfl) ?_
  refine w_callV (As := [.int n]) (rest := []) (st := [.null]) cx (c_X2_thingAt_out l G ad S E hW hn) k_149 cal_yX2_thingAt (ci := 2) rfl (hP _ _ (cX_lo 0 (by decide) rfl)) hP rfl ⟨Nat.le_of_ble_eq_true rfl, Nat.le_of_ble_eq_true rfl⟩ hl.1 (Nat.le_of_ble_eq_true rfl) ⟨Nat.zero_le _, Nat.zero_le _⟩ rfl rfl dX2_chain_2 ?_
  refine lv_astore_nN (lv' := [(3, .null), (0, .ref (ad 0)), (1, .int n), (2, .int x)]) hx hb dX2_chain_5 rfl hl (by decide) rfl (fun ls hl => ?_)
  refine lv_aload_nN hx hb dX2_chain_6 rfl (lv_at hl 0 rfl) ?_
  refine lv_ifnonnullN hx hb dX2_chain_7 ?_
  refine lv_iconst (v := -1) hx hb dX2_chain_10 (by decide) ?_
  exact r_int cx hr hlk rfl dX2_chain_11
set_option maxRecDepth 20000 in
theorem c_X2_chain_far (l : Launch) (G : GG) (ad : Nat → Nat) (S : St) (E : Ex) (hW : WF S) {i : Nat} (hi : i < nt S) {x : Int32} (hx0 : f_X2_isWithin x 0 299 = 0) : MR l yX2_chain cX2_chain 6 (some .int) 2 43 G ad (cX G ad S E) [.ref (ad 0), .int (nI i), .int x] (some (.int (-1000000))) := by
  refine MR.of [(0, .ref (ad 0)), (1, .int (nI i)), (2, .int x)] (by decide) (Nat.le_of_ble_eq_true rfl) rfl ?_
  intro p e s m args below meth c cx hr hlk hP ls hl
  have hx := cx.1.1
  have hb := cx.1.2.1
  refine lv_aload_n hx hb dX2_chain_0 rfl (lv_at hl 0 rfl) ?_
  refine lv_iload_n hx hb dX2_chain_1 rfl (lv_at hl 1 rfl) ?_
  refine w_callV (As := [.int (nI i)]) (rest := []) (st := [.ref (ad (10 + 2 * i))]) cx (c_X2_thingAt_in l G ad S E hW hi) k_149 cal_yX2_thingAt (ci := 2) rfl (hP _ _ (cX_lo 0 (by decide) rfl)) hP rfl ⟨Nat.le_of_ble_eq_true rfl, Nat.le_of_ble_eq_true rfl⟩ hl.1 (Nat.le_of_ble_eq_true rfl) ⟨Nat.zero_le _, Nat.zero_le _⟩ rfl rfl dX2_chain_2 ?_
  refine lv_astore_n (lv' := [(3, .ref (ad (10 + 2 * i))), (0, .ref (ad 0)), (1, .int (nI i)), (2, .int x)]) hx hb dX2_chain_5 rfl hl (by decide) rfl (fun ls hl => ?_)
  refine lv_aload_n hx hb dX2_chain_6 rfl (lv_at hl 0 rfl) ?_
  refine lv_ifnonnull (tgt := 12) hx hb dX2_chain_7 (by decide) ?_
  refine lv_iload_n hx hb dX2_chain_12 rfl (lv_at hl 3 rfl) ?_
  refine lv_iconst (v := 0) hx hb dX2_chain_13 (by decide) ?_
  refine lv_sipush (v := 299) hx hb dX2_chain_14 (by decide) ?_
  refine w_callS (As := [.int x, .int 0, .int 299]) (rest := []) (st := [.int (f_X2_isWithin x 0 299)]) cx (c_X2_isWithin l G ad _ x 0 299) k_91 cal_yX2_isWithin hP rfl ⟨Nat.le_of_ble_eq_true rfl, Nat.le_of_ble_eq_true rfl⟩ hl.1 (Nat.le_of_ble_eq_true rfl) ⟨Nat.zero_le _, Nat.zero_le _⟩ rfl rfl dX2_chain_17 ?_
  refine lv_if_ne (tgt := 26) hx hb dX2_chain_20 (by decide) (fun c_1 => ?_) (fun c_1 => ?_)
  · exact absurd hx0 c_1
  · refine w_ldc cx k_156 dX2_chain_23 ?_
    exact r_int cx hr hlk rfl dX2_chain_25
def r_X2_chain (S : St) : Nat → Nat → Int32 → Int32
  | 0, k, z => if z = -1000000 then (-1000000)
    else nI (ix z)
  | q + 1, k, z => if z = -1000000 then (-1000000)
    else if ar S 20 (ix z) = -1000000 then r_X2_chain S q (k + 1) (ar S 20 (ix z))
    else r_X2_chain S q (k + 1) (ar S 20 (ix z))
def f_X2_chain (S : St) (i cn : Nat) : Int32 :=
  if ar S 5 i = -1000000 then r_X2_chain S (cn) 0 (ar S 5 i)
  else r_X2_chain S (cn) 0 (ar S 5 i)
set_option maxRecDepth 20000 in
theorem c_X2_chain (l : Launch) (G : GG) (ad : Nat → Nat) (S : St) (E : Ex) (hW : WF S) (hBa : WB S) {i : Nat} (hi : i < nt S) {cn : Nat} (hc : cn < 300) : MR l yX2_chain cX2_chain 6 (some .int) 2 43 G ad (cX G ad S E) [.ref (ad 0), .int (nI i), .int (nI cn)] (some (.int (f_X2_chain S i cn))) := by
  refine MR.of [(0, .ref (ad 0)), (1, .int (nI i)), (2, .int (nI cn))] (by decide) (Nat.le_of_ble_eq_true rfl) rfl ?_
  intro p e s m args below meth c cx hr hlk hP ls hl
  have hx := cx.1.1
  have hb := cx.1.2.1
  refine lv_aload_n hx hb dX2_chain_0 rfl (lv_at hl 0 rfl) ?_
  refine lv_iload_n hx hb dX2_chain_1 rfl (lv_at hl 1 rfl) ?_
  refine w_callV (As := [.int (nI i)]) (rest := []) (st := [.ref (ad (10 + 2 * i))]) cx (c_X2_thingAt_in l G ad S E hW hi) k_149 cal_yX2_thingAt (ci := 2) rfl (hP _ _ (cX_lo 0 (by decide) rfl)) hP rfl ⟨Nat.le_of_ble_eq_true rfl, Nat.le_of_ble_eq_true rfl⟩ hl.1 (Nat.le_of_ble_eq_true rfl) ⟨Nat.zero_le _, Nat.zero_le _⟩ rfl rfl dX2_chain_2 ?_
  refine lv_astore_n (lv' := [(3, .ref (ad (10 + 2 * i))), (0, .ref (ad 0)), (1, .int (nI i)), (2, .int (nI cn))]) hx hb dX2_chain_5 rfl hl (by decide) rfl (fun ls hl => ?_)
  refine lv_aload_n hx hb dX2_chain_6 rfl (lv_at hl 0 rfl) ?_
  refine lv_ifnonnull (tgt := 12) hx hb dX2_chain_7 (by decide) ?_
  refine lv_iload_n hx hb dX2_chain_12 rfl (lv_at hl 3 rfl) ?_
  refine lv_iconst (v := 0) hx hb dX2_chain_13 (by decide) ?_
  refine lv_sipush (v := 299) hx hb dX2_chain_14 (by decide) ?_
  refine w_callS (As := [.int (nI cn), .int 0, .int 299]) (rest := []) (st := [.int (f_X2_isWithin (nI cn) 0 299)]) cx (c_X2_isWithin l G ad _ (nI cn) 0 299) k_91 cal_yX2_isWithin hP rfl ⟨Nat.le_of_ble_eq_true rfl, Nat.le_of_ble_eq_true rfl⟩ hl.1 (Nat.le_of_ble_eq_true rfl) ⟨Nat.zero_le _, Nat.zero_le _⟩ rfl rfl dX2_chain_17 ?_
  refine lv_if_ne (tgt := 26) hx hb dX2_chain_20 (by decide) (fun c_1 => ?_) (fun c_1 => ?_)
  · refine lv_aload_n hx hb dX2_chain_26 rfl (lv_at hl 0 rfl) ?_
    by_cases c_2 : ar S 5 i = -1000000
    · refine w_get cx (ci := 0) rfl iX0 (hP _ _ (cX_T hi hW.t)) 9 (by decide) k_122 (v := .null) (congrArg some (rT_null c_2)) dX2_chain_27 ?_
      refine lv_astoreN (lv' := [(4, .null), (3, .ref (ad (10 + 2 * i))), (0, .ref (ad 0)), (1, .int (nI i)), (2, .int (nI cn))]) hx hb dX2_chain_30 hl (by decide) rfl (fun ls hl => ?_)
      refine lv_iconst (v := 0) hx hb dX2_chain_32 (by decide) ?_
      refine lv_istore (lv' := [(5, .int 0), (4, .null), (3, .ref (ad (10 + 2 * i))), (0, .ref (ad 0)), (1, .int (nI i)), (2, .int (nI cn))]) hx hb dX2_chain_33 hl (by decide) rfl (fun ls hl => ?_)
      rw [show f_X2_chain S i cn = r_X2_chain S (cn) 0 (ar S 5 i) from by rw [f_X2_chain, if_pos c_2]]
      have lp : ∀ (q k : Nat) (z : Int32), (¬ z = -1000000 → okx z (nr S)) → k + q = cn → ∀ ls : Array Slot, lv_has ls 6 [(5, .int (nI k)), (4, rT ad z), (3, .ref (ad (10 + 2 * i))), (0, .ref (ad 0)), (1, .int (nI i)), (2, .int (nI cn))] → W p l e (rmM 2 43 0 0) s m args below meth c s.heap [] 0 0 (MQ below (Rd (some (.int (r_X2_chain S q k z)))) args s 0 0 (fun _ => False)) (F0 m 35 ls []) := by
        intro q
        induction q with
        | zero =>
          intro k z hz hk ls hl
          have hk2 : k = cn := by omega
          subst hk2
          refine lv_iload hx hb dX2_chain_35 (lv_at hl 0 rfl) ?_
          refine lv_iload_n hx hb dX2_chain_37 rfl (lv_at hl 5 rfl) ?_
          refine lv_icmp_ge (tgt := 59) hx hb dX2_chain_38 (by decide) (fun c_3 => ?_) (fun c_3 => ?_)
          · by_cases c_4 : z = -1000000
            · rw [rT_null c_4] at hl
              refine lv_aloadN hx hb dX2_chain_59 (lv_at hl 1 rfl) ?_
              refine w_callS (As := [.null]) (rest := []) (st := [.int ((-1000000))]) cx (c_X2_numberOf_n l G ad S E hW) k_153 cal_yX2_numberOf hP rfl ⟨Nat.le_of_ble_eq_true rfl, Nat.le_of_ble_eq_true rfl⟩ hl.1 (Nat.le_of_ble_eq_true rfl) ⟨Nat.zero_le _, Nat.zero_le _⟩ rfl rfl dX2_chain_61 ?_
              exact r_int cx hr hlk (by rw [r_X2_chain, if_pos c_4]) dX2_chain_64
            · rw [rT_ref c_4] at hl
              refine lv_aload hx hb dX2_chain_59 (lv_at hl 1 rfl) ?_
              refine w_callS (As := [.ref (ad (100 + ix z))]) (rest := []) (st := [.int (nI (ix z))]) cx (c_X2_numberOf_r l G ad S E hW (n := ix z) (hz c_4).2) k_153 cal_yX2_numberOf hP rfl ⟨Nat.le_of_ble_eq_true rfl, Nat.le_of_ble_eq_true rfl⟩ hl.1 (Nat.le_of_ble_eq_true rfl) ⟨Nat.zero_le _, Nat.zero_le _⟩ rfl rfl dX2_chain_61 ?_
              exact r_int cx hr hlk (by rw [r_X2_chain, if_neg c_4]) dX2_chain_64
          · exact absurd (Int32.le_refl _) c_3
        | succ q ih =>
          intro k z hz hk1 ls hl
          have hk : k < cn := by omega
          refine lv_iload hx hb dX2_chain_35 (lv_at hl 0 rfl) ?_
          refine lv_iload_n hx hb dX2_chain_37 rfl (lv_at hl 5 rfl) ?_
          refine lv_icmp_ge (tgt := 59) hx hb dX2_chain_38 (by decide) (fun c_5 => ?_) (fun c_5 => ?_)
          · exact absurd c_5 (nI_ge (b := cn) hk (by omega))
          · by_cases c_6 : z = -1000000
            · rw [rT_null c_6] at hl
              refine lv_aloadN hx hb dX2_chain_41 (lv_at hl 1 rfl) ?_
              refine lv_ifnullN (tgt := 59) hx hb dX2_chain_43 (by decide) ?_
              refine lv_aloadN hx hb dX2_chain_59 (lv_at hl 1 rfl) ?_
              refine w_callS (As := [.null]) (rest := []) (st := [.int ((-1000000))]) cx (c_X2_numberOf_n l G ad S E hW) k_153 cal_yX2_numberOf hP rfl ⟨Nat.le_of_ble_eq_true rfl, Nat.le_of_ble_eq_true rfl⟩ hl.1 (Nat.le_of_ble_eq_true rfl) ⟨Nat.zero_le _, Nat.zero_le _⟩ rfl rfl dX2_chain_61 ?_
              exact r_int cx hr hlk (by rw [r_X2_chain, if_pos c_6]) dX2_chain_64
            · rw [rT_ref c_6] at hl
              refine lv_aload hx hb dX2_chain_41 (lv_at hl 1 rfl) ?_
              refine lv_ifnull hx hb dX2_chain_43 ?_
              refine lv_aload hx hb dX2_chain_46 (lv_at hl 1 rfl) ?_
              by_cases c_7 : ar S 20 (ix z) = -1000000
              · refine w_get cx (ci := 1) rfl iX1 (hP _ _ (cX_R (hz c_6).2)) 3 (by decide) k_252 (v := .null) (congrArg some (rT_null c_7)) dX2_chain_48 ?_
                refine lv_astoreN (lv' := [(4, .null), (5, .int (nI k)), (3, .ref (ad (10 + 2 * i))), (0, .ref (ad 0)), (1, .int (nI i)), (2, .int (nI cn))]) hx hb dX2_chain_51 hl (by decide) rfl (fun ls hl => ?_)
                refine lv_iinc (v := nI (k + 1)) (lv' := [(5, .int (nI (k + 1))), (4, .null), (3, .ref (ad (10 + 2 * i))), (0, .ref (ad 0)), (1, .int (nI i)), (2, .int (nI cn))]) hx hb dX2_chain_53 hl (k := 1) rfl (by rw [nI_succ]; rfl) (by decide) rfl (fun ls hl => ?_)
                refine lv_goto (tgt := 35) hx hb dX2_chain_56 (by decide) ?_
                rw [show r_X2_chain S (q + 1) k z = r_X2_chain S q (k + 1) (ar S 20 (ix z)) from by rw [r_X2_chain, if_neg c_6, if_pos c_7]]
                exact ih (k + 1) (ar S 20 (ix z)) (fun h' => ⟨(hBa.ba (hz c_6).2 h').1, Nat.lt_trans (hBa.ba (hz c_6).2 h').2 (hz c_6).2⟩) (by omega) ls (by rw [rT_null c_7]; exact lv_sub hl [0, 1, 2, 3, 4, 5] rfl)
              · refine w_get cx (ci := 1) rfl iX1 (hP _ _ (cX_R (hz c_6).2)) 3 (by decide) k_252 (v := .ref (ad (100 + ix (ar S 20 (ix z))))) (congrArg some (rT_ref c_7)) dX2_chain_48 ?_
                refine lv_astore (lv' := [(4, .ref (ad (100 + ix (ar S 20 (ix z))))), (5, .int (nI k)), (3, .ref (ad (10 + 2 * i))), (0, .ref (ad 0)), (1, .int (nI i)), (2, .int (nI cn))]) hx hb dX2_chain_51 hl (by decide) rfl (fun ls hl => ?_)
                refine lv_iinc (v := nI (k + 1)) (lv' := [(5, .int (nI (k + 1))), (4, .ref (ad (100 + ix (ar S 20 (ix z))))), (3, .ref (ad (10 + 2 * i))), (0, .ref (ad 0)), (1, .int (nI i)), (2, .int (nI cn))]) hx hb dX2_chain_53 hl (k := 1) rfl (by rw [nI_succ]; rfl) (by decide) rfl (fun ls hl => ?_)
                refine lv_goto (tgt := 35) hx hb dX2_chain_56 (by decide) ?_
                rw [show r_X2_chain S (q + 1) k z = r_X2_chain S q (k + 1) (ar S 20 (ix z)) from by rw [r_X2_chain, if_neg c_6, if_neg c_7]]
                exact ih (k + 1) (ar S 20 (ix z)) (fun h' => ⟨(hBa.ba (hz c_6).2 h').1, Nat.lt_trans (hBa.ba (hz c_6).2 h').2 (hz c_6).2⟩) (by omega) ls (by rw [rT_ref c_7]; exact lv_sub hl [0, 1, 2, 3, 4, 5] rfl)
      exact lp (cn) 0 (ar S 5 i) (hW.la hi) (Nat.zero_add _) ls (by rw [rT_null c_2]; exact hl)
    · refine w_get cx (ci := 0) rfl iX0 (hP _ _ (cX_T hi hW.t)) 9 (by decide) k_122 (v := .ref (ad (100 + ix (ar S 5 i)))) (congrArg some (rT_ref c_2)) dX2_chain_27 ?_
      refine lv_astore (lv' := [(4, .ref (ad (100 + ix (ar S 5 i)))), (3, .ref (ad (10 + 2 * i))), (0, .ref (ad 0)), (1, .int (nI i)), (2, .int (nI cn))]) hx hb dX2_chain_30 hl (by decide) rfl (fun ls hl => ?_)
      refine lv_iconst (v := 0) hx hb dX2_chain_32 (by decide) ?_
      refine lv_istore (lv' := [(5, .int 0), (4, .ref (ad (100 + ix (ar S 5 i)))), (3, .ref (ad (10 + 2 * i))), (0, .ref (ad 0)), (1, .int (nI i)), (2, .int (nI cn))]) hx hb dX2_chain_33 hl (by decide) rfl (fun ls hl => ?_)
      rw [show f_X2_chain S i cn = r_X2_chain S (cn) 0 (ar S 5 i) from by rw [f_X2_chain, if_neg c_2]]
      have lp : ∀ (q k : Nat) (z : Int32), (¬ z = -1000000 → okx z (nr S)) → k + q = cn → ∀ ls : Array Slot, lv_has ls 6 [(5, .int (nI k)), (4, rT ad z), (3, .ref (ad (10 + 2 * i))), (0, .ref (ad 0)), (1, .int (nI i)), (2, .int (nI cn))] → W p l e (rmM 2 43 0 0) s m args below meth c s.heap [] 0 0 (MQ below (Rd (some (.int (r_X2_chain S q k z)))) args s 0 0 (fun _ => False)) (F0 m 35 ls []) := by
        intro q
        induction q with
        | zero =>
          intro k z hz hk ls hl
          have hk2 : k = cn := by omega
          subst hk2
          refine lv_iload hx hb dX2_chain_35 (lv_at hl 0 rfl) ?_
          refine lv_iload_n hx hb dX2_chain_37 rfl (lv_at hl 5 rfl) ?_
          refine lv_icmp_ge (tgt := 59) hx hb dX2_chain_38 (by decide) (fun c_8 => ?_) (fun c_8 => ?_)
          · by_cases c_9 : z = -1000000
            · rw [rT_null c_9] at hl
              refine lv_aloadN hx hb dX2_chain_59 (lv_at hl 1 rfl) ?_
              refine w_callS (As := [.null]) (rest := []) (st := [.int ((-1000000))]) cx (c_X2_numberOf_n l G ad S E hW) k_153 cal_yX2_numberOf hP rfl ⟨Nat.le_of_ble_eq_true rfl, Nat.le_of_ble_eq_true rfl⟩ hl.1 (Nat.le_of_ble_eq_true rfl) ⟨Nat.zero_le _, Nat.zero_le _⟩ rfl rfl dX2_chain_61 ?_
              exact r_int cx hr hlk (by rw [r_X2_chain, if_pos c_9]) dX2_chain_64
            · rw [rT_ref c_9] at hl
              refine lv_aload hx hb dX2_chain_59 (lv_at hl 1 rfl) ?_
              refine w_callS (As := [.ref (ad (100 + ix z))]) (rest := []) (st := [.int (nI (ix z))]) cx (c_X2_numberOf_r l G ad S E hW (n := ix z) (hz c_9).2) k_153 cal_yX2_numberOf hP rfl ⟨Nat.le_of_ble_eq_true rfl, Nat.le_of_ble_eq_true rfl⟩ hl.1 (Nat.le_of_ble_eq_true rfl) ⟨Nat.zero_le _, Nat.zero_le _⟩ rfl rfl dX2_chain_61 ?_
              exact r_int cx hr hlk (by rw [r_X2_chain, if_neg c_9]) dX2_chain_64
          · exact absurd (Int32.le_refl _) c_8
        | succ q ih =>
          intro k z hz hk1 ls hl
          have hk : k < cn := by omega
          refine lv_iload hx hb dX2_chain_35 (lv_at hl 0 rfl) ?_
          refine lv_iload_n hx hb dX2_chain_37 rfl (lv_at hl 5 rfl) ?_
          refine lv_icmp_ge (tgt := 59) hx hb dX2_chain_38 (by decide) (fun c_10 => ?_) (fun c_10 => ?_)
          · exact absurd c_10 (nI_ge (b := cn) hk (by omega))
          · by_cases c_11 : z = -1000000
            · rw [rT_null c_11] at hl
              refine lv_aloadN hx hb dX2_chain_41 (lv_at hl 1 rfl) ?_
              refine lv_ifnullN (tgt := 59) hx hb dX2_chain_43 (by decide) ?_
              refine lv_aloadN hx hb dX2_chain_59 (lv_at hl 1 rfl) ?_
              refine w_callS (As := [.null]) (rest := []) (st := [.int ((-1000000))]) cx (c_X2_numberOf_n l G ad S E hW) k_153 cal_yX2_numberOf hP rfl ⟨Nat.le_of_ble_eq_true rfl, Nat.le_of_ble_eq_true rfl⟩ hl.1 (Nat.le_of_ble_eq_true rfl) ⟨Nat.zero_le _, Nat.zero_le _⟩ rfl rfl dX2_chain_61 ?_
              exact r_int cx hr hlk (by rw [r_X2_chain, if_pos c_11]) dX2_chain_64
            · rw [rT_ref c_11] at hl
              refine lv_aload hx hb dX2_chain_41 (lv_at hl 1 rfl) ?_
              refine lv_ifnull hx hb dX2_chain_43 ?_
              refine lv_aload hx hb dX2_chain_46 (lv_at hl 1 rfl) ?_
              by_cases c_12 : ar S 20 (ix z) = -1000000
              · refine w_get cx (ci := 1) rfl iX1 (hP _ _ (cX_R (hz c_11).2)) 3 (by decide) k_252 (v := .null) (congrArg some (rT_null c_12)) dX2_chain_48 ?_
                refine lv_astoreN (lv' := [(4, .null), (5, .int (nI k)), (3, .ref (ad (10 + 2 * i))), (0, .ref (ad 0)), (1, .int (nI i)), (2, .int (nI cn))]) hx hb dX2_chain_51 hl (by decide) rfl (fun ls hl => ?_)
                refine lv_iinc (v := nI (k + 1)) (lv' := [(5, .int (nI (k + 1))), (4, .null), (3, .ref (ad (10 + 2 * i))), (0, .ref (ad 0)), (1, .int (nI i)), (2, .int (nI cn))]) hx hb dX2_chain_53 hl (k := 1) rfl (by rw [nI_succ]; rfl) (by decide) rfl (fun ls hl => ?_)
                refine lv_goto (tgt := 35) hx hb dX2_chain_56 (by decide) ?_
                rw [show r_X2_chain S (q + 1) k z = r_X2_chain S q (k + 1) (ar S 20 (ix z)) from by rw [r_X2_chain, if_neg c_11, if_pos c_12]]
                exact ih (k + 1) (ar S 20 (ix z)) (fun h' => ⟨(hBa.ba (hz c_11).2 h').1, Nat.lt_trans (hBa.ba (hz c_11).2 h').2 (hz c_11).2⟩) (by omega) ls (by rw [rT_null c_12]; exact lv_sub hl [0, 1, 2, 3, 4, 5] rfl)
              · refine w_get cx (ci := 1) rfl iX1 (hP _ _ (cX_R (hz c_11).2)) 3 (by decide) k_252 (v := .ref (ad (100 + ix (ar S 20 (ix z))))) (congrArg some (rT_ref c_12)) dX2_chain_48 ?_
                refine lv_astore (lv' := [(4, .ref (ad (100 + ix (ar S 20 (ix z))))), (5, .int (nI k)), (3, .ref (ad (10 + 2 * i))), (0, .ref (ad 0)), (1, .int (nI i)), (2, .int (nI cn))]) hx hb dX2_chain_51 hl (by decide) rfl (fun ls hl => ?_)
                refine lv_iinc (v := nI (k + 1)) (lv' := [(5, .int (nI (k + 1))), (4, .ref (ad (100 + ix (ar S 20 (ix z))))), (3, .ref (ad (10 + 2 * i))), (0, .ref (ad 0)), (1, .int (nI i)), (2, .int (nI cn))]) hx hb dX2_chain_53 hl (k := 1) rfl (by rw [nI_succ]; rfl) (by decide) rfl (fun ls hl => ?_)
                refine lv_goto (tgt := 35) hx hb dX2_chain_56 (by decide) ?_
                rw [show r_X2_chain S (q + 1) k z = r_X2_chain S q (k + 1) (ar S 20 (ix z)) from by rw [r_X2_chain, if_neg c_11, if_neg c_12]]
                exact ih (k + 1) (ar S 20 (ix z)) (fun h' => ⟨(hBa.ba (hz c_11).2 h').1, Nat.lt_trans (hBa.ba (hz c_11).2 h').2 (hz c_11).2⟩) (by omega) ls (by rw [rT_ref c_12]; exact lv_sub hl [0, 1, 2, 3, 4, 5] rfl)
      exact lp (cn) 0 (ar S 5 i) (hW.la hi) (Nat.zero_add _) ls (by rw [rT_ref c_2]; exact hl)
  · exact absurd c_1 (nI_within (a := 0) (b := 299) (Nat.zero_le _) (by omega) (by decide))
set_option maxRecDepth 20000 in
theorem c_X3_chain_out (l : Launch) (G : GG) (ad : Nat → Nat) (S : St) (hW : WF S) {n : Int32} (hn : nT S n) (x : Int32) : MR l yX3_chain cX3_chain 5 (some .int) 2 43 G ad (cM G ad S) [.ref (ad 0), .int n, .int x] (some (.int (-1))) := by
  refine MR.of [(0, .ref (ad 0)), (1, .int n), (2, .int x)] (by decide) (Nat.le_of_ble_eq_true rfl) rfl ?_
  intro p e s m args below meth c cx hr hlk hP ls hl
  have hx := cx.1.1
  have hb := cx.1.2.1
  refine lv_aload_n hx hb dX3_chain_0 rfl (lv_at hl 0 rfl) ?_
  refine lv_iload_n hx hb dX3_chain_1 rfl (lv_at hl 1 rfl) ?_
  refine w_callV (As := [.int n]) (rest := []) (st := [.int 0]) cx (c_X3_isThing_out l G ad S hW hn) k_553 cal_yX3_isThing (ci := 3) rfl (hP _ _ cM_0) hP rfl ⟨Nat.le_of_ble_eq_true rfl, Nat.le_of_ble_eq_true rfl⟩ hl.1 (Nat.le_of_ble_eq_true rfl) ⟨Nat.zero_le _, Nat.zero_le _⟩ rfl rfl dX3_chain_2 ?_
  refine lv_if_ne (tgt := 10) hx hb dX3_chain_5 (by decide) (fun c_1 => ?_) (fun c_1 => ?_)
  · exact absurd (by decide) c_1
  · refine lv_iconst (v := -1) hx hb dX3_chain_8 (by decide) ?_
    exact r_int cx hr hlk rfl dX3_chain_9
set_option maxRecDepth 20000 in
theorem c_X3_chain_neg (l : Launch) (G : GG) (ad : Nat → Nat) (S : St) (hW : WF S) {i : Nat} (hi : i < nt S) {x : Int32} (hx0 : x < 0) : MR l yX3_chain cX3_chain 5 (some .int) 2 43 G ad (cM G ad S) [.ref (ad 0), .int (nI i), .int x] (some (.int (-1000000))) := by
  refine MR.of [(0, .ref (ad 0)), (1, .int (nI i)), (2, .int x)] (by decide) (Nat.le_of_ble_eq_true rfl) rfl ?_
  intro p e s m args below meth c cx hr hlk hP ls hl
  have hx := cx.1.1
  have hb := cx.1.2.1
  refine lv_aload_n hx hb dX3_chain_0 rfl (lv_at hl 0 rfl) ?_
  refine lv_iload_n hx hb dX3_chain_1 rfl (lv_at hl 1 rfl) ?_
  refine w_callV (As := [.int (nI i)]) (rest := []) (st := [.int 1]) cx (c_X3_isThing_in l G ad S hW hi) k_553 cal_yX3_isThing (ci := 3) rfl (hP _ _ cM_0) hP rfl ⟨Nat.le_of_ble_eq_true rfl, Nat.le_of_ble_eq_true rfl⟩ hl.1 (Nat.le_of_ble_eq_true rfl) ⟨Nat.zero_le _, Nat.zero_le _⟩ rfl rfl dX3_chain_2 ?_
  refine lv_if_ne (tgt := 10) hx hb dX3_chain_5 (by decide) (fun c_1 => ?_) (fun c_1 => ?_)
  · refine lv_aload_n hx hb dX3_chain_10 rfl (lv_at hl 0 rfl) ?_
    refine w_get cx (ci := 3) rfl iX3 (hP _ _ cM_0) 7 (by decide) k_458 (v := .ref (ad 6)) rfl dX3_chain_11 ?_
    refine lv_iload_n hx hb dX3_chain_14 rfl (lv_at hl 1 rfl) ?_
    refine w_iald cx (hP _ _ (cM_A (n := 40) 5 (by decide) rfl rfl)) i rfl (Nat.lt_of_lt_of_le hi hW.t) (by decide) dX3_chain_15 ?_
    refine lv_istore_n (lv' := [(3, .int (ar S 5 i)), (0, .ref (ad 0)), (1, .int (nI i)), (2, .int x)]) hx hb dX3_chain_16 rfl hl (by decide) rfl (fun ls hl => ?_)
    refine lv_iconst (v := 0) hx hb dX3_chain_17 (by decide) ?_
    refine lv_istore (lv' := [(4, .int 0), (3, .int (ar S 5 i)), (0, .ref (ad 0)), (1, .int (nI i)), (2, .int x)]) hx hb dX3_chain_18 hl (by decide) rfl (fun ls hl => ?_)
    refine lv_iload hx hb dX3_chain_20 (lv_at hl 0 rfl) ?_
    refine lv_iload_n hx hb dX3_chain_22 rfl (lv_at hl 4 rfl) ?_
    refine lv_icmp_ge (tgt := 45) hx hb dX3_chain_23 (by decide) (fun c_2 => ?_) (fun c_2 => ?_)
    · refine lv_iload_n hx hb dX3_chain_45 rfl (lv_at hl 4 rfl) ?_
      refine lv_if_ge (tgt := 54) hx hb dX3_chain_46 (by decide) (fun c_3 => ?_) (fun c_3 => ?_)
      · exact absurd c_3 (i_neg_nle hx0)
      · refine w_ldc cx k_548 dX3_chain_49 ?_
        refine lv_goto (tgt := 55) hx hb dX3_chain_51 (by decide) ?_
        exact r_int cx hr hlk rfl dX3_chain_55
    · exact absurd (i_neg_le hx0) c_2
  · exact absurd c_1 (by decide)
def r_X3_chain (S : St) : Nat → Nat → Int32 → Int32
  | 0, k, z => z
  | q + 1, k, z => if z = -1000000 then z
    else r_X3_chain S q (k + 1) (ar S 20 (ix z))
def f_X3_chain (S : St) (i cn : Nat) : Int32 :=
  r_X3_chain S (cn) 0 (ar S 5 i)
set_option maxRecDepth 20000 in
theorem c_X3_chain (l : Launch) (G : GG) (ad : Nat → Nat) (S : St) (hW : WF S) (hBa : WB S) {i : Nat} (hi : i < nt S) {cn : Nat} (hc : cn < 2 ^ 31) : MR l yX3_chain cX3_chain 5 (some .int) 2 43 G ad (cM G ad S) [.ref (ad 0), .int (nI i), .int (nI cn)] (some (.int (f_X3_chain S i cn))) := by
  refine MR.of [(0, .ref (ad 0)), (1, .int (nI i)), (2, .int (nI cn))] (by decide) (Nat.le_of_ble_eq_true rfl) rfl ?_
  intro p e s m args below meth c cx hr hlk hP ls hl
  have hx := cx.1.1
  have hb := cx.1.2.1
  refine lv_aload_n hx hb dX3_chain_0 rfl (lv_at hl 0 rfl) ?_
  refine lv_iload_n hx hb dX3_chain_1 rfl (lv_at hl 1 rfl) ?_
  refine w_callV (As := [.int (nI i)]) (rest := []) (st := [.int 1]) cx (c_X3_isThing_in l G ad S hW hi) k_553 cal_yX3_isThing (ci := 3) rfl (hP _ _ cM_0) hP rfl ⟨Nat.le_of_ble_eq_true rfl, Nat.le_of_ble_eq_true rfl⟩ hl.1 (Nat.le_of_ble_eq_true rfl) ⟨Nat.zero_le _, Nat.zero_le _⟩ rfl rfl dX3_chain_2 ?_
  refine lv_if_ne (tgt := 10) hx hb dX3_chain_5 (by decide) (fun c_1 => ?_) (fun c_1 => ?_)
  · refine lv_aload_n hx hb dX3_chain_10 rfl (lv_at hl 0 rfl) ?_
    refine w_get cx (ci := 3) rfl iX3 (hP _ _ cM_0) 7 (by decide) k_458 (v := .ref (ad 6)) rfl dX3_chain_11 ?_
    refine lv_iload_n hx hb dX3_chain_14 rfl (lv_at hl 1 rfl) ?_
    refine w_iald cx (hP _ _ (cM_A (n := 40) 5 (by decide) rfl rfl)) i rfl (Nat.lt_of_lt_of_le hi hW.t) (by decide) dX3_chain_15 ?_
    refine lv_istore_n (lv' := [(3, .int (ar S 5 i)), (0, .ref (ad 0)), (1, .int (nI i)), (2, .int (nI cn))]) hx hb dX3_chain_16 rfl hl (by decide) rfl (fun ls hl => ?_)
    refine lv_iconst (v := 0) hx hb dX3_chain_17 (by decide) ?_
    refine lv_istore (lv' := [(4, .int 0), (3, .int (ar S 5 i)), (0, .ref (ad 0)), (1, .int (nI i)), (2, .int (nI cn))]) hx hb dX3_chain_18 hl (by decide) rfl (fun ls hl => ?_)
    rw [show f_X3_chain S i cn = r_X3_chain S (cn) 0 (ar S 5 i) from by rw [f_X3_chain]]
    have lp : ∀ (q k : Nat) (z : Int32), (¬ z = -1000000 → okx z (nr S)) → k + q = cn → ∀ ls : Array Slot, lv_has ls 5 [(4, .int (nI k)), (3, .int z), (0, .ref (ad 0)), (1, .int (nI i)), (2, .int (nI cn))] → W p l e (rmM 2 43 0 0) s m args below meth c s.heap [] 0 0 (MQ below (Rd (some (.int (r_X3_chain S q k z)))) args s 0 0 (fun _ => False)) (F0 m 20 ls []) := by
      intro q
      induction q with
      | zero =>
        intro k z hz hk ls hl
        have hk2 : k = cn := by omega
        subst hk2
        refine lv_iload hx hb dX3_chain_20 (lv_at hl 0 rfl) ?_
        refine lv_iload_n hx hb dX3_chain_22 rfl (lv_at hl 4 rfl) ?_
        refine lv_icmp_ge (tgt := 45) hx hb dX3_chain_23 (by decide) (fun c_2 => ?_) (fun c_2 => ?_)
        · refine lv_iload_n hx hb dX3_chain_45 rfl (lv_at hl 4 rfl) ?_
          refine lv_if_ge (tgt := 54) hx hb dX3_chain_46 (by decide) (fun c_3 => ?_) (fun c_3 => ?_)
          · refine lv_iload_n hx hb dX3_chain_54 rfl (lv_at hl 1 rfl) ?_
            exact r_int cx hr hlk (by rw [r_X3_chain]) dX3_chain_55
          · exact absurd (nI_pos' hc) c_3
        · exact absurd (Int32.le_refl _) c_2
      | succ q ih =>
        intro k z hz hk1 ls hl
        have hk : k < cn := by omega
        refine lv_iload hx hb dX3_chain_20 (lv_at hl 0 rfl) ?_
        refine lv_iload_n hx hb dX3_chain_22 rfl (lv_at hl 4 rfl) ?_
        refine lv_icmp_ge (tgt := 45) hx hb dX3_chain_23 (by decide) (fun c_4 => ?_) (fun c_4 => ?_)
        · exact absurd c_4 (nI_ge (b := cn) hk hc)
        · refine lv_iload_n hx hb dX3_chain_26 rfl (lv_at hl 1 rfl) ?_
          refine w_ldc cx k_548 dX3_chain_27 ?_
          refine lv_icmp_eq (tgt := 45) hx hb dX3_chain_29 (by decide) (fun c_5 => ?_) (fun c_5 => ?_)
          · refine lv_iload_n hx hb dX3_chain_45 rfl (lv_at hl 4 rfl) ?_
            refine lv_if_ge (tgt := 54) hx hb dX3_chain_46 (by decide) (fun c_6 => ?_) (fun c_6 => ?_)
            · refine lv_iload_n hx hb dX3_chain_54 rfl (lv_at hl 1 rfl) ?_
              exact r_int cx hr hlk (by rw [r_X3_chain, if_pos c_5]) dX3_chain_55
            · exact absurd (nI_pos' hc) c_6
          · refine lv_aload_n hx hb dX3_chain_32 rfl (lv_at hl 2 rfl) ?_
            refine w_get cx (ci := 3) rfl iX3 (hP _ _ cM_0) 23 (by decide) k_474 (v := .ref (ad 21)) rfl dX3_chain_33 ?_
            refine lv_iload_n hx hb dX3_chain_36 rfl (lv_at hl 1 rfl) ?_
            refine w_iald cx (hP _ _ (cM_A (n := 300) 20 (by decide) rfl rfl)) (ix z) (hz c_5).1 (Nat.lt_of_lt_of_le (hz c_5).2 hW.r) (by decide) dX3_chain_37 ?_
            refine lv_istore_n (lv' := [(3, .int (ar S 20 (ix z))), (4, .int (nI k)), (0, .ref (ad 0)), (1, .int (nI i)), (2, .int (nI cn))]) hx hb dX3_chain_38 rfl hl (by decide) rfl (fun ls hl => ?_)
            refine lv_iinc (v := nI (k + 1)) (lv' := [(4, .int (nI (k + 1))), (3, .int (ar S 20 (ix z))), (0, .ref (ad 0)), (1, .int (nI i)), (2, .int (nI cn))]) hx hb dX3_chain_39 hl (k := 1) rfl (by rw [nI_succ]; rfl) (by decide) rfl (fun ls hl => ?_)
            refine lv_goto (tgt := 20) hx hb dX3_chain_42 (by decide) ?_
            rw [show r_X3_chain S (q + 1) k z = r_X3_chain S q (k + 1) (ar S 20 (ix z)) from by rw [r_X3_chain, if_neg c_5]]
            exact ih (k + 1) (ar S 20 (ix z)) (fun h' => ⟨(hBa.ba (hz c_5).2 h').1, Nat.lt_trans (hBa.ba (hz c_5).2 h').2 (hz c_5).2⟩) (by omega) ls (lv_sub hl [0, 1, 2, 3, 4] rfl)
    exact lp (cn) 0 (ar S 5 i) (hW.la hi) (Nat.zero_add _) ls hl
  · exact absurd c_1 (by decide)
set_option maxRecDepth 20000 in
theorem c_X3_sealed_out (l : Launch) (G : GG) (ad : Nat → Nat) (S : St) (hW : WF S) {n : Int32} (hn : f_X3_in n 1 9999 = 0) : MR l yX3_sealed cX3_sealed 3 (some .int) 1 22 G ad (cM G ad S) [.ref (ad 0), .int n] (some (.int (-2))) := by
  refine MR.of [(0, .ref (ad 0)), (1, .int n)] (by decide) (Nat.le_of_ble_eq_true rfl) rfl ?_
  intro p e s m args below meth c cx hr hlk hP ls hl
  have hx := cx.1.1
  have hb := cx.1.2.1
  refine lv_iload_n hx hb dX3_sealed_0 rfl (lv_at hl 1 rfl) ?_
  refine lv_iconst (v := 1) hx hb dX3_sealed_1 (by decide) ?_
  refine lv_sipush (v := 9999) hx hb dX3_sealed_2 (by decide) ?_
  refine w_callS (As := [.int n, .int 1, .int 9999]) (rest := []) (st := [.int (f_X3_in n 1 9999)]) cx (c_X3_in l G ad _ n 1 9999) k_541 cal_yX3_in hP rfl ⟨Nat.le_of_ble_eq_true rfl, Nat.le_of_ble_eq_true rfl⟩ hl.1 (Nat.le_of_ble_eq_true rfl) ⟨Nat.zero_le _, Nat.zero_le _⟩ rfl rfl dX3_sealed_5 ?_
  refine lv_if_ne (tgt := 14) hx hb dX3_sealed_8 (by decide) (fun c_1 => ?_) (fun c_1 => ?_)
  · exact absurd hn c_1
  · refine lv_bipush (v := -2) hx hb dX3_sealed_11 (by decide) ?_
    exact r_int cx hr hlk rfl dX3_sealed_13
def r_X3_sealed (S : St) (x : Int32) : Nat → Nat → Int32
  | 0, k => (-1000000)
  | q + 1, k => if ar S 6 k = x then nI k
    else r_X3_sealed S x q (k + 1)
def f_X3_sealed (S : St) (x : Int32) : Int32 :=
  r_X3_sealed S x (nt S) 0
set_option maxRecDepth 20000 in
theorem c_X3_sealed (l : Launch) (G : GG) (ad : Nat → Nat) (S : St) (hW : WF S) {x : Int32} (hn : ¬ f_X3_in x 1 9999 = 0) : MR l yX3_sealed cX3_sealed 3 (some .int) 1 22 G ad (cM G ad S) [.ref (ad 0), .int x] (some (.int (f_X3_sealed S x))) := by
  refine MR.of [(0, .ref (ad 0)), (1, .int x)] (by decide) (Nat.le_of_ble_eq_true rfl) rfl ?_
  intro p e s m args below meth c cx hr hlk hP ls hl
  have hx := cx.1.1
  have hb := cx.1.2.1
  refine lv_iload_n hx hb dX3_sealed_0 rfl (lv_at hl 1 rfl) ?_
  refine lv_iconst (v := 1) hx hb dX3_sealed_1 (by decide) ?_
  refine lv_sipush (v := 9999) hx hb dX3_sealed_2 (by decide) ?_
  refine w_callS (As := [.int x, .int 1, .int 9999]) (rest := []) (st := [.int (f_X3_in x 1 9999)]) cx (c_X3_in l G ad _ x 1 9999) k_541 cal_yX3_in hP rfl ⟨Nat.le_of_ble_eq_true rfl, Nat.le_of_ble_eq_true rfl⟩ hl.1 (Nat.le_of_ble_eq_true rfl) ⟨Nat.zero_le _, Nat.zero_le _⟩ rfl rfl dX3_sealed_5 ?_
  refine lv_if_ne (tgt := 14) hx hb dX3_sealed_8 (by decide) (fun c_1 => ?_) (fun c_1 => ?_)
  · refine lv_iconst (v := 0) hx hb dX3_sealed_14 (by decide) ?_
    refine lv_istore_n (lv' := [(2, .int 0), (0, .ref (ad 0)), (1, .int x)]) hx hb dX3_sealed_15 rfl hl (by decide) rfl (fun ls hl => ?_)
    rw [show f_X3_sealed S x = r_X3_sealed S x (nt S) 0 from by rw [f_X3_sealed]]
    have lp : ∀ (q k : Nat), k + q = nt S → ∀ ls : Array Slot, lv_has ls 3 [(2, .int (nI k)), (0, .ref (ad 0)), (1, .int x)] → W p l e (rmM 1 22 0 0) s m args below meth c s.heap [] 0 0 (MQ below (Rd (some (.int (r_X3_sealed S x q k)))) args s 0 0 (fun _ => False)) (F0 m 16 ls []) := by
      intro q
      induction q with
      | zero =>
        intro k hk ls hl
        have hk2 : k = nt S := by omega
        subst hk2
        refine lv_iload_n hx hb dX3_sealed_16 rfl (lv_at hl 0 rfl) ?_
        refine lv_aload_n hx hb dX3_sealed_17 rfl (lv_at hl 1 rfl) ?_
        refine w_get cx (ci := 3) rfl iX3 (hP _ _ cM_0) 1 (by decide) k_452 (v := .int (nI (nt S))) rfl dX3_sealed_18 ?_
        refine lv_icmp_ge (tgt := 42) hx hb dX3_sealed_21 (by decide) (fun c_2 => ?_) (fun c_2 => ?_)
        · refine w_ldc cx k_548 dX3_sealed_42 ?_
          exact r_int cx hr hlk (by rw [r_X3_sealed]) dX3_sealed_44
        · exact absurd (Int32.le_refl _) c_2
      | succ q ih =>
        intro k hk1 ls hl
        have hk : k < nt S := by omega
        refine lv_iload_n hx hb dX3_sealed_16 rfl (lv_at hl 0 rfl) ?_
        refine lv_aload_n hx hb dX3_sealed_17 rfl (lv_at hl 1 rfl) ?_
        refine w_get cx (ci := 3) rfl iX3 (hP _ _ cM_0) 1 (by decide) k_452 (v := .int (nI (nt S))) rfl dX3_sealed_18 ?_
        refine lv_icmp_ge (tgt := 42) hx hb dX3_sealed_21 (by decide) (fun c_3 => ?_) (fun c_3 => ?_)
        · exact absurd c_3 (nI_ge (b := nt S) hk (Nat.lt_of_le_of_lt hW.t (by decide)))
        · refine lv_aload_n hx hb dX3_sealed_24 rfl (lv_at hl 1 rfl) ?_
          refine w_get cx (ci := 3) rfl iX3 (hP _ _ cM_0) 8 (by decide) k_459 (v := .ref (ad 7)) rfl dX3_sealed_25 ?_
          refine lv_iload_n hx hb dX3_sealed_28 rfl (lv_at hl 0 rfl) ?_
          refine w_iald cx (hP _ _ (cM_A (n := 40) 6 (by decide) rfl rfl)) k rfl (Nat.lt_of_lt_of_le hk hW.t) (by decide) dX3_sealed_29 ?_
          refine lv_iload_n hx hb dX3_sealed_30 rfl (lv_at hl 2 rfl) ?_
          refine lv_icmp_ne (tgt := 36) hx hb dX3_sealed_31 (by decide) (fun c_4 => ?_) (fun c_4 => ?_)
          · refine lv_iinc (v := nI (k + 1)) (lv' := [(2, .int (nI (k + 1))), (0, .ref (ad 0)), (1, .int x)]) hx hb dX3_sealed_36 hl (k := 0) rfl (by rw [nI_succ]; rfl) (by decide) rfl (fun ls hl => ?_)
            refine lv_goto (tgt := 16) hx hb dX3_sealed_39 (by decide) ?_
            rw [show r_X3_sealed S x (q + 1) k = r_X3_sealed S x q (k + 1) from by rw [r_X3_sealed, if_neg c_4]]
            exact ih (k + 1) (by omega) ls (lv_sub hl [0, 1, 2] rfl)
          · refine lv_iload_n hx hb dX3_sealed_34 rfl (lv_at hl 0 rfl) ?_
            exact r_int cx hr hlk (by rw [r_X3_sealed, if_pos c_4]) dX3_sealed_35
    exact lp (nt S) 0 (Nat.zero_add _) ls hl
  · exact absurd c_1 hn
set_option maxRecDepth 20000 in
theorem c_X3_stays_out (l : Launch) (G : GG) (ad : Nat → Nat) (S : St) (hW : WF S) {n : Int32} (hn : nT S n) : MR l yX3_stays cX3_stays 4 (some .int) 2 47 G ad (cM G ad S) [.ref (ad 0), .int n] (some (.int (-1))) := by
  refine MR.of [(0, .ref (ad 0)), (1, .int n)] (by decide) (Nat.le_of_ble_eq_true rfl) rfl ?_
  intro p e s m args below meth c cx hr hlk hP ls hl
  have hx := cx.1.1
  have hb := cx.1.2.1
  refine lv_aload_n hx hb dX3_stays_0 rfl (lv_at hl 0 rfl) ?_
  refine lv_iload_n hx hb dX3_stays_1 rfl (lv_at hl 1 rfl) ?_
  refine w_callV (As := [.int n]) (rest := []) (st := [.int 0]) cx (c_X3_isThing_out l G ad S hW hn) k_553 cal_yX3_isThing (ci := 3) rfl (hP _ _ cM_0) hP rfl ⟨Nat.le_of_ble_eq_true rfl, Nat.le_of_ble_eq_true rfl⟩ hl.1 (Nat.le_of_ble_eq_true rfl) ⟨Nat.zero_le _, Nat.zero_le _⟩ rfl rfl dX3_stays_2 ?_
  refine lv_if_ne (tgt := 10) hx hb dX3_stays_5 (by decide) (fun c_1 => ?_) (fun c_1 => ?_)
  · exact absurd (by decide) c_1
  · refine lv_iconst (v := -1) hx hb dX3_stays_8 (by decide) ?_
    exact r_int cx hr hlk rfl dX3_stays_9
def r_X3_stays (S : St) (i : Nat) : Nat → Nat → Int32
  | 0, k => nI 20000
  | q + 1, k => if f_X3_judgedOn S i (((sc S 0) + (nI k)) + 1) = f_X3_judgedOn S i (sc S 0) then r_X3_stays S i q (k + 1)
    else nI k
def f_X3_stays (S : St) (i : Nat) : Int32 :=
  if f_X3_judgedOn S i (sc S 0) = 0 then (-1000000)
  else r_X3_stays S i (20000) 0
set_option maxRecDepth 20000 in
theorem c_X3_stays (l : Launch) (G : GG) (ad : Nat → Nat) (S : St) (hW : WF S) {i : Nat} (hi : i < nt S) : MR l yX3_stays cX3_stays 4 (some .int) 2 47 G ad (cM G ad S) [.ref (ad 0), .int (nI i)] (some (.int (f_X3_stays S i))) := by
  refine MR.of [(0, .ref (ad 0)), (1, .int (nI i))] (by decide) (Nat.le_of_ble_eq_true rfl) rfl ?_
  intro p e s m args below meth c cx hr hlk hP ls hl
  have hx := cx.1.1
  have hb := cx.1.2.1
  refine lv_aload_n hx hb dX3_stays_0 rfl (lv_at hl 0 rfl) ?_
  refine lv_iload_n hx hb dX3_stays_1 rfl (lv_at hl 1 rfl) ?_
  refine w_callV (As := [.int (nI i)]) (rest := []) (st := [.int 1]) cx (c_X3_isThing_in l G ad S hW hi) k_553 cal_yX3_isThing (ci := 3) rfl (hP _ _ cM_0) hP rfl ⟨Nat.le_of_ble_eq_true rfl, Nat.le_of_ble_eq_true rfl⟩ hl.1 (Nat.le_of_ble_eq_true rfl) ⟨Nat.zero_le _, Nat.zero_le _⟩ rfl rfl dX3_stays_2 ?_
  refine lv_if_ne (tgt := 10) hx hb dX3_stays_5 (by decide) (fun c_1 => ?_) (fun c_1 => ?_)
  · refine lv_aload_n hx hb dX3_stays_10 rfl (lv_at hl 0 rfl) ?_
    refine lv_iload_n hx hb dX3_stays_11 rfl (lv_at hl 1 rfl) ?_
    refine lv_aload_n hx hb dX3_stays_12 rfl (lv_at hl 0 rfl) ?_
    refine w_get cx (ci := 3) rfl iX3 (hP _ _ cM_0) 0 (by decide) k_451 (v := .int (sc S 0)) rfl dX3_stays_13 ?_
    refine w_callV (As := [.int (nI i), .int (sc S 0)]) (rest := []) (st := [.int (f_X3_judgedOn S i (sc S 0))]) cx (c_X3_judgedOn l G ad S hW (i := i) hi (sc S 0)) k_643 cal_yX3_judgedOn (ci := 3) rfl (hP _ _ cM_0) hP rfl ⟨Nat.le_of_ble_eq_true rfl, Nat.le_of_ble_eq_true rfl⟩ hl.1 (Nat.le_of_ble_eq_true rfl) ⟨Nat.zero_le _, Nat.zero_le _⟩ rfl rfl dX3_stays_16 ?_
    refine lv_istore_n (lv' := [(2, .int (f_X3_judgedOn S i (sc S 0))), (0, .ref (ad 0)), (1, .int (nI i))]) hx hb dX3_stays_19 rfl hl (by decide) rfl (fun ls hl => ?_)
    refine lv_iload_n hx hb dX3_stays_20 rfl (lv_at hl 0 rfl) ?_
    refine lv_if_ne (tgt := 27) hx hb dX3_stays_21 (by decide) (fun c_2 => ?_) (fun c_2 => ?_)
    · refine lv_iconst (v := 0) hx hb dX3_stays_27 (by decide) ?_
      refine lv_istore_n (lv' := [(3, .int 0), (2, .int (f_X3_judgedOn S i (sc S 0))), (0, .ref (ad 0)), (1, .int (nI i))]) hx hb dX3_stays_28 rfl hl (by decide) rfl (fun ls hl => ?_)
      rw [show f_X3_stays S i = r_X3_stays S i (20000) 0 from by rw [f_X3_stays, if_neg c_2]]
      have lp : ∀ (q k : Nat), k + q = 20000 → ∀ ls : Array Slot, lv_has ls 4 [(3, .int (nI k)), (2, .int (f_X3_judgedOn S i (sc S 0))), (0, .ref (ad 0)), (1, .int (nI i))] → W p l e (rmM 2 47 0 0) s m args below meth c s.heap [] 0 0 (MQ below (Rd (some (.int (r_X3_stays S i q k)))) args s 0 0 (fun _ => False)) (F0 m 29 ls []) := by
        intro q
        induction q with
        | zero =>
          intro k hk ls hl
          have hk2 : k = 20000 := by omega
          subst hk2
          refine lv_iload_n hx hb dX3_stays_29 rfl (lv_at hl 0 rfl) ?_
          refine lv_sipush (v := 20000) hx hb dX3_stays_30 (by decide) ?_
          refine lv_icmp_ge (tgt := 59) hx hb dX3_stays_33 (by decide) (fun c_3 => ?_) (fun c_3 => ?_)
          · refine lv_iload_n hx hb dX3_stays_59 rfl (lv_at hl 0 rfl) ?_
            exact r_int cx hr hlk (by rw [r_X3_stays]) dX3_stays_60
          · exact absurd (by decide) c_3
        | succ q ih =>
          intro k hk1 ls hl
          have hk : k < 20000 := by omega
          refine lv_iload_n hx hb dX3_stays_29 rfl (lv_at hl 0 rfl) ?_
          refine lv_sipush (v := 20000) hx hb dX3_stays_30 (by decide) ?_
          refine lv_icmp_ge (tgt := 59) hx hb dX3_stays_33 (by decide) (fun c_4 => ?_) (fun c_4 => ?_)
          · exact absurd c_4 (nI_ge (b := 20000) hk (by decide))
          · refine lv_aload_n hx hb dX3_stays_36 rfl (lv_at hl 2 rfl) ?_
            refine lv_iload_n hx hb dX3_stays_37 rfl (lv_at hl 3 rfl) ?_
            refine lv_aload_n hx hb dX3_stays_38 rfl (lv_at hl 2 rfl) ?_
            refine w_get cx (ci := 3) rfl iX3 (hP _ _ cM_0) 0 (by decide) k_451 (v := .int (sc S 0)) rfl dX3_stays_39 ?_
            refine lv_iload_n hx hb dX3_stays_42 rfl (lv_at hl 0 rfl) ?_
            refine lv_iadd hx hb dX3_stays_43 ?_
            refine lv_iconst (v := 1) hx hb dX3_stays_44 (by decide) ?_
            refine lv_iadd hx hb dX3_stays_45 ?_
            refine w_callV (As := [.int (nI i), .int (((sc S 0) + (nI k)) + 1)]) (rest := []) (st := [.int (f_X3_judgedOn S i (((sc S 0) + (nI k)) + 1))]) cx (c_X3_judgedOn l G ad S hW (i := i) hi (((sc S 0) + (nI k)) + 1)) k_643 cal_yX3_judgedOn (ci := 3) rfl (hP _ _ cM_0) hP rfl ⟨Nat.le_of_ble_eq_true rfl, Nat.le_of_ble_eq_true rfl⟩ hl.1 (Nat.le_of_ble_eq_true rfl) ⟨Nat.zero_le _, Nat.zero_le _⟩ rfl rfl dX3_stays_46 ?_
            refine lv_iload_n hx hb dX3_stays_49 rfl (lv_at hl 1 rfl) ?_
            refine lv_icmp_ne (tgt := 59) hx hb dX3_stays_50 (by decide) (fun c_5 => ?_) (fun c_5 => ?_)
            · refine lv_iload_n hx hb dX3_stays_59 rfl (lv_at hl 0 rfl) ?_
              exact r_int cx hr hlk (by rw [r_X3_stays, if_neg c_5]) dX3_stays_60
            · refine lv_iinc (v := nI (k + 1)) (lv' := [(3, .int (nI (k + 1))), (2, .int (f_X3_judgedOn S i (sc S 0))), (0, .ref (ad 0)), (1, .int (nI i))]) hx hb dX3_stays_53 hl (k := 0) rfl (by rw [nI_succ]; rfl) (by decide) rfl (fun ls hl => ?_)
              refine lv_goto (tgt := 29) hx hb dX3_stays_56 (by decide) ?_
              rw [show r_X3_stays S i (q + 1) k = r_X3_stays S i q (k + 1) from by rw [r_X3_stays, if_pos c_5]]
              exact ih (k + 1) (by omega) ls (lv_sub hl [0, 1, 2, 3] rfl)
      exact lp (20000) 0 (Nat.zero_add _) ls hl
    · refine w_ldc cx k_548 dX3_stays_24 ?_
      exact r_int cx hr hlk (by rw [f_X3_stays, if_pos c_2]) dX3_stays_26
  · exact absurd c_1 (by decide)
def r_X3_count (S : St) (x : Int32) : Nat → Nat → Int32 → Int32
  | 0, k, z => if x = 0 then sc S 0
    else if x = 1 then nI (nt S)
    else if x = 2 then nI (nr S)
    else if x = 7 then sc S 1
    else z
  | q + 1, k, z => if x = 3 then (if f_X3_dueNow S k = 0 then r_X3_count S x q (k + 1) (z + 0)
      else r_X3_count S x q (k + 1) (z + 1))
    else if x ≤ 3 then r_X3_count S x q (k + 1) (z + 0)
    else if f_X3_isTool S k = 0 then r_X3_count S x q (k + 1) (z + 0)
    else if f_X3_judgedOn S k (sc S 0) = x - 3 then r_X3_count S x q (k + 1) (z + 1)
    else r_X3_count S x q (k + 1) (z + 0)
def f_X3_count (S : St) (x : Int32) : Int32 :=
  if f_X3_in x 0 7 = 0 then (-2)
  else r_X3_count S x (nt S) 0 0
set_option maxRecDepth 20000 in
theorem c_X3_count (l : Launch) (G : GG) (ad : Nat → Nat) (S : St) (hW : WF S) (x : Int32) : MR l yX3_count cX3_count 5 (some .int) 2 47 G ad (cM G ad S) [.ref (ad 0), .int x] (some (.int (f_X3_count S x))) := by
  refine MR.of [(0, .ref (ad 0)), (1, .int x)] (by decide) (Nat.le_of_ble_eq_true rfl) rfl ?_
  intro p e s m args below meth c cx hr hlk hP ls hl
  have hx := cx.1.1
  have hb := cx.1.2.1
  refine lv_iload_n hx hb dX3_count_0 rfl (lv_at hl 1 rfl) ?_
  refine lv_iconst (v := 0) hx hb dX3_count_1 (by decide) ?_
  refine lv_bipush (v := 7) hx hb dX3_count_2 (by decide) ?_
  refine w_callS (As := [.int x, .int 0, .int 7]) (rest := []) (st := [.int (f_X3_in x 0 7)]) cx (c_X3_in l G ad _ x 0 7) k_541 cal_yX3_in hP rfl ⟨Nat.le_of_ble_eq_true rfl, Nat.le_of_ble_eq_true rfl⟩ hl.1 (Nat.le_of_ble_eq_true rfl) ⟨Nat.zero_le _, Nat.zero_le _⟩ rfl rfl dX3_count_4 ?_
  refine lv_if_ne (tgt := 13) hx hb dX3_count_7 (by decide) (fun c_1 => ?_) (fun c_1 => ?_)
  · refine lv_iconst (v := 0) hx hb dX3_count_13 (by decide) ?_
    refine lv_istore_n (lv' := [(2, .int 0), (0, .ref (ad 0)), (1, .int x)]) hx hb dX3_count_14 rfl hl (by decide) rfl (fun ls hl => ?_)
    refine lv_iconst (v := 0) hx hb dX3_count_15 (by decide) ?_
    refine lv_istore_n (lv' := [(3, .int 0), (2, .int 0), (0, .ref (ad 0)), (1, .int x)]) hx hb dX3_count_16 rfl hl (by decide) rfl (fun ls hl => ?_)
    rw [show f_X3_count S x = r_X3_count S x (nt S) 0 0 from by rw [f_X3_count, if_neg c_1]]
    have lp : ∀ (q k : Nat) (z : Int32), k + q = nt S → ∀ ls : Array Slot, lv_has ls 5 [(3, .int (nI k)), (2, .int z), (0, .ref (ad 0)), (1, .int x)] → W p l e (rmM 2 47 0 0) s m args below meth c s.heap [] 0 0 (MQ below (Rd (some (.int (r_X3_count S x q k z)))) args s 0 0 (fun _ => False)) (F0 m 17 ls []) := by
      intro q
      induction q with
      | zero =>
        intro k z hk ls hl
        have hk2 : k = nt S := by omega
        subst hk2
        refine lv_iload_n hx hb dX3_count_17 rfl (lv_at hl 0 rfl) ?_
        refine lv_aload_n hx hb dX3_count_18 rfl (lv_at hl 2 rfl) ?_
        refine w_get cx (ci := 3) rfl iX3 (hP _ _ cM_0) 1 (by decide) k_452 (v := .int (nI (nt S))) rfl dX3_count_19 ?_
        refine lv_icmp_ge (tgt := 92) hx hb dX3_count_22 (by decide) (fun c_2 => ?_) (fun c_2 => ?_)
        · refine lv_iload_n hx hb dX3_count_92 rfl (lv_at hl 3 rfl) ?_
          refine lv_if_ne (tgt := 103) hx hb dX3_count_93 (by decide) (fun c_3 => ?_) (fun c_3 => ?_)
          · refine lv_iload_n hx hb dX3_count_103 rfl (lv_at hl 3 rfl) ?_
            refine lv_iconst (v := 1) hx hb dX3_count_104 (by decide) ?_
            refine lv_icmp_ne (tgt := 115) hx hb dX3_count_105 (by decide) (fun c_4 => ?_) (fun c_4 => ?_)
            · refine lv_iload_n hx hb dX3_count_115 rfl (lv_at hl 3 rfl) ?_
              refine lv_iconst (v := 2) hx hb dX3_count_116 (by decide) ?_
              refine lv_icmp_ne (tgt := 127) hx hb dX3_count_117 (by decide) (fun c_5 => ?_) (fun c_5 => ?_)
              · refine lv_iload_n hx hb dX3_count_127 rfl (lv_at hl 3 rfl) ?_
                refine lv_bipush (v := 7) hx hb dX3_count_128 (by decide) ?_
                refine lv_icmp_ne (tgt := 140) hx hb dX3_count_130 (by decide) (fun c_6 => ?_) (fun c_6 => ?_)
                · refine lv_iload_n hx hb dX3_count_140 rfl (lv_at hl 1 rfl) ?_
                  exact r_int cx hr hlk (by rw [r_X3_count, if_neg c_3, if_neg c_4, if_neg c_5, if_neg c_6]) dX3_count_141
                · refine lv_aload_n hx hb dX3_count_133 rfl (lv_at hl 2 rfl) ?_
                  refine w_get cx (ci := 3) rfl iX3 (hP _ _ cM_0) 25 (by decide) k_476 (v := .int (sc S 1)) rfl dX3_count_134 ?_
                  refine lv_goto (tgt := 141) hx hb dX3_count_137 (by decide) ?_
                  exact r_int cx hr hlk (by rw [r_X3_count, if_neg c_3, if_neg c_4, if_neg c_5, if_pos c_6]) dX3_count_141
              · refine lv_aload_n hx hb dX3_count_120 rfl (lv_at hl 2 rfl) ?_
                refine w_get cx (ci := 3) rfl iX3 (hP _ _ cM_0) 15 (by decide) k_466 (v := .int (nI (nr S))) rfl dX3_count_121 ?_
                refine lv_goto (tgt := 141) hx hb dX3_count_124 (by decide) ?_
                exact r_int cx hr hlk (by rw [r_X3_count, if_neg c_3, if_neg c_4, if_pos c_5]) dX3_count_141
            · refine lv_aload_n hx hb dX3_count_108 rfl (lv_at hl 2 rfl) ?_
              refine w_get cx (ci := 3) rfl iX3 (hP _ _ cM_0) 1 (by decide) k_452 (v := .int (nI (nt S))) rfl dX3_count_109 ?_
              refine lv_goto (tgt := 141) hx hb dX3_count_112 (by decide) ?_
              exact r_int cx hr hlk (by rw [r_X3_count, if_neg c_3, if_pos c_4]) dX3_count_141
          · refine lv_aload_n hx hb dX3_count_96 rfl (lv_at hl 2 rfl) ?_
            refine w_get cx (ci := 3) rfl iX3 (hP _ _ cM_0) 0 (by decide) k_451 (v := .int (sc S 0)) rfl dX3_count_97 ?_
            refine lv_goto (tgt := 141) hx hb dX3_count_100 (by decide) ?_
            exact r_int cx hr hlk (by rw [r_X3_count, if_pos c_3]) dX3_count_141
        · exact absurd (Int32.le_refl _) c_2
      | succ q ih =>
        intro k z hk1 ls hl
        have hk : k < nt S := by omega
        refine lv_iload_n hx hb dX3_count_17 rfl (lv_at hl 0 rfl) ?_
        refine lv_aload_n hx hb dX3_count_18 rfl (lv_at hl 2 rfl) ?_
        refine w_get cx (ci := 3) rfl iX3 (hP _ _ cM_0) 1 (by decide) k_452 (v := .int (nI (nt S))) rfl dX3_count_19 ?_
        refine lv_icmp_ge (tgt := 92) hx hb dX3_count_22 (by decide) (fun c_7 => ?_) (fun c_7 => ?_)
        · exact absurd c_7 (nI_ge (b := nt S) hk (Nat.lt_of_le_of_lt hW.t (by decide)))
        · refine lv_iload_n hx hb dX3_count_25 rfl (lv_at hl 3 rfl) ?_
          refine lv_iconst (v := 3) hx hb dX3_count_26 (by decide) ?_
          refine lv_icmp_ne (tgt := 38) hx hb dX3_count_27 (by decide) (fun c_8 => ?_) (fun c_8 => ?_)
          · refine lv_iload_n hx hb dX3_count_38 rfl (lv_at hl 3 rfl) ?_
            refine lv_iconst (v := 3) hx hb dX3_count_39 (by decide) ?_
            refine lv_icmp_le (tgt := 70) hx hb dX3_count_40 (by decide) (fun c_9 => ?_) (fun c_9 => ?_)
            · refine lv_iconst (v := 0) hx hb dX3_count_70 (by decide) ?_
              refine lv_istore (lv' := [(4, .int 0), (3, .int (nI k)), (2, .int z), (0, .ref (ad 0)), (1, .int x)]) hx hb dX3_count_71 hl (by decide) rfl (fun ls hl => ?_)
              refine lv_iload_n hx hb dX3_count_73 rfl (lv_at hl 2 rfl) ?_
              refine lv_iload hx hb dX3_count_74 (lv_at hl 0 rfl) ?_
              refine lv_if_eq (tgt := 83) hx hb dX3_count_76 (by decide) (fun c_10 => ?_) (fun c_10 => ?_)
              · refine lv_iconst (v := 0) hx hb dX3_count_83 (by decide) ?_
                refine lv_iadd hx hb dX3_count_84 ?_
                refine lv_istore_n (lv' := [(2, .int (z + 0)), (4, .int 0), (3, .int (nI k)), (0, .ref (ad 0)), (1, .int x)]) hx hb dX3_count_85 rfl hl (by decide) rfl (fun ls hl => ?_)
                refine lv_iinc (v := nI (k + 1)) (lv' := [(3, .int (nI (k + 1))), (2, .int (z + 0)), (4, .int 0), (0, .ref (ad 0)), (1, .int x)]) hx hb dX3_count_86 hl (k := 2) rfl (by rw [nI_succ]; rfl) (by decide) rfl (fun ls hl => ?_)
                refine lv_goto (tgt := 17) hx hb dX3_count_89 (by decide) ?_
                rw [show r_X3_count S x (q + 1) k z = r_X3_count S x q (k + 1) (z + 0) from by rw [r_X3_count, if_neg c_8, if_pos c_9]]
                exact ih (k + 1) (z + 0) (by omega) ls (lv_sub hl [0, 1, 3, 4] rfl)
              · exact absurd (by decide) c_10
            · refine lv_aload_n hx hb dX3_count_43 rfl (lv_at hl 2 rfl) ?_
              refine lv_iload_n hx hb dX3_count_44 rfl (lv_at hl 0 rfl) ?_
              refine w_callV (As := [.int (nI k)]) (rest := []) (st := [.int (f_X3_isTool S k)]) cx (c_X3_isTool l G ad S hW (i := k) hk) k_571 cal_yX3_isTool (ci := 3) rfl (hP _ _ cM_0) hP rfl ⟨Nat.le_of_ble_eq_true rfl, Nat.le_of_ble_eq_true rfl⟩ hl.1 (Nat.le_of_ble_eq_true rfl) ⟨Nat.zero_le _, Nat.zero_le _⟩ rfl rfl dX3_count_45 ?_
              refine lv_if_eq (tgt := 70) hx hb dX3_count_48 (by decide) (fun c_11 => ?_) (fun c_11 => ?_)
              · refine lv_iconst (v := 0) hx hb dX3_count_70 (by decide) ?_
                refine lv_istore (lv' := [(4, .int 0), (3, .int (nI k)), (2, .int z), (0, .ref (ad 0)), (1, .int x)]) hx hb dX3_count_71 hl (by decide) rfl (fun ls hl => ?_)
                refine lv_iload_n hx hb dX3_count_73 rfl (lv_at hl 2 rfl) ?_
                refine lv_iload hx hb dX3_count_74 (lv_at hl 0 rfl) ?_
                refine lv_if_eq (tgt := 83) hx hb dX3_count_76 (by decide) (fun c_12 => ?_) (fun c_12 => ?_)
                · refine lv_iconst (v := 0) hx hb dX3_count_83 (by decide) ?_
                  refine lv_iadd hx hb dX3_count_84 ?_
                  refine lv_istore_n (lv' := [(2, .int (z + 0)), (4, .int 0), (3, .int (nI k)), (0, .ref (ad 0)), (1, .int x)]) hx hb dX3_count_85 rfl hl (by decide) rfl (fun ls hl => ?_)
                  refine lv_iinc (v := nI (k + 1)) (lv' := [(3, .int (nI (k + 1))), (2, .int (z + 0)), (4, .int 0), (0, .ref (ad 0)), (1, .int x)]) hx hb dX3_count_86 hl (k := 2) rfl (by rw [nI_succ]; rfl) (by decide) rfl (fun ls hl => ?_)
                  refine lv_goto (tgt := 17) hx hb dX3_count_89 (by decide) ?_
                  rw [show r_X3_count S x (q + 1) k z = r_X3_count S x q (k + 1) (z + 0) from by rw [r_X3_count, if_neg c_8, if_neg c_9, if_pos c_11]]
                  exact ih (k + 1) (z + 0) (by omega) ls (lv_sub hl [0, 1, 3, 4] rfl)
                · exact absurd (by decide) c_12
              · refine lv_aload_n hx hb dX3_count_51 rfl (lv_at hl 2 rfl) ?_
                refine lv_iload_n hx hb dX3_count_52 rfl (lv_at hl 0 rfl) ?_
                refine lv_aload_n hx hb dX3_count_53 rfl (lv_at hl 2 rfl) ?_
                refine w_get cx (ci := 3) rfl iX3 (hP _ _ cM_0) 0 (by decide) k_451 (v := .int (sc S 0)) rfl dX3_count_54 ?_
                refine w_callV (As := [.int (nI k), .int (sc S 0)]) (rest := []) (st := [.int (f_X3_judgedOn S k (sc S 0))]) cx (c_X3_judgedOn l G ad S hW (i := k) hk (sc S 0)) k_643 cal_yX3_judgedOn (ci := 3) rfl (hP _ _ cM_0) hP rfl ⟨Nat.le_of_ble_eq_true rfl, Nat.le_of_ble_eq_true rfl⟩ hl.1 (Nat.le_of_ble_eq_true rfl) ⟨Nat.zero_le _, Nat.zero_le _⟩ rfl rfl dX3_count_57 ?_
                refine lv_iload_n hx hb dX3_count_60 rfl (lv_at hl 3 rfl) ?_
                refine lv_iconst (v := 3) hx hb dX3_count_61 (by decide) ?_
                refine lv_isub hx hb dX3_count_62 ?_
                refine lv_icmp_ne (tgt := 70) hx hb dX3_count_63 (by decide) (fun c_13 => ?_) (fun c_13 => ?_)
                · refine lv_iconst (v := 0) hx hb dX3_count_70 (by decide) ?_
                  refine lv_istore (lv' := [(4, .int 0), (3, .int (nI k)), (2, .int z), (0, .ref (ad 0)), (1, .int x)]) hx hb dX3_count_71 hl (by decide) rfl (fun ls hl => ?_)
                  refine lv_iload_n hx hb dX3_count_73 rfl (lv_at hl 2 rfl) ?_
                  refine lv_iload hx hb dX3_count_74 (lv_at hl 0 rfl) ?_
                  refine lv_if_eq (tgt := 83) hx hb dX3_count_76 (by decide) (fun c_14 => ?_) (fun c_14 => ?_)
                  · refine lv_iconst (v := 0) hx hb dX3_count_83 (by decide) ?_
                    refine lv_iadd hx hb dX3_count_84 ?_
                    refine lv_istore_n (lv' := [(2, .int (z + 0)), (4, .int 0), (3, .int (nI k)), (0, .ref (ad 0)), (1, .int x)]) hx hb dX3_count_85 rfl hl (by decide) rfl (fun ls hl => ?_)
                    refine lv_iinc (v := nI (k + 1)) (lv' := [(3, .int (nI (k + 1))), (2, .int (z + 0)), (4, .int 0), (0, .ref (ad 0)), (1, .int x)]) hx hb dX3_count_86 hl (k := 2) rfl (by rw [nI_succ]; rfl) (by decide) rfl (fun ls hl => ?_)
                    refine lv_goto (tgt := 17) hx hb dX3_count_89 (by decide) ?_
                    rw [show r_X3_count S x (q + 1) k z = r_X3_count S x q (k + 1) (z + 0) from by rw [r_X3_count, if_neg c_8, if_neg c_9, if_neg c_11, if_neg c_13]]
                    exact ih (k + 1) (z + 0) (by omega) ls (lv_sub hl [0, 1, 3, 4] rfl)
                  · exact absurd (by decide) c_14
                · refine lv_iconst (v := 1) hx hb dX3_count_66 (by decide) ?_
                  refine lv_goto (tgt := 71) hx hb dX3_count_67 (by decide) ?_
                  refine lv_istore (lv' := [(4, .int 1), (3, .int (nI k)), (2, .int z), (0, .ref (ad 0)), (1, .int x)]) hx hb dX3_count_71 hl (by decide) rfl (fun ls hl => ?_)
                  refine lv_iload_n hx hb dX3_count_73 rfl (lv_at hl 2 rfl) ?_
                  refine lv_iload hx hb dX3_count_74 (lv_at hl 0 rfl) ?_
                  refine lv_if_eq (tgt := 83) hx hb dX3_count_76 (by decide) (fun c_15 => ?_) (fun c_15 => ?_)
                  · exact absurd c_15 (by decide)
                  · refine lv_iconst (v := 1) hx hb dX3_count_79 (by decide) ?_
                    refine lv_goto (tgt := 84) hx hb dX3_count_80 (by decide) ?_
                    refine lv_iadd hx hb dX3_count_84 ?_
                    refine lv_istore_n (lv' := [(2, .int (z + 1)), (4, .int 1), (3, .int (nI k)), (0, .ref (ad 0)), (1, .int x)]) hx hb dX3_count_85 rfl hl (by decide) rfl (fun ls hl => ?_)
                    refine lv_iinc (v := nI (k + 1)) (lv' := [(3, .int (nI (k + 1))), (2, .int (z + 1)), (4, .int 1), (0, .ref (ad 0)), (1, .int x)]) hx hb dX3_count_86 hl (k := 2) rfl (by rw [nI_succ]; rfl) (by decide) rfl (fun ls hl => ?_)
                    refine lv_goto (tgt := 17) hx hb dX3_count_89 (by decide) ?_
                    rw [show r_X3_count S x (q + 1) k z = r_X3_count S x q (k + 1) (z + 1) from by rw [r_X3_count, if_neg c_8, if_neg c_9, if_neg c_11, if_pos c_13]]
                    exact ih (k + 1) (z + 1) (by omega) ls (lv_sub hl [0, 1, 3, 4] rfl)
          · refine lv_aload_n hx hb dX3_count_30 rfl (lv_at hl 2 rfl) ?_
            refine lv_iload_n hx hb dX3_count_31 rfl (lv_at hl 0 rfl) ?_
            refine w_callV (As := [.int (nI k)]) (rest := []) (st := [.int (f_X3_dueNow S k)]) cx (c_X3_dueNow l G ad S hW (i := k) hk) k_583 cal_yX3_dueNow (ci := 3) rfl (hP _ _ cM_0) hP rfl ⟨Nat.le_of_ble_eq_true rfl, Nat.le_of_ble_eq_true rfl⟩ hl.1 (Nat.le_of_ble_eq_true rfl) ⟨Nat.zero_le _, Nat.zero_le _⟩ rfl rfl dX3_count_32 ?_
            refine lv_goto (tgt := 71) hx hb dX3_count_35 (by decide) ?_
            refine lv_istore (lv' := [(4, .int (f_X3_dueNow S k)), (3, .int (nI k)), (2, .int z), (0, .ref (ad 0)), (1, .int x)]) hx hb dX3_count_71 hl (by decide) rfl (fun ls hl => ?_)
            refine lv_iload_n hx hb dX3_count_73 rfl (lv_at hl 2 rfl) ?_
            refine lv_iload hx hb dX3_count_74 (lv_at hl 0 rfl) ?_
            refine lv_if_eq (tgt := 83) hx hb dX3_count_76 (by decide) (fun c_16 => ?_) (fun c_16 => ?_)
            · refine lv_iconst (v := 0) hx hb dX3_count_83 (by decide) ?_
              refine lv_iadd hx hb dX3_count_84 ?_
              refine lv_istore_n (lv' := [(2, .int (z + 0)), (4, .int (f_X3_dueNow S k)), (3, .int (nI k)), (0, .ref (ad 0)), (1, .int x)]) hx hb dX3_count_85 rfl hl (by decide) rfl (fun ls hl => ?_)
              refine lv_iinc (v := nI (k + 1)) (lv' := [(3, .int (nI (k + 1))), (2, .int (z + 0)), (4, .int (f_X3_dueNow S k)), (0, .ref (ad 0)), (1, .int x)]) hx hb dX3_count_86 hl (k := 2) rfl (by rw [nI_succ]; rfl) (by decide) rfl (fun ls hl => ?_)
              refine lv_goto (tgt := 17) hx hb dX3_count_89 (by decide) ?_
              rw [show r_X3_count S x (q + 1) k z = r_X3_count S x q (k + 1) (z + 0) from by rw [r_X3_count, if_pos c_8, if_pos c_16]]
              exact ih (k + 1) (z + 0) (by omega) ls (lv_sub hl [0, 1, 3, 4] rfl)
            · refine lv_iconst (v := 1) hx hb dX3_count_79 (by decide) ?_
              refine lv_goto (tgt := 84) hx hb dX3_count_80 (by decide) ?_
              refine lv_iadd hx hb dX3_count_84 ?_
              refine lv_istore_n (lv' := [(2, .int (z + 1)), (4, .int (f_X3_dueNow S k)), (3, .int (nI k)), (0, .ref (ad 0)), (1, .int x)]) hx hb dX3_count_85 rfl hl (by decide) rfl (fun ls hl => ?_)
              refine lv_iinc (v := nI (k + 1)) (lv' := [(3, .int (nI (k + 1))), (2, .int (z + 1)), (4, .int (f_X3_dueNow S k)), (0, .ref (ad 0)), (1, .int x)]) hx hb dX3_count_86 hl (k := 2) rfl (by rw [nI_succ]; rfl) (by decide) rfl (fun ls hl => ?_)
              refine lv_goto (tgt := 17) hx hb dX3_count_89 (by decide) ?_
              rw [show r_X3_count S x (q + 1) k z = r_X3_count S x q (k + 1) (z + 1) from by rw [r_X3_count, if_pos c_8, if_neg c_16]]
              exact ih (k + 1) (z + 1) (by omega) ls (lv_sub hl [0, 1, 3, 4] rfl)
    exact lp (nt S) 0 0 (Nat.zero_add _) ls hl
  · refine lv_bipush (v := -2) hx hb dX3_count_10 (by decide) ?_
    exact r_int cx hr hlk (by rw [f_X3_count, if_pos c_1]) dX3_count_12
def a_X3_first (S : St) (k : Nat) : Nat → Int32
  | 0 => 0
  | j + 1 => if f_X3_isTool S j = 0 then (a_X3_first S k j) + 0
    else if f_X3_isTool S k = 0 then (a_X3_first S k j) + 0
    else if nI j = nI k then (a_X3_first S k j) + 0
    else if f_X3_isAhead S j k = 0 then (a_X3_first S k j) + 0
    else (a_X3_first S k j) + 1
def r_X3_first (S : St) (x : Int32) : Nat → Nat → Int32
  | 0, k => (-1000000)
  | q + 1, k => if f_X3_isTool S k = 0 then r_X3_first S x q (k + 1)
    else if a_X3_first S k (nt S) = x then nI k
    else r_X3_first S x q (k + 1)
def f_X3_first (S : St) (x : Int32) : Int32 :=
  r_X3_first S x (nt S) 0
set_option maxRecDepth 20000 in
theorem c_X3_first (l : Launch) (G : GG) (ad : Nat → Nat) (S : St) (hW : WF S) (x : Int32) : MR l yX3_first cX3_first 5 (some .int) 3 66 G ad (cM G ad S) [.ref (ad 0), .int x] (some (.int (f_X3_first S x))) := by
  refine MR.of [(0, .ref (ad 0)), (1, .int x)] (by decide) (Nat.le_of_ble_eq_true rfl) rfl ?_
  intro p e s m args below meth c cx hr hlk hP ls hl
  have hx := cx.1.1
  have hb := cx.1.2.1
  refine lv_iconst (v := 0) hx hb dX3_first_0 (by decide) ?_
  refine lv_istore_n (lv' := [(2, .int 0), (0, .ref (ad 0)), (1, .int x)]) hx hb dX3_first_1 rfl hl (by decide) rfl (fun ls hl => ?_)
  rw [show f_X3_first S x = r_X3_first S x (nt S) 0 from by rw [f_X3_first]]
  have lp : ∀ (q k : Nat), k + q = nt S → ∀ ls : Array Slot, lv_has ls 5 [(2, .int (nI k)), (0, .ref (ad 0)), (1, .int x)] → W p l e (rmM 3 66 0 0) s m args below meth c s.heap [] 0 0 (MQ below (Rd (some (.int (r_X3_first S x q k)))) args s 0 0 (fun _ => False)) (F0 m 2 ls []) := by
    intro q
    induction q with
    | zero =>
      intro k hk ls hl
      have hk2 : k = nt S := by omega
      subst hk2
      refine lv_iload_n hx hb dX3_first_2 rfl (lv_at hl 0 rfl) ?_
      refine lv_aload_n hx hb dX3_first_3 rfl (lv_at hl 1 rfl) ?_
      refine w_get cx (ci := 3) rfl iX3 (hP _ _ cM_0) 1 (by decide) k_452 (v := .int (nI (nt S))) rfl dX3_first_4 ?_
      refine lv_icmp_ge (tgt := 92) hx hb dX3_first_7 (by decide) (fun c_1 => ?_) (fun c_1 => ?_)
      · refine w_ldc cx k_548 dX3_first_92 ?_
        exact r_int cx hr hlk (by rw [r_X3_first]) dX3_first_94
      · exact absurd (Int32.le_refl _) c_1
    | succ q ih =>
      intro k hk1 ls hl
      have hk : k < nt S := by omega
      refine lv_iload_n hx hb dX3_first_2 rfl (lv_at hl 0 rfl) ?_
      refine lv_aload_n hx hb dX3_first_3 rfl (lv_at hl 1 rfl) ?_
      refine w_get cx (ci := 3) rfl iX3 (hP _ _ cM_0) 1 (by decide) k_452 (v := .int (nI (nt S))) rfl dX3_first_4 ?_
      refine lv_icmp_ge (tgt := 92) hx hb dX3_first_7 (by decide) (fun c_2 => ?_) (fun c_2 => ?_)
      · exact absurd c_2 (nI_ge (b := nt S) hk (Nat.lt_of_le_of_lt hW.t (by decide)))
      · refine lv_iconst (v := 0) hx hb dX3_first_10 (by decide) ?_
        refine lv_istore_n (lv' := [(3, .int 0), (2, .int (nI k)), (0, .ref (ad 0)), (1, .int x)]) hx hb dX3_first_11 rfl hl (by decide) rfl (fun ls hl => ?_)
        refine lv_iconst (v := 0) hx hb dX3_first_12 (by decide) ?_
        refine lv_istore (lv' := [(4, .int 0), (3, .int 0), (2, .int (nI k)), (0, .ref (ad 0)), (1, .int x)]) hx hb dX3_first_13 hl (by decide) rfl (fun ls hl => ?_)
        have lp2 : ∀ (u j : Nat), j + u = nt S → ∀ ls : Array Slot, lv_has ls 5 [(4, .int (nI j)), (3, .int (a_X3_first S k j)), (2, .int (nI k)), (0, .ref (ad 0)), (1, .int x)] → W p l e (rmM 3 66 0 0) s m args below meth c s.heap [] 0 0 (MQ below (Rd (some (.int (r_X3_first S x (q + 1) k)))) args s 0 0 (fun _ => False)) (F0 m 15 ls []) := by
          intro u
          induction u with
          | zero =>
            intro j hj ls hl
            have hj2 : j = nt S := by omega
            subst hj2
            refine lv_iload hx hb dX3_first_15 (lv_at hl 0 rfl) ?_
            refine lv_aload_n hx hb dX3_first_17 rfl (lv_at hl 3 rfl) ?_
            refine w_get cx (ci := 3) rfl iX3 (hP _ _ cM_0) 1 (by decide) k_452 (v := .int (nI (nt S))) rfl dX3_first_18 ?_
            refine lv_icmp_ge (tgt := 71) hx hb dX3_first_21 (by decide) (fun c_3 => ?_) (fun c_3 => ?_)
            · refine lv_aload_n hx hb dX3_first_71 rfl (lv_at hl 3 rfl) ?_
              refine lv_iload_n hx hb dX3_first_72 rfl (lv_at hl 2 rfl) ?_
              refine w_callV (As := [.int (nI k)]) (rest := []) (st := [.int (f_X3_isTool S k)]) cx (c_X3_isTool l G ad S hW (i := k) hk) k_571 cal_yX3_isTool (ci := 3) rfl (hP _ _ cM_0) hP rfl ⟨Nat.le_of_ble_eq_true rfl, Nat.le_of_ble_eq_true rfl⟩ hl.1 (Nat.le_of_ble_eq_true rfl) ⟨Nat.zero_le _, Nat.zero_le _⟩ rfl rfl dX3_first_73 ?_
              refine lv_if_eq (tgt := 86) hx hb dX3_first_76 (by decide) (fun c_4 => ?_) (fun c_4 => ?_)
              · refine lv_iinc (v := nI (k + 1)) (lv' := [(2, .int (nI (k + 1))), (4, .int (nI (nt S))), (3, .int (a_X3_first S k (nt S))), (0, .ref (ad 0)), (1, .int x)]) hx hb dX3_first_86 hl (k := 2) rfl (by rw [nI_succ]; rfl) (by decide) rfl (fun ls hl => ?_)
                refine lv_goto (tgt := 2) hx hb dX3_first_89 (by decide) ?_
                rw [show r_X3_first S x (q + 1) k = r_X3_first S x q (k + 1) from by rw [r_X3_first, if_pos c_4]]
                exact ih (k + 1) (by omega) ls (lv_sub hl [0, 3, 4] rfl)
              · refine lv_iload_n hx hb dX3_first_79 rfl (lv_at hl 1 rfl) ?_
                refine lv_iload_n hx hb dX3_first_80 rfl (lv_at hl 4 rfl) ?_
                refine lv_icmp_ne (tgt := 86) hx hb dX3_first_81 (by decide) (fun c_5 => ?_) (fun c_5 => ?_)
                · refine lv_iinc (v := nI (k + 1)) (lv' := [(2, .int (nI (k + 1))), (4, .int (nI (nt S))), (3, .int (a_X3_first S k (nt S))), (0, .ref (ad 0)), (1, .int x)]) hx hb dX3_first_86 hl (k := 2) rfl (by rw [nI_succ]; rfl) (by decide) rfl (fun ls hl => ?_)
                  refine lv_goto (tgt := 2) hx hb dX3_first_89 (by decide) ?_
                  rw [show r_X3_first S x (q + 1) k = r_X3_first S x q (k + 1) from by rw [r_X3_first, if_neg c_4, if_neg c_5]]
                  exact ih (k + 1) (by omega) ls (lv_sub hl [0, 3, 4] rfl)
                · refine lv_iload_n hx hb dX3_first_84 rfl (lv_at hl 2 rfl) ?_
                  exact r_int cx hr hlk (by rw [r_X3_first, if_neg c_4, if_pos c_5]) dX3_first_85
            · exact absurd (Int32.le_refl _) c_3
          | succ u ih2 =>
            intro j hj1 ls hl
            have hj : j < nt S := by omega
            refine lv_iload hx hb dX3_first_15 (lv_at hl 0 rfl) ?_
            refine lv_aload_n hx hb dX3_first_17 rfl (lv_at hl 3 rfl) ?_
            refine w_get cx (ci := 3) rfl iX3 (hP _ _ cM_0) 1 (by decide) k_452 (v := .int (nI (nt S))) rfl dX3_first_18 ?_
            refine lv_icmp_ge (tgt := 71) hx hb dX3_first_21 (by decide) (fun c_6 => ?_) (fun c_6 => ?_)
            · exact absurd c_6 (nI_ge (b := nt S) hj (Nat.lt_of_le_of_lt hW.t (by decide)))
            · refine lv_iload_n hx hb dX3_first_24 rfl (lv_at hl 1 rfl) ?_
              refine lv_aload_n hx hb dX3_first_25 rfl (lv_at hl 3 rfl) ?_
              refine lv_iload hx hb dX3_first_26 (lv_at hl 0 rfl) ?_
              refine w_callV (As := [.int (nI j)]) (rest := [.int (a_X3_first S k j)]) (st := [.int (f_X3_isTool S j), .int (a_X3_first S k j)]) cx (c_X3_isTool l G ad S hW (i := j) hj) k_571 cal_yX3_isTool (ci := 3) rfl (hP _ _ cM_0) hP rfl ⟨Nat.le_of_ble_eq_true rfl, Nat.le_of_ble_eq_true rfl⟩ hl.1 (Nat.le_of_ble_eq_true rfl) ⟨Nat.zero_le _, Nat.zero_le _⟩ rfl rfl dX3_first_28 ?_
              refine lv_if_eq (tgt := 62) hx hb dX3_first_31 (by decide) (fun c_7 => ?_) (fun c_7 => ?_)
              · refine lv_iconst (v := 0) hx hb dX3_first_62 (by decide) ?_
                refine lv_iadd hx hb dX3_first_63 ?_
                refine lv_istore_n (lv' := [(3, .int ((a_X3_first S k j) + 0)), (4, .int (nI j)), (2, .int (nI k)), (0, .ref (ad 0)), (1, .int x)]) hx hb dX3_first_64 rfl hl (by decide) rfl (fun ls hl => ?_)
                refine lv_iinc (v := nI (j + 1)) (lv' := [(4, .int (nI (j + 1))), (3, .int ((a_X3_first S k j) + 0)), (2, .int (nI k)), (0, .ref (ad 0)), (1, .int x)]) hx hb dX3_first_65 hl (k := 1) rfl (by rw [nI_succ]; rfl) (by decide) rfl (fun ls hl => ?_)
                refine lv_goto (tgt := 15) hx hb dX3_first_68 (by decide) ?_
                exact ih2 (j + 1) (by omega) ls (by rw [show a_X3_first S k (j + 1) = (a_X3_first S k j) + 0 from by rw [a_X3_first, if_pos c_7]]; exact lv_sub hl [0, 1, 2, 3, 4] rfl)
              · refine lv_aload_n hx hb dX3_first_34 rfl (lv_at hl 3 rfl) ?_
                refine lv_iload_n hx hb dX3_first_35 rfl (lv_at hl 2 rfl) ?_
                refine w_callV (As := [.int (nI k)]) (rest := [.int (a_X3_first S k j)]) (st := [.int (f_X3_isTool S k), .int (a_X3_first S k j)]) cx (c_X3_isTool l G ad S hW (i := k) hk) k_571 cal_yX3_isTool (ci := 3) rfl (hP _ _ cM_0) hP rfl ⟨Nat.le_of_ble_eq_true rfl, Nat.le_of_ble_eq_true rfl⟩ hl.1 (Nat.le_of_ble_eq_true rfl) ⟨Nat.zero_le _, Nat.zero_le _⟩ rfl rfl dX3_first_36 ?_
                refine lv_if_eq (tgt := 62) hx hb dX3_first_39 (by decide) (fun c_8 => ?_) (fun c_8 => ?_)
                · refine lv_iconst (v := 0) hx hb dX3_first_62 (by decide) ?_
                  refine lv_iadd hx hb dX3_first_63 ?_
                  refine lv_istore_n (lv' := [(3, .int ((a_X3_first S k j) + 0)), (4, .int (nI j)), (2, .int (nI k)), (0, .ref (ad 0)), (1, .int x)]) hx hb dX3_first_64 rfl hl (by decide) rfl (fun ls hl => ?_)
                  refine lv_iinc (v := nI (j + 1)) (lv' := [(4, .int (nI (j + 1))), (3, .int ((a_X3_first S k j) + 0)), (2, .int (nI k)), (0, .ref (ad 0)), (1, .int x)]) hx hb dX3_first_65 hl (k := 1) rfl (by rw [nI_succ]; rfl) (by decide) rfl (fun ls hl => ?_)
                  refine lv_goto (tgt := 15) hx hb dX3_first_68 (by decide) ?_
                  exact ih2 (j + 1) (by omega) ls (by rw [show a_X3_first S k (j + 1) = (a_X3_first S k j) + 0 from by rw [a_X3_first, if_neg c_7, if_pos c_8]]; exact lv_sub hl [0, 1, 2, 3, 4] rfl)
                · refine lv_iload hx hb dX3_first_42 (lv_at hl 0 rfl) ?_
                  refine lv_iload_n hx hb dX3_first_44 rfl (lv_at hl 2 rfl) ?_
                  refine lv_icmp_eq (tgt := 62) hx hb dX3_first_45 (by decide) (fun c_9 => ?_) (fun c_9 => ?_)
                  · refine lv_iconst (v := 0) hx hb dX3_first_62 (by decide) ?_
                    refine lv_iadd hx hb dX3_first_63 ?_
                    refine lv_istore_n (lv' := [(3, .int ((a_X3_first S k j) + 0)), (4, .int (nI j)), (2, .int (nI k)), (0, .ref (ad 0)), (1, .int x)]) hx hb dX3_first_64 rfl hl (by decide) rfl (fun ls hl => ?_)
                    refine lv_iinc (v := nI (j + 1)) (lv' := [(4, .int (nI (j + 1))), (3, .int ((a_X3_first S k j) + 0)), (2, .int (nI k)), (0, .ref (ad 0)), (1, .int x)]) hx hb dX3_first_65 hl (k := 1) rfl (by rw [nI_succ]; rfl) (by decide) rfl (fun ls hl => ?_)
                    refine lv_goto (tgt := 15) hx hb dX3_first_68 (by decide) ?_
                    exact ih2 (j + 1) (by omega) ls (by rw [show a_X3_first S k (j + 1) = (a_X3_first S k j) + 0 from by rw [a_X3_first, if_neg c_7, if_neg c_8, if_pos c_9]]; exact lv_sub hl [0, 1, 2, 3, 4] rfl)
                  · refine lv_aload_n hx hb dX3_first_48 rfl (lv_at hl 3 rfl) ?_
                    refine lv_iload hx hb dX3_first_49 (lv_at hl 0 rfl) ?_
                    refine lv_iload_n hx hb dX3_first_51 rfl (lv_at hl 2 rfl) ?_
                    refine w_callV (As := [.int (nI j), .int (nI k)]) (rest := [.int (a_X3_first S k j)]) (st := [.int (f_X3_isAhead S j k), .int (a_X3_first S k j)]) cx (c_X3_isAhead l G ad S hW (i := j) hj (k := k) hk) k_676 cal_yX3_isAhead (ci := 3) rfl (hP _ _ cM_0) hP rfl ⟨Nat.le_of_ble_eq_true rfl, Nat.le_of_ble_eq_true rfl⟩ hl.1 (Nat.le_of_ble_eq_true rfl) ⟨Nat.zero_le _, Nat.zero_le _⟩ rfl rfl dX3_first_52 ?_
                    refine lv_if_eq (tgt := 62) hx hb dX3_first_55 (by decide) (fun c_10 => ?_) (fun c_10 => ?_)
                    · refine lv_iconst (v := 0) hx hb dX3_first_62 (by decide) ?_
                      refine lv_iadd hx hb dX3_first_63 ?_
                      refine lv_istore_n (lv' := [(3, .int ((a_X3_first S k j) + 0)), (4, .int (nI j)), (2, .int (nI k)), (0, .ref (ad 0)), (1, .int x)]) hx hb dX3_first_64 rfl hl (by decide) rfl (fun ls hl => ?_)
                      refine lv_iinc (v := nI (j + 1)) (lv' := [(4, .int (nI (j + 1))), (3, .int ((a_X3_first S k j) + 0)), (2, .int (nI k)), (0, .ref (ad 0)), (1, .int x)]) hx hb dX3_first_65 hl (k := 1) rfl (by rw [nI_succ]; rfl) (by decide) rfl (fun ls hl => ?_)
                      refine lv_goto (tgt := 15) hx hb dX3_first_68 (by decide) ?_
                      exact ih2 (j + 1) (by omega) ls (by rw [show a_X3_first S k (j + 1) = (a_X3_first S k j) + 0 from by rw [a_X3_first, if_neg c_7, if_neg c_8, if_neg c_9, if_pos c_10]]; exact lv_sub hl [0, 1, 2, 3, 4] rfl)
                    · refine lv_iconst (v := 1) hx hb dX3_first_58 (by decide) ?_
                      refine lv_goto (tgt := 63) hx hb dX3_first_59 (by decide) ?_
                      refine lv_iadd hx hb dX3_first_63 ?_
                      refine lv_istore_n (lv' := [(3, .int ((a_X3_first S k j) + 1)), (4, .int (nI j)), (2, .int (nI k)), (0, .ref (ad 0)), (1, .int x)]) hx hb dX3_first_64 rfl hl (by decide) rfl (fun ls hl => ?_)
                      refine lv_iinc (v := nI (j + 1)) (lv' := [(4, .int (nI (j + 1))), (3, .int ((a_X3_first S k j) + 1)), (2, .int (nI k)), (0, .ref (ad 0)), (1, .int x)]) hx hb dX3_first_65 hl (k := 1) rfl (by rw [nI_succ]; rfl) (by decide) rfl (fun ls hl => ?_)
                      refine lv_goto (tgt := 15) hx hb dX3_first_68 (by decide) ?_
                      exact ih2 (j + 1) (by omega) ls (by rw [show a_X3_first S k (j + 1) = (a_X3_first S k j) + 1 from by rw [a_X3_first, if_neg c_7, if_neg c_8, if_neg c_9, if_neg c_10]]; exact lv_sub hl [0, 1, 2, 3, 4] rfl)
        exact lp2 (nt S) 0 (Nat.zero_add _) ls (by rw [show a_X3_first S k 0 = 0 from by rw [a_X3_first]]; exact hl)
  exact lp (nt S) 0 (Nat.zero_add _) ls hl
