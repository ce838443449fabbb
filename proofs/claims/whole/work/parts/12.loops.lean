def r_X2_unsettled (S : St) : Nat → Nat → Int32 → Int32
  | 0, k, z => z
  | q + 1, k, z => if ar S 18 k = 0 then r_X2_unsettled S q (k + 1) (z + 1)
    else r_X2_unsettled S q (k + 1) z
def f_X2_unsettled (S : St) : Int32 :=
  r_X2_unsettled S (nr S) 0 0
set_option maxRecDepth 20000 in
theorem c_X2_unsettled (l : Launch) (G : GG) (ad : Nat → Nat) (S : St) (E : Ex) (hW : WF S)  : MR l yX2_unsettled cX2_unsettled 4 (some .int) 2 43 G ad (cX G ad S E) [.ref (ad 0)] (some (.int (f_X2_unsettled S))) := by
  refine MR.of [(0, .ref (ad 0))] (by decide) (Nat.le_of_ble_eq_true rfl) rfl ?_
  intro p e s m args below meth c cx hr hlk hP ls hl
  have hx := cx.1.1
  have hb := cx.1.2.1
  refine lv_iconst (v := 0) hx hb dX2_unsettled_0 (by decide) ?_
  refine lv_istore_n (lv' := [(1, .int 0), (0, .ref (ad 0))]) hx hb dX2_unsettled_1 rfl hl (by decide) rfl (fun ls hl => ?_)
  refine lv_iconst (v := 0) hx hb dX2_unsettled_2 (by decide) ?_
  refine lv_istore_n (lv' := [(2, .int 0), (1, .int 0), (0, .ref (ad 0))]) hx hb dX2_unsettled_3 rfl hl (by decide) rfl (fun ls hl => ?_)
  rw [show f_X2_unsettled S = r_X2_unsettled S (nr S) 0 0 from by rw [f_X2_unsettled]]
  have lp : ∀ (q k : Nat) (z : Int32), k + q = nr S → ∀ ls : Array Slot, lv_has ls 4 [(2, .int (nI k)), (1, .int z), (0, .ref (ad 0))] → W p l e (rmM 2 43 0 0) s m args below meth c s.heap [] 0 0 (MQ below (Rd (some (.int (r_X2_unsettled S q k z)))) args s 0 0 (fun _ => False)) (F0 m 4 ls []) := by
    intro q
    induction q with
    | zero =>
      intro k z hk ls hl
      have hk2 : k = nr S := by omega
      subst hk2
      refine lv_iload_n hx hb dX2_unsettled_4 rfl (lv_at hl 0 rfl) ?_
      refine lv_aload_n hx hb dX2_unsettled_5 rfl (lv_at hl 2 rfl) ?_
      refine w_get cx (ci := 2) rfl iX2 (hP _ _ (cX_lo 0 (by decide) rfl)) 11 (by decide) k_56 (v := .int (nI (nr S))) rfl dX2_unsettled_6 ?_
      refine lv_icmp_ge (tgt := 38) hx hb dX2_unsettled_9 (by decide) (fun c_1 => ?_) (fun c_1 => ?_)
      · refine lv_iload_n hx hb dX2_unsettled_38 rfl (lv_at hl 1 rfl) ?_
        exact r_int cx hr hlk (by rw [r_X2_unsettled]) dX2_unsettled_39
      · exact absurd (Int32.le_refl _) c_1
    | succ q ih =>
      intro k z hk1 ls hl
      have hk : k < nr S := by omega
      refine lv_iload_n hx hb dX2_unsettled_4 rfl (lv_at hl 0 rfl) ?_
      refine lv_aload_n hx hb dX2_unsettled_5 rfl (lv_at hl 2 rfl) ?_
      refine w_get cx (ci := 2) rfl iX2 (hP _ _ (cX_lo 0 (by decide) rfl)) 11 (by decide) k_56 (v := .int (nI (nr S))) rfl dX2_unsettled_6 ?_
      refine lv_icmp_ge (tgt := 38) hx hb dX2_unsettled_9 (by decide) (fun c_2 => ?_) (fun c_2 => ?_)
      · exact absurd c_2 (nI_ge (b := nr S) hk (Nat.lt_of_le_of_lt hW.r (by decide)))
      · refine lv_aload_n hx hb dX2_unsettled_12 rfl (lv_at hl 2 rfl) ?_
        refine lv_iload_n hx hb dX2_unsettled_13 rfl (lv_at hl 0 rfl) ?_
        refine w_callV (As := [.int (nI k)]) (rest := []) (st := [.ref (ad (100 + k))]) cx (c_X2_trialAt_in l G ad S E hW hk) k_308 cal_yX2_trialAt (ci := 2) rfl (hP _ _ (cX_lo 0 (by decide) rfl)) hP rfl ⟨Nat.le_of_ble_eq_true rfl, Nat.le_of_ble_eq_true rfl⟩ hl.1 (Nat.le_of_ble_eq_true rfl) ⟨Nat.zero_le _, Nat.zero_le _⟩ rfl rfl dX2_unsettled_14 ?_
        refine lv_astore_n (lv' := [(3, .ref (ad (100 + k))), (2, .int (nI k)), (1, .int z), (0, .ref (ad 0))]) hx hb dX2_unsettled_17 rfl hl (by decide) rfl (fun ls hl => ?_)
        refine lv_aload_n hx hb dX2_unsettled_18 rfl (lv_at hl 0 rfl) ?_
        refine lv_ifnull hx hb dX2_unsettled_19 ?_
        refine lv_aload_n hx hb dX2_unsettled_22 rfl (lv_at hl 0 rfl) ?_
        refine w_get cx (ci := 1) rfl iX1 (hP _ _ (cX_R hk)) 7 (by decide) k_263 (v := .int (ar S 18 k)) rfl dX2_unsettled_23 ?_
        refine lv_if_ne (tgt := 32) hx hb dX2_unsettled_26 (by decide) (fun c_3 => ?_) (fun c_3 => ?_)
        · refine lv_iinc (v := nI (k + 1)) (lv' := [(2, .int (nI (k + 1))), (3, .ref (ad (100 + k))), (1, .int z), (0, .ref (ad 0))]) hx hb dX2_unsettled_32 hl (k := 1) rfl (by rw [nI_succ]; rfl) (by decide) rfl (fun ls hl => ?_)
          refine lv_goto (tgt := 4) hx hb dX2_unsettled_35 (by decide) ?_
          rw [show r_X2_unsettled S (q + 1) k z = r_X2_unsettled S q (k + 1) z from by rw [r_X2_unsettled, if_neg c_3]]
          exact ih (k + 1) z (by omega) ls (lv_sub hl [0, 2, 3] rfl)
        · refine lv_iinc (v := z + 1) (lv' := [(1, .int (z + 1)), (3, .ref (ad (100 + k))), (2, .int (nI k)), (0, .ref (ad 0))]) hx hb dX2_unsettled_29 hl (k := 2) rfl rfl (by decide) rfl (fun ls hl => ?_)
          refine lv_iinc (v := nI (k + 1)) (lv' := [(2, .int (nI (k + 1))), (1, .int (z + 1)), (3, .ref (ad (100 + k))), (0, .ref (ad 0))]) hx hb dX2_unsettled_32 hl (k := 2) rfl (by rw [nI_succ]; rfl) (by decide) rfl (fun ls hl => ?_)
          refine lv_goto (tgt := 4) hx hb dX2_unsettled_35 (by decide) ?_
          rw [show r_X2_unsettled S (q + 1) k z = r_X2_unsettled S q (k + 1) (z + 1) from by rw [r_X2_unsettled, if_pos c_3]]
          exact ih (k + 1) (z + 1) (by omega) ls (lv_sub hl [0, 1, 3] rfl)
  exact lp (nr S) 0 0 (Nat.zero_add _) ls hl
set_option maxRecDepth 20000 in
theorem c_X2_sealed_out (l : Launch) (G : GG) (ad : Nat → Nat) (S : St) (E : Ex) (hW : WF S) {n : Int32} (hn : f_X2_isSealNumber n = 0) : MR l yX2_sealed cX2_sealed 4 (some .int) 2 42 G ad (cX G ad S E) [.ref (ad 0), .int n] (some (.int (-2))) := by
  refine MR.of [(0, .ref (ad 0)), (1, .int n)] (by decide) (Nat.le_of_ble_eq_true rfl) rfl ?_
  intro p e s m args below meth c cx hr hlk hP ls hl
  have hx := cx.1.1
  have hb := cx.1.2.1
  refine lv_iload_n hx hb dX2_sealed_0 rfl (lv_at hl 1 rfl) ?_
  refine w_callS (As := [.int n]) (rest := []) (st := [.int (f_X2_isSealNumber n)]) cx (c_X2_isSealNumber l G ad _ n) k_389 cal_yX2_isSealNumber hP rfl ⟨Nat.le_of_ble_eq_true rfl, Nat.le_of_ble_eq_true rfl⟩ hl.1 (Nat.le_of_ble_eq_true rfl) ⟨Nat.zero_le _, Nat.zero_le _⟩ rfl rfl dX2_sealed_1 ?_
  refine lv_if_ne (tgt := 10) hx hb dX2_sealed_4 (by decide) (fun c_1 => ?_) (fun c_1 => ?_)
  · exact absurd hn c_1
  · refine lv_bipush (v := -2) hx hb dX2_sealed_7 (by decide) ?_
    exact r_int cx hr hlk rfl dX2_sealed_9
def r_X2_sealed (S : St) (x : Int32) : Nat → Nat → Int32
  | 0, k => (-1000000)
  | q + 1, k => if ar S 6 k = x then nI k
    else r_X2_sealed S x q (k + 1)
def f_X2_sealed (S : St) (x : Int32) : Int32 :=
  r_X2_sealed S x (nt S) 0
set_option maxRecDepth 20000 in
theorem c_X2_sealed (l : Launch) (G : GG) (ad : Nat → Nat) (S : St) (E : Ex) (hW : WF S) {x : Int32} (hn : ¬ f_X2_isSealNumber x = 0) : MR l yX2_sealed cX2_sealed 4 (some .int) 2 43 G ad (cX G ad S E) [.ref (ad 0), .int x] (some (.int (f_X2_sealed S x))) := by
  refine MR.of [(0, .ref (ad 0)), (1, .int x)] (by decide) (Nat.le_of_ble_eq_true rfl) rfl ?_
  intro p e s m args below meth c cx hr hlk hP ls hl
  have hx := cx.1.1
  have hb := cx.1.2.1
  refine lv_iload_n hx hb dX2_sealed_0 rfl (lv_at hl 1 rfl) ?_
  refine w_callS (As := [.int x]) (rest := []) (st := [.int (f_X2_isSealNumber x)]) cx (c_X2_isSealNumber l G ad _ x) k_389 cal_yX2_isSealNumber hP rfl ⟨Nat.le_of_ble_eq_true rfl, Nat.le_of_ble_eq_true rfl⟩ hl.1 (Nat.le_of_ble_eq_true rfl) ⟨Nat.zero_le _, Nat.zero_le _⟩ rfl rfl dX2_sealed_1 ?_
  refine lv_if_ne (tgt := 10) hx hb dX2_sealed_4 (by decide) (fun c_1 => ?_) (fun c_1 => ?_)
  · refine lv_iconst (v := 0) hx hb dX2_sealed_10 (by decide) ?_
    refine lv_istore_n (lv' := [(2, .int 0), (0, .ref (ad 0)), (1, .int x)]) hx hb dX2_sealed_11 rfl hl (by decide) rfl (fun ls hl => ?_)
    rw [show f_X2_sealed S x = r_X2_sealed S x (nt S) 0 from by rw [f_X2_sealed]]
    have lp : ∀ (q k : Nat), k + q = nt S → ∀ ls : Array Slot, lv_has ls 4 [(2, .int (nI k)), (0, .ref (ad 0)), (1, .int x)] → W p l e (rmM 2 43 0 0) s m args below meth c s.heap [] 0 0 (MQ below (Rd (some (.int (r_X2_sealed S x q k)))) args s 0 0 (fun _ => False)) (F0 m 12 ls []) := by
      intro q
      induction q with
      | zero =>
        intro k hk ls hl
        have hk2 : k = nt S := by omega
        subst hk2
        refine lv_iload_n hx hb dX2_sealed_12 rfl (lv_at hl 0 rfl) ?_
        refine lv_aload_n hx hb dX2_sealed_13 rfl (lv_at hl 1 rfl) ?_
        refine w_get cx (ci := 2) rfl iX2 (hP _ _ (cX_lo 0 (by decide) rfl)) 10 (by decide) k_55 (v := .int (nI (nt S))) rfl dX2_sealed_14 ?_
        refine lv_icmp_ge (tgt := 46) hx hb dX2_sealed_17 (by decide) (fun c_2 => ?_) (fun c_2 => ?_)
        · refine w_ldc cx k_156 dX2_sealed_46 ?_
          exact r_int cx hr hlk (by rw [r_X2_sealed]) dX2_sealed_48
        · exact absurd (Int32.le_refl _) c_2
      | succ q ih =>
        intro k hk1 ls hl
        have hk : k < nt S := by omega
        refine lv_iload_n hx hb dX2_sealed_12 rfl (lv_at hl 0 rfl) ?_
        refine lv_aload_n hx hb dX2_sealed_13 rfl (lv_at hl 1 rfl) ?_
        refine w_get cx (ci := 2) rfl iX2 (hP _ _ (cX_lo 0 (by decide) rfl)) 10 (by decide) k_55 (v := .int (nI (nt S))) rfl dX2_sealed_14 ?_
        refine lv_icmp_ge (tgt := 46) hx hb dX2_sealed_17 (by decide) (fun c_3 => ?_) (fun c_3 => ?_)
        · exact absurd c_3 (nI_ge (b := nt S) hk (Nat.lt_of_le_of_lt hW.t (by decide)))
        · refine lv_aload_n hx hb dX2_sealed_20 rfl (lv_at hl 1 rfl) ?_
          refine lv_iload_n hx hb dX2_sealed_21 rfl (lv_at hl 0 rfl) ?_
          refine w_callV (As := [.int (nI k)]) (rest := []) (st := [.ref (ad (10 + 2 * k))]) cx (c_X2_thingAt_in l G ad S E hW hk) k_149 cal_yX2_thingAt (ci := 2) rfl (hP _ _ (cX_lo 0 (by decide) rfl)) hP rfl ⟨Nat.le_of_ble_eq_true rfl, Nat.le_of_ble_eq_true rfl⟩ hl.1 (Nat.le_of_ble_eq_true rfl) ⟨Nat.zero_le _, Nat.zero_le _⟩ rfl rfl dX2_sealed_22 ?_
          refine lv_astore_n (lv' := [(3, .ref (ad (10 + 2 * k))), (2, .int (nI k)), (0, .ref (ad 0)), (1, .int x)]) hx hb dX2_sealed_25 rfl hl (by decide) rfl (fun ls hl => ?_)
          refine lv_aload_n hx hb dX2_sealed_26 rfl (lv_at hl 0 rfl) ?_
          refine lv_ifnull hx hb dX2_sealed_27 ?_
          refine lv_aload_n hx hb dX2_sealed_30 rfl (lv_at hl 0 rfl) ?_
          refine w_get cx (ci := 0) rfl iX0 (hP _ _ (cX_T hk hW.t)) 8 (by decide) k_121 (v := .int (ar S 6 k)) rfl dX2_sealed_31 ?_
          refine lv_iload_n hx hb dX2_sealed_34 rfl (lv_at hl 3 rfl) ?_
          refine lv_icmp_ne (tgt := 40) hx hb dX2_sealed_35 (by decide) (fun c_4 => ?_) (fun c_4 => ?_)
          · refine lv_iinc (v := nI (k + 1)) (lv' := [(2, .int (nI (k + 1))), (3, .ref (ad (10 + 2 * k))), (0, .ref (ad 0)), (1, .int x)]) hx hb dX2_sealed_40 hl (k := 1) rfl (by rw [nI_succ]; rfl) (by decide) rfl (fun ls hl => ?_)
            refine lv_goto (tgt := 12) hx hb dX2_sealed_43 (by decide) ?_
            rw [show r_X2_sealed S x (q + 1) k = r_X2_sealed S x q (k + 1) from by rw [r_X2_sealed, if_neg c_4]]
            exact ih (k + 1) (by omega) ls (lv_sub hl [0, 2, 3] rfl)
          · refine lv_iload_n hx hb dX2_sealed_38 rfl (lv_at hl 1 rfl) ?_
            exact r_int cx hr hlk (by rw [r_X2_sealed, if_pos c_4]) dX2_sealed_39
    exact lp (nt S) 0 (Nat.zero_add _) ls hl
  · exact absurd c_1 hn
def r_X2_howManyDue (S : St) : Nat → Nat → Int32 → Int32
  | 0, k, z => z
  | q + 1, k, z => if f_X0_isDueOn S k (sc S 0) = 0 then r_X2_howManyDue S q (k + 1) z
    else r_X2_howManyDue S q (k + 1) (z + 1)
def f_X2_howManyDue (S : St) : Int32 :=
  r_X2_howManyDue S (nt S) 0 0
set_option maxRecDepth 20000 in
theorem c_X2_howManyDue (l : Launch) (G : GG) (ad : Nat → Nat) (S : St) (E : Ex) (hW : WF S)  : MR l yX2_howManyDue cX2_howManyDue 4 (some .int) 3 65 G ad (cX G ad S E) [.ref (ad 0)] (some (.int (f_X2_howManyDue S))) := by
  refine MR.of [(0, .ref (ad 0))] (by decide) (Nat.le_of_ble_eq_true rfl) rfl ?_
  intro p e s m args below meth c cx hr hlk hP ls hl
  have hx := cx.1.1
  have hb := cx.1.2.1
  refine lv_iconst (v := 0) hx hb dX2_howManyDue_0 (by decide) ?_
  refine lv_istore_n (lv' := [(1, .int 0), (0, .ref (ad 0))]) hx hb dX2_howManyDue_1 rfl hl (by decide) rfl (fun ls hl => ?_)
  refine lv_iconst (v := 0) hx hb dX2_howManyDue_2 (by decide) ?_
  refine lv_istore_n (lv' := [(2, .int 0), (1, .int 0), (0, .ref (ad 0))]) hx hb dX2_howManyDue_3 rfl hl (by decide) rfl (fun ls hl => ?_)
  rw [show f_X2_howManyDue S = r_X2_howManyDue S (nt S) 0 0 from by rw [f_X2_howManyDue]]
  have lp : ∀ (q k : Nat) (z : Int32), k + q = nt S → ∀ ls : Array Slot, lv_has ls 4 [(2, .int (nI k)), (1, .int z), (0, .ref (ad 0))] → W p l e (rmM 3 65 0 0) s m args below meth c s.heap [] 0 0 (MQ below (Rd (some (.int (r_X2_howManyDue S q k z)))) args s 0 0 (fun _ => False)) (F0 m 4 ls []) := by
    intro q
    induction q with
    | zero =>
      intro k z hk ls hl
      have hk2 : k = nt S := by omega
      subst hk2
      refine lv_iload_n hx hb dX2_howManyDue_4 rfl (lv_at hl 0 rfl) ?_
      refine lv_aload_n hx hb dX2_howManyDue_5 rfl (lv_at hl 2 rfl) ?_
      refine w_get cx (ci := 2) rfl iX2 (hP _ _ (cX_lo 0 (by decide) rfl)) 10 (by decide) k_55 (v := .int (nI (nt S))) rfl dX2_howManyDue_6 ?_
      refine lv_icmp_ge (tgt := 42) hx hb dX2_howManyDue_9 (by decide) (fun c_1 => ?_) (fun c_1 => ?_)
      · refine lv_iload_n hx hb dX2_howManyDue_42 rfl (lv_at hl 1 rfl) ?_
        exact r_int cx hr hlk (by rw [r_X2_howManyDue]) dX2_howManyDue_43
      · exact absurd (Int32.le_refl _) c_1
    | succ q ih =>
      intro k z hk1 ls hl
      have hk : k < nt S := by omega
      refine lv_iload_n hx hb dX2_howManyDue_4 rfl (lv_at hl 0 rfl) ?_
      refine lv_aload_n hx hb dX2_howManyDue_5 rfl (lv_at hl 2 rfl) ?_
      refine w_get cx (ci := 2) rfl iX2 (hP _ _ (cX_lo 0 (by decide) rfl)) 10 (by decide) k_55 (v := .int (nI (nt S))) rfl dX2_howManyDue_6 ?_
      refine lv_icmp_ge (tgt := 42) hx hb dX2_howManyDue_9 (by decide) (fun c_2 => ?_) (fun c_2 => ?_)
      · exact absurd c_2 (nI_ge (b := nt S) hk (Nat.lt_of_le_of_lt hW.t (by decide)))
      · refine lv_aload_n hx hb dX2_howManyDue_12 rfl (lv_at hl 2 rfl) ?_
        refine lv_iload_n hx hb dX2_howManyDue_13 rfl (lv_at hl 0 rfl) ?_
        refine w_callV (As := [.int (nI k)]) (rest := []) (st := [.ref (ad (10 + 2 * k))]) cx (c_X2_thingAt_in l G ad S E hW hk) k_149 cal_yX2_thingAt (ci := 2) rfl (hP _ _ (cX_lo 0 (by decide) rfl)) hP rfl ⟨Nat.le_of_ble_eq_true rfl, Nat.le_of_ble_eq_true rfl⟩ hl.1 (Nat.le_of_ble_eq_true rfl) ⟨Nat.zero_le _, Nat.zero_le _⟩ rfl rfl dX2_howManyDue_14 ?_
        refine lv_astore_n (lv' := [(3, .ref (ad (10 + 2 * k))), (2, .int (nI k)), (1, .int z), (0, .ref (ad 0))]) hx hb dX2_howManyDue_17 rfl hl (by decide) rfl (fun ls hl => ?_)
        refine lv_aload_n hx hb dX2_howManyDue_18 rfl (lv_at hl 0 rfl) ?_
        refine lv_ifnull hx hb dX2_howManyDue_19 ?_
        refine lv_aload_n hx hb dX2_howManyDue_22 rfl (lv_at hl 0 rfl) ?_
        refine lv_aload_n hx hb dX2_howManyDue_23 rfl (lv_at hl 3 rfl) ?_
        refine w_get cx (ci := 2) rfl iX2 (hP _ _ (cX_lo 0 (by decide) rfl)) 9 (by decide) k_54 (v := .int (sc S 0)) rfl dX2_howManyDue_24 ?_
        refine w_callV (As := [.int (sc S 0)]) (rest := []) (st := [.int (f_X0_isDueOn S k (sc S 0))]) cx (c_X0_isDueOn l G ad S E hW (i := k) hk (sc S 0)) k_341 cal_yX0_isDueOn (ci := 0) rfl (hP _ _ (cX_T hk hW.t)) hP rfl ⟨Nat.le_of_ble_eq_true rfl, Nat.le_of_ble_eq_true rfl⟩ hl.1 (Nat.le_of_ble_eq_true rfl) ⟨Nat.zero_le _, Nat.zero_le _⟩ rfl rfl dX2_howManyDue_27 ?_
        refine lv_if_eq (tgt := 36) hx hb dX2_howManyDue_30 (by decide) (fun c_3 => ?_) (fun c_3 => ?_)
        · refine lv_iinc (v := nI (k + 1)) (lv' := [(2, .int (nI (k + 1))), (3, .ref (ad (10 + 2 * k))), (1, .int z), (0, .ref (ad 0))]) hx hb dX2_howManyDue_36 hl (k := 1) rfl (by rw [nI_succ]; rfl) (by decide) rfl (fun ls hl => ?_)
          refine lv_goto (tgt := 4) hx hb dX2_howManyDue_39 (by decide) ?_
          rw [show r_X2_howManyDue S (q + 1) k z = r_X2_howManyDue S q (k + 1) z from by rw [r_X2_howManyDue, if_pos c_3]]
          exact ih (k + 1) z (by omega) ls (lv_sub hl [0, 2, 3] rfl)
        · refine lv_iinc (v := z + 1) (lv' := [(1, .int (z + 1)), (3, .ref (ad (10 + 2 * k))), (2, .int (nI k)), (0, .ref (ad 0))]) hx hb dX2_howManyDue_33 hl (k := 2) rfl rfl (by decide) rfl (fun ls hl => ?_)
          refine lv_iinc (v := nI (k + 1)) (lv' := [(2, .int (nI (k + 1))), (1, .int (z + 1)), (3, .ref (ad (10 + 2 * k))), (0, .ref (ad 0))]) hx hb dX2_howManyDue_36 hl (k := 2) rfl (by rw [nI_succ]; rfl) (by decide) rfl (fun ls hl => ?_)
          refine lv_goto (tgt := 4) hx hb dX2_howManyDue_39 (by decide) ?_
          rw [show r_X2_howManyDue S (q + 1) k z = r_X2_howManyDue S q (k + 1) (z + 1) from by rw [r_X2_howManyDue, if_neg c_3]]
          exact ih (k + 1) (z + 1) (by omega) ls (lv_sub hl [0, 1, 3] rfl)
  exact lp (nt S) 0 0 (Nat.zero_add _) ls hl
def r_X2_howManyJudged (S : St) (x : Int32) : Nat → Nat → Int32 → Int32
  | 0, k, z => z
  | q + 1, k, z => if f_X0_isOfTrade S k = 0 then r_X2_howManyJudged S x q (k + 1) z
    else if f_X2_judgement S k = x then r_X2_howManyJudged S x q (k + 1) (z + 1)
    else r_X2_howManyJudged S x q (k + 1) z
def f_X2_howManyJudged (S : St) (x : Int32) : Int32 :=
  r_X2_howManyJudged S x (nt S) 0 0
set_option maxRecDepth 20000 in
theorem c_X2_howManyJudged (l : Launch) (G : GG) (ad : Nat → Nat) (S : St) (E : Ex) (hW : WF S) (x : Int32) : MR l yX2_howManyJudged cX2_howManyJudged 5 (some .int) 3 68 G ad (cX G ad S E) [.ref (ad 0), .int x] (some (.int (f_X2_howManyJudged S x))) := by
  refine MR.of [(0, .ref (ad 0)), (1, .int x)] (by decide) (Nat.le_of_ble_eq_true rfl) rfl ?_
  intro p e s m args below meth c cx hr hlk hP ls hl
  have hx := cx.1.1
  have hb := cx.1.2.1
  refine lv_iconst (v := 0) hx hb dX2_howManyJudged_0 (by decide) ?_
  refine lv_istore_n (lv' := [(2, .int 0), (0, .ref (ad 0)), (1, .int x)]) hx hb dX2_howManyJudged_1 rfl hl (by decide) rfl (fun ls hl => ?_)
  refine lv_iconst (v := 0) hx hb dX2_howManyJudged_2 (by decide) ?_
  refine lv_istore_n (lv' := [(3, .int 0), (2, .int 0), (0, .ref (ad 0)), (1, .int x)]) hx hb dX2_howManyJudged_3 rfl hl (by decide) rfl (fun ls hl => ?_)
  rw [show f_X2_howManyJudged S x = r_X2_howManyJudged S x (nt S) 0 0 from by rw [f_X2_howManyJudged]]
  have lp : ∀ (q k : Nat) (z : Int32), k + q = nt S → ∀ ls : Array Slot, lv_has ls 5 [(3, .int (nI k)), (2, .int z), (0, .ref (ad 0)), (1, .int x)] → W p l e (rmM 3 68 0 0) s m args below meth c s.heap [] 0 0 (MQ below (Rd (some (.int (r_X2_howManyJudged S x q k z)))) args s 0 0 (fun _ => False)) (F0 m 4 ls []) := by
    intro q
    induction q with
    | zero =>
      intro k z hk ls hl
      have hk2 : k = nt S := by omega
      subst hk2
      refine lv_iload_n hx hb dX2_howManyJudged_4 rfl (lv_at hl 0 rfl) ?_
      refine lv_aload_n hx hb dX2_howManyJudged_5 rfl (lv_at hl 2 rfl) ?_
      refine w_get cx (ci := 2) rfl iX2 (hP _ _ (cX_lo 0 (by decide) rfl)) 10 (by decide) k_55 (v := .int (nI (nt S))) rfl dX2_howManyJudged_6 ?_
      refine lv_icmp_ge (tgt := 51) hx hb dX2_howManyJudged_9 (by decide) (fun c_1 => ?_) (fun c_1 => ?_)
      · refine lv_iload_n hx hb dX2_howManyJudged_51 rfl (lv_at hl 1 rfl) ?_
        exact r_int cx hr hlk (by rw [r_X2_howManyJudged]) dX2_howManyJudged_52
      · exact absurd (Int32.le_refl _) c_1
    | succ q ih =>
      intro k z hk1 ls hl
      have hk : k < nt S := by omega
      refine lv_iload_n hx hb dX2_howManyJudged_4 rfl (lv_at hl 0 rfl) ?_
      refine lv_aload_n hx hb dX2_howManyJudged_5 rfl (lv_at hl 2 rfl) ?_
      refine w_get cx (ci := 2) rfl iX2 (hP _ _ (cX_lo 0 (by decide) rfl)) 10 (by decide) k_55 (v := .int (nI (nt S))) rfl dX2_howManyJudged_6 ?_
      refine lv_icmp_ge (tgt := 51) hx hb dX2_howManyJudged_9 (by decide) (fun c_2 => ?_) (fun c_2 => ?_)
      · exact absurd c_2 (nI_ge (b := nt S) hk (Nat.lt_of_le_of_lt hW.t (by decide)))
      · refine lv_aload_n hx hb dX2_howManyJudged_12 rfl (lv_at hl 2 rfl) ?_
        refine lv_iload_n hx hb dX2_howManyJudged_13 rfl (lv_at hl 0 rfl) ?_
        refine w_callV (As := [.int (nI k)]) (rest := []) (st := [.ref (ad (10 + 2 * k))]) cx (c_X2_thingAt_in l G ad S E hW hk) k_149 cal_yX2_thingAt (ci := 2) rfl (hP _ _ (cX_lo 0 (by decide) rfl)) hP rfl ⟨Nat.le_of_ble_eq_true rfl, Nat.le_of_ble_eq_true rfl⟩ hl.1 (Nat.le_of_ble_eq_true rfl) ⟨Nat.zero_le _, Nat.zero_le _⟩ rfl rfl dX2_howManyJudged_14 ?_
        refine lv_astore (lv' := [(4, .ref (ad (10 + 2 * k))), (3, .int (nI k)), (2, .int z), (0, .ref (ad 0)), (1, .int x)]) hx hb dX2_howManyJudged_17 hl (by decide) rfl (fun ls hl => ?_)
        refine lv_aload hx hb dX2_howManyJudged_19 (lv_at hl 0 rfl) ?_
        refine lv_ifnull hx hb dX2_howManyJudged_21 ?_
        refine lv_aload hx hb dX2_howManyJudged_24 (lv_at hl 0 rfl) ?_
        refine w_callV (As := []) (rest := []) (st := [.int (f_X0_isOfTrade S k)]) cx (c_X0_isOfTrade l G ad S E hW (i := k) hk) k_180 cal_yX0_isOfTrade (ci := 0) rfl (hP _ _ (cX_T hk hW.t)) hP rfl ⟨Nat.le_of_ble_eq_true rfl, Nat.le_of_ble_eq_true rfl⟩ hl.1 (Nat.le_of_ble_eq_true rfl) ⟨Nat.zero_le _, Nat.zero_le _⟩ rfl rfl dX2_howManyJudged_26 ?_
        refine lv_if_eq (tgt := 45) hx hb dX2_howManyJudged_29 (by decide) (fun c_3 => ?_) (fun c_3 => ?_)
        · refine lv_iinc (v := nI (k + 1)) (lv' := [(3, .int (nI (k + 1))), (4, .ref (ad (10 + 2 * k))), (2, .int z), (0, .ref (ad 0)), (1, .int x)]) hx hb dX2_howManyJudged_45 hl (k := 1) rfl (by rw [nI_succ]; rfl) (by decide) rfl (fun ls hl => ?_)
          refine lv_goto (tgt := 4) hx hb dX2_howManyJudged_48 (by decide) ?_
          rw [show r_X2_howManyJudged S x (q + 1) k z = r_X2_howManyJudged S x q (k + 1) z from by rw [r_X2_howManyJudged, if_pos c_3]]
          exact ih (k + 1) z (by omega) ls (lv_sub hl [0, 2, 3, 4] rfl)
        · refine lv_aload_n hx hb dX2_howManyJudged_32 rfl (lv_at hl 3 rfl) ?_
          refine lv_aload hx hb dX2_howManyJudged_33 (lv_at hl 0 rfl) ?_
          refine w_callV (As := [.ref (ad (10 + 2 * k))]) (rest := []) (st := [.int (f_X2_judgement S k)]) cx (c_X2_judgement l G ad S E hW (i := k) hk) k_359 cal_yX2_judgement (ci := 2) rfl (hP _ _ (cX_lo 0 (by decide) rfl)) hP rfl ⟨Nat.le_of_ble_eq_true rfl, Nat.le_of_ble_eq_true rfl⟩ hl.1 (Nat.le_of_ble_eq_true rfl) ⟨Nat.zero_le _, Nat.zero_le _⟩ rfl rfl dX2_howManyJudged_35 ?_
          refine lv_iload_n hx hb dX2_howManyJudged_38 rfl (lv_at hl 4 rfl) ?_
          refine lv_icmp_ne (tgt := 45) hx hb dX2_howManyJudged_39 (by decide) (fun c_4 => ?_) (fun c_4 => ?_)
          · refine lv_iinc (v := nI (k + 1)) (lv' := [(3, .int (nI (k + 1))), (4, .ref (ad (10 + 2 * k))), (2, .int z), (0, .ref (ad 0)), (1, .int x)]) hx hb dX2_howManyJudged_45 hl (k := 1) rfl (by rw [nI_succ]; rfl) (by decide) rfl (fun ls hl => ?_)
            refine lv_goto (tgt := 4) hx hb dX2_howManyJudged_48 (by decide) ?_
            rw [show r_X2_howManyJudged S x (q + 1) k z = r_X2_howManyJudged S x q (k + 1) z from by rw [r_X2_howManyJudged, if_neg c_3, if_neg c_4]]
            exact ih (k + 1) z (by omega) ls (lv_sub hl [0, 2, 3, 4] rfl)
          · refine lv_iinc (v := z + 1) (lv' := [(2, .int (z + 1)), (4, .ref (ad (10 + 2 * k))), (3, .int (nI k)), (0, .ref (ad 0)), (1, .int x)]) hx hb dX2_howManyJudged_42 hl (k := 2) rfl rfl (by decide) rfl (fun ls hl => ?_)
            refine lv_iinc (v := nI (k + 1)) (lv' := [(3, .int (nI (k + 1))), (2, .int (z + 1)), (4, .ref (ad (10 + 2 * k))), (0, .ref (ad 0)), (1, .int x)]) hx hb dX2_howManyJudged_45 hl (k := 2) rfl (by rw [nI_succ]; rfl) (by decide) rfl (fun ls hl => ?_)
            refine lv_goto (tgt := 4) hx hb dX2_howManyJudged_48 (by decide) ?_
            rw [show r_X2_howManyJudged S x (q + 1) k z = r_X2_howManyJudged S x q (k + 1) (z + 1) from by rw [r_X2_howManyJudged, if_neg c_3, if_pos c_4]]
            exact ih (k + 1) (z + 1) (by omega) ls (lv_sub hl [0, 1, 3, 4] rfl)
  exact lp (nt S) 0 0 (Nat.zero_add _) ls hl
def f_X2_count (S : St) (x : Int32) : Int32 :=
  if x = 0 then sc S 0
  else if x = 1 then nI (nt S)
  else if x = 2 then nI (nr S)
  else if x = 3 then f_X2_howManyDue S
  else if x = 4 then f_X2_howManyJudged S 1
  else if x = 5 then f_X2_howManyJudged S 2
  else if x = 6 then f_X2_howManyJudged S 3
  else if x = 7 then sc S 1
  else (-2)
set_option maxRecDepth 20000 in
theorem c_X2_count (l : Launch) (G : GG) (ad : Nat → Nat) (S : St) (E : Ex) (hW : WF S) (x : Int32) : MR l yX2_count cX2_count 2 (some .int) 4 92 G ad (cX G ad S E) [.ref (ad 0), .int x] (some (.int (f_X2_count S x))) := by
  refine MR.of [(0, .ref (ad 0)), (1, .int x)] (by decide) (Nat.le_of_ble_eq_true rfl) rfl ?_
  intro p e s m args below meth c cx hr hlk hP ls hl
  have hx := cx.1.1
  have hb := cx.1.2.1
  refine lv_iload_n hx hb dX2_count_0 rfl (lv_at hl 1 rfl) ?_
  by_cases c_1 : x = 0
  · refine lv_tableIn (off := 47) (tgt := 48) hx hb dX2_count_1 (by rw [c_1]; decide) (by rw [c_1]; decide) (by rw [c_1]; decide) (by decide) ?_
    refine lv_aload_n hx hb dX2_count_48 rfl (lv_at hl 0 rfl) ?_
    refine w_get cx (ci := 2) rfl iX2 (hP _ _ (cX_lo 0 (by decide) rfl)) 9 (by decide) k_54 (v := .int (sc S 0)) rfl dX2_count_49 ?_
    exact r_int cx hr hlk (by rw [f_X2_count, if_pos c_1]) dX2_count_52
  · by_cases c_2 : x = 1
    · refine lv_tableIn (off := 52) (tgt := 53) hx hb dX2_count_1 (by rw [c_2]; decide) (by rw [c_2]; decide) (by rw [c_2]; decide) (by decide) ?_
      refine lv_aload_n hx hb dX2_count_53 rfl (lv_at hl 0 rfl) ?_
      refine w_get cx (ci := 2) rfl iX2 (hP _ _ (cX_lo 0 (by decide) rfl)) 10 (by decide) k_55 (v := .int (nI (nt S))) rfl dX2_count_54 ?_
      exact r_int cx hr hlk (by rw [f_X2_count, if_neg c_1, if_pos c_2]) dX2_count_57
    · by_cases c_3 : x = 2
      · refine lv_tableIn (off := 57) (tgt := 58) hx hb dX2_count_1 (by rw [c_3]; decide) (by rw [c_3]; decide) (by rw [c_3]; decide) (by decide) ?_
        refine lv_aload_n hx hb dX2_count_58 rfl (lv_at hl 0 rfl) ?_
        refine w_get cx (ci := 2) rfl iX2 (hP _ _ (cX_lo 0 (by decide) rfl)) 11 (by decide) k_56 (v := .int (nI (nr S))) rfl dX2_count_59 ?_
        exact r_int cx hr hlk (by rw [f_X2_count, if_neg c_1, if_neg c_2, if_pos c_3]) dX2_count_62
      · by_cases c_4 : x = 3
        · refine lv_tableIn (off := 62) (tgt := 63) hx hb dX2_count_1 (by rw [c_4]; decide) (by rw [c_4]; decide) (by rw [c_4]; decide) (by decide) ?_
          refine lv_aload_n hx hb dX2_count_63 rfl (lv_at hl 0 rfl) ?_
          refine w_callV (As := []) (rest := []) (st := [.int (f_X2_howManyDue S)]) cx (c_X2_howManyDue l G ad S E hW ) k_437 cal_yX2_howManyDue (ci := 2) rfl (hP _ _ (cX_lo 0 (by decide) rfl)) hP rfl ⟨Nat.le_of_ble_eq_true rfl, Nat.le_of_ble_eq_true rfl⟩ hl.1 (Nat.le_of_ble_eq_true rfl) ⟨Nat.zero_le _, Nat.zero_le _⟩ rfl rfl dX2_count_64 ?_
          exact r_int cx hr hlk (by rw [f_X2_count, if_neg c_1, if_neg c_2, if_neg c_3, if_pos c_4]) dX2_count_67
        · by_cases c_5 : x = 4
          · refine lv_tableIn (off := 67) (tgt := 68) hx hb dX2_count_1 (by rw [c_5]; decide) (by rw [c_5]; decide) (by rw [c_5]; decide) (by decide) ?_
            refine lv_aload_n hx hb dX2_count_68 rfl (lv_at hl 0 rfl) ?_
            refine lv_iconst (v := 1) hx hb dX2_count_69 (by decide) ?_
            refine w_callV (As := [.int 1]) (rest := []) (st := [.int (f_X2_howManyJudged S 1)]) cx (c_X2_howManyJudged l G ad S E hW 1) k_441 cal_yX2_howManyJudged (ci := 2) rfl (hP _ _ (cX_lo 0 (by decide) rfl)) hP rfl ⟨Nat.le_of_ble_eq_true rfl, Nat.le_of_ble_eq_true rfl⟩ hl.1 (Nat.le_of_ble_eq_true rfl) ⟨Nat.zero_le _, Nat.zero_le _⟩ rfl rfl dX2_count_70 ?_
            exact r_int cx hr hlk (by rw [f_X2_count, if_neg c_1, if_neg c_2, if_neg c_3, if_neg c_4, if_pos c_5]) dX2_count_73
          · by_cases c_6 : x = 5
            · refine lv_tableIn (off := 73) (tgt := 74) hx hb dX2_count_1 (by rw [c_6]; decide) (by rw [c_6]; decide) (by rw [c_6]; decide) (by decide) ?_
              refine lv_aload_n hx hb dX2_count_74 rfl (lv_at hl 0 rfl) ?_
              refine lv_iconst (v := 2) hx hb dX2_count_75 (by decide) ?_
              refine w_callV (As := [.int 2]) (rest := []) (st := [.int (f_X2_howManyJudged S 2)]) cx (c_X2_howManyJudged l G ad S E hW 2) k_441 cal_yX2_howManyJudged (ci := 2) rfl (hP _ _ (cX_lo 0 (by decide) rfl)) hP rfl ⟨Nat.le_of_ble_eq_true rfl, Nat.le_of_ble_eq_true rfl⟩ hl.1 (Nat.le_of_ble_eq_true rfl) ⟨Nat.zero_le _, Nat.zero_le _⟩ rfl rfl dX2_count_76 ?_
              exact r_int cx hr hlk (by rw [f_X2_count, if_neg c_1, if_neg c_2, if_neg c_3, if_neg c_4, if_neg c_5, if_pos c_6]) dX2_count_79
            · by_cases c_7 : x = 6
              · refine lv_tableIn (off := 79) (tgt := 80) hx hb dX2_count_1 (by rw [c_7]; decide) (by rw [c_7]; decide) (by rw [c_7]; decide) (by decide) ?_
                refine lv_aload_n hx hb dX2_count_80 rfl (lv_at hl 0 rfl) ?_
                refine lv_iconst (v := 3) hx hb dX2_count_81 (by decide) ?_
                refine w_callV (As := [.int 3]) (rest := []) (st := [.int (f_X2_howManyJudged S 3)]) cx (c_X2_howManyJudged l G ad S E hW 3) k_441 cal_yX2_howManyJudged (ci := 2) rfl (hP _ _ (cX_lo 0 (by decide) rfl)) hP rfl ⟨Nat.le_of_ble_eq_true rfl, Nat.le_of_ble_eq_true rfl⟩ hl.1 (Nat.le_of_ble_eq_true rfl) ⟨Nat.zero_le _, Nat.zero_le _⟩ rfl rfl dX2_count_82 ?_
                exact r_int cx hr hlk (by rw [f_X2_count, if_neg c_1, if_neg c_2, if_neg c_3, if_neg c_4, if_neg c_5, if_neg c_6, if_pos c_7]) dX2_count_85
              · by_cases c_8 : x = 7
                · refine lv_tableIn (off := 85) (tgt := 86) hx hb dX2_count_1 (by rw [c_8]; decide) (by rw [c_8]; decide) (by rw [c_8]; decide) (by decide) ?_
                  refine lv_aload_n hx hb dX2_count_86 rfl (lv_at hl 0 rfl) ?_
                  refine w_get cx (ci := 2) rfl iX2 (hP _ _ (cX_lo 0 (by decide) rfl)) 12 (by decide) k_57 (v := .int (sc S 1)) rfl dX2_count_87 ?_
                  exact r_int cx hr hlk (by rw [f_X2_count, if_neg c_1, if_neg c_2, if_neg c_3, if_neg c_4, if_neg c_5, if_neg c_6, if_neg c_7, if_pos c_8]) dX2_count_90
                · refine lv_tableOut (tgt := 91) hx hb dX2_count_1 (tab_out8 c_1 c_2 c_3 c_4 c_5 c_6 c_7 c_8) (by decide) ?_
                  refine lv_bipush (v := -2) hx hb dX2_count_91 (by decide) ?_
                  exact r_int cx hr hlk (by rw [f_X2_count, if_neg c_1, if_neg c_2, if_neg c_3, if_neg c_4, if_neg c_5, if_neg c_6, if_neg c_7, if_neg c_8]) dX2_count_93
def r_X3_unsettled (S : St) : Nat → Nat → Int32 → Int32
  | 0, k, z => z
  | q + 1, k, z => if ar S 18 k = 0 then r_X3_unsettled S q (k + 1) (z + 1)
    else r_X3_unsettled S q (k + 1) (z + 0)
def f_X3_unsettled (S : St) : Int32 :=
  r_X3_unsettled S (nr S) 0 0
set_option maxRecDepth 20000 in
theorem c_X3_unsettled (l : Launch) (G : GG) (ad : Nat → Nat) (S : St) (hW : WF S)  : MR l yX3_unsettled cX3_unsettled 3 (some .int) 0 0 G ad (cM G ad S) [.ref (ad 0)] (some (.int (f_X3_unsettled S))) := by
  refine MR.of [(0, .ref (ad 0))] (by decide) (Nat.le_of_ble_eq_true rfl) rfl ?_
  intro p e s m args below meth c cx hr hlk hP ls hl
  have hx := cx.1.1
  have hb := cx.1.2.1
  refine lv_iconst (v := 0) hx hb dX3_unsettled_0 (by decide) ?_
  refine lv_istore_n (lv' := [(1, .int 0), (0, .ref (ad 0))]) hx hb dX3_unsettled_1 rfl hl (by decide) rfl (fun ls hl => ?_)
  refine lv_iconst (v := 0) hx hb dX3_unsettled_2 (by decide) ?_
  refine lv_istore_n (lv' := [(2, .int 0), (1, .int 0), (0, .ref (ad 0))]) hx hb dX3_unsettled_3 rfl hl (by decide) rfl (fun ls hl => ?_)
  rw [show f_X3_unsettled S = r_X3_unsettled S (nr S) 0 0 from by rw [f_X3_unsettled]]
  have lp : ∀ (q k : Nat) (z : Int32), k + q = nr S → ∀ ls : Array Slot, lv_has ls 3 [(2, .int (nI k)), (1, .int z), (0, .ref (ad 0))] → W p l e (rmM 0 0 0 0) s m args below meth c s.heap [] 0 0 (MQ below (Rd (some (.int (r_X3_unsettled S q k z)))) args s 0 0 (fun _ => False)) (F0 m 4 ls []) := by
    intro q
    induction q with
    | zero =>
      intro k z hk ls hl
      have hk2 : k = nr S := by omega
      subst hk2
      refine lv_iload_n hx hb dX3_unsettled_4 rfl (lv_at hl 0 rfl) ?_
      refine lv_aload_n hx hb dX3_unsettled_5 rfl (lv_at hl 2 rfl) ?_
      refine w_get cx (ci := 3) rfl iX3 (hP _ _ cM_0) 15 (by decide) k_466 (v := .int (nI (nr S))) rfl dX3_unsettled_6 ?_
      refine lv_icmp_ge (tgt := 35) hx hb dX3_unsettled_9 (by decide) (fun c_1 => ?_) (fun c_1 => ?_)
      · refine lv_iload_n hx hb dX3_unsettled_35 rfl (lv_at hl 1 rfl) ?_
        exact r_int cx hr hlk (by rw [r_X3_unsettled]) dX3_unsettled_36
      · exact absurd (Int32.le_refl _) c_1
    | succ q ih =>
      intro k z hk1 ls hl
      have hk : k < nr S := by omega
      refine lv_iload_n hx hb dX3_unsettled_4 rfl (lv_at hl 0 rfl) ?_
      refine lv_aload_n hx hb dX3_unsettled_5 rfl (lv_at hl 2 rfl) ?_
      refine w_get cx (ci := 3) rfl iX3 (hP _ _ cM_0) 15 (by decide) k_466 (v := .int (nI (nr S))) rfl dX3_unsettled_6 ?_
      refine lv_icmp_ge (tgt := 35) hx hb dX3_unsettled_9 (by decide) (fun c_2 => ?_) (fun c_2 => ?_)
      · exact absurd c_2 (nI_ge (b := nr S) hk (Nat.lt_of_le_of_lt hW.r (by decide)))
      · refine lv_iload_n hx hb dX3_unsettled_12 rfl (lv_at hl 1 rfl) ?_
        refine lv_aload_n hx hb dX3_unsettled_13 rfl (lv_at hl 2 rfl) ?_
        refine w_get cx (ci := 3) rfl iX3 (hP _ _ cM_0) 21 (by decide) k_472 (v := .ref (ad 19)) rfl dX3_unsettled_14 ?_
        refine lv_iload_n hx hb dX3_unsettled_17 rfl (lv_at hl 0 rfl) ?_
        refine w_zald cx (hP _ _ (cM_A (n := 300) 18 (by decide) rfl rfl)) k rfl (Nat.lt_of_lt_of_le hk hW.r) (by decide) dX3_unsettled_18 ?_
        refine lv_if_eq (tgt := 26) hx hb dX3_unsettled_19 (by decide) (fun c_3 => ?_) (fun c_3 => ?_)
        · refine lv_iconst (v := 1) hx hb dX3_unsettled_26 (by decide) ?_
          refine lv_iadd hx hb dX3_unsettled_27 ?_
          refine lv_istore_n (lv' := [(1, .int (z + 1)), (2, .int (nI k)), (0, .ref (ad 0))]) hx hb dX3_unsettled_28 rfl hl (by decide) rfl (fun ls hl => ?_)
          refine lv_iinc (v := nI (k + 1)) (lv' := [(2, .int (nI (k + 1))), (1, .int (z + 1)), (0, .ref (ad 0))]) hx hb dX3_unsettled_29 hl (k := 1) rfl (by rw [nI_succ]; rfl) (by decide) rfl (fun ls hl => ?_)
          refine lv_goto (tgt := 4) hx hb dX3_unsettled_32 (by decide) ?_
          rw [show r_X3_unsettled S (q + 1) k z = r_X3_unsettled S q (k + 1) (z + 1) from by rw [r_X3_unsettled, if_pos c_3]]
          exact ih (k + 1) (z + 1) (by omega) ls (lv_sub hl [0, 1, 2] rfl)
        · refine lv_iconst (v := 0) hx hb dX3_unsettled_22 (by decide) ?_
          refine lv_goto (tgt := 27) hx hb dX3_unsettled_23 (by decide) ?_
          refine lv_iadd hx hb dX3_unsettled_27 ?_
          refine lv_istore_n (lv' := [(1, .int (z + 0)), (2, .int (nI k)), (0, .ref (ad 0))]) hx hb dX3_unsettled_28 rfl hl (by decide) rfl (fun ls hl => ?_)
          refine lv_iinc (v := nI (k + 1)) (lv' := [(2, .int (nI (k + 1))), (1, .int (z + 0)), (0, .ref (ad 0))]) hx hb dX3_unsettled_29 hl (k := 1) rfl (by rw [nI_succ]; rfl) (by decide) rfl (fun ls hl => ?_)
          refine lv_goto (tgt := 4) hx hb dX3_unsettled_32 (by decide) ?_
          rw [show r_X3_unsettled S (q + 1) k z = r_X3_unsettled S q (k + 1) (z + 0) from by rw [r_X3_unsettled, if_neg c_3]]
          exact ih (k + 1) (z + 0) (by omega) ls (lv_sub hl [0, 1, 2] rfl)
  exact lp (nr S) 0 0 (Nat.zero_add _) ls hl
