def f_X2_isWithin (x y z : Int32) : Int32 :=
  if x < y then 0
  else if z < x then 0
  else 1
theorem b_X2_isWithin (x y z : Int32) : f_X2_isWithin x y z = 0 ∨ f_X2_isWithin x y z = 1 := by
  unfold f_X2_isWithin
  repeat' split
  all_goals first | exact Or.inl rfl | exact Or.inr rfl
set_option maxRecDepth 20000 in
theorem c_X2_isWithin (l : Launch) (G : GG) (ad : Nat → Nat) (C : Nat → Option va_E) (x y z : Int32) : MR l yX2_isWithin cX2_isWithin 3 (some .boolean) 0 0 G ad C [.int x, .int y, .int z] (some (.int (f_X2_isWithin x y z))) := by
  refine MR.of [(0, .int x), (1, .int y), (2, .int z)] (by decide) (Nat.le_of_ble_eq_true rfl) rfl ?_
  intro p e s m args below meth c cx hr hlk hP ls hl
  have hx := cx.1.1
  have hb := cx.1.2.1
  refine lv_iload_n hx hb dX2_isWithin_0 rfl (lv_at hl 0 rfl) ?_
  refine lv_iload_n hx hb dX2_isWithin_1 rfl (lv_at hl 1 rfl) ?_
  refine lv_icmp_lt (tgt := 14) hx hb dX2_isWithin_2 (by decide) (fun c_1 => ?_) (fun c_1 => ?_)
  · refine lv_iconst (v := 0) hx hb dX2_isWithin_14 (by decide) ?_
    exact r_bool cx hr hlk (by rw [f_X2_isWithin, if_pos c_1]) (Or.inl rfl) dX2_isWithin_15
  · refine lv_iload_n hx hb dX2_isWithin_5 rfl (lv_at hl 0 rfl) ?_
    refine lv_iload_n hx hb dX2_isWithin_6 rfl (lv_at hl 2 rfl) ?_
    refine lv_icmp_gt (tgt := 14) hx hb dX2_isWithin_7 (by decide) (fun c_2 => ?_) (fun c_2 => ?_)
    · refine lv_iconst (v := 0) hx hb dX2_isWithin_14 (by decide) ?_
      exact r_bool cx hr hlk (by rw [f_X2_isWithin, if_neg c_1, if_pos c_2]) (Or.inl rfl) dX2_isWithin_15
    · refine lv_iconst (v := 1) hx hb dX2_isWithin_10 (by decide) ?_
      refine lv_goto (tgt := 15) hx hb dX2_isWithin_11 (by decide) ?_
      exact r_bool cx hr hlk (by rw [f_X2_isWithin, if_neg c_1, if_neg c_2]) (Or.inr rfl) dX2_isWithin_15
def f_X2_isOwner (x : Int32) : Int32 :=
  f_X2_isWithin x 0 9
theorem b_X2_isOwner (x : Int32) : f_X2_isOwner x = 0 ∨ f_X2_isOwner x = 1 := by
  unfold f_X2_isOwner
  all_goals first | exact Or.inl rfl | exact Or.inr rfl | exact b_X2_isWithin x 0 9
set_option maxRecDepth 20000 in
theorem c_X2_isOwner (l : Launch) (G : GG) (ad : Nat → Nat) (C : Nat → Option va_E) (x : Int32) : MR l yX2_isOwner cX2_isOwner 1 (some .boolean) 1 22 G ad C [.int x] (some (.int (f_X2_isOwner x))) := by
  refine MR.of [(0, .int x)] (by decide) (Nat.le_of_ble_eq_true rfl) rfl ?_
  intro p e s m args below meth c cx hr hlk hP ls hl
  have hx := cx.1.1
  have hb := cx.1.2.1
  refine lv_iload_n hx hb dX2_isOwner_0 rfl (lv_at hl 0 rfl) ?_
  refine lv_iconst (v := 0) hx hb dX2_isOwner_1 (by decide) ?_
  refine lv_bipush (v := 9) hx hb dX2_isOwner_2 (by decide) ?_
  refine w_callS (As := [.int x, .int 0, .int 9]) (rest := []) (st := [.int (f_X2_isWithin x 0 9)]) cx (c_X2_isWithin l G ad _ x 0 9) k_91 cal_yX2_isWithin hP rfl ⟨Nat.le_of_ble_eq_true rfl, Nat.le_of_ble_eq_true rfl⟩ hl.1 (Nat.le_of_ble_eq_true rfl) ⟨Nat.zero_le _, Nat.zero_le _⟩ rfl rfl dX2_isOwner_4 ?_
  exact r_bool cx hr hlk (by rw [f_X2_isOwner]) (b_X2_isWithin x 0 9) dX2_isOwner_7
def f_X2_isSealNumber (x : Int32) : Int32 :=
  f_X2_isWithin x 1 9999
theorem b_X2_isSealNumber (x : Int32) : f_X2_isSealNumber x = 0 ∨ f_X2_isSealNumber x = 1 := by
  unfold f_X2_isSealNumber
  all_goals first | exact Or.inl rfl | exact Or.inr rfl | exact b_X2_isWithin x 1 9999
set_option maxRecDepth 20000 in
theorem c_X2_isSealNumber (l : Launch) (G : GG) (ad : Nat → Nat) (C : Nat → Option va_E) (x : Int32) : MR l yX2_isSealNumber cX2_isSealNumber 1 (some .boolean) 1 22 G ad C [.int x] (some (.int (f_X2_isSealNumber x))) := by
  refine MR.of [(0, .int x)] (by decide) (Nat.le_of_ble_eq_true rfl) rfl ?_
  intro p e s m args below meth c cx hr hlk hP ls hl
  have hx := cx.1.1
  have hb := cx.1.2.1
  refine lv_iload_n hx hb dX2_isSealNumber_0 rfl (lv_at hl 0 rfl) ?_
  refine lv_iconst (v := 1) hx hb dX2_isSealNumber_1 (by decide) ?_
  refine lv_sipush (v := 9999) hx hb dX2_isSealNumber_2 (by decide) ?_
  refine w_callS (As := [.int x, .int 1, .int 9999]) (rest := []) (st := [.int (f_X2_isWithin x 1 9999)]) cx (c_X2_isWithin l G ad _ x 1 9999) k_91 cal_yX2_isWithin hP rfl ⟨Nat.le_of_ble_eq_true rfl, Nat.le_of_ble_eq_true rfl⟩ hl.1 (Nat.le_of_ble_eq_true rfl) ⟨Nat.zero_le _, Nat.zero_le _⟩ rfl rfl dX2_isSealNumber_5 ?_
  exact r_bool cx hr hlk (by rw [f_X2_isSealNumber]) (b_X2_isWithin x 1 9999) dX2_isSealNumber_8
def f_X3_in (x y z : Int32) : Int32 :=
  if x < y then 0
  else if z < x then 0
  else 1
theorem b_X3_in (x y z : Int32) : f_X3_in x y z = 0 ∨ f_X3_in x y z = 1 := by
  unfold f_X3_in
  repeat' split
  all_goals first | exact Or.inl rfl | exact Or.inr rfl
set_option maxRecDepth 20000 in
theorem c_X3_in (l : Launch) (G : GG) (ad : Nat → Nat) (C : Nat → Option va_E) (x y z : Int32) : MR l yX3_in cX3_in 3 (some .boolean) 0 0 G ad C [.int x, .int y, .int z] (some (.int (f_X3_in x y z))) := by
  refine MR.of [(0, .int x), (1, .int y), (2, .int z)] (by decide) (Nat.le_of_ble_eq_true rfl) rfl ?_
  intro p e s m args below meth c cx hr hlk hP ls hl
  have hx := cx.1.1
  have hb := cx.1.2.1
  refine lv_iload_n hx hb dX3_in_0 rfl (lv_at hl 0 rfl) ?_
  refine lv_iload_n hx hb dX3_in_1 rfl (lv_at hl 1 rfl) ?_
  refine lv_icmp_lt (tgt := 14) hx hb dX3_in_2 (by decide) (fun c_1 => ?_) (fun c_1 => ?_)
  · refine lv_iconst (v := 0) hx hb dX3_in_14 (by decide) ?_
    exact r_bool cx hr hlk (by rw [f_X3_in, if_pos c_1]) (Or.inl rfl) dX3_in_15
  · refine lv_iload_n hx hb dX3_in_5 rfl (lv_at hl 0 rfl) ?_
    refine lv_iload_n hx hb dX3_in_6 rfl (lv_at hl 2 rfl) ?_
    refine lv_icmp_gt (tgt := 14) hx hb dX3_in_7 (by decide) (fun c_2 => ?_) (fun c_2 => ?_)
    · refine lv_iconst (v := 0) hx hb dX3_in_14 (by decide) ?_
      exact r_bool cx hr hlk (by rw [f_X3_in, if_neg c_1, if_pos c_2]) (Or.inl rfl) dX3_in_15
    · refine lv_iconst (v := 1) hx hb dX3_in_10 (by decide) ?_
      refine lv_goto (tgt := 15) hx hb dX3_in_11 (by decide) ?_
      exact r_bool cx hr hlk (by rw [f_X3_in, if_neg c_1, if_neg c_2]) (Or.inr rfl) dX3_in_15

def nT (S : St) (n : Int32) : Prop := ¬ ∃ j, j < nt S ∧ n = nI j
def nR (S : St) (n : Int32) : Prop := ¬ ∃ j, j < nr S ∧ n = nI j
theorem i_lt (a b : Int32) : a < b ↔ a.toInt < b.toInt := Int32.lt_iff_toInt_lt
theorem i_le (a b : Int32) : a ≤ b ↔ a.toInt ≤ b.toInt := Int32.le_iff_toInt_le
theorem i_eq (a b : Int32) : a = b ↔ a.toInt = b.toInt := Int32.toInt_inj.symm
theorem nI_m1 {n : Nat} (h : n < 1000000) : (nI n - 1).toInt = (n : Int) - 1 := by
  have h1 : (nI n).toInt = (n : Int) := nI_toInt (by omega)
  rw [Int32.toInt_sub, h1]
  show ((n : Int) - 1).bmod (2 ^ 32) = (n : Int) - 1
  rw [Int.bmod_eq_of_le (by omega) (by omega)]
theorem isW_in {j n : Nat} (hj : j < n) (hn : n < 1000000) : ¬ f_X2_isWithin (nI j) 0 (nI n - 1) = 0 := by
  have h1 : (nI j).toInt = (j : Int) := nI_toInt (by omega)
  rw [f_X2_isWithin, if_neg (by rw [i_lt, h1]; show ¬ (j : Int) < 0; omega), if_neg (by rw [i_lt, h1, nI_m1 hn]; omega)]
  decide
theorem isW_out {n : Nat} {x : Int32} (hn : n < 1000000) (h : ¬ ∃ j, j < n ∧ x = nI j) : f_X2_isWithin x 0 (nI n - 1) = 0 := by
  rw [f_X2_isWithin]
  split
  · rfl
  · rename_i h0
    split
    · rfl
    · rename_i h1
      refine absurd ⟨x.toInt.toNat, ?_, ?_⟩ h
      · rw [i_lt, nI_m1 hn] at h1
        rw [i_lt] at h0
        have : ¬ x.toInt < 0 := h0
        omega
      · rw [i_eq]
        rw [i_lt, nI_m1 hn] at h1
        rw [i_lt] at h0
        have : ¬ x.toInt < 0 := h0
        rw [nI_toInt (by omega)]
        omega
theorem in_in {j n : Nat} (hj : j < n) (hn : n < 1000000) : ¬ f_X3_in (nI j) 0 (nI n - 1) = 0 := isW_in hj hn
theorem in_out {n : Nat} {x : Int32} (hn : n < 1000000) (h : ¬ ∃ j, j < n ∧ x = nI j) : f_X3_in x 0 (nI n - 1) = 0 := isW_out hn h
theorem within_nI {x : Int32} {a b : Nat} (ha : a < 1000000) (hb : b < 1000000) (h : ¬ f_X2_isWithin x (nI a) (nI b) = 0) : ∃ j, a ≤ j ∧ j ≤ b ∧ x = nI j := by
  rw [f_X2_isWithin] at h
  split at h
  · exact absurd rfl h
  · rename_i h0
    split at h
    · exact absurd rfl h
    · rename_i h1
      have hbb : (nI b).toInt = (b : Int) := nI_toInt (by omega)
      rw [i_lt, hbb] at h1
      have haa : (nI a).toInt = (a : Int) := nI_toInt (by omega)
      rw [i_lt, haa] at h0
      refine ⟨x.toInt.toNat, by omega, by omega, ?_⟩
      rw [i_eq, nI_toInt (by omega)]
      omega
theorem nI_within {j a b : Nat} (h1 : a ≤ j) (h2 : j ≤ b) (hb : b < 1000000) : ¬ f_X2_isWithin (nI j) (nI a) (nI b) = 0 := by
  have e1 : (nI j).toInt = (j : Int) := nI_toInt (by omega)
  have e2 : (nI a).toInt = (a : Int) := nI_toInt (by omega)
  have e3 : (nI b).toInt = (b : Int) := nI_toInt (by omega)
  rw [f_X2_isWithin, if_neg (by rw [i_lt, e1, e2]; omega), if_neg (by rw [i_lt, e1, e3]; omega)]
  decide
theorem isO_in {o : Nat} (h : o < 10) : ¬ f_X2_isOwner (nI o) = 0 := nI_within (a := 0) (b := 9) (Nat.zero_le _) (by omega) (by decide)
theorem isN_in {k : Nat} (h1 : 1 ≤ k) (h : k < 10000) : ¬ f_X2_isSealNumber (nI k) = 0 := nI_within (a := 1) (b := 9999) h1 (by omega) (by decide)
theorem nz64 {x : Int32} (h : ¬ x ≤ 0) : ¬ x.toInt64 = 0 := by
  intro e
  apply h
  rw [i_le]
  have e2 : x.toInt64.toInt = (0 : Int64).toInt := by rw [e]
  rw [Int32.toInt_toInt64] at e2
  rw [e2]; decide
theorem nz64' {x : Int32} (h : 0 < x) : ¬ x.toInt64 = 0 := nz64 (fun h2 => by rw [i_lt] at h; rw [i_le] at h2; omega)
theorem tab_out8 {x : Int32} (h0 : ¬ x = 0) (h1 : ¬ x = 1) (h2 : ¬ x = 2) (h3 : ¬ x = 3) (h4 : ¬ x = 4) (h5 : ¬ x = 5) (h6 : ¬ x = 6) (h7 : ¬ x = 7) : x.toInt < 0 ∨ 7 < x.toInt := by
  rw [i_eq] at h0 h1 h2 h3 h4 h5 h6 h7
  have e0 : (0 : Int32).toInt = 0 := by decide
  have e1 : (1 : Int32).toInt = 1 := by decide
  have e2 : (2 : Int32).toInt = 2 := by decide
  have e3 : (3 : Int32).toInt = 3 := by decide
  have e4 : (4 : Int32).toInt = 4 := by decide
  have e5 : (5 : Int32).toInt = 5 := by decide
  have e6 : (6 : Int32).toInt = 6 := by decide
  have e7 : (7 : Int32).toInt = 7 := by decide
  omega
