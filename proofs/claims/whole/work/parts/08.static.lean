def f_X2_isWithin (x y z : Int32) : Int32 :=
  if x < y then 0
  else if z < x then 0
  else 1
theorem b_X2_isWithin (x y z : Int32) : f_X2_isWithin x y z = 0 ∨ f_X2_isWithin x y z = 1 := by
  unfold f_X2_isWithin
  repeat' split
  all_goals first | exact Or.inl rfl | exact Or.inr rfl
set_option maxRecDepth 20000 in
theorem c_X2_isWithin (l : Launch) (G : GG) (ad : Nat → Nat) (C : Nat → Option va_E) (x y z : Int32) : MR l yX2_isWithin cX2_isWithin 3 (some .boolean) 0 0 G ad C [.int x, .int y, .int z] (some (.int (f_X2_isWithin x y z))) := by
  refine MR.of [(0, .int x), (1, .int y), (2, .int z)] (by decide) (Nat.le_of_ble_eq_true rfl) rfl ?_
  intro p e s m args below meth c cx hr hlk hP ls hl
  have hx := cx.1.1
  have hb := cx.1.2.1
  refine lv_iload_n hx hb dX2_isWithin_0 rfl (lv_at hl 0 rfl) ?_
  refine lv_iload_n hx hb dX2_isWithin_1 rfl (lv_at hl 1 rfl) ?_
  refine lv_icmp_lt (tgt := 14) hx hb dX2_isWithin_2 (by decide) (fun c_1 => ?_) (fun c_1 => ?_)
  · refine lv_iconst (v := 0) hx hb dX2_isWithin_14 (by decide) ?_
    exact r_bool cx hr hlk (by rw [f_X2_isWithin, if_pos c_1]) (Or.inl rfl) dX2_isWithin_15
  · refine lv_iload_n hx hb dX2_isWithin_5 rfl (lv_at hl 0 rfl) ?_
    refine lv_iload_n hx hb dX2_isWithin_6 rfl (lv_at hl 2 rfl) ?_
    refine lv_icmp_gt (tgt := 14) hx hb dX2_isWithin_7 (by decide) (fun c_2 => ?_) (fun c_2 => ?_)
    · refine lv_iconst (v := 0) hx hb dX2_isWithin_14 (by decide) ?_
      exact r_bool cx hr hlk (by rw [f_X2_isWithin, if_neg c_1, if_pos c_2]) (Or.inl rfl) dX2_isWithin_15
    · refine lv_iconst (v := 1) hx hb dX2_isWithin_10 (by decide) ?_
      refine lv_goto (tgt := 15) hx hb dX2_isWithin_11 (by decide) ?_
      exact r_bool cx hr hlk (by rw [f_X2_isWithin, if_neg c_1, if_neg c_2]) (Or.inr rfl) dX2_isWithin_15
def f_X2_isOwner (x : Int32) : Int32 :=
  f_X2_isWithin x 0 9
theorem b_X2_isOwner (x : Int32) : f_X2_isOwner x = 0 ∨ f_X2_isOwner x = 1 := by
  unfold f_X2_isOwner
  all_goals first | exact Or.inl rfl | exact Or.inr rfl | exact b_X2_isWithin x 0 9
set_option maxRecDepth 20000 in
theorem c_X2_isOwner (l : Launch) (G : GG) (ad : Nat → Nat) (C : Nat → Option va_E) (x : Int32) : MR l yX2_isOwner cX2_isOwner 1 (some .boolean) 1 22 G ad C [.int x] (some (.int (f_X2_isOwner x))) := by
  refine MR.of [(0, .int x)] (by decide) (Nat.le_of_ble_eq_true rfl) rfl ?_
  intro p e s m args below meth c cx hr hlk hP ls hl
  have hx := cx.1.1
  have hb := cx.1.2.1
  refine lv_iload_n hx hb dX2_isOwner_0 rfl (lv_at hl 0 rfl) ?_
  refine lv_iconst (v := 0) hx hb dX2_isOwner_1 (by decide) ?_
  refine lv_bipush (v := 9) hx hb dX2_isOwner_2 (by decide) ?_
  refine w_callS (As := [.int x, .int 0, .int 9]) (rest := []) (st := [.int (f_X2_isWithin x 0 9)]) cx (c_X2_isWithin l G ad _ x 0 9) k_91 cal_yX2_isWithin hP rfl ⟨Nat.le_of_ble_eq_true rfl, Nat.le_of_ble_eq_true rfl⟩ hl.1 (Nat.le_of_ble_eq_true rfl) ⟨Nat.zero_le _, Nat.zero_le _⟩ rfl rfl dX2_isOwner_4 ?_
  exact r_bool cx hr hlk (by rw [f_X2_isOwner]) (b_X2_isWithin x 0 9) dX2_isOwner_7
def f_X2_isSealNumber (x : Int32) : Int32 :=
  f_X2_isWithin x 1 9999
theorem b_X2_isSealNumber (x : Int32) : f_X2_isSealNumber x = 0 ∨ f_X2_isSealNumber x = 1 := by
  unfold f_X2_isSealNumber
  all_goals first | exact Or.inl rfl | exact Or.inr rfl | exact b_X2_isWithin x 1 9999
set_option maxRecDepth 20000 in
theorem c_X2_isSealNumber (l : Launch) (G : GG) (ad : Nat → Nat) (C : Nat → Option va_E) (x : Int32) : MR l yX2_isSealNumber cX2_isSealNumber 1 (some .boolean) 1 22 G ad C [.int x] (some (.int (f_X2_isSealNumber x))) := by
  refine MR.of [(0, .int x)] (by decide) (Nat.le_of_ble_eq_true rfl) rfl ?_
  intro p e s m args below meth c cx hr hlk hP ls hl
  have hx := cx.1.1
  have hb := cx.1.2.1
  refine lv_iload_n hx hb dX2_isSealNumber_0 rfl (lv_at hl 0 rfl) ?_
  refine lv_iconst (v := 1) hx hb dX2_isSealNumber_1 (by decide) ?_
  refine lv_sipush (v := 9999) hx hb dX2_isSealNumber_2 (by decide) ?_
  refine w_callS (As := [.int x, .int 1, .int 9999]) (rest := []) (st := [.int (f_X2_isWithin x 1 9999)]) cx (c_X2_isWithin l G ad _ x 1 9999) k_91 cal_yX2_isWithin hP rfl ⟨Nat.le_of_ble_eq_true rfl, Nat.le_of_ble_eq_true rfl⟩ hl.1 (Nat.le_of_ble_eq_true rfl) ⟨Nat.zero_le _, Nat.zero_le _⟩ rfl rfl dX2_isSealNumber_5 ?_
  exact r_bool cx hr hlk (by rw [f_X2_isSealNumber]) (b_X2_isWithin x 1 9999) dX2_isSealNumber_8
def f_X3_in (x y z : Int32) : Int32 :=
  if x < y then 0
  else if z < x then 0
  else 1
theorem b_X3_in (x y z : Int32) : f_X3_in x y z = 0 ∨ f_X3_in x y z = 1 := by
  unfold f_X3_in
  repeat' split
  all_goals first | exact Or.inl rfl | exact Or.inr rfl
set_option maxRecDepth 20000 in
theorem c_X3_in (l : Launch) (G : GG) (ad : Nat → Nat) (C : Nat → Option va_E) (x y z : Int32) : MR l yX3_in cX3_in 3 (some .boolean) 0 0 G ad C [.int x, .int y, .int z] (some (.int (f_X3_in x y z))) := by
  refine MR.of [(0, .int x), (1, .int y), (2, .int z)] (by decide) (Nat.le_of_ble_eq_true rfl) rfl ?_
  intro p e s m args below meth c cx hr hlk hP ls hl
  have hx := cx.1.1
  have hb := cx.1.2.1
  refine lv_iload_n hx hb dX3_in_0 rfl (lv_at hl 0 rfl) ?_
  refine lv_iload_n hx hb dX3_in_1 rfl (lv_at hl 1 rfl) ?_
  refine lv_icmp_lt (tgt := 14) hx hb dX3_in_2 (by decide) (fun c_1 => ?_) (fun c_1 => ?_)
  · refine lv_iconst (v := 0) hx hb dX3_in_14 (by decide) ?_
    exact r_bool cx hr hlk (by rw [f_X3_in, if_pos c_1]) (Or.inl rfl) dX3_in_15
  · refine lv_iload_n hx hb dX3_in_5 rfl (lv_at hl 0 rfl) ?_
    refine lv_iload_n hx hb dX3_in_6 rfl (lv_at hl 2 rfl) ?_
    refine lv_icmp_gt (tgt := 14) hx hb dX3_in_7 (by decide) (fun c_2 => ?_) (fun c_2 => ?_)
    · refine lv_iconst (v := 0) hx hb dX3_in_14 (by decide) ?_
      exact r_bool cx hr hlk (by rw [f_X3_in, if_neg c_1, if_pos c_2]) (Or.inl rfl) dX3_in_15
    · refine lv_iconst (v := 1) hx hb dX3_in_10 (by decide) ?_
      refine lv_goto (tgt := 15) hx hb dX3_in_11 (by decide) ?_
      exact r_bool cx hr hlk (by rw [f_X3_in, if_neg c_1, if_neg c_2]) (Or.inr rfl) dX3_in_15
