theorem ntlt {n : Nat} (h : n ≤ 40) (h2 : ¬ nI n = 40) : n < 40 := by
  rcases Nat.lt_or_ge n 40 with q | q
  · exact q
  · exact absurd (by rw [show n = 40 by omega]; decide) h2
theorem ix3d {i : Nat} {x : Int32} (h : x = nI (ix x)) : 3 * nI i + x = nI (3 * i + ix x) := by
  rw [← nI_add, ← pk_mul, ← h]; rfl
theorem ix3b {i n : Nat} {x : Int32} (hi : i < n) (h40 : n ≤ 40) (h : okx x 4) (h3 : ¬ x = 3) : 3 * i + ix x < 120 := by
  have : ix x ≠ 3 := fun e => h3 (by rw [h.1, e]; decide)
  have := h.2
  omega
def f_X3_pass (S : St) (x : Int32) : Int32 × St :=
  if f_X3_in x 1 5000 = 0 then ((-2), S)
  else if (sc S 0) + x ≤ 20000 then ((sc S 0) + x, (setS S 0 ((sc S 0) + x)))
  else ((-4), S)
set_option maxRecDepth 20000 in
theorem c_X3_pass (l : Launch) (G : GG) (ad : Nat → Nat) (S : St) (hW : WF S) (x : Int32) : MW l yX3_pass cX3_pass 2 (some .int) 1 22 0 0 G ad (cM G ad S) [.ref (ad 0), .int x] (some (.int (f_X3_pass S x).1)) (fun ad' => cM G ad' (f_X3_pass S x).2) (fun ad' => ad' = ad) := by
  refine MW.of [(0, .ref (ad 0)), (1, .int x)] (by decide) (Nat.le_of_ble_eq_true rfl) rfl ?_
  intro p e s m args below meth c A cx hr hlk hnm hA hP ls hl
  have hx := cx.1.1
  have hb := cx.1.2.1
  have hS : va_S A s.heap s.heap [] := va_S.rf
  refine lv_iload_n hx hb dX3_pass_0 rfl (lv_at hl 1 rfl) ?_
  refine lv_iconst (v := 1) hx hb dX3_pass_1 (by decide) ?_
  refine lv_sipush (v := 5000) hx hb dX3_pass_2 (by decide) ?_
  refine w_callS (As := [.int x, .int 1, .int 5000]) (rest := []) (st := [.int (f_X3_in x 1 5000)]) cx (c_X3_in l G ad _ x 1 5000) k_541 cal_yX3_in hP.pa rfl ⟨Nat.le_of_ble_eq_true rfl, Nat.le_of_ble_eq_true rfl⟩ hl.1 (Nat.le_of_ble_eq_true rfl) ⟨Nat.zero_le _, Nat.zero_le _⟩ rfl rfl dX3_pass_5 ?_
  refine lv_if_ne (tgt := 14) hx hb dX3_pass_8 (by decide) (fun c_1 => ?_) (fun c_1 => ?_)
  · refine lv_aload_n hx hb dX3_pass_14 rfl (lv_at hl 0 rfl) ?_
    refine w_get cx (ci := 3) rfl iX3 (hP.pa _ _ cM_0) 0 (by decide) k_451 (v := .int (sc S 0)) rfl dX3_pass_15 ?_
    refine lv_iload_n hx hb dX3_pass_18 rfl (lv_at hl 1 rfl) ?_
    refine lv_iadd hx hb dX3_pass_19 ?_
    refine lv_sipush (v := 20000) hx hb dX3_pass_20 (by decide) ?_
    refine lv_icmp_le (tgt := 29) hx hb dX3_pass_23 (by decide) (fun c_2 => ?_) (fun c_2 => ?_)
    · refine lv_aload_n hx hb dX3_pass_29 rfl (lv_at hl 0 rfl) ?_
      refine lv_dup hx hb dX3_pass_30 rfl ?_
      refine w_get cx (ci := 3) rfl iX3 (hP.pa _ _ cM_0) 0 (by decide) k_451 (v := .int (sc S 0)) rfl dX3_pass_31 ?_
      refine lv_iload_n hx hb dX3_pass_34 rfl (lv_at hl 1 rfl) ?_
      refine lv_iadd hx hb dX3_pass_35 ?_
      refine m_put cx (setS S 0 ((sc S 0) + x)) hP hS 0 (by decide) k_451 rfl rfl (by decide) rfl (fun _ => rfl) rfl dX3_pass_36 (fun H locs hP hS => ?_)
      refine lv_aload_n hx hb dX3_pass_39 rfl (lv_at hl 0 rfl) ?_
      refine w_get cx (ci := 3) rfl iX3 (hP.pa _ _ cM_0) 0 (by decide) k_451 (v := .int ((sc S 0) + x)) rfl dX3_pass_40 ?_
      rw [show f_X3_pass S x = ((sc S 0) + x, (setS S 0 ((sc S 0) + x))) from by rw [f_X3_pass, if_neg c_1, if_pos c_2]]
      exact x_int cx hr hlk (ad' := ad) ⟨rfl, hP⟩ hS dX3_pass_43
    · refine lv_bipush (v := -4) hx hb dX3_pass_26 (by decide) ?_
      rw [show f_X3_pass S x = ((-4), S) from by rw [f_X3_pass, if_neg c_1, if_neg c_2]]
      exact x_int cx hr hlk (ad' := ad) ⟨rfl, hP⟩ hS dX3_pass_28
  · refine lv_bipush (v := -2) hx hb dX3_pass_11 (by decide) ?_
    rw [show f_X3_pass S x = ((-2), S) from by rw [f_X3_pass, if_pos c_1]]
    exact x_int cx hr hlk (ad' := ad) ⟨rfl, hP⟩ hS dX3_pass_13
def f_X3_thing (S : St) (x y z u : Int32) : Int32 × St :=
  if f_X3_in x 0 3 = 0 then ((-2), S)
  else if f_X3_in y 0 100 = 0 then ((-2), S)
  else if f_X3_in z 1 4000 = 0 then ((-2), S)
  else if f_X3_in u 0 9 = 0 then ((-1), S)
  else if nI (nt S) = 40 then ((-4), S)
  else ((nI (nt S + 1)) - 1, (setT (setA (setA (setA (setA (setA (setA S 0 (nt S) x) 1 (nt S) y) 2 (nt S) z) 3 (nt S) u) 5 (nt S) ((-1000000))) 6 (nt S) ((-1000000))) (nt S + 1)))
set_option maxRecDepth 20000 in
theorem c_X3_thing (l : Launch) (G : GG) (ad : Nat → Nat) (S : St) (hW : WF S) (x y z u : Int32) : MW l yX3_thing cX3_thing 5 (some .int) 1 22 0 0 G ad (cM G ad S) [.ref (ad 0), .int x, .int y, .int z, .int u] (some (.int (f_X3_thing S x y z u).1)) (fun ad' => cM G ad' (f_X3_thing S x y z u).2) (fun ad' => ad' = ad) := by
  refine MW.of [(0, .ref (ad 0)), (1, .int x), (2, .int y), (3, .int z), (4, .int u)] (by decide) (Nat.le_of_ble_eq_true rfl) rfl ?_
  intro p e s m args below meth c A cx hr hlk hnm hA hP ls hl
  have hx := cx.1.1
  have hb := cx.1.2.1
  have hS : va_S A s.heap s.heap [] := va_S.rf
  refine lv_iload_n hx hb dX3_thing_0 rfl (lv_at hl 1 rfl) ?_
  refine lv_iconst (v := 0) hx hb dX3_thing_1 (by decide) ?_
  refine lv_iconst (v := 3) hx hb dX3_thing_2 (by decide) ?_
  refine w_callS (As := [.int x, .int 0, .int 3]) (rest := []) (st := [.int (f_X3_in x 0 3)]) cx (c_X3_in l G ad _ x 0 3) k_541 cal_yX3_in hP.pa rfl ⟨Nat.le_of_ble_eq_true rfl, Nat.le_of_ble_eq_true rfl⟩ hl.1 (Nat.le_of_ble_eq_true rfl) ⟨Nat.zero_le _, Nat.zero_le _⟩ rfl rfl dX3_thing_3 ?_
  refine lv_if_eq (tgt := 30) hx hb dX3_thing_6 (by decide) (fun c_1 => ?_) (fun c_1 => ?_)
  · refine lv_bipush (v := -2) hx hb dX3_thing_30 (by decide) ?_
    rw [show f_X3_thing S x y z u = ((-2), S) from by rw [f_X3_thing, if_pos c_1]]
    exact x_int cx hr hlk (ad' := ad) ⟨rfl, hP⟩ hS dX3_thing_32
  · refine lv_iload_n hx hb dX3_thing_9 rfl (lv_at hl 2 rfl) ?_
    refine lv_iconst (v := 0) hx hb dX3_thing_10 (by decide) ?_
    refine lv_bipush (v := 100) hx hb dX3_thing_11 (by decide) ?_
    refine w_callS (As := [.int y, .int 0, .int 100]) (rest := []) (st := [.int (f_X3_in y 0 100)]) cx (c_X3_in l G ad _ y 0 100) k_541 cal_yX3_in hP.pa rfl ⟨Nat.le_of_ble_eq_true rfl, Nat.le_of_ble_eq_true rfl⟩ hl.1 (Nat.le_of_ble_eq_true rfl) ⟨Nat.zero_le _, Nat.zero_le _⟩ rfl rfl dX3_thing_13 ?_
    refine lv_if_eq (tgt := 30) hx hb dX3_thing_16 (by decide) (fun c_2 => ?_) (fun c_2 => ?_)
    · refine lv_bipush (v := -2) hx hb dX3_thing_30 (by decide) ?_
      rw [show f_X3_thing S x y z u = ((-2), S) from by rw [f_X3_thing, if_neg c_1, if_pos c_2]]
      exact x_int cx hr hlk (ad' := ad) ⟨rfl, hP⟩ hS dX3_thing_32
    · refine lv_iload_n hx hb dX3_thing_19 rfl (lv_at hl 3 rfl) ?_
      refine lv_iconst (v := 1) hx hb dX3_thing_20 (by decide) ?_
      refine lv_sipush (v := 4000) hx hb dX3_thing_21 (by decide) ?_
      refine w_callS (As := [.int z, .int 1, .int 4000]) (rest := []) (st := [.int (f_X3_in z 1 4000)]) cx (c_X3_in l G ad _ z 1 4000) k_541 cal_yX3_in hP.pa rfl ⟨Nat.le_of_ble_eq_true rfl, Nat.le_of_ble_eq_true rfl⟩ hl.1 (Nat.le_of_ble_eq_true rfl) ⟨Nat.zero_le _, Nat.zero_le _⟩ rfl rfl dX3_thing_24 ?_
      refine lv_if_ne (tgt := 33) hx hb dX3_thing_27 (by decide) (fun c_3 => ?_) (fun c_3 => ?_)
      · refine lv_iload hx hb dX3_thing_33 (lv_at hl 4 rfl) ?_
        refine lv_iconst (v := 0) hx hb dX3_thing_35 (by decide) ?_
        refine lv_bipush (v := 9) hx hb dX3_thing_36 (by decide) ?_
        refine w_callS (As := [.int u, .int 0, .int 9]) (rest := []) (st := [.int (f_X3_in u 0 9)]) cx (c_X3_in l G ad _ u 0 9) k_541 cal_yX3_in hP.pa rfl ⟨Nat.le_of_ble_eq_true rfl, Nat.le_of_ble_eq_true rfl⟩ hl.1 (Nat.le_of_ble_eq_true rfl) ⟨Nat.zero_le _, Nat.zero_le _⟩ rfl rfl dX3_thing_38 ?_
        refine lv_if_ne (tgt := 46) hx hb dX3_thing_41 (by decide) (fun c_4 => ?_) (fun c_4 => ?_)
        · refine lv_aload_n hx hb dX3_thing_46 rfl (lv_at hl 0 rfl) ?_
          refine w_get cx (ci := 3) rfl iX3 (hP.pa _ _ cM_0) 1 (by decide) k_452 (v := .int (nI (nt S))) rfl dX3_thing_47 ?_
          refine lv_bipush (v := 40) hx hb dX3_thing_50 (by decide) ?_
          refine lv_icmp_ne (tgt := 58) hx hb dX3_thing_52 (by decide) (fun c_5 => ?_) (fun c_5 => ?_)
          · refine lv_aload_n hx hb dX3_thing_58 rfl (lv_at hl 0 rfl) ?_
            refine w_get cx (ci := 3) rfl iX3 (hP.pa _ _ cM_0) 2 (by decide) k_453 (v := .ref (ad 1)) rfl dX3_thing_59 ?_
            refine lv_aload_n hx hb dX3_thing_62 rfl (lv_at hl 0 rfl) ?_
            refine w_get cx (ci := 3) rfl iX3 (hP.pa _ _ cM_0) 1 (by decide) k_452 (v := .int (nI (nt S))) rfl dX3_thing_63 ?_
            refine lv_iload_n hx hb dX3_thing_66 rfl (lv_at hl 1 rfl) ?_
            refine m_iast (n := 40) cx hP hS 0 (by decide) rfl rfl (nt S) rfl (ntlt hW.t c_5) (by decide) dX3_thing_67 (fun H locs hP hS => ?_)
            refine lv_aload_n hx hb dX3_thing_68 rfl (lv_at hl 0 rfl) ?_
            refine w_get cx (ci := 3) rfl iX3 (hP.pa _ _ cM_0) 3 (by decide) k_454 (v := .ref (ad 2)) rfl dX3_thing_69 ?_
            refine lv_aload_n hx hb dX3_thing_72 rfl (lv_at hl 0 rfl) ?_
            refine w_get cx (ci := 3) rfl iX3 (hP.pa _ _ cM_0) 1 (by decide) k_452 (v := .int (nI (nt S))) rfl dX3_thing_73 ?_
            refine lv_iload_n hx hb dX3_thing_76 rfl (lv_at hl 2 rfl) ?_
            refine m_iast (n := 40) cx hP hS 1 (by decide) rfl rfl (nt S) rfl (ntlt hW.t c_5) (by decide) dX3_thing_77 (fun H locs hP hS => ?_)
            refine lv_aload_n hx hb dX3_thing_78 rfl (lv_at hl 0 rfl) ?_
            refine w_get cx (ci := 3) rfl iX3 (hP.pa _ _ cM_0) 4 (by decide) k_455 (v := .ref (ad 3)) rfl dX3_thing_79 ?_
            refine lv_aload_n hx hb dX3_thing_82 rfl (lv_at hl 0 rfl) ?_
            refine w_get cx (ci := 3) rfl iX3 (hP.pa _ _ cM_0) 1 (by decide) k_452 (v := .int (nI (nt S))) rfl dX3_thing_83 ?_
            refine lv_iload_n hx hb dX3_thing_86 rfl (lv_at hl 3 rfl) ?_
            refine m_iast (n := 40) cx hP hS 2 (by decide) rfl rfl (nt S) rfl (ntlt hW.t c_5) (by decide) dX3_thing_87 (fun H locs hP hS => ?_)
            refine lv_aload_n hx hb dX3_thing_88 rfl (lv_at hl 0 rfl) ?_
            refine w_get cx (ci := 3) rfl iX3 (hP.pa _ _ cM_0) 5 (by decide) k_456 (v := .ref (ad 4)) rfl dX3_thing_89 ?_
            refine lv_aload_n hx hb dX3_thing_92 rfl (lv_at hl 0 rfl) ?_
            refine w_get cx (ci := 3) rfl iX3 (hP.pa _ _ cM_0) 1 (by decide) k_452 (v := .int (nI (nt S))) rfl dX3_thing_93 ?_
            refine lv_iload hx hb dX3_thing_96 (lv_at hl 4 rfl) ?_
            refine m_iast (n := 40) cx hP hS 3 (by decide) rfl rfl (nt S) rfl (ntlt hW.t c_5) (by decide) dX3_thing_98 (fun H locs hP hS => ?_)
            refine lv_aload_n hx hb dX3_thing_99 rfl (lv_at hl 0 rfl) ?_
            refine w_get cx (ci := 3) rfl iX3 (hP.pa _ _ cM_0) 7 (by decide) k_458 (v := .ref (ad 6)) rfl dX3_thing_100 ?_
            refine lv_aload_n hx hb dX3_thing_103 rfl (lv_at hl 0 rfl) ?_
            refine w_get cx (ci := 3) rfl iX3 (hP.pa _ _ cM_0) 1 (by decide) k_452 (v := .int (nI (nt S))) rfl dX3_thing_104 ?_
            refine w_ldc cx k_548 dX3_thing_107 ?_
            refine m_iast (n := 40) cx hP hS 5 (by decide) rfl rfl (nt S) rfl (ntlt hW.t c_5) (by decide) dX3_thing_109 (fun H locs hP hS => ?_)
            refine lv_aload_n hx hb dX3_thing_110 rfl (lv_at hl 0 rfl) ?_
            refine w_get cx (ci := 3) rfl iX3 (hP.pa _ _ cM_0) 8 (by decide) k_459 (v := .ref (ad 7)) rfl dX3_thing_111 ?_
            refine lv_aload_n hx hb dX3_thing_114 rfl (lv_at hl 0 rfl) ?_
            refine w_get cx (ci := 3) rfl iX3 (hP.pa _ _ cM_0) 1 (by decide) k_452 (v := .int (nI (nt S))) rfl dX3_thing_115 ?_
            refine w_ldc cx k_548 dX3_thing_118 ?_
            refine m_iast (n := 40) cx hP hS 6 (by decide) rfl rfl (nt S) rfl (ntlt hW.t c_5) (by decide) dX3_thing_120 (fun H locs hP hS => ?_)
            refine lv_aload_n hx hb dX3_thing_121 rfl (lv_at hl 0 rfl) ?_
            refine lv_dup hx hb dX3_thing_122 rfl ?_
            refine w_get cx (ci := 3) rfl iX3 (hP.pa _ _ cM_0) 1 (by decide) k_452 (v := .int (nI (nt S))) rfl dX3_thing_123 ?_
            refine lv_iconst (v := 1) hx hb dX3_thing_126 (by decide) ?_
            refine lv_iadd hx hb dX3_thing_127 ?_
            refine w_nrm (y := nI (nt S + 1)) (nI_1 _) ?_
            refine m_put cx (setT (setA (setA (setA (setA (setA (setA S 0 (nt S) x) 1 (nt S) y) 2 (nt S) z) 3 (nt S) u) 5 (nt S) ((-1000000))) 6 (nt S) ((-1000000))) (nt S + 1)) hP hS 1 (by decide) k_452 rfl rfl (by decide) rfl (fun _ => rfl) rfl dX3_thing_128 (fun H locs hP hS => ?_)
            refine lv_aload_n hx hb dX3_thing_131 rfl (lv_at hl 0 rfl) ?_
            refine w_get cx (ci := 3) rfl iX3 (hP.pa _ _ cM_0) 1 (by decide) k_452 (v := .int (nI (nt S + 1))) rfl dX3_thing_132 ?_
            refine lv_iconst (v := 1) hx hb dX3_thing_135 (by decide) ?_
            refine lv_isub hx hb dX3_thing_136 ?_
            rw [show f_X3_thing S x y z u = ((nI (nt S + 1)) - 1, (setT (setA (setA (setA (setA (setA (setA S 0 (nt S) x) 1 (nt S) y) 2 (nt S) z) 3 (nt S) u) 5 (nt S) ((-1000000))) 6 (nt S) ((-1000000))) (nt S + 1))) from by rw [f_X3_thing, if_neg c_1, if_neg c_2, if_neg c_3, if_neg c_4, if_neg c_5]]
            exact x_int cx hr hlk (ad' := ad) ⟨rfl, hP⟩ hS dX3_thing_137
          · refine lv_bipush (v := -4) hx hb dX3_thing_55 (by decide) ?_
            rw [show f_X3_thing S x y z u = ((-4), S) from by rw [f_X3_thing, if_neg c_1, if_neg c_2, if_neg c_3, if_neg c_4, if_pos c_5]]
            exact x_int cx hr hlk (ad' := ad) ⟨rfl, hP⟩ hS dX3_thing_57
        · refine lv_iconst (v := -1) hx hb dX3_thing_44 (by decide) ?_
          rw [show f_X3_thing S x y z u = ((-1), S) from by rw [f_X3_thing, if_neg c_1, if_neg c_2, if_neg c_3, if_pos c_4]]
          exact x_int cx hr hlk (ad' := ad) ⟨rfl, hP⟩ hS dX3_thing_45
      · refine lv_bipush (v := -2) hx hb dX3_thing_30 (by decide) ?_
        rw [show f_X3_thing S x y z u = ((-2), S) from by rw [f_X3_thing, if_neg c_1, if_neg c_2, if_pos c_3]]
        exact x_int cx hr hlk (ad' := ad) ⟨rfl, hP⟩ hS dX3_thing_32
set_option maxRecDepth 20000 in
theorem c_X3_draw_out (l : Launch) (G : GG) (ad : Nat → Nat) (S : St) (hW : WF S) {n : Int32} (hn : nT S n) (x : Int32) : MW l yX3_draw cX3_draw 3 (some .int) 2 43 0 0 G ad (cM G ad S) [.ref (ad 0), .int n, .int x] (some (.int (((-1, S) : Int32 × St)).1)) (fun ad' => cM G ad' (((-1, S) : Int32 × St)).2) (fun ad' => ad' = ad) := by
  refine MW.of [(0, .ref (ad 0)), (1, .int n), (2, .int x)] (by decide) (Nat.le_of_ble_eq_true rfl) rfl ?_
  intro p e s m args below meth c A cx hr hlk hnm hA hP ls hl
  have hx := cx.1.1
  have hb := cx.1.2.1
  have hS : va_S A s.heap s.heap [] := va_S.rf
  refine lv_aload_n hx hb dX3_draw_0 rfl (lv_at hl 0 rfl) ?_
  refine lv_iload_n hx hb dX3_draw_1 rfl (lv_at hl 1 rfl) ?_
  refine w_callV (As := [.int n]) (rest := []) (st := [.int 0]) cx (c_X3_isThing_out l G ad S hW hn) k_553 cal_yX3_isThing (ci := 3) rfl (hP.pa _ _ cM_0) hP.pa rfl ⟨Nat.le_of_ble_eq_true rfl, Nat.le_of_ble_eq_true rfl⟩ hl.1 (Nat.le_of_ble_eq_true rfl) ⟨Nat.zero_le _, Nat.zero_le _⟩ rfl rfl dX3_draw_2 ?_
  refine lv_if_ne (tgt := 10) hx hb dX3_draw_5 (by decide) (fun c_1 => ?_) (fun c_1 => ?_)
  · exact absurd (by decide) c_1
  · refine lv_iconst (v := -1) hx hb dX3_draw_8 (by decide) ?_
    exact x_int cx hr hlk (ad' := ad) ⟨rfl, hP⟩ hS dX3_draw_9
def f_X3_draw (S : St) (i : Nat) (x : Int32) : Int32 × St :=
  if f_X3_in x ((-100000)) 100000 = 0 then ((-2), S)
  else if ar S 0 i = 3 then (if ar S 8 i = 3 then ((-4), S)
    else ((ar S 8 i) + 1, (setA (setA S 9 (3 * i + ix (ar S 8 i)) x) 8 i ((ar S 8 i) + 1))))
  else ((-3), S)
set_option maxRecDepth 20000 in
theorem c_X3_draw (l : Launch) (G : GG) (ad : Nat → Nat) (S : St) (hW : WF S) {i : Nat} (hi : i < nt S) (x : Int32) : MW l yX3_draw cX3_draw 3 (some .int) 2 43 0 0 G ad (cM G ad S) [.ref (ad 0), .int (nI i), .int x] (some (.int (f_X3_draw S i x).1)) (fun ad' => cM G ad' (f_X3_draw S i x).2) (fun ad' => ad' = ad) := by
  refine MW.of [(0, .ref (ad 0)), (1, .int (nI i)), (2, .int x)] (by decide) (Nat.le_of_ble_eq_true rfl) rfl ?_
  intro p e s m args below meth c A cx hr hlk hnm hA hP ls hl
  have hx := cx.1.1
  have hb := cx.1.2.1
  have hS : va_S A s.heap s.heap [] := va_S.rf
  refine lv_aload_n hx hb dX3_draw_0 rfl (lv_at hl 0 rfl) ?_
  refine lv_iload_n hx hb dX3_draw_1 rfl (lv_at hl 1 rfl) ?_
  refine w_callV (As := [.int (nI i)]) (rest := []) (st := [.int 1]) cx (c_X3_isThing_in l G ad S hW hi) k_553 cal_yX3_isThing (ci := 3) rfl (hP.pa _ _ cM_0) hP.pa rfl ⟨Nat.le_of_ble_eq_true rfl, Nat.le_of_ble_eq_true rfl⟩ hl.1 (Nat.le_of_ble_eq_true rfl) ⟨Nat.zero_le _, Nat.zero_le _⟩ rfl rfl dX3_draw_2 ?_
  refine lv_if_ne (tgt := 10) hx hb dX3_draw_5 (by decide) (fun c_1 => ?_) (fun c_1 => ?_)
  · refine lv_iload_n hx hb dX3_draw_10 rfl (lv_at hl 2 rfl) ?_
    refine w_ldc cx k_561 dX3_draw_11 ?_
    refine w_ldc cx k_562 dX3_draw_13 ?_
    refine w_callS (As := [.int x, .int ((-100000)), .int 100000]) (rest := []) (st := [.int (f_X3_in x ((-100000)) 100000)]) cx (c_X3_in l G ad _ x ((-100000)) 100000) k_541 cal_yX3_in hP.pa rfl ⟨Nat.le_of_ble_eq_true rfl, Nat.le_of_ble_eq_true rfl⟩ hl.1 (Nat.le_of_ble_eq_true rfl) ⟨Nat.zero_le _, Nat.zero_le _⟩ rfl rfl dX3_draw_15 ?_
    refine lv_if_ne (tgt := 24) hx hb dX3_draw_18 (by decide) (fun c_2 => ?_) (fun c_2 => ?_)
    · refine lv_aload_n hx hb dX3_draw_24 rfl (lv_at hl 0 rfl) ?_
      refine w_get cx (ci := 3) rfl iX3 (hP.pa _ _ cM_0) 2 (by decide) k_453 (v := .ref (ad 1)) rfl dX3_draw_25 ?_
      refine lv_iload_n hx hb dX3_draw_28 rfl (lv_at hl 1 rfl) ?_
      refine w_iald cx (hP.pa _ _ (cM_A (n := 40) 0 (by decide) rfl rfl)) i rfl (Nat.lt_of_lt_of_le hi hW.t) (by decide) dX3_draw_29 ?_
      refine lv_iconst (v := 3) hx hb dX3_draw_30 (by decide) ?_
      refine lv_icmp_eq (tgt := 37) hx hb dX3_draw_31 (by decide) (fun c_3 => ?_) (fun c_3 => ?_)
      · refine lv_aload_n hx hb dX3_draw_37 rfl (lv_at hl 0 rfl) ?_
        refine w_get cx (ci := 3) rfl iX3 (hP.pa _ _ cM_0) 10 (by decide) k_461 (v := .ref (ad 9)) rfl dX3_draw_38 ?_
        refine lv_iload_n hx hb dX3_draw_41 rfl (lv_at hl 1 rfl) ?_
        refine w_iald cx (hP.pa _ _ (cM_A (n := 40) 8 (by decide) rfl rfl)) i rfl (Nat.lt_of_lt_of_le hi hW.t) (by decide) dX3_draw_42 ?_
        refine lv_iconst (v := 3) hx hb dX3_draw_43 (by decide) ?_
        refine lv_icmp_ne (tgt := 50) hx hb dX3_draw_44 (by decide) (fun c_4 => ?_) (fun c_4 => ?_)
        · refine lv_aload_n hx hb dX3_draw_50 rfl (lv_at hl 0 rfl) ?_
          refine w_get cx (ci := 3) rfl iX3 (hP.pa _ _ cM_0) 11 (by decide) k_462 (v := .ref (ad 10)) rfl dX3_draw_51 ?_
          refine lv_iconst (v := 3) hx hb dX3_draw_54 (by decide) ?_
          refine lv_iload_n hx hb dX3_draw_55 rfl (lv_at hl 1 rfl) ?_
          refine lv_imul hx hb dX3_draw_56 ?_
          refine lv_aload_n hx hb dX3_draw_57 rfl (lv_at hl 0 rfl) ?_
          refine w_get cx (ci := 3) rfl iX3 (hP.pa _ _ cM_0) 10 (by decide) k_461 (v := .ref (ad 9)) rfl dX3_draw_58 ?_
          refine lv_iload_n hx hb dX3_draw_61 rfl (lv_at hl 1 rfl) ?_
          refine w_iald cx (hP.pa _ _ (cM_A (n := 40) 8 (by decide) rfl rfl)) i rfl (Nat.lt_of_lt_of_le hi hW.t) (by decide) dX3_draw_62 ?_
          refine lv_iadd hx hb dX3_draw_63 ?_
          refine lv_iload_n hx hb dX3_draw_64 rfl (lv_at hl 2 rfl) ?_
          refine m_iast (n := 120) cx hP hS 9 (by decide) rfl rfl (3 * i + ix (ar S 8 i)) (ix3d (hW.dc hi).1) (ix3b hi hW.t (hW.dc hi) c_4) (by decide) dX3_draw_65 (fun H locs hP hS => ?_)
          refine lv_aload_n hx hb dX3_draw_66 rfl (lv_at hl 0 rfl) ?_
          refine w_get cx (ci := 3) rfl iX3 (hP.pa _ _ cM_0) 10 (by decide) k_461 (v := .ref (ad 9)) rfl dX3_draw_67 ?_
          refine lv_iload_n hx hb dX3_draw_70 rfl (lv_at hl 1 rfl) ?_
          refine lv_dup2_11 hx hb dX3_draw_71 rfl rfl ?_
          refine w_iald cx (hP.pa _ _ (cM_A (n := 40) 8 (by decide) rfl rfl)) i rfl (Nat.lt_of_lt_of_le hi hW.t) (by decide) dX3_draw_72 ?_
          refine w_nrm (y := ar S 8 i) rfl ?_
          refine lv_iconst (v := 1) hx hb dX3_draw_73 (by decide) ?_
          refine lv_iadd hx hb dX3_draw_74 ?_
          refine m_iast (n := 40) cx hP hS 8 (by decide) rfl rfl i rfl (Nat.lt_of_lt_of_le hi hW.t) (by decide) dX3_draw_75 (fun H locs hP hS => ?_)
          refine lv_aload_n hx hb dX3_draw_76 rfl (lv_at hl 0 rfl) ?_
          refine w_get cx (ci := 3) rfl iX3 (hP.pa _ _ cM_0) 10 (by decide) k_461 (v := .ref (ad 9)) rfl dX3_draw_77 ?_
          refine lv_iload_n hx hb dX3_draw_80 rfl (lv_at hl 1 rfl) ?_
          refine w_iald cx (hP.pa _ _ (cM_A (n := 40) 8 (by decide) rfl rfl)) i rfl (Nat.lt_of_lt_of_le hi hW.t) (by decide) dX3_draw_81 ?_
          refine w_nrm (y := (ar S 8 i) + 1) (ar_same _ _ _ _) ?_
          rw [show f_X3_draw S i x = ((ar S 8 i) + 1, (setA (setA S 9 (3 * i + ix (ar S 8 i)) x) 8 i ((ar S 8 i) + 1))) from by rw [f_X3_draw, if_neg c_2, if_pos c_3, if_neg c_4]]
          exact x_int cx hr hlk (ad' := ad) ⟨rfl, hP⟩ hS dX3_draw_82
        · refine lv_bipush (v := -4) hx hb dX3_draw_47 (by decide) ?_
          rw [show f_X3_draw S i x = ((-4), S) from by rw [f_X3_draw, if_neg c_2, if_pos c_3, if_pos c_4]]
          exact x_int cx hr hlk (ad' := ad) ⟨rfl, hP⟩ hS dX3_draw_49
      · refine lv_bipush (v := -3) hx hb dX3_draw_34 (by decide) ?_
        rw [show f_X3_draw S i x = ((-3), S) from by rw [f_X3_draw, if_neg c_2, if_neg c_3]]
        exact x_int cx hr hlk (ad' := ad) ⟨rfl, hP⟩ hS dX3_draw_36
    · refine lv_bipush (v := -2) hx hb dX3_draw_21 (by decide) ?_
      rw [show f_X3_draw S i x = ((-2), S) from by rw [f_X3_draw, if_pos c_2]]
      exact x_int cx hr hlk (ad' := ad) ⟨rfl, hP⟩ hS dX3_draw_23
  · exact absurd c_1 (by decide)
set_option maxRecDepth 20000 in
theorem c_X3_allow_out (l : Launch) (G : GG) (ad : Nat → Nat) (S : St) (hW : WF S) {n : Int32} (hn : f_X3_in n 1 3 = 0) (b x : Int32) : MW l yX3_allow cX3_allow 5 (some .int) 1 22 0 0 G ad (cM G ad S) [.ref (ad 0), .int n, .int b, .int x] (some (.int (((-2, S) : Int32 × St)).1)) (fun ad' => cM G ad' (((-2, S) : Int32 × St)).2) (fun ad' => ad' = ad) := by
  refine MW.of [(0, .ref (ad 0)), (1, .int n), (2, .int b), (3, .int x)] (by decide) (Nat.le_of_ble_eq_true rfl) rfl ?_
  intro p e s m args below meth c A cx hr hlk hnm hA hP ls hl
  have hx := cx.1.1
  have hb := cx.1.2.1
  have hS : va_S A s.heap s.heap [] := va_S.rf
  refine lv_iload_n hx hb dX3_allow_0 rfl (lv_at hl 1 rfl) ?_
  refine lv_iconst (v := 1) hx hb dX3_allow_1 (by decide) ?_
  refine lv_iconst (v := 3) hx hb dX3_allow_2 (by decide) ?_
  refine w_callS (As := [.int n, .int 1, .int 3]) (rest := []) (st := [.int (f_X3_in n 1 3)]) cx (c_X3_in l G ad _ n 1 3) k_541 cal_yX3_in hP.pa rfl ⟨Nat.le_of_ble_eq_true rfl, Nat.le_of_ble_eq_true rfl⟩ hl.1 (Nat.le_of_ble_eq_true rfl) ⟨Nat.zero_le _, Nat.zero_le _⟩ rfl rfl dX3_allow_3 ?_
  refine lv_if_eq (tgt := 19) hx hb dX3_allow_6 (by decide) (fun c_1 => ?_) (fun c_1 => ?_)
  · refine lv_bipush (v := -2) hx hb dX3_allow_19 (by decide) ?_
    exact x_int cx hr hlk (ad' := ad) ⟨rfl, hP⟩ hS dX3_allow_21
  · exact absurd hn c_1
def f_X3_allow (S : St) (k : Nat) (b x : Int32) : Int32 × St :=
  if f_X3_in x 0 100000 = 0 then ((-2), S)
  else if b = 0 then (ar S 11 k, (setA S 11 k x))
  else (ar S 10 k, (setA S 10 k x))
set_option maxRecDepth 20000 in
theorem c_X3_allow (l : Launch) (G : GG) (ad : Nat → Nat) (S : St) (hW : WF S) {k : Nat} (h1 : 1 ≤ k) (h3 : k ≤ 3) (b x : Int32) : MW l yX3_allow cX3_allow 5 (some .int) 1 22 0 0 G ad (cM G ad S) [.ref (ad 0), .int (nI k), .int b, .int x] (some (.int (f_X3_allow S k b x).1)) (fun ad' => cM G ad' (f_X3_allow S k b x).2) (fun ad' => ad' = ad) := by
  refine MW.of [(0, .ref (ad 0)), (1, .int (nI k)), (2, .int b), (3, .int x)] (by decide) (Nat.le_of_ble_eq_true rfl) rfl ?_
  intro p e s m args below meth c A cx hr hlk hnm hA hP ls hl
  have hx := cx.1.1
  have hb := cx.1.2.1
  have hS : va_S A s.heap s.heap [] := va_S.rf
  refine lv_iload_n hx hb dX3_allow_0 rfl (lv_at hl 1 rfl) ?_
  refine lv_iconst (v := 1) hx hb dX3_allow_1 (by decide) ?_
  refine lv_iconst (v := 3) hx hb dX3_allow_2 (by decide) ?_
  refine w_callS (As := [.int (nI k), .int 1, .int 3]) (rest := []) (st := [.int (f_X3_in (nI k) 1 3)]) cx (c_X3_in l G ad _ (nI k) 1 3) k_541 cal_yX3_in hP.pa rfl ⟨Nat.le_of_ble_eq_true rfl, Nat.le_of_ble_eq_true rfl⟩ hl.1 (Nat.le_of_ble_eq_true rfl) ⟨Nat.zero_le _, Nat.zero_le _⟩ rfl rfl dX3_allow_3 ?_
  refine lv_if_eq (tgt := 19) hx hb dX3_allow_6 (by decide) (fun c_1 => ?_) (fun c_1 => ?_)
  · exact absurd c_1 (nI_within (a := 1) (b := 3) h1 h3 (by decide))
  · refine lv_iload_n hx hb dX3_allow_9 rfl (lv_at hl 3 rfl) ?_
    refine lv_iconst (v := 0) hx hb dX3_allow_10 (by decide) ?_
    refine w_ldc cx k_562 dX3_allow_11 ?_
    refine w_callS (As := [.int x, .int 0, .int 100000]) (rest := []) (st := [.int (f_X3_in x 0 100000)]) cx (c_X3_in l G ad _ x 0 100000) k_541 cal_yX3_in hP.pa rfl ⟨Nat.le_of_ble_eq_true rfl, Nat.le_of_ble_eq_true rfl⟩ hl.1 (Nat.le_of_ble_eq_true rfl) ⟨Nat.zero_le _, Nat.zero_le _⟩ rfl rfl dX3_allow_13 ?_
    refine lv_if_ne (tgt := 22) hx hb dX3_allow_16 (by decide) (fun c_2 => ?_) (fun c_2 => ?_)
    · refine lv_iload_n hx hb dX3_allow_22 rfl (lv_at hl 2 rfl) ?_
      refine lv_if_eq (tgt := 35) hx hb dX3_allow_23 (by decide) (fun c_3 => ?_) (fun c_3 => ?_)
      · refine lv_aload_n hx hb dX3_allow_35 rfl (lv_at hl 0 rfl) ?_
        refine w_get cx (ci := 3) rfl iX3 (hP.pa _ _ cM_0) 13 (by decide) k_464 (v := .ref (ad 12)) rfl dX3_allow_36 ?_
        refine lv_iload_n hx hb dX3_allow_39 rfl (lv_at hl 1 rfl) ?_
        refine w_iald cx (hP.pa _ _ (cM_A (n := 4) 11 (by decide) rfl rfl)) k rfl (Nat.lt_succ_of_le h3) (by decide) dX3_allow_40 ?_
        refine lv_istore (lv' := [(4, .int (ar S 11 k)), (0, .ref (ad 0)), (1, .int (nI k)), (2, .int b), (3, .int x)]) hx hb dX3_allow_41 hl (by decide) rfl (fun ls hl => ?_)
        refine lv_iload_n hx hb dX3_allow_43 rfl (lv_at hl 3 rfl) ?_
        refine lv_if_eq (tgt := 57) hx hb dX3_allow_44 (by decide) (fun c_4 => ?_) (fun c_4 => ?_)
        · refine lv_aload_n hx hb dX3_allow_57 rfl (lv_at hl 1 rfl) ?_
          refine w_get cx (ci := 3) rfl iX3 (hP.pa _ _ cM_0) 13 (by decide) k_464 (v := .ref (ad 12)) rfl dX3_allow_58 ?_
          refine lv_iload_n hx hb dX3_allow_61 rfl (lv_at hl 2 rfl) ?_
          refine lv_iload_n hx hb dX3_allow_62 rfl (lv_at hl 4 rfl) ?_
          refine m_iast (n := 4) cx hP hS 11 (by decide) rfl rfl k rfl (Nat.lt_succ_of_le h3) (by decide) dX3_allow_63 (fun H locs hP hS => ?_)
          refine lv_iload hx hb dX3_allow_64 (lv_at hl 0 rfl) ?_
          rw [show f_X3_allow S k b x = (ar S 11 k, (setA S 11 k x)) from by rw [f_X3_allow, if_neg c_2, if_pos c_3]]
          exact x_int cx hr hlk (ad' := ad) ⟨rfl, hP⟩ hS dX3_allow_66
        · exact absurd c_3 c_4
      · refine lv_aload_n hx hb dX3_allow_26 rfl (lv_at hl 0 rfl) ?_
        refine w_get cx (ci := 3) rfl iX3 (hP.pa _ _ cM_0) 12 (by decide) k_463 (v := .ref (ad 11)) rfl dX3_allow_27 ?_
        refine lv_iload_n hx hb dX3_allow_30 rfl (lv_at hl 1 rfl) ?_
        refine w_iald cx (hP.pa _ _ (cM_A (n := 4) 10 (by decide) rfl rfl)) k rfl (Nat.lt_succ_of_le h3) (by decide) dX3_allow_31 ?_
        refine lv_goto (tgt := 41) hx hb dX3_allow_32 (by decide) ?_
        refine lv_istore (lv' := [(4, .int (ar S 10 k)), (0, .ref (ad 0)), (1, .int (nI k)), (2, .int b), (3, .int x)]) hx hb dX3_allow_41 hl (by decide) rfl (fun ls hl => ?_)
        refine lv_iload_n hx hb dX3_allow_43 rfl (lv_at hl 3 rfl) ?_
        refine lv_if_eq (tgt := 57) hx hb dX3_allow_44 (by decide) (fun c_5 => ?_) (fun c_5 => ?_)
        · exact absurd c_5 c_3
        · refine lv_aload_n hx hb dX3_allow_47 rfl (lv_at hl 1 rfl) ?_
          refine w_get cx (ci := 3) rfl iX3 (hP.pa _ _ cM_0) 12 (by decide) k_463 (v := .ref (ad 11)) rfl dX3_allow_48 ?_
          refine lv_iload_n hx hb dX3_allow_51 rfl (lv_at hl 2 rfl) ?_
          refine lv_iload_n hx hb dX3_allow_52 rfl (lv_at hl 4 rfl) ?_
          refine m_iast (n := 4) cx hP hS 10 (by decide) rfl rfl k rfl (Nat.lt_succ_of_le h3) (by decide) dX3_allow_53 (fun H locs hP hS => ?_)
          refine lv_goto (tgt := 64) hx hb dX3_allow_54 (by decide) ?_
          refine lv_iload hx hb dX3_allow_64 (lv_at hl 0 rfl) ?_
          rw [show f_X3_allow S k b x = (ar S 10 k, (setA S 10 k x)) from by rw [f_X3_allow, if_neg c_2, if_neg c_3]]
          exact x_int cx hr hlk (ad' := ad) ⟨rfl, hP⟩ hS dX3_allow_66
    · refine lv_bipush (v := -2) hx hb dX3_allow_19 (by decide) ?_
      rw [show f_X3_allow S k b x = ((-2), S) from by rw [f_X3_allow, if_pos c_2]]
      exact x_int cx hr hlk (ad' := ad) ⟨rfl, hP⟩ hS dX3_allow_21
set_option maxRecDepth 20000 in
theorem c_X3_move_out (l : Launch) (G : GG) (ad : Nat → Nat) (S : St) (hW : WF S) {n : Int32} (hn : nT S n) (x : Int32) : MW l yX3_move cX3_move 4 (some .int) 2 43 0 0 G ad (cM G ad S) [.ref (ad 0), .int n, .int x] (some (.int (((-1, S) : Int32 × St)).1)) (fun ad' => cM G ad' (((-1, S) : Int32 × St)).2) (fun ad' => ad' = ad) := by
  refine MW.of [(0, .ref (ad 0)), (1, .int n), (2, .int x)] (by decide) (Nat.le_of_ble_eq_true rfl) rfl ?_
  intro p e s m args below meth c A cx hr hlk hnm hA hP ls hl
  have hx := cx.1.1
  have hb := cx.1.2.1
  have hS : va_S A s.heap s.heap [] := va_S.rf
  refine lv_aload_n hx hb dX3_move_0 rfl (lv_at hl 0 rfl) ?_
  refine lv_iload_n hx hb dX3_move_1 rfl (lv_at hl 1 rfl) ?_
  refine w_callV (As := [.int n]) (rest := []) (st := [.int 0]) cx (c_X3_isThing_out l G ad S hW hn) k_553 cal_yX3_isThing (ci := 3) rfl (hP.pa _ _ cM_0) hP.pa rfl ⟨Nat.le_of_ble_eq_true rfl, Nat.le_of_ble_eq_true rfl⟩ hl.1 (Nat.le_of_ble_eq_true rfl) ⟨Nat.zero_le _, Nat.zero_le _⟩ rfl rfl dX3_move_2 ?_
  refine lv_if_eq (tgt := 18) hx hb dX3_move_5 (by decide) (fun c_1 => ?_) (fun c_1 => ?_)
  · refine lv_iconst (v := -1) hx hb dX3_move_18 (by decide) ?_
    exact x_int cx hr hlk (ad' := ad) ⟨rfl, hP⟩ hS dX3_move_19
  · exact absurd (by decide) c_1
def f_X3_move (S : St) (i : Nat) (x : Int32) : Int32 × St :=
  if f_X3_in x 0 9 = 0 then ((-1), S)
  else if f_X3_isTool S i = 0 then ((-3), S)
  else (ar S 3 i, (setA (setA S 3 i x) 6 i ((-1000000))))
set_option maxRecDepth 20000 in
theorem c_X3_move (l : Launch) (G : GG) (ad : Nat → Nat) (S : St) (hW : WF S) {i : Nat} (hi : i < nt S) (x : Int32) : MW l yX3_move cX3_move 4 (some .int) 2 43 0 0 G ad (cM G ad S) [.ref (ad 0), .int (nI i), .int x] (some (.int (f_X3_move S i x).1)) (fun ad' => cM G ad' (f_X3_move S i x).2) (fun ad' => ad' = ad) := by
  refine MW.of [(0, .ref (ad 0)), (1, .int (nI i)), (2, .int x)] (by decide) (Nat.le_of_ble_eq_true rfl) rfl ?_
  intro p e s m args below meth c A cx hr hlk hnm hA hP ls hl
  have hx := cx.1.1
  have hb := cx.1.2.1
  have hS : va_S A s.heap s.heap [] := va_S.rf
  refine lv_aload_n hx hb dX3_move_0 rfl (lv_at hl 0 rfl) ?_
  refine lv_iload_n hx hb dX3_move_1 rfl (lv_at hl 1 rfl) ?_
  refine w_callV (As := [.int (nI i)]) (rest := []) (st := [.int 1]) cx (c_X3_isThing_in l G ad S hW hi) k_553 cal_yX3_isThing (ci := 3) rfl (hP.pa _ _ cM_0) hP.pa rfl ⟨Nat.le_of_ble_eq_true rfl, Nat.le_of_ble_eq_true rfl⟩ hl.1 (Nat.le_of_ble_eq_true rfl) ⟨Nat.zero_le _, Nat.zero_le _⟩ rfl rfl dX3_move_2 ?_
  refine lv_if_eq (tgt := 18) hx hb dX3_move_5 (by decide) (fun c_1 => ?_) (fun c_1 => ?_)
  · exact absurd c_1 (by decide)
  · refine lv_iload_n hx hb dX3_move_8 rfl (lv_at hl 2 rfl) ?_
    refine lv_iconst (v := 0) hx hb dX3_move_9 (by decide) ?_
    refine lv_bipush (v := 9) hx hb dX3_move_10 (by decide) ?_
    refine w_callS (As := [.int x, .int 0, .int 9]) (rest := []) (st := [.int (f_X3_in x 0 9)]) cx (c_X3_in l G ad _ x 0 9) k_541 cal_yX3_in hP.pa rfl ⟨Nat.le_of_ble_eq_true rfl, Nat.le_of_ble_eq_true rfl⟩ hl.1 (Nat.le_of_ble_eq_true rfl) ⟨Nat.zero_le _, Nat.zero_le _⟩ rfl rfl dX3_move_12 ?_
    refine lv_if_ne (tgt := 20) hx hb dX3_move_15 (by decide) (fun c_2 => ?_) (fun c_2 => ?_)
    · refine lv_aload_n hx hb dX3_move_20 rfl (lv_at hl 0 rfl) ?_
      refine lv_iload_n hx hb dX3_move_21 rfl (lv_at hl 1 rfl) ?_
      refine w_callV (As := [.int (nI i)]) (rest := []) (st := [.int (f_X3_isTool S i)]) cx (c_X3_isTool l G ad S hW (i := i) hi) k_571 cal_yX3_isTool (ci := 3) rfl (hP.pa _ _ cM_0) hP.pa rfl ⟨Nat.le_of_ble_eq_true rfl, Nat.le_of_ble_eq_true rfl⟩ hl.1 (Nat.le_of_ble_eq_true rfl) ⟨Nat.zero_le _, Nat.zero_le _⟩ rfl rfl dX3_move_22 ?_
      refine lv_if_ne (tgt := 31) hx hb dX3_move_25 (by decide) (fun c_3 => ?_) (fun c_3 => ?_)
      · refine lv_aload_n hx hb dX3_move_31 rfl (lv_at hl 0 rfl) ?_
        refine w_get cx (ci := 3) rfl iX3 (hP.pa _ _ cM_0) 5 (by decide) k_456 (v := .ref (ad 4)) rfl dX3_move_32 ?_
        refine lv_iload_n hx hb dX3_move_35 rfl (lv_at hl 1 rfl) ?_
        refine w_iald cx (hP.pa _ _ (cM_A (n := 40) 3 (by decide) rfl rfl)) i rfl (Nat.lt_of_lt_of_le hi hW.t) (by decide) dX3_move_36 ?_
        refine lv_istore_n (lv' := [(3, .int (ar S 3 i)), (0, .ref (ad 0)), (1, .int (nI i)), (2, .int x)]) hx hb dX3_move_37 rfl hl (by decide) rfl (fun ls hl => ?_)
        refine lv_aload_n hx hb dX3_move_38 rfl (lv_at hl 1 rfl) ?_
        refine w_get cx (ci := 3) rfl iX3 (hP.pa _ _ cM_0) 5 (by decide) k_456 (v := .ref (ad 4)) rfl dX3_move_39 ?_
        refine lv_iload_n hx hb dX3_move_42 rfl (lv_at hl 2 rfl) ?_
        refine lv_iload_n hx hb dX3_move_43 rfl (lv_at hl 3 rfl) ?_
        refine m_iast (n := 40) cx hP hS 3 (by decide) rfl rfl i rfl (Nat.lt_of_lt_of_le hi hW.t) (by decide) dX3_move_44 (fun H locs hP hS => ?_)
        refine lv_aload_n hx hb dX3_move_45 rfl (lv_at hl 1 rfl) ?_
        refine w_get cx (ci := 3) rfl iX3 (hP.pa _ _ cM_0) 8 (by decide) k_459 (v := .ref (ad 7)) rfl dX3_move_46 ?_
        refine lv_iload_n hx hb dX3_move_49 rfl (lv_at hl 2 rfl) ?_
        refine w_ldc cx k_548 dX3_move_50 ?_
        refine m_iast (n := 40) cx hP hS 6 (by decide) rfl rfl i rfl (Nat.lt_of_lt_of_le hi hW.t) (by decide) dX3_move_52 (fun H locs hP hS => ?_)
        refine lv_iload_n hx hb dX3_move_53 rfl (lv_at hl 0 rfl) ?_
        rw [show f_X3_move S i x = (ar S 3 i, (setA (setA S 3 i x) 6 i ((-1000000)))) from by rw [f_X3_move, if_neg c_2, if_neg c_3]]
        exact x_int cx hr hlk (ad' := ad) ⟨rfl, hP⟩ hS dX3_move_54
      · refine lv_bipush (v := -3) hx hb dX3_move_28 (by decide) ?_
        rw [show f_X3_move S i x = ((-3), S) from by rw [f_X3_move, if_neg c_2, if_pos c_3]]
        exact x_int cx hr hlk (ad' := ad) ⟨rfl, hP⟩ hS dX3_move_30
    · refine lv_iconst (v := -1) hx hb dX3_move_18 (by decide) ?_
      rw [show f_X3_move S i x = ((-1), S) from by rw [f_X3_move, if_pos c_2]]
      exact x_int cx hr hlk (ad' := ad) ⟨rfl, hP⟩ hS dX3_move_19
set_option maxRecDepth 20000 in
theorem c_X3_seal_out (l : Launch) (G : GG) (ad : Nat → Nat) (S : St) (hW : WF S) {n : Int32} (hn : nT S n) (x : Int32) : MW l yX3_seal cX3_seal 3 (some .int) 2 43 0 0 G ad (cM G ad S) [.ref (ad 0), .int n, .int x] (some (.int (((-1, S) : Int32 × St)).1)) (fun ad' => cM G ad' (((-1, S) : Int32 × St)).2) (fun ad' => ad' = ad) := by
  refine MW.of [(0, .ref (ad 0)), (1, .int n), (2, .int x)] (by decide) (Nat.le_of_ble_eq_true rfl) rfl ?_
  intro p e s m args below meth c A cx hr hlk hnm hA hP ls hl
  have hx := cx.1.1
  have hb := cx.1.2.1
  have hS : va_S A s.heap s.heap [] := va_S.rf
  refine lv_aload_n hx hb dX3_seal_0 rfl (lv_at hl 0 rfl) ?_
  refine lv_iload_n hx hb dX3_seal_1 rfl (lv_at hl 1 rfl) ?_
  refine w_callV (As := [.int n]) (rest := []) (st := [.int 0]) cx (c_X3_isThing_out l G ad S hW hn) k_553 cal_yX3_isThing (ci := 3) rfl (hP.pa _ _ cM_0) hP.pa rfl ⟨Nat.le_of_ble_eq_true rfl, Nat.le_of_ble_eq_true rfl⟩ hl.1 (Nat.le_of_ble_eq_true rfl) ⟨Nat.zero_le _, Nat.zero_le _⟩ rfl rfl dX3_seal_2 ?_
  refine lv_if_ne (tgt := 10) hx hb dX3_seal_5 (by decide) (fun c_1 => ?_) (fun c_1 => ?_)
  · exact absurd (by decide) c_1
  · refine lv_iconst (v := -1) hx hb dX3_seal_8 (by decide) ?_
    exact x_int cx hr hlk (ad' := ad) ⟨rfl, hP⟩ hS dX3_seal_9
set_option maxRecDepth 20000 in
theorem c_X3_seal_far (l : Launch) (G : GG) (ad : Nat → Nat) (S : St) (hW : WF S) {i : Nat} (hi : i < nt S) {n : Int32} (hn : f_X3_in n 1 9999 = 0) : MW l yX3_seal cX3_seal 3 (some .int) 2 43 0 0 G ad (cM G ad S) [.ref (ad 0), .int (nI i), .int n] (some (.int (((-2, S) : Int32 × St)).1)) (fun ad' => cM G ad' (((-2, S) : Int32 × St)).2) (fun ad' => ad' = ad) := by
  refine MW.of [(0, .ref (ad 0)), (1, .int (nI i)), (2, .int n)] (by decide) (Nat.le_of_ble_eq_true rfl) rfl ?_
  intro p e s m args below meth c A cx hr hlk hnm hA hP ls hl
  have hx := cx.1.1
  have hb := cx.1.2.1
  have hS : va_S A s.heap s.heap [] := va_S.rf
  refine lv_aload_n hx hb dX3_seal_0 rfl (lv_at hl 0 rfl) ?_
  refine lv_iload_n hx hb dX3_seal_1 rfl (lv_at hl 1 rfl) ?_
  refine w_callV (As := [.int (nI i)]) (rest := []) (st := [.int 1]) cx (c_X3_isThing_in l G ad S hW hi) k_553 cal_yX3_isThing (ci := 3) rfl (hP.pa _ _ cM_0) hP.pa rfl ⟨Nat.le_of_ble_eq_true rfl, Nat.le_of_ble_eq_true rfl⟩ hl.1 (Nat.le_of_ble_eq_true rfl) ⟨Nat.zero_le _, Nat.zero_le _⟩ rfl rfl dX3_seal_2 ?_
  refine lv_if_ne (tgt := 10) hx hb dX3_seal_5 (by decide) (fun c_1 => ?_) (fun c_1 => ?_)
  · refine lv_iload_n hx hb dX3_seal_10 rfl (lv_at hl 2 rfl) ?_
    refine lv_iconst (v := 1) hx hb dX3_seal_11 (by decide) ?_
    refine lv_sipush (v := 9999) hx hb dX3_seal_12 (by decide) ?_
    refine w_callS (As := [.int n, .int 1, .int 9999]) (rest := []) (st := [.int (f_X3_in n 1 9999)]) cx (c_X3_in l G ad _ n 1 9999) k_541 cal_yX3_in hP.pa rfl ⟨Nat.le_of_ble_eq_true rfl, Nat.le_of_ble_eq_true rfl⟩ hl.1 (Nat.le_of_ble_eq_true rfl) ⟨Nat.zero_le _, Nat.zero_le _⟩ rfl rfl dX3_seal_15 ?_
    refine lv_if_ne (tgt := 24) hx hb dX3_seal_18 (by decide) (fun c_2 => ?_) (fun c_2 => ?_)
    · exact absurd hn c_2
    · refine lv_bipush (v := -2) hx hb dX3_seal_21 (by decide) ?_
      exact x_int cx hr hlk (ad' := ad) ⟨rfl, hP⟩ hS dX3_seal_23
  · exact absurd c_1 (by decide)
def f_X3_seal (S : St) (i k : Nat) : Int32 × St :=
  if f_X3_isTool S i = 0 then ((-3), S)
  else if f_X3_judgedOn S i (sc S 0) = 1 then (if ar S 12 k = 0 then (1, (setA (setA S 12 k 1) 6 i (nI k)))
    else ((-3), S))
  else ((-3), S)
set_option maxRecDepth 20000 in
theorem c_X3_seal (l : Launch) (G : GG) (ad : Nat → Nat) (S : St) (hW : WF S) {i : Nat} (hi : i < nt S) {k : Nat} (h1 : 1 ≤ k) (hk : k < 10000) : MW l yX3_seal cX3_seal 3 (some .int) 2 47 0 0 G ad (cM G ad S) [.ref (ad 0), .int (nI i), .int (nI k)] (some (.int (f_X3_seal S i k).1)) (fun ad' => cM G ad' (f_X3_seal S i k).2) (fun ad' => ad' = ad) := by
  refine MW.of [(0, .ref (ad 0)), (1, .int (nI i)), (2, .int (nI k))] (by decide) (Nat.le_of_ble_eq_true rfl) rfl ?_
  intro p e s m args below meth c A cx hr hlk hnm hA hP ls hl
  have hx := cx.1.1
  have hb := cx.1.2.1
  have hS : va_S A s.heap s.heap [] := va_S.rf
  refine lv_aload_n hx hb dX3_seal_0 rfl (lv_at hl 0 rfl) ?_
  refine lv_iload_n hx hb dX3_seal_1 rfl (lv_at hl 1 rfl) ?_
  refine w_callV (As := [.int (nI i)]) (rest := []) (st := [.int 1]) cx (c_X3_isThing_in l G ad S hW hi) k_553 cal_yX3_isThing (ci := 3) rfl (hP.pa _ _ cM_0) hP.pa rfl ⟨Nat.le_of_ble_eq_true rfl, Nat.le_of_ble_eq_true rfl⟩ hl.1 (Nat.le_of_ble_eq_true rfl) ⟨Nat.zero_le _, Nat.zero_le _⟩ rfl rfl dX3_seal_2 ?_
  refine lv_if_ne (tgt := 10) hx hb dX3_seal_5 (by decide) (fun c_1 => ?_) (fun c_1 => ?_)
  · refine lv_iload_n hx hb dX3_seal_10 rfl (lv_at hl 2 rfl) ?_
    refine lv_iconst (v := 1) hx hb dX3_seal_11 (by decide) ?_
    refine lv_sipush (v := 9999) hx hb dX3_seal_12 (by decide) ?_
    refine w_callS (As := [.int (nI k), .int 1, .int 9999]) (rest := []) (st := [.int (f_X3_in (nI k) 1 9999)]) cx (c_X3_in l G ad _ (nI k) 1 9999) k_541 cal_yX3_in hP.pa rfl ⟨Nat.le_of_ble_eq_true rfl, Nat.le_of_ble_eq_true rfl⟩ hl.1 (Nat.le_of_ble_eq_true rfl) ⟨Nat.zero_le _, Nat.zero_le _⟩ rfl rfl dX3_seal_15 ?_
    refine lv_if_ne (tgt := 24) hx hb dX3_seal_18 (by decide) (fun c_2 => ?_) (fun c_2 => ?_)
    · refine lv_aload_n hx hb dX3_seal_24 rfl (lv_at hl 0 rfl) ?_
      refine lv_iload_n hx hb dX3_seal_25 rfl (lv_at hl 1 rfl) ?_
      refine w_callV (As := [.int (nI i)]) (rest := []) (st := [.int (f_X3_isTool S i)]) cx (c_X3_isTool l G ad S hW (i := i) hi) k_571 cal_yX3_isTool (ci := 3) rfl (hP.pa _ _ cM_0) hP.pa rfl ⟨Nat.le_of_ble_eq_true rfl, Nat.le_of_ble_eq_true rfl⟩ hl.1 (Nat.le_of_ble_eq_true rfl) ⟨Nat.zero_le _, Nat.zero_le _⟩ rfl rfl dX3_seal_26 ?_
      refine lv_if_eq (tgt := 54) hx hb dX3_seal_29 (by decide) (fun c_3 => ?_) (fun c_3 => ?_)
      · refine lv_bipush (v := -3) hx hb dX3_seal_54 (by decide) ?_
        rw [show f_X3_seal S i k = ((-3), S) from by rw [f_X3_seal, if_pos c_3]]
        exact x_int cx hr hlk (ad' := ad) ⟨rfl, hP⟩ hS dX3_seal_56
      · refine lv_aload_n hx hb dX3_seal_32 rfl (lv_at hl 0 rfl) ?_
        refine lv_iload_n hx hb dX3_seal_33 rfl (lv_at hl 1 rfl) ?_
        refine lv_aload_n hx hb dX3_seal_34 rfl (lv_at hl 0 rfl) ?_
        refine w_get cx (ci := 3) rfl iX3 (hP.pa _ _ cM_0) 0 (by decide) k_451 (v := .int (sc S 0)) rfl dX3_seal_35 ?_
        refine w_callV (As := [.int (nI i), .int (sc S 0)]) (rest := []) (st := [.int (f_X3_judgedOn S i (sc S 0))]) cx (c_X3_judgedOn l G ad S hW (i := i) hi (sc S 0)) k_643 cal_yX3_judgedOn (ci := 3) rfl (hP.pa _ _ cM_0) hP.pa rfl ⟨Nat.le_of_ble_eq_true rfl, Nat.le_of_ble_eq_true rfl⟩ hl.1 (Nat.le_of_ble_eq_true rfl) ⟨Nat.zero_le _, Nat.zero_le _⟩ rfl rfl dX3_seal_38 ?_
        refine lv_iconst (v := 1) hx hb dX3_seal_41 (by decide) ?_
        refine lv_icmp_ne (tgt := 54) hx hb dX3_seal_42 (by decide) (fun c_4 => ?_) (fun c_4 => ?_)
        · refine lv_bipush (v := -3) hx hb dX3_seal_54 (by decide) ?_
          rw [show f_X3_seal S i k = ((-3), S) from by rw [f_X3_seal, if_neg c_3, if_neg c_4]]
          exact x_int cx hr hlk (ad' := ad) ⟨rfl, hP⟩ hS dX3_seal_56
        · refine lv_aload_n hx hb dX3_seal_45 rfl (lv_at hl 0 rfl) ?_
          refine w_get cx (ci := 3) rfl iX3 (hP.pa _ _ cM_0) 14 (by decide) k_465 (v := .ref (ad 13)) rfl dX3_seal_46 ?_
          refine lv_iload_n hx hb dX3_seal_49 rfl (lv_at hl 2 rfl) ?_
          refine w_zald cx (hP.pa _ _ (cM_A (n := 10000) 12 (by decide) rfl rfl)) k rfl hk (by decide) dX3_seal_50 ?_
          refine lv_if_eq (tgt := 57) hx hb dX3_seal_51 (by decide) (fun c_5 => ?_) (fun c_5 => ?_)
          · refine lv_aload_n hx hb dX3_seal_57 rfl (lv_at hl 0 rfl) ?_
            refine w_get cx (ci := 3) rfl iX3 (hP.pa _ _ cM_0) 14 (by decide) k_465 (v := .ref (ad 13)) rfl dX3_seal_58 ?_
            refine lv_iload_n hx hb dX3_seal_61 rfl (lv_at hl 2 rfl) ?_
            refine lv_iconst (v := 1) hx hb dX3_seal_62 (by decide) ?_
            refine m_zast (n := 10000) cx hP hS 12 (by decide) rfl rfl k rfl hk (by decide) (Or.inr rfl) dX3_seal_63 (fun H locs hP hS => ?_)
            refine lv_aload_n hx hb dX3_seal_64 rfl (lv_at hl 0 rfl) ?_
            refine w_get cx (ci := 3) rfl iX3 (hP.pa _ _ cM_0) 8 (by decide) k_459 (v := .ref (ad 7)) rfl dX3_seal_65 ?_
            refine lv_iload_n hx hb dX3_seal_68 rfl (lv_at hl 1 rfl) ?_
            refine lv_iload_n hx hb dX3_seal_69 rfl (lv_at hl 2 rfl) ?_
            refine m_iast (n := 40) cx hP hS 6 (by decide) rfl rfl i rfl (Nat.lt_of_lt_of_le hi hW.t) (by decide) dX3_seal_70 (fun H locs hP hS => ?_)
            refine lv_iconst (v := 1) hx hb dX3_seal_71 (by decide) ?_
            rw [show f_X3_seal S i k = (1, (setA (setA S 12 k 1) 6 i (nI k))) from by rw [f_X3_seal, if_neg c_3, if_pos c_4, if_pos c_5]]
            exact x_int cx hr hlk (ad' := ad) ⟨rfl, hP⟩ hS dX3_seal_72
          · refine lv_bipush (v := -3) hx hb dX3_seal_54 (by decide) ?_
            rw [show f_X3_seal S i k = ((-3), S) from by rw [f_X3_seal, if_neg c_3, if_pos c_4, if_neg c_5]]
            exact x_int cx hr hlk (ad' := ad) ⟨rfl, hP⟩ hS dX3_seal_56
    · exact absurd c_2 (isN_in h1 hk)
  · exact absurd c_1 (by decide)
