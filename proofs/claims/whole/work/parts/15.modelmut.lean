theorem ar_ne (S : St) (k i : Nat) (v : Int32) {a : Nat} (j : Nat) (h : a ≠ k) : ar (setA S k i v) a j = ar S a j := by rw [ar_setA, if_neg h]
theorem ar_setR (S : St) (n a j : Nat) : ar (setR S n) a j = ar S a j := rfl
theorem ar_setRf (S : St) (n a : Nat) : ar (setR S n) a = ar S a := rfl
theorem ar_setT (S : St) (n a j : Nat) : ar (setT S n) a j = ar S a j := rfl
theorem ar_setS (S : St) (k : Nat) (v : Int32) (a j : Nat) : ar (setS S k v) a j = ar S a j := rfl
theorem ar_setL (S : St) (k : Nat) (v : Int64) (a j : Nat) : ar (setL S k v) a j = ar S a j := rfl
theorem nr_setA (S : St) (k i : Nat) (v : Int32) : nr (setA S k i v) = nr S := rfl
theorem nt_setA (S : St) (k i : Nat) (v : Int32) : nt (setA S k i v) = nt S := rfl
theorem sc_setA (S : St) (k i : Nat) (v : Int32) : sc (setA S k i v) = sc S := rfl
theorem nr_setR (S : St) (n : Nat) : nr (setR S n) = n := rfl
theorem nt_setR (S : St) (n : Nat) : nt (setR S n) = nt S := rfl
theorem sc_setR (S : St) (n : Nat) : sc (setR S n) = sc S := rfl
theorem ntlt {n : Nat} (h : n ≤ 40) (h2 : ¬ nI n = 40) : n < 40 := by
  rcases Nat.lt_or_ge n 40 with q | q
  · exact q
  · exact absurd (by rw [show n = 40 by omega]; decide) h2
theorem ix3d {i : Nat} {x : Int32} (h : x = nI (ix x)) : 3 * nI i + x = nI (3 * i + ix x) := by
  rw [← nI_add, ← pk_mul, ← h]; rfl
theorem ix3b {i n : Nat} {x : Int32} (hi : i < n) (h40 : n ≤ 40) (h : okx x 4) (h3 : ¬ x = 3) : 3 * i + ix x < 120 := by
  have : ix x ≠ 3 := fun e => h3 (by rw [h.1, e]; decide)
  have := h.2
  omega
theorem nrlt {n : Nat} (h : n ≤ 300) (h2 : ¬ nI n = 300) : n < 300 := by
  rcases Nat.lt_or_ge n 300 with q | q
  · exact q
  · exact absurd (by rw [show n = 300 by omega]; decide) h2
theorem WB.add {S S2 : St} {v : Int32} (h : WB S) (hn : nr S2 = nr S + 1) (hb : ar S2 20 = upd (ar S 20) (nr S) v) (hv : ¬ v = -1000000 → okx v (nr S)) : WB S2 := fun n hq hx => by
  rw [hb] at hx ⊢
  unfold upd at hx ⊢
  by_cases e : n = nr S
  · subst e
    rw [if_pos rfl] at hx ⊢
    exact hv hx
  · rw [if_neg e] at hx ⊢
    exact h n (by omega) hx
theorem judged3_la {S : St} {i : Nat} {d : Int32} (h : f_X3_judgedOn S i d = 3) : ¬ ar S 5 i = -1000000 := by
  intro e
  rw [f_X3_judgedOn] at h
  by_cases h0 : ar S 0 i = 0
  · rw [if_pos h0] at h; exact absurd h (by decide)
  · rw [if_neg h0, f_X3_settledNow, if_neg h0, if_pos e, if_pos rfl] at h; exact absurd h (by decide)
def f_X3_pass (S : St) (x : Int32) : Int32 × St :=
  if f_X3_in x 1 5000 = 0 then ((-2), S)
  else if (sc S 0) + x ≤ 20000 then ((sc S 0) + x, (setS S 0 ((sc S 0) + x)))
  else ((-4), S)
set_option maxRecDepth 20000 in
theorem c_X3_pass (l : Launch) (G : GG) (ad : Nat → Nat) (S : St) (hW : WF S) (x : Int32) : MW l yX3_pass cX3_pass 2 (some .int) 1 22 0 0 G ad (cM G ad S) [.ref (ad 0), .int x] (some (.int (f_X3_pass S x).1)) (fun ad' => cM G ad' (f_X3_pass S x).2) (fun ad' => ad' = ad) := by
  refine MW.of [(0, .ref (ad 0)), (1, .int x)] (by decide) (Nat.le_of_ble_eq_true rfl) rfl ?_
  intro p e s m args below meth c A cx hr hlk hnm hA hP ls hl
  have hx := cx.1.1
  have hb := cx.1.2.1
  have hS : va_S A s.heap s.heap [] := va_S.rf
  refine lv_iload_n hx hb dX3_pass_0 rfl (lv_at hl 1 rfl) ?_
  refine lv_iconst (v := 1) hx hb dX3_pass_1 (by decide) ?_
  refine lv_sipush (v := 5000) hx hb dX3_pass_2 (by decide) ?_
  refine w_callS (As := [.int x, .int 1, .int 5000]) (rest := []) (st := [.int (f_X3_in x 1 5000)]) cx (c_X3_in l G ad _ x 1 5000) k_541 cal_yX3_in hP.pa rfl ⟨Nat.le_of_ble_eq_true rfl, Nat.le_of_ble_eq_true rfl⟩ hl.1 (Nat.le_of_ble_eq_true rfl) ⟨Nat.zero_le _, Nat.zero_le _⟩ rfl rfl dX3_pass_5 ?_
  refine lv_if_ne (tgt := 14) hx hb dX3_pass_8 (by decide) (fun c_1 => ?_) (fun c_1 => ?_)
  · refine lv_aload_n hx hb dX3_pass_14 rfl (lv_at hl 0 rfl) ?_
    refine w_get cx (ci := 3) rfl iX3 (hP.pa _ _ cM_0) 0 (by decide) k_451 (v := .int (sc S 0)) rfl dX3_pass_15 ?_
    refine lv_iload_n hx hb dX3_pass_18 rfl (lv_at hl 1 rfl) ?_
    refine lv_iadd hx hb dX3_pass_19 ?_
    refine lv_sipush (v := 20000) hx hb dX3_pass_20 (by decide) ?_
    refine lv_icmp_le (tgt := 29) hx hb dX3_pass_23 (by decide) (fun c_2 => ?_) (fun c_2 => ?_)
    · refine lv_aload_n hx hb dX3_pass_29 rfl (lv_at hl 0 rfl) ?_
      refine lv_dup hx hb dX3_pass_30 rfl ?_
      refine w_get cx (ci := 3) rfl iX3 (hP.pa _ _ cM_0) 0 (by decide) k_451 (v := .int (sc S 0)) rfl dX3_pass_31 ?_
      refine lv_iload_n hx hb dX3_pass_34 rfl (lv_at hl 1 rfl) ?_
      refine lv_iadd hx hb dX3_pass_35 ?_
      refine m_put cx (setS S 0 ((sc S 0) + x)) hP hS 0 (by decide) k_451 rfl rfl (by decide) rfl (fun _ => rfl) rfl dX3_pass_36 (fun H locs hP hS => ?_)
      refine lv_aload_n hx hb dX3_pass_39 rfl (lv_at hl 0 rfl) ?_
      refine w_get cx (ci := 3) rfl iX3 (hP.pa _ _ cM_0) 0 (by decide) k_451 (v := .int ((sc S 0) + x)) rfl dX3_pass_40 ?_
      rw [show f_X3_pass S x = ((sc S 0) + x, (setS S 0 ((sc S 0) + x))) from by rw [f_X3_pass, if_neg c_1, if_pos c_2]]
      exact x_int cx hr hlk (ad' := ad) ⟨rfl, hP⟩ hS dX3_pass_43
    · refine lv_bipush (v := -4) hx hb dX3_pass_26 (by decide) ?_
      rw [show f_X3_pass S x = ((-4), S) from by rw [f_X3_pass, if_neg c_1, if_neg c_2]]
      exact x_int cx hr hlk (ad' := ad) ⟨rfl, hP⟩ hS dX3_pass_28
  · refine lv_bipush (v := -2) hx hb dX3_pass_11 (by decide) ?_
    rw [show f_X3_pass S x = ((-2), S) from by rw [f_X3_pass, if_pos c_1]]
    exact x_int cx hr hlk (ad' := ad) ⟨rfl, hP⟩ hS dX3_pass_13
def f_X3_thing (S : St) (x y z u : Int32) : Int32 × St :=
  if f_X3_in x 0 3 = 0 then ((-2), S)
  else if f_X3_in y 0 100 = 0 then ((-2), S)
  else if f_X3_in z 1 4000 = 0 then ((-2), S)
  else if f_X3_in u 0 9 = 0 then ((-1), S)
  else if nI (nt S) = 40 then ((-4), S)
  else ((nI (nt S + 1)) - 1, (setT (setA (setA (setA (setA (setA (setA S 0 (nt S) x) 1 (nt S) y) 2 (nt S) z) 3 (nt S) u) 5 (nt S) ((-1000000))) 6 (nt S) ((-1000000))) (nt S + 1)))
set_option maxRecDepth 20000 in
theorem c_X3_thing (l : Launch) (G : GG) (ad : Nat → Nat) (S : St) (hW : WF S) (x y z u : Int32) : MW l yX3_thing cX3_thing 5 (some .int) 1 22 0 0 G ad (cM G ad S) [.ref (ad 0), .int x, .int y, .int z, .int u] (some (.int (f_X3_thing S x y z u).1)) (fun ad' => cM G ad' (f_X3_thing S x y z u).2) (fun ad' => ad' = ad) := by
  refine MW.of [(0, .ref (ad 0)), (1, .int x), (2, .int y), (3, .int z), (4, .int u)] (by decide) (Nat.le_of_ble_eq_true rfl) rfl ?_
  intro p e s m args below meth c A cx hr hlk hnm hA hP ls hl
  have hx := cx.1.1
  have hb := cx.1.2.1
  have hS : va_S A s.heap s.heap [] := va_S.rf
  refine lv_iload_n hx hb dX3_thing_0 rfl (lv_at hl 1 rfl) ?_
  refine lv_iconst (v := 0) hx hb dX3_thing_1 (by decide) ?_
  refine lv_iconst (v := 3) hx hb dX3_thing_2 (by decide) ?_
  refine w_callS (As := [.int x, .int 0, .int 3]) (rest := []) (st := [.int (f_X3_in x 0 3)]) cx (c_X3_in l G ad _ x 0 3) k_541 cal_yX3_in hP.pa rfl ⟨Nat.le_of_ble_eq_true rfl, Nat.le_of_ble_eq_true rfl⟩ hl.1 (Nat.le_of_ble_eq_true rfl) ⟨Nat.zero_le _, Nat.zero_le _⟩ rfl rfl dX3_thing_3 ?_
  refine lv_if_eq (tgt := 30) hx hb dX3_thing_6 (by decide) (fun c_1 => ?_) (fun c_1 => ?_)
  · refine lv_bipush (v := -2) hx hb dX3_thing_30 (by decide) ?_
    rw [show f_X3_thing S x y z u = ((-2), S) from by rw [f_X3_thing, if_pos c_1]]
    exact x_int cx hr hlk (ad' := ad) ⟨rfl, hP⟩ hS dX3_thing_32
  · refine lv_iload_n hx hb dX3_thing_9 rfl (lv_at hl 2 rfl) ?_
    refine lv_iconst (v := 0) hx hb dX3_thing_10 (by decide) ?_
    refine lv_bipush (v := 100) hx hb dX3_thing_11 (by decide) ?_
    refine w_callS (As := [.int y, .int 0, .int 100]) (rest := []) (st := [.int (f_X3_in y 0 100)]) cx (c_X3_in l G ad _ y 0 100) k_541 cal_yX3_in hP.pa rfl ⟨Nat.le_of_ble_eq_true rfl, Nat.le_of_ble_eq_true rfl⟩ hl.1 (Nat.le_of_ble_eq_true rfl) ⟨Nat.zero_le _, Nat.zero_le _⟩ rfl rfl dX3_thing_13 ?_
    refine lv_if_eq (tgt := 30) hx hb dX3_thing_16 (by decide) (fun c_2 => ?_) (fun c_2 => ?_)
    · refine lv_bipush (v := -2) hx hb dX3_thing_30 (by decide) ?_
      rw [show f_X3_thing S x y z u = ((-2), S) from by rw [f_X3_thing, if_neg c_1, if_pos c_2]]
      exact x_int cx hr hlk (ad' := ad) ⟨rfl, hP⟩ hS dX3_thing_32
    · refine lv_iload_n hx hb dX3_thing_19 rfl (lv_at hl 3 rfl) ?_
      refine lv_iconst (v := 1) hx hb dX3_thing_20 (by decide) ?_
      refine lv_sipush (v := 4000) hx hb dX3_thing_21 (by decide) ?_
      refine w_callS (As := [.int z, .int 1, .int 4000]) (rest := []) (st := [.int (f_X3_in z 1 4000)]) cx (c_X3_in l G ad _ z 1 4000) k_541 cal_yX3_in hP.pa rfl ⟨Nat.le_of_ble_eq_true rfl, Nat.le_of_ble_eq_true rfl⟩ hl.1 (Nat.le_of_ble_eq_true rfl) ⟨Nat.zero_le _, Nat.zero_le _⟩ rfl rfl dX3_thing_24 ?_
      refine lv_if_ne (tgt := 33) hx hb dX3_thing_27 (by decide) (fun c_3 => ?_) (fun c_3 => ?_)
      · refine lv_iload hx hb dX3_thing_33 (lv_at hl 4 rfl) ?_
        refine lv_iconst (v := 0) hx hb dX3_thing_35 (by decide) ?_
        refine lv_bipush (v := 9) hx hb dX3_thing_36 (by decide) ?_
        refine w_callS (As := [.int u, .int 0, .int 9]) (rest := []) (st := [.int (f_X3_in u 0 9)]) cx (c_X3_in l G ad _ u 0 9) k_541 cal_yX3_in hP.pa rfl ⟨Nat.le_of_ble_eq_true rfl, Nat.le_of_ble_eq_true rfl⟩ hl.1 (Nat.le_of_ble_eq_true rfl) ⟨Nat.zero_le _, Nat.zero_le _⟩ rfl rfl dX3_thing_38 ?_
        refine lv_if_ne (tgt := 46) hx hb dX3_thing_41 (by decide) (fun c_4 => ?_) (fun c_4 => ?_)
        · refine lv_aload_n hx hb dX3_thing_46 rfl (lv_at hl 0 rfl) ?_
          refine w_get cx (ci := 3) rfl iX3 (hP.pa _ _ cM_0) 1 (by decide) k_452 (v := .int (nI (nt S))) rfl dX3_thing_47 ?_
          refine lv_bipush (v := 40) hx hb dX3_thing_50 (by decide) ?_
          refine lv_icmp_ne (tgt := 58) hx hb dX3_thing_52 (by decide) (fun c_5 => ?_) (fun c_5 => ?_)
          · refine lv_aload_n hx hb dX3_thing_58 rfl (lv_at hl 0 rfl) ?_
            refine w_get cx (ci := 3) rfl iX3 (hP.pa _ _ cM_0) 2 (by decide) k_453 (v := .ref (ad 1)) rfl dX3_thing_59 ?_
            refine lv_aload_n hx hb dX3_thing_62 rfl (lv_at hl 0 rfl) ?_
            refine w_get cx (ci := 3) rfl iX3 (hP.pa _ _ cM_0) 1 (by decide) k_452 (v := .int (nI (nt S))) rfl dX3_thing_63 ?_
            refine lv_iload_n hx hb dX3_thing_66 rfl (lv_at hl 1 rfl) ?_
            refine m_iast (n := 40) cx hP hS 0 (by decide) rfl rfl (nt S) rfl (ntlt hW.t c_5) (by decide) dX3_thing_67 (fun H locs hP hS => ?_)
            refine lv_aload_n hx hb dX3_thing_68 rfl (lv_at hl 0 rfl) ?_
            refine w_get cx (ci := 3) rfl iX3 (hP.pa _ _ cM_0) 3 (by decide) k_454 (v := .ref (ad 2)) rfl dX3_thing_69 ?_
            refine lv_aload_n hx hb dX3_thing_72 rfl (lv_at hl 0 rfl) ?_
            refine w_get cx (ci := 3) rfl iX3 (hP.pa _ _ cM_0) 1 (by decide) k_452 (v := .int (nI (nt S))) rfl dX3_thing_73 ?_
            refine lv_iload_n hx hb dX3_thing_76 rfl (lv_at hl 2 rfl) ?_
            refine m_iast (n := 40) cx hP hS 1 (by decide) rfl rfl (nt S) rfl (ntlt hW.t c_5) (by decide) dX3_thing_77 (fun H locs hP hS => ?_)
            refine lv_aload_n hx hb dX3_thing_78 rfl (lv_at hl 0 rfl) ?_
            refine w_get cx (ci := 3) rfl iX3 (hP.pa _ _ cM_0) 4 (by decide) k_455 (v := .ref (ad 3)) rfl dX3_thing_79 ?_
            refine lv_aload_n hx hb dX3_thing_82 rfl (lv_at hl 0 rfl) ?_
            refine w_get cx (ci := 3) rfl iX3 (hP.pa _ _ cM_0) 1 (by decide) k_452 (v := .int (nI (nt S))) rfl dX3_thing_83 ?_
            refine lv_iload_n hx hb dX3_thing_86 rfl (lv_at hl 3 rfl) ?_
            refine m_iast (n := 40) cx hP hS 2 (by decide) rfl rfl (nt S) rfl (ntlt hW.t c_5) (by decide) dX3_thing_87 (fun H locs hP hS => ?_)
            refine lv_aload_n hx hb dX3_thing_88 rfl (lv_at hl 0 rfl) ?_
            refine w_get cx (ci := 3) rfl iX3 (hP.pa _ _ cM_0) 5 (by decide) k_456 (v := .ref (ad 4)) rfl dX3_thing_89 ?_
            refine lv_aload_n hx hb dX3_thing_92 rfl (lv_at hl 0 rfl) ?_
            refine w_get cx (ci := 3) rfl iX3 (hP.pa _ _ cM_0) 1 (by decide) k_452 (v := .int (nI (nt S))) rfl dX3_thing_93 ?_
            refine lv_iload hx hb dX3_thing_96 (lv_at hl 4 rfl) ?_
            refine m_iast (n := 40) cx hP hS 3 (by decide) rfl rfl (nt S) rfl (ntlt hW.t c_5) (by decide) dX3_thing_98 (fun H locs hP hS => ?_)
            refine lv_aload_n hx hb dX3_thing_99 rfl (lv_at hl 0 rfl) ?_
            refine w_get cx (ci := 3) rfl iX3 (hP.pa _ _ cM_0) 7 (by decide) k_458 (v := .ref (ad 6)) rfl dX3_thing_100 ?_
            refine lv_aload_n hx hb dX3_thing_103 rfl (lv_at hl 0 rfl) ?_
            refine w_get cx (ci := 3) rfl iX3 (hP.pa _ _ cM_0) 1 (by decide) k_452 (v := .int (nI (nt S))) rfl dX3_thing_104 ?_
            refine w_ldc cx k_548 dX3_thing_107 ?_
            refine m_iast (n := 40) cx hP hS 5 (by decide) rfl rfl (nt S) rfl (ntlt hW.t c_5) (by decide) dX3_thing_109 (fun H locs hP hS => ?_)
            refine lv_aload_n hx hb dX3_thing_110 rfl (lv_at hl 0 rfl) ?_
            refine w_get cx (ci := 3) rfl iX3 (hP.pa _ _ cM_0) 8 (by decide) k_459 (v := .ref (ad 7)) rfl dX3_thing_111 ?_
            refine lv_aload_n hx hb dX3_thing_114 rfl (lv_at hl 0 rfl) ?_
            refine w_get cx (ci := 3) rfl iX3 (hP.pa _ _ cM_0) 1 (by decide) k_452 (v := .int (nI (nt S))) rfl dX3_thing_115 ?_
            refine w_ldc cx k_548 dX3_thing_118 ?_
            refine m_iast (n := 40) cx hP hS 6 (by decide) rfl rfl (nt S) rfl (ntlt hW.t c_5) (by decide) dX3_thing_120 (fun H locs hP hS => ?_)
            refine lv_aload_n hx hb dX3_thing_121 rfl (lv_at hl 0 rfl) ?_
            refine lv_dup hx hb dX3_thing_122 rfl ?_
            refine w_get cx (ci := 3) rfl iX3 (hP.pa _ _ cM_0) 1 (by decide) k_452 (v := .int (nI (nt S))) rfl dX3_thing_123 ?_
            refine lv_iconst (v := 1) hx hb dX3_thing_126 (by decide) ?_
            refine lv_iadd hx hb dX3_thing_127 ?_
            refine w_nrm (y := nI (nt S + 1)) (nI_1 _) ?_
            refine m_put cx (setT (setA (setA (setA (setA (setA (setA S 0 (nt S) x) 1 (nt S) y) 2 (nt S) z) 3 (nt S) u) 5 (nt S) ((-1000000))) 6 (nt S) ((-1000000))) (nt S + 1)) hP hS 1 (by decide) k_452 rfl rfl (by decide) rfl (fun _ => rfl) rfl dX3_thing_128 (fun H locs hP hS => ?_)
            refine lv_aload_n hx hb dX3_thing_131 rfl (lv_at hl 0 rfl) ?_
            refine w_get cx (ci := 3) rfl iX3 (hP.pa _ _ cM_0) 1 (by decide) k_452 (v := .int (nI (nt S + 1))) rfl dX3_thing_132 ?_
            refine lv_iconst (v := 1) hx hb dX3_thing_135 (by decide) ?_
            refine lv_isub hx hb dX3_thing_136 ?_
            rw [show f_X3_thing S x y z u = ((nI (nt S + 1)) - 1, (setT (setA (setA (setA (setA (setA (setA S 0 (nt S) x) 1 (nt S) y) 2 (nt S) z) 3 (nt S) u) 5 (nt S) ((-1000000))) 6 (nt S) ((-1000000))) (nt S + 1))) from by rw [f_X3_thing, if_neg c_1, if_neg c_2, if_neg c_3, if_neg c_4, if_neg c_5]]
            exact x_int cx hr hlk (ad' := ad) ⟨rfl, hP⟩ hS dX3_thing_137
          · refine lv_bipush (v := -4) hx hb dX3_thing_55 (by decide) ?_
            rw [show f_X3_thing S x y z u = ((-4), S) from by rw [f_X3_thing, if_neg c_1, if_neg c_2, if_neg c_3, if_neg c_4, if_pos c_5]]
            exact x_int cx hr hlk (ad' := ad) ⟨rfl, hP⟩ hS dX3_thing_57
        · refine lv_iconst (v := -1) hx hb dX3_thing_44 (by decide) ?_
          rw [show f_X3_thing S x y z u = ((-1), S) from by rw [f_X3_thing, if_neg c_1, if_neg c_2, if_neg c_3, if_pos c_4]]
          exact x_int cx hr hlk (ad' := ad) ⟨rfl, hP⟩ hS dX3_thing_45
      · refine lv_bipush (v := -2) hx hb dX3_thing_30 (by decide) ?_
        rw [show f_X3_thing S x y z u = ((-2), S) from by rw [f_X3_thing, if_neg c_1, if_neg c_2, if_pos c_3]]
        exact x_int cx hr hlk (ad' := ad) ⟨rfl, hP⟩ hS dX3_thing_32
set_option maxRecDepth 20000 in
theorem c_X3_draw_out (l : Launch) (G : GG) (ad : Nat → Nat) (S : St) (hW : WF S) {n : Int32} (hn : nT S n) (x : Int32) : MW l yX3_draw cX3_draw 3 (some .int) 2 43 0 0 G ad (cM G ad S) [.ref (ad 0), .int n, .int x] (some (.int (((-1, S) : Int32 × St)).1)) (fun ad' => cM G ad' (((-1, S) : Int32 × St)).2) (fun ad' => ad' = ad) := by
  refine MW.of [(0, .ref (ad 0)), (1, .int n), (2, .int x)] (by decide) (Nat.le_of_ble_eq_true rfl) rfl ?_
  intro p e s m args below meth c A cx hr hlk hnm hA hP ls hl
  have hx := cx.1.1
  have hb := cx.1.2.1
  have hS : va_S A s.heap s.heap [] := va_S.rf
  refine lv_aload_n hx hb dX3_draw_0 rfl (lv_at hl 0 rfl) ?_
  refine lv_iload_n hx hb dX3_draw_1 rfl (lv_at hl 1 rfl) ?_
  refine w_callV (As := [.int n]) (rest := []) (st := [.int 0]) cx (c_X3_isThing_out l G ad S hW hn) k_553 cal_yX3_isThing (ci := 3) rfl (hP.pa _ _ cM_0) hP.pa rfl ⟨Nat.le_of_ble_eq_true rfl, Nat.le_of_ble_eq_true rfl⟩ hl.1 (Nat.le_of_ble_eq_true rfl) ⟨Nat.zero_le _, Nat.zero_le _⟩ rfl rfl dX3_draw_2 ?_
  refine lv_if_ne (tgt := 10) hx hb dX3_draw_5 (by decide) (fun c_1 => ?_) (fun c_1 => ?_)
  · exact absurd (by decide) c_1
  · refine lv_iconst (v := -1) hx hb dX3_draw_8 (by decide) ?_
    exact x_int cx hr hlk (ad' := ad) ⟨rfl, hP⟩ hS dX3_draw_9
def f_X3_draw (S : St) (i : Nat) (x : Int32) : Int32 × St :=
  if f_X3_in x ((-100000)) 100000 = 0 then ((-2), S)
  else if ar S 0 i = 3 then (if ar S 8 i = 3 then ((-4), S)
    else ((ar S 8 i) + 1, (setA (setA S 9 (3 * i + ix (ar S 8 i)) x) 8 i ((ar S 8 i) + 1))))
  else ((-3), S)
set_option maxRecDepth 20000 in
theorem c_X3_draw (l : Launch) (G : GG) (ad : Nat → Nat) (S : St) (hW : WF S) {i : Nat} (hi : i < nt S) (x : Int32) : MW l yX3_draw cX3_draw 3 (some .int) 2 43 0 0 G ad (cM G ad S) [.ref (ad 0), .int (nI i), .int x] (some (.int (f_X3_draw S i x).1)) (fun ad' => cM G ad' (f_X3_draw S i x).2) (fun ad' => ad' = ad) := by
  refine MW.of [(0, .ref (ad 0)), (1, .int (nI i)), (2, .int x)] (by decide) (Nat.le_of_ble_eq_true rfl) rfl ?_
  intro p e s m args below meth c A cx hr hlk hnm hA hP ls hl
  have hx := cx.1.1
  have hb := cx.1.2.1
  have hS : va_S A s.heap s.heap [] := va_S.rf
  refine lv_aload_n hx hb dX3_draw_0 rfl (lv_at hl 0 rfl) ?_
  refine lv_iload_n hx hb dX3_draw_1 rfl (lv_at hl 1 rfl) ?_
  refine w_callV (As := [.int (nI i)]) (rest := []) (st := [.int 1]) cx (c_X3_isThing_in l G ad S hW hi) k_553 cal_yX3_isThing (ci := 3) rfl (hP.pa _ _ cM_0) hP.pa rfl ⟨Nat.le_of_ble_eq_true rfl, Nat.le_of_ble_eq_true rfl⟩ hl.1 (Nat.le_of_ble_eq_true rfl) ⟨Nat.zero_le _, Nat.zero_le _⟩ rfl rfl dX3_draw_2 ?_
  refine lv_if_ne (tgt := 10) hx hb dX3_draw_5 (by decide) (fun c_1 => ?_) (fun c_1 => ?_)
  · refine lv_iload_n hx hb dX3_draw_10 rfl (lv_at hl 2 rfl) ?_
    refine w_ldc cx k_561 dX3_draw_11 ?_
    refine w_ldc cx k_562 dX3_draw_13 ?_
    refine w_callS (As := [.int x, .int ((-100000)), .int 100000]) (rest := []) (st := [.int (f_X3_in x ((-100000)) 100000)]) cx (c_X3_in l G ad _ x ((-100000)) 100000) k_541 cal_yX3_in hP.pa rfl ⟨Nat.le_of_ble_eq_true rfl, Nat.le_of_ble_eq_true rfl⟩ hl.1 (Nat.le_of_ble_eq_true rfl) ⟨Nat.zero_le _, Nat.zero_le _⟩ rfl rfl dX3_draw_15 ?_
    refine lv_if_ne (tgt := 24) hx hb dX3_draw_18 (by decide) (fun c_2 => ?_) (fun c_2 => ?_)
    · refine lv_aload_n hx hb dX3_draw_24 rfl (lv_at hl 0 rfl) ?_
      refine w_get cx (ci := 3) rfl iX3 (hP.pa _ _ cM_0) 2 (by decide) k_453 (v := .ref (ad 1)) rfl dX3_draw_25 ?_
      refine lv_iload_n hx hb dX3_draw_28 rfl (lv_at hl 1 rfl) ?_
      refine w_iald cx (hP.pa _ _ (cM_A (n := 40) 0 (by decide) rfl rfl)) i rfl (Nat.lt_of_lt_of_le hi hW.t) (by decide) dX3_draw_29 ?_
      refine lv_iconst (v := 3) hx hb dX3_draw_30 (by decide) ?_
      refine lv_icmp_eq (tgt := 37) hx hb dX3_draw_31 (by decide) (fun c_3 => ?_) (fun c_3 => ?_)
      · refine lv_aload_n hx hb dX3_draw_37 rfl (lv_at hl 0 rfl) ?_
        refine w_get cx (ci := 3) rfl iX3 (hP.pa _ _ cM_0) 10 (by decide) k_461 (v := .ref (ad 9)) rfl dX3_draw_38 ?_
        refine lv_iload_n hx hb dX3_draw_41 rfl (lv_at hl 1 rfl) ?_
        refine w_iald cx (hP.pa _ _ (cM_A (n := 40) 8 (by decide) rfl rfl)) i rfl (Nat.lt_of_lt_of_le hi hW.t) (by decide) dX3_draw_42 ?_
        refine lv_iconst (v := 3) hx hb dX3_draw_43 (by decide) ?_
        refine lv_icmp_ne (tgt := 50) hx hb dX3_draw_44 (by decide) (fun c_4 => ?_) (fun c_4 => ?_)
        · refine lv_aload_n hx hb dX3_draw_50 rfl (lv_at hl 0 rfl) ?_
          refine w_get cx (ci := 3) rfl iX3 (hP.pa _ _ cM_0) 11 (by decide) k_462 (v := .ref (ad 10)) rfl dX3_draw_51 ?_
          refine lv_iconst (v := 3) hx hb dX3_draw_54 (by decide) ?_
          refine lv_iload_n hx hb dX3_draw_55 rfl (lv_at hl 1 rfl) ?_
          refine lv_imul hx hb dX3_draw_56 ?_
          refine lv_aload_n hx hb dX3_draw_57 rfl (lv_at hl 0 rfl) ?_
          refine w_get cx (ci := 3) rfl iX3 (hP.pa _ _ cM_0) 10 (by decide) k_461 (v := .ref (ad 9)) rfl dX3_draw_58 ?_
          refine lv_iload_n hx hb dX3_draw_61 rfl (lv_at hl 1 rfl) ?_
          refine w_iald cx (hP.pa _ _ (cM_A (n := 40) 8 (by decide) rfl rfl)) i rfl (Nat.lt_of_lt_of_le hi hW.t) (by decide) dX3_draw_62 ?_
          refine lv_iadd hx hb dX3_draw_63 ?_
          refine lv_iload_n hx hb dX3_draw_64 rfl (lv_at hl 2 rfl) ?_
          refine m_iast (n := 120) cx hP hS 9 (by decide) rfl rfl (3 * i + ix (ar S 8 i)) (ix3d (hW.dc hi).1) (ix3b hi hW.t (hW.dc hi) c_4) (by decide) dX3_draw_65 (fun H locs hP hS => ?_)
          refine lv_aload_n hx hb dX3_draw_66 rfl (lv_at hl 0 rfl) ?_
          refine w_get cx (ci := 3) rfl iX3 (hP.pa _ _ cM_0) 10 (by decide) k_461 (v := .ref (ad 9)) rfl dX3_draw_67 ?_
          refine lv_iload_n hx hb dX3_draw_70 rfl (lv_at hl 1 rfl) ?_
          refine lv_dup2_11 hx hb dX3_draw_71 rfl rfl ?_
          refine w_iald cx (hP.pa _ _ (cM_A (n := 40) 8 (by decide) rfl rfl)) i rfl (Nat.lt_of_lt_of_le hi hW.t) (by decide) dX3_draw_72 ?_
          refine w_nrm (y := ar S 8 i) rfl ?_
          refine lv_iconst (v := 1) hx hb dX3_draw_73 (by decide) ?_
          refine lv_iadd hx hb dX3_draw_74 ?_
          refine m_iast (n := 40) cx hP hS 8 (by decide) rfl rfl i rfl (Nat.lt_of_lt_of_le hi hW.t) (by decide) dX3_draw_75 (fun H locs hP hS => ?_)
          refine lv_aload_n hx hb dX3_draw_76 rfl (lv_at hl 0 rfl) ?_
          refine w_get cx (ci := 3) rfl iX3 (hP.pa _ _ cM_0) 10 (by decide) k_461 (v := .ref (ad 9)) rfl dX3_draw_77 ?_
          refine lv_iload_n hx hb dX3_draw_80 rfl (lv_at hl 1 rfl) ?_
          refine w_iald cx (hP.pa _ _ (cM_A (n := 40) 8 (by decide) rfl rfl)) i rfl (Nat.lt_of_lt_of_le hi hW.t) (by decide) dX3_draw_81 ?_
          refine w_nrm (y := (ar S 8 i) + 1) (ar_same (setA S 9 (3 * i + ix (ar S 8 i)) x) 8 i ((ar S 8 i) + 1)) ?_
          rw [show f_X3_draw S i x = ((ar S 8 i) + 1, (setA (setA S 9 (3 * i + ix (ar S 8 i)) x) 8 i ((ar S 8 i) + 1))) from by rw [f_X3_draw, if_neg c_2, if_pos c_3, if_neg c_4]]
          exact x_int cx hr hlk (ad' := ad) ⟨rfl, hP⟩ hS dX3_draw_82
        · refine lv_bipush (v := -4) hx hb dX3_draw_47 (by decide) ?_
          rw [show f_X3_draw S i x = ((-4), S) from by rw [f_X3_draw, if_neg c_2, if_pos c_3, if_pos c_4]]
          exact x_int cx hr hlk (ad' := ad) ⟨rfl, hP⟩ hS dX3_draw_49
      · refine lv_bipush (v := -3) hx hb dX3_draw_34 (by decide) ?_
        rw [show f_X3_draw S i x = ((-3), S) from by rw [f_X3_draw, if_neg c_2, if_neg c_3]]
        exact x_int cx hr hlk (ad' := ad) ⟨rfl, hP⟩ hS dX3_draw_36
    · refine lv_bipush (v := -2) hx hb dX3_draw_21 (by decide) ?_
      rw [show f_X3_draw S i x = ((-2), S) from by rw [f_X3_draw, if_pos c_2]]
      exact x_int cx hr hlk (ad' := ad) ⟨rfl, hP⟩ hS dX3_draw_23
  · exact absurd c_1 (by decide)
set_option maxRecDepth 20000 in
theorem c_X3_allow_out (l : Launch) (G : GG) (ad : Nat → Nat) (S : St) (hW : WF S) {n : Int32} (hn : f_X3_in n 1 3 = 0) (b x : Int32) : MW l yX3_allow cX3_allow 5 (some .int) 1 22 0 0 G ad (cM G ad S) [.ref (ad 0), .int n, .int b, .int x] (some (.int (((-2, S) : Int32 × St)).1)) (fun ad' => cM G ad' (((-2, S) : Int32 × St)).2) (fun ad' => ad' = ad) := by
  refine MW.of [(0, .ref (ad 0)), (1, .int n), (2, .int b), (3, .int x)] (by decide) (Nat.le_of_ble_eq_true rfl) rfl ?_
  intro p e s m args below meth c A cx hr hlk hnm hA hP ls hl
  have hx := cx.1.1
  have hb := cx.1.2.1
  have hS : va_S A s.heap s.heap [] := va_S.rf
  refine lv_iload_n hx hb dX3_allow_0 rfl (lv_at hl 1 rfl) ?_
  refine lv_iconst (v := 1) hx hb dX3_allow_1 (by decide) ?_
  refine lv_iconst (v := 3) hx hb dX3_allow_2 (by decide) ?_
  refine w_callS (As := [.int n, .int 1, .int 3]) (rest := []) (st := [.int (f_X3_in n 1 3)]) cx (c_X3_in l G ad _ n 1 3) k_541 cal_yX3_in hP.pa rfl ⟨Nat.le_of_ble_eq_true rfl, Nat.le_of_ble_eq_true rfl⟩ hl.1 (Nat.le_of_ble_eq_true rfl) ⟨Nat.zero_le _, Nat.zero_le _⟩ rfl rfl dX3_allow_3 ?_
  refine lv_if_eq (tgt := 19) hx hb dX3_allow_6 (by decide) (fun c_1 => ?_) (fun c_1 => ?_)
  · refine lv_bipush (v := -2) hx hb dX3_allow_19 (by decide) ?_
    exact x_int cx hr hlk (ad' := ad) ⟨rfl, hP⟩ hS dX3_allow_21
  · exact absurd hn c_1
def f_X3_allow (S : St) (k : Nat) (b x : Int32) : Int32 × St :=
  if f_X3_in x 0 100000 = 0 then ((-2), S)
  else if b = 0 then (ar S 11 k, (setA S 11 k x))
  else (ar S 10 k, (setA S 10 k x))
set_option maxRecDepth 20000 in
theorem c_X3_allow (l : Launch) (G : GG) (ad : Nat → Nat) (S : St) (hW : WF S) {k : Nat} (h1 : 1 ≤ k) (h3 : k ≤ 3) (b x : Int32) : MW l yX3_allow cX3_allow 5 (some .int) 1 22 0 0 G ad (cM G ad S) [.ref (ad 0), .int (nI k), .int b, .int x] (some (.int (f_X3_allow S k b x).1)) (fun ad' => cM G ad' (f_X3_allow S k b x).2) (fun ad' => ad' = ad) := by
  refine MW.of [(0, .ref (ad 0)), (1, .int (nI k)), (2, .int b), (3, .int x)] (by decide) (Nat.le_of_ble_eq_true rfl) rfl ?_
  intro p e s m args below meth c A cx hr hlk hnm hA hP ls hl
  have hx := cx.1.1
  have hb := cx.1.2.1
  have hS : va_S A s.heap s.heap [] := va_S.rf
  refine lv_iload_n hx hb dX3_allow_0 rfl (lv_at hl 1 rfl) ?_
  refine lv_iconst (v := 1) hx hb dX3_allow_1 (by decide) ?_
  refine lv_iconst (v := 3) hx hb dX3_allow_2 (by decide) ?_
  refine w_callS (As := [.int (nI k), .int 1, .int 3]) (rest := []) (st := [.int (f_X3_in (nI k) 1 3)]) cx (c_X3_in l G ad _ (nI k) 1 3) k_541 cal_yX3_in hP.pa rfl ⟨Nat.le_of_ble_eq_true rfl, Nat.le_of_ble_eq_true rfl⟩ hl.1 (Nat.le_of_ble_eq_true rfl) ⟨Nat.zero_le _, Nat.zero_le _⟩ rfl rfl dX3_allow_3 ?_
  refine lv_if_eq (tgt := 19) hx hb dX3_allow_6 (by decide) (fun c_1 => ?_) (fun c_1 => ?_)
  · exact absurd c_1 (nI_within (a := 1) (b := 3) h1 h3 (by decide))
  · refine lv_iload_n hx hb dX3_allow_9 rfl (lv_at hl 3 rfl) ?_
    refine lv_iconst (v := 0) hx hb dX3_allow_10 (by decide) ?_
    refine w_ldc cx k_562 dX3_allow_11 ?_
    refine w_callS (As := [.int x, .int 0, .int 100000]) (rest := []) (st := [.int (f_X3_in x 0 100000)]) cx (c_X3_in l G ad _ x 0 100000) k_541 cal_yX3_in hP.pa rfl ⟨Nat.le_of_ble_eq_true rfl, Nat.le_of_ble_eq_true rfl⟩ hl.1 (Nat.le_of_ble_eq_true rfl) ⟨Nat.zero_le _, Nat.zero_le _⟩ rfl rfl dX3_allow_13 ?_
    refine lv_if_ne (tgt := 22) hx hb dX3_allow_16 (by decide) (fun c_2 => ?_) (fun c_2 => ?_)
    · refine lv_iload_n hx hb dX3_allow_22 rfl (lv_at hl 2 rfl) ?_
      refine lv_if_eq (tgt := 35) hx hb dX3_allow_23 (by decide) (fun c_3 => ?_) (fun c_3 => ?_)
      · refine lv_aload_n hx hb dX3_allow_35 rfl (lv_at hl 0 rfl) ?_
        refine w_get cx (ci := 3) rfl iX3 (hP.pa _ _ cM_0) 13 (by decide) k_464 (v := .ref (ad 12)) rfl dX3_allow_36 ?_
        refine lv_iload_n hx hb dX3_allow_39 rfl (lv_at hl 1 rfl) ?_
        refine w_iald cx (hP.pa _ _ (cM_A (n := 4) 11 (by decide) rfl rfl)) k rfl (Nat.lt_succ_of_le h3) (by decide) dX3_allow_40 ?_
        refine lv_istore (lv' := [(4, .int (ar S 11 k)), (0, .ref (ad 0)), (1, .int (nI k)), (2, .int b), (3, .int x)]) hx hb dX3_allow_41 hl (by decide) rfl (fun ls hl => ?_)
        refine lv_iload_n hx hb dX3_allow_43 rfl (lv_at hl 3 rfl) ?_
        refine lv_if_eq (tgt := 57) hx hb dX3_allow_44 (by decide) (fun c_4 => ?_) (fun c_4 => ?_)
        · refine lv_aload_n hx hb dX3_allow_57 rfl (lv_at hl 1 rfl) ?_
          refine w_get cx (ci := 3) rfl iX3 (hP.pa _ _ cM_0) 13 (by decide) k_464 (v := .ref (ad 12)) rfl dX3_allow_58 ?_
          refine lv_iload_n hx hb dX3_allow_61 rfl (lv_at hl 2 rfl) ?_
          refine lv_iload_n hx hb dX3_allow_62 rfl (lv_at hl 4 rfl) ?_
          refine m_iast (n := 4) cx hP hS 11 (by decide) rfl rfl k rfl (Nat.lt_succ_of_le h3) (by decide) dX3_allow_63 (fun H locs hP hS => ?_)
          refine lv_iload hx hb dX3_allow_64 (lv_at hl 0 rfl) ?_
          rw [show f_X3_allow S k b x = (ar S 11 k, (setA S 11 k x)) from by rw [f_X3_allow, if_neg c_2, if_pos c_3]]
          exact x_int cx hr hlk (ad' := ad) ⟨rfl, hP⟩ hS dX3_allow_66
        · exact absurd c_3 c_4
      · refine lv_aload_n hx hb dX3_allow_26 rfl (lv_at hl 0 rfl) ?_
        refine w_get cx (ci := 3) rfl iX3 (hP.pa _ _ cM_0) 12 (by decide) k_463 (v := .ref (ad 11)) rfl dX3_allow_27 ?_
        refine lv_iload_n hx hb dX3_allow_30 rfl (lv_at hl 1 rfl) ?_
        refine w_iald cx (hP.pa _ _ (cM_A (n := 4) 10 (by decide) rfl rfl)) k rfl (Nat.lt_succ_of_le h3) (by decide) dX3_allow_31 ?_
        refine lv_goto (tgt := 41) hx hb dX3_allow_32 (by decide) ?_
        refine lv_istore (lv' := [(4, .int (ar S 10 k)), (0, .ref (ad 0)), (1, .int (nI k)), (2, .int b), (3, .int x)]) hx hb dX3_allow_41 hl (by decide) rfl (fun ls hl => ?_)
        refine lv_iload_n hx hb dX3_allow_43 rfl (lv_at hl 3 rfl) ?_
        refine lv_if_eq (tgt := 57) hx hb dX3_allow_44 (by decide) (fun c_5 => ?_) (fun c_5 => ?_)
        · exact absurd c_5 c_3
        · refine lv_aload_n hx hb dX3_allow_47 rfl (lv_at hl 1 rfl) ?_
          refine w_get cx (ci := 3) rfl iX3 (hP.pa _ _ cM_0) 12 (by decide) k_463 (v := .ref (ad 11)) rfl dX3_allow_48 ?_
          refine lv_iload_n hx hb dX3_allow_51 rfl (lv_at hl 2 rfl) ?_
          refine lv_iload_n hx hb dX3_allow_52 rfl (lv_at hl 4 rfl) ?_
          refine m_iast (n := 4) cx hP hS 10 (by decide) rfl rfl k rfl (Nat.lt_succ_of_le h3) (by decide) dX3_allow_53 (fun H locs hP hS => ?_)
          refine lv_goto (tgt := 64) hx hb dX3_allow_54 (by decide) ?_
          refine lv_iload hx hb dX3_allow_64 (lv_at hl 0 rfl) ?_
          rw [show f_X3_allow S k b x = (ar S 10 k, (setA S 10 k x)) from by rw [f_X3_allow, if_neg c_2, if_neg c_3]]
          exact x_int cx hr hlk (ad' := ad) ⟨rfl, hP⟩ hS dX3_allow_66
    · refine lv_bipush (v := -2) hx hb dX3_allow_19 (by decide) ?_
      rw [show f_X3_allow S k b x = ((-2), S) from by rw [f_X3_allow, if_pos c_2]]
      exact x_int cx hr hlk (ad' := ad) ⟨rfl, hP⟩ hS dX3_allow_21
set_option maxRecDepth 20000 in
theorem c_X3_move_out (l : Launch) (G : GG) (ad : Nat → Nat) (S : St) (hW : WF S) {n : Int32} (hn : nT S n) (x : Int32) : MW l yX3_move cX3_move 4 (some .int) 2 43 0 0 G ad (cM G ad S) [.ref (ad 0), .int n, .int x] (some (.int (((-1, S) : Int32 × St)).1)) (fun ad' => cM G ad' (((-1, S) : Int32 × St)).2) (fun ad' => ad' = ad) := by
  refine MW.of [(0, .ref (ad 0)), (1, .int n), (2, .int x)] (by decide) (Nat.le_of_ble_eq_true rfl) rfl ?_
  intro p e s m args below meth c A cx hr hlk hnm hA hP ls hl
  have hx := cx.1.1
  have hb := cx.1.2.1
  have hS : va_S A s.heap s.heap [] := va_S.rf
  refine lv_aload_n hx hb dX3_move_0 rfl (lv_at hl 0 rfl) ?_
  refine lv_iload_n hx hb dX3_move_1 rfl (lv_at hl 1 rfl) ?_
  refine w_callV (As := [.int n]) (rest := []) (st := [.int 0]) cx (c_X3_isThing_out l G ad S hW hn) k_553 cal_yX3_isThing (ci := 3) rfl (hP.pa _ _ cM_0) hP.pa rfl ⟨Nat.le_of_ble_eq_true rfl, Nat.le_of_ble_eq_true rfl⟩ hl.1 (Nat.le_of_ble_eq_true rfl) ⟨Nat.zero_le _, Nat.zero_le _⟩ rfl rfl dX3_move_2 ?_
  refine lv_if_eq (tgt := 18) hx hb dX3_move_5 (by decide) (fun c_1 => ?_) (fun c_1 => ?_)
  · refine lv_iconst (v := -1) hx hb dX3_move_18 (by decide) ?_
    exact x_int cx hr hlk (ad' := ad) ⟨rfl, hP⟩ hS dX3_move_19
  · exact absurd (by decide) c_1
def f_X3_move (S : St) (i : Nat) (x : Int32) : Int32 × St :=
  if f_X3_in x 0 9 = 0 then ((-1), S)
  else if f_X3_isTool S i = 0 then ((-3), S)
  else (ar S 3 i, (setA (setA S 3 i x) 6 i ((-1000000))))
set_option maxRecDepth 20000 in
theorem c_X3_move (l : Launch) (G : GG) (ad : Nat → Nat) (S : St) (hW : WF S) {i : Nat} (hi : i < nt S) (x : Int32) : MW l yX3_move cX3_move 4 (some .int) 2 43 0 0 G ad (cM G ad S) [.ref (ad 0), .int (nI i), .int x] (some (.int (f_X3_move S i x).1)) (fun ad' => cM G ad' (f_X3_move S i x).2) (fun ad' => ad' = ad) := by
  refine MW.of [(0, .ref (ad 0)), (1, .int (nI i)), (2, .int x)] (by decide) (Nat.le_of_ble_eq_true rfl) rfl ?_
  intro p e s m args below meth c A cx hr hlk hnm hA hP ls hl
  have hx := cx.1.1
  have hb := cx.1.2.1
  have hS : va_S A s.heap s.heap [] := va_S.rf
  refine lv_aload_n hx hb dX3_move_0 rfl (lv_at hl 0 rfl) ?_
  refine lv_iload_n hx hb dX3_move_1 rfl (lv_at hl 1 rfl) ?_
  refine w_callV (As := [.int (nI i)]) (rest := []) (st := [.int 1]) cx (c_X3_isThing_in l G ad S hW hi) k_553 cal_yX3_isThing (ci := 3) rfl (hP.pa _ _ cM_0) hP.pa rfl ⟨Nat.le_of_ble_eq_true rfl, Nat.le_of_ble_eq_true rfl⟩ hl.1 (Nat.le_of_ble_eq_true rfl) ⟨Nat.zero_le _, Nat.zero_le _⟩ rfl rfl dX3_move_2 ?_
  refine lv_if_eq (tgt := 18) hx hb dX3_move_5 (by decide) (fun c_1 => ?_) (fun c_1 => ?_)
  · exact absurd c_1 (by decide)
  · refine lv_iload_n hx hb dX3_move_8 rfl (lv_at hl 2 rfl) ?_
    refine lv_iconst (v := 0) hx hb dX3_move_9 (by decide) ?_
    refine lv_bipush (v := 9) hx hb dX3_move_10 (by decide) ?_
    refine w_callS (As := [.int x, .int 0, .int 9]) (rest := []) (st := [.int (f_X3_in x 0 9)]) cx (c_X3_in l G ad _ x 0 9) k_541 cal_yX3_in hP.pa rfl ⟨Nat.le_of_ble_eq_true rfl, Nat.le_of_ble_eq_true rfl⟩ hl.1 (Nat.le_of_ble_eq_true rfl) ⟨Nat.zero_le _, Nat.zero_le _⟩ rfl rfl dX3_move_12 ?_
    refine lv_if_ne (tgt := 20) hx hb dX3_move_15 (by decide) (fun c_2 => ?_) (fun c_2 => ?_)
    · refine lv_aload_n hx hb dX3_move_20 rfl (lv_at hl 0 rfl) ?_
      refine lv_iload_n hx hb dX3_move_21 rfl (lv_at hl 1 rfl) ?_
      refine w_callV (As := [.int (nI i)]) (rest := []) (st := [.int (f_X3_isTool S i)]) cx (c_X3_isTool l G ad S hW (i := i) hi) k_571 cal_yX3_isTool (ci := 3) rfl (hP.pa _ _ cM_0) hP.pa rfl ⟨Nat.le_of_ble_eq_true rfl, Nat.le_of_ble_eq_true rfl⟩ hl.1 (Nat.le_of_ble_eq_true rfl) ⟨Nat.zero_le _, Nat.zero_le _⟩ rfl rfl dX3_move_22 ?_
      refine lv_if_ne (tgt := 31) hx hb dX3_move_25 (by decide) (fun c_3 => ?_) (fun c_3 => ?_)
      · refine lv_aload_n hx hb dX3_move_31 rfl (lv_at hl 0 rfl) ?_
        refine w_get cx (ci := 3) rfl iX3 (hP.pa _ _ cM_0) 5 (by decide) k_456 (v := .ref (ad 4)) rfl dX3_move_32 ?_
        refine lv_iload_n hx hb dX3_move_35 rfl (lv_at hl 1 rfl) ?_
        refine w_iald cx (hP.pa _ _ (cM_A (n := 40) 3 (by decide) rfl rfl)) i rfl (Nat.lt_of_lt_of_le hi hW.t) (by decide) dX3_move_36 ?_
        refine lv_istore_n (lv' := [(3, .int (ar S 3 i)), (0, .ref (ad 0)), (1, .int (nI i)), (2, .int x)]) hx hb dX3_move_37 rfl hl (by decide) rfl (fun ls hl => ?_)
        refine lv_aload_n hx hb dX3_move_38 rfl (lv_at hl 1 rfl) ?_
        refine w_get cx (ci := 3) rfl iX3 (hP.pa _ _ cM_0) 5 (by decide) k_456 (v := .ref (ad 4)) rfl dX3_move_39 ?_
        refine lv_iload_n hx hb dX3_move_42 rfl (lv_at hl 2 rfl) ?_
        refine lv_iload_n hx hb dX3_move_43 rfl (lv_at hl 3 rfl) ?_
        refine m_iast (n := 40) cx hP hS 3 (by decide) rfl rfl i rfl (Nat.lt_of_lt_of_le hi hW.t) (by decide) dX3_move_44 (fun H locs hP hS => ?_)
        refine lv_aload_n hx hb dX3_move_45 rfl (lv_at hl 1 rfl) ?_
        refine w_get cx (ci := 3) rfl iX3 (hP.pa _ _ cM_0) 8 (by decide) k_459 (v := .ref (ad 7)) rfl dX3_move_46 ?_
        refine lv_iload_n hx hb dX3_move_49 rfl (lv_at hl 2 rfl) ?_
        refine w_ldc cx k_548 dX3_move_50 ?_
        refine m_iast (n := 40) cx hP hS 6 (by decide) rfl rfl i rfl (Nat.lt_of_lt_of_le hi hW.t) (by decide) dX3_move_52 (fun H locs hP hS => ?_)
        refine lv_iload_n hx hb dX3_move_53 rfl (lv_at hl 0 rfl) ?_
        rw [show f_X3_move S i x = (ar S 3 i, (setA (setA S 3 i x) 6 i ((-1000000)))) from by rw [f_X3_move, if_neg c_2, if_neg c_3]]
        exact x_int cx hr hlk (ad' := ad) ⟨rfl, hP⟩ hS dX3_move_54
      · refine lv_bipush (v := -3) hx hb dX3_move_28 (by decide) ?_
        rw [show f_X3_move S i x = ((-3), S) from by rw [f_X3_move, if_neg c_2, if_pos c_3]]
        exact x_int cx hr hlk (ad' := ad) ⟨rfl, hP⟩ hS dX3_move_30
    · refine lv_iconst (v := -1) hx hb dX3_move_18 (by decide) ?_
      rw [show f_X3_move S i x = ((-1), S) from by rw [f_X3_move, if_pos c_2]]
      exact x_int cx hr hlk (ad' := ad) ⟨rfl, hP⟩ hS dX3_move_19
set_option maxRecDepth 20000 in
theorem c_X3_seal_out (l : Launch) (G : GG) (ad : Nat → Nat) (S : St) (hW : WF S) {n : Int32} (hn : nT S n) (x : Int32) : MW l yX3_seal cX3_seal 3 (some .int) 2 47 0 0 G ad (cM G ad S) [.ref (ad 0), .int n, .int x] (some (.int (((-1, S) : Int32 × St)).1)) (fun ad' => cM G ad' (((-1, S) : Int32 × St)).2) (fun ad' => ad' = ad) := by
  refine MW.of [(0, .ref (ad 0)), (1, .int n), (2, .int x)] (by decide) (Nat.le_of_ble_eq_true rfl) rfl ?_
  intro p e s m args below meth c A cx hr hlk hnm hA hP ls hl
  have hx := cx.1.1
  have hb := cx.1.2.1
  have hS : va_S A s.heap s.heap [] := va_S.rf
  refine lv_aload_n hx hb dX3_seal_0 rfl (lv_at hl 0 rfl) ?_
  refine lv_iload_n hx hb dX3_seal_1 rfl (lv_at hl 1 rfl) ?_
  refine w_callV (As := [.int n]) (rest := []) (st := [.int 0]) cx (c_X3_isThing_out l G ad S hW hn) k_553 cal_yX3_isThing (ci := 3) rfl (hP.pa _ _ cM_0) hP.pa rfl ⟨Nat.le_of_ble_eq_true rfl, Nat.le_of_ble_eq_true rfl⟩ hl.1 (Nat.le_of_ble_eq_true rfl) ⟨Nat.zero_le _, Nat.zero_le _⟩ rfl rfl dX3_seal_2 ?_
  refine lv_if_ne (tgt := 10) hx hb dX3_seal_5 (by decide) (fun c_1 => ?_) (fun c_1 => ?_)
  · exact absurd (by decide) c_1
  · refine lv_iconst (v := -1) hx hb dX3_seal_8 (by decide) ?_
    exact x_int cx hr hlk (ad' := ad) ⟨rfl, hP⟩ hS dX3_seal_9
set_option maxRecDepth 20000 in
theorem c_X3_seal_far (l : Launch) (G : GG) (ad : Nat → Nat) (S : St) (hW : WF S) {i : Nat} (hi : i < nt S) {n : Int32} (hn : f_X3_in n 1 9999 = 0) : MW l yX3_seal cX3_seal 3 (some .int) 2 47 0 0 G ad (cM G ad S) [.ref (ad 0), .int (nI i), .int n] (some (.int (((-2, S) : Int32 × St)).1)) (fun ad' => cM G ad' (((-2, S) : Int32 × St)).2) (fun ad' => ad' = ad) := by
  refine MW.of [(0, .ref (ad 0)), (1, .int (nI i)), (2, .int n)] (by decide) (Nat.le_of_ble_eq_true rfl) rfl ?_
  intro p e s m args below meth c A cx hr hlk hnm hA hP ls hl
  have hx := cx.1.1
  have hb := cx.1.2.1
  have hS : va_S A s.heap s.heap [] := va_S.rf
  refine lv_aload_n hx hb dX3_seal_0 rfl (lv_at hl 0 rfl) ?_
  refine lv_iload_n hx hb dX3_seal_1 rfl (lv_at hl 1 rfl) ?_
  refine w_callV (As := [.int (nI i)]) (rest := []) (st := [.int 1]) cx (c_X3_isThing_in l G ad S hW hi) k_553 cal_yX3_isThing (ci := 3) rfl (hP.pa _ _ cM_0) hP.pa rfl ⟨Nat.le_of_ble_eq_true rfl, Nat.le_of_ble_eq_true rfl⟩ hl.1 (Nat.le_of_ble_eq_true rfl) ⟨Nat.zero_le _, Nat.zero_le _⟩ rfl rfl dX3_seal_2 ?_
  refine lv_if_ne (tgt := 10) hx hb dX3_seal_5 (by decide) (fun c_1 => ?_) (fun c_1 => ?_)
  · refine lv_iload_n hx hb dX3_seal_10 rfl (lv_at hl 2 rfl) ?_
    refine lv_iconst (v := 1) hx hb dX3_seal_11 (by decide) ?_
    refine lv_sipush (v := 9999) hx hb dX3_seal_12 (by decide) ?_
    refine w_callS (As := [.int n, .int 1, .int 9999]) (rest := []) (st := [.int (f_X3_in n 1 9999)]) cx (c_X3_in l G ad _ n 1 9999) k_541 cal_yX3_in hP.pa rfl ⟨Nat.le_of_ble_eq_true rfl, Nat.le_of_ble_eq_true rfl⟩ hl.1 (Nat.le_of_ble_eq_true rfl) ⟨Nat.zero_le _, Nat.zero_le _⟩ rfl rfl dX3_seal_15 ?_
    refine lv_if_ne (tgt := 24) hx hb dX3_seal_18 (by decide) (fun c_2 => ?_) (fun c_2 => ?_)
    · exact absurd hn c_2
    · refine lv_bipush (v := -2) hx hb dX3_seal_21 (by decide) ?_
      exact x_int cx hr hlk (ad' := ad) ⟨rfl, hP⟩ hS dX3_seal_23
  · exact absurd c_1 (by decide)
def f_X3_seal (S : St) (i k : Nat) : Int32 × St :=
  if f_X3_isTool S i = 0 then ((-3), S)
  else if f_X3_judgedOn S i (sc S 0) = 1 then (if ar S 12 k = 0 then (1, (setA (setA S 12 k 1) 6 i (nI k)))
    else ((-3), S))
  else ((-3), S)
set_option maxRecDepth 20000 in
theorem c_X3_seal (l : Launch) (G : GG) (ad : Nat → Nat) (S : St) (hW : WF S) {i : Nat} (hi : i < nt S) {k : Nat} (h1 : 1 ≤ k) (hk : k < 10000) : MW l yX3_seal cX3_seal 3 (some .int) 2 47 0 0 G ad (cM G ad S) [.ref (ad 0), .int (nI i), .int (nI k)] (some (.int (f_X3_seal S i k).1)) (fun ad' => cM G ad' (f_X3_seal S i k).2) (fun ad' => ad' = ad) := by
  refine MW.of [(0, .ref (ad 0)), (1, .int (nI i)), (2, .int (nI k))] (by decide) (Nat.le_of_ble_eq_true rfl) rfl ?_
  intro p e s m args below meth c A cx hr hlk hnm hA hP ls hl
  have hx := cx.1.1
  have hb := cx.1.2.1
  have hS : va_S A s.heap s.heap [] := va_S.rf
  refine lv_aload_n hx hb dX3_seal_0 rfl (lv_at hl 0 rfl) ?_
  refine lv_iload_n hx hb dX3_seal_1 rfl (lv_at hl 1 rfl) ?_
  refine w_callV (As := [.int (nI i)]) (rest := []) (st := [.int 1]) cx (c_X3_isThing_in l G ad S hW hi) k_553 cal_yX3_isThing (ci := 3) rfl (hP.pa _ _ cM_0) hP.pa rfl ⟨Nat.le_of_ble_eq_true rfl, Nat.le_of_ble_eq_true rfl⟩ hl.1 (Nat.le_of_ble_eq_true rfl) ⟨Nat.zero_le _, Nat.zero_le _⟩ rfl rfl dX3_seal_2 ?_
  refine lv_if_ne (tgt := 10) hx hb dX3_seal_5 (by decide) (fun c_1 => ?_) (fun c_1 => ?_)
  · refine lv_iload_n hx hb dX3_seal_10 rfl (lv_at hl 2 rfl) ?_
    refine lv_iconst (v := 1) hx hb dX3_seal_11 (by decide) ?_
    refine lv_sipush (v := 9999) hx hb dX3_seal_12 (by decide) ?_
    refine w_callS (As := [.int (nI k), .int 1, .int 9999]) (rest := []) (st := [.int (f_X3_in (nI k) 1 9999)]) cx (c_X3_in l G ad _ (nI k) 1 9999) k_541 cal_yX3_in hP.pa rfl ⟨Nat.le_of_ble_eq_true rfl, Nat.le_of_ble_eq_true rfl⟩ hl.1 (Nat.le_of_ble_eq_true rfl) ⟨Nat.zero_le _, Nat.zero_le _⟩ rfl rfl dX3_seal_15 ?_
    refine lv_if_ne (tgt := 24) hx hb dX3_seal_18 (by decide) (fun c_2 => ?_) (fun c_2 => ?_)
    · refine lv_aload_n hx hb dX3_seal_24 rfl (lv_at hl 0 rfl) ?_
      refine lv_iload_n hx hb dX3_seal_25 rfl (lv_at hl 1 rfl) ?_
      refine w_callV (As := [.int (nI i)]) (rest := []) (st := [.int (f_X3_isTool S i)]) cx (c_X3_isTool l G ad S hW (i := i) hi) k_571 cal_yX3_isTool (ci := 3) rfl (hP.pa _ _ cM_0) hP.pa rfl ⟨Nat.le_of_ble_eq_true rfl, Nat.le_of_ble_eq_true rfl⟩ hl.1 (Nat.le_of_ble_eq_true rfl) ⟨Nat.zero_le _, Nat.zero_le _⟩ rfl rfl dX3_seal_26 ?_
      refine lv_if_eq (tgt := 54) hx hb dX3_seal_29 (by decide) (fun c_3 => ?_) (fun c_3 => ?_)
      · refine lv_bipush (v := -3) hx hb dX3_seal_54 (by decide) ?_
        rw [show f_X3_seal S i k = ((-3), S) from by rw [f_X3_seal, if_pos c_3]]
        exact x_int cx hr hlk (ad' := ad) ⟨rfl, hP⟩ hS dX3_seal_56
      · refine lv_aload_n hx hb dX3_seal_32 rfl (lv_at hl 0 rfl) ?_
        refine lv_iload_n hx hb dX3_seal_33 rfl (lv_at hl 1 rfl) ?_
        refine lv_aload_n hx hb dX3_seal_34 rfl (lv_at hl 0 rfl) ?_
        refine w_get cx (ci := 3) rfl iX3 (hP.pa _ _ cM_0) 0 (by decide) k_451 (v := .int (sc S 0)) rfl dX3_seal_35 ?_
        refine w_callV (As := [.int (nI i), .int (sc S 0)]) (rest := []) (st := [.int (f_X3_judgedOn S i (sc S 0))]) cx (c_X3_judgedOn l G ad S hW (i := i) hi (sc S 0)) k_643 cal_yX3_judgedOn (ci := 3) rfl (hP.pa _ _ cM_0) hP.pa rfl ⟨Nat.le_of_ble_eq_true rfl, Nat.le_of_ble_eq_true rfl⟩ hl.1 (Nat.le_of_ble_eq_true rfl) ⟨Nat.zero_le _, Nat.zero_le _⟩ rfl rfl dX3_seal_38 ?_
        refine lv_iconst (v := 1) hx hb dX3_seal_41 (by decide) ?_
        refine lv_icmp_ne (tgt := 54) hx hb dX3_seal_42 (by decide) (fun c_4 => ?_) (fun c_4 => ?_)
        · refine lv_bipush (v := -3) hx hb dX3_seal_54 (by decide) ?_
          rw [show f_X3_seal S i k = ((-3), S) from by rw [f_X3_seal, if_neg c_3, if_neg c_4]]
          exact x_int cx hr hlk (ad' := ad) ⟨rfl, hP⟩ hS dX3_seal_56
        · refine lv_aload_n hx hb dX3_seal_45 rfl (lv_at hl 0 rfl) ?_
          refine w_get cx (ci := 3) rfl iX3 (hP.pa _ _ cM_0) 14 (by decide) k_465 (v := .ref (ad 13)) rfl dX3_seal_46 ?_
          refine lv_iload_n hx hb dX3_seal_49 rfl (lv_at hl 2 rfl) ?_
          refine w_zald cx (hP.pa _ _ (cM_A (n := 10000) 12 (by decide) rfl rfl)) k rfl hk (by decide) dX3_seal_50 ?_
          refine lv_if_eq (tgt := 57) hx hb dX3_seal_51 (by decide) (fun c_5 => ?_) (fun c_5 => ?_)
          · refine lv_aload_n hx hb dX3_seal_57 rfl (lv_at hl 0 rfl) ?_
            refine w_get cx (ci := 3) rfl iX3 (hP.pa _ _ cM_0) 14 (by decide) k_465 (v := .ref (ad 13)) rfl dX3_seal_58 ?_
            refine lv_iload_n hx hb dX3_seal_61 rfl (lv_at hl 2 rfl) ?_
            refine lv_iconst (v := 1) hx hb dX3_seal_62 (by decide) ?_
            refine m_zast (n := 10000) cx hP hS 12 (by decide) rfl rfl k rfl hk (by decide) (Or.inr rfl) dX3_seal_63 (fun H locs hP hS => ?_)
            refine lv_aload_n hx hb dX3_seal_64 rfl (lv_at hl 0 rfl) ?_
            refine w_get cx (ci := 3) rfl iX3 (hP.pa _ _ cM_0) 8 (by decide) k_459 (v := .ref (ad 7)) rfl dX3_seal_65 ?_
            refine lv_iload_n hx hb dX3_seal_68 rfl (lv_at hl 1 rfl) ?_
            refine lv_iload_n hx hb dX3_seal_69 rfl (lv_at hl 2 rfl) ?_
            refine m_iast (n := 40) cx hP hS 6 (by decide) rfl rfl i rfl (Nat.lt_of_lt_of_le hi hW.t) (by decide) dX3_seal_70 (fun H locs hP hS => ?_)
            refine lv_iconst (v := 1) hx hb dX3_seal_71 (by decide) ?_
            rw [show f_X3_seal S i k = (1, (setA (setA S 12 k 1) 6 i (nI k))) from by rw [f_X3_seal, if_neg c_3, if_pos c_4, if_pos c_5]]
            exact x_int cx hr hlk (ad' := ad) ⟨rfl, hP⟩ hS dX3_seal_72
          · refine lv_bipush (v := -3) hx hb dX3_seal_54 (by decide) ?_
            rw [show f_X3_seal S i k = ((-3), S) from by rw [f_X3_seal, if_neg c_3, if_pos c_4, if_neg c_5]]
            exact x_int cx hr hlk (ad' := ad) ⟨rfl, hP⟩ hS dX3_seal_56
    · exact absurd c_2 (isN_in h1 hk)
  · exact absurd c_1 (by decide)
def r_X3_unsettle (x : Int32) : Nat → Nat → St → St
  | 0, k, Z => Z
  | q + 1, k, Z => if ar Z 20 k = -1000000 then r_X3_unsettle x q (k + 1) Z
    else if ar Z 20 k = x then r_X3_unsettle x q (k + 1) ((setA Z 18 k 0))
    else if ar Z 18 (ix (ar Z 20 k)) = 0 then r_X3_unsettle x q (k + 1) ((setA Z 18 k 0))
    else r_X3_unsettle x q (k + 1) Z
def f_X3_unsettle (S : St) (x : Int32) : St :=
  r_X3_unsettle x (nr S) 0 S
set_option maxRecDepth 20000 in
theorem c_X3_unsettle (l : Launch) (G : GG) (ad : Nat → Nat) (S : St) (hW : WF S) (hBa : WB S) (x : Int32) : MW l yX3_unsettle cX3_unsettle 3 none 0 0 0 0 G ad (cM G ad S) [.ref (ad 0), .int x] (none) (fun ad' => cM G ad' (f_X3_unsettle S x)) (fun ad' => ad' = ad) := by
  refine MW.of [(0, .ref (ad 0)), (1, .int x)] (by decide) (Nat.le_of_ble_eq_true rfl) rfl ?_
  intro p e s m args below meth c A cx hr hlk hnm hA hP ls hl
  have hx := cx.1.1
  have hb := cx.1.2.1
  have hS : va_S A s.heap s.heap [] := va_S.rf
  refine lv_iconst (v := 0) hx hb dX3_unsettle_0 (by decide) ?_
  refine lv_istore_n (lv' := [(2, .int 0), (0, .ref (ad 0)), (1, .int x)]) hx hb dX3_unsettle_1 rfl hl (by decide) rfl (fun ls hl => ?_)
  rw [show f_X3_unsettle S x = r_X3_unsettle x (nr S) 0 S from by rw [f_X3_unsettle]]
  have lp : ∀ (q k : Nat) (Z : St) (H : Heap) (locs : List Loc), k + q = nr Z → WF Z → WB Z → pw G A ad (cM G ad Z) H → va_S A s.heap H locs → ∀ ls : Array Slot, lv_has ls 3 [(2, .int (nI k)), (0, .ref (ad 0)), (1, .int x)] → W p l e (rmM 0 0 0 0) s m args below meth c H locs 0 0 (MQ below (Qw none G A (fun ad' H => ad' = ad ∧ pw G A ad' (cM G ad' (r_X3_unsettle x q k Z)) H)) args s 0 0 A) (F0 m 2 ls []) := by
    intro q
    induction q with
    | zero =>
      intro k Z H locs hk hW hBa hP hS ls hl
      have hk2 : k = nr Z := by omega
      subst hk2
      refine lv_iload_n hx hb dX3_unsettle_2 rfl (lv_at hl 0 rfl) ?_
      refine lv_aload_n hx hb dX3_unsettle_3 rfl (lv_at hl 1 rfl) ?_
      refine w_get cx (ci := 3) rfl iX3 (hP.pa _ _ cM_0) 15 (by decide) k_466 (v := .int (nI (nr Z))) rfl dX3_unsettle_4 ?_
      refine lv_icmp_ge (tgt := 58) hx hb dX3_unsettle_7 (by decide) (fun c_1 => ?_) (fun c_1 => ?_)
      · rw [show r_X3_unsettle x 0 (nr Z) Z = Z from by rw [r_X3_unsettle]]
        exact x_void cx hr hlk (ad' := ad) ⟨rfl, hP⟩ hS dX3_unsettle_58
      · exact absurd (Int32.le_refl _) c_1
    | succ q ih =>
      intro k Z H locs hk1 hW hBa hP hS ls hl
      have hk : k < nr Z := by omega
      refine lv_iload_n hx hb dX3_unsettle_2 rfl (lv_at hl 0 rfl) ?_
      refine lv_aload_n hx hb dX3_unsettle_3 rfl (lv_at hl 1 rfl) ?_
      refine w_get cx (ci := 3) rfl iX3 (hP.pa _ _ cM_0) 15 (by decide) k_466 (v := .int (nI (nr Z))) rfl dX3_unsettle_4 ?_
      refine lv_icmp_ge (tgt := 58) hx hb dX3_unsettle_7 (by decide) (fun c_2 => ?_) (fun c_2 => ?_)
      · exact absurd c_2 (nI_ge (b := nr Z) hk (Nat.lt_of_le_of_lt hW.r (by decide)))
      · refine lv_aload_n hx hb dX3_unsettle_10 rfl (lv_at hl 1 rfl) ?_
        refine w_get cx (ci := 3) rfl iX3 (hP.pa _ _ cM_0) 23 (by decide) k_474 (v := .ref (ad 21)) rfl dX3_unsettle_11 ?_
        refine lv_iload_n hx hb dX3_unsettle_14 rfl (lv_at hl 0 rfl) ?_
        refine w_iald cx (hP.pa _ _ (cM_A (n := 300) 20 (by decide) rfl rfl)) k rfl (Nat.lt_of_lt_of_le hk hW.r) (by decide) dX3_unsettle_15 ?_
        refine w_ldc cx k_548 dX3_unsettle_16 ?_
        refine lv_icmp_eq (tgt := 52) hx hb dX3_unsettle_18 (by decide) (fun c_3 => ?_) (fun c_3 => ?_)
        · refine lv_iinc (v := nI (k + 1)) (lv' := [(2, .int (nI (k + 1))), (0, .ref (ad 0)), (1, .int x)]) hx hb dX3_unsettle_52 hl (k := 0) rfl (by rw [nI_succ]; rfl) (by decide) rfl (fun ls hl => ?_)
          refine lv_goto (tgt := 2) hx hb dX3_unsettle_55 (by decide) ?_
          rw [show r_X3_unsettle x (q + 1) k Z = r_X3_unsettle x q (k + 1) Z from by rw [r_X3_unsettle, if_pos c_3]]
          exact ih (k + 1) Z H locs (show k + 1 + q = nr Z by omega) hW hBa hP hS ls (lv_sub hl [0, 1, 2] rfl)
        · refine lv_aload_n hx hb dX3_unsettle_21 rfl (lv_at hl 1 rfl) ?_
          refine w_get cx (ci := 3) rfl iX3 (hP.pa _ _ cM_0) 23 (by decide) k_474 (v := .ref (ad 21)) rfl dX3_unsettle_22 ?_
          refine lv_iload_n hx hb dX3_unsettle_25 rfl (lv_at hl 0 rfl) ?_
          refine w_iald cx (hP.pa _ _ (cM_A (n := 300) 20 (by decide) rfl rfl)) k rfl (Nat.lt_of_lt_of_le hk hW.r) (by decide) dX3_unsettle_26 ?_
          refine lv_iload_n hx hb dX3_unsettle_27 rfl (lv_at hl 2 rfl) ?_
          refine lv_icmp_eq (tgt := 45) hx hb dX3_unsettle_28 (by decide) (fun c_4 => ?_) (fun c_4 => ?_)
          · refine lv_aload_n hx hb dX3_unsettle_45 rfl (lv_at hl 1 rfl) ?_
            refine w_get cx (ci := 3) rfl iX3 (hP.pa _ _ cM_0) 21 (by decide) k_472 (v := .ref (ad 19)) rfl dX3_unsettle_46 ?_
            refine lv_iload_n hx hb dX3_unsettle_49 rfl (lv_at hl 0 rfl) ?_
            refine lv_iconst (v := 0) hx hb dX3_unsettle_50 (by decide) ?_
            refine m_zast (n := 300) cx hP hS 18 (by decide) rfl rfl k rfl (Nat.lt_of_lt_of_le hk hW.r) (by decide) (Or.inl rfl) dX3_unsettle_51 (fun H locs hP hS => ?_)
            refine lv_iinc (v := nI (k + 1)) (lv' := [(2, .int (nI (k + 1))), (0, .ref (ad 0)), (1, .int x)]) hx hb dX3_unsettle_52 hl (k := 0) rfl (by rw [nI_succ]; rfl) (by decide) rfl (fun ls hl => ?_)
            refine lv_goto (tgt := 2) hx hb dX3_unsettle_55 (by decide) ?_
            rw [show r_X3_unsettle x (q + 1) k Z = r_X3_unsettle x q (k + 1) ((setA Z 18 k 0)) from by rw [r_X3_unsettle, if_neg c_3, if_pos c_4]]
            exact ih (k + 1) ((setA Z 18 k 0)) H locs (show k + 1 + q = nr Z by omega) (hW.setA k 0 (by decide) (by decide) (by decide) (by decide)) (hBa.setA k 0 (by decide)) hP hS ls (lv_sub hl [0, 1, 2] rfl)
          · refine lv_aload_n hx hb dX3_unsettle_31 rfl (lv_at hl 1 rfl) ?_
            refine w_get cx (ci := 3) rfl iX3 (hP.pa _ _ cM_0) 21 (by decide) k_472 (v := .ref (ad 19)) rfl dX3_unsettle_32 ?_
            refine lv_aload_n hx hb dX3_unsettle_35 rfl (lv_at hl 1 rfl) ?_
            refine w_get cx (ci := 3) rfl iX3 (hP.pa _ _ cM_0) 23 (by decide) k_474 (v := .ref (ad 21)) rfl dX3_unsettle_36 ?_
            refine lv_iload_n hx hb dX3_unsettle_39 rfl (lv_at hl 0 rfl) ?_
            refine w_iald cx (hP.pa _ _ (cM_A (n := 300) 20 (by decide) rfl rfl)) k rfl (Nat.lt_of_lt_of_le hk hW.r) (by decide) dX3_unsettle_40 ?_
            refine w_zald cx (hP.pa _ _ (cM_A (n := 300) 18 (by decide) rfl rfl)) (ix (ar Z 20 k)) (hBa.ba hk c_3).1 (Nat.lt_trans (hBa.ba hk c_3).2 (Nat.lt_of_lt_of_le hk hW.r)) (by decide) dX3_unsettle_41 ?_
            refine lv_if_ne (tgt := 52) hx hb dX3_unsettle_42 (by decide) (fun c_5 => ?_) (fun c_5 => ?_)
            · refine lv_iinc (v := nI (k + 1)) (lv' := [(2, .int (nI (k + 1))), (0, .ref (ad 0)), (1, .int x)]) hx hb dX3_unsettle_52 hl (k := 0) rfl (by rw [nI_succ]; rfl) (by decide) rfl (fun ls hl => ?_)
              refine lv_goto (tgt := 2) hx hb dX3_unsettle_55 (by decide) ?_
              rw [show r_X3_unsettle x (q + 1) k Z = r_X3_unsettle x q (k + 1) Z from by rw [r_X3_unsettle, if_neg c_3, if_neg c_4, if_neg c_5]]
              exact ih (k + 1) Z H locs (show k + 1 + q = nr Z by omega) hW hBa hP hS ls (lv_sub hl [0, 1, 2] rfl)
            · refine lv_aload_n hx hb dX3_unsettle_45 rfl (lv_at hl 1 rfl) ?_
              refine w_get cx (ci := 3) rfl iX3 (hP.pa _ _ cM_0) 21 (by decide) k_472 (v := .ref (ad 19)) rfl dX3_unsettle_46 ?_
              refine lv_iload_n hx hb dX3_unsettle_49 rfl (lv_at hl 0 rfl) ?_
              refine lv_iconst (v := 0) hx hb dX3_unsettle_50 (by decide) ?_
              refine m_zast (n := 300) cx hP hS 18 (by decide) rfl rfl k rfl (Nat.lt_of_lt_of_le hk hW.r) (by decide) (Or.inl rfl) dX3_unsettle_51 (fun H locs hP hS => ?_)
              refine lv_iinc (v := nI (k + 1)) (lv' := [(2, .int (nI (k + 1))), (0, .ref (ad 0)), (1, .int x)]) hx hb dX3_unsettle_52 hl (k := 0) rfl (by rw [nI_succ]; rfl) (by decide) rfl (fun ls hl => ?_)
              refine lv_goto (tgt := 2) hx hb dX3_unsettle_55 (by decide) ?_
              rw [show r_X3_unsettle x (q + 1) k Z = r_X3_unsettle x q (k + 1) ((setA Z 18 k 0)) from by rw [r_X3_unsettle, if_neg c_3, if_neg c_4, if_pos c_5]]
              exact ih (k + 1) ((setA Z 18 k 0)) H locs (show k + 1 + q = nr Z by omega) (hW.setA k 0 (by decide) (by decide) (by decide) (by decide)) (hBa.setA k 0 (by decide)) hP hS ls (lv_sub hl [0, 1, 2] rfl)
  exact lp (nr S) (0) S _ _ (Nat.zero_add _) hW hBa hP hS ls hl
set_option maxRecDepth 20000 in
theorem c_X3_charge_out (l : Launch) (G : GG) (ad : Nat → Nat) (S : St) (hW : WF S) {n : Int32} (hn : nT S n)  : MW l yX3_charge cX3_charge 6 (some .int) 2 47 0 0 G ad (cM G ad S) [.ref (ad 0), .int n] (some (.int (((-1, S) : Int32 × St)).1)) (fun ad' => cM G ad' (((-1, S) : Int32 × St)).2) (fun ad' => ad' = ad) := by
  refine MW.of [(0, .ref (ad 0)), (1, .int n)] (by decide) (Nat.le_of_ble_eq_true rfl) rfl ?_
  intro p e s m args below meth c A cx hr hlk hnm hA hP ls hl
  have hx := cx.1.1
  have hb := cx.1.2.1
  have hS : va_S A s.heap s.heap [] := va_S.rf
  refine lv_aload_n hx hb dX3_charge_0 rfl (lv_at hl 0 rfl) ?_
  refine lv_iload_n hx hb dX3_charge_1 rfl (lv_at hl 1 rfl) ?_
  refine w_callV (As := [.int n]) (rest := []) (st := [.int 0]) cx (c_X3_isThing_out l G ad S hW hn) k_553 cal_yX3_isThing (ci := 3) rfl (hP.pa _ _ cM_0) hP.pa rfl ⟨Nat.le_of_ble_eq_true rfl, Nat.le_of_ble_eq_true rfl⟩ hl.1 (Nat.le_of_ble_eq_true rfl) ⟨Nat.zero_le _, Nat.zero_le _⟩ rfl rfl dX3_charge_2 ?_
  refine lv_if_ne (tgt := 10) hx hb dX3_charge_5 (by decide) (fun c_1 => ?_) (fun c_1 => ?_)
  · exact absurd (by decide) c_1
  · refine lv_iconst (v := -1) hx hb dX3_charge_8 (by decide) ?_
    exact x_int cx hr hlk (ad' := ad) ⟨rfl, hP⟩ hS dX3_charge_9
def f_X3_charge (S : St) (i : Nat) : Int32 × St :=
  if f_X3_isTool S i = 0 then ((-3), S)
  else if f_X3_judgedOn S i (sc S 0) = 3 then (if ar S 15 (ix (ar S 5 i)) = sc S 0 then (if ar S 21 (ix (ar S 5 i)) = 0 then (if 0 ≤ f_X3_errorOf (setA (setS (setA (setA S 21 (ix (ar S 5 i)) 1) 7 i ((ar S 7 i) + 1)) 1 ((sc S 1) + 1)) 22 (ix (ar S 3 i)) ((ar S 22 (ix (ar S 3 i))) + 1)) i then (if 5 ≤ (ar S 22 (ix (ar S 3 i))) + 1 then ((10 * (((f_X3_errorOf (setA (setS (setA (setA S 21 (ix (ar S 5 i)) 1) 7 i ((ar S 7 i) + 1)) 1 ((sc S 1) + 1)) 22 (ix (ar S 3 i)) ((ar S 22 (ix (ar S 3 i))) + 1)) i) - (f_X3_spanOn (setA (setS (setA (setA S 21 (ix (ar S 5 i)) 1) 7 i ((ar S 7 i) + 1)) 1 ((sc S 1) + 1)) 22 (ix (ar S 3 i)) ((ar S 22 (ix (ar S 3 i))) + 1)) i (sc S 0))) - (f_X3_allowance (setA (setS (setA (setA S 21 (ix (ar S 5 i)) 1) 7 i ((ar S 7 i) + 1)) 1 ((sc S 1) + 1)) 22 (ix (ar S 3 i)) ((ar S 22 (ix (ar S 3 i))) + 1)) i))) * 5, (setL (setA (setS (setA (setA S 21 (ix (ar S 5 i)) 1) 7 i ((ar S 7 i) + 1)) 1 ((sc S 1) + 1)) 22 (ix (ar S 3 i)) ((ar S 22 (ix (ar S 3 i))) + 1)) (ix (ar S 3 i)) ((os (setA (setS (setA (setA S 21 (ix (ar S 5 i)) 1) 7 i ((ar S 7 i) + 1)) 1 ((sc S 1) + 1)) 22 (ix (ar S 3 i)) ((ar S 22 (ix (ar S 3 i))) + 1)) (ix (ar S 3 i))) + (((10 * (((f_X3_errorOf (setA (setS (setA (setA S 21 (ix (ar S 5 i)) 1) 7 i ((ar S 7 i) + 1)) 1 ((sc S 1) + 1)) 22 (ix (ar S 3 i)) ((ar S 22 (ix (ar S 3 i))) + 1)) i) - (f_X3_spanOn (setA (setS (setA (setA S 21 (ix (ar S 5 i)) 1) 7 i ((ar S 7 i) + 1)) 1 ((sc S 1) + 1)) 22 (ix (ar S 3 i)) ((ar S 22 (ix (ar S 3 i))) + 1)) i (sc S 0))) - (f_X3_allowance (setA (setS (setA (setA S 21 (ix (ar S 5 i)) 1) 7 i ((ar S 7 i) + 1)) 1 ((sc S 1) + 1)) 22 (ix (ar S 3 i)) ((ar S 22 (ix (ar S 3 i))) + 1)) i))) * 5).toInt64))))
          else ((10 * (((f_X3_errorOf (setA (setS (setA (setA S 21 (ix (ar S 5 i)) 1) 7 i ((ar S 7 i) + 1)) 1 ((sc S 1) + 1)) 22 (ix (ar S 3 i)) ((ar S 22 (ix (ar S 3 i))) + 1)) i) - (f_X3_spanOn (setA (setS (setA (setA S 21 (ix (ar S 5 i)) 1) 7 i ((ar S 7 i) + 1)) 1 ((sc S 1) + 1)) 22 (ix (ar S 3 i)) ((ar S 22 (ix (ar S 3 i))) + 1)) i (sc S 0))) - (f_X3_allowance (setA (setS (setA (setA S 21 (ix (ar S 5 i)) 1) 7 i ((ar S 7 i) + 1)) 1 ((sc S 1) + 1)) 22 (ix (ar S 3 i)) ((ar S 22 (ix (ar S 3 i))) + 1)) i))) * ((ar S 22 (ix (ar S 3 i))) + 1), (setL (setA (setS (setA (setA S 21 (ix (ar S 5 i)) 1) 7 i ((ar S 7 i) + 1)) 1 ((sc S 1) + 1)) 22 (ix (ar S 3 i)) ((ar S 22 (ix (ar S 3 i))) + 1)) (ix (ar S 3 i)) ((os (setA (setS (setA (setA S 21 (ix (ar S 5 i)) 1) 7 i ((ar S 7 i) + 1)) 1 ((sc S 1) + 1)) 22 (ix (ar S 3 i)) ((ar S 22 (ix (ar S 3 i))) + 1)) (ix (ar S 3 i))) + (((10 * (((f_X3_errorOf (setA (setS (setA (setA S 21 (ix (ar S 5 i)) 1) 7 i ((ar S 7 i) + 1)) 1 ((sc S 1) + 1)) 22 (ix (ar S 3 i)) ((ar S 22 (ix (ar S 3 i))) + 1)) i) - (f_X3_spanOn (setA (setS (setA (setA S 21 (ix (ar S 5 i)) 1) 7 i ((ar S 7 i) + 1)) 1 ((sc S 1) + 1)) 22 (ix (ar S 3 i)) ((ar S 22 (ix (ar S 3 i))) + 1)) i (sc S 0))) - (f_X3_allowance (setA (setS (setA (setA S 21 (ix (ar S 5 i)) 1) 7 i ((ar S 7 i) + 1)) 1 ((sc S 1) + 1)) 22 (ix (ar S 3 i)) ((ar S 22 (ix (ar S 3 i))) + 1)) i))) * ((ar S 22 (ix (ar S 3 i))) + 1)).toInt64)))))
        else if 5 ≤ (ar S 22 (ix (ar S 3 i))) + 1 then ((10 * (((-(f_X3_errorOf (setA (setS (setA (setA S 21 (ix (ar S 5 i)) 1) 7 i ((ar S 7 i) + 1)) 1 ((sc S 1) + 1)) 22 (ix (ar S 3 i)) ((ar S 22 (ix (ar S 3 i))) + 1)) i)) - (f_X3_spanOn (setA (setS (setA (setA S 21 (ix (ar S 5 i)) 1) 7 i ((ar S 7 i) + 1)) 1 ((sc S 1) + 1)) 22 (ix (ar S 3 i)) ((ar S 22 (ix (ar S 3 i))) + 1)) i (sc S 0))) - (f_X3_allowance (setA (setS (setA (setA S 21 (ix (ar S 5 i)) 1) 7 i ((ar S 7 i) + 1)) 1 ((sc S 1) + 1)) 22 (ix (ar S 3 i)) ((ar S 22 (ix (ar S 3 i))) + 1)) i))) * 5, (setL (setA (setS (setA (setA S 21 (ix (ar S 5 i)) 1) 7 i ((ar S 7 i) + 1)) 1 ((sc S 1) + 1)) 22 (ix (ar S 3 i)) ((ar S 22 (ix (ar S 3 i))) + 1)) (ix (ar S 3 i)) ((os (setA (setS (setA (setA S 21 (ix (ar S 5 i)) 1) 7 i ((ar S 7 i) + 1)) 1 ((sc S 1) + 1)) 22 (ix (ar S 3 i)) ((ar S 22 (ix (ar S 3 i))) + 1)) (ix (ar S 3 i))) + (((10 * (((-(f_X3_errorOf (setA (setS (setA (setA S 21 (ix (ar S 5 i)) 1) 7 i ((ar S 7 i) + 1)) 1 ((sc S 1) + 1)) 22 (ix (ar S 3 i)) ((ar S 22 (ix (ar S 3 i))) + 1)) i)) - (f_X3_spanOn (setA (setS (setA (setA S 21 (ix (ar S 5 i)) 1) 7 i ((ar S 7 i) + 1)) 1 ((sc S 1) + 1)) 22 (ix (ar S 3 i)) ((ar S 22 (ix (ar S 3 i))) + 1)) i (sc S 0))) - (f_X3_allowance (setA (setS (setA (setA S 21 (ix (ar S 5 i)) 1) 7 i ((ar S 7 i) + 1)) 1 ((sc S 1) + 1)) 22 (ix (ar S 3 i)) ((ar S 22 (ix (ar S 3 i))) + 1)) i))) * 5).toInt64))))
        else ((10 * (((-(f_X3_errorOf (setA (setS (setA (setA S 21 (ix (ar S 5 i)) 1) 7 i ((ar S 7 i) + 1)) 1 ((sc S 1) + 1)) 22 (ix (ar S 3 i)) ((ar S 22 (ix (ar S 3 i))) + 1)) i)) - (f_X3_spanOn (setA (setS (setA (setA S 21 (ix (ar S 5 i)) 1) 7 i ((ar S 7 i) + 1)) 1 ((sc S 1) + 1)) 22 (ix (ar S 3 i)) ((ar S 22 (ix (ar S 3 i))) + 1)) i (sc S 0))) - (f_X3_allowance (setA (setS (setA (setA S 21 (ix (ar S 5 i)) 1) 7 i ((ar S 7 i) + 1)) 1 ((sc S 1) + 1)) 22 (ix (ar S 3 i)) ((ar S 22 (ix (ar S 3 i))) + 1)) i))) * ((ar S 22 (ix (ar S 3 i))) + 1), (setL (setA (setS (setA (setA S 21 (ix (ar S 5 i)) 1) 7 i ((ar S 7 i) + 1)) 1 ((sc S 1) + 1)) 22 (ix (ar S 3 i)) ((ar S 22 (ix (ar S 3 i))) + 1)) (ix (ar S 3 i)) ((os (setA (setS (setA (setA S 21 (ix (ar S 5 i)) 1) 7 i ((ar S 7 i) + 1)) 1 ((sc S 1) + 1)) 22 (ix (ar S 3 i)) ((ar S 22 (ix (ar S 3 i))) + 1)) (ix (ar S 3 i))) + (((10 * (((-(f_X3_errorOf (setA (setS (setA (setA S 21 (ix (ar S 5 i)) 1) 7 i ((ar S 7 i) + 1)) 1 ((sc S 1) + 1)) 22 (ix (ar S 3 i)) ((ar S 22 (ix (ar S 3 i))) + 1)) i)) - (f_X3_spanOn (setA (setS (setA (setA S 21 (ix (ar S 5 i)) 1) 7 i ((ar S 7 i) + 1)) 1 ((sc S 1) + 1)) 22 (ix (ar S 3 i)) ((ar S 22 (ix (ar S 3 i))) + 1)) i (sc S 0))) - (f_X3_allowance (setA (setS (setA (setA S 21 (ix (ar S 5 i)) 1) 7 i ((ar S 7 i) + 1)) 1 ((sc S 1) + 1)) 22 (ix (ar S 3 i)) ((ar S 22 (ix (ar S 3 i))) + 1)) i))) * ((ar S 22 (ix (ar S 3 i))) + 1)).toInt64)))))
      else ((-3), S))
    else ((-3), S))
  else ((-3), S)
set_option maxRecDepth 20000 in
theorem c_X3_charge (l : Launch) (G : GG) (ad : Nat → Nat) (S : St) (hW : WF S) {i : Nat} (hi : i < nt S) : MW l yX3_charge cX3_charge 6 (some .int) 2 47 0 0 G ad (cM G ad S) [.ref (ad 0), .int (nI i)] (some (.int (f_X3_charge S i).1)) (fun ad' => cM G ad' (f_X3_charge S i).2) (fun ad' => ad' = ad) := by
  refine MW.of [(0, .ref (ad 0)), (1, .int (nI i))] (by decide) (Nat.le_of_ble_eq_true rfl) rfl ?_
  intro p e s m args below meth c A cx hr hlk hnm hA hP ls hl
  have hx := cx.1.1
  have hb := cx.1.2.1
  have hS : va_S A s.heap s.heap [] := va_S.rf
  refine lv_aload_n hx hb dX3_charge_0 rfl (lv_at hl 0 rfl) ?_
  refine lv_iload_n hx hb dX3_charge_1 rfl (lv_at hl 1 rfl) ?_
  refine w_callV (As := [.int (nI i)]) (rest := []) (st := [.int 1]) cx (c_X3_isThing_in l G ad S hW hi) k_553 cal_yX3_isThing (ci := 3) rfl (hP.pa _ _ cM_0) hP.pa rfl ⟨Nat.le_of_ble_eq_true rfl, Nat.le_of_ble_eq_true rfl⟩ hl.1 (Nat.le_of_ble_eq_true rfl) ⟨Nat.zero_le _, Nat.zero_le _⟩ rfl rfl dX3_charge_2 ?_
  refine lv_if_ne (tgt := 10) hx hb dX3_charge_5 (by decide) (fun c_1 => ?_) (fun c_1 => ?_)
  · refine lv_aload_n hx hb dX3_charge_10 rfl (lv_at hl 0 rfl) ?_
    refine lv_iload_n hx hb dX3_charge_11 rfl (lv_at hl 1 rfl) ?_
    refine w_callV (As := [.int (nI i)]) (rest := []) (st := [.int (f_X3_isTool S i)]) cx (c_X3_isTool l G ad S hW (i := i) hi) k_571 cal_yX3_isTool (ci := 3) rfl (hP.pa _ _ cM_0) hP.pa rfl ⟨Nat.le_of_ble_eq_true rfl, Nat.le_of_ble_eq_true rfl⟩ hl.1 (Nat.le_of_ble_eq_true rfl) ⟨Nat.zero_le _, Nat.zero_le _⟩ rfl rfl dX3_charge_12 ?_
    refine lv_if_eq (tgt := 63) hx hb dX3_charge_15 (by decide) (fun c_2 => ?_) (fun c_2 => ?_)
    · refine lv_bipush (v := -3) hx hb dX3_charge_63 (by decide) ?_
      rw [show f_X3_charge S i = ((-3), S) from by rw [f_X3_charge, if_pos c_2]]
      exact x_int cx hr hlk (ad' := ad) ⟨rfl, hP⟩ hS dX3_charge_65
    · refine lv_aload_n hx hb dX3_charge_18 rfl (lv_at hl 0 rfl) ?_
      refine lv_iload_n hx hb dX3_charge_19 rfl (lv_at hl 1 rfl) ?_
      refine lv_aload_n hx hb dX3_charge_20 rfl (lv_at hl 0 rfl) ?_
      refine w_get cx (ci := 3) rfl iX3 (hP.pa _ _ cM_0) 0 (by decide) k_451 (v := .int (sc S 0)) rfl dX3_charge_21 ?_
      refine w_callV (As := [.int (nI i), .int (sc S 0)]) (rest := []) (st := [.int (f_X3_judgedOn S i (sc S 0))]) cx (c_X3_judgedOn l G ad S hW (i := i) hi (sc S 0)) k_643 cal_yX3_judgedOn (ci := 3) rfl (hP.pa _ _ cM_0) hP.pa rfl ⟨Nat.le_of_ble_eq_true rfl, Nat.le_of_ble_eq_true rfl⟩ hl.1 (Nat.le_of_ble_eq_true rfl) ⟨Nat.zero_le _, Nat.zero_le _⟩ rfl rfl dX3_charge_24 ?_
      refine lv_iconst (v := 3) hx hb dX3_charge_27 (by decide) ?_
      refine lv_icmp_ne (tgt := 63) hx hb dX3_charge_28 (by decide) (fun c_3 => ?_) (fun c_3 => ?_)
      · refine lv_bipush (v := -3) hx hb dX3_charge_63 (by decide) ?_
        rw [show f_X3_charge S i = ((-3), S) from by rw [f_X3_charge, if_neg c_2, if_neg c_3]]
        exact x_int cx hr hlk (ad' := ad) ⟨rfl, hP⟩ hS dX3_charge_65
      · refine lv_aload_n hx hb dX3_charge_31 rfl (lv_at hl 0 rfl) ?_
        refine w_get cx (ci := 3) rfl iX3 (hP.pa _ _ cM_0) 18 (by decide) k_469 (v := .ref (ad 16)) rfl dX3_charge_32 ?_
        refine lv_aload_n hx hb dX3_charge_35 rfl (lv_at hl 0 rfl) ?_
        refine w_get cx (ci := 3) rfl iX3 (hP.pa _ _ cM_0) 7 (by decide) k_458 (v := .ref (ad 6)) rfl dX3_charge_36 ?_
        refine lv_iload_n hx hb dX3_charge_39 rfl (lv_at hl 1 rfl) ?_
        refine w_iald cx (hP.pa _ _ (cM_A (n := 40) 5 (by decide) rfl rfl)) i rfl (Nat.lt_of_lt_of_le hi hW.t) (by decide) dX3_charge_40 ?_
        refine w_iald cx (hP.pa _ _ (cM_A (n := 300) 15 (by decide) rfl rfl)) (ix (ar S 5 i)) (hW.la hi (judged3_la c_3)).1 (Nat.lt_of_lt_of_le (hW.la hi (judged3_la c_3)).2 hW.r) (by decide) dX3_charge_41 ?_
        refine lv_aload_n hx hb dX3_charge_42 rfl (lv_at hl 0 rfl) ?_
        refine w_get cx (ci := 3) rfl iX3 (hP.pa _ _ cM_0) 0 (by decide) k_451 (v := .int (sc S 0)) rfl dX3_charge_43 ?_
        refine lv_icmp_ne (tgt := 63) hx hb dX3_charge_46 (by decide) (fun c_4 => ?_) (fun c_4 => ?_)
        · refine lv_bipush (v := -3) hx hb dX3_charge_63 (by decide) ?_
          rw [show f_X3_charge S i = ((-3), S) from by rw [f_X3_charge, if_neg c_2, if_pos c_3, if_neg c_4]]
          exact x_int cx hr hlk (ad' := ad) ⟨rfl, hP⟩ hS dX3_charge_65
        · refine lv_aload_n hx hb dX3_charge_49 rfl (lv_at hl 0 rfl) ?_
          refine w_get cx (ci := 3) rfl iX3 (hP.pa _ _ cM_0) 24 (by decide) k_475 (v := .ref (ad 22)) rfl dX3_charge_50 ?_
          refine lv_aload_n hx hb dX3_charge_53 rfl (lv_at hl 0 rfl) ?_
          refine w_get cx (ci := 3) rfl iX3 (hP.pa _ _ cM_0) 7 (by decide) k_458 (v := .ref (ad 6)) rfl dX3_charge_54 ?_
          refine lv_iload_n hx hb dX3_charge_57 rfl (lv_at hl 1 rfl) ?_
          refine w_iald cx (hP.pa _ _ (cM_A (n := 40) 5 (by decide) rfl rfl)) i rfl (Nat.lt_of_lt_of_le hi hW.t) (by decide) dX3_charge_58 ?_
          refine w_zald cx (hP.pa _ _ (cM_A (n := 300) 21 (by decide) rfl rfl)) (ix (ar S 5 i)) (hW.la hi (judged3_la c_3)).1 (Nat.lt_of_lt_of_le (hW.la hi (judged3_la c_3)).2 hW.r) (by decide) dX3_charge_59 ?_
          refine lv_if_eq (tgt := 66) hx hb dX3_charge_60 (by decide) (fun c_5 => ?_) (fun c_5 => ?_)
          · refine lv_aload_n hx hb dX3_charge_66 rfl (lv_at hl 0 rfl) ?_
            refine w_get cx (ci := 3) rfl iX3 (hP.pa _ _ cM_0) 24 (by decide) k_475 (v := .ref (ad 22)) rfl dX3_charge_67 ?_
            refine lv_aload_n hx hb dX3_charge_70 rfl (lv_at hl 0 rfl) ?_
            refine w_get cx (ci := 3) rfl iX3 (hP.pa _ _ cM_0) 7 (by decide) k_458 (v := .ref (ad 6)) rfl dX3_charge_71 ?_
            refine lv_iload_n hx hb dX3_charge_74 rfl (lv_at hl 1 rfl) ?_
            refine w_iald cx (hP.pa _ _ (cM_A (n := 40) 5 (by decide) rfl rfl)) i rfl (Nat.lt_of_lt_of_le hi hW.t) (by decide) dX3_charge_75 ?_
            refine lv_iconst (v := 1) hx hb dX3_charge_76 (by decide) ?_
            refine m_zast (n := 300) cx hP hS 21 (by decide) rfl rfl (ix (ar S 5 i)) (hW.la hi (judged3_la c_3)).1 (Nat.lt_of_lt_of_le (hW.la hi (judged3_la c_3)).2 hW.r) (by decide) (Or.inr rfl) dX3_charge_77 (fun H locs hP hS => ?_)
            refine lv_aload_n hx hb dX3_charge_78 rfl (lv_at hl 0 rfl) ?_
            refine w_get cx (ci := 3) rfl iX3 (hP.pa _ _ cM_0) 5 (by decide) k_456 (v := .ref (ad 4)) rfl dX3_charge_79 ?_
            refine lv_iload_n hx hb dX3_charge_82 rfl (lv_at hl 1 rfl) ?_
            refine w_iald cx (hP.pa _ _ (cM_A (n := 40) 3 (by decide) rfl rfl)) i rfl (Nat.lt_of_lt_of_le hi hW.t) (by decide) dX3_charge_83 ?_
            refine w_nrm (y := ar S 3 i) rfl ?_
            refine lv_istore_n (lv' := [(2, .int (ar S 3 i)), (0, .ref (ad 0)), (1, .int (nI i))]) hx hb dX3_charge_84 rfl hl (by decide) rfl (fun ls hl => ?_)
            refine lv_aload_n hx hb dX3_charge_85 rfl (lv_at hl 1 rfl) ?_
            refine w_get cx (ci := 3) rfl iX3 (hP.pa _ _ cM_0) 9 (by decide) k_460 (v := .ref (ad 8)) rfl dX3_charge_86 ?_
            refine lv_iload_n hx hb dX3_charge_89 rfl (lv_at hl 2 rfl) ?_
            refine lv_dup2_11 hx hb dX3_charge_90 rfl rfl ?_
            refine w_iald cx (hP.pa _ _ (cM_A (n := 40) 7 (by decide) rfl rfl)) i rfl (Nat.lt_of_lt_of_le hi hW.t) (by decide) dX3_charge_91 ?_
            refine w_nrm (y := ar S 7 i) rfl ?_
            refine lv_iconst (v := 1) hx hb dX3_charge_92 (by decide) ?_
            refine lv_iadd hx hb dX3_charge_93 ?_
            refine m_iast (n := 40) cx hP hS 7 (by decide) rfl rfl i rfl (Nat.lt_of_lt_of_le hi hW.t) (by decide) dX3_charge_94 (fun H locs hP hS => ?_)
            refine lv_aload_n hx hb dX3_charge_95 rfl (lv_at hl 1 rfl) ?_
            refine lv_dup hx hb dX3_charge_96 rfl ?_
            refine w_get cx (ci := 3) rfl iX3 (hP.pa _ _ cM_0) 25 (by decide) k_476 (v := .int (sc S 1)) rfl dX3_charge_97 ?_
            refine lv_iconst (v := 1) hx hb dX3_charge_100 (by decide) ?_
            refine lv_iadd hx hb dX3_charge_101 ?_
            refine m_put cx (setS (setA (setA S 21 (ix (ar S 5 i)) 1) 7 i ((ar S 7 i) + 1)) 1 ((sc S 1) + 1)) hP hS 25 (by decide) k_476 rfl rfl (by decide) rfl (fun _ => rfl) rfl dX3_charge_102 (fun H locs hP hS => ?_)
            refine lv_aload_n hx hb dX3_charge_105 rfl (lv_at hl 1 rfl) ?_
            refine w_get cx (ci := 3) rfl iX3 (hP.pa _ _ cM_0) 26 (by decide) k_477 (v := .ref (ad 23)) rfl dX3_charge_106 ?_
            refine lv_iload_n hx hb dX3_charge_109 rfl (lv_at hl 0 rfl) ?_
            refine lv_dup2_11 hx hb dX3_charge_110 rfl rfl ?_
            refine w_iald cx (hP.pa _ _ (cM_A (n := 10) 22 (by decide) rfl rfl)) (ix (ar S 3 i)) (hW.ow hi).1 (hW.ow hi).2 (by decide) dX3_charge_111 ?_
            refine w_nrm (y := ar S 22 (ix (ar S 3 i))) rfl ?_
            refine lv_iconst (v := 1) hx hb dX3_charge_112 (by decide) ?_
            refine lv_iadd hx hb dX3_charge_113 ?_
            refine m_iast (n := 10) cx hP hS 22 (by decide) rfl rfl (ix (ar S 3 i)) (hW.ow hi).1 (hW.ow hi).2 (by decide) dX3_charge_114 (fun H locs hP hS => ?_)
            refine lv_aload_n hx hb dX3_charge_115 rfl (lv_at hl 1 rfl) ?_
            refine lv_iload_n hx hb dX3_charge_116 rfl (lv_at hl 2 rfl) ?_
            refine w_callV (As := [.int (nI i)]) (rest := []) (st := [.int (f_X3_errorOf (setA (setS (setA (setA S 21 (ix (ar S 5 i)) 1) 7 i ((ar S 7 i) + 1)) 1 ((sc S 1) + 1)) 22 (ix (ar S 3 i)) ((ar S 22 (ix (ar S 3 i))) + 1)) i)]) cx (c_X3_errorOf l G ad (setA (setS (setA (setA S 21 (ix (ar S 5 i)) 1) 7 i ((ar S 7 i) + 1)) 1 ((sc S 1) + 1)) 22 (ix (ar S 3 i)) ((ar S 22 (ix (ar S 3 i))) + 1)) (((hW.setA (ix (ar S 5 i)) 1 (by decide) (by decide) (by decide) (by decide)).setA i ((ar S 7 i) + 1) (by decide) (by decide) (by decide) (by decide)).setA (ix (ar S 3 i)) ((ar S 22 (ix (ar S 3 i))) + 1) (by decide) (by decide) (by decide) (by decide)) (i := i) hi) k_587 cal_yX3_errorOf (ci := 3) rfl (hP.pa _ _ cM_0) hP.pa rfl ⟨Nat.le_of_ble_eq_true rfl, Nat.le_of_ble_eq_true rfl⟩ hl.1 (Nat.le_of_ble_eq_true rfl) ⟨Nat.zero_le _, Nat.zero_le _⟩ rfl rfl dX3_charge_117 ?_
            refine lv_if_ge (tgt := 132) hx hb dX3_charge_120 (by decide) (fun c_6 => ?_) (fun c_6 => ?_)
            · refine lv_aload_n hx hb dX3_charge_132 rfl (lv_at hl 1 rfl) ?_
              refine lv_iload_n hx hb dX3_charge_133 rfl (lv_at hl 2 rfl) ?_
              refine w_callV (As := [.int (nI i)]) (rest := []) (st := [.int (f_X3_errorOf (setA (setS (setA (setA S 21 (ix (ar S 5 i)) 1) 7 i ((ar S 7 i) + 1)) 1 ((sc S 1) + 1)) 22 (ix (ar S 3 i)) ((ar S 22 (ix (ar S 3 i))) + 1)) i)]) cx (c_X3_errorOf l G ad (setA (setS (setA (setA S 21 (ix (ar S 5 i)) 1) 7 i ((ar S 7 i) + 1)) 1 ((sc S 1) + 1)) 22 (ix (ar S 3 i)) ((ar S 22 (ix (ar S 3 i))) + 1)) (((hW.setA (ix (ar S 5 i)) 1 (by decide) (by decide) (by decide) (by decide)).setA i ((ar S 7 i) + 1) (by decide) (by decide) (by decide) (by decide)).setA (ix (ar S 3 i)) ((ar S 22 (ix (ar S 3 i))) + 1) (by decide) (by decide) (by decide) (by decide)) (i := i) hi) k_587 cal_yX3_errorOf (ci := 3) rfl (hP.pa _ _ cM_0) hP.pa rfl ⟨Nat.le_of_ble_eq_true rfl, Nat.le_of_ble_eq_true rfl⟩ hl.1 (Nat.le_of_ble_eq_true rfl) ⟨Nat.zero_le _, Nat.zero_le _⟩ rfl rfl dX3_charge_134 ?_
              refine lv_istore_n (lv' := [(3, .int (f_X3_errorOf (setA (setS (setA (setA S 21 (ix (ar S 5 i)) 1) 7 i ((ar S 7 i) + 1)) 1 ((sc S 1) + 1)) 22 (ix (ar S 3 i)) ((ar S 22 (ix (ar S 3 i))) + 1)) i)), (2, .int (ar S 3 i)), (0, .ref (ad 0)), (1, .int (nI i))]) hx hb dX3_charge_137 rfl hl (by decide) rfl (fun ls hl => ?_)
              refine lv_iload_n hx hb dX3_charge_138 rfl (lv_at hl 0 rfl) ?_
              refine lv_aload_n hx hb dX3_charge_139 rfl (lv_at hl 2 rfl) ?_
              refine lv_iload_n hx hb dX3_charge_140 rfl (lv_at hl 3 rfl) ?_
              refine lv_aload_n hx hb dX3_charge_141 rfl (lv_at hl 2 rfl) ?_
              refine w_get cx (ci := 3) rfl iX3 (hP.pa _ _ cM_0) 0 (by decide) k_451 (v := .int (sc S 0)) rfl dX3_charge_142 ?_
              refine w_callV (As := [.int (nI i), .int (sc S 0)]) (rest := [.int (f_X3_errorOf (setA (setS (setA (setA S 21 (ix (ar S 5 i)) 1) 7 i ((ar S 7 i) + 1)) 1 ((sc S 1) + 1)) 22 (ix (ar S 3 i)) ((ar S 22 (ix (ar S 3 i))) + 1)) i)]) (st := [.int (f_X3_spanOn (setA (setS (setA (setA S 21 (ix (ar S 5 i)) 1) 7 i ((ar S 7 i) + 1)) 1 ((sc S 1) + 1)) 22 (ix (ar S 3 i)) ((ar S 22 (ix (ar S 3 i))) + 1)) i (sc S 0)), .int (f_X3_errorOf (setA (setS (setA (setA S 21 (ix (ar S 5 i)) 1) 7 i ((ar S 7 i) + 1)) 1 ((sc S 1) + 1)) 22 (ix (ar S 3 i)) ((ar S 22 (ix (ar S 3 i))) + 1)) i)]) cx (c_X3_spanOn l G ad (setA (setS (setA (setA S 21 (ix (ar S 5 i)) 1) 7 i ((ar S 7 i) + 1)) 1 ((sc S 1) + 1)) 22 (ix (ar S 3 i)) ((ar S 22 (ix (ar S 3 i))) + 1)) (((hW.setA (ix (ar S 5 i)) 1 (by decide) (by decide) (by decide) (by decide)).setA i ((ar S 7 i) + 1) (by decide) (by decide) (by decide) (by decide)).setA (ix (ar S 3 i)) ((ar S 22 (ix (ar S 3 i))) + 1) (by decide) (by decide) (by decide) (by decide)) (i := i) hi (sc S 0)) k_595 cal_yX3_spanOn (ci := 3) rfl (hP.pa _ _ cM_0) hP.pa rfl ⟨Nat.le_of_ble_eq_true rfl, Nat.le_of_ble_eq_true rfl⟩ hl.1 (Nat.le_of_ble_eq_true rfl) ⟨Nat.zero_le _, Nat.zero_le _⟩ rfl rfl dX3_charge_145 ?_
              refine lv_isub hx hb dX3_charge_148 ?_
              refine lv_aload_n hx hb dX3_charge_149 rfl (lv_at hl 2 rfl) ?_
              refine lv_iload_n hx hb dX3_charge_150 rfl (lv_at hl 3 rfl) ?_
              refine w_callV (As := [.int (nI i)]) (rest := [.int ((f_X3_errorOf (setA (setS (setA (setA S 21 (ix (ar S 5 i)) 1) 7 i ((ar S 7 i) + 1)) 1 ((sc S 1) + 1)) 22 (ix (ar S 3 i)) ((ar S 22 (ix (ar S 3 i))) + 1)) i) - (f_X3_spanOn (setA (setS (setA (setA S 21 (ix (ar S 5 i)) 1) 7 i ((ar S 7 i) + 1)) 1 ((sc S 1) + 1)) 22 (ix (ar S 3 i)) ((ar S 22 (ix (ar S 3 i))) + 1)) i (sc S 0)))]) (st := [.int (f_X3_allowance (setA (setS (setA (setA S 21 (ix (ar S 5 i)) 1) 7 i ((ar S 7 i) + 1)) 1 ((sc S 1) + 1)) 22 (ix (ar S 3 i)) ((ar S 22 (ix (ar S 3 i))) + 1)) i), .int ((f_X3_errorOf (setA (setS (setA (setA S 21 (ix (ar S 5 i)) 1) 7 i ((ar S 7 i) + 1)) 1 ((sc S 1) + 1)) 22 (ix (ar S 3 i)) ((ar S 22 (ix (ar S 3 i))) + 1)) i) - (f_X3_spanOn (setA (setS (setA (setA S 21 (ix (ar S 5 i)) 1) 7 i ((ar S 7 i) + 1)) 1 ((sc S 1) + 1)) 22 (ix (ar S 3 i)) ((ar S 22 (ix (ar S 3 i))) + 1)) i (sc S 0)))]) cx (c_X3_allowance l G ad (setA (setS (setA (setA S 21 (ix (ar S 5 i)) 1) 7 i ((ar S 7 i) + 1)) 1 ((sc S 1) + 1)) 22 (ix (ar S 3 i)) ((ar S 22 (ix (ar S 3 i))) + 1)) (((hW.setA (ix (ar S 5 i)) 1 (by decide) (by decide) (by decide) (by decide)).setA i ((ar S 7 i) + 1) (by decide) (by decide) (by decide) (by decide)).setA (ix (ar S 3 i)) ((ar S 22 (ix (ar S 3 i))) + 1) (by decide) (by decide) (by decide) (by decide)) (i := i) hi) k_647 cal_yX3_allowance (ci := 3) rfl (hP.pa _ _ cM_0) hP.pa rfl ⟨Nat.le_of_ble_eq_true rfl, Nat.le_of_ble_eq_true rfl⟩ hl.1 (Nat.le_of_ble_eq_true rfl) ⟨Nat.zero_le _, Nat.zero_le _⟩ rfl rfl dX3_charge_151 ?_
              refine lv_isub hx hb dX3_charge_154 ?_
              refine lv_istore (lv' := [(4, .int (((f_X3_errorOf (setA (setS (setA (setA S 21 (ix (ar S 5 i)) 1) 7 i ((ar S 7 i) + 1)) 1 ((sc S 1) + 1)) 22 (ix (ar S 3 i)) ((ar S 22 (ix (ar S 3 i))) + 1)) i) - (f_X3_spanOn (setA (setS (setA (setA S 21 (ix (ar S 5 i)) 1) 7 i ((ar S 7 i) + 1)) 1 ((sc S 1) + 1)) 22 (ix (ar S 3 i)) ((ar S 22 (ix (ar S 3 i))) + 1)) i (sc S 0))) - (f_X3_allowance (setA (setS (setA (setA S 21 (ix (ar S 5 i)) 1) 7 i ((ar S 7 i) + 1)) 1 ((sc S 1) + 1)) 22 (ix (ar S 3 i)) ((ar S 22 (ix (ar S 3 i))) + 1)) i))), (3, .int (f_X3_errorOf (setA (setS (setA (setA S 21 (ix (ar S 5 i)) 1) 7 i ((ar S 7 i) + 1)) 1 ((sc S 1) + 1)) 22 (ix (ar S 3 i)) ((ar S 22 (ix (ar S 3 i))) + 1)) i)), (2, .int (ar S 3 i)), (0, .ref (ad 0)), (1, .int (nI i))]) hx hb dX3_charge_155 hl (by decide) rfl (fun ls hl => ?_)
              refine lv_bipush (v := 10) hx hb dX3_charge_157 (by decide) ?_
              refine lv_iload hx hb dX3_charge_159 (lv_at hl 0 rfl) ?_
              refine lv_imul hx hb dX3_charge_161 ?_
              refine lv_aload_n hx hb dX3_charge_162 rfl (lv_at hl 3 rfl) ?_
              refine w_get cx (ci := 3) rfl iX3 (hP.pa _ _ cM_0) 26 (by decide) k_477 (v := .ref (ad 23)) rfl dX3_charge_163 ?_
              refine lv_iload_n hx hb dX3_charge_166 rfl (lv_at hl 2 rfl) ?_
              refine w_iald cx (hP.pa _ _ (cM_A (n := 10) 22 (by decide) rfl rfl)) (ix (ar S 3 i)) (hW.ow hi).1 (hW.ow hi).2 (by decide) dX3_charge_167 ?_
              refine w_nrm (y := (ar S 22 (ix (ar S 3 i))) + 1) (ar_same (setS (setA (setA S 21 (ix (ar S 5 i)) 1) 7 i ((ar S 7 i) + 1)) 1 ((sc S 1) + 1)) 22 (ix (ar S 3 i)) ((ar S 22 (ix (ar S 3 i))) + 1)) ?_
              refine lv_iconst (v := 5) hx hb dX3_charge_168 (by decide) ?_
              refine lv_icmp_ge (tgt := 181) hx hb dX3_charge_169 (by decide) (fun c_7 => ?_) (fun c_7 => ?_)
              · refine lv_iconst (v := 5) hx hb dX3_charge_181 (by decide) ?_
                refine lv_imul hx hb dX3_charge_182 ?_
                refine lv_istore (lv' := [(5, .int ((10 * (((f_X3_errorOf (setA (setS (setA (setA S 21 (ix (ar S 5 i)) 1) 7 i ((ar S 7 i) + 1)) 1 ((sc S 1) + 1)) 22 (ix (ar S 3 i)) ((ar S 22 (ix (ar S 3 i))) + 1)) i) - (f_X3_spanOn (setA (setS (setA (setA S 21 (ix (ar S 5 i)) 1) 7 i ((ar S 7 i) + 1)) 1 ((sc S 1) + 1)) 22 (ix (ar S 3 i)) ((ar S 22 (ix (ar S 3 i))) + 1)) i (sc S 0))) - (f_X3_allowance (setA (setS (setA (setA S 21 (ix (ar S 5 i)) 1) 7 i ((ar S 7 i) + 1)) 1 ((sc S 1) + 1)) 22 (ix (ar S 3 i)) ((ar S 22 (ix (ar S 3 i))) + 1)) i))) * 5)), (4, .int (((f_X3_errorOf (setA (setS (setA (setA S 21 (ix (ar S 5 i)) 1) 7 i ((ar S 7 i) + 1)) 1 ((sc S 1) + 1)) 22 (ix (ar S 3 i)) ((ar S 22 (ix (ar S 3 i))) + 1)) i) - (f_X3_spanOn (setA (setS (setA (setA S 21 (ix (ar S 5 i)) 1) 7 i ((ar S 7 i) + 1)) 1 ((sc S 1) + 1)) 22 (ix (ar S 3 i)) ((ar S 22 (ix (ar S 3 i))) + 1)) i (sc S 0))) - (f_X3_allowance (setA (setS (setA (setA S 21 (ix (ar S 5 i)) 1) 7 i ((ar S 7 i) + 1)) 1 ((sc S 1) + 1)) 22 (ix (ar S 3 i)) ((ar S 22 (ix (ar S 3 i))) + 1)) i))), (3, .int (f_X3_errorOf (setA (setS (setA (setA S 21 (ix (ar S 5 i)) 1) 7 i ((ar S 7 i) + 1)) 1 ((sc S 1) + 1)) 22 (ix (ar S 3 i)) ((ar S 22 (ix (ar S 3 i))) + 1)) i)), (2, .int (ar S 3 i)), (0, .ref (ad 0)), (1, .int (nI i))]) hx hb dX3_charge_183 hl (by decide) rfl (fun ls hl => ?_)
                refine lv_aload_n hx hb dX3_charge_185 rfl (lv_at hl 4 rfl) ?_
                refine w_get cx (ci := 3) rfl iX3 (hP.pa _ _ cM_0) 27 (by decide) k_478 (v := .ref (ad 24)) rfl dX3_charge_186 ?_
                refine lv_iload_n hx hb dX3_charge_189 rfl (lv_at hl 3 rfl) ?_
                refine lv_dup2_11 hx hb dX3_charge_190 rfl rfl ?_
                refine w_lald cx (hP.pa _ _ cM_L) (ix (ar S 3 i)) (hW.ow hi).1 (hW.ow hi).2 (by decide) dX3_charge_191 ?_
                refine lv_iload hx hb dX3_charge_192 (lv_at hl 0 rfl) ?_
                refine lv_i2l hx hb dX3_charge_194 rfl ?_
                refine lv_ladd hx hb dX3_charge_195 ?_
                refine m_last cx hP hS (ix (ar S 3 i)) (hW.ow hi).1 (hW.ow hi).2 dX3_charge_196 (fun H locs hP hS => ?_)
                refine lv_iload hx hb dX3_charge_197 (lv_at hl 0 rfl) ?_
                rw [show f_X3_charge S i = ((10 * (((f_X3_errorOf (setA (setS (setA (setA S 21 (ix (ar S 5 i)) 1) 7 i ((ar S 7 i) + 1)) 1 ((sc S 1) + 1)) 22 (ix (ar S 3 i)) ((ar S 22 (ix (ar S 3 i))) + 1)) i) - (f_X3_spanOn (setA (setS (setA (setA S 21 (ix (ar S 5 i)) 1) 7 i ((ar S 7 i) + 1)) 1 ((sc S 1) + 1)) 22 (ix (ar S 3 i)) ((ar S 22 (ix (ar S 3 i))) + 1)) i (sc S 0))) - (f_X3_allowance (setA (setS (setA (setA S 21 (ix (ar S 5 i)) 1) 7 i ((ar S 7 i) + 1)) 1 ((sc S 1) + 1)) 22 (ix (ar S 3 i)) ((ar S 22 (ix (ar S 3 i))) + 1)) i))) * 5, (setL (setA (setS (setA (setA S 21 (ix (ar S 5 i)) 1) 7 i ((ar S 7 i) + 1)) 1 ((sc S 1) + 1)) 22 (ix (ar S 3 i)) ((ar S 22 (ix (ar S 3 i))) + 1)) (ix (ar S 3 i)) ((os (setA (setS (setA (setA S 21 (ix (ar S 5 i)) 1) 7 i ((ar S 7 i) + 1)) 1 ((sc S 1) + 1)) 22 (ix (ar S 3 i)) ((ar S 22 (ix (ar S 3 i))) + 1)) (ix (ar S 3 i))) + (((10 * (((f_X3_errorOf (setA (setS (setA (setA S 21 (ix (ar S 5 i)) 1) 7 i ((ar S 7 i) + 1)) 1 ((sc S 1) + 1)) 22 (ix (ar S 3 i)) ((ar S 22 (ix (ar S 3 i))) + 1)) i) - (f_X3_spanOn (setA (setS (setA (setA S 21 (ix (ar S 5 i)) 1) 7 i ((ar S 7 i) + 1)) 1 ((sc S 1) + 1)) 22 (ix (ar S 3 i)) ((ar S 22 (ix (ar S 3 i))) + 1)) i (sc S 0))) - (f_X3_allowance (setA (setS (setA (setA S 21 (ix (ar S 5 i)) 1) 7 i ((ar S 7 i) + 1)) 1 ((sc S 1) + 1)) 22 (ix (ar S 3 i)) ((ar S 22 (ix (ar S 3 i))) + 1)) i))) * 5).toInt64)))) from by rw [f_X3_charge, if_neg c_2, if_pos c_3, if_pos c_4, if_pos c_5, if_pos c_6, if_pos c_7]]
                exact x_int cx hr hlk (ad' := ad) ⟨rfl, hP⟩ hS dX3_charge_199
              · refine lv_aload_n hx hb dX3_charge_172 rfl (lv_at hl 3 rfl) ?_
                refine w_get cx (ci := 3) rfl iX3 (hP.pa _ _ cM_0) 26 (by decide) k_477 (v := .ref (ad 23)) rfl dX3_charge_173 ?_
                refine lv_iload_n hx hb dX3_charge_176 rfl (lv_at hl 2 rfl) ?_
                refine w_iald cx (hP.pa _ _ (cM_A (n := 10) 22 (by decide) rfl rfl)) (ix (ar S 3 i)) (hW.ow hi).1 (hW.ow hi).2 (by decide) dX3_charge_177 ?_
                refine w_nrm (y := (ar S 22 (ix (ar S 3 i))) + 1) (ar_same (setS (setA (setA S 21 (ix (ar S 5 i)) 1) 7 i ((ar S 7 i) + 1)) 1 ((sc S 1) + 1)) 22 (ix (ar S 3 i)) ((ar S 22 (ix (ar S 3 i))) + 1)) ?_
                refine lv_goto (tgt := 182) hx hb dX3_charge_178 (by decide) ?_
                refine lv_imul hx hb dX3_charge_182 ?_
                refine lv_istore (lv' := [(5, .int ((10 * (((f_X3_errorOf (setA (setS (setA (setA S 21 (ix (ar S 5 i)) 1) 7 i ((ar S 7 i) + 1)) 1 ((sc S 1) + 1)) 22 (ix (ar S 3 i)) ((ar S 22 (ix (ar S 3 i))) + 1)) i) - (f_X3_spanOn (setA (setS (setA (setA S 21 (ix (ar S 5 i)) 1) 7 i ((ar S 7 i) + 1)) 1 ((sc S 1) + 1)) 22 (ix (ar S 3 i)) ((ar S 22 (ix (ar S 3 i))) + 1)) i (sc S 0))) - (f_X3_allowance (setA (setS (setA (setA S 21 (ix (ar S 5 i)) 1) 7 i ((ar S 7 i) + 1)) 1 ((sc S 1) + 1)) 22 (ix (ar S 3 i)) ((ar S 22 (ix (ar S 3 i))) + 1)) i))) * ((ar S 22 (ix (ar S 3 i))) + 1))), (4, .int (((f_X3_errorOf (setA (setS (setA (setA S 21 (ix (ar S 5 i)) 1) 7 i ((ar S 7 i) + 1)) 1 ((sc S 1) + 1)) 22 (ix (ar S 3 i)) ((ar S 22 (ix (ar S 3 i))) + 1)) i) - (f_X3_spanOn (setA (setS (setA (setA S 21 (ix (ar S 5 i)) 1) 7 i ((ar S 7 i) + 1)) 1 ((sc S 1) + 1)) 22 (ix (ar S 3 i)) ((ar S 22 (ix (ar S 3 i))) + 1)) i (sc S 0))) - (f_X3_allowance (setA (setS (setA (setA S 21 (ix (ar S 5 i)) 1) 7 i ((ar S 7 i) + 1)) 1 ((sc S 1) + 1)) 22 (ix (ar S 3 i)) ((ar S 22 (ix (ar S 3 i))) + 1)) i))), (3, .int (f_X3_errorOf (setA (setS (setA (setA S 21 (ix (ar S 5 i)) 1) 7 i ((ar S 7 i) + 1)) 1 ((sc S 1) + 1)) 22 (ix (ar S 3 i)) ((ar S 22 (ix (ar S 3 i))) + 1)) i)), (2, .int (ar S 3 i)), (0, .ref (ad 0)), (1, .int (nI i))]) hx hb dX3_charge_183 hl (by decide) rfl (fun ls hl => ?_)
                refine lv_aload_n hx hb dX3_charge_185 rfl (lv_at hl 4 rfl) ?_
                refine w_get cx (ci := 3) rfl iX3 (hP.pa _ _ cM_0) 27 (by decide) k_478 (v := .ref (ad 24)) rfl dX3_charge_186 ?_
                refine lv_iload_n hx hb dX3_charge_189 rfl (lv_at hl 3 rfl) ?_
                refine lv_dup2_11 hx hb dX3_charge_190 rfl rfl ?_
                refine w_lald cx (hP.pa _ _ cM_L) (ix (ar S 3 i)) (hW.ow hi).1 (hW.ow hi).2 (by decide) dX3_charge_191 ?_
                refine lv_iload hx hb dX3_charge_192 (lv_at hl 0 rfl) ?_
                refine lv_i2l hx hb dX3_charge_194 rfl ?_
                refine lv_ladd hx hb dX3_charge_195 ?_
                refine m_last cx hP hS (ix (ar S 3 i)) (hW.ow hi).1 (hW.ow hi).2 dX3_charge_196 (fun H locs hP hS => ?_)
                refine lv_iload hx hb dX3_charge_197 (lv_at hl 0 rfl) ?_
                rw [show f_X3_charge S i = ((10 * (((f_X3_errorOf (setA (setS (setA (setA S 21 (ix (ar S 5 i)) 1) 7 i ((ar S 7 i) + 1)) 1 ((sc S 1) + 1)) 22 (ix (ar S 3 i)) ((ar S 22 (ix (ar S 3 i))) + 1)) i) - (f_X3_spanOn (setA (setS (setA (setA S 21 (ix (ar S 5 i)) 1) 7 i ((ar S 7 i) + 1)) 1 ((sc S 1) + 1)) 22 (ix (ar S 3 i)) ((ar S 22 (ix (ar S 3 i))) + 1)) i (sc S 0))) - (f_X3_allowance (setA (setS (setA (setA S 21 (ix (ar S 5 i)) 1) 7 i ((ar S 7 i) + 1)) 1 ((sc S 1) + 1)) 22 (ix (ar S 3 i)) ((ar S 22 (ix (ar S 3 i))) + 1)) i))) * ((ar S 22 (ix (ar S 3 i))) + 1), (setL (setA (setS (setA (setA S 21 (ix (ar S 5 i)) 1) 7 i ((ar S 7 i) + 1)) 1 ((sc S 1) + 1)) 22 (ix (ar S 3 i)) ((ar S 22 (ix (ar S 3 i))) + 1)) (ix (ar S 3 i)) ((os (setA (setS (setA (setA S 21 (ix (ar S 5 i)) 1) 7 i ((ar S 7 i) + 1)) 1 ((sc S 1) + 1)) 22 (ix (ar S 3 i)) ((ar S 22 (ix (ar S 3 i))) + 1)) (ix (ar S 3 i))) + (((10 * (((f_X3_errorOf (setA (setS (setA (setA S 21 (ix (ar S 5 i)) 1) 7 i ((ar S 7 i) + 1)) 1 ((sc S 1) + 1)) 22 (ix (ar S 3 i)) ((ar S 22 (ix (ar S 3 i))) + 1)) i) - (f_X3_spanOn (setA (setS (setA (setA S 21 (ix (ar S 5 i)) 1) 7 i ((ar S 7 i) + 1)) 1 ((sc S 1) + 1)) 22 (ix (ar S 3 i)) ((ar S 22 (ix (ar S 3 i))) + 1)) i (sc S 0))) - (f_X3_allowance (setA (setS (setA (setA S 21 (ix (ar S 5 i)) 1) 7 i ((ar S 7 i) + 1)) 1 ((sc S 1) + 1)) 22 (ix (ar S 3 i)) ((ar S 22 (ix (ar S 3 i))) + 1)) i))) * ((ar S 22 (ix (ar S 3 i))) + 1)).toInt64)))) from by rw [f_X3_charge, if_neg c_2, if_pos c_3, if_pos c_4, if_pos c_5, if_pos c_6, if_neg c_7]]
                exact x_int cx hr hlk (ad' := ad) ⟨rfl, hP⟩ hS dX3_charge_199
            · refine lv_aload_n hx hb dX3_charge_123 rfl (lv_at hl 1 rfl) ?_
              refine lv_iload_n hx hb dX3_charge_124 rfl (lv_at hl 2 rfl) ?_
              refine w_callV (As := [.int (nI i)]) (rest := []) (st := [.int (f_X3_errorOf (setA (setS (setA (setA S 21 (ix (ar S 5 i)) 1) 7 i ((ar S 7 i) + 1)) 1 ((sc S 1) + 1)) 22 (ix (ar S 3 i)) ((ar S 22 (ix (ar S 3 i))) + 1)) i)]) cx (c_X3_errorOf l G ad (setA (setS (setA (setA S 21 (ix (ar S 5 i)) 1) 7 i ((ar S 7 i) + 1)) 1 ((sc S 1) + 1)) 22 (ix (ar S 3 i)) ((ar S 22 (ix (ar S 3 i))) + 1)) (((hW.setA (ix (ar S 5 i)) 1 (by decide) (by decide) (by decide) (by decide)).setA i ((ar S 7 i) + 1) (by decide) (by decide) (by decide) (by decide)).setA (ix (ar S 3 i)) ((ar S 22 (ix (ar S 3 i))) + 1) (by decide) (by decide) (by decide) (by decide)) (i := i) hi) k_587 cal_yX3_errorOf (ci := 3) rfl (hP.pa _ _ cM_0) hP.pa rfl ⟨Nat.le_of_ble_eq_true rfl, Nat.le_of_ble_eq_true rfl⟩ hl.1 (Nat.le_of_ble_eq_true rfl) ⟨Nat.zero_le _, Nat.zero_le _⟩ rfl rfl dX3_charge_125 ?_
              refine lv_ineg hx hb dX3_charge_128 ?_
              refine lv_goto (tgt := 137) hx hb dX3_charge_129 (by decide) ?_
              refine lv_istore_n (lv' := [(3, .int (-(f_X3_errorOf (setA (setS (setA (setA S 21 (ix (ar S 5 i)) 1) 7 i ((ar S 7 i) + 1)) 1 ((sc S 1) + 1)) 22 (ix (ar S 3 i)) ((ar S 22 (ix (ar S 3 i))) + 1)) i))), (2, .int (ar S 3 i)), (0, .ref (ad 0)), (1, .int (nI i))]) hx hb dX3_charge_137 rfl hl (by decide) rfl (fun ls hl => ?_)
              refine lv_iload_n hx hb dX3_charge_138 rfl (lv_at hl 0 rfl) ?_
              refine lv_aload_n hx hb dX3_charge_139 rfl (lv_at hl 2 rfl) ?_
              refine lv_iload_n hx hb dX3_charge_140 rfl (lv_at hl 3 rfl) ?_
              refine lv_aload_n hx hb dX3_charge_141 rfl (lv_at hl 2 rfl) ?_
              refine w_get cx (ci := 3) rfl iX3 (hP.pa _ _ cM_0) 0 (by decide) k_451 (v := .int (sc S 0)) rfl dX3_charge_142 ?_
              refine w_callV (As := [.int (nI i), .int (sc S 0)]) (rest := [.int (-(f_X3_errorOf (setA (setS (setA (setA S 21 (ix (ar S 5 i)) 1) 7 i ((ar S 7 i) + 1)) 1 ((sc S 1) + 1)) 22 (ix (ar S 3 i)) ((ar S 22 (ix (ar S 3 i))) + 1)) i))]) (st := [.int (f_X3_spanOn (setA (setS (setA (setA S 21 (ix (ar S 5 i)) 1) 7 i ((ar S 7 i) + 1)) 1 ((sc S 1) + 1)) 22 (ix (ar S 3 i)) ((ar S 22 (ix (ar S 3 i))) + 1)) i (sc S 0)), .int (-(f_X3_errorOf (setA (setS (setA (setA S 21 (ix (ar S 5 i)) 1) 7 i ((ar S 7 i) + 1)) 1 ((sc S 1) + 1)) 22 (ix (ar S 3 i)) ((ar S 22 (ix (ar S 3 i))) + 1)) i))]) cx (c_X3_spanOn l G ad (setA (setS (setA (setA S 21 (ix (ar S 5 i)) 1) 7 i ((ar S 7 i) + 1)) 1 ((sc S 1) + 1)) 22 (ix (ar S 3 i)) ((ar S 22 (ix (ar S 3 i))) + 1)) (((hW.setA (ix (ar S 5 i)) 1 (by decide) (by decide) (by decide) (by decide)).setA i ((ar S 7 i) + 1) (by decide) (by decide) (by decide) (by decide)).setA (ix (ar S 3 i)) ((ar S 22 (ix (ar S 3 i))) + 1) (by decide) (by decide) (by decide) (by decide)) (i := i) hi (sc S 0)) k_595 cal_yX3_spanOn (ci := 3) rfl (hP.pa _ _ cM_0) hP.pa rfl ⟨Nat.le_of_ble_eq_true rfl, Nat.le_of_ble_eq_true rfl⟩ hl.1 (Nat.le_of_ble_eq_true rfl) ⟨Nat.zero_le _, Nat.zero_le _⟩ rfl rfl dX3_charge_145 ?_
              refine lv_isub hx hb dX3_charge_148 ?_
              refine lv_aload_n hx hb dX3_charge_149 rfl (lv_at hl 2 rfl) ?_
              refine lv_iload_n hx hb dX3_charge_150 rfl (lv_at hl 3 rfl) ?_
              refine w_callV (As := [.int (nI i)]) (rest := [.int ((-(f_X3_errorOf (setA (setS (setA (setA S 21 (ix (ar S 5 i)) 1) 7 i ((ar S 7 i) + 1)) 1 ((sc S 1) + 1)) 22 (ix (ar S 3 i)) ((ar S 22 (ix (ar S 3 i))) + 1)) i)) - (f_X3_spanOn (setA (setS (setA (setA S 21 (ix (ar S 5 i)) 1) 7 i ((ar S 7 i) + 1)) 1 ((sc S 1) + 1)) 22 (ix (ar S 3 i)) ((ar S 22 (ix (ar S 3 i))) + 1)) i (sc S 0)))]) (st := [.int (f_X3_allowance (setA (setS (setA (setA S 21 (ix (ar S 5 i)) 1) 7 i ((ar S 7 i) + 1)) 1 ((sc S 1) + 1)) 22 (ix (ar S 3 i)) ((ar S 22 (ix (ar S 3 i))) + 1)) i), .int ((-(f_X3_errorOf (setA (setS (setA (setA S 21 (ix (ar S 5 i)) 1) 7 i ((ar S 7 i) + 1)) 1 ((sc S 1) + 1)) 22 (ix (ar S 3 i)) ((ar S 22 (ix (ar S 3 i))) + 1)) i)) - (f_X3_spanOn (setA (setS (setA (setA S 21 (ix (ar S 5 i)) 1) 7 i ((ar S 7 i) + 1)) 1 ((sc S 1) + 1)) 22 (ix (ar S 3 i)) ((ar S 22 (ix (ar S 3 i))) + 1)) i (sc S 0)))]) cx (c_X3_allowance l G ad (setA (setS (setA (setA S 21 (ix (ar S 5 i)) 1) 7 i ((ar S 7 i) + 1)) 1 ((sc S 1) + 1)) 22 (ix (ar S 3 i)) ((ar S 22 (ix (ar S 3 i))) + 1)) (((hW.setA (ix (ar S 5 i)) 1 (by decide) (by decide) (by decide) (by decide)).setA i ((ar S 7 i) + 1) (by decide) (by decide) (by decide) (by decide)).setA (ix (ar S 3 i)) ((ar S 22 (ix (ar S 3 i))) + 1) (by decide) (by decide) (by decide) (by decide)) (i := i) hi) k_647 cal_yX3_allowance (ci := 3) rfl (hP.pa _ _ cM_0) hP.pa rfl ⟨Nat.le_of_ble_eq_true rfl, Nat.le_of_ble_eq_true rfl⟩ hl.1 (Nat.le_of_ble_eq_true rfl) ⟨Nat.zero_le _, Nat.zero_le _⟩ rfl rfl dX3_charge_151 ?_
              refine lv_isub hx hb dX3_charge_154 ?_
              refine lv_istore (lv' := [(4, .int (((-(f_X3_errorOf (setA (setS (setA (setA S 21 (ix (ar S 5 i)) 1) 7 i ((ar S 7 i) + 1)) 1 ((sc S 1) + 1)) 22 (ix (ar S 3 i)) ((ar S 22 (ix (ar S 3 i))) + 1)) i)) - (f_X3_spanOn (setA (setS (setA (setA S 21 (ix (ar S 5 i)) 1) 7 i ((ar S 7 i) + 1)) 1 ((sc S 1) + 1)) 22 (ix (ar S 3 i)) ((ar S 22 (ix (ar S 3 i))) + 1)) i (sc S 0))) - (f_X3_allowance (setA (setS (setA (setA S 21 (ix (ar S 5 i)) 1) 7 i ((ar S 7 i) + 1)) 1 ((sc S 1) + 1)) 22 (ix (ar S 3 i)) ((ar S 22 (ix (ar S 3 i))) + 1)) i))), (3, .int (-(f_X3_errorOf (setA (setS (setA (setA S 21 (ix (ar S 5 i)) 1) 7 i ((ar S 7 i) + 1)) 1 ((sc S 1) + 1)) 22 (ix (ar S 3 i)) ((ar S 22 (ix (ar S 3 i))) + 1)) i))), (2, .int (ar S 3 i)), (0, .ref (ad 0)), (1, .int (nI i))]) hx hb dX3_charge_155 hl (by decide) rfl (fun ls hl => ?_)
              refine lv_bipush (v := 10) hx hb dX3_charge_157 (by decide) ?_
              refine lv_iload hx hb dX3_charge_159 (lv_at hl 0 rfl) ?_
              refine lv_imul hx hb dX3_charge_161 ?_
              refine lv_aload_n hx hb dX3_charge_162 rfl (lv_at hl 3 rfl) ?_
              refine w_get cx (ci := 3) rfl iX3 (hP.pa _ _ cM_0) 26 (by decide) k_477 (v := .ref (ad 23)) rfl dX3_charge_163 ?_
              refine lv_iload_n hx hb dX3_charge_166 rfl (lv_at hl 2 rfl) ?_
              refine w_iald cx (hP.pa _ _ (cM_A (n := 10) 22 (by decide) rfl rfl)) (ix (ar S 3 i)) (hW.ow hi).1 (hW.ow hi).2 (by decide) dX3_charge_167 ?_
              refine w_nrm (y := (ar S 22 (ix (ar S 3 i))) + 1) (ar_same (setS (setA (setA S 21 (ix (ar S 5 i)) 1) 7 i ((ar S 7 i) + 1)) 1 ((sc S 1) + 1)) 22 (ix (ar S 3 i)) ((ar S 22 (ix (ar S 3 i))) + 1)) ?_
              refine lv_iconst (v := 5) hx hb dX3_charge_168 (by decide) ?_
              refine lv_icmp_ge (tgt := 181) hx hb dX3_charge_169 (by decide) (fun c_8 => ?_) (fun c_8 => ?_)
              · refine lv_iconst (v := 5) hx hb dX3_charge_181 (by decide) ?_
                refine lv_imul hx hb dX3_charge_182 ?_
                refine lv_istore (lv' := [(5, .int ((10 * (((-(f_X3_errorOf (setA (setS (setA (setA S 21 (ix (ar S 5 i)) 1) 7 i ((ar S 7 i) + 1)) 1 ((sc S 1) + 1)) 22 (ix (ar S 3 i)) ((ar S 22 (ix (ar S 3 i))) + 1)) i)) - (f_X3_spanOn (setA (setS (setA (setA S 21 (ix (ar S 5 i)) 1) 7 i ((ar S 7 i) + 1)) 1 ((sc S 1) + 1)) 22 (ix (ar S 3 i)) ((ar S 22 (ix (ar S 3 i))) + 1)) i (sc S 0))) - (f_X3_allowance (setA (setS (setA (setA S 21 (ix (ar S 5 i)) 1) 7 i ((ar S 7 i) + 1)) 1 ((sc S 1) + 1)) 22 (ix (ar S 3 i)) ((ar S 22 (ix (ar S 3 i))) + 1)) i))) * 5)), (4, .int (((-(f_X3_errorOf (setA (setS (setA (setA S 21 (ix (ar S 5 i)) 1) 7 i ((ar S 7 i) + 1)) 1 ((sc S 1) + 1)) 22 (ix (ar S 3 i)) ((ar S 22 (ix (ar S 3 i))) + 1)) i)) - (f_X3_spanOn (setA (setS (setA (setA S 21 (ix (ar S 5 i)) 1) 7 i ((ar S 7 i) + 1)) 1 ((sc S 1) + 1)) 22 (ix (ar S 3 i)) ((ar S 22 (ix (ar S 3 i))) + 1)) i (sc S 0))) - (f_X3_allowance (setA (setS (setA (setA S 21 (ix (ar S 5 i)) 1) 7 i ((ar S 7 i) + 1)) 1 ((sc S 1) + 1)) 22 (ix (ar S 3 i)) ((ar S 22 (ix (ar S 3 i))) + 1)) i))), (3, .int (-(f_X3_errorOf (setA (setS (setA (setA S 21 (ix (ar S 5 i)) 1) 7 i ((ar S 7 i) + 1)) 1 ((sc S 1) + 1)) 22 (ix (ar S 3 i)) ((ar S 22 (ix (ar S 3 i))) + 1)) i))), (2, .int (ar S 3 i)), (0, .ref (ad 0)), (1, .int (nI i))]) hx hb dX3_charge_183 hl (by decide) rfl (fun ls hl => ?_)
                refine lv_aload_n hx hb dX3_charge_185 rfl (lv_at hl 4 rfl) ?_
                refine w_get cx (ci := 3) rfl iX3 (hP.pa _ _ cM_0) 27 (by decide) k_478 (v := .ref (ad 24)) rfl dX3_charge_186 ?_
                refine lv_iload_n hx hb dX3_charge_189 rfl (lv_at hl 3 rfl) ?_
                refine lv_dup2_11 hx hb dX3_charge_190 rfl rfl ?_
                refine w_lald cx (hP.pa _ _ cM_L) (ix (ar S 3 i)) (hW.ow hi).1 (hW.ow hi).2 (by decide) dX3_charge_191 ?_
                refine lv_iload hx hb dX3_charge_192 (lv_at hl 0 rfl) ?_
                refine lv_i2l hx hb dX3_charge_194 rfl ?_
                refine lv_ladd hx hb dX3_charge_195 ?_
                refine m_last cx hP hS (ix (ar S 3 i)) (hW.ow hi).1 (hW.ow hi).2 dX3_charge_196 (fun H locs hP hS => ?_)
                refine lv_iload hx hb dX3_charge_197 (lv_at hl 0 rfl) ?_
                rw [show f_X3_charge S i = ((10 * (((-(f_X3_errorOf (setA (setS (setA (setA S 21 (ix (ar S 5 i)) 1) 7 i ((ar S 7 i) + 1)) 1 ((sc S 1) + 1)) 22 (ix (ar S 3 i)) ((ar S 22 (ix (ar S 3 i))) + 1)) i)) - (f_X3_spanOn (setA (setS (setA (setA S 21 (ix (ar S 5 i)) 1) 7 i ((ar S 7 i) + 1)) 1 ((sc S 1) + 1)) 22 (ix (ar S 3 i)) ((ar S 22 (ix (ar S 3 i))) + 1)) i (sc S 0))) - (f_X3_allowance (setA (setS (setA (setA S 21 (ix (ar S 5 i)) 1) 7 i ((ar S 7 i) + 1)) 1 ((sc S 1) + 1)) 22 (ix (ar S 3 i)) ((ar S 22 (ix (ar S 3 i))) + 1)) i))) * 5, (setL (setA (setS (setA (setA S 21 (ix (ar S 5 i)) 1) 7 i ((ar S 7 i) + 1)) 1 ((sc S 1) + 1)) 22 (ix (ar S 3 i)) ((ar S 22 (ix (ar S 3 i))) + 1)) (ix (ar S 3 i)) ((os (setA (setS (setA (setA S 21 (ix (ar S 5 i)) 1) 7 i ((ar S 7 i) + 1)) 1 ((sc S 1) + 1)) 22 (ix (ar S 3 i)) ((ar S 22 (ix (ar S 3 i))) + 1)) (ix (ar S 3 i))) + (((10 * (((-(f_X3_errorOf (setA (setS (setA (setA S 21 (ix (ar S 5 i)) 1) 7 i ((ar S 7 i) + 1)) 1 ((sc S 1) + 1)) 22 (ix (ar S 3 i)) ((ar S 22 (ix (ar S 3 i))) + 1)) i)) - (f_X3_spanOn (setA (setS (setA (setA S 21 (ix (ar S 5 i)) 1) 7 i ((ar S 7 i) + 1)) 1 ((sc S 1) + 1)) 22 (ix (ar S 3 i)) ((ar S 22 (ix (ar S 3 i))) + 1)) i (sc S 0))) - (f_X3_allowance (setA (setS (setA (setA S 21 (ix (ar S 5 i)) 1) 7 i ((ar S 7 i) + 1)) 1 ((sc S 1) + 1)) 22 (ix (ar S 3 i)) ((ar S 22 (ix (ar S 3 i))) + 1)) i))) * 5).toInt64)))) from by rw [f_X3_charge, if_neg c_2, if_pos c_3, if_pos c_4, if_pos c_5, if_neg c_6, if_pos c_8]]
                exact x_int cx hr hlk (ad' := ad) ⟨rfl, hP⟩ hS dX3_charge_199
              · refine lv_aload_n hx hb dX3_charge_172 rfl (lv_at hl 3 rfl) ?_
                refine w_get cx (ci := 3) rfl iX3 (hP.pa _ _ cM_0) 26 (by decide) k_477 (v := .ref (ad 23)) rfl dX3_charge_173 ?_
                refine lv_iload_n hx hb dX3_charge_176 rfl (lv_at hl 2 rfl) ?_
                refine w_iald cx (hP.pa _ _ (cM_A (n := 10) 22 (by decide) rfl rfl)) (ix (ar S 3 i)) (hW.ow hi).1 (hW.ow hi).2 (by decide) dX3_charge_177 ?_
                refine w_nrm (y := (ar S 22 (ix (ar S 3 i))) + 1) (ar_same (setS (setA (setA S 21 (ix (ar S 5 i)) 1) 7 i ((ar S 7 i) + 1)) 1 ((sc S 1) + 1)) 22 (ix (ar S 3 i)) ((ar S 22 (ix (ar S 3 i))) + 1)) ?_
                refine lv_goto (tgt := 182) hx hb dX3_charge_178 (by decide) ?_
                refine lv_imul hx hb dX3_charge_182 ?_
                refine lv_istore (lv' := [(5, .int ((10 * (((-(f_X3_errorOf (setA (setS (setA (setA S 21 (ix (ar S 5 i)) 1) 7 i ((ar S 7 i) + 1)) 1 ((sc S 1) + 1)) 22 (ix (ar S 3 i)) ((ar S 22 (ix (ar S 3 i))) + 1)) i)) - (f_X3_spanOn (setA (setS (setA (setA S 21 (ix (ar S 5 i)) 1) 7 i ((ar S 7 i) + 1)) 1 ((sc S 1) + 1)) 22 (ix (ar S 3 i)) ((ar S 22 (ix (ar S 3 i))) + 1)) i (sc S 0))) - (f_X3_allowance (setA (setS (setA (setA S 21 (ix (ar S 5 i)) 1) 7 i ((ar S 7 i) + 1)) 1 ((sc S 1) + 1)) 22 (ix (ar S 3 i)) ((ar S 22 (ix (ar S 3 i))) + 1)) i))) * ((ar S 22 (ix (ar S 3 i))) + 1))), (4, .int (((-(f_X3_errorOf (setA (setS (setA (setA S 21 (ix (ar S 5 i)) 1) 7 i ((ar S 7 i) + 1)) 1 ((sc S 1) + 1)) 22 (ix (ar S 3 i)) ((ar S 22 (ix (ar S 3 i))) + 1)) i)) - (f_X3_spanOn (setA (setS (setA (setA S 21 (ix (ar S 5 i)) 1) 7 i ((ar S 7 i) + 1)) 1 ((sc S 1) + 1)) 22 (ix (ar S 3 i)) ((ar S 22 (ix (ar S 3 i))) + 1)) i (sc S 0))) - (f_X3_allowance (setA (setS (setA (setA S 21 (ix (ar S 5 i)) 1) 7 i ((ar S 7 i) + 1)) 1 ((sc S 1) + 1)) 22 (ix (ar S 3 i)) ((ar S 22 (ix (ar S 3 i))) + 1)) i))), (3, .int (-(f_X3_errorOf (setA (setS (setA (setA S 21 (ix (ar S 5 i)) 1) 7 i ((ar S 7 i) + 1)) 1 ((sc S 1) + 1)) 22 (ix (ar S 3 i)) ((ar S 22 (ix (ar S 3 i))) + 1)) i))), (2, .int (ar S 3 i)), (0, .ref (ad 0)), (1, .int (nI i))]) hx hb dX3_charge_183 hl (by decide) rfl (fun ls hl => ?_)
                refine lv_aload_n hx hb dX3_charge_185 rfl (lv_at hl 4 rfl) ?_
                refine w_get cx (ci := 3) rfl iX3 (hP.pa _ _ cM_0) 27 (by decide) k_478 (v := .ref (ad 24)) rfl dX3_charge_186 ?_
                refine lv_iload_n hx hb dX3_charge_189 rfl (lv_at hl 3 rfl) ?_
                refine lv_dup2_11 hx hb dX3_charge_190 rfl rfl ?_
                refine w_lald cx (hP.pa _ _ cM_L) (ix (ar S 3 i)) (hW.ow hi).1 (hW.ow hi).2 (by decide) dX3_charge_191 ?_
                refine lv_iload hx hb dX3_charge_192 (lv_at hl 0 rfl) ?_
                refine lv_i2l hx hb dX3_charge_194 rfl ?_
                refine lv_ladd hx hb dX3_charge_195 ?_
                refine m_last cx hP hS (ix (ar S 3 i)) (hW.ow hi).1 (hW.ow hi).2 dX3_charge_196 (fun H locs hP hS => ?_)
                refine lv_iload hx hb dX3_charge_197 (lv_at hl 0 rfl) ?_
                rw [show f_X3_charge S i = ((10 * (((-(f_X3_errorOf (setA (setS (setA (setA S 21 (ix (ar S 5 i)) 1) 7 i ((ar S 7 i) + 1)) 1 ((sc S 1) + 1)) 22 (ix (ar S 3 i)) ((ar S 22 (ix (ar S 3 i))) + 1)) i)) - (f_X3_spanOn (setA (setS (setA (setA S 21 (ix (ar S 5 i)) 1) 7 i ((ar S 7 i) + 1)) 1 ((sc S 1) + 1)) 22 (ix (ar S 3 i)) ((ar S 22 (ix (ar S 3 i))) + 1)) i (sc S 0))) - (f_X3_allowance (setA (setS (setA (setA S 21 (ix (ar S 5 i)) 1) 7 i ((ar S 7 i) + 1)) 1 ((sc S 1) + 1)) 22 (ix (ar S 3 i)) ((ar S 22 (ix (ar S 3 i))) + 1)) i))) * ((ar S 22 (ix (ar S 3 i))) + 1), (setL (setA (setS (setA (setA S 21 (ix (ar S 5 i)) 1) 7 i ((ar S 7 i) + 1)) 1 ((sc S 1) + 1)) 22 (ix (ar S 3 i)) ((ar S 22 (ix (ar S 3 i))) + 1)) (ix (ar S 3 i)) ((os (setA (setS (setA (setA S 21 (ix (ar S 5 i)) 1) 7 i ((ar S 7 i) + 1)) 1 ((sc S 1) + 1)) 22 (ix (ar S 3 i)) ((ar S 22 (ix (ar S 3 i))) + 1)) (ix (ar S 3 i))) + (((10 * (((-(f_X3_errorOf (setA (setS (setA (setA S 21 (ix (ar S 5 i)) 1) 7 i ((ar S 7 i) + 1)) 1 ((sc S 1) + 1)) 22 (ix (ar S 3 i)) ((ar S 22 (ix (ar S 3 i))) + 1)) i)) - (f_X3_spanOn (setA (setS (setA (setA S 21 (ix (ar S 5 i)) 1) 7 i ((ar S 7 i) + 1)) 1 ((sc S 1) + 1)) 22 (ix (ar S 3 i)) ((ar S 22 (ix (ar S 3 i))) + 1)) i (sc S 0))) - (f_X3_allowance (setA (setS (setA (setA S 21 (ix (ar S 5 i)) 1) 7 i ((ar S 7 i) + 1)) 1 ((sc S 1) + 1)) 22 (ix (ar S 3 i)) ((ar S 22 (ix (ar S 3 i))) + 1)) i))) * ((ar S 22 (ix (ar S 3 i))) + 1)).toInt64)))) from by rw [f_X3_charge, if_neg c_2, if_pos c_3, if_pos c_4, if_pos c_5, if_neg c_6, if_neg c_8]]
                exact x_int cx hr hlk (ad' := ad) ⟨rfl, hP⟩ hS dX3_charge_199
          · refine lv_bipush (v := -3) hx hb dX3_charge_63 (by decide) ?_
            rw [show f_X3_charge S i = ((-3), S) from by rw [f_X3_charge, if_neg c_2, if_pos c_3, if_pos c_4, if_neg c_5]]
            exact x_int cx hr hlk (ad' := ad) ⟨rfl, hP⟩ hS dX3_charge_65
  · exact absurd c_1 (by decide)
set_option maxRecDepth 1000000 in
theorem c_X3_trial_out (l : Launch) (G : GG) (ad : Nat → Nat) (S : St) (hW : WF S) {n : Int32} (hn : nT S n) (y x z : Int32) : MW l yX3_trial cX3_trial 10 (some .int) 2 43 0 0 G ad (cM G ad S) [.ref (ad 0), .int n, .int y, .int x, .int z] (some (.int (((-1, S) : Int32 × St)).1)) (fun ad' => cM G ad' (((-1, S) : Int32 × St)).2) (fun ad' => ad' = ad) := by
  refine MW.of [(0, .ref (ad 0)), (1, .int n), (2, .int y), (3, .int x), (4, .int z)] (by decide) (Nat.le_of_ble_eq_true rfl) rfl ?_
  intro p e s m args below meth c A cx hr hlk hnm hA hP ls hl
  have hx := cx.1.1
  have hb := cx.1.2.1
  have hS : va_S A s.heap s.heap [] := va_S.rf
  refine lv_aload_n hx hb dX3_trial_0 rfl (lv_at hl 0 rfl) ?_
  refine lv_iload_n hx hb dX3_trial_1 rfl (lv_at hl 1 rfl) ?_
  refine w_callV (As := [.int n]) (rest := []) (st := [.int 0]) cx (c_X3_isThing_out l G ad S hW hn) k_553 cal_yX3_isThing (ci := 3) rfl (hP.pa _ _ cM_0) hP.pa rfl ⟨Nat.le_of_ble_eq_true rfl, Nat.le_of_ble_eq_true rfl⟩ hl.1 (Nat.le_of_ble_eq_true rfl) ⟨Nat.zero_le _, Nat.zero_le _⟩ rfl rfl dX3_trial_2 ?_
  refine lv_if_eq (tgt := 16) hx hb dX3_trial_5 (by decide) (fun c_1 => ?_) (fun c_1 => ?_)
  · refine lv_iconst (v := -1) hx hb dX3_trial_16 (by decide) ?_
    exact x_int cx hr hlk (ad' := ad) ⟨rfl, hP⟩ hS dX3_trial_17
  · exact absurd (by decide) c_1
set_option maxRecDepth 1000000 in
theorem c_X3_trial_out2 (l : Launch) (G : GG) (ad : Nat → Nat) (S : St) (hW : WF S) {i : Nat} (hi : i < nt S) {n : Int32} (hn : nT S n) (x z : Int32) : MW l yX3_trial cX3_trial 10 (some .int) 2 43 0 0 G ad (cM G ad S) [.ref (ad 0), .int (nI i), .int n, .int x, .int z] (some (.int (((-1, S) : Int32 × St)).1)) (fun ad' => cM G ad' (((-1, S) : Int32 × St)).2) (fun ad' => ad' = ad) := by
  refine MW.of [(0, .ref (ad 0)), (1, .int (nI i)), (2, .int n), (3, .int x), (4, .int z)] (by decide) (Nat.le_of_ble_eq_true rfl) rfl ?_
  intro p e s m args below meth c A cx hr hlk hnm hA hP ls hl
  have hx := cx.1.1
  have hb := cx.1.2.1
  have hS : va_S A s.heap s.heap [] := va_S.rf
  refine lv_aload_n hx hb dX3_trial_0 rfl (lv_at hl 0 rfl) ?_
  refine lv_iload_n hx hb dX3_trial_1 rfl (lv_at hl 1 rfl) ?_
  refine w_callV (As := [.int (nI i)]) (rest := []) (st := [.int 1]) cx (c_X3_isThing_in l G ad S hW hi) k_553 cal_yX3_isThing (ci := 3) rfl (hP.pa _ _ cM_0) hP.pa rfl ⟨Nat.le_of_ble_eq_true rfl, Nat.le_of_ble_eq_true rfl⟩ hl.1 (Nat.le_of_ble_eq_true rfl) ⟨Nat.zero_le _, Nat.zero_le _⟩ rfl rfl dX3_trial_2 ?_
  refine lv_if_eq (tgt := 16) hx hb dX3_trial_5 (by decide) (fun c_1 => ?_) (fun c_1 => ?_)
  · exact absurd c_1 (by decide)
  · refine lv_aload_n hx hb dX3_trial_8 rfl (lv_at hl 0 rfl) ?_
    refine lv_iload_n hx hb dX3_trial_9 rfl (lv_at hl 2 rfl) ?_
    refine w_callV (As := [.int n]) (rest := []) (st := [.int 0]) cx (c_X3_isThing_out l G ad S hW hn) k_553 cal_yX3_isThing (ci := 3) rfl (hP.pa _ _ cM_0) hP.pa rfl ⟨Nat.le_of_ble_eq_true rfl, Nat.le_of_ble_eq_true rfl⟩ hl.1 (Nat.le_of_ble_eq_true rfl) ⟨Nat.zero_le _, Nat.zero_le _⟩ rfl rfl dX3_trial_10 ?_
    refine lv_if_ne (tgt := 18) hx hb dX3_trial_13 (by decide) (fun c_2 => ?_) (fun c_2 => ?_)
    · exact absurd (by decide) c_2
    · refine lv_iconst (v := -1) hx hb dX3_trial_16 (by decide) ?_
      exact x_int cx hr hlk (ad' := ad) ⟨rfl, hP⟩ hS dX3_trial_17
def f_X3_trial (S : St) (i k : Nat) (x z : Int32) : Int32 × St :=
  if ar S 0 i = 3 then (if f_X3_in z 0 100000 = 0 then ((-2), S)
    else if ar S 0 i = 0 then ((-3), S)
    else if ar S 8 i = 3 then (if nI k = nI i then ((-3), S)
      else if 1 < ar S 0 k then ((-3), S)
      else if f_X3_settledNow S k = 0 then ((-3), S)
      else if f_X3_dueNow S k = 0 then (if nI (nr S) = 300 then ((-4), S)
        else if ar S 5 i = -1000000 then (if ar S 19 (nr S) = 0 then (nI (nr S), (setA (setA (setA (setA (setA (setA (setA (setA (setA (setA (setR S (nr S + 1)) 13 (nr S) (nI i)) 14 (nr S) (nI k)) 15 (nr S) (sc S 0)) 16 (nr S) ((f_X3_errorOf (setA (setA (setA (setR S (nr S + 1)) 13 (nr S) (nI i)) 14 (nr S) (nI k)) 15 (nr S) (sc S 0)) k) + (f_X3_middle (setA (setA (setA (setR S (nr S + 1)) 13 (nr S) (nI i)) 14 (nr S) (nI k)) 15 (nr S) (sc S 0)) i))) 17 (nr S) (((f_X3_spanOn (setA (setA (setA (setA (setR S (nr S + 1)) 13 (nr S) (nI i)) 14 (nr S) (nI k)) 15 (nr S) (sc S 0)) 16 (nr S) ((f_X3_errorOf (setA (setA (setA (setR S (nr S + 1)) 13 (nr S) (nI i)) 14 (nr S) (nI k)) 15 (nr S) (sc S 0)) k) + (f_X3_middle (setA (setA (setA (setR S (nr S + 1)) 13 (nr S) (nI i)) 14 (nr S) (nI k)) 15 (nr S) (sc S 0)) i))) k (sc S 0)) + z) + (f_X3_range (setA (setA (setA (setA (setR S (nr S + 1)) 13 (nr S) (nI i)) 14 (nr S) (nI k)) 15 (nr S) (sc S 0)) 16 (nr S) ((f_X3_errorOf (setA (setA (setA (setR S (nr S + 1)) 13 (nr S) (nI i)) 14 (nr S) (nI k)) 15 (nr S) (sc S 0)) k) + (f_X3_middle (setA (setA (setA (setR S (nr S + 1)) 13 (nr S) (nI i)) 14 (nr S) (nI k)) 15 (nr S) (sc S 0)) i))) i))) 18 (nr S) 1) 20 (nr S) (ar S 5 k)) 5 i (nI (nr S))) 4 i ((ar S 4 i) + 1)) 8 i 0))
          else (nI (nr S), (setA (setA (setA (setA (f_X3_unsettle (setA (setA (setA (setA (setA (setA (setA (setR S (nr S + 1)) 13 (nr S) (nI i)) 14 (nr S) (nI k)) 15 (nr S) (sc S 0)) 16 (nr S) ((f_X3_errorOf (setA (setA (setA (setR S (nr S + 1)) 13 (nr S) (nI i)) 14 (nr S) (nI k)) 15 (nr S) (sc S 0)) k) + (f_X3_middle (setA (setA (setA (setR S (nr S + 1)) 13 (nr S) (nI i)) 14 (nr S) (nI k)) 15 (nr S) (sc S 0)) i))) 17 (nr S) (((f_X3_spanOn (setA (setA (setA (setA (setR S (nr S + 1)) 13 (nr S) (nI i)) 14 (nr S) (nI k)) 15 (nr S) (sc S 0)) 16 (nr S) ((f_X3_errorOf (setA (setA (setA (setR S (nr S + 1)) 13 (nr S) (nI i)) 14 (nr S) (nI k)) 15 (nr S) (sc S 0)) k) + (f_X3_middle (setA (setA (setA (setR S (nr S + 1)) 13 (nr S) (nI i)) 14 (nr S) (nI k)) 15 (nr S) (sc S 0)) i))) k (sc S 0)) + z) + (f_X3_range (setA (setA (setA (setA (setR S (nr S + 1)) 13 (nr S) (nI i)) 14 (nr S) (nI k)) 15 (nr S) (sc S 0)) 16 (nr S) ((f_X3_errorOf (setA (setA (setA (setR S (nr S + 1)) 13 (nr S) (nI i)) 14 (nr S) (nI k)) 15 (nr S) (sc S 0)) k) + (f_X3_middle (setA (setA (setA (setR S (nr S + 1)) 13 (nr S) (nI i)) 14 (nr S) (nI k)) 15 (nr S) (sc S 0)) i))) i))) 18 (nr S) 1) 20 (nr S) (ar S 5 k)) (ar S 5 i)) 6 i ((-1000000))) 5 i (nI (nr S))) 4 i ((ar (f_X3_unsettle (setA (setA (setA (setA (setA (setA (setA (setR S (nr S + 1)) 13 (nr S) (nI i)) 14 (nr S) (nI k)) 15 (nr S) (sc S 0)) 16 (nr S) ((f_X3_errorOf (setA (setA (setA (setR S (nr S + 1)) 13 (nr S) (nI i)) 14 (nr S) (nI k)) 15 (nr S) (sc S 0)) k) + (f_X3_middle (setA (setA (setA (setR S (nr S + 1)) 13 (nr S) (nI i)) 14 (nr S) (nI k)) 15 (nr S) (sc S 0)) i))) 17 (nr S) (((f_X3_spanOn (setA (setA (setA (setA (setR S (nr S + 1)) 13 (nr S) (nI i)) 14 (nr S) (nI k)) 15 (nr S) (sc S 0)) 16 (nr S) ((f_X3_errorOf (setA (setA (setA (setR S (nr S + 1)) 13 (nr S) (nI i)) 14 (nr S) (nI k)) 15 (nr S) (sc S 0)) k) + (f_X3_middle (setA (setA (setA (setR S (nr S + 1)) 13 (nr S) (nI i)) 14 (nr S) (nI k)) 15 (nr S) (sc S 0)) i))) k (sc S 0)) + z) + (f_X3_range (setA (setA (setA (setA (setR S (nr S + 1)) 13 (nr S) (nI i)) 14 (nr S) (nI k)) 15 (nr S) (sc S 0)) 16 (nr S) ((f_X3_errorOf (setA (setA (setA (setR S (nr S + 1)) 13 (nr S) (nI i)) 14 (nr S) (nI k)) 15 (nr S) (sc S 0)) k) + (f_X3_middle (setA (setA (setA (setR S (nr S + 1)) 13 (nr S) (nI i)) 14 (nr S) (nI k)) 15 (nr S) (sc S 0)) i))) i))) 18 (nr S) 1) 20 (nr S) (ar S 5 k)) (ar S 5 i)) 4 i) + 1)) 8 i 0)))
        else if f_X3_settledNow (setA (setA (setA (setA (setA (setA (setA (setR S (nr S + 1)) 13 (nr S) (nI i)) 14 (nr S) (nI k)) 15 (nr S) (sc S 0)) 16 (nr S) ((f_X3_errorOf (setA (setA (setA (setR S (nr S + 1)) 13 (nr S) (nI i)) 14 (nr S) (nI k)) 15 (nr S) (sc S 0)) k) + (f_X3_middle (setA (setA (setA (setR S (nr S + 1)) 13 (nr S) (nI i)) 14 (nr S) (nI k)) 15 (nr S) (sc S 0)) i))) 17 (nr S) (((f_X3_spanOn (setA (setA (setA (setA (setR S (nr S + 1)) 13 (nr S) (nI i)) 14 (nr S) (nI k)) 15 (nr S) (sc S 0)) 16 (nr S) ((f_X3_errorOf (setA (setA (setA (setR S (nr S + 1)) 13 (nr S) (nI i)) 14 (nr S) (nI k)) 15 (nr S) (sc S 0)) k) + (f_X3_middle (setA (setA (setA (setR S (nr S + 1)) 13 (nr S) (nI i)) 14 (nr S) (nI k)) 15 (nr S) (sc S 0)) i))) k (sc S 0)) + z) + (f_X3_range (setA (setA (setA (setA (setR S (nr S + 1)) 13 (nr S) (nI i)) 14 (nr S) (nI k)) 15 (nr S) (sc S 0)) 16 (nr S) ((f_X3_errorOf (setA (setA (setA (setR S (nr S + 1)) 13 (nr S) (nI i)) 14 (nr S) (nI k)) 15 (nr S) (sc S 0)) k) + (f_X3_middle (setA (setA (setA (setR S (nr S + 1)) 13 (nr S) (nI i)) 14 (nr S) (nI k)) 15 (nr S) (sc S 0)) i))) i))) 18 (nr S) 1) 20 (nr S) (ar S 5 k)) i = 0 then (if ar S 19 (nr S) = 0 then (nI (nr S), (setA (setA (setA (setA (setA (setA (setA (setA (setA (setA (setR S (nr S + 1)) 13 (nr S) (nI i)) 14 (nr S) (nI k)) 15 (nr S) (sc S 0)) 16 (nr S) ((f_X3_errorOf (setA (setA (setA (setR S (nr S + 1)) 13 (nr S) (nI i)) 14 (nr S) (nI k)) 15 (nr S) (sc S 0)) k) + (f_X3_middle (setA (setA (setA (setR S (nr S + 1)) 13 (nr S) (nI i)) 14 (nr S) (nI k)) 15 (nr S) (sc S 0)) i))) 17 (nr S) (((f_X3_spanOn (setA (setA (setA (setA (setR S (nr S + 1)) 13 (nr S) (nI i)) 14 (nr S) (nI k)) 15 (nr S) (sc S 0)) 16 (nr S) ((f_X3_errorOf (setA (setA (setA (setR S (nr S + 1)) 13 (nr S) (nI i)) 14 (nr S) (nI k)) 15 (nr S) (sc S 0)) k) + (f_X3_middle (setA (setA (setA (setR S (nr S + 1)) 13 (nr S) (nI i)) 14 (nr S) (nI k)) 15 (nr S) (sc S 0)) i))) k (sc S 0)) + z) + (f_X3_range (setA (setA (setA (setA (setR S (nr S + 1)) 13 (nr S) (nI i)) 14 (nr S) (nI k)) 15 (nr S) (sc S 0)) 16 (nr S) ((f_X3_errorOf (setA (setA (setA (setR S (nr S + 1)) 13 (nr S) (nI i)) 14 (nr S) (nI k)) 15 (nr S) (sc S 0)) k) + (f_X3_middle (setA (setA (setA (setR S (nr S + 1)) 13 (nr S) (nI i)) 14 (nr S) (nI k)) 15 (nr S) (sc S 0)) i))) i))) 18 (nr S) 1) 20 (nr S) (ar S 5 k)) 5 i (nI (nr S))) 4 i ((ar S 4 i) + 1)) 8 i 0))
          else (nI (nr S), (setA (setA (setA (setA (f_X3_unsettle (setA (setA (setA (setA (setA (setA (setA (setR S (nr S + 1)) 13 (nr S) (nI i)) 14 (nr S) (nI k)) 15 (nr S) (sc S 0)) 16 (nr S) ((f_X3_errorOf (setA (setA (setA (setR S (nr S + 1)) 13 (nr S) (nI i)) 14 (nr S) (nI k)) 15 (nr S) (sc S 0)) k) + (f_X3_middle (setA (setA (setA (setR S (nr S + 1)) 13 (nr S) (nI i)) 14 (nr S) (nI k)) 15 (nr S) (sc S 0)) i))) 17 (nr S) (((f_X3_spanOn (setA (setA (setA (setA (setR S (nr S + 1)) 13 (nr S) (nI i)) 14 (nr S) (nI k)) 15 (nr S) (sc S 0)) 16 (nr S) ((f_X3_errorOf (setA (setA (setA (setR S (nr S + 1)) 13 (nr S) (nI i)) 14 (nr S) (nI k)) 15 (nr S) (sc S 0)) k) + (f_X3_middle (setA (setA (setA (setR S (nr S + 1)) 13 (nr S) (nI i)) 14 (nr S) (nI k)) 15 (nr S) (sc S 0)) i))) k (sc S 0)) + z) + (f_X3_range (setA (setA (setA (setA (setR S (nr S + 1)) 13 (nr S) (nI i)) 14 (nr S) (nI k)) 15 (nr S) (sc S 0)) 16 (nr S) ((f_X3_errorOf (setA (setA (setA (setR S (nr S + 1)) 13 (nr S) (nI i)) 14 (nr S) (nI k)) 15 (nr S) (sc S 0)) k) + (f_X3_middle (setA (setA (setA (setR S (nr S + 1)) 13 (nr S) (nI i)) 14 (nr S) (nI k)) 15 (nr S) (sc S 0)) i))) i))) 18 (nr S) 1) 20 (nr S) (ar S 5 k)) (ar S 5 i)) 6 i ((-1000000))) 5 i (nI (nr S))) 4 i ((ar (f_X3_unsettle (setA (setA (setA (setA (setA (setA (setA (setR S (nr S + 1)) 13 (nr S) (nI i)) 14 (nr S) (nI k)) 15 (nr S) (sc S 0)) 16 (nr S) ((f_X3_errorOf (setA (setA (setA (setR S (nr S + 1)) 13 (nr S) (nI i)) 14 (nr S) (nI k)) 15 (nr S) (sc S 0)) k) + (f_X3_middle (setA (setA (setA (setR S (nr S + 1)) 13 (nr S) (nI i)) 14 (nr S) (nI k)) 15 (nr S) (sc S 0)) i))) 17 (nr S) (((f_X3_spanOn (setA (setA (setA (setA (setR S (nr S + 1)) 13 (nr S) (nI i)) 14 (nr S) (nI k)) 15 (nr S) (sc S 0)) 16 (nr S) ((f_X3_errorOf (setA (setA (setA (setR S (nr S + 1)) 13 (nr S) (nI i)) 14 (nr S) (nI k)) 15 (nr S) (sc S 0)) k) + (f_X3_middle (setA (setA (setA (setR S (nr S + 1)) 13 (nr S) (nI i)) 14 (nr S) (nI k)) 15 (nr S) (sc S 0)) i))) k (sc S 0)) + z) + (f_X3_range (setA (setA (setA (setA (setR S (nr S + 1)) 13 (nr S) (nI i)) 14 (nr S) (nI k)) 15 (nr S) (sc S 0)) 16 (nr S) ((f_X3_errorOf (setA (setA (setA (setR S (nr S + 1)) 13 (nr S) (nI i)) 14 (nr S) (nI k)) 15 (nr S) (sc S 0)) k) + (f_X3_middle (setA (setA (setA (setR S (nr S + 1)) 13 (nr S) (nI i)) 14 (nr S) (nI k)) 15 (nr S) (sc S 0)) i))) i))) 18 (nr S) 1) 20 (nr S) (ar S 5 k)) (ar S 5 i)) 4 i) + 1)) 8 i 0)))
        else if ((f_X3_errorOf (setA (setA (setA (setR S (nr S + 1)) 13 (nr S) (nI i)) 14 (nr S) (nI k)) 15 (nr S) (sc S 0)) k) + (f_X3_middle (setA (setA (setA (setR S (nr S + 1)) 13 (nr S) (nI i)) 14 (nr S) (nI k)) 15 (nr S) (sc S 0)) i)) + (((f_X3_spanOn (setA (setA (setA (setA (setR S (nr S + 1)) 13 (nr S) (nI i)) 14 (nr S) (nI k)) 15 (nr S) (sc S 0)) 16 (nr S) ((f_X3_errorOf (setA (setA (setA (setR S (nr S + 1)) 13 (nr S) (nI i)) 14 (nr S) (nI k)) 15 (nr S) (sc S 0)) k) + (f_X3_middle (setA (setA (setA (setR S (nr S + 1)) 13 (nr S) (nI i)) 14 (nr S) (nI k)) 15 (nr S) (sc S 0)) i))) k (sc S 0)) + z) + (f_X3_range (setA (setA (setA (setA (setR S (nr S + 1)) 13 (nr S) (nI i)) 14 (nr S) (nI k)) 15 (nr S) (sc S 0)) 16 (nr S) ((f_X3_errorOf (setA (setA (setA (setR S (nr S + 1)) 13 (nr S) (nI i)) 14 (nr S) (nI k)) 15 (nr S) (sc S 0)) k) + (f_X3_middle (setA (setA (setA (setR S (nr S + 1)) 13 (nr S) (nI i)) 14 (nr S) (nI k)) 15 (nr S) (sc S 0)) i))) i)) < (ar S 16 (ix (ar S 5 i))) - (f_X3_spanOn (setA (setA (setA (setA (setA (setA (setA (setR S (nr S + 1)) 13 (nr S) (nI i)) 14 (nr S) (nI k)) 15 (nr S) (sc S 0)) 16 (nr S) ((f_X3_errorOf (setA (setA (setA (setR S (nr S + 1)) 13 (nr S) (nI i)) 14 (nr S) (nI k)) 15 (nr S) (sc S 0)) k) + (f_X3_middle (setA (setA (setA (setR S (nr S + 1)) 13 (nr S) (nI i)) 14 (nr S) (nI k)) 15 (nr S) (sc S 0)) i))) 17 (nr S) (((f_X3_spanOn (setA (setA (setA (setA (setR S (nr S + 1)) 13 (nr S) (nI i)) 14 (nr S) (nI k)) 15 (nr S) (sc S 0)) 16 (nr S) ((f_X3_errorOf (setA (setA (setA (setR S (nr S + 1)) 13 (nr S) (nI i)) 14 (nr S) (nI k)) 15 (nr S) (sc S 0)) k) + (f_X3_middle (setA (setA (setA (setR S (nr S + 1)) 13 (nr S) (nI i)) 14 (nr S) (nI k)) 15 (nr S) (sc S 0)) i))) k (sc S 0)) + z) + (f_X3_range (setA (setA (setA (setA (setR S (nr S + 1)) 13 (nr S) (nI i)) 14 (nr S) (nI k)) 15 (nr S) (sc S 0)) 16 (nr S) ((f_X3_errorOf (setA (setA (setA (setR S (nr S + 1)) 13 (nr S) (nI i)) 14 (nr S) (nI k)) 15 (nr S) (sc S 0)) k) + (f_X3_middle (setA (setA (setA (setR S (nr S + 1)) 13 (nr S) (nI i)) 14 (nr S) (nI k)) 15 (nr S) (sc S 0)) i))) i))) 18 (nr S) 1) 20 (nr S) (ar S 5 k)) i (sc S 0)) then (nI (nr S), (setA (setA (setA (setA (f_X3_unsettle (setA (setA (setA (setA (setA (setA (setA (setA (setR S (nr S + 1)) 13 (nr S) (nI i)) 14 (nr S) (nI k)) 15 (nr S) (sc S 0)) 16 (nr S) ((f_X3_errorOf (setA (setA (setA (setR S (nr S + 1)) 13 (nr S) (nI i)) 14 (nr S) (nI k)) 15 (nr S) (sc S 0)) k) + (f_X3_middle (setA (setA (setA (setR S (nr S + 1)) 13 (nr S) (nI i)) 14 (nr S) (nI k)) 15 (nr S) (sc S 0)) i))) 17 (nr S) (((f_X3_spanOn (setA (setA (setA (setA (setR S (nr S + 1)) 13 (nr S) (nI i)) 14 (nr S) (nI k)) 15 (nr S) (sc S 0)) 16 (nr S) ((f_X3_errorOf (setA (setA (setA (setR S (nr S + 1)) 13 (nr S) (nI i)) 14 (nr S) (nI k)) 15 (nr S) (sc S 0)) k) + (f_X3_middle (setA (setA (setA (setR S (nr S + 1)) 13 (nr S) (nI i)) 14 (nr S) (nI k)) 15 (nr S) (sc S 0)) i))) k (sc S 0)) + z) + (f_X3_range (setA (setA (setA (setA (setR S (nr S + 1)) 13 (nr S) (nI i)) 14 (nr S) (nI k)) 15 (nr S) (sc S 0)) 16 (nr S) ((f_X3_errorOf (setA (setA (setA (setR S (nr S + 1)) 13 (nr S) (nI i)) 14 (nr S) (nI k)) 15 (nr S) (sc S 0)) k) + (f_X3_middle (setA (setA (setA (setR S (nr S + 1)) 13 (nr S) (nI i)) 14 (nr S) (nI k)) 15 (nr S) (sc S 0)) i))) i))) 18 (nr S) 1) 20 (nr S) (ar S 5 k)) 19 (nr S) 1) (ar S 5 i)) 6 i ((-1000000))) 5 i (nI (nr S))) 4 i ((ar (f_X3_unsettle (setA (setA (setA (setA (setA (setA (setA (setA (setR S (nr S + 1)) 13 (nr S) (nI i)) 14 (nr S) (nI k)) 15 (nr S) (sc S 0)) 16 (nr S) ((f_X3_errorOf (setA (setA (setA (setR S (nr S + 1)) 13 (nr S) (nI i)) 14 (nr S) (nI k)) 15 (nr S) (sc S 0)) k) + (f_X3_middle (setA (setA (setA (setR S (nr S + 1)) 13 (nr S) (nI i)) 14 (nr S) (nI k)) 15 (nr S) (sc S 0)) i))) 17 (nr S) (((f_X3_spanOn (setA (setA (setA (setA (setR S (nr S + 1)) 13 (nr S) (nI i)) 14 (nr S) (nI k)) 15 (nr S) (sc S 0)) 16 (nr S) ((f_X3_errorOf (setA (setA (setA (setR S (nr S + 1)) 13 (nr S) (nI i)) 14 (nr S) (nI k)) 15 (nr S) (sc S 0)) k) + (f_X3_middle (setA (setA (setA (setR S (nr S + 1)) 13 (nr S) (nI i)) 14 (nr S) (nI k)) 15 (nr S) (sc S 0)) i))) k (sc S 0)) + z) + (f_X3_range (setA (setA (setA (setA (setR S (nr S + 1)) 13 (nr S) (nI i)) 14 (nr S) (nI k)) 15 (nr S) (sc S 0)) 16 (nr S) ((f_X3_errorOf (setA (setA (setA (setR S (nr S + 1)) 13 (nr S) (nI i)) 14 (nr S) (nI k)) 15 (nr S) (sc S 0)) k) + (f_X3_middle (setA (setA (setA (setR S (nr S + 1)) 13 (nr S) (nI i)) 14 (nr S) (nI k)) 15 (nr S) (sc S 0)) i))) i))) 18 (nr S) 1) 20 (nr S) (ar S 5 k)) 19 (nr S) 1) (ar S 5 i)) 4 i) + 1)) 8 i 0))
        else if ((f_X3_errorOf (setA (setA (setA (setR S (nr S + 1)) 13 (nr S) (nI i)) 14 (nr S) (nI k)) 15 (nr S) (sc S 0)) k) + (f_X3_middle (setA (setA (setA (setR S (nr S + 1)) 13 (nr S) (nI i)) 14 (nr S) (nI k)) 15 (nr S) (sc S 0)) i)) - (((f_X3_spanOn (setA (setA (setA (setA (setR S (nr S + 1)) 13 (nr S) (nI i)) 14 (nr S) (nI k)) 15 (nr S) (sc S 0)) 16 (nr S) ((f_X3_errorOf (setA (setA (setA (setR S (nr S + 1)) 13 (nr S) (nI i)) 14 (nr S) (nI k)) 15 (nr S) (sc S 0)) k) + (f_X3_middle (setA (setA (setA (setR S (nr S + 1)) 13 (nr S) (nI i)) 14 (nr S) (nI k)) 15 (nr S) (sc S 0)) i))) k (sc S 0)) + z) + (f_X3_range (setA (setA (setA (setA (setR S (nr S + 1)) 13 (nr S) (nI i)) 14 (nr S) (nI k)) 15 (nr S) (sc S 0)) 16 (nr S) ((f_X3_errorOf (setA (setA (setA (setR S (nr S + 1)) 13 (nr S) (nI i)) 14 (nr S) (nI k)) 15 (nr S) (sc S 0)) k) + (f_X3_middle (setA (setA (setA (setR S (nr S + 1)) 13 (nr S) (nI i)) 14 (nr S) (nI k)) 15 (nr S) (sc S 0)) i))) i)) ≤ (ar S 16 (ix (ar S 5 i))) + (f_X3_spanOn (setA (setA (setA (setA (setA (setA (setA (setR S (nr S + 1)) 13 (nr S) (nI i)) 14 (nr S) (nI k)) 15 (nr S) (sc S 0)) 16 (nr S) ((f_X3_errorOf (setA (setA (setA (setR S (nr S + 1)) 13 (nr S) (nI i)) 14 (nr S) (nI k)) 15 (nr S) (sc S 0)) k) + (f_X3_middle (setA (setA (setA (setR S (nr S + 1)) 13 (nr S) (nI i)) 14 (nr S) (nI k)) 15 (nr S) (sc S 0)) i))) 17 (nr S) (((f_X3_spanOn (setA (setA (setA (setA (setR S (nr S + 1)) 13 (nr S) (nI i)) 14 (nr S) (nI k)) 15 (nr S) (sc S 0)) 16 (nr S) ((f_X3_errorOf (setA (setA (setA (setR S (nr S + 1)) 13 (nr S) (nI i)) 14 (nr S) (nI k)) 15 (nr S) (sc S 0)) k) + (f_X3_middle (setA (setA (setA (setR S (nr S + 1)) 13 (nr S) (nI i)) 14 (nr S) (nI k)) 15 (nr S) (sc S 0)) i))) k (sc S 0)) + z) + (f_X3_range (setA (setA (setA (setA (setR S (nr S + 1)) 13 (nr S) (nI i)) 14 (nr S) (nI k)) 15 (nr S) (sc S 0)) 16 (nr S) ((f_X3_errorOf (setA (setA (setA (setR S (nr S + 1)) 13 (nr S) (nI i)) 14 (nr S) (nI k)) 15 (nr S) (sc S 0)) k) + (f_X3_middle (setA (setA (setA (setR S (nr S + 1)) 13 (nr S) (nI i)) 14 (nr S) (nI k)) 15 (nr S) (sc S 0)) i))) i))) 18 (nr S) 1) 20 (nr S) (ar S 5 k)) i (sc S 0)) then (nI (nr S), (setA (setA (setA (setA (setA (setA (setA (setA (setA (setA (setA (setR S (nr S + 1)) 13 (nr S) (nI i)) 14 (nr S) (nI k)) 15 (nr S) (sc S 0)) 16 (nr S) ((f_X3_errorOf (setA (setA (setA (setR S (nr S + 1)) 13 (nr S) (nI i)) 14 (nr S) (nI k)) 15 (nr S) (sc S 0)) k) + (f_X3_middle (setA (setA (setA (setR S (nr S + 1)) 13 (nr S) (nI i)) 14 (nr S) (nI k)) 15 (nr S) (sc S 0)) i))) 17 (nr S) (((f_X3_spanOn (setA (setA (setA (setA (setR S (nr S + 1)) 13 (nr S) (nI i)) 14 (nr S) (nI k)) 15 (nr S) (sc S 0)) 16 (nr S) ((f_X3_errorOf (setA (setA (setA (setR S (nr S + 1)) 13 (nr S) (nI i)) 14 (nr S) (nI k)) 15 (nr S) (sc S 0)) k) + (f_X3_middle (setA (setA (setA (setR S (nr S + 1)) 13 (nr S) (nI i)) 14 (nr S) (nI k)) 15 (nr S) (sc S 0)) i))) k (sc S 0)) + z) + (f_X3_range (setA (setA (setA (setA (setR S (nr S + 1)) 13 (nr S) (nI i)) 14 (nr S) (nI k)) 15 (nr S) (sc S 0)) 16 (nr S) ((f_X3_errorOf (setA (setA (setA (setR S (nr S + 1)) 13 (nr S) (nI i)) 14 (nr S) (nI k)) 15 (nr S) (sc S 0)) k) + (f_X3_middle (setA (setA (setA (setR S (nr S + 1)) 13 (nr S) (nI i)) 14 (nr S) (nI k)) 15 (nr S) (sc S 0)) i))) i))) 18 (nr S) 1) 20 (nr S) (ar S 5 k)) 19 (nr S) 0) 5 i (nI (nr S))) 4 i ((ar S 4 i) + 1)) 8 i 0))
        else (nI (nr S), (setA (setA (setA (setA (f_X3_unsettle (setA (setA (setA (setA (setA (setA (setA (setA (setR S (nr S + 1)) 13 (nr S) (nI i)) 14 (nr S) (nI k)) 15 (nr S) (sc S 0)) 16 (nr S) ((f_X3_errorOf (setA (setA (setA (setR S (nr S + 1)) 13 (nr S) (nI i)) 14 (nr S) (nI k)) 15 (nr S) (sc S 0)) k) + (f_X3_middle (setA (setA (setA (setR S (nr S + 1)) 13 (nr S) (nI i)) 14 (nr S) (nI k)) 15 (nr S) (sc S 0)) i))) 17 (nr S) (((f_X3_spanOn (setA (setA (setA (setA (setR S (nr S + 1)) 13 (nr S) (nI i)) 14 (nr S) (nI k)) 15 (nr S) (sc S 0)) 16 (nr S) ((f_X3_errorOf (setA (setA (setA (setR S (nr S + 1)) 13 (nr S) (nI i)) 14 (nr S) (nI k)) 15 (nr S) (sc S 0)) k) + (f_X3_middle (setA (setA (setA (setR S (nr S + 1)) 13 (nr S) (nI i)) 14 (nr S) (nI k)) 15 (nr S) (sc S 0)) i))) k (sc S 0)) + z) + (f_X3_range (setA (setA (setA (setA (setR S (nr S + 1)) 13 (nr S) (nI i)) 14 (nr S) (nI k)) 15 (nr S) (sc S 0)) 16 (nr S) ((f_X3_errorOf (setA (setA (setA (setR S (nr S + 1)) 13 (nr S) (nI i)) 14 (nr S) (nI k)) 15 (nr S) (sc S 0)) k) + (f_X3_middle (setA (setA (setA (setR S (nr S + 1)) 13 (nr S) (nI i)) 14 (nr S) (nI k)) 15 (nr S) (sc S 0)) i))) i))) 18 (nr S) 1) 20 (nr S) (ar S 5 k)) 19 (nr S) 1) (ar S 5 i)) 6 i ((-1000000))) 5 i (nI (nr S))) 4 i ((ar (f_X3_unsettle (setA (setA (setA (setA (setA (setA (setA (setA (setR S (nr S + 1)) 13 (nr S) (nI i)) 14 (nr S) (nI k)) 15 (nr S) (sc S 0)) 16 (nr S) ((f_X3_errorOf (setA (setA (setA (setR S (nr S + 1)) 13 (nr S) (nI i)) 14 (nr S) (nI k)) 15 (nr S) (sc S 0)) k) + (f_X3_middle (setA (setA (setA (setR S (nr S + 1)) 13 (nr S) (nI i)) 14 (nr S) (nI k)) 15 (nr S) (sc S 0)) i))) 17 (nr S) (((f_X3_spanOn (setA (setA (setA (setA (setR S (nr S + 1)) 13 (nr S) (nI i)) 14 (nr S) (nI k)) 15 (nr S) (sc S 0)) 16 (nr S) ((f_X3_errorOf (setA (setA (setA (setR S (nr S + 1)) 13 (nr S) (nI i)) 14 (nr S) (nI k)) 15 (nr S) (sc S 0)) k) + (f_X3_middle (setA (setA (setA (setR S (nr S + 1)) 13 (nr S) (nI i)) 14 (nr S) (nI k)) 15 (nr S) (sc S 0)) i))) k (sc S 0)) + z) + (f_X3_range (setA (setA (setA (setA (setR S (nr S + 1)) 13 (nr S) (nI i)) 14 (nr S) (nI k)) 15 (nr S) (sc S 0)) 16 (nr S) ((f_X3_errorOf (setA (setA (setA (setR S (nr S + 1)) 13 (nr S) (nI i)) 14 (nr S) (nI k)) 15 (nr S) (sc S 0)) k) + (f_X3_middle (setA (setA (setA (setR S (nr S + 1)) 13 (nr S) (nI i)) 14 (nr S) (nI k)) 15 (nr S) (sc S 0)) i))) i))) 18 (nr S) 1) 20 (nr S) (ar S 5 k)) 19 (nr S) 1) (ar S 5 i)) 4 i) + 1)) 8 i 0)))
      else ((-3), S))
    else ((-3), S))
  else if f_X3_in x ((-100000)) 100000 = 0 then ((-2), S)
  else if f_X3_in z 0 100000 = 0 then ((-2), S)
  else if ar S 0 i = 0 then ((-3), S)
  else if nI k = nI i then ((-3), S)
  else if 1 < ar S 0 k then ((-3), S)
  else if f_X3_settledNow S k = 0 then ((-3), S)
  else if f_X3_dueNow S k = 0 then (if nI (nr S) = 300 then ((-4), S)
    else if ar S 5 i = -1000000 then (if ar S 19 (nr S) = 0 then (nI (nr S), (setA (setA (setA (setA (setA (setA (setA (setA (setA (setA (setR S (nr S + 1)) 13 (nr S) (nI i)) 14 (nr S) (nI k)) 15 (nr S) (sc S 0)) 16 (nr S) ((f_X3_errorOf (setA (setA (setA (setR S (nr S + 1)) 13 (nr S) (nI i)) 14 (nr S) (nI k)) 15 (nr S) (sc S 0)) k) + x)) 17 (nr S) (((f_X3_spanOn (setA (setA (setA (setA (setR S (nr S + 1)) 13 (nr S) (nI i)) 14 (nr S) (nI k)) 15 (nr S) (sc S 0)) 16 (nr S) ((f_X3_errorOf (setA (setA (setA (setR S (nr S + 1)) 13 (nr S) (nI i)) 14 (nr S) (nI k)) 15 (nr S) (sc S 0)) k) + x)) k (sc S 0)) + z) + 0)) 18 (nr S) 1) 20 (nr S) (ar S 5 k)) 5 i (nI (nr S))) 4 i ((ar S 4 i) + 1)) 8 i 0))
      else (nI (nr S), (setA (setA (setA (setA (f_X3_unsettle (setA (setA (setA (setA (setA (setA (setA (setR S (nr S + 1)) 13 (nr S) (nI i)) 14 (nr S) (nI k)) 15 (nr S) (sc S 0)) 16 (nr S) ((f_X3_errorOf (setA (setA (setA (setR S (nr S + 1)) 13 (nr S) (nI i)) 14 (nr S) (nI k)) 15 (nr S) (sc S 0)) k) + x)) 17 (nr S) (((f_X3_spanOn (setA (setA (setA (setA (setR S (nr S + 1)) 13 (nr S) (nI i)) 14 (nr S) (nI k)) 15 (nr S) (sc S 0)) 16 (nr S) ((f_X3_errorOf (setA (setA (setA (setR S (nr S + 1)) 13 (nr S) (nI i)) 14 (nr S) (nI k)) 15 (nr S) (sc S 0)) k) + x)) k (sc S 0)) + z) + 0)) 18 (nr S) 1) 20 (nr S) (ar S 5 k)) (ar S 5 i)) 6 i ((-1000000))) 5 i (nI (nr S))) 4 i ((ar (f_X3_unsettle (setA (setA (setA (setA (setA (setA (setA (setR S (nr S + 1)) 13 (nr S) (nI i)) 14 (nr S) (nI k)) 15 (nr S) (sc S 0)) 16 (nr S) ((f_X3_errorOf (setA (setA (setA (setR S (nr S + 1)) 13 (nr S) (nI i)) 14 (nr S) (nI k)) 15 (nr S) (sc S 0)) k) + x)) 17 (nr S) (((f_X3_spanOn (setA (setA (setA (setA (setR S (nr S + 1)) 13 (nr S) (nI i)) 14 (nr S) (nI k)) 15 (nr S) (sc S 0)) 16 (nr S) ((f_X3_errorOf (setA (setA (setA (setR S (nr S + 1)) 13 (nr S) (nI i)) 14 (nr S) (nI k)) 15 (nr S) (sc S 0)) k) + x)) k (sc S 0)) + z) + 0)) 18 (nr S) 1) 20 (nr S) (ar S 5 k)) (ar S 5 i)) 4 i) + 1)) 8 i 0)))
    else if f_X3_settledNow (setA (setA (setA (setA (setA (setA (setA (setR S (nr S + 1)) 13 (nr S) (nI i)) 14 (nr S) (nI k)) 15 (nr S) (sc S 0)) 16 (nr S) ((f_X3_errorOf (setA (setA (setA (setR S (nr S + 1)) 13 (nr S) (nI i)) 14 (nr S) (nI k)) 15 (nr S) (sc S 0)) k) + x)) 17 (nr S) (((f_X3_spanOn (setA (setA (setA (setA (setR S (nr S + 1)) 13 (nr S) (nI i)) 14 (nr S) (nI k)) 15 (nr S) (sc S 0)) 16 (nr S) ((f_X3_errorOf (setA (setA (setA (setR S (nr S + 1)) 13 (nr S) (nI i)) 14 (nr S) (nI k)) 15 (nr S) (sc S 0)) k) + x)) k (sc S 0)) + z) + 0)) 18 (nr S) 1) 20 (nr S) (ar S 5 k)) i = 0 then (if ar S 19 (nr S) = 0 then (nI (nr S), (setA (setA (setA (setA (setA (setA (setA (setA (setA (setA (setR S (nr S + 1)) 13 (nr S) (nI i)) 14 (nr S) (nI k)) 15 (nr S) (sc S 0)) 16 (nr S) ((f_X3_errorOf (setA (setA (setA (setR S (nr S + 1)) 13 (nr S) (nI i)) 14 (nr S) (nI k)) 15 (nr S) (sc S 0)) k) + x)) 17 (nr S) (((f_X3_spanOn (setA (setA (setA (setA (setR S (nr S + 1)) 13 (nr S) (nI i)) 14 (nr S) (nI k)) 15 (nr S) (sc S 0)) 16 (nr S) ((f_X3_errorOf (setA (setA (setA (setR S (nr S + 1)) 13 (nr S) (nI i)) 14 (nr S) (nI k)) 15 (nr S) (sc S 0)) k) + x)) k (sc S 0)) + z) + 0)) 18 (nr S) 1) 20 (nr S) (ar S 5 k)) 5 i (nI (nr S))) 4 i ((ar S 4 i) + 1)) 8 i 0))
      else (nI (nr S), (setA (setA (setA (setA (f_X3_unsettle (setA (setA (setA (setA (setA (setA (setA (setR S (nr S + 1)) 13 (nr S) (nI i)) 14 (nr S) (nI k)) 15 (nr S) (sc S 0)) 16 (nr S) ((f_X3_errorOf (setA (setA (setA (setR S (nr S + 1)) 13 (nr S) (nI i)) 14 (nr S) (nI k)) 15 (nr S) (sc S 0)) k) + x)) 17 (nr S) (((f_X3_spanOn (setA (setA (setA (setA (setR S (nr S + 1)) 13 (nr S) (nI i)) 14 (nr S) (nI k)) 15 (nr S) (sc S 0)) 16 (nr S) ((f_X3_errorOf (setA (setA (setA (setR S (nr S + 1)) 13 (nr S) (nI i)) 14 (nr S) (nI k)) 15 (nr S) (sc S 0)) k) + x)) k (sc S 0)) + z) + 0)) 18 (nr S) 1) 20 (nr S) (ar S 5 k)) (ar S 5 i)) 6 i ((-1000000))) 5 i (nI (nr S))) 4 i ((ar (f_X3_unsettle (setA (setA (setA (setA (setA (setA (setA (setR S (nr S + 1)) 13 (nr S) (nI i)) 14 (nr S) (nI k)) 15 (nr S) (sc S 0)) 16 (nr S) ((f_X3_errorOf (setA (setA (setA (setR S (nr S + 1)) 13 (nr S) (nI i)) 14 (nr S) (nI k)) 15 (nr S) (sc S 0)) k) + x)) 17 (nr S) (((f_X3_spanOn (setA (setA (setA (setA (setR S (nr S + 1)) 13 (nr S) (nI i)) 14 (nr S) (nI k)) 15 (nr S) (sc S 0)) 16 (nr S) ((f_X3_errorOf (setA (setA (setA (setR S (nr S + 1)) 13 (nr S) (nI i)) 14 (nr S) (nI k)) 15 (nr S) (sc S 0)) k) + x)) k (sc S 0)) + z) + 0)) 18 (nr S) 1) 20 (nr S) (ar S 5 k)) (ar S 5 i)) 4 i) + 1)) 8 i 0)))
    else if ((f_X3_errorOf (setA (setA (setA (setR S (nr S + 1)) 13 (nr S) (nI i)) 14 (nr S) (nI k)) 15 (nr S) (sc S 0)) k) + x) + (((f_X3_spanOn (setA (setA (setA (setA (setR S (nr S + 1)) 13 (nr S) (nI i)) 14 (nr S) (nI k)) 15 (nr S) (sc S 0)) 16 (nr S) ((f_X3_errorOf (setA (setA (setA (setR S (nr S + 1)) 13 (nr S) (nI i)) 14 (nr S) (nI k)) 15 (nr S) (sc S 0)) k) + x)) k (sc S 0)) + z) + 0) < (ar S 16 (ix (ar S 5 i))) - (f_X3_spanOn (setA (setA (setA (setA (setA (setA (setA (setR S (nr S + 1)) 13 (nr S) (nI i)) 14 (nr S) (nI k)) 15 (nr S) (sc S 0)) 16 (nr S) ((f_X3_errorOf (setA (setA (setA (setR S (nr S + 1)) 13 (nr S) (nI i)) 14 (nr S) (nI k)) 15 (nr S) (sc S 0)) k) + x)) 17 (nr S) (((f_X3_spanOn (setA (setA (setA (setA (setR S (nr S + 1)) 13 (nr S) (nI i)) 14 (nr S) (nI k)) 15 (nr S) (sc S 0)) 16 (nr S) ((f_X3_errorOf (setA (setA (setA (setR S (nr S + 1)) 13 (nr S) (nI i)) 14 (nr S) (nI k)) 15 (nr S) (sc S 0)) k) + x)) k (sc S 0)) + z) + 0)) 18 (nr S) 1) 20 (nr S) (ar S 5 k)) i (sc S 0)) then (nI (nr S), (setA (setA (setA (setA (f_X3_unsettle (setA (setA (setA (setA (setA (setA (setA (setA (setR S (nr S + 1)) 13 (nr S) (nI i)) 14 (nr S) (nI k)) 15 (nr S) (sc S 0)) 16 (nr S) ((f_X3_errorOf (setA (setA (setA (setR S (nr S + 1)) 13 (nr S) (nI i)) 14 (nr S) (nI k)) 15 (nr S) (sc S 0)) k) + x)) 17 (nr S) (((f_X3_spanOn (setA (setA (setA (setA (setR S (nr S + 1)) 13 (nr S) (nI i)) 14 (nr S) (nI k)) 15 (nr S) (sc S 0)) 16 (nr S) ((f_X3_errorOf (setA (setA (setA (setR S (nr S + 1)) 13 (nr S) (nI i)) 14 (nr S) (nI k)) 15 (nr S) (sc S 0)) k) + x)) k (sc S 0)) + z) + 0)) 18 (nr S) 1) 20 (nr S) (ar S 5 k)) 19 (nr S) 1) (ar S 5 i)) 6 i ((-1000000))) 5 i (nI (nr S))) 4 i ((ar (f_X3_unsettle (setA (setA (setA (setA (setA (setA (setA (setA (setR S (nr S + 1)) 13 (nr S) (nI i)) 14 (nr S) (nI k)) 15 (nr S) (sc S 0)) 16 (nr S) ((f_X3_errorOf (setA (setA (setA (setR S (nr S + 1)) 13 (nr S) (nI i)) 14 (nr S) (nI k)) 15 (nr S) (sc S 0)) k) + x)) 17 (nr S) (((f_X3_spanOn (setA (setA (setA (setA (setR S (nr S + 1)) 13 (nr S) (nI i)) 14 (nr S) (nI k)) 15 (nr S) (sc S 0)) 16 (nr S) ((f_X3_errorOf (setA (setA (setA (setR S (nr S + 1)) 13 (nr S) (nI i)) 14 (nr S) (nI k)) 15 (nr S) (sc S 0)) k) + x)) k (sc S 0)) + z) + 0)) 18 (nr S) 1) 20 (nr S) (ar S 5 k)) 19 (nr S) 1) (ar S 5 i)) 4 i) + 1)) 8 i 0))
    else if ((f_X3_errorOf (setA (setA (setA (setR S (nr S + 1)) 13 (nr S) (nI i)) 14 (nr S) (nI k)) 15 (nr S) (sc S 0)) k) + x) - (((f_X3_spanOn (setA (setA (setA (setA (setR S (nr S + 1)) 13 (nr S) (nI i)) 14 (nr S) (nI k)) 15 (nr S) (sc S 0)) 16 (nr S) ((f_X3_errorOf (setA (setA (setA (setR S (nr S + 1)) 13 (nr S) (nI i)) 14 (nr S) (nI k)) 15 (nr S) (sc S 0)) k) + x)) k (sc S 0)) + z) + 0) ≤ (ar S 16 (ix (ar S 5 i))) + (f_X3_spanOn (setA (setA (setA (setA (setA (setA (setA (setR S (nr S + 1)) 13 (nr S) (nI i)) 14 (nr S) (nI k)) 15 (nr S) (sc S 0)) 16 (nr S) ((f_X3_errorOf (setA (setA (setA (setR S (nr S + 1)) 13 (nr S) (nI i)) 14 (nr S) (nI k)) 15 (nr S) (sc S 0)) k) + x)) 17 (nr S) (((f_X3_spanOn (setA (setA (setA (setA (setR S (nr S + 1)) 13 (nr S) (nI i)) 14 (nr S) (nI k)) 15 (nr S) (sc S 0)) 16 (nr S) ((f_X3_errorOf (setA (setA (setA (setR S (nr S + 1)) 13 (nr S) (nI i)) 14 (nr S) (nI k)) 15 (nr S) (sc S 0)) k) + x)) k (sc S 0)) + z) + 0)) 18 (nr S) 1) 20 (nr S) (ar S 5 k)) i (sc S 0)) then (nI (nr S), (setA (setA (setA (setA (setA (setA (setA (setA (setA (setA (setA (setR S (nr S + 1)) 13 (nr S) (nI i)) 14 (nr S) (nI k)) 15 (nr S) (sc S 0)) 16 (nr S) ((f_X3_errorOf (setA (setA (setA (setR S (nr S + 1)) 13 (nr S) (nI i)) 14 (nr S) (nI k)) 15 (nr S) (sc S 0)) k) + x)) 17 (nr S) (((f_X3_spanOn (setA (setA (setA (setA (setR S (nr S + 1)) 13 (nr S) (nI i)) 14 (nr S) (nI k)) 15 (nr S) (sc S 0)) 16 (nr S) ((f_X3_errorOf (setA (setA (setA (setR S (nr S + 1)) 13 (nr S) (nI i)) 14 (nr S) (nI k)) 15 (nr S) (sc S 0)) k) + x)) k (sc S 0)) + z) + 0)) 18 (nr S) 1) 20 (nr S) (ar S 5 k)) 19 (nr S) 0) 5 i (nI (nr S))) 4 i ((ar S 4 i) + 1)) 8 i 0))
    else (nI (nr S), (setA (setA (setA (setA (f_X3_unsettle (setA (setA (setA (setA (setA (setA (setA (setA (setR S (nr S + 1)) 13 (nr S) (nI i)) 14 (nr S) (nI k)) 15 (nr S) (sc S 0)) 16 (nr S) ((f_X3_errorOf (setA (setA (setA (setR S (nr S + 1)) 13 (nr S) (nI i)) 14 (nr S) (nI k)) 15 (nr S) (sc S 0)) k) + x)) 17 (nr S) (((f_X3_spanOn (setA (setA (setA (setA (setR S (nr S + 1)) 13 (nr S) (nI i)) 14 (nr S) (nI k)) 15 (nr S) (sc S 0)) 16 (nr S) ((f_X3_errorOf (setA (setA (setA (setR S (nr S + 1)) 13 (nr S) (nI i)) 14 (nr S) (nI k)) 15 (nr S) (sc S 0)) k) + x)) k (sc S 0)) + z) + 0)) 18 (nr S) 1) 20 (nr S) (ar S 5 k)) 19 (nr S) 1) (ar S 5 i)) 6 i ((-1000000))) 5 i (nI (nr S))) 4 i ((ar (f_X3_unsettle (setA (setA (setA (setA (setA (setA (setA (setA (setR S (nr S + 1)) 13 (nr S) (nI i)) 14 (nr S) (nI k)) 15 (nr S) (sc S 0)) 16 (nr S) ((f_X3_errorOf (setA (setA (setA (setR S (nr S + 1)) 13 (nr S) (nI i)) 14 (nr S) (nI k)) 15 (nr S) (sc S 0)) k) + x)) 17 (nr S) (((f_X3_spanOn (setA (setA (setA (setA (setR S (nr S + 1)) 13 (nr S) (nI i)) 14 (nr S) (nI k)) 15 (nr S) (sc S 0)) 16 (nr S) ((f_X3_errorOf (setA (setA (setA (setR S (nr S + 1)) 13 (nr S) (nI i)) 14 (nr S) (nI k)) 15 (nr S) (sc S 0)) k) + x)) k (sc S 0)) + z) + 0)) 18 (nr S) 1) 20 (nr S) (ar S 5 k)) 19 (nr S) 1) (ar S 5 i)) 4 i) + 1)) 8 i 0)))
  else ((-3), S)
set_option maxRecDepth 1000000 in
theorem c_X3_trial (l : Launch) (G : GG) (ad : Nat → Nat) (S : St) (hW : WF S) (hBa : WB S) {i : Nat} (hi : i < nt S) {k : Nat} (hk : k < nt S) (x z : Int32) : MW l yX3_trial cX3_trial 10 (some .int) 2 43 0 0 G ad (cM G ad S) [.ref (ad 0), .int (nI i), .int (nI k), .int x, .int z] (some (.int (f_X3_trial S i k x z).1)) (fun ad' => cM G ad' (f_X3_trial S i k x z).2) (fun ad' => ad' = ad) := by
  refine MW.of [(0, .ref (ad 0)), (1, .int (nI i)), (2, .int (nI k)), (3, .int x), (4, .int z)] (by decide) (Nat.le_of_ble_eq_true rfl) rfl ?_
  intro p e s m args below meth c A cx hr hlk hnm hA hP ls hl
  have hx := cx.1.1
  have hb := cx.1.2.1
  have hS : va_S A s.heap s.heap [] := va_S.rf
  refine lv_aload_n hx hb dX3_trial_0 rfl (lv_at hl 0 rfl) ?_
  refine lv_iload_n hx hb dX3_trial_1 rfl (lv_at hl 1 rfl) ?_
  refine w_callV (As := [.int (nI i)]) (rest := []) (st := [.int 1]) cx (c_X3_isThing_in l G ad S hW hi) k_553 cal_yX3_isThing (ci := 3) rfl (hP.pa _ _ cM_0) hP.pa rfl ⟨Nat.le_of_ble_eq_true rfl, Nat.le_of_ble_eq_true rfl⟩ hl.1 (Nat.le_of_ble_eq_true rfl) ⟨Nat.zero_le _, Nat.zero_le _⟩ rfl rfl dX3_trial_2 ?_
  refine lv_if_eq (tgt := 16) hx hb dX3_trial_5 (by decide) (fun c_1 => ?_) (fun c_1 => ?_)
  · exact absurd c_1 (by decide)
  · refine lv_aload_n hx hb dX3_trial_8 rfl (lv_at hl 0 rfl) ?_
    refine lv_iload_n hx hb dX3_trial_9 rfl (lv_at hl 2 rfl) ?_
    refine w_callV (As := [.int (nI k)]) (rest := []) (st := [.int 1]) cx (c_X3_isThing_in l G ad S hW hk) k_553 cal_yX3_isThing (ci := 3) rfl (hP.pa _ _ cM_0) hP.pa rfl ⟨Nat.le_of_ble_eq_true rfl, Nat.le_of_ble_eq_true rfl⟩ hl.1 (Nat.le_of_ble_eq_true rfl) ⟨Nat.zero_le _, Nat.zero_le _⟩ rfl rfl dX3_trial_10 ?_
    refine lv_if_ne (tgt := 18) hx hb dX3_trial_13 (by decide) (fun c_2 => ?_) (fun c_2 => ?_)
    · refine lv_aload_n hx hb dX3_trial_18 rfl (lv_at hl 0 rfl) ?_
      refine w_get cx (ci := 3) rfl iX3 (hP.pa _ _ cM_0) 2 (by decide) k_453 (v := .ref (ad 1)) rfl dX3_trial_19 ?_
      refine lv_iload_n hx hb dX3_trial_22 rfl (lv_at hl 1 rfl) ?_
      refine w_iald cx (hP.pa _ _ (cM_A (n := 40) 0 (by decide) rfl rfl)) i rfl (Nat.lt_of_lt_of_le hi hW.t) (by decide) dX3_trial_23 ?_
      refine lv_iconst (v := 3) hx hb dX3_trial_24 (by decide) ?_
      refine lv_icmp_ne (tgt := 32) hx hb dX3_trial_25 (by decide) (fun c_3 => ?_) (fun c_3 => ?_)
      · refine lv_iconst (v := 0) hx hb dX3_trial_32 (by decide) ?_
        refine lv_istore (lv' := [(5, .int 0), (0, .ref (ad 0)), (1, .int (nI i)), (2, .int (nI k)), (3, .int x), (4, .int z)]) hx hb dX3_trial_33 hl (by decide) rfl (fun ls hl => ?_)
        refine lv_iload hx hb dX3_trial_35 (lv_at hl 0 rfl) ?_
        refine lv_if_ne (tgt := 51) hx hb dX3_trial_37 (by decide) (fun c_4 => ?_) (fun c_4 => ?_)
        · exact absurd (by decide) c_4
        · refine lv_iload_n hx hb dX3_trial_40 rfl (lv_at hl 4 rfl) ?_
          refine w_ldc cx k_561 dX3_trial_41 ?_
          refine w_ldc cx k_562 dX3_trial_43 ?_
          refine w_callS (As := [.int x, .int ((-100000)), .int 100000]) (rest := []) (st := [.int (f_X3_in x ((-100000)) 100000)]) cx (c_X3_in l G ad _ x ((-100000)) 100000) k_541 cal_yX3_in hP.pa rfl ⟨Nat.le_of_ble_eq_true rfl, Nat.le_of_ble_eq_true rfl⟩ hl.1 (Nat.le_of_ble_eq_true rfl) ⟨Nat.zero_le _, Nat.zero_le _⟩ rfl rfl dX3_trial_45 ?_
          refine lv_if_eq (tgt := 62) hx hb dX3_trial_48 (by decide) (fun c_5 => ?_) (fun c_5 => ?_)
          · refine lv_bipush (v := -2) hx hb dX3_trial_62 (by decide) ?_
            rw [show f_X3_trial S i k x z = ((-2), S) from by rw [f_X3_trial, if_neg c_3, if_pos c_5]]
            exact x_int cx hr hlk (ad' := ad) ⟨rfl, hP⟩ hS dX3_trial_64
          · refine lv_iload hx hb dX3_trial_51 (lv_at hl 5 rfl) ?_
            refine lv_iconst (v := 0) hx hb dX3_trial_53 (by decide) ?_
            refine w_ldc cx k_562 dX3_trial_54 ?_
            refine w_callS (As := [.int z, .int 0, .int 100000]) (rest := []) (st := [.int (f_X3_in z 0 100000)]) cx (c_X3_in l G ad _ z 0 100000) k_541 cal_yX3_in hP.pa rfl ⟨Nat.le_of_ble_eq_true rfl, Nat.le_of_ble_eq_true rfl⟩ hl.1 (Nat.le_of_ble_eq_true rfl) ⟨Nat.zero_le _, Nat.zero_le _⟩ rfl rfl dX3_trial_56 ?_
            refine lv_if_ne (tgt := 65) hx hb dX3_trial_59 (by decide) (fun c_6 => ?_) (fun c_6 => ?_)
            · refine lv_aload_n hx hb dX3_trial_65 rfl (lv_at hl 1 rfl) ?_
              refine w_get cx (ci := 3) rfl iX3 (hP.pa _ _ cM_0) 2 (by decide) k_453 (v := .ref (ad 1)) rfl dX3_trial_66 ?_
              refine lv_iload_n hx hb dX3_trial_69 rfl (lv_at hl 2 rfl) ?_
              refine w_iald cx (hP.pa _ _ (cM_A (n := 40) 0 (by decide) rfl rfl)) i rfl (Nat.lt_of_lt_of_le hi hW.t) (by decide) dX3_trial_70 ?_
              refine lv_if_eq (tgt := 108) hx hb dX3_trial_71 (by decide) (fun c_7 => ?_) (fun c_7 => ?_)
              · refine lv_iconst (v := 0) hx hb dX3_trial_108 (by decide) ?_
                refine lv_istore (lv' := [(6, .int 0), (5, .int 0), (0, .ref (ad 0)), (1, .int (nI i)), (2, .int (nI k)), (3, .int x), (4, .int z)]) hx hb dX3_trial_109 hl (by decide) rfl (fun ls hl => ?_)
                refine lv_iload hx hb dX3_trial_111 (lv_at hl 0 rfl) ?_
                refine lv_if_eq (tgt := 132) hx hb dX3_trial_113 (by decide) (fun c_8 => ?_) (fun c_8 => ?_)
                · refine lv_bipush (v := -3) hx hb dX3_trial_132 (by decide) ?_
                  rw [show f_X3_trial S i k x z = ((-3), S) from by rw [f_X3_trial, if_neg c_3, if_neg c_5, if_neg c_6, if_pos c_7]]
                  exact x_int cx hr hlk (ad' := ad) ⟨rfl, hP⟩ hS dX3_trial_134
                · exact absurd (by decide) c_8
              · refine lv_iload hx hb dX3_trial_74 (lv_at hl 0 rfl) ?_
                refine lv_if_eq (tgt := 89) hx hb dX3_trial_76 (by decide) (fun c_9 => ?_) (fun c_9 => ?_)
                · refine lv_iload_n hx hb dX3_trial_89 rfl (lv_at hl 3 rfl) ?_
                  refine lv_iload_n hx hb dX3_trial_90 rfl (lv_at hl 2 rfl) ?_
                  refine lv_icmp_eq (tgt := 108) hx hb dX3_trial_91 (by decide) (fun c_10 => ?_) (fun c_10 => ?_)
                  · refine lv_iconst (v := 0) hx hb dX3_trial_108 (by decide) ?_
                    refine lv_istore (lv' := [(6, .int 0), (5, .int 0), (0, .ref (ad 0)), (1, .int (nI i)), (2, .int (nI k)), (3, .int x), (4, .int z)]) hx hb dX3_trial_109 hl (by decide) rfl (fun ls hl => ?_)
                    refine lv_iload hx hb dX3_trial_111 (lv_at hl 0 rfl) ?_
                    refine lv_if_eq (tgt := 132) hx hb dX3_trial_113 (by decide) (fun c_11 => ?_) (fun c_11 => ?_)
                    · refine lv_bipush (v := -3) hx hb dX3_trial_132 (by decide) ?_
                      rw [show f_X3_trial S i k x z = ((-3), S) from by rw [f_X3_trial, if_neg c_3, if_neg c_5, if_neg c_6, if_neg c_7, if_pos c_10]]
                      exact x_int cx hr hlk (ad' := ad) ⟨rfl, hP⟩ hS dX3_trial_134
                    · exact absurd (by decide) c_11
                  · refine lv_aload_n hx hb dX3_trial_94 rfl (lv_at hl 1 rfl) ?_
                    refine w_get cx (ci := 3) rfl iX3 (hP.pa _ _ cM_0) 2 (by decide) k_453 (v := .ref (ad 1)) rfl dX3_trial_95 ?_
                    refine lv_iload_n hx hb dX3_trial_98 rfl (lv_at hl 3 rfl) ?_
                    refine w_iald cx (hP.pa _ _ (cM_A (n := 40) 0 (by decide) rfl rfl)) k rfl (Nat.lt_of_lt_of_le hk hW.t) (by decide) dX3_trial_99 ?_
                    refine lv_iconst (v := 1) hx hb dX3_trial_100 (by decide) ?_
                    refine lv_icmp_gt (tgt := 108) hx hb dX3_trial_101 (by decide) (fun c_12 => ?_) (fun c_12 => ?_)
                    · refine lv_iconst (v := 0) hx hb dX3_trial_108 (by decide) ?_
                      refine lv_istore (lv' := [(6, .int 0), (5, .int 0), (0, .ref (ad 0)), (1, .int (nI i)), (2, .int (nI k)), (3, .int x), (4, .int z)]) hx hb dX3_trial_109 hl (by decide) rfl (fun ls hl => ?_)
                      refine lv_iload hx hb dX3_trial_111 (lv_at hl 0 rfl) ?_
                      refine lv_if_eq (tgt := 132) hx hb dX3_trial_113 (by decide) (fun c_13 => ?_) (fun c_13 => ?_)
                      · refine lv_bipush (v := -3) hx hb dX3_trial_132 (by decide) ?_
                        rw [show f_X3_trial S i k x z = ((-3), S) from by rw [f_X3_trial, if_neg c_3, if_neg c_5, if_neg c_6, if_neg c_7, if_neg c_10, if_pos c_12]]
                        exact x_int cx hr hlk (ad' := ad) ⟨rfl, hP⟩ hS dX3_trial_134
                      · exact absurd (by decide) c_13
                    · refine lv_iconst (v := 1) hx hb dX3_trial_104 (by decide) ?_
                      refine lv_goto (tgt := 109) hx hb dX3_trial_105 (by decide) ?_
                      refine lv_istore (lv' := [(6, .int 1), (5, .int 0), (0, .ref (ad 0)), (1, .int (nI i)), (2, .int (nI k)), (3, .int x), (4, .int z)]) hx hb dX3_trial_109 hl (by decide) rfl (fun ls hl => ?_)
                      refine lv_iload hx hb dX3_trial_111 (lv_at hl 0 rfl) ?_
                      refine lv_if_eq (tgt := 132) hx hb dX3_trial_113 (by decide) (fun c_14 => ?_) (fun c_14 => ?_)
                      · exact absurd c_14 (by decide)
                      · refine lv_aload_n hx hb dX3_trial_116 rfl (lv_at hl 2 rfl) ?_
                        refine lv_iload_n hx hb dX3_trial_117 rfl (lv_at hl 4 rfl) ?_
                        refine w_callV (As := [.int (nI k)]) (rest := []) (st := [.int (f_X3_settledNow S k)]) cx (c_X3_settledNow l G ad S hW (i := k) hk) k_579 cal_yX3_settledNow (ci := 3) rfl (hP.pa _ _ cM_0) hP.pa rfl ⟨Nat.le_of_ble_eq_true rfl, Nat.le_of_ble_eq_true rfl⟩ hl.1 (Nat.le_of_ble_eq_true rfl) ⟨Nat.zero_le _, Nat.zero_le _⟩ rfl rfl dX3_trial_118 ?_
                        refine lv_if_eq (tgt := 132) hx hb dX3_trial_121 (by decide) (fun c_15 => ?_) (fun c_15 => ?_)
                        · refine lv_bipush (v := -3) hx hb dX3_trial_132 (by decide) ?_
                          rw [show f_X3_trial S i k x z = ((-3), S) from by rw [f_X3_trial, if_neg c_3, if_neg c_5, if_neg c_6, if_neg c_7, if_neg c_10, if_neg c_12, if_pos c_15]]
                          exact x_int cx hr hlk (ad' := ad) ⟨rfl, hP⟩ hS dX3_trial_134
                        · refine lv_aload_n hx hb dX3_trial_124 rfl (lv_at hl 2 rfl) ?_
                          refine lv_iload_n hx hb dX3_trial_125 rfl (lv_at hl 4 rfl) ?_
                          refine w_callV (As := [.int (nI k)]) (rest := []) (st := [.int (f_X3_dueNow S k)]) cx (c_X3_dueNow l G ad S hW (i := k) hk) k_583 cal_yX3_dueNow (ci := 3) rfl (hP.pa _ _ cM_0) hP.pa rfl ⟨Nat.le_of_ble_eq_true rfl, Nat.le_of_ble_eq_true rfl⟩ hl.1 (Nat.le_of_ble_eq_true rfl) ⟨Nat.zero_le _, Nat.zero_le _⟩ rfl rfl dX3_trial_126 ?_
                          refine lv_if_eq (tgt := 135) hx hb dX3_trial_129 (by decide) (fun c_16 => ?_) (fun c_16 => ?_)
                          · refine lv_aload_n hx hb dX3_trial_135 rfl (lv_at hl 2 rfl) ?_
                            refine w_get cx (ci := 3) rfl iX3 (hP.pa _ _ cM_0) 15 (by decide) k_466 (v := .int (nI (nr S))) rfl dX3_trial_136 ?_
                            refine lv_sipush (v := 300) hx hb dX3_trial_139 (by decide) ?_
                            refine lv_icmp_ne (tgt := 148) hx hb dX3_trial_142 (by decide) (fun c_17 => ?_) (fun c_17 => ?_)
                            · refine lv_aload_n hx hb dX3_trial_148 rfl (lv_at hl 2 rfl) ?_
                              refine w_get cx (ci := 3) rfl iX3 (hP.pa _ _ cM_0) 15 (by decide) k_466 (v := .int (nI (nr S))) rfl dX3_trial_149 ?_
                              refine lv_istore (lv' := [(7, .int (nI (nr S))), (6, .int 1), (5, .int 0), (0, .ref (ad 0)), (1, .int (nI i)), (2, .int (nI k)), (3, .int x), (4, .int z)]) hx hb dX3_trial_152 hl (by decide) rfl (fun ls hl => ?_)
                              refine lv_aload_n hx hb dX3_trial_154 rfl (lv_at hl 3 rfl) ?_
                              refine lv_dup hx hb dX3_trial_155 rfl ?_
                              refine w_get cx (ci := 3) rfl iX3 (hP.pa _ _ cM_0) 15 (by decide) k_466 (v := .int (nI (nr S))) rfl dX3_trial_156 ?_
                              refine lv_iconst (v := 1) hx hb dX3_trial_159 (by decide) ?_
                              refine lv_iadd hx hb dX3_trial_160 ?_
                              refine w_nrm (y := nI (nr S + 1)) (nI_1 _) ?_
                              refine m_put cx (setR S (nr S + 1)) hP hS 15 (by decide) k_466 rfl rfl (by decide) rfl (fun _ => rfl) rfl dX3_trial_161 (fun H locs hP hS => ?_)
                              obtain ⟨Z1, eZ1⟩ : ∃ Z0, Z0 = setR S (nr S + 1) := ⟨_, rfl⟩
                              rw [← eZ1] at hP
                              have hi_Z1 : i < nt Z1 := by rw [eZ1]; exact hi
                              have hk_Z1 : k < nt Z1 := by rw [eZ1]; exact hk
                              have hWZ1 : WF Z1 := by rw [eZ1]; exact hW.inc (nrlt hW.r c_17)
                              refine lv_aload_n hx hb dX3_trial_164 rfl (lv_at hl 3 rfl) ?_
                              refine w_get cx (ci := 3) rfl iX3 (hP.pa _ _ cM_0) 16 (by decide) k_467 (v := .ref (ad 14)) rfl dX3_trial_165 ?_
                              refine lv_iload hx hb dX3_trial_168 (lv_at hl 0 rfl) ?_
                              refine lv_iload_n hx hb dX3_trial_170 rfl (lv_at hl 4 rfl) ?_
                              refine m_iast (n := 300) cx hP hS 13 (by decide) rfl rfl (nr S) rfl (nrlt hW.r c_17) (by decide) dX3_trial_171 (fun H locs hP hS => ?_)
                              obtain ⟨Z2, eZ2⟩ : ∃ Z0, Z0 = setA Z1 13 (nr S) (nI i) := ⟨_, rfl⟩
                              rw [← eZ2] at hP
                              have hi_Z2 : i < nt Z2 := by rw [eZ2]; exact hi_Z1
                              have hk_Z2 : k < nt Z2 := by rw [eZ2]; exact hk_Z1
                              have hWZ2 : WF Z2 := by rw [eZ2]; exact hWZ1.setA (nr S) (nI i) (by decide) (by decide) (by decide) (by decide)
                              refine lv_aload_n hx hb dX3_trial_172 rfl (lv_at hl 3 rfl) ?_
                              refine w_get cx (ci := 3) rfl iX3 (hP.pa _ _ cM_0) 17 (by decide) k_468 (v := .ref (ad 15)) rfl dX3_trial_173 ?_
                              refine lv_iload hx hb dX3_trial_176 (lv_at hl 0 rfl) ?_
                              refine lv_iload_n hx hb dX3_trial_178 rfl (lv_at hl 5 rfl) ?_
                              refine m_iast (n := 300) cx hP hS 14 (by decide) rfl rfl (nr S) rfl (nrlt hW.r c_17) (by decide) dX3_trial_179 (fun H locs hP hS => ?_)
                              obtain ⟨Z3, eZ3⟩ : ∃ Z0, Z0 = setA Z2 14 (nr S) (nI k) := ⟨_, rfl⟩
                              rw [← eZ3] at hP
                              have hi_Z3 : i < nt Z3 := by rw [eZ3]; exact hi_Z2
                              have hk_Z3 : k < nt Z3 := by rw [eZ3]; exact hk_Z2
                              have hWZ3 : WF Z3 := by rw [eZ3]; exact hWZ2.setA (nr S) (nI k) (by decide) (by decide) (by decide) (by decide)
                              refine lv_aload_n hx hb dX3_trial_180 rfl (lv_at hl 3 rfl) ?_
                              refine w_get cx (ci := 3) rfl iX3 (hP.pa _ _ cM_0) 18 (by decide) k_469 (v := .ref (ad 16)) rfl dX3_trial_181 ?_
                              refine lv_iload hx hb dX3_trial_184 (lv_at hl 0 rfl) ?_
                              refine lv_aload_n hx hb dX3_trial_186 rfl (lv_at hl 3 rfl) ?_
                              refine w_get cx (ci := 3) rfl iX3 (hP.pa _ _ cM_0) 0 (by decide) k_451 (v := .int (sc Z3 0)) rfl dX3_trial_187 ?_
                              refine w_nrm (y := sc S 0) (by rw [eZ3, sc_setA, eZ2, sc_setA, eZ1, sc_setR]) ?_
                              refine m_iast (n := 300) cx hP hS 15 (by decide) rfl rfl (nr S) rfl (nrlt hW.r c_17) (by decide) dX3_trial_190 (fun H locs hP hS => ?_)
                              obtain ⟨Z4, eZ4⟩ : ∃ Z0, Z0 = setA Z3 15 (nr S) (sc S 0) := ⟨_, rfl⟩
                              rw [← eZ4] at hP
                              have hi_Z4 : i < nt Z4 := by rw [eZ4]; exact hi_Z3
                              have hk_Z4 : k < nt Z4 := by rw [eZ4]; exact hk_Z3
                              have hWZ4 : WF Z4 := by rw [eZ4]; exact hWZ3.setA (nr S) (sc S 0) (by decide) (by decide) (by decide) (by decide)
                              refine lv_aload_n hx hb dX3_trial_191 rfl (lv_at hl 3 rfl) ?_
                              refine w_get cx (ci := 3) rfl iX3 (hP.pa _ _ cM_0) 19 (by decide) k_470 (v := .ref (ad 17)) rfl dX3_trial_192 ?_
                              refine lv_iload hx hb dX3_trial_195 (lv_at hl 0 rfl) ?_
                              refine lv_aload_n hx hb dX3_trial_197 rfl (lv_at hl 3 rfl) ?_
                              refine lv_iload_n hx hb dX3_trial_198 rfl (lv_at hl 5 rfl) ?_
                              refine w_callV (As := [.int (nI k)]) (rest := [.int (nI (nr S)), .ref (ad 17)]) (st := [.int (f_X3_errorOf Z4 k), .int (nI (nr S)), .ref (ad 17)]) cx (c_X3_errorOf l G ad Z4 hWZ4 (i := k) hk_Z4) k_587 cal_yX3_errorOf (ci := 3) rfl (hP.pa _ _ cM_0) hP.pa rfl ⟨Nat.le_of_ble_eq_true rfl, Nat.le_of_ble_eq_true rfl⟩ hl.1 (Nat.le_of_ble_eq_true rfl) ⟨Nat.zero_le _, Nat.zero_le _⟩ rfl rfl dX3_trial_199 ?_
                              refine lv_iload hx hb dX3_trial_202 (lv_at hl 2 rfl) ?_
                              refine lv_if_eq (tgt := 215) hx hb dX3_trial_204 (by decide) (fun c_18 => ?_) (fun c_18 => ?_)
                              · refine lv_iload_n hx hb dX3_trial_215 rfl (lv_at hl 6 rfl) ?_
                                refine lv_iadd hx hb dX3_trial_216 ?_
                                refine m_iast (n := 300) cx hP hS 16 (by decide) rfl rfl (nr S) rfl (nrlt hW.r c_17) (by decide) dX3_trial_217 (fun H locs hP hS => ?_)
                                obtain ⟨Z5, eZ5⟩ : ∃ Z0, Z0 = setA Z4 16 (nr S) ((f_X3_errorOf Z4 k) + x) := ⟨_, rfl⟩
                                rw [← eZ5] at hP
                                have hi_Z5 : i < nt Z5 := by rw [eZ5]; exact hi_Z4
                                have hk_Z5 : k < nt Z5 := by rw [eZ5]; exact hk_Z4
                                have hWZ5 : WF Z5 := by rw [eZ5]; exact hWZ4.setA (nr S) ((f_X3_errorOf Z4 k) + x) (by decide) (by decide) (by decide) (by decide)
                                refine lv_aload_n hx hb dX3_trial_218 rfl (lv_at hl 3 rfl) ?_
                                refine w_get cx (ci := 3) rfl iX3 (hP.pa _ _ cM_0) 20 (by decide) k_471 (v := .ref (ad 18)) rfl dX3_trial_219 ?_
                                refine lv_iload hx hb dX3_trial_222 (lv_at hl 0 rfl) ?_
                                refine lv_aload_n hx hb dX3_trial_224 rfl (lv_at hl 3 rfl) ?_
                                refine lv_iload_n hx hb dX3_trial_225 rfl (lv_at hl 5 rfl) ?_
                                refine lv_aload_n hx hb dX3_trial_226 rfl (lv_at hl 3 rfl) ?_
                                refine w_get cx (ci := 3) rfl iX3 (hP.pa _ _ cM_0) 0 (by decide) k_451 (v := .int (sc Z5 0)) rfl dX3_trial_227 ?_
                                refine w_nrm (y := sc S 0) (by rw [eZ5, sc_setA, eZ4, sc_setA, eZ3, sc_setA, eZ2, sc_setA, eZ1, sc_setR]) ?_
                                refine w_callV (As := [.int (nI k), .int (sc S 0)]) (rest := [.int (nI (nr S)), .ref (ad 18)]) (st := [.int (f_X3_spanOn Z5 k (sc S 0)), .int (nI (nr S)), .ref (ad 18)]) cx (c_X3_spanOn l G ad Z5 hWZ5 (i := k) hk_Z5 (sc S 0)) k_595 cal_yX3_spanOn (ci := 3) rfl (hP.pa _ _ cM_0) hP.pa rfl ⟨Nat.le_of_ble_eq_true rfl, Nat.le_of_ble_eq_true rfl⟩ hl.1 (Nat.le_of_ble_eq_true rfl) ⟨Nat.zero_le _, Nat.zero_le _⟩ rfl rfl dX3_trial_230 ?_
                                refine lv_iload hx hb dX3_trial_233 (lv_at hl 7 rfl) ?_
                                refine lv_iadd hx hb dX3_trial_235 ?_
                                refine lv_iload hx hb dX3_trial_236 (lv_at hl 2 rfl) ?_
                                refine lv_if_eq (tgt := 249) hx hb dX3_trial_238 (by decide) (fun c_19 => ?_) (fun c_19 => ?_)
                                · refine lv_iconst (v := 0) hx hb dX3_trial_249 (by decide) ?_
                                  refine lv_iadd hx hb dX3_trial_250 ?_
                                  refine m_iast (n := 300) cx hP hS 17 (by decide) rfl rfl (nr S) rfl (nrlt hW.r c_17) (by decide) dX3_trial_251 (fun H locs hP hS => ?_)
                                  obtain ⟨Z6, eZ6⟩ : ∃ Z0, Z0 = setA Z5 17 (nr S) (((f_X3_spanOn Z5 k (sc S 0)) + z) + 0) := ⟨_, rfl⟩
                                  rw [← eZ6] at hP
                                  have hi_Z6 : i < nt Z6 := by rw [eZ6]; exact hi_Z5
                                  have hk_Z6 : k < nt Z6 := by rw [eZ6]; exact hk_Z5
                                  have hWZ6 : WF Z6 := by rw [eZ6]; exact hWZ5.setA (nr S) (((f_X3_spanOn Z5 k (sc S 0)) + z) + 0) (by decide) (by decide) (by decide) (by decide)
                                  refine lv_aload_n hx hb dX3_trial_252 rfl (lv_at hl 3 rfl) ?_
                                  refine w_get cx (ci := 3) rfl iX3 (hP.pa _ _ cM_0) 21 (by decide) k_472 (v := .ref (ad 19)) rfl dX3_trial_253 ?_
                                  refine lv_iload hx hb dX3_trial_256 (lv_at hl 0 rfl) ?_
                                  refine lv_iconst (v := 1) hx hb dX3_trial_258 (by decide) ?_
                                  refine m_zast (n := 300) cx hP hS 18 (by decide) rfl rfl (nr S) rfl (nrlt hW.r c_17) (by decide) (Or.inr rfl) dX3_trial_259 (fun H locs hP hS => ?_)
                                  obtain ⟨Z7, eZ7⟩ : ∃ Z0, Z0 = setA Z6 18 (nr S) 1 := ⟨_, rfl⟩
                                  rw [← eZ7] at hP
                                  have hi_Z7 : i < nt Z7 := by rw [eZ7]; exact hi_Z6
                                  have hk_Z7 : k < nt Z7 := by rw [eZ7]; exact hk_Z6
                                  have hWZ7 : WF Z7 := by rw [eZ7]; exact hWZ6.setA (nr S) 1 (by decide) (by decide) (by decide) (by decide)
                                  refine lv_aload_n hx hb dX3_trial_260 rfl (lv_at hl 3 rfl) ?_
                                  refine w_get cx (ci := 3) rfl iX3 (hP.pa _ _ cM_0) 23 (by decide) k_474 (v := .ref (ad 21)) rfl dX3_trial_261 ?_
                                  refine lv_iload hx hb dX3_trial_264 (lv_at hl 0 rfl) ?_
                                  refine lv_aload_n hx hb dX3_trial_266 rfl (lv_at hl 3 rfl) ?_
                                  refine w_get cx (ci := 3) rfl iX3 (hP.pa _ _ cM_0) 7 (by decide) k_458 (v := .ref (ad 6)) rfl dX3_trial_267 ?_
                                  refine lv_iload_n hx hb dX3_trial_270 rfl (lv_at hl 5 rfl) ?_
                                  refine w_iald cx (hP.pa _ _ (cM_A (n := 40) 5 (by decide) rfl rfl)) k rfl (Nat.lt_of_lt_of_le hk hW.t) (by decide) dX3_trial_271 ?_
                                  refine w_nrm (y := ar S 5 k) (by rw [eZ7, ar_ne _ _ _ _ _ (by decide), eZ6, ar_ne _ _ _ _ _ (by decide), eZ5, ar_ne _ _ _ _ _ (by decide), eZ4, ar_ne _ _ _ _ _ (by decide), eZ3, ar_ne _ _ _ _ _ (by decide), eZ2, ar_ne _ _ _ _ _ (by decide), eZ1, ar_setR]) ?_
                                  refine m_iast (n := 300) cx hP hS 20 (by decide) rfl rfl (nr S) rfl (nrlt hW.r c_17) (by decide) dX3_trial_272 (fun H locs hP hS => ?_)
                                  obtain ⟨Z8, eZ8⟩ : ∃ Z0, Z0 = setA Z7 20 (nr S) (ar S 5 k) := ⟨_, rfl⟩
                                  rw [← eZ8] at hP
                                  have hi_Z8 : i < nt Z8 := by rw [eZ8]; exact hi_Z7
                                  have hk_Z8 : k < nt Z8 := by rw [eZ8]; exact hk_Z7
                                  have hWZ8 : WF Z8 := by rw [eZ8]; exact hWZ7.setA (nr S) (ar S 5 k) (by decide) (by decide) (by decide) (by decide)
                                  refine lv_aload_n hx hb dX3_trial_273 rfl (lv_at hl 3 rfl) ?_
                                  refine w_get cx (ci := 3) rfl iX3 (hP.pa _ _ cM_0) 7 (by decide) k_458 (v := .ref (ad 6)) rfl dX3_trial_274 ?_
                                  refine lv_iload_n hx hb dX3_trial_277 rfl (lv_at hl 4 rfl) ?_
                                  refine w_iald cx (hP.pa _ _ (cM_A (n := 40) 5 (by decide) rfl rfl)) i rfl (Nat.lt_of_lt_of_le hi hW.t) (by decide) dX3_trial_278 ?_
                                  refine w_nrm (y := ar S 5 i) (by rw [eZ8, ar_ne _ _ _ _ _ (by decide), eZ7, ar_ne _ _ _ _ _ (by decide), eZ6, ar_ne _ _ _ _ _ (by decide), eZ5, ar_ne _ _ _ _ _ (by decide), eZ4, ar_ne _ _ _ _ _ (by decide), eZ3, ar_ne _ _ _ _ _ (by decide), eZ2, ar_ne _ _ _ _ _ (by decide), eZ1, ar_setR]) ?_
                                  refine lv_istore (lv' := [(8, .int (ar S 5 i)), (7, .int (nI (nr S))), (6, .int 1), (5, .int 0), (0, .ref (ad 0)), (1, .int (nI i)), (2, .int (nI k)), (3, .int x), (4, .int z)]) hx hb dX3_trial_279 hl (by decide) rfl (fun ls hl => ?_)
                                  refine lv_iload hx hb dX3_trial_281 (lv_at hl 0 rfl) ?_
                                  refine w_ldc cx k_548 dX3_trial_283 ?_
                                  refine lv_icmp_eq (tgt := 375) hx hb dX3_trial_285 (by decide) (fun c_20 => ?_) (fun c_20 => ?_)
                                  · refine lv_aload_n hx hb dX3_trial_375 rfl (lv_at hl 4 rfl) ?_
                                    refine w_get cx (ci := 3) rfl iX3 (hP.pa _ _ cM_0) 22 (by decide) k_473 (v := .ref (ad 20)) rfl dX3_trial_376 ?_
                                    refine lv_iload hx hb dX3_trial_379 (lv_at hl 1 rfl) ?_
                                    refine w_zald cx (hP.pa _ _ (cM_A (n := 300) 19 (by decide) rfl rfl)) (nr S) rfl (nrlt hW.r c_17) (by decide) dX3_trial_381 ?_
                                    refine w_nrm (y := ar S 19 (nr S)) (by rw [eZ8, ar_ne _ _ _ _ _ (by decide), eZ7, ar_ne _ _ _ _ _ (by decide), eZ6, ar_ne _ _ _ _ _ (by decide), eZ5, ar_ne _ _ _ _ _ (by decide), eZ4, ar_ne _ _ _ _ _ (by decide), eZ3, ar_ne _ _ _ _ _ (by decide), eZ2, ar_ne _ _ _ _ _ (by decide), eZ1, ar_setR]) ?_
                                    refine lv_if_eq (tgt := 399) hx hb dX3_trial_382 (by decide) (fun c_21 => ?_) (fun c_21 => ?_)
                                    · refine lv_aload_n hx hb dX3_trial_399 rfl (lv_at hl 4 rfl) ?_
                                      refine w_get cx (ci := 3) rfl iX3 (hP.pa _ _ cM_0) 7 (by decide) k_458 (v := .ref (ad 6)) rfl dX3_trial_400 ?_
                                      refine lv_iload_n hx hb dX3_trial_403 rfl (lv_at hl 5 rfl) ?_
                                      refine lv_iload hx hb dX3_trial_404 (lv_at hl 1 rfl) ?_
                                      refine m_iast (n := 40) cx hP hS 5 (by decide) rfl rfl i rfl (Nat.lt_of_lt_of_le hi hW.t) (by decide) dX3_trial_406 (fun H locs hP hS => ?_)
                                      obtain ⟨Z9, eZ9⟩ : ∃ Z0, Z0 = setA Z8 5 i (nI (nr S)) := ⟨_, rfl⟩
                                      rw [← eZ9] at hP
                                      have hi_Z9 : i < nt Z9 := by rw [eZ9]; exact hi_Z8
                                      have hk_Z9 : k < nt Z9 := by rw [eZ9]; exact hk_Z8
                                      refine lv_aload_n hx hb dX3_trial_407 rfl (lv_at hl 4 rfl) ?_
                                      refine w_get cx (ci := 3) rfl iX3 (hP.pa _ _ cM_0) 6 (by decide) k_457 (v := .ref (ad 5)) rfl dX3_trial_408 ?_
                                      refine lv_iload_n hx hb dX3_trial_411 rfl (lv_at hl 5 rfl) ?_
                                      refine lv_dup2_11 hx hb dX3_trial_412 rfl rfl ?_
                                      refine w_iald cx (hP.pa _ _ (cM_A (n := 40) 4 (by decide) rfl rfl)) i rfl (Nat.lt_of_lt_of_le hi hW.t) (by decide) dX3_trial_413 ?_
                                      refine w_nrm (y := ar S 4 i) (by rw [eZ9, ar_ne _ _ _ _ _ (by decide), eZ8, ar_ne _ _ _ _ _ (by decide), eZ7, ar_ne _ _ _ _ _ (by decide), eZ6, ar_ne _ _ _ _ _ (by decide), eZ5, ar_ne _ _ _ _ _ (by decide), eZ4, ar_ne _ _ _ _ _ (by decide), eZ3, ar_ne _ _ _ _ _ (by decide), eZ2, ar_ne _ _ _ _ _ (by decide), eZ1, ar_setR]) ?_
                                      refine lv_iconst (v := 1) hx hb dX3_trial_414 (by decide) ?_
                                      refine lv_iadd hx hb dX3_trial_415 ?_
                                      refine m_iast (n := 40) cx hP hS 4 (by decide) rfl rfl i rfl (Nat.lt_of_lt_of_le hi hW.t) (by decide) dX3_trial_416 (fun H locs hP hS => ?_)
                                      obtain ⟨Z10, eZ10⟩ : ∃ Z0, Z0 = setA Z9 4 i ((ar S 4 i) + 1) := ⟨_, rfl⟩
                                      rw [← eZ10] at hP
                                      have hi_Z10 : i < nt Z10 := by rw [eZ10]; exact hi_Z9
                                      have hk_Z10 : k < nt Z10 := by rw [eZ10]; exact hk_Z9
                                      refine lv_aload_n hx hb dX3_trial_417 rfl (lv_at hl 4 rfl) ?_
                                      refine w_get cx (ci := 3) rfl iX3 (hP.pa _ _ cM_0) 10 (by decide) k_461 (v := .ref (ad 9)) rfl dX3_trial_418 ?_
                                      refine lv_iload_n hx hb dX3_trial_421 rfl (lv_at hl 5 rfl) ?_
                                      refine lv_iconst (v := 0) hx hb dX3_trial_422 (by decide) ?_
                                      refine m_iast (n := 40) cx hP hS 8 (by decide) rfl rfl i rfl (Nat.lt_of_lt_of_le hi hW.t) (by decide) dX3_trial_423 (fun H locs hP hS => ?_)
                                      obtain ⟨Z11, eZ11⟩ : ∃ Z0, Z0 = setA Z10 8 i 0 := ⟨_, rfl⟩
                                      rw [← eZ11] at hP
                                      have hi_Z11 : i < nt Z11 := by rw [eZ11]; exact hi_Z10
                                      have hk_Z11 : k < nt Z11 := by rw [eZ11]; exact hk_Z10
                                      refine lv_iload hx hb dX3_trial_424 (lv_at hl 1 rfl) ?_
                                      rw [show f_X3_trial S i k x z = (nI (nr S), Z11) from by subst eZ11; subst eZ10; subst eZ9; subst eZ8; subst eZ7; subst eZ6; subst eZ5; subst eZ4; subst eZ3; subst eZ2; subst eZ1; rw [f_X3_trial, if_neg c_3, if_neg c_5, if_neg c_6, if_neg c_7, if_neg c_10, if_neg c_12, if_neg c_15, if_pos c_16, if_neg c_17, if_pos c_20, if_pos c_21]]
                                      exact x_int cx hr hlk (ad' := ad) ⟨rfl, hP⟩ hS dX3_trial_426
                                    · refine lv_aload_n hx hb dX3_trial_385 rfl (lv_at hl 4 rfl) ?_
                                      refine lv_iload hx hb dX3_trial_386 (lv_at hl 0 rfl) ?_
                                      refine w_callVW (As := [.int (ar S 5 i)]) (rest := []) (st := []) cx (c_X3_unsettle l G ad Z8 hWZ8 (WB.add (v := ar S 5 k) hBa (by rw [eZ8, nr_setA, eZ7, nr_setA, eZ6, nr_setA, eZ5, nr_setA, eZ4, nr_setA, eZ3, nr_setA, eZ2, nr_setA, eZ1, nr_setR]) (by rw [eZ8, ar_upd, eZ7, ar_diff _ _ _ _ (by decide), eZ6, ar_diff _ _ _ _ (by decide), eZ5, ar_diff _ _ _ _ (by decide), eZ4, ar_diff _ _ _ _ (by decide), eZ3, ar_diff _ _ _ _ (by decide), eZ2, ar_diff _ _ _ _ (by decide), eZ1, ar_setRf]) (hW.la hk)) (ar S 5 i)) k_603 cal_yX3_unsettle (ci := 3) rfl (hP.pa _ _ cM_0) hP hS hA rfl ⟨Nat.le_of_ble_eq_true rfl, Nat.le_of_ble_eq_true rfl⟩ hl.1 (Nat.le_of_ble_eq_true rfl) ⟨Nat.le_of_ble_eq_true rfl, Nat.le_of_ble_eq_true rfl⟩ rfl rfl dX3_trial_388 (fun ad1 H locs hX1 hP hz1 hq1 hS => ?_)
                                      rw [hX1] at hP
                                      obtain ⟨Z12, eZ12⟩ : ∃ Z0, Z0 = f_X3_unsettle Z8 (ar S 5 i) := ⟨_, rfl⟩
                                      rw [← eZ12] at hP
                                      refine lv_aload_n hx hb dX3_trial_391 rfl (lv_at hl 4 rfl) ?_
                                      refine w_get cx (ci := 3) rfl iX3 (hP.pa _ _ cM_0) 8 (by decide) k_459 (v := .ref (ad 7)) rfl dX3_trial_392 ?_
                                      refine lv_iload_n hx hb dX3_trial_395 rfl (lv_at hl 5 rfl) ?_
                                      refine w_ldc cx k_548 dX3_trial_396 ?_
                                      refine m_iast (n := 40) cx hP hS 6 (by decide) rfl rfl i rfl (Nat.lt_of_lt_of_le hi hW.t) (by decide) dX3_trial_398 (fun H locs hP hS => ?_)
                                      obtain ⟨Z13, eZ13⟩ : ∃ Z0, Z0 = setA Z12 6 i ((-1000000)) := ⟨_, rfl⟩
                                      rw [← eZ13] at hP
                                      refine lv_aload_n hx hb dX3_trial_399 rfl (lv_at hl 4 rfl) ?_
                                      refine w_get cx (ci := 3) rfl iX3 (hP.pa _ _ cM_0) 7 (by decide) k_458 (v := .ref (ad 6)) rfl dX3_trial_400 ?_
                                      refine lv_iload_n hx hb dX3_trial_403 rfl (lv_at hl 5 rfl) ?_
                                      refine lv_iload hx hb dX3_trial_404 (lv_at hl 1 rfl) ?_
                                      refine m_iast (n := 40) cx hP hS 5 (by decide) rfl rfl i rfl (Nat.lt_of_lt_of_le hi hW.t) (by decide) dX3_trial_406 (fun H locs hP hS => ?_)
                                      obtain ⟨Z14, eZ14⟩ : ∃ Z0, Z0 = setA Z13 5 i (nI (nr S)) := ⟨_, rfl⟩
                                      rw [← eZ14] at hP
                                      refine lv_aload_n hx hb dX3_trial_407 rfl (lv_at hl 4 rfl) ?_
                                      refine w_get cx (ci := 3) rfl iX3 (hP.pa _ _ cM_0) 6 (by decide) k_457 (v := .ref (ad 5)) rfl dX3_trial_408 ?_
                                      refine lv_iload_n hx hb dX3_trial_411 rfl (lv_at hl 5 rfl) ?_
                                      refine lv_dup2_11 hx hb dX3_trial_412 rfl rfl ?_
                                      refine w_iald cx (hP.pa _ _ (cM_A (n := 40) 4 (by decide) rfl rfl)) i rfl (Nat.lt_of_lt_of_le hi hW.t) (by decide) dX3_trial_413 ?_
                                      refine w_nrm (y := ar Z12 4 i) (by rw [eZ14, ar_ne _ _ _ _ _ (by decide), eZ13, ar_ne _ _ _ _ _ (by decide)]) ?_
                                      refine lv_iconst (v := 1) hx hb dX3_trial_414 (by decide) ?_
                                      refine lv_iadd hx hb dX3_trial_415 ?_
                                      refine m_iast (n := 40) cx hP hS 4 (by decide) rfl rfl i rfl (Nat.lt_of_lt_of_le hi hW.t) (by decide) dX3_trial_416 (fun H locs hP hS => ?_)
                                      obtain ⟨Z15, eZ15⟩ : ∃ Z0, Z0 = setA Z14 4 i ((ar Z12 4 i) + 1) := ⟨_, rfl⟩
                                      rw [← eZ15] at hP
                                      refine lv_aload_n hx hb dX3_trial_417 rfl (lv_at hl 4 rfl) ?_
                                      refine w_get cx (ci := 3) rfl iX3 (hP.pa _ _ cM_0) 10 (by decide) k_461 (v := .ref (ad 9)) rfl dX3_trial_418 ?_
                                      refine lv_iload_n hx hb dX3_trial_421 rfl (lv_at hl 5 rfl) ?_
                                      refine lv_iconst (v := 0) hx hb dX3_trial_422 (by decide) ?_
                                      refine m_iast (n := 40) cx hP hS 8 (by decide) rfl rfl i rfl (Nat.lt_of_lt_of_le hi hW.t) (by decide) dX3_trial_423 (fun H locs hP hS => ?_)
                                      obtain ⟨Z16, eZ16⟩ : ∃ Z0, Z0 = setA Z15 8 i 0 := ⟨_, rfl⟩
                                      rw [← eZ16] at hP
                                      refine lv_iload hx hb dX3_trial_424 (lv_at hl 1 rfl) ?_
                                      rw [show f_X3_trial S i k x z = (nI (nr S), Z16) from by subst eZ16; subst eZ15; subst eZ14; subst eZ13; subst eZ12; subst eZ8; subst eZ7; subst eZ6; subst eZ5; subst eZ4; subst eZ3; subst eZ2; subst eZ1; rw [f_X3_trial, if_neg c_3, if_neg c_5, if_neg c_6, if_neg c_7, if_neg c_10, if_neg c_12, if_neg c_15, if_pos c_16, if_neg c_17, if_pos c_20, if_neg c_21]]
                                      exact x_int cx hr hlk (ad' := ad) ⟨rfl, hP⟩ hS dX3_trial_426
                                  · refine lv_aload_n hx hb dX3_trial_288 rfl (lv_at hl 4 rfl) ?_
                                    refine lv_iload_n hx hb dX3_trial_289 rfl (lv_at hl 5 rfl) ?_
                                    refine w_callV (As := [.int (nI i)]) (rest := []) (st := [.int (f_X3_settledNow Z8 i)]) cx (c_X3_settledNow l G ad Z8 hWZ8 (i := i) hi_Z8) k_579 cal_yX3_settledNow (ci := 3) rfl (hP.pa _ _ cM_0) hP.pa rfl ⟨Nat.le_of_ble_eq_true rfl, Nat.le_of_ble_eq_true rfl⟩ hl.1 (Nat.le_of_ble_eq_true rfl) ⟨Nat.zero_le _, Nat.zero_le _⟩ rfl rfl dX3_trial_290 ?_
                                    refine lv_if_eq (tgt := 375) hx hb dX3_trial_293 (by decide) (fun c_22 => ?_) (fun c_22 => ?_)
                                    · refine lv_aload_n hx hb dX3_trial_375 rfl (lv_at hl 4 rfl) ?_
                                      refine w_get cx (ci := 3) rfl iX3 (hP.pa _ _ cM_0) 22 (by decide) k_473 (v := .ref (ad 20)) rfl dX3_trial_376 ?_
                                      refine lv_iload hx hb dX3_trial_379 (lv_at hl 1 rfl) ?_
                                      refine w_zald cx (hP.pa _ _ (cM_A (n := 300) 19 (by decide) rfl rfl)) (nr S) rfl (nrlt hW.r c_17) (by decide) dX3_trial_381 ?_
                                      refine w_nrm (y := ar S 19 (nr S)) (by rw [eZ8, ar_ne _ _ _ _ _ (by decide), eZ7, ar_ne _ _ _ _ _ (by decide), eZ6, ar_ne _ _ _ _ _ (by decide), eZ5, ar_ne _ _ _ _ _ (by decide), eZ4, ar_ne _ _ _ _ _ (by decide), eZ3, ar_ne _ _ _ _ _ (by decide), eZ2, ar_ne _ _ _ _ _ (by decide), eZ1, ar_setR]) ?_
                                      refine lv_if_eq (tgt := 399) hx hb dX3_trial_382 (by decide) (fun c_23 => ?_) (fun c_23 => ?_)
                                      · refine lv_aload_n hx hb dX3_trial_399 rfl (lv_at hl 4 rfl) ?_
                                        refine w_get cx (ci := 3) rfl iX3 (hP.pa _ _ cM_0) 7 (by decide) k_458 (v := .ref (ad 6)) rfl dX3_trial_400 ?_
                                        refine lv_iload_n hx hb dX3_trial_403 rfl (lv_at hl 5 rfl) ?_
                                        refine lv_iload hx hb dX3_trial_404 (lv_at hl 1 rfl) ?_
                                        refine m_iast (n := 40) cx hP hS 5 (by decide) rfl rfl i rfl (Nat.lt_of_lt_of_le hi hW.t) (by decide) dX3_trial_406 (fun H locs hP hS => ?_)
                                        obtain ⟨Z17, eZ17⟩ : ∃ Z0, Z0 = setA Z8 5 i (nI (nr S)) := ⟨_, rfl⟩
                                        rw [← eZ17] at hP
                                        have hi_Z17 : i < nt Z17 := by rw [eZ17]; exact hi_Z8
                                        have hk_Z17 : k < nt Z17 := by rw [eZ17]; exact hk_Z8
                                        refine lv_aload_n hx hb dX3_trial_407 rfl (lv_at hl 4 rfl) ?_
                                        refine w_get cx (ci := 3) rfl iX3 (hP.pa _ _ cM_0) 6 (by decide) k_457 (v := .ref (ad 5)) rfl dX3_trial_408 ?_
                                        refine lv_iload_n hx hb dX3_trial_411 rfl (lv_at hl 5 rfl) ?_
                                        refine lv_dup2_11 hx hb dX3_trial_412 rfl rfl ?_
                                        refine w_iald cx (hP.pa _ _ (cM_A (n := 40) 4 (by decide) rfl rfl)) i rfl (Nat.lt_of_lt_of_le hi hW.t) (by decide) dX3_trial_413 ?_
                                        refine w_nrm (y := ar S 4 i) (by rw [eZ17, ar_ne _ _ _ _ _ (by decide), eZ8, ar_ne _ _ _ _ _ (by decide), eZ7, ar_ne _ _ _ _ _ (by decide), eZ6, ar_ne _ _ _ _ _ (by decide), eZ5, ar_ne _ _ _ _ _ (by decide), eZ4, ar_ne _ _ _ _ _ (by decide), eZ3, ar_ne _ _ _ _ _ (by decide), eZ2, ar_ne _ _ _ _ _ (by decide), eZ1, ar_setR]) ?_
                                        refine lv_iconst (v := 1) hx hb dX3_trial_414 (by decide) ?_
                                        refine lv_iadd hx hb dX3_trial_415 ?_
                                        refine m_iast (n := 40) cx hP hS 4 (by decide) rfl rfl i rfl (Nat.lt_of_lt_of_le hi hW.t) (by decide) dX3_trial_416 (fun H locs hP hS => ?_)
                                        obtain ⟨Z18, eZ18⟩ : ∃ Z0, Z0 = setA Z17 4 i ((ar S 4 i) + 1) := ⟨_, rfl⟩
                                        rw [← eZ18] at hP
                                        have hi_Z18 : i < nt Z18 := by rw [eZ18]; exact hi_Z17
                                        have hk_Z18 : k < nt Z18 := by rw [eZ18]; exact hk_Z17
                                        refine lv_aload_n hx hb dX3_trial_417 rfl (lv_at hl 4 rfl) ?_
                                        refine w_get cx (ci := 3) rfl iX3 (hP.pa _ _ cM_0) 10 (by decide) k_461 (v := .ref (ad 9)) rfl dX3_trial_418 ?_
                                        refine lv_iload_n hx hb dX3_trial_421 rfl (lv_at hl 5 rfl) ?_
                                        refine lv_iconst (v := 0) hx hb dX3_trial_422 (by decide) ?_
                                        refine m_iast (n := 40) cx hP hS 8 (by decide) rfl rfl i rfl (Nat.lt_of_lt_of_le hi hW.t) (by decide) dX3_trial_423 (fun H locs hP hS => ?_)
                                        obtain ⟨Z19, eZ19⟩ : ∃ Z0, Z0 = setA Z18 8 i 0 := ⟨_, rfl⟩
                                        rw [← eZ19] at hP
                                        have hi_Z19 : i < nt Z19 := by rw [eZ19]; exact hi_Z18
                                        have hk_Z19 : k < nt Z19 := by rw [eZ19]; exact hk_Z18
                                        refine lv_iload hx hb dX3_trial_424 (lv_at hl 1 rfl) ?_
                                        rw [show f_X3_trial S i k x z = (nI (nr S), Z19) from by subst eZ19; subst eZ18; subst eZ17; subst eZ8; subst eZ7; subst eZ6; subst eZ5; subst eZ4; subst eZ3; subst eZ2; subst eZ1; rw [f_X3_trial, if_neg c_3, if_neg c_5, if_neg c_6, if_neg c_7, if_neg c_10, if_neg c_12, if_neg c_15, if_pos c_16, if_neg c_17, if_neg c_20, if_pos c_22, if_pos c_23]]
                                        exact x_int cx hr hlk (ad' := ad) ⟨rfl, hP⟩ hS dX3_trial_426
                                      · refine lv_aload_n hx hb dX3_trial_385 rfl (lv_at hl 4 rfl) ?_
                                        refine lv_iload hx hb dX3_trial_386 (lv_at hl 0 rfl) ?_
                                        refine w_callVW (As := [.int (ar S 5 i)]) (rest := []) (st := []) cx (c_X3_unsettle l G ad Z8 hWZ8 (WB.add (v := ar S 5 k) hBa (by rw [eZ8, nr_setA, eZ7, nr_setA, eZ6, nr_setA, eZ5, nr_setA, eZ4, nr_setA, eZ3, nr_setA, eZ2, nr_setA, eZ1, nr_setR]) (by rw [eZ8, ar_upd, eZ7, ar_diff _ _ _ _ (by decide), eZ6, ar_diff _ _ _ _ (by decide), eZ5, ar_diff _ _ _ _ (by decide), eZ4, ar_diff _ _ _ _ (by decide), eZ3, ar_diff _ _ _ _ (by decide), eZ2, ar_diff _ _ _ _ (by decide), eZ1, ar_setRf]) (hW.la hk)) (ar S 5 i)) k_603 cal_yX3_unsettle (ci := 3) rfl (hP.pa _ _ cM_0) hP hS hA rfl ⟨Nat.le_of_ble_eq_true rfl, Nat.le_of_ble_eq_true rfl⟩ hl.1 (Nat.le_of_ble_eq_true rfl) ⟨Nat.le_of_ble_eq_true rfl, Nat.le_of_ble_eq_true rfl⟩ rfl rfl dX3_trial_388 (fun ad1 H locs hX1 hP hz1 hq1 hS => ?_)
                                        rw [hX1] at hP
                                        obtain ⟨Z20, eZ20⟩ : ∃ Z0, Z0 = f_X3_unsettle Z8 (ar S 5 i) := ⟨_, rfl⟩
                                        rw [← eZ20] at hP
                                        refine lv_aload_n hx hb dX3_trial_391 rfl (lv_at hl 4 rfl) ?_
                                        refine w_get cx (ci := 3) rfl iX3 (hP.pa _ _ cM_0) 8 (by decide) k_459 (v := .ref (ad 7)) rfl dX3_trial_392 ?_
                                        refine lv_iload_n hx hb dX3_trial_395 rfl (lv_at hl 5 rfl) ?_
                                        refine w_ldc cx k_548 dX3_trial_396 ?_
                                        refine m_iast (n := 40) cx hP hS 6 (by decide) rfl rfl i rfl (Nat.lt_of_lt_of_le hi hW.t) (by decide) dX3_trial_398 (fun H locs hP hS => ?_)
                                        obtain ⟨Z21, eZ21⟩ : ∃ Z0, Z0 = setA Z20 6 i ((-1000000)) := ⟨_, rfl⟩
                                        rw [← eZ21] at hP
                                        refine lv_aload_n hx hb dX3_trial_399 rfl (lv_at hl 4 rfl) ?_
                                        refine w_get cx (ci := 3) rfl iX3 (hP.pa _ _ cM_0) 7 (by decide) k_458 (v := .ref (ad 6)) rfl dX3_trial_400 ?_
                                        refine lv_iload_n hx hb dX3_trial_403 rfl (lv_at hl 5 rfl) ?_
                                        refine lv_iload hx hb dX3_trial_404 (lv_at hl 1 rfl) ?_
                                        refine m_iast (n := 40) cx hP hS 5 (by decide) rfl rfl i rfl (Nat.lt_of_lt_of_le hi hW.t) (by decide) dX3_trial_406 (fun H locs hP hS => ?_)
                                        obtain ⟨Z22, eZ22⟩ : ∃ Z0, Z0 = setA Z21 5 i (nI (nr S)) := ⟨_, rfl⟩
                                        rw [← eZ22] at hP
                                        refine lv_aload_n hx hb dX3_trial_407 rfl (lv_at hl 4 rfl) ?_
                                        refine w_get cx (ci := 3) rfl iX3 (hP.pa _ _ cM_0) 6 (by decide) k_457 (v := .ref (ad 5)) rfl dX3_trial_408 ?_
                                        refine lv_iload_n hx hb dX3_trial_411 rfl (lv_at hl 5 rfl) ?_
                                        refine lv_dup2_11 hx hb dX3_trial_412 rfl rfl ?_
                                        refine w_iald cx (hP.pa _ _ (cM_A (n := 40) 4 (by decide) rfl rfl)) i rfl (Nat.lt_of_lt_of_le hi hW.t) (by decide) dX3_trial_413 ?_
                                        refine w_nrm (y := ar Z20 4 i) (by rw [eZ22, ar_ne _ _ _ _ _ (by decide), eZ21, ar_ne _ _ _ _ _ (by decide)]) ?_
                                        refine lv_iconst (v := 1) hx hb dX3_trial_414 (by decide) ?_
                                        refine lv_iadd hx hb dX3_trial_415 ?_
                                        refine m_iast (n := 40) cx hP hS 4 (by decide) rfl rfl i rfl (Nat.lt_of_lt_of_le hi hW.t) (by decide) dX3_trial_416 (fun H locs hP hS => ?_)
                                        obtain ⟨Z23, eZ23⟩ : ∃ Z0, Z0 = setA Z22 4 i ((ar Z20 4 i) + 1) := ⟨_, rfl⟩
                                        rw [← eZ23] at hP
                                        refine lv_aload_n hx hb dX3_trial_417 rfl (lv_at hl 4 rfl) ?_
                                        refine w_get cx (ci := 3) rfl iX3 (hP.pa _ _ cM_0) 10 (by decide) k_461 (v := .ref (ad 9)) rfl dX3_trial_418 ?_
                                        refine lv_iload_n hx hb dX3_trial_421 rfl (lv_at hl 5 rfl) ?_
                                        refine lv_iconst (v := 0) hx hb dX3_trial_422 (by decide) ?_
                                        refine m_iast (n := 40) cx hP hS 8 (by decide) rfl rfl i rfl (Nat.lt_of_lt_of_le hi hW.t) (by decide) dX3_trial_423 (fun H locs hP hS => ?_)
                                        obtain ⟨Z24, eZ24⟩ : ∃ Z0, Z0 = setA Z23 8 i 0 := ⟨_, rfl⟩
                                        rw [← eZ24] at hP
                                        refine lv_iload hx hb dX3_trial_424 (lv_at hl 1 rfl) ?_
                                        rw [show f_X3_trial S i k x z = (nI (nr S), Z24) from by subst eZ24; subst eZ23; subst eZ22; subst eZ21; subst eZ20; subst eZ8; subst eZ7; subst eZ6; subst eZ5; subst eZ4; subst eZ3; subst eZ2; subst eZ1; rw [f_X3_trial, if_neg c_3, if_neg c_5, if_neg c_6, if_neg c_7, if_neg c_10, if_neg c_12, if_neg c_15, if_pos c_16, if_neg c_17, if_neg c_20, if_pos c_22, if_neg c_23]]
                                        exact x_int cx hr hlk (ad' := ad) ⟨rfl, hP⟩ hS dX3_trial_426
                                    · refine lv_aload_n hx hb dX3_trial_296 rfl (lv_at hl 4 rfl) ?_
                                      refine lv_iload_n hx hb dX3_trial_297 rfl (lv_at hl 5 rfl) ?_
                                      refine lv_aload_n hx hb dX3_trial_298 rfl (lv_at hl 4 rfl) ?_
                                      refine w_get cx (ci := 3) rfl iX3 (hP.pa _ _ cM_0) 0 (by decide) k_451 (v := .int (sc Z8 0)) rfl dX3_trial_299 ?_
                                      refine w_nrm (y := sc S 0) (by rw [eZ8, sc_setA, eZ7, sc_setA, eZ6, sc_setA, eZ5, sc_setA, eZ4, sc_setA, eZ3, sc_setA, eZ2, sc_setA, eZ1, sc_setR]) ?_
                                      refine w_callV (As := [.int (nI i), .int (sc S 0)]) (rest := []) (st := [.int (f_X3_spanOn Z8 i (sc S 0))]) cx (c_X3_spanOn l G ad Z8 hWZ8 (i := i) hi_Z8 (sc S 0)) k_595 cal_yX3_spanOn (ci := 3) rfl (hP.pa _ _ cM_0) hP.pa rfl ⟨Nat.le_of_ble_eq_true rfl, Nat.le_of_ble_eq_true rfl⟩ hl.1 (Nat.le_of_ble_eq_true rfl) ⟨Nat.zero_le _, Nat.zero_le _⟩ rfl rfl dX3_trial_302 ?_
                                      refine lv_istore (lv' := [(9, .int (f_X3_spanOn Z8 i (sc S 0))), (8, .int (ar S 5 i)), (7, .int (nI (nr S))), (6, .int 1), (5, .int 0), (0, .ref (ad 0)), (1, .int (nI i)), (2, .int (nI k)), (3, .int x), (4, .int z)]) hx hb dX3_trial_305 hl (by decide) rfl (fun ls hl => ?_)
                                      refine lv_aload_n hx hb dX3_trial_307 rfl (lv_at hl 5 rfl) ?_
                                      refine w_get cx (ci := 3) rfl iX3 (hP.pa _ _ cM_0) 22 (by decide) k_473 (v := .ref (ad 20)) rfl dX3_trial_308 ?_
                                      refine lv_iload hx hb dX3_trial_311 (lv_at hl 2 rfl) ?_
                                      refine lv_aload_n hx hb dX3_trial_313 rfl (lv_at hl 5 rfl) ?_
                                      refine w_get cx (ci := 3) rfl iX3 (hP.pa _ _ cM_0) 19 (by decide) k_470 (v := .ref (ad 17)) rfl dX3_trial_314 ?_
                                      refine lv_iload hx hb dX3_trial_317 (lv_at hl 1 rfl) ?_
                                      refine w_iald cx (hP.pa _ _ (cM_A (n := 300) 16 (by decide) rfl rfl)) (ix (ar S 5 i)) (hW.la hi c_20).1 (Nat.lt_of_lt_of_le (hW.la hi c_20).2 hW.r) (by decide) dX3_trial_319 ?_
                                      refine w_nrm (y := ar S 16 (ix (ar S 5 i))) (by rw [eZ8, ar_ne _ _ _ _ _ (by decide), eZ7, ar_ne _ _ _ _ _ (by decide), eZ6, ar_ne _ _ _ _ _ (by decide), eZ5, ar_setA, if_pos rfl, if_neg (Nat.ne_of_lt (hW.la hi c_20).2), eZ4, ar_ne _ _ _ _ _ (by decide), eZ3, ar_ne _ _ _ _ _ (by decide), eZ2, ar_ne _ _ _ _ _ (by decide), eZ1, ar_setR]) ?_
                                      refine lv_iload hx hb dX3_trial_320 (lv_at hl 0 rfl) ?_
                                      refine lv_isub hx hb dX3_trial_322 ?_
                                      refine lv_aload_n hx hb dX3_trial_323 rfl (lv_at hl 5 rfl) ?_
                                      refine w_get cx (ci := 3) rfl iX3 (hP.pa _ _ cM_0) 19 (by decide) k_470 (v := .ref (ad 17)) rfl dX3_trial_324 ?_
                                      refine lv_iload hx hb dX3_trial_327 (lv_at hl 2 rfl) ?_
                                      refine w_iald cx (hP.pa _ _ (cM_A (n := 300) 16 (by decide) rfl rfl)) (nr S) rfl (nrlt hW.r c_17) (by decide) dX3_trial_329 ?_
                                      refine w_nrm (y := (f_X3_errorOf Z4 k) + x) (by rw [eZ8, ar_ne _ _ _ _ _ (by decide), eZ7, ar_ne _ _ _ _ _ (by decide), eZ6, ar_ne _ _ _ _ _ (by decide), eZ5, ar_same]) ?_
                                      refine lv_aload_n hx hb dX3_trial_330 rfl (lv_at hl 5 rfl) ?_
                                      refine w_get cx (ci := 3) rfl iX3 (hP.pa _ _ cM_0) 20 (by decide) k_471 (v := .ref (ad 18)) rfl dX3_trial_331 ?_
                                      refine lv_iload hx hb dX3_trial_334 (lv_at hl 2 rfl) ?_
                                      refine w_iald cx (hP.pa _ _ (cM_A (n := 300) 17 (by decide) rfl rfl)) (nr S) rfl (nrlt hW.r c_17) (by decide) dX3_trial_336 ?_
                                      refine w_nrm (y := ((f_X3_spanOn Z5 k (sc S 0)) + z) + 0) (by rw [eZ8, ar_ne _ _ _ _ _ (by decide), eZ7, ar_ne _ _ _ _ _ (by decide), eZ6, ar_same]) ?_
                                      refine lv_iadd hx hb dX3_trial_337 ?_
                                      refine lv_icmp_gt (tgt := 369) hx hb dX3_trial_338 (by decide) (fun c_24 => ?_) (fun c_24 => ?_)
                                      · refine lv_iconst (v := 1) hx hb dX3_trial_369 (by decide) ?_
                                        refine lv_goto (tgt := 374) hx hb dX3_trial_370 (by decide) ?_
                                        refine m_zast (n := 300) cx hP hS 19 (by decide) rfl rfl (nr S) rfl (nrlt hW.r c_17) (by decide) (Or.inr rfl) dX3_trial_374 (fun H locs hP hS => ?_)
                                        obtain ⟨Z25, eZ25⟩ : ∃ Z0, Z0 = setA Z8 19 (nr S) 1 := ⟨_, rfl⟩
                                        rw [← eZ25] at hP
                                        have hi_Z25 : i < nt Z25 := by rw [eZ25]; exact hi_Z8
                                        have hk_Z25 : k < nt Z25 := by rw [eZ25]; exact hk_Z8
                                        have hWZ25 : WF Z25 := by rw [eZ25]; exact hWZ8.setA (nr S) 1 (by decide) (by decide) (by decide) (by decide)
                                        refine lv_aload_n hx hb dX3_trial_375 rfl (lv_at hl 5 rfl) ?_
                                        refine w_get cx (ci := 3) rfl iX3 (hP.pa _ _ cM_0) 22 (by decide) k_473 (v := .ref (ad 20)) rfl dX3_trial_376 ?_
                                        refine lv_iload hx hb dX3_trial_379 (lv_at hl 2 rfl) ?_
                                        refine w_zald cx (hP.pa _ _ (cM_A (n := 300) 19 (by decide) rfl rfl)) (nr S) rfl (nrlt hW.r c_17) (by decide) dX3_trial_381 ?_
                                        refine w_nrm (y := 1) (by rw [eZ25, ar_same]) ?_
                                        refine lv_if_eq (tgt := 399) hx hb dX3_trial_382 (by decide) (fun c_25 => ?_) (fun c_25 => ?_)
                                        · exact absurd c_25 (by decide)
                                        · refine lv_aload_n hx hb dX3_trial_385 rfl (lv_at hl 5 rfl) ?_
                                          refine lv_iload hx hb dX3_trial_386 (lv_at hl 1 rfl) ?_
                                          refine w_callVW (As := [.int (ar S 5 i)]) (rest := []) (st := []) cx (c_X3_unsettle l G ad Z25 hWZ25 (WB.add (v := ar S 5 k) hBa (by rw [eZ25, nr_setA, eZ8, nr_setA, eZ7, nr_setA, eZ6, nr_setA, eZ5, nr_setA, eZ4, nr_setA, eZ3, nr_setA, eZ2, nr_setA, eZ1, nr_setR]) (by rw [eZ25, ar_diff _ _ _ _ (by decide), eZ8, ar_upd, eZ7, ar_diff _ _ _ _ (by decide), eZ6, ar_diff _ _ _ _ (by decide), eZ5, ar_diff _ _ _ _ (by decide), eZ4, ar_diff _ _ _ _ (by decide), eZ3, ar_diff _ _ _ _ (by decide), eZ2, ar_diff _ _ _ _ (by decide), eZ1, ar_setRf]) (hW.la hk)) (ar S 5 i)) k_603 cal_yX3_unsettle (ci := 3) rfl (hP.pa _ _ cM_0) hP hS hA rfl ⟨Nat.le_of_ble_eq_true rfl, Nat.le_of_ble_eq_true rfl⟩ hl.1 (Nat.le_of_ble_eq_true rfl) ⟨Nat.le_of_ble_eq_true rfl, Nat.le_of_ble_eq_true rfl⟩ rfl rfl dX3_trial_388 (fun ad1 H locs hX1 hP hz1 hq1 hS => ?_)
                                          rw [hX1] at hP
                                          obtain ⟨Z26, eZ26⟩ : ∃ Z0, Z0 = f_X3_unsettle Z25 (ar S 5 i) := ⟨_, rfl⟩
                                          rw [← eZ26] at hP
                                          refine lv_aload_n hx hb dX3_trial_391 rfl (lv_at hl 5 rfl) ?_
                                          refine w_get cx (ci := 3) rfl iX3 (hP.pa _ _ cM_0) 8 (by decide) k_459 (v := .ref (ad 7)) rfl dX3_trial_392 ?_
                                          refine lv_iload_n hx hb dX3_trial_395 rfl (lv_at hl 6 rfl) ?_
                                          refine w_ldc cx k_548 dX3_trial_396 ?_
                                          refine m_iast (n := 40) cx hP hS 6 (by decide) rfl rfl i rfl (Nat.lt_of_lt_of_le hi hW.t) (by decide) dX3_trial_398 (fun H locs hP hS => ?_)
                                          obtain ⟨Z27, eZ27⟩ : ∃ Z0, Z0 = setA Z26 6 i ((-1000000)) := ⟨_, rfl⟩
                                          rw [← eZ27] at hP
                                          refine lv_aload_n hx hb dX3_trial_399 rfl (lv_at hl 5 rfl) ?_
                                          refine w_get cx (ci := 3) rfl iX3 (hP.pa _ _ cM_0) 7 (by decide) k_458 (v := .ref (ad 6)) rfl dX3_trial_400 ?_
                                          refine lv_iload_n hx hb dX3_trial_403 rfl (lv_at hl 6 rfl) ?_
                                          refine lv_iload hx hb dX3_trial_404 (lv_at hl 2 rfl) ?_
                                          refine m_iast (n := 40) cx hP hS 5 (by decide) rfl rfl i rfl (Nat.lt_of_lt_of_le hi hW.t) (by decide) dX3_trial_406 (fun H locs hP hS => ?_)
                                          obtain ⟨Z28, eZ28⟩ : ∃ Z0, Z0 = setA Z27 5 i (nI (nr S)) := ⟨_, rfl⟩
                                          rw [← eZ28] at hP
                                          refine lv_aload_n hx hb dX3_trial_407 rfl (lv_at hl 5 rfl) ?_
                                          refine w_get cx (ci := 3) rfl iX3 (hP.pa _ _ cM_0) 6 (by decide) k_457 (v := .ref (ad 5)) rfl dX3_trial_408 ?_
                                          refine lv_iload_n hx hb dX3_trial_411 rfl (lv_at hl 6 rfl) ?_
                                          refine lv_dup2_11 hx hb dX3_trial_412 rfl rfl ?_
                                          refine w_iald cx (hP.pa _ _ (cM_A (n := 40) 4 (by decide) rfl rfl)) i rfl (Nat.lt_of_lt_of_le hi hW.t) (by decide) dX3_trial_413 ?_
                                          refine w_nrm (y := ar Z26 4 i) (by rw [eZ28, ar_ne _ _ _ _ _ (by decide), eZ27, ar_ne _ _ _ _ _ (by decide)]) ?_
                                          refine lv_iconst (v := 1) hx hb dX3_trial_414 (by decide) ?_
                                          refine lv_iadd hx hb dX3_trial_415 ?_
                                          refine m_iast (n := 40) cx hP hS 4 (by decide) rfl rfl i rfl (Nat.lt_of_lt_of_le hi hW.t) (by decide) dX3_trial_416 (fun H locs hP hS => ?_)
                                          obtain ⟨Z29, eZ29⟩ : ∃ Z0, Z0 = setA Z28 4 i ((ar Z26 4 i) + 1) := ⟨_, rfl⟩
                                          rw [← eZ29] at hP
                                          refine lv_aload_n hx hb dX3_trial_417 rfl (lv_at hl 5 rfl) ?_
                                          refine w_get cx (ci := 3) rfl iX3 (hP.pa _ _ cM_0) 10 (by decide) k_461 (v := .ref (ad 9)) rfl dX3_trial_418 ?_
                                          refine lv_iload_n hx hb dX3_trial_421 rfl (lv_at hl 6 rfl) ?_
                                          refine lv_iconst (v := 0) hx hb dX3_trial_422 (by decide) ?_
                                          refine m_iast (n := 40) cx hP hS 8 (by decide) rfl rfl i rfl (Nat.lt_of_lt_of_le hi hW.t) (by decide) dX3_trial_423 (fun H locs hP hS => ?_)
                                          obtain ⟨Z30, eZ30⟩ : ∃ Z0, Z0 = setA Z29 8 i 0 := ⟨_, rfl⟩
                                          rw [← eZ30] at hP
                                          refine lv_iload hx hb dX3_trial_424 (lv_at hl 2 rfl) ?_
                                          rw [show f_X3_trial S i k x z = (nI (nr S), Z30) from by subst eZ30; subst eZ29; subst eZ28; subst eZ27; subst eZ26; subst eZ25; subst eZ8; subst eZ7; subst eZ6; subst eZ5; subst eZ4; subst eZ3; subst eZ2; subst eZ1; rw [f_X3_trial, if_neg c_3, if_neg c_5, if_neg c_6, if_neg c_7, if_neg c_10, if_neg c_12, if_neg c_15, if_pos c_16, if_neg c_17, if_neg c_20, if_neg c_22, if_pos c_24]]
                                          exact x_int cx hr hlk (ad' := ad) ⟨rfl, hP⟩ hS dX3_trial_426
                                      · refine lv_aload_n hx hb dX3_trial_341 rfl (lv_at hl 5 rfl) ?_
                                        refine w_get cx (ci := 3) rfl iX3 (hP.pa _ _ cM_0) 19 (by decide) k_470 (v := .ref (ad 17)) rfl dX3_trial_342 ?_
                                        refine lv_iload hx hb dX3_trial_345 (lv_at hl 1 rfl) ?_
                                        refine w_iald cx (hP.pa _ _ (cM_A (n := 300) 16 (by decide) rfl rfl)) (ix (ar S 5 i)) (hW.la hi c_20).1 (Nat.lt_of_lt_of_le (hW.la hi c_20).2 hW.r) (by decide) dX3_trial_347 ?_
                                        refine w_nrm (y := ar S 16 (ix (ar S 5 i))) (by rw [eZ8, ar_ne _ _ _ _ _ (by decide), eZ7, ar_ne _ _ _ _ _ (by decide), eZ6, ar_ne _ _ _ _ _ (by decide), eZ5, ar_setA, if_pos rfl, if_neg (Nat.ne_of_lt (hW.la hi c_20).2), eZ4, ar_ne _ _ _ _ _ (by decide), eZ3, ar_ne _ _ _ _ _ (by decide), eZ2, ar_ne _ _ _ _ _ (by decide), eZ1, ar_setR]) ?_
                                        refine lv_iload hx hb dX3_trial_348 (lv_at hl 0 rfl) ?_
                                        refine lv_iadd hx hb dX3_trial_350 ?_
                                        refine lv_aload_n hx hb dX3_trial_351 rfl (lv_at hl 5 rfl) ?_
                                        refine w_get cx (ci := 3) rfl iX3 (hP.pa _ _ cM_0) 19 (by decide) k_470 (v := .ref (ad 17)) rfl dX3_trial_352 ?_
                                        refine lv_iload hx hb dX3_trial_355 (lv_at hl 2 rfl) ?_
                                        refine w_iald cx (hP.pa _ _ (cM_A (n := 300) 16 (by decide) rfl rfl)) (nr S) rfl (nrlt hW.r c_17) (by decide) dX3_trial_357 ?_
                                        refine w_nrm (y := (f_X3_errorOf Z4 k) + x) (by rw [eZ8, ar_ne _ _ _ _ _ (by decide), eZ7, ar_ne _ _ _ _ _ (by decide), eZ6, ar_ne _ _ _ _ _ (by decide), eZ5, ar_same]) ?_
                                        refine lv_aload_n hx hb dX3_trial_358 rfl (lv_at hl 5 rfl) ?_
                                        refine w_get cx (ci := 3) rfl iX3 (hP.pa _ _ cM_0) 20 (by decide) k_471 (v := .ref (ad 18)) rfl dX3_trial_359 ?_
                                        refine lv_iload hx hb dX3_trial_362 (lv_at hl 2 rfl) ?_
                                        refine w_iald cx (hP.pa _ _ (cM_A (n := 300) 17 (by decide) rfl rfl)) (nr S) rfl (nrlt hW.r c_17) (by decide) dX3_trial_364 ?_
                                        refine w_nrm (y := ((f_X3_spanOn Z5 k (sc S 0)) + z) + 0) (by rw [eZ8, ar_ne _ _ _ _ _ (by decide), eZ7, ar_ne _ _ _ _ _ (by decide), eZ6, ar_same]) ?_
                                        refine lv_isub hx hb dX3_trial_365 ?_
                                        refine lv_icmp_ge (tgt := 373) hx hb dX3_trial_366 (by decide) (fun c_26 => ?_) (fun c_26 => ?_)
                                        · refine lv_iconst (v := 0) hx hb dX3_trial_373 (by decide) ?_
                                          refine m_zast (n := 300) cx hP hS 19 (by decide) rfl rfl (nr S) rfl (nrlt hW.r c_17) (by decide) (Or.inl rfl) dX3_trial_374 (fun H locs hP hS => ?_)
                                          obtain ⟨Z31, eZ31⟩ : ∃ Z0, Z0 = setA Z8 19 (nr S) 0 := ⟨_, rfl⟩
                                          rw [← eZ31] at hP
                                          have hi_Z31 : i < nt Z31 := by rw [eZ31]; exact hi_Z8
                                          have hk_Z31 : k < nt Z31 := by rw [eZ31]; exact hk_Z8
                                          have hWZ31 : WF Z31 := by rw [eZ31]; exact hWZ8.setA (nr S) 0 (by decide) (by decide) (by decide) (by decide)
                                          refine lv_aload_n hx hb dX3_trial_375 rfl (lv_at hl 5 rfl) ?_
                                          refine w_get cx (ci := 3) rfl iX3 (hP.pa _ _ cM_0) 22 (by decide) k_473 (v := .ref (ad 20)) rfl dX3_trial_376 ?_
                                          refine lv_iload hx hb dX3_trial_379 (lv_at hl 2 rfl) ?_
                                          refine w_zald cx (hP.pa _ _ (cM_A (n := 300) 19 (by decide) rfl rfl)) (nr S) rfl (nrlt hW.r c_17) (by decide) dX3_trial_381 ?_
                                          refine w_nrm (y := 0) (by rw [eZ31, ar_same]) ?_
                                          refine lv_if_eq (tgt := 399) hx hb dX3_trial_382 (by decide) (fun c_27 => ?_) (fun c_27 => ?_)
                                          · refine lv_aload_n hx hb dX3_trial_399 rfl (lv_at hl 5 rfl) ?_
                                            refine w_get cx (ci := 3) rfl iX3 (hP.pa _ _ cM_0) 7 (by decide) k_458 (v := .ref (ad 6)) rfl dX3_trial_400 ?_
                                            refine lv_iload_n hx hb dX3_trial_403 rfl (lv_at hl 6 rfl) ?_
                                            refine lv_iload hx hb dX3_trial_404 (lv_at hl 2 rfl) ?_
                                            refine m_iast (n := 40) cx hP hS 5 (by decide) rfl rfl i rfl (Nat.lt_of_lt_of_le hi hW.t) (by decide) dX3_trial_406 (fun H locs hP hS => ?_)
                                            obtain ⟨Z32, eZ32⟩ : ∃ Z0, Z0 = setA Z31 5 i (nI (nr S)) := ⟨_, rfl⟩
                                            rw [← eZ32] at hP
                                            have hi_Z32 : i < nt Z32 := by rw [eZ32]; exact hi_Z31
                                            have hk_Z32 : k < nt Z32 := by rw [eZ32]; exact hk_Z31
                                            refine lv_aload_n hx hb dX3_trial_407 rfl (lv_at hl 5 rfl) ?_
                                            refine w_get cx (ci := 3) rfl iX3 (hP.pa _ _ cM_0) 6 (by decide) k_457 (v := .ref (ad 5)) rfl dX3_trial_408 ?_
                                            refine lv_iload_n hx hb dX3_trial_411 rfl (lv_at hl 6 rfl) ?_
                                            refine lv_dup2_11 hx hb dX3_trial_412 rfl rfl ?_
                                            refine w_iald cx (hP.pa _ _ (cM_A (n := 40) 4 (by decide) rfl rfl)) i rfl (Nat.lt_of_lt_of_le hi hW.t) (by decide) dX3_trial_413 ?_
                                            refine w_nrm (y := ar S 4 i) (by rw [eZ32, ar_ne _ _ _ _ _ (by decide), eZ31, ar_ne _ _ _ _ _ (by decide), eZ8, ar_ne _ _ _ _ _ (by decide), eZ7, ar_ne _ _ _ _ _ (by decide), eZ6, ar_ne _ _ _ _ _ (by decide), eZ5, ar_ne _ _ _ _ _ (by decide), eZ4, ar_ne _ _ _ _ _ (by decide), eZ3, ar_ne _ _ _ _ _ (by decide), eZ2, ar_ne _ _ _ _ _ (by decide), eZ1, ar_setR]) ?_
                                            refine lv_iconst (v := 1) hx hb dX3_trial_414 (by decide) ?_
                                            refine lv_iadd hx hb dX3_trial_415 ?_
                                            refine m_iast (n := 40) cx hP hS 4 (by decide) rfl rfl i rfl (Nat.lt_of_lt_of_le hi hW.t) (by decide) dX3_trial_416 (fun H locs hP hS => ?_)
                                            obtain ⟨Z33, eZ33⟩ : ∃ Z0, Z0 = setA Z32 4 i ((ar S 4 i) + 1) := ⟨_, rfl⟩
                                            rw [← eZ33] at hP
                                            have hi_Z33 : i < nt Z33 := by rw [eZ33]; exact hi_Z32
                                            have hk_Z33 : k < nt Z33 := by rw [eZ33]; exact hk_Z32
                                            refine lv_aload_n hx hb dX3_trial_417 rfl (lv_at hl 5 rfl) ?_
                                            refine w_get cx (ci := 3) rfl iX3 (hP.pa _ _ cM_0) 10 (by decide) k_461 (v := .ref (ad 9)) rfl dX3_trial_418 ?_
                                            refine lv_iload_n hx hb dX3_trial_421 rfl (lv_at hl 6 rfl) ?_
                                            refine lv_iconst (v := 0) hx hb dX3_trial_422 (by decide) ?_
                                            refine m_iast (n := 40) cx hP hS 8 (by decide) rfl rfl i rfl (Nat.lt_of_lt_of_le hi hW.t) (by decide) dX3_trial_423 (fun H locs hP hS => ?_)
                                            obtain ⟨Z34, eZ34⟩ : ∃ Z0, Z0 = setA Z33 8 i 0 := ⟨_, rfl⟩
                                            rw [← eZ34] at hP
                                            have hi_Z34 : i < nt Z34 := by rw [eZ34]; exact hi_Z33
                                            have hk_Z34 : k < nt Z34 := by rw [eZ34]; exact hk_Z33
                                            refine lv_iload hx hb dX3_trial_424 (lv_at hl 2 rfl) ?_
                                            rw [show f_X3_trial S i k x z = (nI (nr S), Z34) from by subst eZ34; subst eZ33; subst eZ32; subst eZ31; subst eZ8; subst eZ7; subst eZ6; subst eZ5; subst eZ4; subst eZ3; subst eZ2; subst eZ1; rw [f_X3_trial, if_neg c_3, if_neg c_5, if_neg c_6, if_neg c_7, if_neg c_10, if_neg c_12, if_neg c_15, if_pos c_16, if_neg c_17, if_neg c_20, if_neg c_22, if_neg c_24, if_pos c_26]]
                                            exact x_int cx hr hlk (ad' := ad) ⟨rfl, hP⟩ hS dX3_trial_426
                                          · exact absurd (by decide) c_27
                                        · refine lv_iconst (v := 1) hx hb dX3_trial_369 (by decide) ?_
                                          refine lv_goto (tgt := 374) hx hb dX3_trial_370 (by decide) ?_
                                          refine m_zast (n := 300) cx hP hS 19 (by decide) rfl rfl (nr S) rfl (nrlt hW.r c_17) (by decide) (Or.inr rfl) dX3_trial_374 (fun H locs hP hS => ?_)
                                          obtain ⟨Z35, eZ35⟩ : ∃ Z0, Z0 = setA Z8 19 (nr S) 1 := ⟨_, rfl⟩
                                          rw [← eZ35] at hP
                                          have hi_Z35 : i < nt Z35 := by rw [eZ35]; exact hi_Z8
                                          have hk_Z35 : k < nt Z35 := by rw [eZ35]; exact hk_Z8
                                          have hWZ35 : WF Z35 := by rw [eZ35]; exact hWZ8.setA (nr S) 1 (by decide) (by decide) (by decide) (by decide)
                                          refine lv_aload_n hx hb dX3_trial_375 rfl (lv_at hl 5 rfl) ?_
                                          refine w_get cx (ci := 3) rfl iX3 (hP.pa _ _ cM_0) 22 (by decide) k_473 (v := .ref (ad 20)) rfl dX3_trial_376 ?_
                                          refine lv_iload hx hb dX3_trial_379 (lv_at hl 2 rfl) ?_
                                          refine w_zald cx (hP.pa _ _ (cM_A (n := 300) 19 (by decide) rfl rfl)) (nr S) rfl (nrlt hW.r c_17) (by decide) dX3_trial_381 ?_
                                          refine w_nrm (y := 1) (by rw [eZ35, ar_same]) ?_
                                          refine lv_if_eq (tgt := 399) hx hb dX3_trial_382 (by decide) (fun c_28 => ?_) (fun c_28 => ?_)
                                          · exact absurd c_28 (by decide)
                                          · refine lv_aload_n hx hb dX3_trial_385 rfl (lv_at hl 5 rfl) ?_
                                            refine lv_iload hx hb dX3_trial_386 (lv_at hl 1 rfl) ?_
                                            refine w_callVW (As := [.int (ar S 5 i)]) (rest := []) (st := []) cx (c_X3_unsettle l G ad Z35 hWZ35 (WB.add (v := ar S 5 k) hBa (by rw [eZ35, nr_setA, eZ8, nr_setA, eZ7, nr_setA, eZ6, nr_setA, eZ5, nr_setA, eZ4, nr_setA, eZ3, nr_setA, eZ2, nr_setA, eZ1, nr_setR]) (by rw [eZ35, ar_diff _ _ _ _ (by decide), eZ8, ar_upd, eZ7, ar_diff _ _ _ _ (by decide), eZ6, ar_diff _ _ _ _ (by decide), eZ5, ar_diff _ _ _ _ (by decide), eZ4, ar_diff _ _ _ _ (by decide), eZ3, ar_diff _ _ _ _ (by decide), eZ2, ar_diff _ _ _ _ (by decide), eZ1, ar_setRf]) (hW.la hk)) (ar S 5 i)) k_603 cal_yX3_unsettle (ci := 3) rfl (hP.pa _ _ cM_0) hP hS hA rfl ⟨Nat.le_of_ble_eq_true rfl, Nat.le_of_ble_eq_true rfl⟩ hl.1 (Nat.le_of_ble_eq_true rfl) ⟨Nat.le_of_ble_eq_true rfl, Nat.le_of_ble_eq_true rfl⟩ rfl rfl dX3_trial_388 (fun ad1 H locs hX1 hP hz1 hq1 hS => ?_)
                                            rw [hX1] at hP
                                            obtain ⟨Z36, eZ36⟩ : ∃ Z0, Z0 = f_X3_unsettle Z35 (ar S 5 i) := ⟨_, rfl⟩
                                            rw [← eZ36] at hP
                                            refine lv_aload_n hx hb dX3_trial_391 rfl (lv_at hl 5 rfl) ?_
                                            refine w_get cx (ci := 3) rfl iX3 (hP.pa _ _ cM_0) 8 (by decide) k_459 (v := .ref (ad 7)) rfl dX3_trial_392 ?_
                                            refine lv_iload_n hx hb dX3_trial_395 rfl (lv_at hl 6 rfl) ?_
                                            refine w_ldc cx k_548 dX3_trial_396 ?_
                                            refine m_iast (n := 40) cx hP hS 6 (by decide) rfl rfl i rfl (Nat.lt_of_lt_of_le hi hW.t) (by decide) dX3_trial_398 (fun H locs hP hS => ?_)
                                            obtain ⟨Z37, eZ37⟩ : ∃ Z0, Z0 = setA Z36 6 i ((-1000000)) := ⟨_, rfl⟩
                                            rw [← eZ37] at hP
                                            refine lv_aload_n hx hb dX3_trial_399 rfl (lv_at hl 5 rfl) ?_
                                            refine w_get cx (ci := 3) rfl iX3 (hP.pa _ _ cM_0) 7 (by decide) k_458 (v := .ref (ad 6)) rfl dX3_trial_400 ?_
                                            refine lv_iload_n hx hb dX3_trial_403 rfl (lv_at hl 6 rfl) ?_
                                            refine lv_iload hx hb dX3_trial_404 (lv_at hl 2 rfl) ?_
                                            refine m_iast (n := 40) cx hP hS 5 (by decide) rfl rfl i rfl (Nat.lt_of_lt_of_le hi hW.t) (by decide) dX3_trial_406 (fun H locs hP hS => ?_)
                                            obtain ⟨Z38, eZ38⟩ : ∃ Z0, Z0 = setA Z37 5 i (nI (nr S)) := ⟨_, rfl⟩
                                            rw [← eZ38] at hP
                                            refine lv_aload_n hx hb dX3_trial_407 rfl (lv_at hl 5 rfl) ?_
                                            refine w_get cx (ci := 3) rfl iX3 (hP.pa _ _ cM_0) 6 (by decide) k_457 (v := .ref (ad 5)) rfl dX3_trial_408 ?_
                                            refine lv_iload_n hx hb dX3_trial_411 rfl (lv_at hl 6 rfl) ?_
                                            refine lv_dup2_11 hx hb dX3_trial_412 rfl rfl ?_
                                            refine w_iald cx (hP.pa _ _ (cM_A (n := 40) 4 (by decide) rfl rfl)) i rfl (Nat.lt_of_lt_of_le hi hW.t) (by decide) dX3_trial_413 ?_
                                            refine w_nrm (y := ar Z36 4 i) (by rw [eZ38, ar_ne _ _ _ _ _ (by decide), eZ37, ar_ne _ _ _ _ _ (by decide)]) ?_
                                            refine lv_iconst (v := 1) hx hb dX3_trial_414 (by decide) ?_
                                            refine lv_iadd hx hb dX3_trial_415 ?_
                                            refine m_iast (n := 40) cx hP hS 4 (by decide) rfl rfl i rfl (Nat.lt_of_lt_of_le hi hW.t) (by decide) dX3_trial_416 (fun H locs hP hS => ?_)
                                            obtain ⟨Z39, eZ39⟩ : ∃ Z0, Z0 = setA Z38 4 i ((ar Z36 4 i) + 1) := ⟨_, rfl⟩
                                            rw [← eZ39] at hP
                                            refine lv_aload_n hx hb dX3_trial_417 rfl (lv_at hl 5 rfl) ?_
                                            refine w_get cx (ci := 3) rfl iX3 (hP.pa _ _ cM_0) 10 (by decide) k_461 (v := .ref (ad 9)) rfl dX3_trial_418 ?_
                                            refine lv_iload_n hx hb dX3_trial_421 rfl (lv_at hl 6 rfl) ?_
                                            refine lv_iconst (v := 0) hx hb dX3_trial_422 (by decide) ?_
                                            refine m_iast (n := 40) cx hP hS 8 (by decide) rfl rfl i rfl (Nat.lt_of_lt_of_le hi hW.t) (by decide) dX3_trial_423 (fun H locs hP hS => ?_)
                                            obtain ⟨Z40, eZ40⟩ : ∃ Z0, Z0 = setA Z39 8 i 0 := ⟨_, rfl⟩
                                            rw [← eZ40] at hP
                                            refine lv_iload hx hb dX3_trial_424 (lv_at hl 2 rfl) ?_
                                            rw [show f_X3_trial S i k x z = (nI (nr S), Z40) from by subst eZ40; subst eZ39; subst eZ38; subst eZ37; subst eZ36; subst eZ35; subst eZ8; subst eZ7; subst eZ6; subst eZ5; subst eZ4; subst eZ3; subst eZ2; subst eZ1; rw [f_X3_trial, if_neg c_3, if_neg c_5, if_neg c_6, if_neg c_7, if_neg c_10, if_neg c_12, if_neg c_15, if_pos c_16, if_neg c_17, if_neg c_20, if_neg c_22, if_neg c_24, if_neg c_26]]
                                            exact x_int cx hr hlk (ad' := ad) ⟨rfl, hP⟩ hS dX3_trial_426
                                · exact absurd (by decide) c_19
                              · exact absurd (by decide) c_18
                            · refine lv_bipush (v := -4) hx hb dX3_trial_145 (by decide) ?_
                              rw [show f_X3_trial S i k x z = ((-4), S) from by rw [f_X3_trial, if_neg c_3, if_neg c_5, if_neg c_6, if_neg c_7, if_neg c_10, if_neg c_12, if_neg c_15, if_pos c_16, if_pos c_17]]
                              exact x_int cx hr hlk (ad' := ad) ⟨rfl, hP⟩ hS dX3_trial_147
                          · refine lv_bipush (v := -3) hx hb dX3_trial_132 (by decide) ?_
                            rw [show f_X3_trial S i k x z = ((-3), S) from by rw [f_X3_trial, if_neg c_3, if_neg c_5, if_neg c_6, if_neg c_7, if_neg c_10, if_neg c_12, if_neg c_15, if_neg c_16]]
                            exact x_int cx hr hlk (ad' := ad) ⟨rfl, hP⟩ hS dX3_trial_134
                · exact absurd (by decide) c_9
            · refine lv_bipush (v := -2) hx hb dX3_trial_62 (by decide) ?_
              rw [show f_X3_trial S i k x z = ((-2), S) from by rw [f_X3_trial, if_neg c_3, if_neg c_5, if_pos c_6]]
              exact x_int cx hr hlk (ad' := ad) ⟨rfl, hP⟩ hS dX3_trial_64
      · refine lv_iconst (v := 1) hx hb dX3_trial_28 (by decide) ?_
        refine lv_goto (tgt := 33) hx hb dX3_trial_29 (by decide) ?_
        refine lv_istore (lv' := [(5, .int 1), (0, .ref (ad 0)), (1, .int (nI i)), (2, .int (nI k)), (3, .int x), (4, .int z)]) hx hb dX3_trial_33 hl (by decide) rfl (fun ls hl => ?_)
        refine lv_iload hx hb dX3_trial_35 (lv_at hl 0 rfl) ?_
        refine lv_if_ne (tgt := 51) hx hb dX3_trial_37 (by decide) (fun c_29 => ?_) (fun c_29 => ?_)
        · refine lv_iload hx hb dX3_trial_51 (lv_at hl 5 rfl) ?_
          refine lv_iconst (v := 0) hx hb dX3_trial_53 (by decide) ?_
          refine w_ldc cx k_562 dX3_trial_54 ?_
          refine w_callS (As := [.int z, .int 0, .int 100000]) (rest := []) (st := [.int (f_X3_in z 0 100000)]) cx (c_X3_in l G ad _ z 0 100000) k_541 cal_yX3_in hP.pa rfl ⟨Nat.le_of_ble_eq_true rfl, Nat.le_of_ble_eq_true rfl⟩ hl.1 (Nat.le_of_ble_eq_true rfl) ⟨Nat.zero_le _, Nat.zero_le _⟩ rfl rfl dX3_trial_56 ?_
          refine lv_if_ne (tgt := 65) hx hb dX3_trial_59 (by decide) (fun c_30 => ?_) (fun c_30 => ?_)
          · refine lv_aload_n hx hb dX3_trial_65 rfl (lv_at hl 1 rfl) ?_
            refine w_get cx (ci := 3) rfl iX3 (hP.pa _ _ cM_0) 2 (by decide) k_453 (v := .ref (ad 1)) rfl dX3_trial_66 ?_
            refine lv_iload_n hx hb dX3_trial_69 rfl (lv_at hl 2 rfl) ?_
            refine w_iald cx (hP.pa _ _ (cM_A (n := 40) 0 (by decide) rfl rfl)) i rfl (Nat.lt_of_lt_of_le hi hW.t) (by decide) dX3_trial_70 ?_
            refine lv_if_eq (tgt := 108) hx hb dX3_trial_71 (by decide) (fun c_31 => ?_) (fun c_31 => ?_)
            · refine lv_iconst (v := 0) hx hb dX3_trial_108 (by decide) ?_
              refine lv_istore (lv' := [(6, .int 0), (5, .int 1), (0, .ref (ad 0)), (1, .int (nI i)), (2, .int (nI k)), (3, .int x), (4, .int z)]) hx hb dX3_trial_109 hl (by decide) rfl (fun ls hl => ?_)
              refine lv_iload hx hb dX3_trial_111 (lv_at hl 0 rfl) ?_
              refine lv_if_eq (tgt := 132) hx hb dX3_trial_113 (by decide) (fun c_32 => ?_) (fun c_32 => ?_)
              · refine lv_bipush (v := -3) hx hb dX3_trial_132 (by decide) ?_
                rw [show f_X3_trial S i k x z = ((-3), S) from by rw [f_X3_trial, if_pos c_3, if_neg c_30, if_pos c_31]]
                exact x_int cx hr hlk (ad' := ad) ⟨rfl, hP⟩ hS dX3_trial_134
              · exact absurd (by decide) c_32
            · refine lv_iload hx hb dX3_trial_74 (lv_at hl 0 rfl) ?_
              refine lv_if_eq (tgt := 89) hx hb dX3_trial_76 (by decide) (fun c_33 => ?_) (fun c_33 => ?_)
              · exact absurd c_33 (by decide)
              · refine lv_aload_n hx hb dX3_trial_79 rfl (lv_at hl 1 rfl) ?_
                refine w_get cx (ci := 3) rfl iX3 (hP.pa _ _ cM_0) 10 (by decide) k_461 (v := .ref (ad 9)) rfl dX3_trial_80 ?_
                refine lv_iload_n hx hb dX3_trial_83 rfl (lv_at hl 2 rfl) ?_
                refine w_iald cx (hP.pa _ _ (cM_A (n := 40) 8 (by decide) rfl rfl)) i rfl (Nat.lt_of_lt_of_le hi hW.t) (by decide) dX3_trial_84 ?_
                refine lv_iconst (v := 3) hx hb dX3_trial_85 (by decide) ?_
                refine lv_icmp_ne (tgt := 108) hx hb dX3_trial_86 (by decide) (fun c_34 => ?_) (fun c_34 => ?_)
                · refine lv_iconst (v := 0) hx hb dX3_trial_108 (by decide) ?_
                  refine lv_istore (lv' := [(6, .int 0), (5, .int 1), (0, .ref (ad 0)), (1, .int (nI i)), (2, .int (nI k)), (3, .int x), (4, .int z)]) hx hb dX3_trial_109 hl (by decide) rfl (fun ls hl => ?_)
                  refine lv_iload hx hb dX3_trial_111 (lv_at hl 0 rfl) ?_
                  refine lv_if_eq (tgt := 132) hx hb dX3_trial_113 (by decide) (fun c_35 => ?_) (fun c_35 => ?_)
                  · refine lv_bipush (v := -3) hx hb dX3_trial_132 (by decide) ?_
                    rw [show f_X3_trial S i k x z = ((-3), S) from by rw [f_X3_trial, if_pos c_3, if_neg c_30, if_neg c_31, if_neg c_34]]
                    exact x_int cx hr hlk (ad' := ad) ⟨rfl, hP⟩ hS dX3_trial_134
                  · exact absurd (by decide) c_35
                · refine lv_iload_n hx hb dX3_trial_89 rfl (lv_at hl 3 rfl) ?_
                  refine lv_iload_n hx hb dX3_trial_90 rfl (lv_at hl 2 rfl) ?_
                  refine lv_icmp_eq (tgt := 108) hx hb dX3_trial_91 (by decide) (fun c_36 => ?_) (fun c_36 => ?_)
                  · refine lv_iconst (v := 0) hx hb dX3_trial_108 (by decide) ?_
                    refine lv_istore (lv' := [(6, .int 0), (5, .int 1), (0, .ref (ad 0)), (1, .int (nI i)), (2, .int (nI k)), (3, .int x), (4, .int z)]) hx hb dX3_trial_109 hl (by decide) rfl (fun ls hl => ?_)
                    refine lv_iload hx hb dX3_trial_111 (lv_at hl 0 rfl) ?_
                    refine lv_if_eq (tgt := 132) hx hb dX3_trial_113 (by decide) (fun c_37 => ?_) (fun c_37 => ?_)
                    · refine lv_bipush (v := -3) hx hb dX3_trial_132 (by decide) ?_
                      rw [show f_X3_trial S i k x z = ((-3), S) from by rw [f_X3_trial, if_pos c_3, if_neg c_30, if_neg c_31, if_pos c_34, if_pos c_36]]
                      exact x_int cx hr hlk (ad' := ad) ⟨rfl, hP⟩ hS dX3_trial_134
                    · exact absurd (by decide) c_37
                  · refine lv_aload_n hx hb dX3_trial_94 rfl (lv_at hl 1 rfl) ?_
                    refine w_get cx (ci := 3) rfl iX3 (hP.pa _ _ cM_0) 2 (by decide) k_453 (v := .ref (ad 1)) rfl dX3_trial_95 ?_
                    refine lv_iload_n hx hb dX3_trial_98 rfl (lv_at hl 3 rfl) ?_
                    refine w_iald cx (hP.pa _ _ (cM_A (n := 40) 0 (by decide) rfl rfl)) k rfl (Nat.lt_of_lt_of_le hk hW.t) (by decide) dX3_trial_99 ?_
                    refine lv_iconst (v := 1) hx hb dX3_trial_100 (by decide) ?_
                    refine lv_icmp_gt (tgt := 108) hx hb dX3_trial_101 (by decide) (fun c_38 => ?_) (fun c_38 => ?_)
                    · refine lv_iconst (v := 0) hx hb dX3_trial_108 (by decide) ?_
                      refine lv_istore (lv' := [(6, .int 0), (5, .int 1), (0, .ref (ad 0)), (1, .int (nI i)), (2, .int (nI k)), (3, .int x), (4, .int z)]) hx hb dX3_trial_109 hl (by decide) rfl (fun ls hl => ?_)
                      refine lv_iload hx hb dX3_trial_111 (lv_at hl 0 rfl) ?_
                      refine lv_if_eq (tgt := 132) hx hb dX3_trial_113 (by decide) (fun c_39 => ?_) (fun c_39 => ?_)
                      · refine lv_bipush (v := -3) hx hb dX3_trial_132 (by decide) ?_
                        rw [show f_X3_trial S i k x z = ((-3), S) from by rw [f_X3_trial, if_pos c_3, if_neg c_30, if_neg c_31, if_pos c_34, if_neg c_36, if_pos c_38]]
                        exact x_int cx hr hlk (ad' := ad) ⟨rfl, hP⟩ hS dX3_trial_134
                      · exact absurd (by decide) c_39
                    · refine lv_iconst (v := 1) hx hb dX3_trial_104 (by decide) ?_
                      refine lv_goto (tgt := 109) hx hb dX3_trial_105 (by decide) ?_
                      refine lv_istore (lv' := [(6, .int 1), (5, .int 1), (0, .ref (ad 0)), (1, .int (nI i)), (2, .int (nI k)), (3, .int x), (4, .int z)]) hx hb dX3_trial_109 hl (by decide) rfl (fun ls hl => ?_)
                      refine lv_iload hx hb dX3_trial_111 (lv_at hl 0 rfl) ?_
                      refine lv_if_eq (tgt := 132) hx hb dX3_trial_113 (by decide) (fun c_40 => ?_) (fun c_40 => ?_)
                      · exact absurd c_40 (by decide)
                      · refine lv_aload_n hx hb dX3_trial_116 rfl (lv_at hl 2 rfl) ?_
                        refine lv_iload_n hx hb dX3_trial_117 rfl (lv_at hl 4 rfl) ?_
                        refine w_callV (As := [.int (nI k)]) (rest := []) (st := [.int (f_X3_settledNow S k)]) cx (c_X3_settledNow l G ad S hW (i := k) hk) k_579 cal_yX3_settledNow (ci := 3) rfl (hP.pa _ _ cM_0) hP.pa rfl ⟨Nat.le_of_ble_eq_true rfl, Nat.le_of_ble_eq_true rfl⟩ hl.1 (Nat.le_of_ble_eq_true rfl) ⟨Nat.zero_le _, Nat.zero_le _⟩ rfl rfl dX3_trial_118 ?_
                        refine lv_if_eq (tgt := 132) hx hb dX3_trial_121 (by decide) (fun c_41 => ?_) (fun c_41 => ?_)
                        · refine lv_bipush (v := -3) hx hb dX3_trial_132 (by decide) ?_
                          rw [show f_X3_trial S i k x z = ((-3), S) from by rw [f_X3_trial, if_pos c_3, if_neg c_30, if_neg c_31, if_pos c_34, if_neg c_36, if_neg c_38, if_pos c_41]]
                          exact x_int cx hr hlk (ad' := ad) ⟨rfl, hP⟩ hS dX3_trial_134
                        · refine lv_aload_n hx hb dX3_trial_124 rfl (lv_at hl 2 rfl) ?_
                          refine lv_iload_n hx hb dX3_trial_125 rfl (lv_at hl 4 rfl) ?_
                          refine w_callV (As := [.int (nI k)]) (rest := []) (st := [.int (f_X3_dueNow S k)]) cx (c_X3_dueNow l G ad S hW (i := k) hk) k_583 cal_yX3_dueNow (ci := 3) rfl (hP.pa _ _ cM_0) hP.pa rfl ⟨Nat.le_of_ble_eq_true rfl, Nat.le_of_ble_eq_true rfl⟩ hl.1 (Nat.le_of_ble_eq_true rfl) ⟨Nat.zero_le _, Nat.zero_le _⟩ rfl rfl dX3_trial_126 ?_
                          refine lv_if_eq (tgt := 135) hx hb dX3_trial_129 (by decide) (fun c_42 => ?_) (fun c_42 => ?_)
                          · refine lv_aload_n hx hb dX3_trial_135 rfl (lv_at hl 2 rfl) ?_
                            refine w_get cx (ci := 3) rfl iX3 (hP.pa _ _ cM_0) 15 (by decide) k_466 (v := .int (nI (nr S))) rfl dX3_trial_136 ?_
                            refine lv_sipush (v := 300) hx hb dX3_trial_139 (by decide) ?_
                            refine lv_icmp_ne (tgt := 148) hx hb dX3_trial_142 (by decide) (fun c_43 => ?_) (fun c_43 => ?_)
                            · refine lv_aload_n hx hb dX3_trial_148 rfl (lv_at hl 2 rfl) ?_
                              refine w_get cx (ci := 3) rfl iX3 (hP.pa _ _ cM_0) 15 (by decide) k_466 (v := .int (nI (nr S))) rfl dX3_trial_149 ?_
                              refine lv_istore (lv' := [(7, .int (nI (nr S))), (6, .int 1), (5, .int 1), (0, .ref (ad 0)), (1, .int (nI i)), (2, .int (nI k)), (3, .int x), (4, .int z)]) hx hb dX3_trial_152 hl (by decide) rfl (fun ls hl => ?_)
                              refine lv_aload_n hx hb dX3_trial_154 rfl (lv_at hl 3 rfl) ?_
                              refine lv_dup hx hb dX3_trial_155 rfl ?_
                              refine w_get cx (ci := 3) rfl iX3 (hP.pa _ _ cM_0) 15 (by decide) k_466 (v := .int (nI (nr S))) rfl dX3_trial_156 ?_
                              refine lv_iconst (v := 1) hx hb dX3_trial_159 (by decide) ?_
                              refine lv_iadd hx hb dX3_trial_160 ?_
                              refine w_nrm (y := nI (nr S + 1)) (nI_1 _) ?_
                              refine m_put cx (setR S (nr S + 1)) hP hS 15 (by decide) k_466 rfl rfl (by decide) rfl (fun _ => rfl) rfl dX3_trial_161 (fun H locs hP hS => ?_)
                              obtain ⟨Z41, eZ41⟩ : ∃ Z0, Z0 = setR S (nr S + 1) := ⟨_, rfl⟩
                              rw [← eZ41] at hP
                              have hi_Z41 : i < nt Z41 := by rw [eZ41]; exact hi
                              have hk_Z41 : k < nt Z41 := by rw [eZ41]; exact hk
                              have hWZ41 : WF Z41 := by rw [eZ41]; exact hW.inc (nrlt hW.r c_43)
                              refine lv_aload_n hx hb dX3_trial_164 rfl (lv_at hl 3 rfl) ?_
                              refine w_get cx (ci := 3) rfl iX3 (hP.pa _ _ cM_0) 16 (by decide) k_467 (v := .ref (ad 14)) rfl dX3_trial_165 ?_
                              refine lv_iload hx hb dX3_trial_168 (lv_at hl 0 rfl) ?_
                              refine lv_iload_n hx hb dX3_trial_170 rfl (lv_at hl 4 rfl) ?_
                              refine m_iast (n := 300) cx hP hS 13 (by decide) rfl rfl (nr S) rfl (nrlt hW.r c_43) (by decide) dX3_trial_171 (fun H locs hP hS => ?_)
                              obtain ⟨Z42, eZ42⟩ : ∃ Z0, Z0 = setA Z41 13 (nr S) (nI i) := ⟨_, rfl⟩
                              rw [← eZ42] at hP
                              have hi_Z42 : i < nt Z42 := by rw [eZ42]; exact hi_Z41
                              have hk_Z42 : k < nt Z42 := by rw [eZ42]; exact hk_Z41
                              have hWZ42 : WF Z42 := by rw [eZ42]; exact hWZ41.setA (nr S) (nI i) (by decide) (by decide) (by decide) (by decide)
                              refine lv_aload_n hx hb dX3_trial_172 rfl (lv_at hl 3 rfl) ?_
                              refine w_get cx (ci := 3) rfl iX3 (hP.pa _ _ cM_0) 17 (by decide) k_468 (v := .ref (ad 15)) rfl dX3_trial_173 ?_
                              refine lv_iload hx hb dX3_trial_176 (lv_at hl 0 rfl) ?_
                              refine lv_iload_n hx hb dX3_trial_178 rfl (lv_at hl 5 rfl) ?_
                              refine m_iast (n := 300) cx hP hS 14 (by decide) rfl rfl (nr S) rfl (nrlt hW.r c_43) (by decide) dX3_trial_179 (fun H locs hP hS => ?_)
                              obtain ⟨Z43, eZ43⟩ : ∃ Z0, Z0 = setA Z42 14 (nr S) (nI k) := ⟨_, rfl⟩
                              rw [← eZ43] at hP
                              have hi_Z43 : i < nt Z43 := by rw [eZ43]; exact hi_Z42
                              have hk_Z43 : k < nt Z43 := by rw [eZ43]; exact hk_Z42
                              have hWZ43 : WF Z43 := by rw [eZ43]; exact hWZ42.setA (nr S) (nI k) (by decide) (by decide) (by decide) (by decide)
                              refine lv_aload_n hx hb dX3_trial_180 rfl (lv_at hl 3 rfl) ?_
                              refine w_get cx (ci := 3) rfl iX3 (hP.pa _ _ cM_0) 18 (by decide) k_469 (v := .ref (ad 16)) rfl dX3_trial_181 ?_
                              refine lv_iload hx hb dX3_trial_184 (lv_at hl 0 rfl) ?_
                              refine lv_aload_n hx hb dX3_trial_186 rfl (lv_at hl 3 rfl) ?_
                              refine w_get cx (ci := 3) rfl iX3 (hP.pa _ _ cM_0) 0 (by decide) k_451 (v := .int (sc Z43 0)) rfl dX3_trial_187 ?_
                              refine w_nrm (y := sc S 0) (by rw [eZ43, sc_setA, eZ42, sc_setA, eZ41, sc_setR]) ?_
                              refine m_iast (n := 300) cx hP hS 15 (by decide) rfl rfl (nr S) rfl (nrlt hW.r c_43) (by decide) dX3_trial_190 (fun H locs hP hS => ?_)
                              obtain ⟨Z44, eZ44⟩ : ∃ Z0, Z0 = setA Z43 15 (nr S) (sc S 0) := ⟨_, rfl⟩
                              rw [← eZ44] at hP
                              have hi_Z44 : i < nt Z44 := by rw [eZ44]; exact hi_Z43
                              have hk_Z44 : k < nt Z44 := by rw [eZ44]; exact hk_Z43
                              have hWZ44 : WF Z44 := by rw [eZ44]; exact hWZ43.setA (nr S) (sc S 0) (by decide) (by decide) (by decide) (by decide)
                              refine lv_aload_n hx hb dX3_trial_191 rfl (lv_at hl 3 rfl) ?_
                              refine w_get cx (ci := 3) rfl iX3 (hP.pa _ _ cM_0) 19 (by decide) k_470 (v := .ref (ad 17)) rfl dX3_trial_192 ?_
                              refine lv_iload hx hb dX3_trial_195 (lv_at hl 0 rfl) ?_
                              refine lv_aload_n hx hb dX3_trial_197 rfl (lv_at hl 3 rfl) ?_
                              refine lv_iload_n hx hb dX3_trial_198 rfl (lv_at hl 5 rfl) ?_
                              refine w_callV (As := [.int (nI k)]) (rest := [.int (nI (nr S)), .ref (ad 17)]) (st := [.int (f_X3_errorOf Z44 k), .int (nI (nr S)), .ref (ad 17)]) cx (c_X3_errorOf l G ad Z44 hWZ44 (i := k) hk_Z44) k_587 cal_yX3_errorOf (ci := 3) rfl (hP.pa _ _ cM_0) hP.pa rfl ⟨Nat.le_of_ble_eq_true rfl, Nat.le_of_ble_eq_true rfl⟩ hl.1 (Nat.le_of_ble_eq_true rfl) ⟨Nat.zero_le _, Nat.zero_le _⟩ rfl rfl dX3_trial_199 ?_
                              refine lv_iload hx hb dX3_trial_202 (lv_at hl 2 rfl) ?_
                              refine lv_if_eq (tgt := 215) hx hb dX3_trial_204 (by decide) (fun c_44 => ?_) (fun c_44 => ?_)
                              · exact absurd c_44 (by decide)
                              · refine lv_aload_n hx hb dX3_trial_207 rfl (lv_at hl 3 rfl) ?_
                                refine lv_iload_n hx hb dX3_trial_208 rfl (lv_at hl 4 rfl) ?_
                                refine w_callV (As := [.int (nI i)]) (rest := [.int (f_X3_errorOf Z44 k), .int (nI (nr S)), .ref (ad 17)]) (st := [.int (f_X3_middle Z44 i), .int (f_X3_errorOf Z44 k), .int (nI (nr S)), .ref (ad 17)]) cx (c_X3_middle l G ad Z44 hWZ44 (i := i) hi_Z44) k_591 cal_yX3_middle (ci := 3) rfl (hP.pa _ _ cM_0) hP.pa rfl ⟨Nat.le_of_ble_eq_true rfl, Nat.le_of_ble_eq_true rfl⟩ hl.1 (Nat.le_of_ble_eq_true rfl) ⟨Nat.zero_le _, Nat.zero_le _⟩ rfl rfl dX3_trial_209 ?_
                                refine lv_goto (tgt := 216) hx hb dX3_trial_212 (by decide) ?_
                                refine lv_iadd hx hb dX3_trial_216 ?_
                                refine m_iast (n := 300) cx hP hS 16 (by decide) rfl rfl (nr S) rfl (nrlt hW.r c_43) (by decide) dX3_trial_217 (fun H locs hP hS => ?_)
                                obtain ⟨Z45, eZ45⟩ : ∃ Z0, Z0 = setA Z44 16 (nr S) ((f_X3_errorOf Z44 k) + (f_X3_middle Z44 i)) := ⟨_, rfl⟩
                                rw [← eZ45] at hP
                                have hi_Z45 : i < nt Z45 := by rw [eZ45]; exact hi_Z44
                                have hk_Z45 : k < nt Z45 := by rw [eZ45]; exact hk_Z44
                                have hWZ45 : WF Z45 := by rw [eZ45]; exact hWZ44.setA (nr S) ((f_X3_errorOf Z44 k) + (f_X3_middle Z44 i)) (by decide) (by decide) (by decide) (by decide)
                                refine lv_aload_n hx hb dX3_trial_218 rfl (lv_at hl 3 rfl) ?_
                                refine w_get cx (ci := 3) rfl iX3 (hP.pa _ _ cM_0) 20 (by decide) k_471 (v := .ref (ad 18)) rfl dX3_trial_219 ?_
                                refine lv_iload hx hb dX3_trial_222 (lv_at hl 0 rfl) ?_
                                refine lv_aload_n hx hb dX3_trial_224 rfl (lv_at hl 3 rfl) ?_
                                refine lv_iload_n hx hb dX3_trial_225 rfl (lv_at hl 5 rfl) ?_
                                refine lv_aload_n hx hb dX3_trial_226 rfl (lv_at hl 3 rfl) ?_
                                refine w_get cx (ci := 3) rfl iX3 (hP.pa _ _ cM_0) 0 (by decide) k_451 (v := .int (sc Z45 0)) rfl dX3_trial_227 ?_
                                refine w_nrm (y := sc S 0) (by rw [eZ45, sc_setA, eZ44, sc_setA, eZ43, sc_setA, eZ42, sc_setA, eZ41, sc_setR]) ?_
                                refine w_callV (As := [.int (nI k), .int (sc S 0)]) (rest := [.int (nI (nr S)), .ref (ad 18)]) (st := [.int (f_X3_spanOn Z45 k (sc S 0)), .int (nI (nr S)), .ref (ad 18)]) cx (c_X3_spanOn l G ad Z45 hWZ45 (i := k) hk_Z45 (sc S 0)) k_595 cal_yX3_spanOn (ci := 3) rfl (hP.pa _ _ cM_0) hP.pa rfl ⟨Nat.le_of_ble_eq_true rfl, Nat.le_of_ble_eq_true rfl⟩ hl.1 (Nat.le_of_ble_eq_true rfl) ⟨Nat.zero_le _, Nat.zero_le _⟩ rfl rfl dX3_trial_230 ?_
                                refine lv_iload hx hb dX3_trial_233 (lv_at hl 7 rfl) ?_
                                refine lv_iadd hx hb dX3_trial_235 ?_
                                refine lv_iload hx hb dX3_trial_236 (lv_at hl 2 rfl) ?_
                                refine lv_if_eq (tgt := 249) hx hb dX3_trial_238 (by decide) (fun c_45 => ?_) (fun c_45 => ?_)
                                · exact absurd c_45 (by decide)
                                · refine lv_aload_n hx hb dX3_trial_241 rfl (lv_at hl 3 rfl) ?_
                                  refine lv_iload_n hx hb dX3_trial_242 rfl (lv_at hl 4 rfl) ?_
                                  refine w_callV (As := [.int (nI i)]) (rest := [.int ((f_X3_spanOn Z45 k (sc S 0)) + z), .int (nI (nr S)), .ref (ad 18)]) (st := [.int (f_X3_range Z45 i), .int ((f_X3_spanOn Z45 k (sc S 0)) + z), .int (nI (nr S)), .ref (ad 18)]) cx (c_X3_range l G ad Z45 hWZ45 (i := i) hi_Z45) k_599 cal_yX3_range (ci := 3) rfl (hP.pa _ _ cM_0) hP.pa rfl ⟨Nat.le_of_ble_eq_true rfl, Nat.le_of_ble_eq_true rfl⟩ hl.1 (Nat.le_of_ble_eq_true rfl) ⟨Nat.zero_le _, Nat.zero_le _⟩ rfl rfl dX3_trial_243 ?_
                                  refine lv_goto (tgt := 250) hx hb dX3_trial_246 (by decide) ?_
                                  refine lv_iadd hx hb dX3_trial_250 ?_
                                  refine m_iast (n := 300) cx hP hS 17 (by decide) rfl rfl (nr S) rfl (nrlt hW.r c_43) (by decide) dX3_trial_251 (fun H locs hP hS => ?_)
                                  obtain ⟨Z46, eZ46⟩ : ∃ Z0, Z0 = setA Z45 17 (nr S) (((f_X3_spanOn Z45 k (sc S 0)) + z) + (f_X3_range Z45 i)) := ⟨_, rfl⟩
                                  rw [← eZ46] at hP
                                  have hi_Z46 : i < nt Z46 := by rw [eZ46]; exact hi_Z45
                                  have hk_Z46 : k < nt Z46 := by rw [eZ46]; exact hk_Z45
                                  have hWZ46 : WF Z46 := by rw [eZ46]; exact hWZ45.setA (nr S) (((f_X3_spanOn Z45 k (sc S 0)) + z) + (f_X3_range Z45 i)) (by decide) (by decide) (by decide) (by decide)
                                  refine lv_aload_n hx hb dX3_trial_252 rfl (lv_at hl 3 rfl) ?_
                                  refine w_get cx (ci := 3) rfl iX3 (hP.pa _ _ cM_0) 21 (by decide) k_472 (v := .ref (ad 19)) rfl dX3_trial_253 ?_
                                  refine lv_iload hx hb dX3_trial_256 (lv_at hl 0 rfl) ?_
                                  refine lv_iconst (v := 1) hx hb dX3_trial_258 (by decide) ?_
                                  refine m_zast (n := 300) cx hP hS 18 (by decide) rfl rfl (nr S) rfl (nrlt hW.r c_43) (by decide) (Or.inr rfl) dX3_trial_259 (fun H locs hP hS => ?_)
                                  obtain ⟨Z47, eZ47⟩ : ∃ Z0, Z0 = setA Z46 18 (nr S) 1 := ⟨_, rfl⟩
                                  rw [← eZ47] at hP
                                  have hi_Z47 : i < nt Z47 := by rw [eZ47]; exact hi_Z46
                                  have hk_Z47 : k < nt Z47 := by rw [eZ47]; exact hk_Z46
                                  have hWZ47 : WF Z47 := by rw [eZ47]; exact hWZ46.setA (nr S) 1 (by decide) (by decide) (by decide) (by decide)
                                  refine lv_aload_n hx hb dX3_trial_260 rfl (lv_at hl 3 rfl) ?_
                                  refine w_get cx (ci := 3) rfl iX3 (hP.pa _ _ cM_0) 23 (by decide) k_474 (v := .ref (ad 21)) rfl dX3_trial_261 ?_
                                  refine lv_iload hx hb dX3_trial_264 (lv_at hl 0 rfl) ?_
                                  refine lv_aload_n hx hb dX3_trial_266 rfl (lv_at hl 3 rfl) ?_
                                  refine w_get cx (ci := 3) rfl iX3 (hP.pa _ _ cM_0) 7 (by decide) k_458 (v := .ref (ad 6)) rfl dX3_trial_267 ?_
                                  refine lv_iload_n hx hb dX3_trial_270 rfl (lv_at hl 5 rfl) ?_
                                  refine w_iald cx (hP.pa _ _ (cM_A (n := 40) 5 (by decide) rfl rfl)) k rfl (Nat.lt_of_lt_of_le hk hW.t) (by decide) dX3_trial_271 ?_
                                  refine w_nrm (y := ar S 5 k) (by rw [eZ47, ar_ne _ _ _ _ _ (by decide), eZ46, ar_ne _ _ _ _ _ (by decide), eZ45, ar_ne _ _ _ _ _ (by decide), eZ44, ar_ne _ _ _ _ _ (by decide), eZ43, ar_ne _ _ _ _ _ (by decide), eZ42, ar_ne _ _ _ _ _ (by decide), eZ41, ar_setR]) ?_
                                  refine m_iast (n := 300) cx hP hS 20 (by decide) rfl rfl (nr S) rfl (nrlt hW.r c_43) (by decide) dX3_trial_272 (fun H locs hP hS => ?_)
                                  obtain ⟨Z48, eZ48⟩ : ∃ Z0, Z0 = setA Z47 20 (nr S) (ar S 5 k) := ⟨_, rfl⟩
                                  rw [← eZ48] at hP
                                  have hi_Z48 : i < nt Z48 := by rw [eZ48]; exact hi_Z47
                                  have hk_Z48 : k < nt Z48 := by rw [eZ48]; exact hk_Z47
                                  have hWZ48 : WF Z48 := by rw [eZ48]; exact hWZ47.setA (nr S) (ar S 5 k) (by decide) (by decide) (by decide) (by decide)
                                  refine lv_aload_n hx hb dX3_trial_273 rfl (lv_at hl 3 rfl) ?_
                                  refine w_get cx (ci := 3) rfl iX3 (hP.pa _ _ cM_0) 7 (by decide) k_458 (v := .ref (ad 6)) rfl dX3_trial_274 ?_
                                  refine lv_iload_n hx hb dX3_trial_277 rfl (lv_at hl 4 rfl) ?_
                                  refine w_iald cx (hP.pa _ _ (cM_A (n := 40) 5 (by decide) rfl rfl)) i rfl (Nat.lt_of_lt_of_le hi hW.t) (by decide) dX3_trial_278 ?_
                                  refine w_nrm (y := ar S 5 i) (by rw [eZ48, ar_ne _ _ _ _ _ (by decide), eZ47, ar_ne _ _ _ _ _ (by decide), eZ46, ar_ne _ _ _ _ _ (by decide), eZ45, ar_ne _ _ _ _ _ (by decide), eZ44, ar_ne _ _ _ _ _ (by decide), eZ43, ar_ne _ _ _ _ _ (by decide), eZ42, ar_ne _ _ _ _ _ (by decide), eZ41, ar_setR]) ?_
                                  refine lv_istore (lv' := [(8, .int (ar S 5 i)), (7, .int (nI (nr S))), (6, .int 1), (5, .int 1), (0, .ref (ad 0)), (1, .int (nI i)), (2, .int (nI k)), (3, .int x), (4, .int z)]) hx hb dX3_trial_279 hl (by decide) rfl (fun ls hl => ?_)
                                  refine lv_iload hx hb dX3_trial_281 (lv_at hl 0 rfl) ?_
                                  refine w_ldc cx k_548 dX3_trial_283 ?_
                                  refine lv_icmp_eq (tgt := 375) hx hb dX3_trial_285 (by decide) (fun c_46 => ?_) (fun c_46 => ?_)
                                  · refine lv_aload_n hx hb dX3_trial_375 rfl (lv_at hl 4 rfl) ?_
                                    refine w_get cx (ci := 3) rfl iX3 (hP.pa _ _ cM_0) 22 (by decide) k_473 (v := .ref (ad 20)) rfl dX3_trial_376 ?_
                                    refine lv_iload hx hb dX3_trial_379 (lv_at hl 1 rfl) ?_
                                    refine w_zald cx (hP.pa _ _ (cM_A (n := 300) 19 (by decide) rfl rfl)) (nr S) rfl (nrlt hW.r c_43) (by decide) dX3_trial_381 ?_
                                    refine w_nrm (y := ar S 19 (nr S)) (by rw [eZ48, ar_ne _ _ _ _ _ (by decide), eZ47, ar_ne _ _ _ _ _ (by decide), eZ46, ar_ne _ _ _ _ _ (by decide), eZ45, ar_ne _ _ _ _ _ (by decide), eZ44, ar_ne _ _ _ _ _ (by decide), eZ43, ar_ne _ _ _ _ _ (by decide), eZ42, ar_ne _ _ _ _ _ (by decide), eZ41, ar_setR]) ?_
                                    refine lv_if_eq (tgt := 399) hx hb dX3_trial_382 (by decide) (fun c_47 => ?_) (fun c_47 => ?_)
                                    · refine lv_aload_n hx hb dX3_trial_399 rfl (lv_at hl 4 rfl) ?_
                                      refine w_get cx (ci := 3) rfl iX3 (hP.pa _ _ cM_0) 7 (by decide) k_458 (v := .ref (ad 6)) rfl dX3_trial_400 ?_
                                      refine lv_iload_n hx hb dX3_trial_403 rfl (lv_at hl 5 rfl) ?_
                                      refine lv_iload hx hb dX3_trial_404 (lv_at hl 1 rfl) ?_
                                      refine m_iast (n := 40) cx hP hS 5 (by decide) rfl rfl i rfl (Nat.lt_of_lt_of_le hi hW.t) (by decide) dX3_trial_406 (fun H locs hP hS => ?_)
                                      obtain ⟨Z49, eZ49⟩ : ∃ Z0, Z0 = setA Z48 5 i (nI (nr S)) := ⟨_, rfl⟩
                                      rw [← eZ49] at hP
                                      have hi_Z49 : i < nt Z49 := by rw [eZ49]; exact hi_Z48
                                      have hk_Z49 : k < nt Z49 := by rw [eZ49]; exact hk_Z48
                                      refine lv_aload_n hx hb dX3_trial_407 rfl (lv_at hl 4 rfl) ?_
                                      refine w_get cx (ci := 3) rfl iX3 (hP.pa _ _ cM_0) 6 (by decide) k_457 (v := .ref (ad 5)) rfl dX3_trial_408 ?_
                                      refine lv_iload_n hx hb dX3_trial_411 rfl (lv_at hl 5 rfl) ?_
                                      refine lv_dup2_11 hx hb dX3_trial_412 rfl rfl ?_
                                      refine w_iald cx (hP.pa _ _ (cM_A (n := 40) 4 (by decide) rfl rfl)) i rfl (Nat.lt_of_lt_of_le hi hW.t) (by decide) dX3_trial_413 ?_
                                      refine w_nrm (y := ar S 4 i) (by rw [eZ49, ar_ne _ _ _ _ _ (by decide), eZ48, ar_ne _ _ _ _ _ (by decide), eZ47, ar_ne _ _ _ _ _ (by decide), eZ46, ar_ne _ _ _ _ _ (by decide), eZ45, ar_ne _ _ _ _ _ (by decide), eZ44, ar_ne _ _ _ _ _ (by decide), eZ43, ar_ne _ _ _ _ _ (by decide), eZ42, ar_ne _ _ _ _ _ (by decide), eZ41, ar_setR]) ?_
                                      refine lv_iconst (v := 1) hx hb dX3_trial_414 (by decide) ?_
                                      refine lv_iadd hx hb dX3_trial_415 ?_
                                      refine m_iast (n := 40) cx hP hS 4 (by decide) rfl rfl i rfl (Nat.lt_of_lt_of_le hi hW.t) (by decide) dX3_trial_416 (fun H locs hP hS => ?_)
                                      obtain ⟨Z50, eZ50⟩ : ∃ Z0, Z0 = setA Z49 4 i ((ar S 4 i) + 1) := ⟨_, rfl⟩
                                      rw [← eZ50] at hP
                                      have hi_Z50 : i < nt Z50 := by rw [eZ50]; exact hi_Z49
                                      have hk_Z50 : k < nt Z50 := by rw [eZ50]; exact hk_Z49
                                      refine lv_aload_n hx hb dX3_trial_417 rfl (lv_at hl 4 rfl) ?_
                                      refine w_get cx (ci := 3) rfl iX3 (hP.pa _ _ cM_0) 10 (by decide) k_461 (v := .ref (ad 9)) rfl dX3_trial_418 ?_
                                      refine lv_iload_n hx hb dX3_trial_421 rfl (lv_at hl 5 rfl) ?_
                                      refine lv_iconst (v := 0) hx hb dX3_trial_422 (by decide) ?_
                                      refine m_iast (n := 40) cx hP hS 8 (by decide) rfl rfl i rfl (Nat.lt_of_lt_of_le hi hW.t) (by decide) dX3_trial_423 (fun H locs hP hS => ?_)
                                      obtain ⟨Z51, eZ51⟩ : ∃ Z0, Z0 = setA Z50 8 i 0 := ⟨_, rfl⟩
                                      rw [← eZ51] at hP
                                      have hi_Z51 : i < nt Z51 := by rw [eZ51]; exact hi_Z50
                                      have hk_Z51 : k < nt Z51 := by rw [eZ51]; exact hk_Z50
                                      refine lv_iload hx hb dX3_trial_424 (lv_at hl 1 rfl) ?_
                                      rw [show f_X3_trial S i k x z = (nI (nr S), Z51) from by subst eZ51; subst eZ50; subst eZ49; subst eZ48; subst eZ47; subst eZ46; subst eZ45; subst eZ44; subst eZ43; subst eZ42; subst eZ41; rw [f_X3_trial, if_pos c_3, if_neg c_30, if_neg c_31, if_pos c_34, if_neg c_36, if_neg c_38, if_neg c_41, if_pos c_42, if_neg c_43, if_pos c_46, if_pos c_47]]
                                      exact x_int cx hr hlk (ad' := ad) ⟨rfl, hP⟩ hS dX3_trial_426
                                    · refine lv_aload_n hx hb dX3_trial_385 rfl (lv_at hl 4 rfl) ?_
                                      refine lv_iload hx hb dX3_trial_386 (lv_at hl 0 rfl) ?_
                                      refine w_callVW (As := [.int (ar S 5 i)]) (rest := []) (st := []) cx (c_X3_unsettle l G ad Z48 hWZ48 (WB.add (v := ar S 5 k) hBa (by rw [eZ48, nr_setA, eZ47, nr_setA, eZ46, nr_setA, eZ45, nr_setA, eZ44, nr_setA, eZ43, nr_setA, eZ42, nr_setA, eZ41, nr_setR]) (by rw [eZ48, ar_upd, eZ47, ar_diff _ _ _ _ (by decide), eZ46, ar_diff _ _ _ _ (by decide), eZ45, ar_diff _ _ _ _ (by decide), eZ44, ar_diff _ _ _ _ (by decide), eZ43, ar_diff _ _ _ _ (by decide), eZ42, ar_diff _ _ _ _ (by decide), eZ41, ar_setRf]) (hW.la hk)) (ar S 5 i)) k_603 cal_yX3_unsettle (ci := 3) rfl (hP.pa _ _ cM_0) hP hS hA rfl ⟨Nat.le_of_ble_eq_true rfl, Nat.le_of_ble_eq_true rfl⟩ hl.1 (Nat.le_of_ble_eq_true rfl) ⟨Nat.le_of_ble_eq_true rfl, Nat.le_of_ble_eq_true rfl⟩ rfl rfl dX3_trial_388 (fun ad1 H locs hX1 hP hz1 hq1 hS => ?_)
                                      rw [hX1] at hP
                                      obtain ⟨Z52, eZ52⟩ : ∃ Z0, Z0 = f_X3_unsettle Z48 (ar S 5 i) := ⟨_, rfl⟩
                                      rw [← eZ52] at hP
                                      refine lv_aload_n hx hb dX3_trial_391 rfl (lv_at hl 4 rfl) ?_
                                      refine w_get cx (ci := 3) rfl iX3 (hP.pa _ _ cM_0) 8 (by decide) k_459 (v := .ref (ad 7)) rfl dX3_trial_392 ?_
                                      refine lv_iload_n hx hb dX3_trial_395 rfl (lv_at hl 5 rfl) ?_
                                      refine w_ldc cx k_548 dX3_trial_396 ?_
                                      refine m_iast (n := 40) cx hP hS 6 (by decide) rfl rfl i rfl (Nat.lt_of_lt_of_le hi hW.t) (by decide) dX3_trial_398 (fun H locs hP hS => ?_)
                                      obtain ⟨Z53, eZ53⟩ : ∃ Z0, Z0 = setA Z52 6 i ((-1000000)) := ⟨_, rfl⟩
                                      rw [← eZ53] at hP
                                      refine lv_aload_n hx hb dX3_trial_399 rfl (lv_at hl 4 rfl) ?_
                                      refine w_get cx (ci := 3) rfl iX3 (hP.pa _ _ cM_0) 7 (by decide) k_458 (v := .ref (ad 6)) rfl dX3_trial_400 ?_
                                      refine lv_iload_n hx hb dX3_trial_403 rfl (lv_at hl 5 rfl) ?_
                                      refine lv_iload hx hb dX3_trial_404 (lv_at hl 1 rfl) ?_
                                      refine m_iast (n := 40) cx hP hS 5 (by decide) rfl rfl i rfl (Nat.lt_of_lt_of_le hi hW.t) (by decide) dX3_trial_406 (fun H locs hP hS => ?_)
                                      obtain ⟨Z54, eZ54⟩ : ∃ Z0, Z0 = setA Z53 5 i (nI (nr S)) := ⟨_, rfl⟩
                                      rw [← eZ54] at hP
                                      refine lv_aload_n hx hb dX3_trial_407 rfl (lv_at hl 4 rfl) ?_
                                      refine w_get cx (ci := 3) rfl iX3 (hP.pa _ _ cM_0) 6 (by decide) k_457 (v := .ref (ad 5)) rfl dX3_trial_408 ?_
                                      refine lv_iload_n hx hb dX3_trial_411 rfl (lv_at hl 5 rfl) ?_
                                      refine lv_dup2_11 hx hb dX3_trial_412 rfl rfl ?_
                                      refine w_iald cx (hP.pa _ _ (cM_A (n := 40) 4 (by decide) rfl rfl)) i rfl (Nat.lt_of_lt_of_le hi hW.t) (by decide) dX3_trial_413 ?_
                                      refine w_nrm (y := ar Z52 4 i) (by rw [eZ54, ar_ne _ _ _ _ _ (by decide), eZ53, ar_ne _ _ _ _ _ (by decide)]) ?_
                                      refine lv_iconst (v := 1) hx hb dX3_trial_414 (by decide) ?_
                                      refine lv_iadd hx hb dX3_trial_415 ?_
                                      refine m_iast (n := 40) cx hP hS 4 (by decide) rfl rfl i rfl (Nat.lt_of_lt_of_le hi hW.t) (by decide) dX3_trial_416 (fun H locs hP hS => ?_)
                                      obtain ⟨Z55, eZ55⟩ : ∃ Z0, Z0 = setA Z54 4 i ((ar Z52 4 i) + 1) := ⟨_, rfl⟩
                                      rw [← eZ55] at hP
                                      refine lv_aload_n hx hb dX3_trial_417 rfl (lv_at hl 4 rfl) ?_
                                      refine w_get cx (ci := 3) rfl iX3 (hP.pa _ _ cM_0) 10 (by decide) k_461 (v := .ref (ad 9)) rfl dX3_trial_418 ?_
                                      refine lv_iload_n hx hb dX3_trial_421 rfl (lv_at hl 5 rfl) ?_
                                      refine lv_iconst (v := 0) hx hb dX3_trial_422 (by decide) ?_
                                      refine m_iast (n := 40) cx hP hS 8 (by decide) rfl rfl i rfl (Nat.lt_of_lt_of_le hi hW.t) (by decide) dX3_trial_423 (fun H locs hP hS => ?_)
                                      obtain ⟨Z56, eZ56⟩ : ∃ Z0, Z0 = setA Z55 8 i 0 := ⟨_, rfl⟩
                                      rw [← eZ56] at hP
                                      refine lv_iload hx hb dX3_trial_424 (lv_at hl 1 rfl) ?_
                                      rw [show f_X3_trial S i k x z = (nI (nr S), Z56) from by subst eZ56; subst eZ55; subst eZ54; subst eZ53; subst eZ52; subst eZ48; subst eZ47; subst eZ46; subst eZ45; subst eZ44; subst eZ43; subst eZ42; subst eZ41; rw [f_X3_trial, if_pos c_3, if_neg c_30, if_neg c_31, if_pos c_34, if_neg c_36, if_neg c_38, if_neg c_41, if_pos c_42, if_neg c_43, if_pos c_46, if_neg c_47]]
                                      exact x_int cx hr hlk (ad' := ad) ⟨rfl, hP⟩ hS dX3_trial_426
                                  · refine lv_aload_n hx hb dX3_trial_288 rfl (lv_at hl 4 rfl) ?_
                                    refine lv_iload_n hx hb dX3_trial_289 rfl (lv_at hl 5 rfl) ?_
                                    refine w_callV (As := [.int (nI i)]) (rest := []) (st := [.int (f_X3_settledNow Z48 i)]) cx (c_X3_settledNow l G ad Z48 hWZ48 (i := i) hi_Z48) k_579 cal_yX3_settledNow (ci := 3) rfl (hP.pa _ _ cM_0) hP.pa rfl ⟨Nat.le_of_ble_eq_true rfl, Nat.le_of_ble_eq_true rfl⟩ hl.1 (Nat.le_of_ble_eq_true rfl) ⟨Nat.zero_le _, Nat.zero_le _⟩ rfl rfl dX3_trial_290 ?_
                                    refine lv_if_eq (tgt := 375) hx hb dX3_trial_293 (by decide) (fun c_48 => ?_) (fun c_48 => ?_)
                                    · refine lv_aload_n hx hb dX3_trial_375 rfl (lv_at hl 4 rfl) ?_
                                      refine w_get cx (ci := 3) rfl iX3 (hP.pa _ _ cM_0) 22 (by decide) k_473 (v := .ref (ad 20)) rfl dX3_trial_376 ?_
                                      refine lv_iload hx hb dX3_trial_379 (lv_at hl 1 rfl) ?_
                                      refine w_zald cx (hP.pa _ _ (cM_A (n := 300) 19 (by decide) rfl rfl)) (nr S) rfl (nrlt hW.r c_43) (by decide) dX3_trial_381 ?_
                                      refine w_nrm (y := ar S 19 (nr S)) (by rw [eZ48, ar_ne _ _ _ _ _ (by decide), eZ47, ar_ne _ _ _ _ _ (by decide), eZ46, ar_ne _ _ _ _ _ (by decide), eZ45, ar_ne _ _ _ _ _ (by decide), eZ44, ar_ne _ _ _ _ _ (by decide), eZ43, ar_ne _ _ _ _ _ (by decide), eZ42, ar_ne _ _ _ _ _ (by decide), eZ41, ar_setR]) ?_
                                      refine lv_if_eq (tgt := 399) hx hb dX3_trial_382 (by decide) (fun c_49 => ?_) (fun c_49 => ?_)
                                      · refine lv_aload_n hx hb dX3_trial_399 rfl (lv_at hl 4 rfl) ?_
                                        refine w_get cx (ci := 3) rfl iX3 (hP.pa _ _ cM_0) 7 (by decide) k_458 (v := .ref (ad 6)) rfl dX3_trial_400 ?_
                                        refine lv_iload_n hx hb dX3_trial_403 rfl (lv_at hl 5 rfl) ?_
                                        refine lv_iload hx hb dX3_trial_404 (lv_at hl 1 rfl) ?_
                                        refine m_iast (n := 40) cx hP hS 5 (by decide) rfl rfl i rfl (Nat.lt_of_lt_of_le hi hW.t) (by decide) dX3_trial_406 (fun H locs hP hS => ?_)
                                        obtain ⟨Z57, eZ57⟩ : ∃ Z0, Z0 = setA Z48 5 i (nI (nr S)) := ⟨_, rfl⟩
                                        rw [← eZ57] at hP
                                        have hi_Z57 : i < nt Z57 := by rw [eZ57]; exact hi_Z48
                                        have hk_Z57 : k < nt Z57 := by rw [eZ57]; exact hk_Z48
                                        refine lv_aload_n hx hb dX3_trial_407 rfl (lv_at hl 4 rfl) ?_
                                        refine w_get cx (ci := 3) rfl iX3 (hP.pa _ _ cM_0) 6 (by decide) k_457 (v := .ref (ad 5)) rfl dX3_trial_408 ?_
                                        refine lv_iload_n hx hb dX3_trial_411 rfl (lv_at hl 5 rfl) ?_
                                        refine lv_dup2_11 hx hb dX3_trial_412 rfl rfl ?_
                                        refine w_iald cx (hP.pa _ _ (cM_A (n := 40) 4 (by decide) rfl rfl)) i rfl (Nat.lt_of_lt_of_le hi hW.t) (by decide) dX3_trial_413 ?_
                                        refine w_nrm (y := ar S 4 i) (by rw [eZ57, ar_ne _ _ _ _ _ (by decide), eZ48, ar_ne _ _ _ _ _ (by decide), eZ47, ar_ne _ _ _ _ _ (by decide), eZ46, ar_ne _ _ _ _ _ (by decide), eZ45, ar_ne _ _ _ _ _ (by decide), eZ44, ar_ne _ _ _ _ _ (by decide), eZ43, ar_ne _ _ _ _ _ (by decide), eZ42, ar_ne _ _ _ _ _ (by decide), eZ41, ar_setR]) ?_
                                        refine lv_iconst (v := 1) hx hb dX3_trial_414 (by decide) ?_
                                        refine lv_iadd hx hb dX3_trial_415 ?_
                                        refine m_iast (n := 40) cx hP hS 4 (by decide) rfl rfl i rfl (Nat.lt_of_lt_of_le hi hW.t) (by decide) dX3_trial_416 (fun H locs hP hS => ?_)
                                        obtain ⟨Z58, eZ58⟩ : ∃ Z0, Z0 = setA Z57 4 i ((ar S 4 i) + 1) := ⟨_, rfl⟩
                                        rw [← eZ58] at hP
                                        have hi_Z58 : i < nt Z58 := by rw [eZ58]; exact hi_Z57
                                        have hk_Z58 : k < nt Z58 := by rw [eZ58]; exact hk_Z57
                                        refine lv_aload_n hx hb dX3_trial_417 rfl (lv_at hl 4 rfl) ?_
                                        refine w_get cx (ci := 3) rfl iX3 (hP.pa _ _ cM_0) 10 (by decide) k_461 (v := .ref (ad 9)) rfl dX3_trial_418 ?_
                                        refine lv_iload_n hx hb dX3_trial_421 rfl (lv_at hl 5 rfl) ?_
                                        refine lv_iconst (v := 0) hx hb dX3_trial_422 (by decide) ?_
                                        refine m_iast (n := 40) cx hP hS 8 (by decide) rfl rfl i rfl (Nat.lt_of_lt_of_le hi hW.t) (by decide) dX3_trial_423 (fun H locs hP hS => ?_)
                                        obtain ⟨Z59, eZ59⟩ : ∃ Z0, Z0 = setA Z58 8 i 0 := ⟨_, rfl⟩
                                        rw [← eZ59] at hP
                                        have hi_Z59 : i < nt Z59 := by rw [eZ59]; exact hi_Z58
                                        have hk_Z59 : k < nt Z59 := by rw [eZ59]; exact hk_Z58
                                        refine lv_iload hx hb dX3_trial_424 (lv_at hl 1 rfl) ?_
                                        rw [show f_X3_trial S i k x z = (nI (nr S), Z59) from by subst eZ59; subst eZ58; subst eZ57; subst eZ48; subst eZ47; subst eZ46; subst eZ45; subst eZ44; subst eZ43; subst eZ42; subst eZ41; rw [f_X3_trial, if_pos c_3, if_neg c_30, if_neg c_31, if_pos c_34, if_neg c_36, if_neg c_38, if_neg c_41, if_pos c_42, if_neg c_43, if_neg c_46, if_pos c_48, if_pos c_49]]
                                        exact x_int cx hr hlk (ad' := ad) ⟨rfl, hP⟩ hS dX3_trial_426
                                      · refine lv_aload_n hx hb dX3_trial_385 rfl (lv_at hl 4 rfl) ?_
                                        refine lv_iload hx hb dX3_trial_386 (lv_at hl 0 rfl) ?_
                                        refine w_callVW (As := [.int (ar S 5 i)]) (rest := []) (st := []) cx (c_X3_unsettle l G ad Z48 hWZ48 (WB.add (v := ar S 5 k) hBa (by rw [eZ48, nr_setA, eZ47, nr_setA, eZ46, nr_setA, eZ45, nr_setA, eZ44, nr_setA, eZ43, nr_setA, eZ42, nr_setA, eZ41, nr_setR]) (by rw [eZ48, ar_upd, eZ47, ar_diff _ _ _ _ (by decide), eZ46, ar_diff _ _ _ _ (by decide), eZ45, ar_diff _ _ _ _ (by decide), eZ44, ar_diff _ _ _ _ (by decide), eZ43, ar_diff _ _ _ _ (by decide), eZ42, ar_diff _ _ _ _ (by decide), eZ41, ar_setRf]) (hW.la hk)) (ar S 5 i)) k_603 cal_yX3_unsettle (ci := 3) rfl (hP.pa _ _ cM_0) hP hS hA rfl ⟨Nat.le_of_ble_eq_true rfl, Nat.le_of_ble_eq_true rfl⟩ hl.1 (Nat.le_of_ble_eq_true rfl) ⟨Nat.le_of_ble_eq_true rfl, Nat.le_of_ble_eq_true rfl⟩ rfl rfl dX3_trial_388 (fun ad1 H locs hX1 hP hz1 hq1 hS => ?_)
                                        rw [hX1] at hP
                                        obtain ⟨Z60, eZ60⟩ : ∃ Z0, Z0 = f_X3_unsettle Z48 (ar S 5 i) := ⟨_, rfl⟩
                                        rw [← eZ60] at hP
                                        refine lv_aload_n hx hb dX3_trial_391 rfl (lv_at hl 4 rfl) ?_
                                        refine w_get cx (ci := 3) rfl iX3 (hP.pa _ _ cM_0) 8 (by decide) k_459 (v := .ref (ad 7)) rfl dX3_trial_392 ?_
                                        refine lv_iload_n hx hb dX3_trial_395 rfl (lv_at hl 5 rfl) ?_
                                        refine w_ldc cx k_548 dX3_trial_396 ?_
                                        refine m_iast (n := 40) cx hP hS 6 (by decide) rfl rfl i rfl (Nat.lt_of_lt_of_le hi hW.t) (by decide) dX3_trial_398 (fun H locs hP hS => ?_)
                                        obtain ⟨Z61, eZ61⟩ : ∃ Z0, Z0 = setA Z60 6 i ((-1000000)) := ⟨_, rfl⟩
                                        rw [← eZ61] at hP
                                        refine lv_aload_n hx hb dX3_trial_399 rfl (lv_at hl 4 rfl) ?_
                                        refine w_get cx (ci := 3) rfl iX3 (hP.pa _ _ cM_0) 7 (by decide) k_458 (v := .ref (ad 6)) rfl dX3_trial_400 ?_
                                        refine lv_iload_n hx hb dX3_trial_403 rfl (lv_at hl 5 rfl) ?_
                                        refine lv_iload hx hb dX3_trial_404 (lv_at hl 1 rfl) ?_
                                        refine m_iast (n := 40) cx hP hS 5 (by decide) rfl rfl i rfl (Nat.lt_of_lt_of_le hi hW.t) (by decide) dX3_trial_406 (fun H locs hP hS => ?_)
                                        obtain ⟨Z62, eZ62⟩ : ∃ Z0, Z0 = setA Z61 5 i (nI (nr S)) := ⟨_, rfl⟩
                                        rw [← eZ62] at hP
                                        refine lv_aload_n hx hb dX3_trial_407 rfl (lv_at hl 4 rfl) ?_
                                        refine w_get cx (ci := 3) rfl iX3 (hP.pa _ _ cM_0) 6 (by decide) k_457 (v := .ref (ad 5)) rfl dX3_trial_408 ?_
                                        refine lv_iload_n hx hb dX3_trial_411 rfl (lv_at hl 5 rfl) ?_
                                        refine lv_dup2_11 hx hb dX3_trial_412 rfl rfl ?_
                                        refine w_iald cx (hP.pa _ _ (cM_A (n := 40) 4 (by decide) rfl rfl)) i rfl (Nat.lt_of_lt_of_le hi hW.t) (by decide) dX3_trial_413 ?_
                                        refine w_nrm (y := ar Z60 4 i) (by rw [eZ62, ar_ne _ _ _ _ _ (by decide), eZ61, ar_ne _ _ _ _ _ (by decide)]) ?_
                                        refine lv_iconst (v := 1) hx hb dX3_trial_414 (by decide) ?_
                                        refine lv_iadd hx hb dX3_trial_415 ?_
                                        refine m_iast (n := 40) cx hP hS 4 (by decide) rfl rfl i rfl (Nat.lt_of_lt_of_le hi hW.t) (by decide) dX3_trial_416 (fun H locs hP hS => ?_)
                                        obtain ⟨Z63, eZ63⟩ : ∃ Z0, Z0 = setA Z62 4 i ((ar Z60 4 i) + 1) := ⟨_, rfl⟩
                                        rw [← eZ63] at hP
                                        refine lv_aload_n hx hb dX3_trial_417 rfl (lv_at hl 4 rfl) ?_
                                        refine w_get cx (ci := 3) rfl iX3 (hP.pa _ _ cM_0) 10 (by decide) k_461 (v := .ref (ad 9)) rfl dX3_trial_418 ?_
                                        refine lv_iload_n hx hb dX3_trial_421 rfl (lv_at hl 5 rfl) ?_
                                        refine lv_iconst (v := 0) hx hb dX3_trial_422 (by decide) ?_
                                        refine m_iast (n := 40) cx hP hS 8 (by decide) rfl rfl i rfl (Nat.lt_of_lt_of_le hi hW.t) (by decide) dX3_trial_423 (fun H locs hP hS => ?_)
                                        obtain ⟨Z64, eZ64⟩ : ∃ Z0, Z0 = setA Z63 8 i 0 := ⟨_, rfl⟩
                                        rw [← eZ64] at hP
                                        refine lv_iload hx hb dX3_trial_424 (lv_at hl 1 rfl) ?_
                                        rw [show f_X3_trial S i k x z = (nI (nr S), Z64) from by subst eZ64; subst eZ63; subst eZ62; subst eZ61; subst eZ60; subst eZ48; subst eZ47; subst eZ46; subst eZ45; subst eZ44; subst eZ43; subst eZ42; subst eZ41; rw [f_X3_trial, if_pos c_3, if_neg c_30, if_neg c_31, if_pos c_34, if_neg c_36, if_neg c_38, if_neg c_41, if_pos c_42, if_neg c_43, if_neg c_46, if_pos c_48, if_neg c_49]]
                                        exact x_int cx hr hlk (ad' := ad) ⟨rfl, hP⟩ hS dX3_trial_426
                                    · refine lv_aload_n hx hb dX3_trial_296 rfl (lv_at hl 4 rfl) ?_
                                      refine lv_iload_n hx hb dX3_trial_297 rfl (lv_at hl 5 rfl) ?_
                                      refine lv_aload_n hx hb dX3_trial_298 rfl (lv_at hl 4 rfl) ?_
                                      refine w_get cx (ci := 3) rfl iX3 (hP.pa _ _ cM_0) 0 (by decide) k_451 (v := .int (sc Z48 0)) rfl dX3_trial_299 ?_
                                      refine w_nrm (y := sc S 0) (by rw [eZ48, sc_setA, eZ47, sc_setA, eZ46, sc_setA, eZ45, sc_setA, eZ44, sc_setA, eZ43, sc_setA, eZ42, sc_setA, eZ41, sc_setR]) ?_
                                      refine w_callV (As := [.int (nI i), .int (sc S 0)]) (rest := []) (st := [.int (f_X3_spanOn Z48 i (sc S 0))]) cx (c_X3_spanOn l G ad Z48 hWZ48 (i := i) hi_Z48 (sc S 0)) k_595 cal_yX3_spanOn (ci := 3) rfl (hP.pa _ _ cM_0) hP.pa rfl ⟨Nat.le_of_ble_eq_true rfl, Nat.le_of_ble_eq_true rfl⟩ hl.1 (Nat.le_of_ble_eq_true rfl) ⟨Nat.zero_le _, Nat.zero_le _⟩ rfl rfl dX3_trial_302 ?_
                                      refine lv_istore (lv' := [(9, .int (f_X3_spanOn Z48 i (sc S 0))), (8, .int (ar S 5 i)), (7, .int (nI (nr S))), (6, .int 1), (5, .int 1), (0, .ref (ad 0)), (1, .int (nI i)), (2, .int (nI k)), (3, .int x), (4, .int z)]) hx hb dX3_trial_305 hl (by decide) rfl (fun ls hl => ?_)
                                      refine lv_aload_n hx hb dX3_trial_307 rfl (lv_at hl 5 rfl) ?_
                                      refine w_get cx (ci := 3) rfl iX3 (hP.pa _ _ cM_0) 22 (by decide) k_473 (v := .ref (ad 20)) rfl dX3_trial_308 ?_
                                      refine lv_iload hx hb dX3_trial_311 (lv_at hl 2 rfl) ?_
                                      refine lv_aload_n hx hb dX3_trial_313 rfl (lv_at hl 5 rfl) ?_
                                      refine w_get cx (ci := 3) rfl iX3 (hP.pa _ _ cM_0) 19 (by decide) k_470 (v := .ref (ad 17)) rfl dX3_trial_314 ?_
                                      refine lv_iload hx hb dX3_trial_317 (lv_at hl 1 rfl) ?_
                                      refine w_iald cx (hP.pa _ _ (cM_A (n := 300) 16 (by decide) rfl rfl)) (ix (ar S 5 i)) (hW.la hi c_46).1 (Nat.lt_of_lt_of_le (hW.la hi c_46).2 hW.r) (by decide) dX3_trial_319 ?_
                                      refine w_nrm (y := ar S 16 (ix (ar S 5 i))) (by rw [eZ48, ar_ne _ _ _ _ _ (by decide), eZ47, ar_ne _ _ _ _ _ (by decide), eZ46, ar_ne _ _ _ _ _ (by decide), eZ45, ar_setA, if_pos rfl, if_neg (Nat.ne_of_lt (hW.la hi c_46).2), eZ44, ar_ne _ _ _ _ _ (by decide), eZ43, ar_ne _ _ _ _ _ (by decide), eZ42, ar_ne _ _ _ _ _ (by decide), eZ41, ar_setR]) ?_
                                      refine lv_iload hx hb dX3_trial_320 (lv_at hl 0 rfl) ?_
                                      refine lv_isub hx hb dX3_trial_322 ?_
                                      refine lv_aload_n hx hb dX3_trial_323 rfl (lv_at hl 5 rfl) ?_
                                      refine w_get cx (ci := 3) rfl iX3 (hP.pa _ _ cM_0) 19 (by decide) k_470 (v := .ref (ad 17)) rfl dX3_trial_324 ?_
                                      refine lv_iload hx hb dX3_trial_327 (lv_at hl 2 rfl) ?_
                                      refine w_iald cx (hP.pa _ _ (cM_A (n := 300) 16 (by decide) rfl rfl)) (nr S) rfl (nrlt hW.r c_43) (by decide) dX3_trial_329 ?_
                                      refine w_nrm (y := (f_X3_errorOf Z44 k) + (f_X3_middle Z44 i)) (by rw [eZ48, ar_ne _ _ _ _ _ (by decide), eZ47, ar_ne _ _ _ _ _ (by decide), eZ46, ar_ne _ _ _ _ _ (by decide), eZ45, ar_same]) ?_
                                      refine lv_aload_n hx hb dX3_trial_330 rfl (lv_at hl 5 rfl) ?_
                                      refine w_get cx (ci := 3) rfl iX3 (hP.pa _ _ cM_0) 20 (by decide) k_471 (v := .ref (ad 18)) rfl dX3_trial_331 ?_
                                      refine lv_iload hx hb dX3_trial_334 (lv_at hl 2 rfl) ?_
                                      refine w_iald cx (hP.pa _ _ (cM_A (n := 300) 17 (by decide) rfl rfl)) (nr S) rfl (nrlt hW.r c_43) (by decide) dX3_trial_336 ?_
                                      refine w_nrm (y := ((f_X3_spanOn Z45 k (sc S 0)) + z) + (f_X3_range Z45 i)) (by rw [eZ48, ar_ne _ _ _ _ _ (by decide), eZ47, ar_ne _ _ _ _ _ (by decide), eZ46, ar_same]) ?_
                                      refine lv_iadd hx hb dX3_trial_337 ?_
                                      refine lv_icmp_gt (tgt := 369) hx hb dX3_trial_338 (by decide) (fun c_50 => ?_) (fun c_50 => ?_)
                                      · refine lv_iconst (v := 1) hx hb dX3_trial_369 (by decide) ?_
                                        refine lv_goto (tgt := 374) hx hb dX3_trial_370 (by decide) ?_
                                        refine m_zast (n := 300) cx hP hS 19 (by decide) rfl rfl (nr S) rfl (nrlt hW.r c_43) (by decide) (Or.inr rfl) dX3_trial_374 (fun H locs hP hS => ?_)
                                        obtain ⟨Z65, eZ65⟩ : ∃ Z0, Z0 = setA Z48 19 (nr S) 1 := ⟨_, rfl⟩
                                        rw [← eZ65] at hP
                                        have hi_Z65 : i < nt Z65 := by rw [eZ65]; exact hi_Z48
                                        have hk_Z65 : k < nt Z65 := by rw [eZ65]; exact hk_Z48
                                        have hWZ65 : WF Z65 := by rw [eZ65]; exact hWZ48.setA (nr S) 1 (by decide) (by decide) (by decide) (by decide)
                                        refine lv_aload_n hx hb dX3_trial_375 rfl (lv_at hl 5 rfl) ?_
                                        refine w_get cx (ci := 3) rfl iX3 (hP.pa _ _ cM_0) 22 (by decide) k_473 (v := .ref (ad 20)) rfl dX3_trial_376 ?_
                                        refine lv_iload hx hb dX3_trial_379 (lv_at hl 2 rfl) ?_
                                        refine w_zald cx (hP.pa _ _ (cM_A (n := 300) 19 (by decide) rfl rfl)) (nr S) rfl (nrlt hW.r c_43) (by decide) dX3_trial_381 ?_
                                        refine w_nrm (y := 1) (by rw [eZ65, ar_same]) ?_
                                        refine lv_if_eq (tgt := 399) hx hb dX3_trial_382 (by decide) (fun c_51 => ?_) (fun c_51 => ?_)
                                        · exact absurd c_51 (by decide)
                                        · refine lv_aload_n hx hb dX3_trial_385 rfl (lv_at hl 5 rfl) ?_
                                          refine lv_iload hx hb dX3_trial_386 (lv_at hl 1 rfl) ?_
                                          refine w_callVW (As := [.int (ar S 5 i)]) (rest := []) (st := []) cx (c_X3_unsettle l G ad Z65 hWZ65 (WB.add (v := ar S 5 k) hBa (by rw [eZ65, nr_setA, eZ48, nr_setA, eZ47, nr_setA, eZ46, nr_setA, eZ45, nr_setA, eZ44, nr_setA, eZ43, nr_setA, eZ42, nr_setA, eZ41, nr_setR]) (by rw [eZ65, ar_diff _ _ _ _ (by decide), eZ48, ar_upd, eZ47, ar_diff _ _ _ _ (by decide), eZ46, ar_diff _ _ _ _ (by decide), eZ45, ar_diff _ _ _ _ (by decide), eZ44, ar_diff _ _ _ _ (by decide), eZ43, ar_diff _ _ _ _ (by decide), eZ42, ar_diff _ _ _ _ (by decide), eZ41, ar_setRf]) (hW.la hk)) (ar S 5 i)) k_603 cal_yX3_unsettle (ci := 3) rfl (hP.pa _ _ cM_0) hP hS hA rfl ⟨Nat.le_of_ble_eq_true rfl, Nat.le_of_ble_eq_true rfl⟩ hl.1 (Nat.le_of_ble_eq_true rfl) ⟨Nat.le_of_ble_eq_true rfl, Nat.le_of_ble_eq_true rfl⟩ rfl rfl dX3_trial_388 (fun ad1 H locs hX1 hP hz1 hq1 hS => ?_)
                                          rw [hX1] at hP
                                          obtain ⟨Z66, eZ66⟩ : ∃ Z0, Z0 = f_X3_unsettle Z65 (ar S 5 i) := ⟨_, rfl⟩
                                          rw [← eZ66] at hP
                                          refine lv_aload_n hx hb dX3_trial_391 rfl (lv_at hl 5 rfl) ?_
                                          refine w_get cx (ci := 3) rfl iX3 (hP.pa _ _ cM_0) 8 (by decide) k_459 (v := .ref (ad 7)) rfl dX3_trial_392 ?_
                                          refine lv_iload_n hx hb dX3_trial_395 rfl (lv_at hl 6 rfl) ?_
                                          refine w_ldc cx k_548 dX3_trial_396 ?_
                                          refine m_iast (n := 40) cx hP hS 6 (by decide) rfl rfl i rfl (Nat.lt_of_lt_of_le hi hW.t) (by decide) dX3_trial_398 (fun H locs hP hS => ?_)
                                          obtain ⟨Z67, eZ67⟩ : ∃ Z0, Z0 = setA Z66 6 i ((-1000000)) := ⟨_, rfl⟩
                                          rw [← eZ67] at hP
                                          refine lv_aload_n hx hb dX3_trial_399 rfl (lv_at hl 5 rfl) ?_
                                          refine w_get cx (ci := 3) rfl iX3 (hP.pa _ _ cM_0) 7 (by decide) k_458 (v := .ref (ad 6)) rfl dX3_trial_400 ?_
                                          refine lv_iload_n hx hb dX3_trial_403 rfl (lv_at hl 6 rfl) ?_
                                          refine lv_iload hx hb dX3_trial_404 (lv_at hl 2 rfl) ?_
                                          refine m_iast (n := 40) cx hP hS 5 (by decide) rfl rfl i rfl (Nat.lt_of_lt_of_le hi hW.t) (by decide) dX3_trial_406 (fun H locs hP hS => ?_)
                                          obtain ⟨Z68, eZ68⟩ : ∃ Z0, Z0 = setA Z67 5 i (nI (nr S)) := ⟨_, rfl⟩
                                          rw [← eZ68] at hP
                                          refine lv_aload_n hx hb dX3_trial_407 rfl (lv_at hl 5 rfl) ?_
                                          refine w_get cx (ci := 3) rfl iX3 (hP.pa _ _ cM_0) 6 (by decide) k_457 (v := .ref (ad 5)) rfl dX3_trial_408 ?_
                                          refine lv_iload_n hx hb dX3_trial_411 rfl (lv_at hl 6 rfl) ?_
                                          refine lv_dup2_11 hx hb dX3_trial_412 rfl rfl ?_
                                          refine w_iald cx (hP.pa _ _ (cM_A (n := 40) 4 (by decide) rfl rfl)) i rfl (Nat.lt_of_lt_of_le hi hW.t) (by decide) dX3_trial_413 ?_
                                          refine w_nrm (y := ar Z66 4 i) (by rw [eZ68, ar_ne _ _ _ _ _ (by decide), eZ67, ar_ne _ _ _ _ _ (by decide)]) ?_
                                          refine lv_iconst (v := 1) hx hb dX3_trial_414 (by decide) ?_
                                          refine lv_iadd hx hb dX3_trial_415 ?_
                                          refine m_iast (n := 40) cx hP hS 4 (by decide) rfl rfl i rfl (Nat.lt_of_lt_of_le hi hW.t) (by decide) dX3_trial_416 (fun H locs hP hS => ?_)
                                          obtain ⟨Z69, eZ69⟩ : ∃ Z0, Z0 = setA Z68 4 i ((ar Z66 4 i) + 1) := ⟨_, rfl⟩
                                          rw [← eZ69] at hP
                                          refine lv_aload_n hx hb dX3_trial_417 rfl (lv_at hl 5 rfl) ?_
                                          refine w_get cx (ci := 3) rfl iX3 (hP.pa _ _ cM_0) 10 (by decide) k_461 (v := .ref (ad 9)) rfl dX3_trial_418 ?_
                                          refine lv_iload_n hx hb dX3_trial_421 rfl (lv_at hl 6 rfl) ?_
                                          refine lv_iconst (v := 0) hx hb dX3_trial_422 (by decide) ?_
                                          refine m_iast (n := 40) cx hP hS 8 (by decide) rfl rfl i rfl (Nat.lt_of_lt_of_le hi hW.t) (by decide) dX3_trial_423 (fun H locs hP hS => ?_)
                                          obtain ⟨Z70, eZ70⟩ : ∃ Z0, Z0 = setA Z69 8 i 0 := ⟨_, rfl⟩
                                          rw [← eZ70] at hP
                                          refine lv_iload hx hb dX3_trial_424 (lv_at hl 2 rfl) ?_
                                          rw [show f_X3_trial S i k x z = (nI (nr S), Z70) from by subst eZ70; subst eZ69; subst eZ68; subst eZ67; subst eZ66; subst eZ65; subst eZ48; subst eZ47; subst eZ46; subst eZ45; subst eZ44; subst eZ43; subst eZ42; subst eZ41; rw [f_X3_trial, if_pos c_3, if_neg c_30, if_neg c_31, if_pos c_34, if_neg c_36, if_neg c_38, if_neg c_41, if_pos c_42, if_neg c_43, if_neg c_46, if_neg c_48, if_pos c_50]]
                                          exact x_int cx hr hlk (ad' := ad) ⟨rfl, hP⟩ hS dX3_trial_426
                                      · refine lv_aload_n hx hb dX3_trial_341 rfl (lv_at hl 5 rfl) ?_
                                        refine w_get cx (ci := 3) rfl iX3 (hP.pa _ _ cM_0) 19 (by decide) k_470 (v := .ref (ad 17)) rfl dX3_trial_342 ?_
                                        refine lv_iload hx hb dX3_trial_345 (lv_at hl 1 rfl) ?_
                                        refine w_iald cx (hP.pa _ _ (cM_A (n := 300) 16 (by decide) rfl rfl)) (ix (ar S 5 i)) (hW.la hi c_46).1 (Nat.lt_of_lt_of_le (hW.la hi c_46).2 hW.r) (by decide) dX3_trial_347 ?_
                                        refine w_nrm (y := ar S 16 (ix (ar S 5 i))) (by rw [eZ48, ar_ne _ _ _ _ _ (by decide), eZ47, ar_ne _ _ _ _ _ (by decide), eZ46, ar_ne _ _ _ _ _ (by decide), eZ45, ar_setA, if_pos rfl, if_neg (Nat.ne_of_lt (hW.la hi c_46).2), eZ44, ar_ne _ _ _ _ _ (by decide), eZ43, ar_ne _ _ _ _ _ (by decide), eZ42, ar_ne _ _ _ _ _ (by decide), eZ41, ar_setR]) ?_
                                        refine lv_iload hx hb dX3_trial_348 (lv_at hl 0 rfl) ?_
                                        refine lv_iadd hx hb dX3_trial_350 ?_
                                        refine lv_aload_n hx hb dX3_trial_351 rfl (lv_at hl 5 rfl) ?_
                                        refine w_get cx (ci := 3) rfl iX3 (hP.pa _ _ cM_0) 19 (by decide) k_470 (v := .ref (ad 17)) rfl dX3_trial_352 ?_
                                        refine lv_iload hx hb dX3_trial_355 (lv_at hl 2 rfl) ?_
                                        refine w_iald cx (hP.pa _ _ (cM_A (n := 300) 16 (by decide) rfl rfl)) (nr S) rfl (nrlt hW.r c_43) (by decide) dX3_trial_357 ?_
                                        refine w_nrm (y := (f_X3_errorOf Z44 k) + (f_X3_middle Z44 i)) (by rw [eZ48, ar_ne _ _ _ _ _ (by decide), eZ47, ar_ne _ _ _ _ _ (by decide), eZ46, ar_ne _ _ _ _ _ (by decide), eZ45, ar_same]) ?_
                                        refine lv_aload_n hx hb dX3_trial_358 rfl (lv_at hl 5 rfl) ?_
                                        refine w_get cx (ci := 3) rfl iX3 (hP.pa _ _ cM_0) 20 (by decide) k_471 (v := .ref (ad 18)) rfl dX3_trial_359 ?_
                                        refine lv_iload hx hb dX3_trial_362 (lv_at hl 2 rfl) ?_
                                        refine w_iald cx (hP.pa _ _ (cM_A (n := 300) 17 (by decide) rfl rfl)) (nr S) rfl (nrlt hW.r c_43) (by decide) dX3_trial_364 ?_
                                        refine w_nrm (y := ((f_X3_spanOn Z45 k (sc S 0)) + z) + (f_X3_range Z45 i)) (by rw [eZ48, ar_ne _ _ _ _ _ (by decide), eZ47, ar_ne _ _ _ _ _ (by decide), eZ46, ar_same]) ?_
                                        refine lv_isub hx hb dX3_trial_365 ?_
                                        refine lv_icmp_ge (tgt := 373) hx hb dX3_trial_366 (by decide) (fun c_52 => ?_) (fun c_52 => ?_)
                                        · refine lv_iconst (v := 0) hx hb dX3_trial_373 (by decide) ?_
                                          refine m_zast (n := 300) cx hP hS 19 (by decide) rfl rfl (nr S) rfl (nrlt hW.r c_43) (by decide) (Or.inl rfl) dX3_trial_374 (fun H locs hP hS => ?_)
                                          obtain ⟨Z71, eZ71⟩ : ∃ Z0, Z0 = setA Z48 19 (nr S) 0 := ⟨_, rfl⟩
                                          rw [← eZ71] at hP
                                          have hi_Z71 : i < nt Z71 := by rw [eZ71]; exact hi_Z48
                                          have hk_Z71 : k < nt Z71 := by rw [eZ71]; exact hk_Z48
                                          have hWZ71 : WF Z71 := by rw [eZ71]; exact hWZ48.setA (nr S) 0 (by decide) (by decide) (by decide) (by decide)
                                          refine lv_aload_n hx hb dX3_trial_375 rfl (lv_at hl 5 rfl) ?_
                                          refine w_get cx (ci := 3) rfl iX3 (hP.pa _ _ cM_0) 22 (by decide) k_473 (v := .ref (ad 20)) rfl dX3_trial_376 ?_
                                          refine lv_iload hx hb dX3_trial_379 (lv_at hl 2 rfl) ?_
                                          refine w_zald cx (hP.pa _ _ (cM_A (n := 300) 19 (by decide) rfl rfl)) (nr S) rfl (nrlt hW.r c_43) (by decide) dX3_trial_381 ?_
                                          refine w_nrm (y := 0) (by rw [eZ71, ar_same]) ?_
                                          refine lv_if_eq (tgt := 399) hx hb dX3_trial_382 (by decide) (fun c_53 => ?_) (fun c_53 => ?_)
                                          · refine lv_aload_n hx hb dX3_trial_399 rfl (lv_at hl 5 rfl) ?_
                                            refine w_get cx (ci := 3) rfl iX3 (hP.pa _ _ cM_0) 7 (by decide) k_458 (v := .ref (ad 6)) rfl dX3_trial_400 ?_
                                            refine lv_iload_n hx hb dX3_trial_403 rfl (lv_at hl 6 rfl) ?_
                                            refine lv_iload hx hb dX3_trial_404 (lv_at hl 2 rfl) ?_
                                            refine m_iast (n := 40) cx hP hS 5 (by decide) rfl rfl i rfl (Nat.lt_of_lt_of_le hi hW.t) (by decide) dX3_trial_406 (fun H locs hP hS => ?_)
                                            obtain ⟨Z72, eZ72⟩ : ∃ Z0, Z0 = setA Z71 5 i (nI (nr S)) := ⟨_, rfl⟩
                                            rw [← eZ72] at hP
                                            have hi_Z72 : i < nt Z72 := by rw [eZ72]; exact hi_Z71
                                            have hk_Z72 : k < nt Z72 := by rw [eZ72]; exact hk_Z71
                                            refine lv_aload_n hx hb dX3_trial_407 rfl (lv_at hl 5 rfl) ?_
                                            refine w_get cx (ci := 3) rfl iX3 (hP.pa _ _ cM_0) 6 (by decide) k_457 (v := .ref (ad 5)) rfl dX3_trial_408 ?_
                                            refine lv_iload_n hx hb dX3_trial_411 rfl (lv_at hl 6 rfl) ?_
                                            refine lv_dup2_11 hx hb dX3_trial_412 rfl rfl ?_
                                            refine w_iald cx (hP.pa _ _ (cM_A (n := 40) 4 (by decide) rfl rfl)) i rfl (Nat.lt_of_lt_of_le hi hW.t) (by decide) dX3_trial_413 ?_
                                            refine w_nrm (y := ar S 4 i) (by rw [eZ72, ar_ne _ _ _ _ _ (by decide), eZ71, ar_ne _ _ _ _ _ (by decide), eZ48, ar_ne _ _ _ _ _ (by decide), eZ47, ar_ne _ _ _ _ _ (by decide), eZ46, ar_ne _ _ _ _ _ (by decide), eZ45, ar_ne _ _ _ _ _ (by decide), eZ44, ar_ne _ _ _ _ _ (by decide), eZ43, ar_ne _ _ _ _ _ (by decide), eZ42, ar_ne _ _ _ _ _ (by decide), eZ41, ar_setR]) ?_
                                            refine lv_iconst (v := 1) hx hb dX3_trial_414 (by decide) ?_
                                            refine lv_iadd hx hb dX3_trial_415 ?_
                                            refine m_iast (n := 40) cx hP hS 4 (by decide) rfl rfl i rfl (Nat.lt_of_lt_of_le hi hW.t) (by decide) dX3_trial_416 (fun H locs hP hS => ?_)
                                            obtain ⟨Z73, eZ73⟩ : ∃ Z0, Z0 = setA Z72 4 i ((ar S 4 i) + 1) := ⟨_, rfl⟩
                                            rw [← eZ73] at hP
                                            have hi_Z73 : i < nt Z73 := by rw [eZ73]; exact hi_Z72
                                            have hk_Z73 : k < nt Z73 := by rw [eZ73]; exact hk_Z72
                                            refine lv_aload_n hx hb dX3_trial_417 rfl (lv_at hl 5 rfl) ?_
                                            refine w_get cx (ci := 3) rfl iX3 (hP.pa _ _ cM_0) 10 (by decide) k_461 (v := .ref (ad 9)) rfl dX3_trial_418 ?_
                                            refine lv_iload_n hx hb dX3_trial_421 rfl (lv_at hl 6 rfl) ?_
                                            refine lv_iconst (v := 0) hx hb dX3_trial_422 (by decide) ?_
                                            refine m_iast (n := 40) cx hP hS 8 (by decide) rfl rfl i rfl (Nat.lt_of_lt_of_le hi hW.t) (by decide) dX3_trial_423 (fun H locs hP hS => ?_)
                                            obtain ⟨Z74, eZ74⟩ : ∃ Z0, Z0 = setA Z73 8 i 0 := ⟨_, rfl⟩
                                            rw [← eZ74] at hP
                                            have hi_Z74 : i < nt Z74 := by rw [eZ74]; exact hi_Z73
                                            have hk_Z74 : k < nt Z74 := by rw [eZ74]; exact hk_Z73
                                            refine lv_iload hx hb dX3_trial_424 (lv_at hl 2 rfl) ?_
                                            rw [show f_X3_trial S i k x z = (nI (nr S), Z74) from by subst eZ74; subst eZ73; subst eZ72; subst eZ71; subst eZ48; subst eZ47; subst eZ46; subst eZ45; subst eZ44; subst eZ43; subst eZ42; subst eZ41; rw [f_X3_trial, if_pos c_3, if_neg c_30, if_neg c_31, if_pos c_34, if_neg c_36, if_neg c_38, if_neg c_41, if_pos c_42, if_neg c_43, if_neg c_46, if_neg c_48, if_neg c_50, if_pos c_52]]
                                            exact x_int cx hr hlk (ad' := ad) ⟨rfl, hP⟩ hS dX3_trial_426
                                          · exact absurd (by decide) c_53
                                        · refine lv_iconst (v := 1) hx hb dX3_trial_369 (by decide) ?_
                                          refine lv_goto (tgt := 374) hx hb dX3_trial_370 (by decide) ?_
                                          refine m_zast (n := 300) cx hP hS 19 (by decide) rfl rfl (nr S) rfl (nrlt hW.r c_43) (by decide) (Or.inr rfl) dX3_trial_374 (fun H locs hP hS => ?_)
                                          obtain ⟨Z75, eZ75⟩ : ∃ Z0, Z0 = setA Z48 19 (nr S) 1 := ⟨_, rfl⟩
                                          rw [← eZ75] at hP
                                          have hi_Z75 : i < nt Z75 := by rw [eZ75]; exact hi_Z48
                                          have hk_Z75 : k < nt Z75 := by rw [eZ75]; exact hk_Z48
                                          have hWZ75 : WF Z75 := by rw [eZ75]; exact hWZ48.setA (nr S) 1 (by decide) (by decide) (by decide) (by decide)
                                          refine lv_aload_n hx hb dX3_trial_375 rfl (lv_at hl 5 rfl) ?_
                                          refine w_get cx (ci := 3) rfl iX3 (hP.pa _ _ cM_0) 22 (by decide) k_473 (v := .ref (ad 20)) rfl dX3_trial_376 ?_
                                          refine lv_iload hx hb dX3_trial_379 (lv_at hl 2 rfl) ?_
                                          refine w_zald cx (hP.pa _ _ (cM_A (n := 300) 19 (by decide) rfl rfl)) (nr S) rfl (nrlt hW.r c_43) (by decide) dX3_trial_381 ?_
                                          refine w_nrm (y := 1) (by rw [eZ75, ar_same]) ?_
                                          refine lv_if_eq (tgt := 399) hx hb dX3_trial_382 (by decide) (fun c_54 => ?_) (fun c_54 => ?_)
                                          · exact absurd c_54 (by decide)
                                          · refine lv_aload_n hx hb dX3_trial_385 rfl (lv_at hl 5 rfl) ?_
                                            refine lv_iload hx hb dX3_trial_386 (lv_at hl 1 rfl) ?_
                                            refine w_callVW (As := [.int (ar S 5 i)]) (rest := []) (st := []) cx (c_X3_unsettle l G ad Z75 hWZ75 (WB.add (v := ar S 5 k) hBa (by rw [eZ75, nr_setA, eZ48, nr_setA, eZ47, nr_setA, eZ46, nr_setA, eZ45, nr_setA, eZ44, nr_setA, eZ43, nr_setA, eZ42, nr_setA, eZ41, nr_setR]) (by rw [eZ75, ar_diff _ _ _ _ (by decide), eZ48, ar_upd, eZ47, ar_diff _ _ _ _ (by decide), eZ46, ar_diff _ _ _ _ (by decide), eZ45, ar_diff _ _ _ _ (by decide), eZ44, ar_diff _ _ _ _ (by decide), eZ43, ar_diff _ _ _ _ (by decide), eZ42, ar_diff _ _ _ _ (by decide), eZ41, ar_setRf]) (hW.la hk)) (ar S 5 i)) k_603 cal_yX3_unsettle (ci := 3) rfl (hP.pa _ _ cM_0) hP hS hA rfl ⟨Nat.le_of_ble_eq_true rfl, Nat.le_of_ble_eq_true rfl⟩ hl.1 (Nat.le_of_ble_eq_true rfl) ⟨Nat.le_of_ble_eq_true rfl, Nat.le_of_ble_eq_true rfl⟩ rfl rfl dX3_trial_388 (fun ad1 H locs hX1 hP hz1 hq1 hS => ?_)
                                            rw [hX1] at hP
                                            obtain ⟨Z76, eZ76⟩ : ∃ Z0, Z0 = f_X3_unsettle Z75 (ar S 5 i) := ⟨_, rfl⟩
                                            rw [← eZ76] at hP
                                            refine lv_aload_n hx hb dX3_trial_391 rfl (lv_at hl 5 rfl) ?_
                                            refine w_get cx (ci := 3) rfl iX3 (hP.pa _ _ cM_0) 8 (by decide) k_459 (v := .ref (ad 7)) rfl dX3_trial_392 ?_
                                            refine lv_iload_n hx hb dX3_trial_395 rfl (lv_at hl 6 rfl) ?_
                                            refine w_ldc cx k_548 dX3_trial_396 ?_
                                            refine m_iast (n := 40) cx hP hS 6 (by decide) rfl rfl i rfl (Nat.lt_of_lt_of_le hi hW.t) (by decide) dX3_trial_398 (fun H locs hP hS => ?_)
                                            obtain ⟨Z77, eZ77⟩ : ∃ Z0, Z0 = setA Z76 6 i ((-1000000)) := ⟨_, rfl⟩
                                            rw [← eZ77] at hP
                                            refine lv_aload_n hx hb dX3_trial_399 rfl (lv_at hl 5 rfl) ?_
                                            refine w_get cx (ci := 3) rfl iX3 (hP.pa _ _ cM_0) 7 (by decide) k_458 (v := .ref (ad 6)) rfl dX3_trial_400 ?_
                                            refine lv_iload_n hx hb dX3_trial_403 rfl (lv_at hl 6 rfl) ?_
                                            refine lv_iload hx hb dX3_trial_404 (lv_at hl 2 rfl) ?_
                                            refine m_iast (n := 40) cx hP hS 5 (by decide) rfl rfl i rfl (Nat.lt_of_lt_of_le hi hW.t) (by decide) dX3_trial_406 (fun H locs hP hS => ?_)
                                            obtain ⟨Z78, eZ78⟩ : ∃ Z0, Z0 = setA Z77 5 i (nI (nr S)) := ⟨_, rfl⟩
                                            rw [← eZ78] at hP
                                            refine lv_aload_n hx hb dX3_trial_407 rfl (lv_at hl 5 rfl) ?_
                                            refine w_get cx (ci := 3) rfl iX3 (hP.pa _ _ cM_0) 6 (by decide) k_457 (v := .ref (ad 5)) rfl dX3_trial_408 ?_
                                            refine lv_iload_n hx hb dX3_trial_411 rfl (lv_at hl 6 rfl) ?_
                                            refine lv_dup2_11 hx hb dX3_trial_412 rfl rfl ?_
                                            refine w_iald cx (hP.pa _ _ (cM_A (n := 40) 4 (by decide) rfl rfl)) i rfl (Nat.lt_of_lt_of_le hi hW.t) (by decide) dX3_trial_413 ?_
                                            refine w_nrm (y := ar Z76 4 i) (by rw [eZ78, ar_ne _ _ _ _ _ (by decide), eZ77, ar_ne _ _ _ _ _ (by decide)]) ?_
                                            refine lv_iconst (v := 1) hx hb dX3_trial_414 (by decide) ?_
                                            refine lv_iadd hx hb dX3_trial_415 ?_
                                            refine m_iast (n := 40) cx hP hS 4 (by decide) rfl rfl i rfl (Nat.lt_of_lt_of_le hi hW.t) (by decide) dX3_trial_416 (fun H locs hP hS => ?_)
                                            obtain ⟨Z79, eZ79⟩ : ∃ Z0, Z0 = setA Z78 4 i ((ar Z76 4 i) + 1) := ⟨_, rfl⟩
                                            rw [← eZ79] at hP
                                            refine lv_aload_n hx hb dX3_trial_417 rfl (lv_at hl 5 rfl) ?_
                                            refine w_get cx (ci := 3) rfl iX3 (hP.pa _ _ cM_0) 10 (by decide) k_461 (v := .ref (ad 9)) rfl dX3_trial_418 ?_
                                            refine lv_iload_n hx hb dX3_trial_421 rfl (lv_at hl 6 rfl) ?_
                                            refine lv_iconst (v := 0) hx hb dX3_trial_422 (by decide) ?_
                                            refine m_iast (n := 40) cx hP hS 8 (by decide) rfl rfl i rfl (Nat.lt_of_lt_of_le hi hW.t) (by decide) dX3_trial_423 (fun H locs hP hS => ?_)
                                            obtain ⟨Z80, eZ80⟩ : ∃ Z0, Z0 = setA Z79 8 i 0 := ⟨_, rfl⟩
                                            rw [← eZ80] at hP
                                            refine lv_iload hx hb dX3_trial_424 (lv_at hl 2 rfl) ?_
                                            rw [show f_X3_trial S i k x z = (nI (nr S), Z80) from by subst eZ80; subst eZ79; subst eZ78; subst eZ77; subst eZ76; subst eZ75; subst eZ48; subst eZ47; subst eZ46; subst eZ45; subst eZ44; subst eZ43; subst eZ42; subst eZ41; rw [f_X3_trial, if_pos c_3, if_neg c_30, if_neg c_31, if_pos c_34, if_neg c_36, if_neg c_38, if_neg c_41, if_pos c_42, if_neg c_43, if_neg c_46, if_neg c_48, if_neg c_50, if_neg c_52]]
                                            exact x_int cx hr hlk (ad' := ad) ⟨rfl, hP⟩ hS dX3_trial_426
                            · refine lv_bipush (v := -4) hx hb dX3_trial_145 (by decide) ?_
                              rw [show f_X3_trial S i k x z = ((-4), S) from by rw [f_X3_trial, if_pos c_3, if_neg c_30, if_neg c_31, if_pos c_34, if_neg c_36, if_neg c_38, if_neg c_41, if_pos c_42, if_pos c_43]]
                              exact x_int cx hr hlk (ad' := ad) ⟨rfl, hP⟩ hS dX3_trial_147
                          · refine lv_bipush (v := -3) hx hb dX3_trial_132 (by decide) ?_
                            rw [show f_X3_trial S i k x z = ((-3), S) from by rw [f_X3_trial, if_pos c_3, if_neg c_30, if_neg c_31, if_pos c_34, if_neg c_36, if_neg c_38, if_neg c_41, if_neg c_42]]
                            exact x_int cx hr hlk (ad' := ad) ⟨rfl, hP⟩ hS dX3_trial_134
          · refine lv_bipush (v := -2) hx hb dX3_trial_62 (by decide) ?_
            rw [show f_X3_trial S i k x z = ((-2), S) from by rw [f_X3_trial, if_pos c_3, if_pos c_30]]
            exact x_int cx hr hlk (ad' := ad) ⟨rfl, hP⟩ hS dX3_trial_64
        · exact absurd c_29 (by decide)
    · exact absurd c_2 (by decide)
