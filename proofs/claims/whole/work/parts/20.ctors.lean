def cO (ci : Nat) (fs : List Value) : Nat → Option va_E := fun k => if k = 0 then some (.inr (ci, fs)) else none
def S0 : St := (0, 0, (fun _ => 0), (fun a j => if a = 10 then (if j < 4 then 100 else 0) else if a = 11 then (if j < 4 then 200 else 0) else 0), (fun _ => 0))
def E0 : Ex := ((fun _ => 0), (fun _ => 0), (fun _ => 0))
theorem e100 : upd (upd (upd (fun _ => 0) 1 100) 2 100) 3 100 = fA S0 10 := by
  funext j
  match j with
  | 0 | 1 | 2 | 3 => rfl
  | j + 4 => rfl
theorem e200 : upd (upd (upd (fun _ => 0) 1 200) 2 200) 3 200 = fA S0 11 := by
  funext j
  match j with
  | 0 | 1 | 2 | 3 => rfl
  | j + 4 => rfl
theorem m100 : upd (upd (upd (upd (fun _ => 0) 0 100) 1 100) 2 100) 3 100 = ar S0 10 := by
  funext j
  match j with
  | 0 | 1 | 2 | 3 => rfl
  | j + 4 => rfl
theorem m200 : upd (upd (upd (upd (fun _ => 0) 0 200) 1 200) 2 200) 3 200 = ar S0 11 := by
  funext j
  match j with
  | 0 | 1 | 2 | 3 => rfl
  | j + 4 => rfl
theorem cX_new {G : GG} {ad : Nat → Nat} (k : Nat) : cX G ad S0 E0 (k + 10) = none := by
  unfold cX
  rw [if_neg (by omega)]
  by_cases h : k + 10 < 100
  · rw [if_pos h, if_neg (show ¬ (k + 10 - 10) / 2 < nt S0 from Nat.not_lt_zero _)]
  · rw [if_neg h, if_neg (show ¬ k + 10 - 100 < nr S0 from Nat.not_lt_zero _)]
theorem cM_new {G : GG} {ad : Nat → Nat} (k : Nat) : cM G ad S0 (k + 25) = none := by
  unfold cM
  rw [if_neg (by omega), if_neg (by omega), if_neg (by omega)]
set_option maxRecDepth 20000 in
theorem c_X0_init (l : Launch) (G : GG) (ad : Nat → Nat) (C : Nat → Option va_E) {i j : Nat} (hne : i ≠ j) (hi : C i = some (.inr (0, [.int 0, .int 0, .int 0, .null, .int 0, .int 0, .int 0, .int 0, .int 0, .null]))) (hj : C j = none) (x y z u : Int32) : MW l yX0_init cX0_init 5 none 1 12 1 3 G ad C [.ref (ad i), .int x, .int y, .int z, .int u] none (fun ad' => va_up (va_up C i (some (.inr (0, [.int x, .int y, .int z, .ref (ad' j), .int u, .int 0, .int 0, .int 0, .int (-1000000), .null])))) j (some (.inl (gI G, 3, .inl (fun _ => 0))))) (fun ad' => ∃ q, ad' = va_up ad j q) := by
  refine MW.of [(0, .ref (ad i)), (1, .int x), (2, .int y), (3, .int z), (4, .int u)] (by decide) (Nat.le_of_ble_eq_true rfl) rfl ?_
  intro p e s m args below meth c A cx hr hlk hnm hA hP ls hl
  have hx := cx.1.1
  have hb := cx.1.2.1
  have hS : va_S A s.heap s.heap [] := va_S.rf
  refine lv_aload_n hx hb dX0_init_0 rfl (lv_at hl 0 rfl) ?_
  refine W.objInit hx hb cx.1.2.2.2.1 (cx.1.2.2.2.2 _ k_105) (cx.1.2.2.2.2 _ k_39) (cx.1.2.2.2.2 _ k_40) rfl (by rw [cx.1.2.2.1]; exact hl.1) rfl dX0_init_1 (Nat.le_of_ble_eq_true rfl) (Nat.le_of_ble_eq_true rfl) ?_
  refine W.eq (g2 := F0 m 4 ls []) rfl ?_
  refine lv_aload_n hx hb dX0_init_4 rfl (lv_at hl 0 rfl) ?_
  refine lv_iconst (v := 3) hx hb dX0_init_5 (by decide) ?_
  refine w_newI (n := 3) j 3 cx k_85 hP hS hA hj (by decide) (by decide) (by decide) (Nat.le_of_ble_eq_true rfl) (Nat.le_of_ble_eq_true rfl) dX0_init_6 (fun q1 H hP hS => ?_)
  obtain ⟨C1, eC1⟩ : ∃ zz, zz = va_up C j (some (.inl (gI G, 3, .inl (fun _ => 0)))) := ⟨_, rfl⟩
  have hP : pw G A (va_up ad j q1) C1 H := by rw [eC1]; exact hP
  rw [← va_up_ne ad q1 hne] at hl ⊢
  refine w_putF (ad := va_up ad j q1) (C := C1) (fs := [.int 0, .int 0, .int 0, .null, .int 0, .int 0, .int 0, .int 0, .int 0, .null]) (i := i) cx (ci := 0) rfl iX0 tyX0_ok nmX0 hP hS (by rw [eC1, va_up_ne _ _ hne]; exact hi) 3 (by decide) k_113 rfl (hnm.trans rfl) rfl rfl rfl rfl (Nat.lt_of_lt_of_eq (show 3 < 10 by decide) rfl) dX0_init_8 (fun H locs hP hS => ?_)
  obtain ⟨C2, eC2⟩ : ∃ zz, zz = va_up C1 i (some (.inr (0, [.int 0, .int 0, .int 0, .ref q1, .int 0, .int 0, .int 0, .int 0, .int 0, .null]))) := ⟨_, rfl⟩
  have hP : pw G A (va_up ad j q1) C2 H := by rw [eC2]; exact hP
  refine lv_aload_n hx hb dX0_init_11 rfl (lv_at hl 0 rfl) ?_
  refine w_ldc cx k_106 dX0_init_12 ?_
  refine w_put (ad := va_up ad j q1) (C := C2) (fs := [.int 0, .int 0, .int 0, .ref q1, .int 0, .int 0, .int 0, .int 0, .int 0, .null]) (i := i) cx (ci := 0) rfl iX0 tyX0_ok nmX0 hP hS (by rw [eC2, va_up_self]) 8 (by decide) k_120 rfl rfl rfl rfl (Nat.lt_of_lt_of_eq (show 8 < 10 by decide) rfl) dX0_init_14 (fun H locs hP hS => ?_)
  obtain ⟨C3, eC3⟩ : ∃ zz, zz = va_up C2 i (some (.inr (0, [.int 0, .int 0, .int 0, .ref q1, .int 0, .int 0, .int 0, .int 0, .int ((-1000000)), .null]))) := ⟨_, rfl⟩
  have hP : pw G A (va_up ad j q1) C3 H := by rw [eC3]; exact hP
  refine lv_aload_n hx hb dX0_init_17 rfl (lv_at hl 0 rfl) ?_
  refine lv_iload_n hx hb dX0_init_18 rfl (lv_at hl 1 rfl) ?_
  refine w_putF (ad := va_up ad j q1) (C := C3) (fs := [.int 0, .int 0, .int 0, .ref q1, .int 0, .int 0, .int 0, .int 0, .int ((-1000000)), .null]) (i := i) cx (ci := 0) rfl iX0 tyX0_ok nmX0 hP hS (by rw [eC3, va_up_self]) 0 (by decide) k_107 rfl (hnm.trans rfl) rfl rfl rfl rfl (Nat.lt_of_lt_of_eq (show 0 < 10 by decide) rfl) dX0_init_19 (fun H locs hP hS => ?_)
  obtain ⟨C4, eC4⟩ : ∃ zz, zz = va_up C3 i (some (.inr (0, [.int x, .int 0, .int 0, .ref q1, .int 0, .int 0, .int 0, .int 0, .int ((-1000000)), .null]))) := ⟨_, rfl⟩
  have hP : pw G A (va_up ad j q1) C4 H := by rw [eC4]; exact hP
  refine lv_aload_n hx hb dX0_init_22 rfl (lv_at hl 0 rfl) ?_
  refine lv_iload_n hx hb dX0_init_23 rfl (lv_at hl 2 rfl) ?_
  refine w_putF (ad := va_up ad j q1) (C := C4) (fs := [.int x, .int 0, .int 0, .ref q1, .int 0, .int 0, .int 0, .int 0, .int ((-1000000)), .null]) (i := i) cx (ci := 0) rfl iX0 tyX0_ok nmX0 hP hS (by rw [eC4, va_up_self]) 1 (by decide) k_109 rfl (hnm.trans rfl) rfl rfl rfl rfl (Nat.lt_of_lt_of_eq (show 1 < 10 by decide) rfl) dX0_init_24 (fun H locs hP hS => ?_)
  obtain ⟨C5, eC5⟩ : ∃ zz, zz = va_up C4 i (some (.inr (0, [.int x, .int y, .int 0, .ref q1, .int 0, .int 0, .int 0, .int 0, .int ((-1000000)), .null]))) := ⟨_, rfl⟩
  have hP : pw G A (va_up ad j q1) C5 H := by rw [eC5]; exact hP
  refine lv_aload_n hx hb dX0_init_27 rfl (lv_at hl 0 rfl) ?_
  refine lv_iload_n hx hb dX0_init_28 rfl (lv_at hl 3 rfl) ?_
  refine w_putF (ad := va_up ad j q1) (C := C5) (fs := [.int x, .int y, .int 0, .ref q1, .int 0, .int 0, .int 0, .int 0, .int ((-1000000)), .null]) (i := i) cx (ci := 0) rfl iX0 tyX0_ok nmX0 hP hS (by rw [eC5, va_up_self]) 2 (by decide) k_111 rfl (hnm.trans rfl) rfl rfl rfl rfl (Nat.lt_of_lt_of_eq (show 2 < 10 by decide) rfl) dX0_init_29 (fun H locs hP hS => ?_)
  obtain ⟨C6, eC6⟩ : ∃ zz, zz = va_up C5 i (some (.inr (0, [.int x, .int y, .int z, .ref q1, .int 0, .int 0, .int 0, .int 0, .int ((-1000000)), .null]))) := ⟨_, rfl⟩
  have hP : pw G A (va_up ad j q1) C6 H := by rw [eC6]; exact hP
  refine lv_aload_n hx hb dX0_init_32 rfl (lv_at hl 0 rfl) ?_
  refine lv_iload hx hb dX0_init_33 (lv_at hl 4 rfl) ?_
  refine w_put (ad := va_up ad j q1) (C := C6) (fs := [.int x, .int y, .int z, .ref q1, .int 0, .int 0, .int 0, .int 0, .int ((-1000000)), .null]) (i := i) cx (ci := 0) rfl iX0 tyX0_ok nmX0 hP hS (by rw [eC6, va_up_self]) 4 (by decide) k_114 rfl rfl rfl rfl (Nat.lt_of_lt_of_eq (show 4 < 10 by decide) rfl) dX0_init_35 (fun H locs hP hS => ?_)
  obtain ⟨C7, eC7⟩ : ∃ zz, zz = va_up C6 i (some (.inr (0, [.int x, .int y, .int z, .ref q1, .int u, .int 0, .int 0, .int 0, .int ((-1000000)), .null]))) := ⟨_, rfl⟩
  have hP : pw G A (va_up ad j q1) C7 H := by rw [eC7]; exact hP
  refine x_void cx hr hlk (ad' := va_up ad j q1) ⟨⟨_, rfl⟩, hP.eq (fun k => ?_)⟩ hS dX0_init_38
  by_cases e1 : k = j
  · subst e1
    rw [va_up_self]; exact (by rw [eC7, va_up_ne _ _ (Ne.symm hne), eC6, va_up_ne _ _ (Ne.symm hne), eC5, va_up_ne _ _ (Ne.symm hne), eC4, va_up_ne _ _ (Ne.symm hne), eC3, va_up_ne _ _ (Ne.symm hne), eC2, va_up_ne _ _ (Ne.symm hne), eC1, va_up_self])
  · rw [va_up_ne _ _ e1]
    by_cases e2 : k = i
    · subst e2
      rw [va_up_self, va_up_self]; exact (by rw [eC7, va_up_self])
    · rw [va_up_ne _ _ e2]
      rw [eC7, va_up_ne _ _ e2, eC6, va_up_ne _ _ e2, eC5, va_up_ne _ _ e2, eC4, va_up_ne _ _ e2, eC3, va_up_ne _ _ e2, eC2, va_up_ne _ _ e2, eC1, va_up_ne _ _ e1]

set_option maxRecDepth 100000 in
theorem c_X2_init (l : Launch) (G : GG) (ad : Nat → Nat) : MW l yX2_init cX2_init 2 none 1 12 9 761 G ad (cO 2 [.null, .null, .null, .null, .null, .null, .null, .null, .null, .int 0, .int 0, .int 0, .int 0]) [.ref (ad 0)] none (fun ad' => cX G ad' S0 E0) (fun ad' => ad' 0 = ad 0) := by
  refine MW.of [(0, .ref (ad 0))] (by decide) (Nat.le_of_ble_eq_true rfl) rfl ?_
  intro p e s m args below meth c A cx hr hlk hnm hA hP ls hl
  have hx := cx.1.1
  have hb := cx.1.2.1
  have hS : va_S A s.heap s.heap [] := va_S.rf
  obtain ⟨C, eC⟩ : ∃ zz, zz = cO 2 [.null, .null, .null, .null, .null, .null, .null, .null, .null, .int 0, .int 0, .int 0, .int 0] := ⟨_, rfl⟩
  rw [← eC] at hP
  refine lv_aload_n hx hb dX2_init_0 rfl (lv_at hl 0 rfl) ?_
  refine W.objInit hx hb cx.1.2.2.2.1 (cx.1.2.2.2.2 _ k_38) (cx.1.2.2.2.2 _ k_39) (cx.1.2.2.2.2 _ k_40) rfl (by rw [cx.1.2.2.1]; exact hl.1) rfl dX2_init_1 (Nat.le_of_ble_eq_true rfl) (Nat.le_of_ble_eq_true rfl) ?_
  refine W.eq (g2 := F0 m 4 ls []) rfl ?_
  refine lv_aload_n hx hb dX2_init_4 rfl (lv_at hl 0 rfl) ?_
  refine lv_bipush (v := 40) hx hb dX2_init_5 (by decide) ?_
  refine w_newT (n := 40) 1 40 cx k_41 hP hS hA (by rw [eC]; rfl) (by decide) (by decide) (by decide) (Nat.le_of_ble_eq_true rfl) (Nat.le_of_ble_eq_true rfl) dX2_init_7 (fun q1 H hP hS => ?_)
  obtain ⟨C1, eC1⟩ : ∃ zz, zz = va_up C 1 (some (.inl (gT G, 40, .inr (.inr (.inr (.inr (fun _ => none))))))) := ⟨_, rfl⟩
  have hP : pw G A (va_up ad 1 q1) C1 H := by rw [eC1]; exact hP
  refine w_putF (ad := va_up ad 1 q1) (C := C1) (fs := [.null, .null, .null, .null, .null, .null, .null, .null, .null, .int 0, .int 0, .int 0, .int 0]) (i := 0) cx (ci := 2) rfl iX2 tyX2_ok nmX2 hP hS (by rw [eC1, va_up_ne _ _ (by decide)]; exact (by rw [eC]; rfl)) 0 (by decide) k_45 rfl (hnm.trans rfl) rfl rfl rfl rfl (Nat.lt_of_lt_of_eq (show 0 < 13 by decide) rfl) dX2_init_10 (fun H locs hP hS => ?_)
  obtain ⟨C2, eC2⟩ : ∃ zz, zz = va_up C1 0 (some (.inr (2, [.ref q1, .null, .null, .null, .null, .null, .null, .null, .null, .int 0, .int 0, .int 0, .int 0]))) := ⟨_, rfl⟩
  have hP : pw G A (va_up ad 1 q1) C2 H := by rw [eC2]; exact hP
  refine lv_aload_n hx hb dX2_init_13 rfl (lv_at hl 0 rfl) ?_
  refine lv_sipush (v := 300) hx hb dX2_init_14 (by decide) ?_
  refine w_newR (n := 300) 2 300 cx k_43 hP hS hA (by rw [eC2, va_up_ne _ _ (by decide), eC1, va_up_ne _ _ (by decide)]; exact (by rw [eC]; rfl)) (by decide) (by decide) (by decide) (Nat.le_of_ble_eq_true rfl) (Nat.le_of_ble_eq_true rfl) dX2_init_17 (fun q2 H hP hS => ?_)
  obtain ⟨C3, eC3⟩ : ∃ zz, zz = va_up C2 2 (some (.inl (gR G, 300, .inr (.inr (.inr (.inr (fun _ => none))))))) := ⟨_, rfl⟩
  have hP : pw G A (va_up (va_up ad 1 q1) 2 q2) C3 H := by rw [eC3]; exact hP
  refine w_putF (ad := va_up (va_up ad 1 q1) 2 q2) (C := C3) (fs := [.ref q1, .null, .null, .null, .null, .null, .null, .null, .null, .int 0, .int 0, .int 0, .int 0]) (i := 0) cx (ci := 2) rfl iX2 tyX2_ok nmX2 hP hS (by rw [eC3, va_up_ne _ _ (by decide), eC2, va_up_self]) 1 (by decide) k_46 rfl (hnm.trans rfl) rfl rfl rfl rfl (Nat.lt_of_lt_of_eq (show 1 < 13 by decide) rfl) dX2_init_20 (fun H locs hP hS => ?_)
  obtain ⟨C4, eC4⟩ : ∃ zz, zz = va_up C3 0 (some (.inr (2, [.ref q1, .ref q2, .null, .null, .null, .null, .null, .null, .null, .int 0, .int 0, .int 0, .int 0]))) := ⟨_, rfl⟩
  have hP : pw G A (va_up (va_up ad 1 q1) 2 q2) C4 H := by rw [eC4]; exact hP
  refine lv_aload_n hx hb dX2_init_23 rfl (lv_at hl 0 rfl) ?_
  refine lv_iconst (v := 4) hx hb dX2_init_24 (by decide) ?_
  refine w_newI (n := 4) 3 4 cx k_85 hP hS hA (by rw [eC4, va_up_ne _ _ (by decide), eC3, va_up_ne _ _ (by decide), eC2, va_up_ne _ _ (by decide), eC1, va_up_ne _ _ (by decide)]; exact (by rw [eC]; rfl)) (by decide) (by decide) (by decide) (Nat.le_of_ble_eq_true rfl) (Nat.le_of_ble_eq_true rfl) dX2_init_25 (fun q3 H hP hS => ?_)
  obtain ⟨C5, eC5⟩ : ∃ zz, zz = va_up C4 3 (some (.inl (gI G, 4, .inl (fun _ => 0)))) := ⟨_, rfl⟩
  have hP : pw G A (va_up (va_up (va_up ad 1 q1) 2 q2) 3 q3) C5 H := by rw [eC5]; exact hP
  refine w_putF (ad := va_up (va_up (va_up ad 1 q1) 2 q2) 3 q3) (C := C5) (fs := [.ref q1, .ref q2, .null, .null, .null, .null, .null, .null, .null, .int 0, .int 0, .int 0, .int 0]) (i := 0) cx (ci := 2) rfl iX2 tyX2_ok nmX2 hP hS (by rw [eC5, va_up_ne _ _ (by decide), eC4, va_up_self]) 2 (by decide) k_47 rfl (hnm.trans rfl) rfl rfl rfl rfl (Nat.lt_of_lt_of_eq (show 2 < 13 by decide) rfl) dX2_init_27 (fun H locs hP hS => ?_)
  obtain ⟨C6, eC6⟩ : ∃ zz, zz = va_up C5 0 (some (.inr (2, [.ref q1, .ref q2, .ref q3, .null, .null, .null, .null, .null, .null, .int 0, .int 0, .int 0, .int 0]))) := ⟨_, rfl⟩
  have hP : pw G A (va_up (va_up (va_up ad 1 q1) 2 q2) 3 q3) C6 H := by rw [eC6]; exact hP
  refine lv_aload_n hx hb dX2_init_30 rfl (lv_at hl 0 rfl) ?_
  refine lv_iconst (v := 4) hx hb dX2_init_31 (by decide) ?_
  refine w_newI (n := 4) 4 4 cx k_85 hP hS hA (by rw [eC6, va_up_ne _ _ (by decide), eC5, va_up_ne _ _ (by decide), eC4, va_up_ne _ _ (by decide), eC3, va_up_ne _ _ (by decide), eC2, va_up_ne _ _ (by decide), eC1, va_up_ne _ _ (by decide)]; exact (by rw [eC]; rfl)) (by decide) (by decide) (by decide) (Nat.le_of_ble_eq_true rfl) (Nat.le_of_ble_eq_true rfl) dX2_init_32 (fun q4 H hP hS => ?_)
  obtain ⟨C7, eC7⟩ : ∃ zz, zz = va_up C6 4 (some (.inl (gI G, 4, .inl (fun _ => 0)))) := ⟨_, rfl⟩
  have hP : pw G A (va_up (va_up (va_up (va_up ad 1 q1) 2 q2) 3 q3) 4 q4) C7 H := by rw [eC7]; exact hP
  refine w_putF (ad := va_up (va_up (va_up (va_up ad 1 q1) 2 q2) 3 q3) 4 q4) (C := C7) (fs := [.ref q1, .ref q2, .ref q3, .null, .null, .null, .null, .null, .null, .int 0, .int 0, .int 0, .int 0]) (i := 0) cx (ci := 2) rfl iX2 tyX2_ok nmX2 hP hS (by rw [eC7, va_up_ne _ _ (by decide), eC6, va_up_self]) 3 (by decide) k_48 rfl (hnm.trans rfl) rfl rfl rfl rfl (Nat.lt_of_lt_of_eq (show 3 < 13 by decide) rfl) dX2_init_34 (fun H locs hP hS => ?_)
  obtain ⟨C8, eC8⟩ : ∃ zz, zz = va_up C7 0 (some (.inr (2, [.ref q1, .ref q2, .ref q3, .ref q4, .null, .null, .null, .null, .null, .int 0, .int 0, .int 0, .int 0]))) := ⟨_, rfl⟩
  have hP : pw G A (va_up (va_up (va_up (va_up ad 1 q1) 2 q2) 3 q3) 4 q4) C8 H := by rw [eC8]; exact hP
  refine lv_aload_n hx hb dX2_init_37 rfl (lv_at hl 0 rfl) ?_
  refine lv_bipush (v := 10) hx hb dX2_init_38 (by decide) ?_
  refine w_newI (n := 10) 5 10 cx k_85 hP hS hA (by rw [eC8, va_up_ne _ _ (by decide), eC7, va_up_ne _ _ (by decide), eC6, va_up_ne _ _ (by decide), eC5, va_up_ne _ _ (by decide), eC4, va_up_ne _ _ (by decide), eC3, va_up_ne _ _ (by decide), eC2, va_up_ne _ _ (by decide), eC1, va_up_ne _ _ (by decide)]; exact (by rw [eC]; rfl)) (by decide) (by decide) (by decide) (Nat.le_of_ble_eq_true rfl) (Nat.le_of_ble_eq_true rfl) dX2_init_40 (fun q5 H hP hS => ?_)
  obtain ⟨C9, eC9⟩ : ∃ zz, zz = va_up C8 5 (some (.inl (gI G, 10, .inl (fun _ => 0)))) := ⟨_, rfl⟩
  have hP : pw G A (va_up (va_up (va_up (va_up (va_up ad 1 q1) 2 q2) 3 q3) 4 q4) 5 q5) C9 H := by rw [eC9]; exact hP
  refine w_putF (ad := va_up (va_up (va_up (va_up (va_up ad 1 q1) 2 q2) 3 q3) 4 q4) 5 q5) (C := C9) (fs := [.ref q1, .ref q2, .ref q3, .ref q4, .null, .null, .null, .null, .null, .int 0, .int 0, .int 0, .int 0]) (i := 0) cx (ci := 2) rfl iX2 tyX2_ok nmX2 hP hS (by rw [eC9, va_up_ne _ _ (by decide), eC8, va_up_self]) 4 (by decide) k_49 rfl (hnm.trans rfl) rfl rfl rfl rfl (Nat.lt_of_lt_of_eq (show 4 < 13 by decide) rfl) dX2_init_42 (fun H locs hP hS => ?_)
  obtain ⟨C10, eC10⟩ : ∃ zz, zz = va_up C9 0 (some (.inr (2, [.ref q1, .ref q2, .ref q3, .ref q4, .ref q5, .null, .null, .null, .null, .int 0, .int 0, .int 0, .int 0]))) := ⟨_, rfl⟩
  have hP : pw G A (va_up (va_up (va_up (va_up (va_up ad 1 q1) 2 q2) 3 q3) 4 q4) 5 q5) C10 H := by rw [eC10]; exact hP
  refine lv_aload_n hx hb dX2_init_45 rfl (lv_at hl 0 rfl) ?_
  refine lv_bipush (v := 10) hx hb dX2_init_46 (by decide) ?_
  refine w_newJ (n := 10) 6 10 cx k_86 hP hS hA (by rw [eC10, va_up_ne _ _ (by decide), eC9, va_up_ne _ _ (by decide), eC8, va_up_ne _ _ (by decide), eC7, va_up_ne _ _ (by decide), eC6, va_up_ne _ _ (by decide), eC5, va_up_ne _ _ (by decide), eC4, va_up_ne _ _ (by decide), eC3, va_up_ne _ _ (by decide), eC2, va_up_ne _ _ (by decide), eC1, va_up_ne _ _ (by decide)]; exact (by rw [eC]; rfl)) (by decide) (by decide) (by decide) (Nat.le_of_ble_eq_true rfl) (Nat.le_of_ble_eq_true rfl) dX2_init_48 (fun q6 H hP hS => ?_)
  obtain ⟨C11, eC11⟩ : ∃ zz, zz = va_up C10 6 (some (.inl (gJ G, 10, .inr (.inl (fun _ => 0))))) := ⟨_, rfl⟩
  have hP : pw G A (va_up (va_up (va_up (va_up (va_up (va_up ad 1 q1) 2 q2) 3 q3) 4 q4) 5 q5) 6 q6) C11 H := by rw [eC11]; exact hP
  refine w_putF (ad := va_up (va_up (va_up (va_up (va_up (va_up ad 1 q1) 2 q2) 3 q3) 4 q4) 5 q5) 6 q6) (C := C11) (fs := [.ref q1, .ref q2, .ref q3, .ref q4, .ref q5, .null, .null, .null, .null, .int 0, .int 0, .int 0, .int 0]) (i := 0) cx (ci := 2) rfl iX2 tyX2_ok nmX2 hP hS (by rw [eC11, va_up_ne _ _ (by decide), eC10, va_up_self]) 5 (by decide) k_50 rfl (hnm.trans rfl) rfl rfl rfl rfl (Nat.lt_of_lt_of_eq (show 5 < 13 by decide) rfl) dX2_init_50 (fun H locs hP hS => ?_)
  obtain ⟨C12, eC12⟩ : ∃ zz, zz = va_up C11 0 (some (.inr (2, [.ref q1, .ref q2, .ref q3, .ref q4, .ref q5, .ref q6, .null, .null, .null, .int 0, .int 0, .int 0, .int 0]))) := ⟨_, rfl⟩
  have hP : pw G A (va_up (va_up (va_up (va_up (va_up (va_up ad 1 q1) 2 q2) 3 q3) 4 q4) 5 q5) 6 q6) C12 H := by rw [eC12]; exact hP
  refine lv_aload_n hx hb dX2_init_53 rfl (lv_at hl 0 rfl) ?_
  refine lv_sipush (v := 313) hx hb dX2_init_54 (by decide) ?_
  refine w_newI (n := 313) 7 313 cx k_85 hP hS hA (by rw [eC12, va_up_ne _ _ (by decide), eC11, va_up_ne _ _ (by decide), eC10, va_up_ne _ _ (by decide), eC9, va_up_ne _ _ (by decide), eC8, va_up_ne _ _ (by decide), eC7, va_up_ne _ _ (by decide), eC6, va_up_ne _ _ (by decide), eC5, va_up_ne _ _ (by decide), eC4, va_up_ne _ _ (by decide), eC3, va_up_ne _ _ (by decide), eC2, va_up_ne _ _ (by decide), eC1, va_up_ne _ _ (by decide)]; exact (by rw [eC]; rfl)) (by decide) (by decide) (by decide) (Nat.le_of_ble_eq_true rfl) (Nat.le_of_ble_eq_true rfl) dX2_init_57 (fun q7 H hP hS => ?_)
  obtain ⟨C13, eC13⟩ : ∃ zz, zz = va_up C12 7 (some (.inl (gI G, 313, .inl (fun _ => 0)))) := ⟨_, rfl⟩
  have hP : pw G A (va_up (va_up (va_up (va_up (va_up (va_up (va_up ad 1 q1) 2 q2) 3 q3) 4 q4) 5 q5) 6 q6) 7 q7) C13 H := by rw [eC13]; exact hP
  refine w_putF (ad := va_up (va_up (va_up (va_up (va_up (va_up (va_up ad 1 q1) 2 q2) 3 q3) 4 q4) 5 q5) 6 q6) 7 q7) (C := C13) (fs := [.ref q1, .ref q2, .ref q3, .ref q4, .ref q5, .ref q6, .null, .null, .null, .int 0, .int 0, .int 0, .int 0]) (i := 0) cx (ci := 2) rfl iX2 tyX2_ok nmX2 hP hS (by rw [eC13, va_up_ne _ _ (by decide), eC12, va_up_self]) 6 (by decide) k_51 rfl (hnm.trans rfl) rfl rfl rfl rfl (Nat.lt_of_lt_of_eq (show 6 < 13 by decide) rfl) dX2_init_59 (fun H locs hP hS => ?_)
  obtain ⟨C14, eC14⟩ : ∃ zz, zz = va_up C13 0 (some (.inr (2, [.ref q1, .ref q2, .ref q3, .ref q4, .ref q5, .ref q6, .ref q7, .null, .null, .int 0, .int 0, .int 0, .int 0]))) := ⟨_, rfl⟩
  have hP : pw G A (va_up (va_up (va_up (va_up (va_up (va_up (va_up ad 1 q1) 2 q2) 3 q3) 4 q4) 5 q5) 6 q6) 7 q7) C14 H := by rw [eC14]; exact hP
  refine lv_aload_n hx hb dX2_init_62 rfl (lv_at hl 0 rfl) ?_
  refine lv_bipush (v := 40) hx hb dX2_init_63 (by decide) ?_
  refine w_newI (n := 40) 8 40 cx k_85 hP hS hA (by rw [eC14, va_up_ne _ _ (by decide), eC13, va_up_ne _ _ (by decide), eC12, va_up_ne _ _ (by decide), eC11, va_up_ne _ _ (by decide), eC10, va_up_ne _ _ (by decide), eC9, va_up_ne _ _ (by decide), eC8, va_up_ne _ _ (by decide), eC7, va_up_ne _ _ (by decide), eC6, va_up_ne _ _ (by decide), eC5, va_up_ne _ _ (by decide), eC4, va_up_ne _ _ (by decide), eC3, va_up_ne _ _ (by decide), eC2, va_up_ne _ _ (by decide), eC1, va_up_ne _ _ (by decide)]; exact (by rw [eC]; rfl)) (by decide) (by decide) (by decide) (Nat.le_of_ble_eq_true rfl) (Nat.le_of_ble_eq_true rfl) dX2_init_65 (fun q8 H hP hS => ?_)
  obtain ⟨C15, eC15⟩ : ∃ zz, zz = va_up C14 8 (some (.inl (gI G, 40, .inl (fun _ => 0)))) := ⟨_, rfl⟩
  have hP : pw G A (va_up (va_up (va_up (va_up (va_up (va_up (va_up (va_up ad 1 q1) 2 q2) 3 q3) 4 q4) 5 q5) 6 q6) 7 q7) 8 q8) C15 H := by rw [eC15]; exact hP
  refine w_putF (ad := va_up (va_up (va_up (va_up (va_up (va_up (va_up (va_up ad 1 q1) 2 q2) 3 q3) 4 q4) 5 q5) 6 q6) 7 q7) 8 q8) (C := C15) (fs := [.ref q1, .ref q2, .ref q3, .ref q4, .ref q5, .ref q6, .ref q7, .null, .null, .int 0, .int 0, .int 0, .int 0]) (i := 0) cx (ci := 2) rfl iX2 tyX2_ok nmX2 hP hS (by rw [eC15, va_up_ne _ _ (by decide), eC14, va_up_self]) 7 (by decide) k_52 rfl (hnm.trans rfl) rfl rfl rfl rfl (Nat.lt_of_lt_of_eq (show 7 < 13 by decide) rfl) dX2_init_67 (fun H locs hP hS => ?_)
  obtain ⟨C16, eC16⟩ : ∃ zz, zz = va_up C15 0 (some (.inr (2, [.ref q1, .ref q2, .ref q3, .ref q4, .ref q5, .ref q6, .ref q7, .ref q8, .null, .int 0, .int 0, .int 0, .int 0]))) := ⟨_, rfl⟩
  have hP : pw G A (va_up (va_up (va_up (va_up (va_up (va_up (va_up (va_up ad 1 q1) 2 q2) 3 q3) 4 q4) 5 q5) 6 q6) 7 q7) 8 q8) C16 H := by rw [eC16]; exact hP
  refine lv_aload_n hx hb dX2_init_70 rfl (lv_at hl 0 rfl) ?_
  refine lv_bipush (v := 40) hx hb dX2_init_71 (by decide) ?_
  refine w_newJ (n := 40) 9 40 cx k_86 hP hS hA (by rw [eC16, va_up_ne _ _ (by decide), eC15, va_up_ne _ _ (by decide), eC14, va_up_ne _ _ (by decide), eC13, va_up_ne _ _ (by decide), eC12, va_up_ne _ _ (by decide), eC11, va_up_ne _ _ (by decide), eC10, va_up_ne _ _ (by decide), eC9, va_up_ne _ _ (by decide), eC8, va_up_ne _ _ (by decide), eC7, va_up_ne _ _ (by decide), eC6, va_up_ne _ _ (by decide), eC5, va_up_ne _ _ (by decide), eC4, va_up_ne _ _ (by decide), eC3, va_up_ne _ _ (by decide), eC2, va_up_ne _ _ (by decide), eC1, va_up_ne _ _ (by decide)]; exact (by rw [eC]; rfl)) (by decide) (by decide) (by decide) (Nat.le_of_ble_eq_true rfl) (Nat.le_of_ble_eq_true rfl) dX2_init_73 (fun q9 H hP hS => ?_)
  obtain ⟨C17, eC17⟩ : ∃ zz, zz = va_up C16 9 (some (.inl (gJ G, 40, .inr (.inl (fun _ => 0))))) := ⟨_, rfl⟩
  have hP : pw G A (va_up (va_up (va_up (va_up (va_up (va_up (va_up (va_up (va_up ad 1 q1) 2 q2) 3 q3) 4 q4) 5 q5) 6 q6) 7 q7) 8 q8) 9 q9) C17 H := by rw [eC17]; exact hP
  refine w_putF (ad := va_up (va_up (va_up (va_up (va_up (va_up (va_up (va_up (va_up ad 1 q1) 2 q2) 3 q3) 4 q4) 5 q5) 6 q6) 7 q7) 8 q8) 9 q9) (C := C17) (fs := [.ref q1, .ref q2, .ref q3, .ref q4, .ref q5, .ref q6, .ref q7, .ref q8, .null, .int 0, .int 0, .int 0, .int 0]) (i := 0) cx (ci := 2) rfl iX2 tyX2_ok nmX2 hP hS (by rw [eC17, va_up_ne _ _ (by decide), eC16, va_up_self]) 8 (by decide) k_53 rfl (hnm.trans rfl) rfl rfl rfl rfl (Nat.lt_of_lt_of_eq (show 8 < 13 by decide) rfl) dX2_init_75 (fun H locs hP hS => ?_)
  obtain ⟨C18, eC18⟩ : ∃ zz, zz = va_up C17 0 (some (.inr (2, [.ref q1, .ref q2, .ref q3, .ref q4, .ref q5, .ref q6, .ref q7, .ref q8, .ref q9, .int 0, .int 0, .int 0, .int 0]))) := ⟨_, rfl⟩
  have hP : pw G A (va_up (va_up (va_up (va_up (va_up (va_up (va_up (va_up (va_up ad 1 q1) 2 q2) 3 q3) 4 q4) 5 q5) 6 q6) 7 q7) 8 q8) 9 q9) C18 H := by rw [eC18]; exact hP
  refine lv_iconst (v := 1) hx hb dX2_init_78 (by decide) ?_
  refine lv_istore_n (lv' := [(1, .int 1), (0, .ref (ad 0))]) hx hb dX2_init_79 rfl hl (by decide) rfl (fun ls hl => ?_)
  refine lv_iload_n hx hb dX2_init_80 rfl (lv_at hl 0 rfl) ?_
  refine lv_iconst (v := 3) hx hb dX2_init_81 (by decide) ?_
  refine lv_icmp_gt (tgt := 108) hx hb dX2_init_82 (by decide) (fun c_1 => ?_) (fun c_1 => ?_)
  · exact absurd c_1 (by decide)
  refine lv_aload_n hx hb dX2_init_85 rfl (lv_at hl 1 rfl) ?_
  refine w_get (fs := [.ref q1, .ref q2, .ref q3, .ref q4, .ref q5, .ref q6, .ref q7, .ref q8, .ref q9, .int 0, .int 0, .int 0, .int 0]) cx (ci := 2) rfl iX2 (hP.pa 0 _ (by rw [eC18, va_up_self])) 2 (by decide) k_47 (v := .ref q3) rfl dX2_init_86 ?_
  refine lv_iload_n hx hb dX2_init_89 rfl (lv_at hl 0 rfl) ?_
  refine lv_bipush (v := 100) hx hb dX2_init_90 (by decide) ?_
  refine w_iast (ad := va_up (va_up (va_up (va_up (va_up (va_up (va_up (va_up (va_up ad 1 q1) 2 q2) 3 q3) 4 q4) 5 q5) 6 q6) 7 q7) 8 q8) 9 q9) (C := C18) (n := 4) (f := fun _ => 0) (i := 3) cx hP hS (by rw [eC18, va_up_ne _ _ (by decide), eC17, va_up_ne _ _ (by decide), eC16, va_up_ne _ _ (by decide), eC15, va_up_ne _ _ (by decide), eC14, va_up_ne _ _ (by decide), eC13, va_up_ne _ _ (by decide), eC12, va_up_ne _ _ (by decide), eC11, va_up_ne _ _ (by decide), eC10, va_up_ne _ _ (by decide), eC9, va_up_ne _ _ (by decide), eC8, va_up_ne _ _ (by decide), eC7, va_up_ne _ _ (by decide), eC6, va_up_ne _ _ (by decide), eC5, va_up_self]) 1 rfl (by decide) (by decide) dX2_init_92 (fun H locs hP hS => ?_)
  obtain ⟨C19, eC19⟩ : ∃ zz, zz = va_up C18 3 (some (.inl (gI G, 4, .inl (upd (fun _ => 0) 1 100)))) := ⟨_, rfl⟩
  have hP : pw G A (va_up (va_up (va_up (va_up (va_up (va_up (va_up (va_up (va_up ad 1 q1) 2 q2) 3 q3) 4 q4) 5 q5) 6 q6) 7 q7) 8 q8) 9 q9) C19 H := by rw [eC19]; exact hP
  refine lv_aload_n hx hb dX2_init_93 rfl (lv_at hl 1 rfl) ?_
  refine w_get (fs := [.ref q1, .ref q2, .ref q3, .ref q4, .ref q5, .ref q6, .ref q7, .ref q8, .ref q9, .int 0, .int 0, .int 0, .int 0]) cx (ci := 2) rfl iX2 (hP.pa 0 _ (by rw [eC19, va_up_ne _ _ (by decide), eC18, va_up_self])) 3 (by decide) k_48 (v := .ref q4) rfl dX2_init_94 ?_
  refine lv_iload_n hx hb dX2_init_97 rfl (lv_at hl 0 rfl) ?_
  refine lv_sipush (v := 200) hx hb dX2_init_98 (by decide) ?_
  refine w_iast (ad := va_up (va_up (va_up (va_up (va_up (va_up (va_up (va_up (va_up ad 1 q1) 2 q2) 3 q3) 4 q4) 5 q5) 6 q6) 7 q7) 8 q8) 9 q9) (C := C19) (n := 4) (f := fun _ => 0) (i := 4) cx hP hS (by rw [eC19, va_up_ne _ _ (by decide), eC18, va_up_ne _ _ (by decide), eC17, va_up_ne _ _ (by decide), eC16, va_up_ne _ _ (by decide), eC15, va_up_ne _ _ (by decide), eC14, va_up_ne _ _ (by decide), eC13, va_up_ne _ _ (by decide), eC12, va_up_ne _ _ (by decide), eC11, va_up_ne _ _ (by decide), eC10, va_up_ne _ _ (by decide), eC9, va_up_ne _ _ (by decide), eC8, va_up_ne _ _ (by decide), eC7, va_up_self]) 1 rfl (by decide) (by decide) dX2_init_101 (fun H locs hP hS => ?_)
  obtain ⟨C20, eC20⟩ : ∃ zz, zz = va_up C19 4 (some (.inl (gI G, 4, .inl (upd (fun _ => 0) 1 200)))) := ⟨_, rfl⟩
  have hP : pw G A (va_up (va_up (va_up (va_up (va_up (va_up (va_up (va_up (va_up ad 1 q1) 2 q2) 3 q3) 4 q4) 5 q5) 6 q6) 7 q7) 8 q8) 9 q9) C20 H := by rw [eC20]; exact hP
  refine lv_iinc (v := 2) (lv' := [(1, .int 2), (0, .ref (ad 0))]) hx hb dX2_init_102 hl (k := 0) rfl (by decide) (by decide) rfl (fun ls hl => ?_)
  refine lv_goto (tgt := 80) hx hb dX2_init_105 (by decide) ?_
  refine lv_iload_n hx hb dX2_init_80 rfl (lv_at hl 0 rfl) ?_
  refine lv_iconst (v := 3) hx hb dX2_init_81 (by decide) ?_
  refine lv_icmp_gt (tgt := 108) hx hb dX2_init_82 (by decide) (fun c_1 => ?_) (fun c_1 => ?_)
  · exact absurd c_1 (by decide)
  refine lv_aload_n hx hb dX2_init_85 rfl (lv_at hl 1 rfl) ?_
  refine w_get (fs := [.ref q1, .ref q2, .ref q3, .ref q4, .ref q5, .ref q6, .ref q7, .ref q8, .ref q9, .int 0, .int 0, .int 0, .int 0]) cx (ci := 2) rfl iX2 (hP.pa 0 _ (by rw [eC20, va_up_ne _ _ (by decide), eC19, va_up_ne _ _ (by decide), eC18, va_up_self])) 2 (by decide) k_47 (v := .ref q3) rfl dX2_init_86 ?_
  refine lv_iload_n hx hb dX2_init_89 rfl (lv_at hl 0 rfl) ?_
  refine lv_bipush (v := 100) hx hb dX2_init_90 (by decide) ?_
  refine w_iast (ad := va_up (va_up (va_up (va_up (va_up (va_up (va_up (va_up (va_up ad 1 q1) 2 q2) 3 q3) 4 q4) 5 q5) 6 q6) 7 q7) 8 q8) 9 q9) (C := C20) (n := 4) (f := upd (fun _ => 0) 1 100) (i := 3) cx hP hS (by rw [eC20, va_up_ne _ _ (by decide), eC19, va_up_self]) 2 rfl (by decide) (by decide) dX2_init_92 (fun H locs hP hS => ?_)
  obtain ⟨C21, eC21⟩ : ∃ zz, zz = va_up C20 3 (some (.inl (gI G, 4, .inl (upd (upd (fun _ => 0) 1 100) 2 100)))) := ⟨_, rfl⟩
  have hP : pw G A (va_up (va_up (va_up (va_up (va_up (va_up (va_up (va_up (va_up ad 1 q1) 2 q2) 3 q3) 4 q4) 5 q5) 6 q6) 7 q7) 8 q8) 9 q9) C21 H := by rw [eC21]; exact hP
  refine lv_aload_n hx hb dX2_init_93 rfl (lv_at hl 1 rfl) ?_
  refine w_get (fs := [.ref q1, .ref q2, .ref q3, .ref q4, .ref q5, .ref q6, .ref q7, .ref q8, .ref q9, .int 0, .int 0, .int 0, .int 0]) cx (ci := 2) rfl iX2 (hP.pa 0 _ (by rw [eC21, va_up_ne _ _ (by decide), eC20, va_up_ne _ _ (by decide), eC19, va_up_ne _ _ (by decide), eC18, va_up_self])) 3 (by decide) k_48 (v := .ref q4) rfl dX2_init_94 ?_
  refine lv_iload_n hx hb dX2_init_97 rfl (lv_at hl 0 rfl) ?_
  refine lv_sipush (v := 200) hx hb dX2_init_98 (by decide) ?_
  refine w_iast (ad := va_up (va_up (va_up (va_up (va_up (va_up (va_up (va_up (va_up ad 1 q1) 2 q2) 3 q3) 4 q4) 5 q5) 6 q6) 7 q7) 8 q8) 9 q9) (C := C21) (n := 4) (f := upd (fun _ => 0) 1 200) (i := 4) cx hP hS (by rw [eC21, va_up_ne _ _ (by decide), eC20, va_up_self]) 2 rfl (by decide) (by decide) dX2_init_101 (fun H locs hP hS => ?_)
  obtain ⟨C22, eC22⟩ : ∃ zz, zz = va_up C21 4 (some (.inl (gI G, 4, .inl (upd (upd (fun _ => 0) 1 200) 2 200)))) := ⟨_, rfl⟩
  have hP : pw G A (va_up (va_up (va_up (va_up (va_up (va_up (va_up (va_up (va_up ad 1 q1) 2 q2) 3 q3) 4 q4) 5 q5) 6 q6) 7 q7) 8 q8) 9 q9) C22 H := by rw [eC22]; exact hP
  refine lv_iinc (v := 3) (lv' := [(1, .int 3), (0, .ref (ad 0))]) hx hb dX2_init_102 hl (k := 0) rfl (by decide) (by decide) rfl (fun ls hl => ?_)
  refine lv_goto (tgt := 80) hx hb dX2_init_105 (by decide) ?_
  refine lv_iload_n hx hb dX2_init_80 rfl (lv_at hl 0 rfl) ?_
  refine lv_iconst (v := 3) hx hb dX2_init_81 (by decide) ?_
  refine lv_icmp_gt (tgt := 108) hx hb dX2_init_82 (by decide) (fun c_1 => ?_) (fun c_1 => ?_)
  · exact absurd c_1 (by decide)
  refine lv_aload_n hx hb dX2_init_85 rfl (lv_at hl 1 rfl) ?_
  refine w_get (fs := [.ref q1, .ref q2, .ref q3, .ref q4, .ref q5, .ref q6, .ref q7, .ref q8, .ref q9, .int 0, .int 0, .int 0, .int 0]) cx (ci := 2) rfl iX2 (hP.pa 0 _ (by rw [eC22, va_up_ne _ _ (by decide), eC21, va_up_ne _ _ (by decide), eC20, va_up_ne _ _ (by decide), eC19, va_up_ne _ _ (by decide), eC18, va_up_self])) 2 (by decide) k_47 (v := .ref q3) rfl dX2_init_86 ?_
  refine lv_iload_n hx hb dX2_init_89 rfl (lv_at hl 0 rfl) ?_
  refine lv_bipush (v := 100) hx hb dX2_init_90 (by decide) ?_
  refine w_iast (ad := va_up (va_up (va_up (va_up (va_up (va_up (va_up (va_up (va_up ad 1 q1) 2 q2) 3 q3) 4 q4) 5 q5) 6 q6) 7 q7) 8 q8) 9 q9) (C := C22) (n := 4) (f := upd (upd (fun _ => 0) 1 100) 2 100) (i := 3) cx hP hS (by rw [eC22, va_up_ne _ _ (by decide), eC21, va_up_self]) 3 rfl (by decide) (by decide) dX2_init_92 (fun H locs hP hS => ?_)
  obtain ⟨C23, eC23⟩ : ∃ zz, zz = va_up C22 3 (some (.inl (gI G, 4, .inl (upd (upd (upd (fun _ => 0) 1 100) 2 100) 3 100)))) := ⟨_, rfl⟩
  have hP : pw G A (va_up (va_up (va_up (va_up (va_up (va_up (va_up (va_up (va_up ad 1 q1) 2 q2) 3 q3) 4 q4) 5 q5) 6 q6) 7 q7) 8 q8) 9 q9) C23 H := by rw [eC23]; exact hP
  refine lv_aload_n hx hb dX2_init_93 rfl (lv_at hl 1 rfl) ?_
  refine w_get (fs := [.ref q1, .ref q2, .ref q3, .ref q4, .ref q5, .ref q6, .ref q7, .ref q8, .ref q9, .int 0, .int 0, .int 0, .int 0]) cx (ci := 2) rfl iX2 (hP.pa 0 _ (by rw [eC23, va_up_ne _ _ (by decide), eC22, va_up_ne _ _ (by decide), eC21, va_up_ne _ _ (by decide), eC20, va_up_ne _ _ (by decide), eC19, va_up_ne _ _ (by decide), eC18, va_up_self])) 3 (by decide) k_48 (v := .ref q4) rfl dX2_init_94 ?_
  refine lv_iload_n hx hb dX2_init_97 rfl (lv_at hl 0 rfl) ?_
  refine lv_sipush (v := 200) hx hb dX2_init_98 (by decide) ?_
  refine w_iast (ad := va_up (va_up (va_up (va_up (va_up (va_up (va_up (va_up (va_up ad 1 q1) 2 q2) 3 q3) 4 q4) 5 q5) 6 q6) 7 q7) 8 q8) 9 q9) (C := C23) (n := 4) (f := upd (upd (fun _ => 0) 1 200) 2 200) (i := 4) cx hP hS (by rw [eC23, va_up_ne _ _ (by decide), eC22, va_up_self]) 3 rfl (by decide) (by decide) dX2_init_101 (fun H locs hP hS => ?_)
  obtain ⟨C24, eC24⟩ : ∃ zz, zz = va_up C23 4 (some (.inl (gI G, 4, .inl (upd (upd (upd (fun _ => 0) 1 200) 2 200) 3 200)))) := ⟨_, rfl⟩
  have hP : pw G A (va_up (va_up (va_up (va_up (va_up (va_up (va_up (va_up (va_up ad 1 q1) 2 q2) 3 q3) 4 q4) 5 q5) 6 q6) 7 q7) 8 q8) 9 q9) C24 H := by rw [eC24]; exact hP
  refine lv_iinc (v := 4) (lv' := [(1, .int 4), (0, .ref (ad 0))]) hx hb dX2_init_102 hl (k := 0) rfl (by decide) (by decide) rfl (fun ls hl => ?_)
  refine lv_goto (tgt := 80) hx hb dX2_init_105 (by decide) ?_
  refine lv_iload_n hx hb dX2_init_80 rfl (lv_at hl 0 rfl) ?_
  refine lv_iconst (v := 3) hx hb dX2_init_81 (by decide) ?_
  refine lv_icmp_gt (tgt := 108) hx hb dX2_init_82 (by decide) (fun c_1 => ?_) (fun c_1 => ?_)
  rotate_left
  · exact absurd (by decide) c_1
  refine x_void cx hr hlk (ad' := va_up (va_up (va_up (va_up (va_up (va_up (va_up (va_up (va_up ad 1 q1) 2 q2) 3 q3) 4 q4) 5 q5) 6 q6) 7 q7) 8 q8) 9 q9) ⟨rfl, hP.eq (fun k => ?_)⟩ hS dX2_init_108
  clear hP hS
  subst eC24
  subst eC23
  subst eC22
  subst eC21
  subst eC20
  subst eC19
  subst eC18
  subst eC17
  subst eC16
  subst eC15
  subst eC14
  subst eC13
  subst eC12
  subst eC11
  subst eC10
  subst eC9
  subst eC8
  subst eC7
  subst eC6
  subst eC5
  subst eC4
  subst eC3
  subst eC2
  subst eC1
  subst eC
  match k with
  | 0 | 1 | 2 | 5 | 6 | 7 | 8 | 9 => rfl
  | 3 => exact congrArg some (congrArg Sum.inl (congrArg (fun f => (gI G, 4, Sum.inl f)) e100))
  | 4 => exact congrArg some (congrArg Sum.inl (congrArg (fun f => (gI G, 4, Sum.inl f)) e200))
  | k + 10 => exact (cX_new k).symm

set_option maxRecDepth 100000 in
set_option maxHeartbeats 4000000 in
theorem c_X3_init (l : Launch) (G : GG) (ad : Nat → Nat) : MW l yX3_init cX3_init 2 none 1 12 24 13208 G ad (cO 3 [.int 0, .int 0, .null, .null, .null, .null, .null, .null, .null, .null, .null, .null, .null, .null, .null, .int 0, .null, .null, .null, .null, .null, .null, .null, .null, .null, .int 0, .null, .null]) [.ref (ad 0)] none (fun ad' => cM G ad' S0) (fun ad' => ad' 0 = ad 0) := by
  refine MW.of [(0, .ref (ad 0))] (by decide) (Nat.le_of_ble_eq_true rfl) rfl ?_
  intro p e s m args below meth c A cx hr hlk hnm hA hP ls hl
  have hx := cx.1.1
  have hb := cx.1.2.1
  have hS : va_S A s.heap s.heap [] := va_S.rf
  obtain ⟨C, eC⟩ : ∃ zz, zz = cO 3 [.int 0, .int 0, .null, .null, .null, .null, .null, .null, .null, .null, .null, .null, .null, .null, .null, .int 0, .null, .null, .null, .null, .null, .null, .null, .null, .null, .int 0, .null, .null] := ⟨_, rfl⟩
  rw [← eC] at hP
  refine lv_aload_n hx hb dX3_init_0 rfl (lv_at hl 0 rfl) ?_
  refine W.objInit hx hb cx.1.2.2.2.1 (cx.1.2.2.2.2 _ k_450) (cx.1.2.2.2.2 _ k_39) (cx.1.2.2.2.2 _ k_40) rfl (by rw [cx.1.2.2.1]; exact hl.1) rfl dX3_init_1 (Nat.le_of_ble_eq_true rfl) (Nat.le_of_ble_eq_true rfl) ?_
  refine W.eq (g2 := F0 m 4 ls []) rfl ?_
  refine lv_aload_n hx hb dX3_init_4 rfl (lv_at hl 0 rfl) ?_
  refine lv_bipush (v := 40) hx hb dX3_init_5 (by decide) ?_
  refine w_newI (n := 40) 1 40 cx k_85 hP hS hA (by rw [eC]; rfl) (by decide) (by decide) (by decide) (Nat.le_of_ble_eq_true rfl) (Nat.le_of_ble_eq_true rfl) dX3_init_7 (fun q1 H hP hS => ?_)
  obtain ⟨C1, eC1⟩ : ∃ zz, zz = va_up C 1 (some (.inl (gI G, 40, .inl (fun _ => 0)))) := ⟨_, rfl⟩
  have hP : pw G A (va_up ad 1 q1) C1 H := by rw [eC1]; exact hP
  refine w_putF (ad := va_up ad 1 q1) (C := C1) (fs := [.int 0, .int 0, .null, .null, .null, .null, .null, .null, .null, .null, .null, .null, .null, .null, .null, .int 0, .null, .null, .null, .null, .null, .null, .null, .null, .null, .int 0, .null, .null]) (i := 0) cx (ci := 3) rfl iX3 tyX3_ok nmX3 hP hS (by rw [eC1, va_up_ne _ _ (by decide)]; exact (by rw [eC]; rfl)) 2 (by decide) k_453 rfl (hnm.trans rfl) rfl rfl rfl rfl (Nat.lt_of_lt_of_eq (show 2 < 28 by decide) rfl) dX3_init_9 (fun H locs hP hS => ?_)
  obtain ⟨C2, eC2⟩ : ∃ zz, zz = va_up C1 0 (some (.inr (3, [.int 0, .int 0, .ref q1, .null, .null, .null, .null, .null, .null, .null, .null, .null, .null, .null, .null, .int 0, .null, .null, .null, .null, .null, .null, .null, .null, .null, .int 0, .null, .null]))) := ⟨_, rfl⟩
  have hP : pw G A (va_up ad 1 q1) C2 H := by rw [eC2]; exact hP
  refine lv_aload_n hx hb dX3_init_12 rfl (lv_at hl 0 rfl) ?_
  refine lv_bipush (v := 40) hx hb dX3_init_13 (by decide) ?_
  refine w_newI (n := 40) 2 40 cx k_85 hP hS hA (by rw [eC2, va_up_ne _ _ (by decide), eC1, va_up_ne _ _ (by decide)]; exact (by rw [eC]; rfl)) (by decide) (by decide) (by decide) (Nat.le_of_ble_eq_true rfl) (Nat.le_of_ble_eq_true rfl) dX3_init_15 (fun q2 H hP hS => ?_)
  obtain ⟨C3, eC3⟩ : ∃ zz, zz = va_up C2 2 (some (.inl (gI G, 40, .inl (fun _ => 0)))) := ⟨_, rfl⟩
  have hP : pw G A (va_up (va_up ad 1 q1) 2 q2) C3 H := by rw [eC3]; exact hP
  refine w_putF (ad := va_up (va_up ad 1 q1) 2 q2) (C := C3) (fs := [.int 0, .int 0, .ref q1, .null, .null, .null, .null, .null, .null, .null, .null, .null, .null, .null, .null, .int 0, .null, .null, .null, .null, .null, .null, .null, .null, .null, .int 0, .null, .null]) (i := 0) cx (ci := 3) rfl iX3 tyX3_ok nmX3 hP hS (by rw [eC3, va_up_ne _ _ (by decide), eC2, va_up_self]) 3 (by decide) k_454 rfl (hnm.trans rfl) rfl rfl rfl rfl (Nat.lt_of_lt_of_eq (show 3 < 28 by decide) rfl) dX3_init_17 (fun H locs hP hS => ?_)
  obtain ⟨C4, eC4⟩ : ∃ zz, zz = va_up C3 0 (some (.inr (3, [.int 0, .int 0, .ref q1, .ref q2, .null, .null, .null, .null, .null, .null, .null, .null, .null, .null, .null, .int 0, .null, .null, .null, .null, .null, .null, .null, .null, .null, .int 0, .null, .null]))) := ⟨_, rfl⟩
  have hP : pw G A (va_up (va_up ad 1 q1) 2 q2) C4 H := by rw [eC4]; exact hP
  refine lv_aload_n hx hb dX3_init_20 rfl (lv_at hl 0 rfl) ?_
  refine lv_bipush (v := 40) hx hb dX3_init_21 (by decide) ?_
  refine w_newI (n := 40) 3 40 cx k_85 hP hS hA (by rw [eC4, va_up_ne _ _ (by decide), eC3, va_up_ne _ _ (by decide), eC2, va_up_ne _ _ (by decide), eC1, va_up_ne _ _ (by decide)]; exact (by rw [eC]; rfl)) (by decide) (by decide) (by decide) (Nat.le_of_ble_eq_true rfl) (Nat.le_of_ble_eq_true rfl) dX3_init_23 (fun q3 H hP hS => ?_)
  obtain ⟨C5, eC5⟩ : ∃ zz, zz = va_up C4 3 (some (.inl (gI G, 40, .inl (fun _ => 0)))) := ⟨_, rfl⟩
  have hP : pw G A (va_up (va_up (va_up ad 1 q1) 2 q2) 3 q3) C5 H := by rw [eC5]; exact hP
  refine w_putF (ad := va_up (va_up (va_up ad 1 q1) 2 q2) 3 q3) (C := C5) (fs := [.int 0, .int 0, .ref q1, .ref q2, .null, .null, .null, .null, .null, .null, .null, .null, .null, .null, .null, .int 0, .null, .null, .null, .null, .null, .null, .null, .null, .null, .int 0, .null, .null]) (i := 0) cx (ci := 3) rfl iX3 tyX3_ok nmX3 hP hS (by rw [eC5, va_up_ne _ _ (by decide), eC4, va_up_self]) 4 (by decide) k_455 rfl (hnm.trans rfl) rfl rfl rfl rfl (Nat.lt_of_lt_of_eq (show 4 < 28 by decide) rfl) dX3_init_25 (fun H locs hP hS => ?_)
  obtain ⟨C6, eC6⟩ : ∃ zz, zz = va_up C5 0 (some (.inr (3, [.int 0, .int 0, .ref q1, .ref q2, .ref q3, .null, .null, .null, .null, .null, .null, .null, .null, .null, .null, .int 0, .null, .null, .null, .null, .null, .null, .null, .null, .null, .int 0, .null, .null]))) := ⟨_, rfl⟩
  have hP : pw G A (va_up (va_up (va_up ad 1 q1) 2 q2) 3 q3) C6 H := by rw [eC6]; exact hP
  refine lv_aload_n hx hb dX3_init_28 rfl (lv_at hl 0 rfl) ?_
  refine lv_bipush (v := 40) hx hb dX3_init_29 (by decide) ?_
  refine w_newI (n := 40) 4 40 cx k_85 hP hS hA (by rw [eC6, va_up_ne _ _ (by decide), eC5, va_up_ne _ _ (by decide), eC4, va_up_ne _ _ (by decide), eC3, va_up_ne _ _ (by decide), eC2, va_up_ne _ _ (by decide), eC1, va_up_ne _ _ (by decide)]; exact (by rw [eC]; rfl)) (by decide) (by decide) (by decide) (Nat.le_of_ble_eq_true rfl) (Nat.le_of_ble_eq_true rfl) dX3_init_31 (fun q4 H hP hS => ?_)
  obtain ⟨C7, eC7⟩ : ∃ zz, zz = va_up C6 4 (some (.inl (gI G, 40, .inl (fun _ => 0)))) := ⟨_, rfl⟩
  have hP : pw G A (va_up (va_up (va_up (va_up ad 1 q1) 2 q2) 3 q3) 4 q4) C7 H := by rw [eC7]; exact hP
  refine w_putF (ad := va_up (va_up (va_up (va_up ad 1 q1) 2 q2) 3 q3) 4 q4) (C := C7) (fs := [.int 0, .int 0, .ref q1, .ref q2, .ref q3, .null, .null, .null, .null, .null, .null, .null, .null, .null, .null, .int 0, .null, .null, .null, .null, .null, .null, .null, .null, .null, .int 0, .null, .null]) (i := 0) cx (ci := 3) rfl iX3 tyX3_ok nmX3 hP hS (by rw [eC7, va_up_ne _ _ (by decide), eC6, va_up_self]) 5 (by decide) k_456 rfl (hnm.trans rfl) rfl rfl rfl rfl (Nat.lt_of_lt_of_eq (show 5 < 28 by decide) rfl) dX3_init_33 (fun H locs hP hS => ?_)
  obtain ⟨C8, eC8⟩ : ∃ zz, zz = va_up C7 0 (some (.inr (3, [.int 0, .int 0, .ref q1, .ref q2, .ref q3, .ref q4, .null, .null, .null, .null, .null, .null, .null, .null, .null, .int 0, .null, .null, .null, .null, .null, .null, .null, .null, .null, .int 0, .null, .null]))) := ⟨_, rfl⟩
  have hP : pw G A (va_up (va_up (va_up (va_up ad 1 q1) 2 q2) 3 q3) 4 q4) C8 H := by rw [eC8]; exact hP
  refine lv_aload_n hx hb dX3_init_36 rfl (lv_at hl 0 rfl) ?_
  refine lv_bipush (v := 40) hx hb dX3_init_37 (by decide) ?_
  refine w_newI (n := 40) 5 40 cx k_85 hP hS hA (by rw [eC8, va_up_ne _ _ (by decide), eC7, va_up_ne _ _ (by decide), eC6, va_up_ne _ _ (by decide), eC5, va_up_ne _ _ (by decide), eC4, va_up_ne _ _ (by decide), eC3, va_up_ne _ _ (by decide), eC2, va_up_ne _ _ (by decide), eC1, va_up_ne _ _ (by decide)]; exact (by rw [eC]; rfl)) (by decide) (by decide) (by decide) (Nat.le_of_ble_eq_true rfl) (Nat.le_of_ble_eq_true rfl) dX3_init_39 (fun q5 H hP hS => ?_)
  obtain ⟨C9, eC9⟩ : ∃ zz, zz = va_up C8 5 (some (.inl (gI G, 40, .inl (fun _ => 0)))) := ⟨_, rfl⟩
  have hP : pw G A (va_up (va_up (va_up (va_up (va_up ad 1 q1) 2 q2) 3 q3) 4 q4) 5 q5) C9 H := by rw [eC9]; exact hP
  refine w_putF (ad := va_up (va_up (va_up (va_up (va_up ad 1 q1) 2 q2) 3 q3) 4 q4) 5 q5) (C := C9) (fs := [.int 0, .int 0, .ref q1, .ref q2, .ref q3, .ref q4, .null, .null, .null, .null, .null, .null, .null, .null, .null, .int 0, .null, .null, .null, .null, .null, .null, .null, .null, .null, .int 0, .null, .null]) (i := 0) cx (ci := 3) rfl iX3 tyX3_ok nmX3 hP hS (by rw [eC9, va_up_ne _ _ (by decide), eC8, va_up_self]) 6 (by decide) k_457 rfl (hnm.trans rfl) rfl rfl rfl rfl (Nat.lt_of_lt_of_eq (show 6 < 28 by decide) rfl) dX3_init_41 (fun H locs hP hS => ?_)
  obtain ⟨C10, eC10⟩ : ∃ zz, zz = va_up C9 0 (some (.inr (3, [.int 0, .int 0, .ref q1, .ref q2, .ref q3, .ref q4, .ref q5, .null, .null, .null, .null, .null, .null, .null, .null, .int 0, .null, .null, .null, .null, .null, .null, .null, .null, .null, .int 0, .null, .null]))) := ⟨_, rfl⟩
  have hP : pw G A (va_up (va_up (va_up (va_up (va_up ad 1 q1) 2 q2) 3 q3) 4 q4) 5 q5) C10 H := by rw [eC10]; exact hP
  refine lv_aload_n hx hb dX3_init_44 rfl (lv_at hl 0 rfl) ?_
  refine lv_bipush (v := 40) hx hb dX3_init_45 (by decide) ?_
  refine w_newI (n := 40) 6 40 cx k_85 hP hS hA (by rw [eC10, va_up_ne _ _ (by decide), eC9, va_up_ne _ _ (by decide), eC8, va_up_ne _ _ (by decide), eC7, va_up_ne _ _ (by decide), eC6, va_up_ne _ _ (by decide), eC5, va_up_ne _ _ (by decide), eC4, va_up_ne _ _ (by decide), eC3, va_up_ne _ _ (by decide), eC2, va_up_ne _ _ (by decide), eC1, va_up_ne _ _ (by decide)]; exact (by rw [eC]; rfl)) (by decide) (by decide) (by decide) (Nat.le_of_ble_eq_true rfl) (Nat.le_of_ble_eq_true rfl) dX3_init_47 (fun q6 H hP hS => ?_)
  obtain ⟨C11, eC11⟩ : ∃ zz, zz = va_up C10 6 (some (.inl (gI G, 40, .inl (fun _ => 0)))) := ⟨_, rfl⟩
  have hP : pw G A (va_up (va_up (va_up (va_up (va_up (va_up ad 1 q1) 2 q2) 3 q3) 4 q4) 5 q5) 6 q6) C11 H := by rw [eC11]; exact hP
  refine w_putF (ad := va_up (va_up (va_up (va_up (va_up (va_up ad 1 q1) 2 q2) 3 q3) 4 q4) 5 q5) 6 q6) (C := C11) (fs := [.int 0, .int 0, .ref q1, .ref q2, .ref q3, .ref q4, .ref q5, .null, .null, .null, .null, .null, .null, .null, .null, .int 0, .null, .null, .null, .null, .null, .null, .null, .null, .null, .int 0, .null, .null]) (i := 0) cx (ci := 3) rfl iX3 tyX3_ok nmX3 hP hS (by rw [eC11, va_up_ne _ _ (by decide), eC10, va_up_self]) 7 (by decide) k_458 rfl (hnm.trans rfl) rfl rfl rfl rfl (Nat.lt_of_lt_of_eq (show 7 < 28 by decide) rfl) dX3_init_49 (fun H locs hP hS => ?_)
  obtain ⟨C12, eC12⟩ : ∃ zz, zz = va_up C11 0 (some (.inr (3, [.int 0, .int 0, .ref q1, .ref q2, .ref q3, .ref q4, .ref q5, .ref q6, .null, .null, .null, .null, .null, .null, .null, .int 0, .null, .null, .null, .null, .null, .null, .null, .null, .null, .int 0, .null, .null]))) := ⟨_, rfl⟩
  have hP : pw G A (va_up (va_up (va_up (va_up (va_up (va_up ad 1 q1) 2 q2) 3 q3) 4 q4) 5 q5) 6 q6) C12 H := by rw [eC12]; exact hP
  refine lv_aload_n hx hb dX3_init_52 rfl (lv_at hl 0 rfl) ?_
  refine lv_bipush (v := 40) hx hb dX3_init_53 (by decide) ?_
  refine w_newI (n := 40) 7 40 cx k_85 hP hS hA (by rw [eC12, va_up_ne _ _ (by decide), eC11, va_up_ne _ _ (by decide), eC10, va_up_ne _ _ (by decide), eC9, va_up_ne _ _ (by decide), eC8, va_up_ne _ _ (by decide), eC7, va_up_ne _ _ (by decide), eC6, va_up_ne _ _ (by decide), eC5, va_up_ne _ _ (by decide), eC4, va_up_ne _ _ (by decide), eC3, va_up_ne _ _ (by decide), eC2, va_up_ne _ _ (by decide), eC1, va_up_ne _ _ (by decide)]; exact (by rw [eC]; rfl)) (by decide) (by decide) (by decide) (Nat.le_of_ble_eq_true rfl) (Nat.le_of_ble_eq_true rfl) dX3_init_55 (fun q7 H hP hS => ?_)
  obtain ⟨C13, eC13⟩ : ∃ zz, zz = va_up C12 7 (some (.inl (gI G, 40, .inl (fun _ => 0)))) := ⟨_, rfl⟩
  have hP : pw G A (va_up (va_up (va_up (va_up (va_up (va_up (va_up ad 1 q1) 2 q2) 3 q3) 4 q4) 5 q5) 6 q6) 7 q7) C13 H := by rw [eC13]; exact hP
  refine w_putF (ad := va_up (va_up (va_up (va_up (va_up (va_up (va_up ad 1 q1) 2 q2) 3 q3) 4 q4) 5 q5) 6 q6) 7 q7) (C := C13) (fs := [.int 0, .int 0, .ref q1, .ref q2, .ref q3, .ref q4, .ref q5, .ref q6, .null, .null, .null, .null, .null, .null, .null, .int 0, .null, .null, .null, .null, .null, .null, .null, .null, .null, .int 0, .null, .null]) (i := 0) cx (ci := 3) rfl iX3 tyX3_ok nmX3 hP hS (by rw [eC13, va_up_ne _ _ (by decide), eC12, va_up_self]) 8 (by decide) k_459 rfl (hnm.trans rfl) rfl rfl rfl rfl (Nat.lt_of_lt_of_eq (show 8 < 28 by decide) rfl) dX3_init_57 (fun H locs hP hS => ?_)
  obtain ⟨C14, eC14⟩ : ∃ zz, zz = va_up C13 0 (some (.inr (3, [.int 0, .int 0, .ref q1, .ref q2, .ref q3, .ref q4, .ref q5, .ref q6, .ref q7, .null, .null, .null, .null, .null, .null, .int 0, .null, .null, .null, .null, .null, .null, .null, .null, .null, .int 0, .null, .null]))) := ⟨_, rfl⟩
  have hP : pw G A (va_up (va_up (va_up (va_up (va_up (va_up (va_up ad 1 q1) 2 q2) 3 q3) 4 q4) 5 q5) 6 q6) 7 q7) C14 H := by rw [eC14]; exact hP
  refine lv_aload_n hx hb dX3_init_60 rfl (lv_at hl 0 rfl) ?_
  refine lv_bipush (v := 40) hx hb dX3_init_61 (by decide) ?_
  refine w_newI (n := 40) 8 40 cx k_85 hP hS hA (by rw [eC14, va_up_ne _ _ (by decide), eC13, va_up_ne _ _ (by decide), eC12, va_up_ne _ _ (by decide), eC11, va_up_ne _ _ (by decide), eC10, va_up_ne _ _ (by decide), eC9, va_up_ne _ _ (by decide), eC8, va_up_ne _ _ (by decide), eC7, va_up_ne _ _ (by decide), eC6, va_up_ne _ _ (by decide), eC5, va_up_ne _ _ (by decide), eC4, va_up_ne _ _ (by decide), eC3, va_up_ne _ _ (by decide), eC2, va_up_ne _ _ (by decide), eC1, va_up_ne _ _ (by decide)]; exact (by rw [eC]; rfl)) (by decide) (by decide) (by decide) (Nat.le_of_ble_eq_true rfl) (Nat.le_of_ble_eq_true rfl) dX3_init_63 (fun q8 H hP hS => ?_)
  obtain ⟨C15, eC15⟩ : ∃ zz, zz = va_up C14 8 (some (.inl (gI G, 40, .inl (fun _ => 0)))) := ⟨_, rfl⟩
  have hP : pw G A (va_up (va_up (va_up (va_up (va_up (va_up (va_up (va_up ad 1 q1) 2 q2) 3 q3) 4 q4) 5 q5) 6 q6) 7 q7) 8 q8) C15 H := by rw [eC15]; exact hP
  refine w_putF (ad := va_up (va_up (va_up (va_up (va_up (va_up (va_up (va_up ad 1 q1) 2 q2) 3 q3) 4 q4) 5 q5) 6 q6) 7 q7) 8 q8) (C := C15) (fs := [.int 0, .int 0, .ref q1, .ref q2, .ref q3, .ref q4, .ref q5, .ref q6, .ref q7, .null, .null, .null, .null, .null, .null, .int 0, .null, .null, .null, .null, .null, .null, .null, .null, .null, .int 0, .null, .null]) (i := 0) cx (ci := 3) rfl iX3 tyX3_ok nmX3 hP hS (by rw [eC15, va_up_ne _ _ (by decide), eC14, va_up_self]) 9 (by decide) k_460 rfl (hnm.trans rfl) rfl rfl rfl rfl (Nat.lt_of_lt_of_eq (show 9 < 28 by decide) rfl) dX3_init_65 (fun H locs hP hS => ?_)
  obtain ⟨C16, eC16⟩ : ∃ zz, zz = va_up C15 0 (some (.inr (3, [.int 0, .int 0, .ref q1, .ref q2, .ref q3, .ref q4, .ref q5, .ref q6, .ref q7, .ref q8, .null, .null, .null, .null, .null, .int 0, .null, .null, .null, .null, .null, .null, .null, .null, .null, .int 0, .null, .null]))) := ⟨_, rfl⟩
  have hP : pw G A (va_up (va_up (va_up (va_up (va_up (va_up (va_up (va_up ad 1 q1) 2 q2) 3 q3) 4 q4) 5 q5) 6 q6) 7 q7) 8 q8) C16 H := by rw [eC16]; exact hP
  refine lv_aload_n hx hb dX3_init_68 rfl (lv_at hl 0 rfl) ?_
  refine lv_bipush (v := 40) hx hb dX3_init_69 (by decide) ?_
  refine w_newI (n := 40) 9 40 cx k_85 hP hS hA (by rw [eC16, va_up_ne _ _ (by decide), eC15, va_up_ne _ _ (by decide), eC14, va_up_ne _ _ (by decide), eC13, va_up_ne _ _ (by decide), eC12, va_up_ne _ _ (by decide), eC11, va_up_ne _ _ (by decide), eC10, va_up_ne _ _ (by decide), eC9, va_up_ne _ _ (by decide), eC8, va_up_ne _ _ (by decide), eC7, va_up_ne _ _ (by decide), eC6, va_up_ne _ _ (by decide), eC5, va_up_ne _ _ (by decide), eC4, va_up_ne _ _ (by decide), eC3, va_up_ne _ _ (by decide), eC2, va_up_ne _ _ (by decide), eC1, va_up_ne _ _ (by decide)]; exact (by rw [eC]; rfl)) (by decide) (by decide) (by decide) (Nat.le_of_ble_eq_true rfl) (Nat.le_of_ble_eq_true rfl) dX3_init_71 (fun q9 H hP hS => ?_)
  obtain ⟨C17, eC17⟩ : ∃ zz, zz = va_up C16 9 (some (.inl (gI G, 40, .inl (fun _ => 0)))) := ⟨_, rfl⟩
  have hP : pw G A (va_up (va_up (va_up (va_up (va_up (va_up (va_up (va_up (va_up ad 1 q1) 2 q2) 3 q3) 4 q4) 5 q5) 6 q6) 7 q7) 8 q8) 9 q9) C17 H := by rw [eC17]; exact hP
  refine w_putF (ad := va_up (va_up (va_up (va_up (va_up (va_up (va_up (va_up (va_up ad 1 q1) 2 q2) 3 q3) 4 q4) 5 q5) 6 q6) 7 q7) 8 q8) 9 q9) (C := C17) (fs := [.int 0, .int 0, .ref q1, .ref q2, .ref q3, .ref q4, .ref q5, .ref q6, .ref q7, .ref q8, .null, .null, .null, .null, .null, .int 0, .null, .null, .null, .null, .null, .null, .null, .null, .null, .int 0, .null, .null]) (i := 0) cx (ci := 3) rfl iX3 tyX3_ok nmX3 hP hS (by rw [eC17, va_up_ne _ _ (by decide), eC16, va_up_self]) 10 (by decide) k_461 rfl (hnm.trans rfl) rfl rfl rfl rfl (Nat.lt_of_lt_of_eq (show 10 < 28 by decide) rfl) dX3_init_73 (fun H locs hP hS => ?_)
  obtain ⟨C18, eC18⟩ : ∃ zz, zz = va_up C17 0 (some (.inr (3, [.int 0, .int 0, .ref q1, .ref q2, .ref q3, .ref q4, .ref q5, .ref q6, .ref q7, .ref q8, .ref q9, .null, .null, .null, .null, .int 0, .null, .null, .null, .null, .null, .null, .null, .null, .null, .int 0, .null, .null]))) := ⟨_, rfl⟩
  have hP : pw G A (va_up (va_up (va_up (va_up (va_up (va_up (va_up (va_up (va_up ad 1 q1) 2 q2) 3 q3) 4 q4) 5 q5) 6 q6) 7 q7) 8 q8) 9 q9) C18 H := by rw [eC18]; exact hP
  refine lv_aload_n hx hb dX3_init_76 rfl (lv_at hl 0 rfl) ?_
  refine lv_bipush (v := 120) hx hb dX3_init_77 (by decide) ?_
  refine w_newI (n := 120) 10 120 cx k_85 hP hS hA (by rw [eC18, va_up_ne _ _ (by decide), eC17, va_up_ne _ _ (by decide), eC16, va_up_ne _ _ (by decide), eC15, va_up_ne _ _ (by decide), eC14, va_up_ne _ _ (by decide), eC13, va_up_ne _ _ (by decide), eC12, va_up_ne _ _ (by decide), eC11, va_up_ne _ _ (by decide), eC10, va_up_ne _ _ (by decide), eC9, va_up_ne _ _ (by decide), eC8, va_up_ne _ _ (by decide), eC7, va_up_ne _ _ (by decide), eC6, va_up_ne _ _ (by decide), eC5, va_up_ne _ _ (by decide), eC4, va_up_ne _ _ (by decide), eC3, va_up_ne _ _ (by decide), eC2, va_up_ne _ _ (by decide), eC1, va_up_ne _ _ (by decide)]; exact (by rw [eC]; rfl)) (by decide) (by decide) (by decide) (Nat.le_of_ble_eq_true rfl) (Nat.le_of_ble_eq_true rfl) dX3_init_79 (fun q10 H hP hS => ?_)
  obtain ⟨C19, eC19⟩ : ∃ zz, zz = va_up C18 10 (some (.inl (gI G, 120, .inl (fun _ => 0)))) := ⟨_, rfl⟩
  have hP : pw G A (va_up (va_up (va_up (va_up (va_up (va_up (va_up (va_up (va_up (va_up ad 1 q1) 2 q2) 3 q3) 4 q4) 5 q5) 6 q6) 7 q7) 8 q8) 9 q9) 10 q10) C19 H := by rw [eC19]; exact hP
  refine w_putF (ad := va_up (va_up (va_up (va_up (va_up (va_up (va_up (va_up (va_up (va_up ad 1 q1) 2 q2) 3 q3) 4 q4) 5 q5) 6 q6) 7 q7) 8 q8) 9 q9) 10 q10) (C := C19) (fs := [.int 0, .int 0, .ref q1, .ref q2, .ref q3, .ref q4, .ref q5, .ref q6, .ref q7, .ref q8, .ref q9, .null, .null, .null, .null, .int 0, .null, .null, .null, .null, .null, .null, .null, .null, .null, .int 0, .null, .null]) (i := 0) cx (ci := 3) rfl iX3 tyX3_ok nmX3 hP hS (by rw [eC19, va_up_ne _ _ (by decide), eC18, va_up_self]) 11 (by decide) k_462 rfl (hnm.trans rfl) rfl rfl rfl rfl (Nat.lt_of_lt_of_eq (show 11 < 28 by decide) rfl) dX3_init_81 (fun H locs hP hS => ?_)
  obtain ⟨C20, eC20⟩ : ∃ zz, zz = va_up C19 0 (some (.inr (3, [.int 0, .int 0, .ref q1, .ref q2, .ref q3, .ref q4, .ref q5, .ref q6, .ref q7, .ref q8, .ref q9, .ref q10, .null, .null, .null, .int 0, .null, .null, .null, .null, .null, .null, .null, .null, .null, .int 0, .null, .null]))) := ⟨_, rfl⟩
  have hP : pw G A (va_up (va_up (va_up (va_up (va_up (va_up (va_up (va_up (va_up (va_up ad 1 q1) 2 q2) 3 q3) 4 q4) 5 q5) 6 q6) 7 q7) 8 q8) 9 q9) 10 q10) C20 H := by rw [eC20]; exact hP
  refine lv_aload_n hx hb dX3_init_84 rfl (lv_at hl 0 rfl) ?_
  refine lv_iconst (v := 4) hx hb dX3_init_85 (by decide) ?_
  refine w_newI (n := 4) 11 4 cx k_85 hP hS hA (by rw [eC20, va_up_ne _ _ (by decide), eC19, va_up_ne _ _ (by decide), eC18, va_up_ne _ _ (by decide), eC17, va_up_ne _ _ (by decide), eC16, va_up_ne _ _ (by decide), eC15, va_up_ne _ _ (by decide), eC14, va_up_ne _ _ (by decide), eC13, va_up_ne _ _ (by decide), eC12, va_up_ne _ _ (by decide), eC11, va_up_ne _ _ (by decide), eC10, va_up_ne _ _ (by decide), eC9, va_up_ne _ _ (by decide), eC8, va_up_ne _ _ (by decide), eC7, va_up_ne _ _ (by decide), eC6, va_up_ne _ _ (by decide), eC5, va_up_ne _ _ (by decide), eC4, va_up_ne _ _ (by decide), eC3, va_up_ne _ _ (by decide), eC2, va_up_ne _ _ (by decide), eC1, va_up_ne _ _ (by decide)]; exact (by rw [eC]; rfl)) (by decide) (by decide) (by decide) (Nat.le_of_ble_eq_true rfl) (Nat.le_of_ble_eq_true rfl) dX3_init_86 (fun q11 H hP hS => ?_)
  obtain ⟨C21, eC21⟩ : ∃ zz, zz = va_up C20 11 (some (.inl (gI G, 4, .inl (fun _ => 0)))) := ⟨_, rfl⟩
  have hP : pw G A (va_up (va_up (va_up (va_up (va_up (va_up (va_up (va_up (va_up (va_up (va_up ad 1 q1) 2 q2) 3 q3) 4 q4) 5 q5) 6 q6) 7 q7) 8 q8) 9 q9) 10 q10) 11 q11) C21 H := by rw [eC21]; exact hP
  refine w_putF (ad := va_up (va_up (va_up (va_up (va_up (va_up (va_up (va_up (va_up (va_up (va_up ad 1 q1) 2 q2) 3 q3) 4 q4) 5 q5) 6 q6) 7 q7) 8 q8) 9 q9) 10 q10) 11 q11) (C := C21) (fs := [.int 0, .int 0, .ref q1, .ref q2, .ref q3, .ref q4, .ref q5, .ref q6, .ref q7, .ref q8, .ref q9, .ref q10, .null, .null, .null, .int 0, .null, .null, .null, .null, .null, .null, .null, .null, .null, .int 0, .null, .null]) (i := 0) cx (ci := 3) rfl iX3 tyX3_ok nmX3 hP hS (by rw [eC21, va_up_ne _ _ (by decide), eC20, va_up_self]) 12 (by decide) k_463 rfl (hnm.trans rfl) rfl rfl rfl rfl (Nat.lt_of_lt_of_eq (show 12 < 28 by decide) rfl) dX3_init_88 (fun H locs hP hS => ?_)
  obtain ⟨C22, eC22⟩ : ∃ zz, zz = va_up C21 0 (some (.inr (3, [.int 0, .int 0, .ref q1, .ref q2, .ref q3, .ref q4, .ref q5, .ref q6, .ref q7, .ref q8, .ref q9, .ref q10, .ref q11, .null, .null, .int 0, .null, .null, .null, .null, .null, .null, .null, .null, .null, .int 0, .null, .null]))) := ⟨_, rfl⟩
  have hP : pw G A (va_up (va_up (va_up (va_up (va_up (va_up (va_up (va_up (va_up (va_up (va_up ad 1 q1) 2 q2) 3 q3) 4 q4) 5 q5) 6 q6) 7 q7) 8 q8) 9 q9) 10 q10) 11 q11) C22 H := by rw [eC22]; exact hP
  refine lv_aload_n hx hb dX3_init_91 rfl (lv_at hl 0 rfl) ?_
  refine lv_iconst (v := 4) hx hb dX3_init_92 (by decide) ?_
  refine w_newI (n := 4) 12 4 cx k_85 hP hS hA (by rw [eC22, va_up_ne _ _ (by decide), eC21, va_up_ne _ _ (by decide), eC20, va_up_ne _ _ (by decide), eC19, va_up_ne _ _ (by decide), eC18, va_up_ne _ _ (by decide), eC17, va_up_ne _ _ (by decide), eC16, va_up_ne _ _ (by decide), eC15, va_up_ne _ _ (by decide), eC14, va_up_ne _ _ (by decide), eC13, va_up_ne _ _ (by decide), eC12, va_up_ne _ _ (by decide), eC11, va_up_ne _ _ (by decide), eC10, va_up_ne _ _ (by decide), eC9, va_up_ne _ _ (by decide), eC8, va_up_ne _ _ (by decide), eC7, va_up_ne _ _ (by decide), eC6, va_up_ne _ _ (by decide), eC5, va_up_ne _ _ (by decide), eC4, va_up_ne _ _ (by decide), eC3, va_up_ne _ _ (by decide), eC2, va_up_ne _ _ (by decide), eC1, va_up_ne _ _ (by decide)]; exact (by rw [eC]; rfl)) (by decide) (by decide) (by decide) (Nat.le_of_ble_eq_true rfl) (Nat.le_of_ble_eq_true rfl) dX3_init_93 (fun q12 H hP hS => ?_)
  obtain ⟨C23, eC23⟩ : ∃ zz, zz = va_up C22 12 (some (.inl (gI G, 4, .inl (fun _ => 0)))) := ⟨_, rfl⟩
  have hP : pw G A (va_up (va_up (va_up (va_up (va_up (va_up (va_up (va_up (va_up (va_up (va_up (va_up ad 1 q1) 2 q2) 3 q3) 4 q4) 5 q5) 6 q6) 7 q7) 8 q8) 9 q9) 10 q10) 11 q11) 12 q12) C23 H := by rw [eC23]; exact hP
  refine w_putF (ad := va_up (va_up (va_up (va_up (va_up (va_up (va_up (va_up (va_up (va_up (va_up (va_up ad 1 q1) 2 q2) 3 q3) 4 q4) 5 q5) 6 q6) 7 q7) 8 q8) 9 q9) 10 q10) 11 q11) 12 q12) (C := C23) (fs := [.int 0, .int 0, .ref q1, .ref q2, .ref q3, .ref q4, .ref q5, .ref q6, .ref q7, .ref q8, .ref q9, .ref q10, .ref q11, .null, .null, .int 0, .null, .null, .null, .null, .null, .null, .null, .null, .null, .int 0, .null, .null]) (i := 0) cx (ci := 3) rfl iX3 tyX3_ok nmX3 hP hS (by rw [eC23, va_up_ne _ _ (by decide), eC22, va_up_self]) 13 (by decide) k_464 rfl (hnm.trans rfl) rfl rfl rfl rfl (Nat.lt_of_lt_of_eq (show 13 < 28 by decide) rfl) dX3_init_95 (fun H locs hP hS => ?_)
  obtain ⟨C24, eC24⟩ : ∃ zz, zz = va_up C23 0 (some (.inr (3, [.int 0, .int 0, .ref q1, .ref q2, .ref q3, .ref q4, .ref q5, .ref q6, .ref q7, .ref q8, .ref q9, .ref q10, .ref q11, .ref q12, .null, .int 0, .null, .null, .null, .null, .null, .null, .null, .null, .null, .int 0, .null, .null]))) := ⟨_, rfl⟩
  have hP : pw G A (va_up (va_up (va_up (va_up (va_up (va_up (va_up (va_up (va_up (va_up (va_up (va_up ad 1 q1) 2 q2) 3 q3) 4 q4) 5 q5) 6 q6) 7 q7) 8 q8) 9 q9) 10 q10) 11 q11) 12 q12) C24 H := by rw [eC24]; exact hP
  refine lv_aload_n hx hb dX3_init_98 rfl (lv_at hl 0 rfl) ?_
  refine lv_sipush (v := 10000) hx hb dX3_init_99 (by decide) ?_
  refine w_newZ (n := 10000) 13 10000 cx k_536 hP hS hA (by rw [eC24, va_up_ne _ _ (by decide), eC23, va_up_ne _ _ (by decide), eC22, va_up_ne _ _ (by decide), eC21, va_up_ne _ _ (by decide), eC20, va_up_ne _ _ (by decide), eC19, va_up_ne _ _ (by decide), eC18, va_up_ne _ _ (by decide), eC17, va_up_ne _ _ (by decide), eC16, va_up_ne _ _ (by decide), eC15, va_up_ne _ _ (by decide), eC14, va_up_ne _ _ (by decide), eC13, va_up_ne _ _ (by decide), eC12, va_up_ne _ _ (by decide), eC11, va_up_ne _ _ (by decide), eC10, va_up_ne _ _ (by decide), eC9, va_up_ne _ _ (by decide), eC8, va_up_ne _ _ (by decide), eC7, va_up_ne _ _ (by decide), eC6, va_up_ne _ _ (by decide), eC5, va_up_ne _ _ (by decide), eC4, va_up_ne _ _ (by decide), eC3, va_up_ne _ _ (by decide), eC2, va_up_ne _ _ (by decide), eC1, va_up_ne _ _ (by decide)]; exact (by rw [eC]; rfl)) (by decide) (by decide) (by decide) (Nat.le_of_ble_eq_true rfl) (Nat.le_of_ble_eq_true rfl) dX3_init_102 (fun q13 H hP hS => ?_)
  obtain ⟨C25, eC25⟩ : ∃ zz, zz = va_up C24 13 (some (.inl (gZ G, 10000, .inl (fun _ => 0)))) := ⟨_, rfl⟩
  have hP : pw G A (va_up (va_up (va_up (va_up (va_up (va_up (va_up (va_up (va_up (va_up (va_up (va_up (va_up ad 1 q1) 2 q2) 3 q3) 4 q4) 5 q5) 6 q6) 7 q7) 8 q8) 9 q9) 10 q10) 11 q11) 12 q12) 13 q13) C25 H := by rw [eC25]; exact hP
  refine w_putF (ad := va_up (va_up (va_up (va_up (va_up (va_up (va_up (va_up (va_up (va_up (va_up (va_up (va_up ad 1 q1) 2 q2) 3 q3) 4 q4) 5 q5) 6 q6) 7 q7) 8 q8) 9 q9) 10 q10) 11 q11) 12 q12) 13 q13) (C := C25) (fs := [.int 0, .int 0, .ref q1, .ref q2, .ref q3, .ref q4, .ref q5, .ref q6, .ref q7, .ref q8, .ref q9, .ref q10, .ref q11, .ref q12, .null, .int 0, .null, .null, .null, .null, .null, .null, .null, .null, .null, .int 0, .null, .null]) (i := 0) cx (ci := 3) rfl iX3 tyX3_ok nmX3 hP hS (by rw [eC25, va_up_ne _ _ (by decide), eC24, va_up_self]) 14 (by decide) k_465 rfl (hnm.trans rfl) rfl rfl rfl rfl (Nat.lt_of_lt_of_eq (show 14 < 28 by decide) rfl) dX3_init_104 (fun H locs hP hS => ?_)
  obtain ⟨C26, eC26⟩ : ∃ zz, zz = va_up C25 0 (some (.inr (3, [.int 0, .int 0, .ref q1, .ref q2, .ref q3, .ref q4, .ref q5, .ref q6, .ref q7, .ref q8, .ref q9, .ref q10, .ref q11, .ref q12, .ref q13, .int 0, .null, .null, .null, .null, .null, .null, .null, .null, .null, .int 0, .null, .null]))) := ⟨_, rfl⟩
  have hP : pw G A (va_up (va_up (va_up (va_up (va_up (va_up (va_up (va_up (va_up (va_up (va_up (va_up (va_up ad 1 q1) 2 q2) 3 q3) 4 q4) 5 q5) 6 q6) 7 q7) 8 q8) 9 q9) 10 q10) 11 q11) 12 q12) 13 q13) C26 H := by rw [eC26]; exact hP
  refine lv_aload_n hx hb dX3_init_107 rfl (lv_at hl 0 rfl) ?_
  refine lv_sipush (v := 300) hx hb dX3_init_108 (by decide) ?_
  refine w_newI (n := 300) 14 300 cx k_85 hP hS hA (by rw [eC26, va_up_ne _ _ (by decide), eC25, va_up_ne _ _ (by decide), eC24, va_up_ne _ _ (by decide), eC23, va_up_ne _ _ (by decide), eC22, va_up_ne _ _ (by decide), eC21, va_up_ne _ _ (by decide), eC20, va_up_ne _ _ (by decide), eC19, va_up_ne _ _ (by decide), eC18, va_up_ne _ _ (by decide), eC17, va_up_ne _ _ (by decide), eC16, va_up_ne _ _ (by decide), eC15, va_up_ne _ _ (by decide), eC14, va_up_ne _ _ (by decide), eC13, va_up_ne _ _ (by decide), eC12, va_up_ne _ _ (by decide), eC11, va_up_ne _ _ (by decide), eC10, va_up_ne _ _ (by decide), eC9, va_up_ne _ _ (by decide), eC8, va_up_ne _ _ (by decide), eC7, va_up_ne _ _ (by decide), eC6, va_up_ne _ _ (by decide), eC5, va_up_ne _ _ (by decide), eC4, va_up_ne _ _ (by decide), eC3, va_up_ne _ _ (by decide), eC2, va_up_ne _ _ (by decide), eC1, va_up_ne _ _ (by decide)]; exact (by rw [eC]; rfl)) (by decide) (by decide) (by decide) (Nat.le_of_ble_eq_true rfl) (Nat.le_of_ble_eq_true rfl) dX3_init_111 (fun q14 H hP hS => ?_)
  obtain ⟨C27, eC27⟩ : ∃ zz, zz = va_up C26 14 (some (.inl (gI G, 300, .inl (fun _ => 0)))) := ⟨_, rfl⟩
  have hP : pw G A (va_up (va_up (va_up (va_up (va_up (va_up (va_up (va_up (va_up (va_up (va_up (va_up (va_up (va_up ad 1 q1) 2 q2) 3 q3) 4 q4) 5 q5) 6 q6) 7 q7) 8 q8) 9 q9) 10 q10) 11 q11) 12 q12) 13 q13) 14 q14) C27 H := by rw [eC27]; exact hP
  refine w_putF (ad := va_up (va_up (va_up (va_up (va_up (va_up (va_up (va_up (va_up (va_up (va_up (va_up (va_up (va_up ad 1 q1) 2 q2) 3 q3) 4 q4) 5 q5) 6 q6) 7 q7) 8 q8) 9 q9) 10 q10) 11 q11) 12 q12) 13 q13) 14 q14) (C := C27) (fs := [.int 0, .int 0, .ref q1, .ref q2, .ref q3, .ref q4, .ref q5, .ref q6, .ref q7, .ref q8, .ref q9, .ref q10, .ref q11, .ref q12, .ref q13, .int 0, .null, .null, .null, .null, .null, .null, .null, .null, .null, .int 0, .null, .null]) (i := 0) cx (ci := 3) rfl iX3 tyX3_ok nmX3 hP hS (by rw [eC27, va_up_ne _ _ (by decide), eC26, va_up_self]) 16 (by decide) k_467 rfl (hnm.trans rfl) rfl rfl rfl rfl (Nat.lt_of_lt_of_eq (show 16 < 28 by decide) rfl) dX3_init_113 (fun H locs hP hS => ?_)
  obtain ⟨C28, eC28⟩ : ∃ zz, zz = va_up C27 0 (some (.inr (3, [.int 0, .int 0, .ref q1, .ref q2, .ref q3, .ref q4, .ref q5, .ref q6, .ref q7, .ref q8, .ref q9, .ref q10, .ref q11, .ref q12, .ref q13, .int 0, .ref q14, .null, .null, .null, .null, .null, .null, .null, .null, .int 0, .null, .null]))) := ⟨_, rfl⟩
  have hP : pw G A (va_up (va_up (va_up (va_up (va_up (va_up (va_up (va_up (va_up (va_up (va_up (va_up (va_up (va_up ad 1 q1) 2 q2) 3 q3) 4 q4) 5 q5) 6 q6) 7 q7) 8 q8) 9 q9) 10 q10) 11 q11) 12 q12) 13 q13) 14 q14) C28 H := by rw [eC28]; exact hP
  refine lv_aload_n hx hb dX3_init_116 rfl (lv_at hl 0 rfl) ?_
  refine lv_sipush (v := 300) hx hb dX3_init_117 (by decide) ?_
  refine w_newI (n := 300) 15 300 cx k_85 hP hS hA (by rw [eC28, va_up_ne _ _ (by decide), eC27, va_up_ne _ _ (by decide), eC26, va_up_ne _ _ (by decide), eC25, va_up_ne _ _ (by decide), eC24, va_up_ne _ _ (by decide), eC23, va_up_ne _ _ (by decide), eC22, va_up_ne _ _ (by decide), eC21, va_up_ne _ _ (by decide), eC20, va_up_ne _ _ (by decide), eC19, va_up_ne _ _ (by decide), eC18, va_up_ne _ _ (by decide), eC17, va_up_ne _ _ (by decide), eC16, va_up_ne _ _ (by decide), eC15, va_up_ne _ _ (by decide), eC14, va_up_ne _ _ (by decide), eC13, va_up_ne _ _ (by decide), eC12, va_up_ne _ _ (by decide), eC11, va_up_ne _ _ (by decide), eC10, va_up_ne _ _ (by decide), eC9, va_up_ne _ _ (by decide), eC8, va_up_ne _ _ (by decide), eC7, va_up_ne _ _ (by decide), eC6, va_up_ne _ _ (by decide), eC5, va_up_ne _ _ (by decide), eC4, va_up_ne _ _ (by decide), eC3, va_up_ne _ _ (by decide), eC2, va_up_ne _ _ (by decide), eC1, va_up_ne _ _ (by decide)]; exact (by rw [eC]; rfl)) (by decide) (by decide) (by decide) (Nat.le_of_ble_eq_true rfl) (Nat.le_of_ble_eq_true rfl) dX3_init_120 (fun q15 H hP hS => ?_)
  obtain ⟨C29, eC29⟩ : ∃ zz, zz = va_up C28 15 (some (.inl (gI G, 300, .inl (fun _ => 0)))) := ⟨_, rfl⟩
  have hP : pw G A (va_up (va_up (va_up (va_up (va_up (va_up (va_up (va_up (va_up (va_up (va_up (va_up (va_up (va_up (va_up ad 1 q1) 2 q2) 3 q3) 4 q4) 5 q5) 6 q6) 7 q7) 8 q8) 9 q9) 10 q10) 11 q11) 12 q12) 13 q13) 14 q14) 15 q15) C29 H := by rw [eC29]; exact hP
  refine w_putF (ad := va_up (va_up (va_up (va_up (va_up (va_up (va_up (va_up (va_up (va_up (va_up (va_up (va_up (va_up (va_up ad 1 q1) 2 q2) 3 q3) 4 q4) 5 q5) 6 q6) 7 q7) 8 q8) 9 q9) 10 q10) 11 q11) 12 q12) 13 q13) 14 q14) 15 q15) (C := C29) (fs := [.int 0, .int 0, .ref q1, .ref q2, .ref q3, .ref q4, .ref q5, .ref q6, .ref q7, .ref q8, .ref q9, .ref q10, .ref q11, .ref q12, .ref q13, .int 0, .ref q14, .null, .null, .null, .null, .null, .null, .null, .null, .int 0, .null, .null]) (i := 0) cx (ci := 3) rfl iX3 tyX3_ok nmX3 hP hS (by rw [eC29, va_up_ne _ _ (by decide), eC28, va_up_self]) 17 (by decide) k_468 rfl (hnm.trans rfl) rfl rfl rfl rfl (Nat.lt_of_lt_of_eq (show 17 < 28 by decide) rfl) dX3_init_122 (fun H locs hP hS => ?_)
  obtain ⟨C30, eC30⟩ : ∃ zz, zz = va_up C29 0 (some (.inr (3, [.int 0, .int 0, .ref q1, .ref q2, .ref q3, .ref q4, .ref q5, .ref q6, .ref q7, .ref q8, .ref q9, .ref q10, .ref q11, .ref q12, .ref q13, .int 0, .ref q14, .ref q15, .null, .null, .null, .null, .null, .null, .null, .int 0, .null, .null]))) := ⟨_, rfl⟩
  have hP : pw G A (va_up (va_up (va_up (va_up (va_up (va_up (va_up (va_up (va_up (va_up (va_up (va_up (va_up (va_up (va_up ad 1 q1) 2 q2) 3 q3) 4 q4) 5 q5) 6 q6) 7 q7) 8 q8) 9 q9) 10 q10) 11 q11) 12 q12) 13 q13) 14 q14) 15 q15) C30 H := by rw [eC30]; exact hP
  refine lv_aload_n hx hb dX3_init_125 rfl (lv_at hl 0 rfl) ?_
  refine lv_sipush (v := 300) hx hb dX3_init_126 (by decide) ?_
  refine w_newI (n := 300) 16 300 cx k_85 hP hS hA (by rw [eC30, va_up_ne _ _ (by decide), eC29, va_up_ne _ _ (by decide), eC28, va_up_ne _ _ (by decide), eC27, va_up_ne _ _ (by decide), eC26, va_up_ne _ _ (by decide), eC25, va_up_ne _ _ (by decide), eC24, va_up_ne _ _ (by decide), eC23, va_up_ne _ _ (by decide), eC22, va_up_ne _ _ (by decide), eC21, va_up_ne _ _ (by decide), eC20, va_up_ne _ _ (by decide), eC19, va_up_ne _ _ (by decide), eC18, va_up_ne _ _ (by decide), eC17, va_up_ne _ _ (by decide), eC16, va_up_ne _ _ (by decide), eC15, va_up_ne _ _ (by decide), eC14, va_up_ne _ _ (by decide), eC13, va_up_ne _ _ (by decide), eC12, va_up_ne _ _ (by decide), eC11, va_up_ne _ _ (by decide), eC10, va_up_ne _ _ (by decide), eC9, va_up_ne _ _ (by decide), eC8, va_up_ne _ _ (by decide), eC7, va_up_ne _ _ (by decide), eC6, va_up_ne _ _ (by decide), eC5, va_up_ne _ _ (by decide), eC4, va_up_ne _ _ (by decide), eC3, va_up_ne _ _ (by decide), eC2, va_up_ne _ _ (by decide), eC1, va_up_ne _ _ (by decide)]; exact (by rw [eC]; rfl)) (by decide) (by decide) (by decide) (Nat.le_of_ble_eq_true rfl) (Nat.le_of_ble_eq_true rfl) dX3_init_129 (fun q16 H hP hS => ?_)
  obtain ⟨C31, eC31⟩ : ∃ zz, zz = va_up C30 16 (some (.inl (gI G, 300, .inl (fun _ => 0)))) := ⟨_, rfl⟩
  have hP : pw G A (va_up (va_up (va_up (va_up (va_up (va_up (va_up (va_up (va_up (va_up (va_up (va_up (va_up (va_up (va_up (va_up ad 1 q1) 2 q2) 3 q3) 4 q4) 5 q5) 6 q6) 7 q7) 8 q8) 9 q9) 10 q10) 11 q11) 12 q12) 13 q13) 14 q14) 15 q15) 16 q16) C31 H := by rw [eC31]; exact hP
  refine w_putF (ad := va_up (va_up (va_up (va_up (va_up (va_up (va_up (va_up (va_up (va_up (va_up (va_up (va_up (va_up (va_up (va_up ad 1 q1) 2 q2) 3 q3) 4 q4) 5 q5) 6 q6) 7 q7) 8 q8) 9 q9) 10 q10) 11 q11) 12 q12) 13 q13) 14 q14) 15 q15) 16 q16) (C := C31) (fs := [.int 0, .int 0, .ref q1, .ref q2, .ref q3, .ref q4, .ref q5, .ref q6, .ref q7, .ref q8, .ref q9, .ref q10, .ref q11, .ref q12, .ref q13, .int 0, .ref q14, .ref q15, .null, .null, .null, .null, .null, .null, .null, .int 0, .null, .null]) (i := 0) cx (ci := 3) rfl iX3 tyX3_ok nmX3 hP hS (by rw [eC31, va_up_ne _ _ (by decide), eC30, va_up_self]) 18 (by decide) k_469 rfl (hnm.trans rfl) rfl rfl rfl rfl (Nat.lt_of_lt_of_eq (show 18 < 28 by decide) rfl) dX3_init_131 (fun H locs hP hS => ?_)
  obtain ⟨C32, eC32⟩ : ∃ zz, zz = va_up C31 0 (some (.inr (3, [.int 0, .int 0, .ref q1, .ref q2, .ref q3, .ref q4, .ref q5, .ref q6, .ref q7, .ref q8, .ref q9, .ref q10, .ref q11, .ref q12, .ref q13, .int 0, .ref q14, .ref q15, .ref q16, .null, .null, .null, .null, .null, .null, .int 0, .null, .null]))) := ⟨_, rfl⟩
  have hP : pw G A (va_up (va_up (va_up (va_up (va_up (va_up (va_up (va_up (va_up (va_up (va_up (va_up (va_up (va_up (va_up (va_up ad 1 q1) 2 q2) 3 q3) 4 q4) 5 q5) 6 q6) 7 q7) 8 q8) 9 q9) 10 q10) 11 q11) 12 q12) 13 q13) 14 q14) 15 q15) 16 q16) C32 H := by rw [eC32]; exact hP
  refine lv_aload_n hx hb dX3_init_134 rfl (lv_at hl 0 rfl) ?_
  refine lv_sipush (v := 300) hx hb dX3_init_135 (by decide) ?_
  refine w_newI (n := 300) 17 300 cx k_85 hP hS hA (by rw [eC32, va_up_ne _ _ (by decide), eC31, va_up_ne _ _ (by decide), eC30, va_up_ne _ _ (by decide), eC29, va_up_ne _ _ (by decide), eC28, va_up_ne _ _ (by decide), eC27, va_up_ne _ _ (by decide), eC26, va_up_ne _ _ (by decide), eC25, va_up_ne _ _ (by decide), eC24, va_up_ne _ _ (by decide), eC23, va_up_ne _ _ (by decide), eC22, va_up_ne _ _ (by decide), eC21, va_up_ne _ _ (by decide), eC20, va_up_ne _ _ (by decide), eC19, va_up_ne _ _ (by decide), eC18, va_up_ne _ _ (by decide), eC17, va_up_ne _ _ (by decide), eC16, va_up_ne _ _ (by decide), eC15, va_up_ne _ _ (by decide), eC14, va_up_ne _ _ (by decide), eC13, va_up_ne _ _ (by decide), eC12, va_up_ne _ _ (by decide), eC11, va_up_ne _ _ (by decide), eC10, va_up_ne _ _ (by decide), eC9, va_up_ne _ _ (by decide), eC8, va_up_ne _ _ (by decide), eC7, va_up_ne _ _ (by decide), eC6, va_up_ne _ _ (by decide), eC5, va_up_ne _ _ (by decide), eC4, va_up_ne _ _ (by decide), eC3, va_up_ne _ _ (by decide), eC2, va_up_ne _ _ (by decide), eC1, va_up_ne _ _ (by decide)]; exact (by rw [eC]; rfl)) (by decide) (by decide) (by decide) (Nat.le_of_ble_eq_true rfl) (Nat.le_of_ble_eq_true rfl) dX3_init_138 (fun q17 H hP hS => ?_)
  obtain ⟨C33, eC33⟩ : ∃ zz, zz = va_up C32 17 (some (.inl (gI G, 300, .inl (fun _ => 0)))) := ⟨_, rfl⟩
  have hP : pw G A (va_up (va_up (va_up (va_up (va_up (va_up (va_up (va_up (va_up (va_up (va_up (va_up (va_up (va_up (va_up (va_up (va_up ad 1 q1) 2 q2) 3 q3) 4 q4) 5 q5) 6 q6) 7 q7) 8 q8) 9 q9) 10 q10) 11 q11) 12 q12) 13 q13) 14 q14) 15 q15) 16 q16) 17 q17) C33 H := by rw [eC33]; exact hP
  refine w_putF (ad := va_up (va_up (va_up (va_up (va_up (va_up (va_up (va_up (va_up (va_up (va_up (va_up (va_up (va_up (va_up (va_up (va_up ad 1 q1) 2 q2) 3 q3) 4 q4) 5 q5) 6 q6) 7 q7) 8 q8) 9 q9) 10 q10) 11 q11) 12 q12) 13 q13) 14 q14) 15 q15) 16 q16) 17 q17) (C := C33) (fs := [.int 0, .int 0, .ref q1, .ref q2, .ref q3, .ref q4, .ref q5, .ref q6, .ref q7, .ref q8, .ref q9, .ref q10, .ref q11, .ref q12, .ref q13, .int 0, .ref q14, .ref q15, .ref q16, .null, .null, .null, .null, .null, .null, .int 0, .null, .null]) (i := 0) cx (ci := 3) rfl iX3 tyX3_ok nmX3 hP hS (by rw [eC33, va_up_ne _ _ (by decide), eC32, va_up_self]) 19 (by decide) k_470 rfl (hnm.trans rfl) rfl rfl rfl rfl (Nat.lt_of_lt_of_eq (show 19 < 28 by decide) rfl) dX3_init_140 (fun H locs hP hS => ?_)
  obtain ⟨C34, eC34⟩ : ∃ zz, zz = va_up C33 0 (some (.inr (3, [.int 0, .int 0, .ref q1, .ref q2, .ref q3, .ref q4, .ref q5, .ref q6, .ref q7, .ref q8, .ref q9, .ref q10, .ref q11, .ref q12, .ref q13, .int 0, .ref q14, .ref q15, .ref q16, .ref q17, .null, .null, .null, .null, .null, .int 0, .null, .null]))) := ⟨_, rfl⟩
  have hP : pw G A (va_up (va_up (va_up (va_up (va_up (va_up (va_up (va_up (va_up (va_up (va_up (va_up (va_up (va_up (va_up (va_up (va_up ad 1 q1) 2 q2) 3 q3) 4 q4) 5 q5) 6 q6) 7 q7) 8 q8) 9 q9) 10 q10) 11 q11) 12 q12) 13 q13) 14 q14) 15 q15) 16 q16) 17 q17) C34 H := by rw [eC34]; exact hP
  refine lv_aload_n hx hb dX3_init_143 rfl (lv_at hl 0 rfl) ?_
  refine lv_sipush (v := 300) hx hb dX3_init_144 (by decide) ?_
  refine w_newI (n := 300) 18 300 cx k_85 hP hS hA (by rw [eC34, va_up_ne _ _ (by decide), eC33, va_up_ne _ _ (by decide), eC32, va_up_ne _ _ (by decide), eC31, va_up_ne _ _ (by decide), eC30, va_up_ne _ _ (by decide), eC29, va_up_ne _ _ (by decide), eC28, va_up_ne _ _ (by decide), eC27, va_up_ne _ _ (by decide), eC26, va_up_ne _ _ (by decide), eC25, va_up_ne _ _ (by decide), eC24, va_up_ne _ _ (by decide), eC23, va_up_ne _ _ (by decide), eC22, va_up_ne _ _ (by decide), eC21, va_up_ne _ _ (by decide), eC20, va_up_ne _ _ (by decide), eC19, va_up_ne _ _ (by decide), eC18, va_up_ne _ _ (by decide), eC17, va_up_ne _ _ (by decide), eC16, va_up_ne _ _ (by decide), eC15, va_up_ne _ _ (by decide), eC14, va_up_ne _ _ (by decide), eC13, va_up_ne _ _ (by decide), eC12, va_up_ne _ _ (by decide), eC11, va_up_ne _ _ (by decide), eC10, va_up_ne _ _ (by decide), eC9, va_up_ne _ _ (by decide), eC8, va_up_ne _ _ (by decide), eC7, va_up_ne _ _ (by decide), eC6, va_up_ne _ _ (by decide), eC5, va_up_ne _ _ (by decide), eC4, va_up_ne _ _ (by decide), eC3, va_up_ne _ _ (by decide), eC2, va_up_ne _ _ (by decide), eC1, va_up_ne _ _ (by decide)]; exact (by rw [eC]; rfl)) (by decide) (by decide) (by decide) (Nat.le_of_ble_eq_true rfl) (Nat.le_of_ble_eq_true rfl) dX3_init_147 (fun q18 H hP hS => ?_)
  obtain ⟨C35, eC35⟩ : ∃ zz, zz = va_up C34 18 (some (.inl (gI G, 300, .inl (fun _ => 0)))) := ⟨_, rfl⟩
  have hP : pw G A (va_up (va_up (va_up (va_up (va_up (va_up (va_up (va_up (va_up (va_up (va_up (va_up (va_up (va_up (va_up (va_up (va_up (va_up ad 1 q1) 2 q2) 3 q3) 4 q4) 5 q5) 6 q6) 7 q7) 8 q8) 9 q9) 10 q10) 11 q11) 12 q12) 13 q13) 14 q14) 15 q15) 16 q16) 17 q17) 18 q18) C35 H := by rw [eC35]; exact hP
  refine w_putF (ad := va_up (va_up (va_up (va_up (va_up (va_up (va_up (va_up (va_up (va_up (va_up (va_up (va_up (va_up (va_up (va_up (va_up (va_up ad 1 q1) 2 q2) 3 q3) 4 q4) 5 q5) 6 q6) 7 q7) 8 q8) 9 q9) 10 q10) 11 q11) 12 q12) 13 q13) 14 q14) 15 q15) 16 q16) 17 q17) 18 q18) (C := C35) (fs := [.int 0, .int 0, .ref q1, .ref q2, .ref q3, .ref q4, .ref q5, .ref q6, .ref q7, .ref q8, .ref q9, .ref q10, .ref q11, .ref q12, .ref q13, .int 0, .ref q14, .ref q15, .ref q16, .ref q17, .null, .null, .null, .null, .null, .int 0, .null, .null]) (i := 0) cx (ci := 3) rfl iX3 tyX3_ok nmX3 hP hS (by rw [eC35, va_up_ne _ _ (by decide), eC34, va_up_self]) 20 (by decide) k_471 rfl (hnm.trans rfl) rfl rfl rfl rfl (Nat.lt_of_lt_of_eq (show 20 < 28 by decide) rfl) dX3_init_149 (fun H locs hP hS => ?_)
  obtain ⟨C36, eC36⟩ : ∃ zz, zz = va_up C35 0 (some (.inr (3, [.int 0, .int 0, .ref q1, .ref q2, .ref q3, .ref q4, .ref q5, .ref q6, .ref q7, .ref q8, .ref q9, .ref q10, .ref q11, .ref q12, .ref q13, .int 0, .ref q14, .ref q15, .ref q16, .ref q17, .ref q18, .null, .null, .null, .null, .int 0, .null, .null]))) := ⟨_, rfl⟩
  have hP : pw G A (va_up (va_up (va_up (va_up (va_up (va_up (va_up (va_up (va_up (va_up (va_up (va_up (va_up (va_up (va_up (va_up (va_up (va_up ad 1 q1) 2 q2) 3 q3) 4 q4) 5 q5) 6 q6) 7 q7) 8 q8) 9 q9) 10 q10) 11 q11) 12 q12) 13 q13) 14 q14) 15 q15) 16 q16) 17 q17) 18 q18) C36 H := by rw [eC36]; exact hP
  refine lv_aload_n hx hb dX3_init_152 rfl (lv_at hl 0 rfl) ?_
  refine lv_sipush (v := 300) hx hb dX3_init_153 (by decide) ?_
  refine w_newZ (n := 300) 19 300 cx k_536 hP hS hA (by rw [eC36, va_up_ne _ _ (by decide), eC35, va_up_ne _ _ (by decide), eC34, va_up_ne _ _ (by decide), eC33, va_up_ne _ _ (by decide), eC32, va_up_ne _ _ (by decide), eC31, va_up_ne _ _ (by decide), eC30, va_up_ne _ _ (by decide), eC29, va_up_ne _ _ (by decide), eC28, va_up_ne _ _ (by decide), eC27, va_up_ne _ _ (by decide), eC26, va_up_ne _ _ (by decide), eC25, va_up_ne _ _ (by decide), eC24, va_up_ne _ _ (by decide), eC23, va_up_ne _ _ (by decide), eC22, va_up_ne _ _ (by decide), eC21, va_up_ne _ _ (by decide), eC20, va_up_ne _ _ (by decide), eC19, va_up_ne _ _ (by decide), eC18, va_up_ne _ _ (by decide), eC17, va_up_ne _ _ (by decide), eC16, va_up_ne _ _ (by decide), eC15, va_up_ne _ _ (by decide), eC14, va_up_ne _ _ (by decide), eC13, va_up_ne _ _ (by decide), eC12, va_up_ne _ _ (by decide), eC11, va_up_ne _ _ (by decide), eC10, va_up_ne _ _ (by decide), eC9, va_up_ne _ _ (by decide), eC8, va_up_ne _ _ (by decide), eC7, va_up_ne _ _ (by decide), eC6, va_up_ne _ _ (by decide), eC5, va_up_ne _ _ (by decide), eC4, va_up_ne _ _ (by decide), eC3, va_up_ne _ _ (by decide), eC2, va_up_ne _ _ (by decide), eC1, va_up_ne _ _ (by decide)]; exact (by rw [eC]; rfl)) (by decide) (by decide) (by decide) (Nat.le_of_ble_eq_true rfl) (Nat.le_of_ble_eq_true rfl) dX3_init_156 (fun q19 H hP hS => ?_)
  obtain ⟨C37, eC37⟩ : ∃ zz, zz = va_up C36 19 (some (.inl (gZ G, 300, .inl (fun _ => 0)))) := ⟨_, rfl⟩
  have hP : pw G A (va_up (va_up (va_up (va_up (va_up (va_up (va_up (va_up (va_up (va_up (va_up (va_up (va_up (va_up (va_up (va_up (va_up (va_up (va_up ad 1 q1) 2 q2) 3 q3) 4 q4) 5 q5) 6 q6) 7 q7) 8 q8) 9 q9) 10 q10) 11 q11) 12 q12) 13 q13) 14 q14) 15 q15) 16 q16) 17 q17) 18 q18) 19 q19) C37 H := by rw [eC37]; exact hP
  refine w_putF (ad := va_up (va_up (va_up (va_up (va_up (va_up (va_up (va_up (va_up (va_up (va_up (va_up (va_up (va_up (va_up (va_up (va_up (va_up (va_up ad 1 q1) 2 q2) 3 q3) 4 q4) 5 q5) 6 q6) 7 q7) 8 q8) 9 q9) 10 q10) 11 q11) 12 q12) 13 q13) 14 q14) 15 q15) 16 q16) 17 q17) 18 q18) 19 q19) (C := C37) (fs := [.int 0, .int 0, .ref q1, .ref q2, .ref q3, .ref q4, .ref q5, .ref q6, .ref q7, .ref q8, .ref q9, .ref q10, .ref q11, .ref q12, .ref q13, .int 0, .ref q14, .ref q15, .ref q16, .ref q17, .ref q18, .null, .null, .null, .null, .int 0, .null, .null]) (i := 0) cx (ci := 3) rfl iX3 tyX3_ok nmX3 hP hS (by rw [eC37, va_up_ne _ _ (by decide), eC36, va_up_self]) 21 (by decide) k_472 rfl (hnm.trans rfl) rfl rfl rfl rfl (Nat.lt_of_lt_of_eq (show 21 < 28 by decide) rfl) dX3_init_158 (fun H locs hP hS => ?_)
  obtain ⟨C38, eC38⟩ : ∃ zz, zz = va_up C37 0 (some (.inr (3, [.int 0, .int 0, .ref q1, .ref q2, .ref q3, .ref q4, .ref q5, .ref q6, .ref q7, .ref q8, .ref q9, .ref q10, .ref q11, .ref q12, .ref q13, .int 0, .ref q14, .ref q15, .ref q16, .ref q17, .ref q18, .ref q19, .null, .null, .null, .int 0, .null, .null]))) := ⟨_, rfl⟩
  have hP : pw G A (va_up (va_up (va_up (va_up (va_up (va_up (va_up (va_up (va_up (va_up (va_up (va_up (va_up (va_up (va_up (va_up (va_up (va_up (va_up ad 1 q1) 2 q2) 3 q3) 4 q4) 5 q5) 6 q6) 7 q7) 8 q8) 9 q9) 10 q10) 11 q11) 12 q12) 13 q13) 14 q14) 15 q15) 16 q16) 17 q17) 18 q18) 19 q19) C38 H := by rw [eC38]; exact hP
  refine lv_aload_n hx hb dX3_init_161 rfl (lv_at hl 0 rfl) ?_
  refine lv_sipush (v := 300) hx hb dX3_init_162 (by decide) ?_
  refine w_newZ (n := 300) 20 300 cx k_536 hP hS hA (by rw [eC38, va_up_ne _ _ (by decide), eC37, va_up_ne _ _ (by decide), eC36, va_up_ne _ _ (by decide), eC35, va_up_ne _ _ (by decide), eC34, va_up_ne _ _ (by decide), eC33, va_up_ne _ _ (by decide), eC32, va_up_ne _ _ (by decide), eC31, va_up_ne _ _ (by decide), eC30, va_up_ne _ _ (by decide), eC29, va_up_ne _ _ (by decide), eC28, va_up_ne _ _ (by decide), eC27, va_up_ne _ _ (by decide), eC26, va_up_ne _ _ (by decide), eC25, va_up_ne _ _ (by decide), eC24, va_up_ne _ _ (by decide), eC23, va_up_ne _ _ (by decide), eC22, va_up_ne _ _ (by decide), eC21, va_up_ne _ _ (by decide), eC20, va_up_ne _ _ (by decide), eC19, va_up_ne _ _ (by decide), eC18, va_up_ne _ _ (by decide), eC17, va_up_ne _ _ (by decide), eC16, va_up_ne _ _ (by decide), eC15, va_up_ne _ _ (by decide), eC14, va_up_ne _ _ (by decide), eC13, va_up_ne _ _ (by decide), eC12, va_up_ne _ _ (by decide), eC11, va_up_ne _ _ (by decide), eC10, va_up_ne _ _ (by decide), eC9, va_up_ne _ _ (by decide), eC8, va_up_ne _ _ (by decide), eC7, va_up_ne _ _ (by decide), eC6, va_up_ne _ _ (by decide), eC5, va_up_ne _ _ (by decide), eC4, va_up_ne _ _ (by decide), eC3, va_up_ne _ _ (by decide), eC2, va_up_ne _ _ (by decide), eC1, va_up_ne _ _ (by decide)]; exact (by rw [eC]; rfl)) (by decide) (by decide) (by decide) (Nat.le_of_ble_eq_true rfl) (Nat.le_of_ble_eq_true rfl) dX3_init_165 (fun q20 H hP hS => ?_)
  obtain ⟨C39, eC39⟩ : ∃ zz, zz = va_up C38 20 (some (.inl (gZ G, 300, .inl (fun _ => 0)))) := ⟨_, rfl⟩
  have hP : pw G A (va_up (va_up (va_up (va_up (va_up (va_up (va_up (va_up (va_up (va_up (va_up (va_up (va_up (va_up (va_up (va_up (va_up (va_up (va_up (va_up ad 1 q1) 2 q2) 3 q3) 4 q4) 5 q5) 6 q6) 7 q7) 8 q8) 9 q9) 10 q10) 11 q11) 12 q12) 13 q13) 14 q14) 15 q15) 16 q16) 17 q17) 18 q18) 19 q19) 20 q20) C39 H := by rw [eC39]; exact hP
  refine w_putF (ad := va_up (va_up (va_up (va_up (va_up (va_up (va_up (va_up (va_up (va_up (va_up (va_up (va_up (va_up (va_up (va_up (va_up (va_up (va_up (va_up ad 1 q1) 2 q2) 3 q3) 4 q4) 5 q5) 6 q6) 7 q7) 8 q8) 9 q9) 10 q10) 11 q11) 12 q12) 13 q13) 14 q14) 15 q15) 16 q16) 17 q17) 18 q18) 19 q19) 20 q20) (C := C39) (fs := [.int 0, .int 0, .ref q1, .ref q2, .ref q3, .ref q4, .ref q5, .ref q6, .ref q7, .ref q8, .ref q9, .ref q10, .ref q11, .ref q12, .ref q13, .int 0, .ref q14, .ref q15, .ref q16, .ref q17, .ref q18, .ref q19, .null, .null, .null, .int 0, .null, .null]) (i := 0) cx (ci := 3) rfl iX3 tyX3_ok nmX3 hP hS (by rw [eC39, va_up_ne _ _ (by decide), eC38, va_up_self]) 22 (by decide) k_473 rfl (hnm.trans rfl) rfl rfl rfl rfl (Nat.lt_of_lt_of_eq (show 22 < 28 by decide) rfl) dX3_init_167 (fun H locs hP hS => ?_)
  obtain ⟨C40, eC40⟩ : ∃ zz, zz = va_up C39 0 (some (.inr (3, [.int 0, .int 0, .ref q1, .ref q2, .ref q3, .ref q4, .ref q5, .ref q6, .ref q7, .ref q8, .ref q9, .ref q10, .ref q11, .ref q12, .ref q13, .int 0, .ref q14, .ref q15, .ref q16, .ref q17, .ref q18, .ref q19, .ref q20, .null, .null, .int 0, .null, .null]))) := ⟨_, rfl⟩
  have hP : pw G A (va_up (va_up (va_up (va_up (va_up (va_up (va_up (va_up (va_up (va_up (va_up (va_up (va_up (va_up (va_up (va_up (va_up (va_up (va_up (va_up ad 1 q1) 2 q2) 3 q3) 4 q4) 5 q5) 6 q6) 7 q7) 8 q8) 9 q9) 10 q10) 11 q11) 12 q12) 13 q13) 14 q14) 15 q15) 16 q16) 17 q17) 18 q18) 19 q19) 20 q20) C40 H := by rw [eC40]; exact hP
  refine lv_aload_n hx hb dX3_init_170 rfl (lv_at hl 0 rfl) ?_
  refine lv_sipush (v := 300) hx hb dX3_init_171 (by decide) ?_
  refine w_newI (n := 300) 21 300 cx k_85 hP hS hA (by rw [eC40, va_up_ne _ _ (by decide), eC39, va_up_ne _ _ (by decide), eC38, va_up_ne _ _ (by decide), eC37, va_up_ne _ _ (by decide), eC36, va_up_ne _ _ (by decide), eC35, va_up_ne _ _ (by decide), eC34, va_up_ne _ _ (by decide), eC33, va_up_ne _ _ (by decide), eC32, va_up_ne _ _ (by decide), eC31, va_up_ne _ _ (by decide), eC30, va_up_ne _ _ (by decide), eC29, va_up_ne _ _ (by decide), eC28, va_up_ne _ _ (by decide), eC27, va_up_ne _ _ (by decide), eC26, va_up_ne _ _ (by decide), eC25, va_up_ne _ _ (by decide), eC24, va_up_ne _ _ (by decide), eC23, va_up_ne _ _ (by decide), eC22, va_up_ne _ _ (by decide), eC21, va_up_ne _ _ (by decide), eC20, va_up_ne _ _ (by decide), eC19, va_up_ne _ _ (by decide), eC18, va_up_ne _ _ (by decide), eC17, va_up_ne _ _ (by decide), eC16, va_up_ne _ _ (by decide), eC15, va_up_ne _ _ (by decide), eC14, va_up_ne _ _ (by decide), eC13, va_up_ne _ _ (by decide), eC12, va_up_ne _ _ (by decide), eC11, va_up_ne _ _ (by decide), eC10, va_up_ne _ _ (by decide), eC9, va_up_ne _ _ (by decide), eC8, va_up_ne _ _ (by decide), eC7, va_up_ne _ _ (by decide), eC6, va_up_ne _ _ (by decide), eC5, va_up_ne _ _ (by decide), eC4, va_up_ne _ _ (by decide), eC3, va_up_ne _ _ (by decide), eC2, va_up_ne _ _ (by decide), eC1, va_up_ne _ _ (by decide)]; exact (by rw [eC]; rfl)) (by decide) (by decide) (by decide) (Nat.le_of_ble_eq_true rfl) (Nat.le_of_ble_eq_true rfl) dX3_init_174 (fun q21 H hP hS => ?_)
  obtain ⟨C41, eC41⟩ : ∃ zz, zz = va_up C40 21 (some (.inl (gI G, 300, .inl (fun _ => 0)))) := ⟨_, rfl⟩
  have hP : pw G A (va_up (va_up (va_up (va_up (va_up (va_up (va_up (va_up (va_up (va_up (va_up (va_up (va_up (va_up (va_up (va_up (va_up (va_up (va_up (va_up (va_up ad 1 q1) 2 q2) 3 q3) 4 q4) 5 q5) 6 q6) 7 q7) 8 q8) 9 q9) 10 q10) 11 q11) 12 q12) 13 q13) 14 q14) 15 q15) 16 q16) 17 q17) 18 q18) 19 q19) 20 q20) 21 q21) C41 H := by rw [eC41]; exact hP
  refine w_putF (ad := va_up (va_up (va_up (va_up (va_up (va_up (va_up (va_up (va_up (va_up (va_up (va_up (va_up (va_up (va_up (va_up (va_up (va_up (va_up (va_up (va_up ad 1 q1) 2 q2) 3 q3) 4 q4) 5 q5) 6 q6) 7 q7) 8 q8) 9 q9) 10 q10) 11 q11) 12 q12) 13 q13) 14 q14) 15 q15) 16 q16) 17 q17) 18 q18) 19 q19) 20 q20) 21 q21) (C := C41) (fs := [.int 0, .int 0, .ref q1, .ref q2, .ref q3, .ref q4, .ref q5, .ref q6, .ref q7, .ref q8, .ref q9, .ref q10, .ref q11, .ref q12, .ref q13, .int 0, .ref q14, .ref q15, .ref q16, .ref q17, .ref q18, .ref q19, .ref q20, .null, .null, .int 0, .null, .null]) (i := 0) cx (ci := 3) rfl iX3 tyX3_ok nmX3 hP hS (by rw [eC41, va_up_ne _ _ (by decide), eC40, va_up_self]) 23 (by decide) k_474 rfl (hnm.trans rfl) rfl rfl rfl rfl (Nat.lt_of_lt_of_eq (show 23 < 28 by decide) rfl) dX3_init_176 (fun H locs hP hS => ?_)
  obtain ⟨C42, eC42⟩ : ∃ zz, zz = va_up C41 0 (some (.inr (3, [.int 0, .int 0, .ref q1, .ref q2, .ref q3, .ref q4, .ref q5, .ref q6, .ref q7, .ref q8, .ref q9, .ref q10, .ref q11, .ref q12, .ref q13, .int 0, .ref q14, .ref q15, .ref q16, .ref q17, .ref q18, .ref q19, .ref q20, .ref q21, .null, .int 0, .null, .null]))) := ⟨_, rfl⟩
  have hP : pw G A (va_up (va_up (va_up (va_up (va_up (va_up (va_up (va_up (va_up (va_up (va_up (va_up (va_up (va_up (va_up (va_up (va_up (va_up (va_up (va_up (va_up ad 1 q1) 2 q2) 3 q3) 4 q4) 5 q5) 6 q6) 7 q7) 8 q8) 9 q9) 10 q10) 11 q11) 12 q12) 13 q13) 14 q14) 15 q15) 16 q16) 17 q17) 18 q18) 19 q19) 20 q20) 21 q21) C42 H := by rw [eC42]; exact hP
  refine lv_aload_n hx hb dX3_init_179 rfl (lv_at hl 0 rfl) ?_
  refine lv_sipush (v := 300) hx hb dX3_init_180 (by decide) ?_
  refine w_newZ (n := 300) 22 300 cx k_536 hP hS hA (by rw [eC42, va_up_ne _ _ (by decide), eC41, va_up_ne _ _ (by decide), eC40, va_up_ne _ _ (by decide), eC39, va_up_ne _ _ (by decide), eC38, va_up_ne _ _ (by decide), eC37, va_up_ne _ _ (by decide), eC36, va_up_ne _ _ (by decide), eC35, va_up_ne _ _ (by decide), eC34, va_up_ne _ _ (by decide), eC33, va_up_ne _ _ (by decide), eC32, va_up_ne _ _ (by decide), eC31, va_up_ne _ _ (by decide), eC30, va_up_ne _ _ (by decide), eC29, va_up_ne _ _ (by decide), eC28, va_up_ne _ _ (by decide), eC27, va_up_ne _ _ (by decide), eC26, va_up_ne _ _ (by decide), eC25, va_up_ne _ _ (by decide), eC24, va_up_ne _ _ (by decide), eC23, va_up_ne _ _ (by decide), eC22, va_up_ne _ _ (by decide), eC21, va_up_ne _ _ (by decide), eC20, va_up_ne _ _ (by decide), eC19, va_up_ne _ _ (by decide), eC18, va_up_ne _ _ (by decide), eC17, va_up_ne _ _ (by decide), eC16, va_up_ne _ _ (by decide), eC15, va_up_ne _ _ (by decide), eC14, va_up_ne _ _ (by decide), eC13, va_up_ne _ _ (by decide), eC12, va_up_ne _ _ (by decide), eC11, va_up_ne _ _ (by decide), eC10, va_up_ne _ _ (by decide), eC9, va_up_ne _ _ (by decide), eC8, va_up_ne _ _ (by decide), eC7, va_up_ne _ _ (by decide), eC6, va_up_ne _ _ (by decide), eC5, va_up_ne _ _ (by decide), eC4, va_up_ne _ _ (by decide), eC3, va_up_ne _ _ (by decide), eC2, va_up_ne _ _ (by decide), eC1, va_up_ne _ _ (by decide)]; exact (by rw [eC]; rfl)) (by decide) (by decide) (by decide) (Nat.le_of_ble_eq_true rfl) (Nat.le_of_ble_eq_true rfl) dX3_init_183 (fun q22 H hP hS => ?_)
  obtain ⟨C43, eC43⟩ : ∃ zz, zz = va_up C42 22 (some (.inl (gZ G, 300, .inl (fun _ => 0)))) := ⟨_, rfl⟩
  have hP : pw G A (va_up (va_up (va_up (va_up (va_up (va_up (va_up (va_up (va_up (va_up (va_up (va_up (va_up (va_up (va_up (va_up (va_up (va_up (va_up (va_up (va_up (va_up ad 1 q1) 2 q2) 3 q3) 4 q4) 5 q5) 6 q6) 7 q7) 8 q8) 9 q9) 10 q10) 11 q11) 12 q12) 13 q13) 14 q14) 15 q15) 16 q16) 17 q17) 18 q18) 19 q19) 20 q20) 21 q21) 22 q22) C43 H := by rw [eC43]; exact hP
  refine w_putF (ad := va_up (va_up (va_up (va_up (va_up (va_up (va_up (va_up (va_up (va_up (va_up (va_up (va_up (va_up (va_up (va_up (va_up (va_up (va_up (va_up (va_up (va_up ad 1 q1) 2 q2) 3 q3) 4 q4) 5 q5) 6 q6) 7 q7) 8 q8) 9 q9) 10 q10) 11 q11) 12 q12) 13 q13) 14 q14) 15 q15) 16 q16) 17 q17) 18 q18) 19 q19) 20 q20) 21 q21) 22 q22) (C := C43) (fs := [.int 0, .int 0, .ref q1, .ref q2, .ref q3, .ref q4, .ref q5, .ref q6, .ref q7, .ref q8, .ref q9, .ref q10, .ref q11, .ref q12, .ref q13, .int 0, .ref q14, .ref q15, .ref q16, .ref q17, .ref q18, .ref q19, .ref q20, .ref q21, .null, .int 0, .null, .null]) (i := 0) cx (ci := 3) rfl iX3 tyX3_ok nmX3 hP hS (by rw [eC43, va_up_ne _ _ (by decide), eC42, va_up_self]) 24 (by decide) k_475 rfl (hnm.trans rfl) rfl rfl rfl rfl (Nat.lt_of_lt_of_eq (show 24 < 28 by decide) rfl) dX3_init_185 (fun H locs hP hS => ?_)
  obtain ⟨C44, eC44⟩ : ∃ zz, zz = va_up C43 0 (some (.inr (3, [.int 0, .int 0, .ref q1, .ref q2, .ref q3, .ref q4, .ref q5, .ref q6, .ref q7, .ref q8, .ref q9, .ref q10, .ref q11, .ref q12, .ref q13, .int 0, .ref q14, .ref q15, .ref q16, .ref q17, .ref q18, .ref q19, .ref q20, .ref q21, .ref q22, .int 0, .null, .null]))) := ⟨_, rfl⟩
  have hP : pw G A (va_up (va_up (va_up (va_up (va_up (va_up (va_up (va_up (va_up (va_up (va_up (va_up (va_up (va_up (va_up (va_up (va_up (va_up (va_up (va_up (va_up (va_up ad 1 q1) 2 q2) 3 q3) 4 q4) 5 q5) 6 q6) 7 q7) 8 q8) 9 q9) 10 q10) 11 q11) 12 q12) 13 q13) 14 q14) 15 q15) 16 q16) 17 q17) 18 q18) 19 q19) 20 q20) 21 q21) 22 q22) C44 H := by rw [eC44]; exact hP
  refine lv_aload_n hx hb dX3_init_188 rfl (lv_at hl 0 rfl) ?_
  refine lv_bipush (v := 10) hx hb dX3_init_189 (by decide) ?_
  refine w_newI (n := 10) 23 10 cx k_85 hP hS hA (by rw [eC44, va_up_ne _ _ (by decide), eC43, va_up_ne _ _ (by decide), eC42, va_up_ne _ _ (by decide), eC41, va_up_ne _ _ (by decide), eC40, va_up_ne _ _ (by decide), eC39, va_up_ne _ _ (by decide), eC38, va_up_ne _ _ (by decide), eC37, va_up_ne _ _ (by decide), eC36, va_up_ne _ _ (by decide), eC35, va_up_ne _ _ (by decide), eC34, va_up_ne _ _ (by decide), eC33, va_up_ne _ _ (by decide), eC32, va_up_ne _ _ (by decide), eC31, va_up_ne _ _ (by decide), eC30, va_up_ne _ _ (by decide), eC29, va_up_ne _ _ (by decide), eC28, va_up_ne _ _ (by decide), eC27, va_up_ne _ _ (by decide), eC26, va_up_ne _ _ (by decide), eC25, va_up_ne _ _ (by decide), eC24, va_up_ne _ _ (by decide), eC23, va_up_ne _ _ (by decide), eC22, va_up_ne _ _ (by decide), eC21, va_up_ne _ _ (by decide), eC20, va_up_ne _ _ (by decide), eC19, va_up_ne _ _ (by decide), eC18, va_up_ne _ _ (by decide), eC17, va_up_ne _ _ (by decide), eC16, va_up_ne _ _ (by decide), eC15, va_up_ne _ _ (by decide), eC14, va_up_ne _ _ (by decide), eC13, va_up_ne _ _ (by decide), eC12, va_up_ne _ _ (by decide), eC11, va_up_ne _ _ (by decide), eC10, va_up_ne _ _ (by decide), eC9, va_up_ne _ _ (by decide), eC8, va_up_ne _ _ (by decide), eC7, va_up_ne _ _ (by decide), eC6, va_up_ne _ _ (by decide), eC5, va_up_ne _ _ (by decide), eC4, va_up_ne _ _ (by decide), eC3, va_up_ne _ _ (by decide), eC2, va_up_ne _ _ (by decide), eC1, va_up_ne _ _ (by decide)]; exact (by rw [eC]; rfl)) (by decide) (by decide) (by decide) (Nat.le_of_ble_eq_true rfl) (Nat.le_of_ble_eq_true rfl) dX3_init_191 (fun q23 H hP hS => ?_)
  obtain ⟨C45, eC45⟩ : ∃ zz, zz = va_up C44 23 (some (.inl (gI G, 10, .inl (fun _ => 0)))) := ⟨_, rfl⟩
  have hP : pw G A (va_up (va_up (va_up (va_up (va_up (va_up (va_up (va_up (va_up (va_up (va_up (va_up (va_up (va_up (va_up (va_up (va_up (va_up (va_up (va_up (va_up (va_up (va_up ad 1 q1) 2 q2) 3 q3) 4 q4) 5 q5) 6 q6) 7 q7) 8 q8) 9 q9) 10 q10) 11 q11) 12 q12) 13 q13) 14 q14) 15 q15) 16 q16) 17 q17) 18 q18) 19 q19) 20 q20) 21 q21) 22 q22) 23 q23) C45 H := by rw [eC45]; exact hP
  refine w_putF (ad := va_up (va_up (va_up (va_up (va_up (va_up (va_up (va_up (va_up (va_up (va_up (va_up (va_up (va_up (va_up (va_up (va_up (va_up (va_up (va_up (va_up (va_up (va_up ad 1 q1) 2 q2) 3 q3) 4 q4) 5 q5) 6 q6) 7 q7) 8 q8) 9 q9) 10 q10) 11 q11) 12 q12) 13 q13) 14 q14) 15 q15) 16 q16) 17 q17) 18 q18) 19 q19) 20 q20) 21 q21) 22 q22) 23 q23) (C := C45) (fs := [.int 0, .int 0, .ref q1, .ref q2, .ref q3, .ref q4, .ref q5, .ref q6, .ref q7, .ref q8, .ref q9, .ref q10, .ref q11, .ref q12, .ref q13, .int 0, .ref q14, .ref q15, .ref q16, .ref q17, .ref q18, .ref q19, .ref q20, .ref q21, .ref q22, .int 0, .null, .null]) (i := 0) cx (ci := 3) rfl iX3 tyX3_ok nmX3 hP hS (by rw [eC45, va_up_ne _ _ (by decide), eC44, va_up_self]) 26 (by decide) k_477 rfl (hnm.trans rfl) rfl rfl rfl rfl (Nat.lt_of_lt_of_eq (show 26 < 28 by decide) rfl) dX3_init_193 (fun H locs hP hS => ?_)
  obtain ⟨C46, eC46⟩ : ∃ zz, zz = va_up C45 0 (some (.inr (3, [.int 0, .int 0, .ref q1, .ref q2, .ref q3, .ref q4, .ref q5, .ref q6, .ref q7, .ref q8, .ref q9, .ref q10, .ref q11, .ref q12, .ref q13, .int 0, .ref q14, .ref q15, .ref q16, .ref q17, .ref q18, .ref q19, .ref q20, .ref q21, .ref q22, .int 0, .ref q23, .null]))) := ⟨_, rfl⟩
  have hP : pw G A (va_up (va_up (va_up (va_up (va_up (va_up (va_up (va_up (va_up (va_up (va_up (va_up (va_up (va_up (va_up (va_up (va_up (va_up (va_up (va_up (va_up (va_up (va_up ad 1 q1) 2 q2) 3 q3) 4 q4) 5 q5) 6 q6) 7 q7) 8 q8) 9 q9) 10 q10) 11 q11) 12 q12) 13 q13) 14 q14) 15 q15) 16 q16) 17 q17) 18 q18) 19 q19) 20 q20) 21 q21) 22 q22) 23 q23) C46 H := by rw [eC46]; exact hP
  refine lv_aload_n hx hb dX3_init_196 rfl (lv_at hl 0 rfl) ?_
  refine lv_bipush (v := 10) hx hb dX3_init_197 (by decide) ?_
  refine w_newJ (n := 10) 24 10 cx k_86 hP hS hA (by rw [eC46, va_up_ne _ _ (by decide), eC45, va_up_ne _ _ (by decide), eC44, va_up_ne _ _ (by decide), eC43, va_up_ne _ _ (by decide), eC42, va_up_ne _ _ (by decide), eC41, va_up_ne _ _ (by decide), eC40, va_up_ne _ _ (by decide), eC39, va_up_ne _ _ (by decide), eC38, va_up_ne _ _ (by decide), eC37, va_up_ne _ _ (by decide), eC36, va_up_ne _ _ (by decide), eC35, va_up_ne _ _ (by decide), eC34, va_up_ne _ _ (by decide), eC33, va_up_ne _ _ (by decide), eC32, va_up_ne _ _ (by decide), eC31, va_up_ne _ _ (by decide), eC30, va_up_ne _ _ (by decide), eC29, va_up_ne _ _ (by decide), eC28, va_up_ne _ _ (by decide), eC27, va_up_ne _ _ (by decide), eC26, va_up_ne _ _ (by decide), eC25, va_up_ne _ _ (by decide), eC24, va_up_ne _ _ (by decide), eC23, va_up_ne _ _ (by decide), eC22, va_up_ne _ _ (by decide), eC21, va_up_ne _ _ (by decide), eC20, va_up_ne _ _ (by decide), eC19, va_up_ne _ _ (by decide), eC18, va_up_ne _ _ (by decide), eC17, va_up_ne _ _ (by decide), eC16, va_up_ne _ _ (by decide), eC15, va_up_ne _ _ (by decide), eC14, va_up_ne _ _ (by decide), eC13, va_up_ne _ _ (by decide), eC12, va_up_ne _ _ (by decide), eC11, va_up_ne _ _ (by decide), eC10, va_up_ne _ _ (by decide), eC9, va_up_ne _ _ (by decide), eC8, va_up_ne _ _ (by decide), eC7, va_up_ne _ _ (by decide), eC6, va_up_ne _ _ (by decide), eC5, va_up_ne _ _ (by decide), eC4, va_up_ne _ _ (by decide), eC3, va_up_ne _ _ (by decide), eC2, va_up_ne _ _ (by decide), eC1, va_up_ne _ _ (by decide)]; exact (by rw [eC]; rfl)) (by decide) (by decide) (by decide) (Nat.le_of_ble_eq_true rfl) (Nat.le_of_ble_eq_true rfl) dX3_init_199 (fun q24 H hP hS => ?_)
  obtain ⟨C47, eC47⟩ : ∃ zz, zz = va_up C46 24 (some (.inl (gJ G, 10, .inr (.inl (fun _ => 0))))) := ⟨_, rfl⟩
  have hP : pw G A (va_up (va_up (va_up (va_up (va_up (va_up (va_up (va_up (va_up (va_up (va_up (va_up (va_up (va_up (va_up (va_up (va_up (va_up (va_up (va_up (va_up (va_up (va_up (va_up ad 1 q1) 2 q2) 3 q3) 4 q4) 5 q5) 6 q6) 7 q7) 8 q8) 9 q9) 10 q10) 11 q11) 12 q12) 13 q13) 14 q14) 15 q15) 16 q16) 17 q17) 18 q18) 19 q19) 20 q20) 21 q21) 22 q22) 23 q23) 24 q24) C47 H := by rw [eC47]; exact hP
  refine w_putF (ad := va_up (va_up (va_up (va_up (va_up (va_up (va_up (va_up (va_up (va_up (va_up (va_up (va_up (va_up (va_up (va_up (va_up (va_up (va_up (va_up (va_up (va_up (va_up (va_up ad 1 q1) 2 q2) 3 q3) 4 q4) 5 q5) 6 q6) 7 q7) 8 q8) 9 q9) 10 q10) 11 q11) 12 q12) 13 q13) 14 q14) 15 q15) 16 q16) 17 q17) 18 q18) 19 q19) 20 q20) 21 q21) 22 q22) 23 q23) 24 q24) (C := C47) (fs := [.int 0, .int 0, .ref q1, .ref q2, .ref q3, .ref q4, .ref q5, .ref q6, .ref q7, .ref q8, .ref q9, .ref q10, .ref q11, .ref q12, .ref q13, .int 0, .ref q14, .ref q15, .ref q16, .ref q17, .ref q18, .ref q19, .ref q20, .ref q21, .ref q22, .int 0, .ref q23, .null]) (i := 0) cx (ci := 3) rfl iX3 tyX3_ok nmX3 hP hS (by rw [eC47, va_up_ne _ _ (by decide), eC46, va_up_self]) 27 (by decide) k_478 rfl (hnm.trans rfl) rfl rfl rfl rfl (Nat.lt_of_lt_of_eq (show 27 < 28 by decide) rfl) dX3_init_201 (fun H locs hP hS => ?_)
  obtain ⟨C48, eC48⟩ : ∃ zz, zz = va_up C47 0 (some (.inr (3, [.int 0, .int 0, .ref q1, .ref q2, .ref q3, .ref q4, .ref q5, .ref q6, .ref q7, .ref q8, .ref q9, .ref q10, .ref q11, .ref q12, .ref q13, .int 0, .ref q14, .ref q15, .ref q16, .ref q17, .ref q18, .ref q19, .ref q20, .ref q21, .ref q22, .int 0, .ref q23, .ref q24]))) := ⟨_, rfl⟩
  have hP : pw G A (va_up (va_up (va_up (va_up (va_up (va_up (va_up (va_up (va_up (va_up (va_up (va_up (va_up (va_up (va_up (va_up (va_up (va_up (va_up (va_up (va_up (va_up (va_up (va_up ad 1 q1) 2 q2) 3 q3) 4 q4) 5 q5) 6 q6) 7 q7) 8 q8) 9 q9) 10 q10) 11 q11) 12 q12) 13 q13) 14 q14) 15 q15) 16 q16) 17 q17) 18 q18) 19 q19) 20 q20) 21 q21) 22 q22) 23 q23) 24 q24) C48 H := by rw [eC48]; exact hP
  refine lv_iconst (v := 0) hx hb dX3_init_204 (by decide) ?_
  refine lv_istore_n (lv' := [(1, .int 0), (0, .ref (ad 0))]) hx hb dX3_init_205 rfl hl (by decide) rfl (fun ls hl => ?_)
  refine lv_iload_n hx hb dX3_init_206 rfl (lv_at hl 0 rfl) ?_
  refine lv_iconst (v := 4) hx hb dX3_init_207 (by decide) ?_
  refine lv_icmp_ge (tgt := 234) hx hb dX3_init_208 (by decide) (fun c_1 => ?_) (fun c_1 => ?_)
  · exact absurd c_1 (by decide)
  refine lv_aload_n hx hb dX3_init_211 rfl (lv_at hl 1 rfl) ?_
  refine w_get (fs := [.int 0, .int 0, .ref q1, .ref q2, .ref q3, .ref q4, .ref q5, .ref q6, .ref q7, .ref q8, .ref q9, .ref q10, .ref q11, .ref q12, .ref q13, .int 0, .ref q14, .ref q15, .ref q16, .ref q17, .ref q18, .ref q19, .ref q20, .ref q21, .ref q22, .int 0, .ref q23, .ref q24]) cx (ci := 3) rfl iX3 (hP.pa 0 _ (by rw [eC48, va_up_self])) 12 (by decide) k_463 (v := .ref q11) rfl dX3_init_212 ?_
  refine lv_iload_n hx hb dX3_init_215 rfl (lv_at hl 0 rfl) ?_
  refine lv_bipush (v := 100) hx hb dX3_init_216 (by decide) ?_
  refine w_iast (ad := va_up (va_up (va_up (va_up (va_up (va_up (va_up (va_up (va_up (va_up (va_up (va_up (va_up (va_up (va_up (va_up (va_up (va_up (va_up (va_up (va_up (va_up (va_up (va_up ad 1 q1) 2 q2) 3 q3) 4 q4) 5 q5) 6 q6) 7 q7) 8 q8) 9 q9) 10 q10) 11 q11) 12 q12) 13 q13) 14 q14) 15 q15) 16 q16) 17 q17) 18 q18) 19 q19) 20 q20) 21 q21) 22 q22) 23 q23) 24 q24) (C := C48) (n := 4) (f := fun _ => 0) (i := 11) cx hP hS (by rw [eC48, va_up_ne _ _ (by decide), eC47, va_up_ne _ _ (by decide), eC46, va_up_ne _ _ (by decide), eC45, va_up_ne _ _ (by decide), eC44, va_up_ne _ _ (by decide), eC43, va_up_ne _ _ (by decide), eC42, va_up_ne _ _ (by decide), eC41, va_up_ne _ _ (by decide), eC40, va_up_ne _ _ (by decide), eC39, va_up_ne _ _ (by decide), eC38, va_up_ne _ _ (by decide), eC37, va_up_ne _ _ (by decide), eC36, va_up_ne _ _ (by decide), eC35, va_up_ne _ _ (by decide), eC34, va_up_ne _ _ (by decide), eC33, va_up_ne _ _ (by decide), eC32, va_up_ne _ _ (by decide), eC31, va_up_ne _ _ (by decide), eC30, va_up_ne _ _ (by decide), eC29, va_up_ne _ _ (by decide), eC28, va_up_ne _ _ (by decide), eC27, va_up_ne _ _ (by decide), eC26, va_up_ne _ _ (by decide), eC25, va_up_ne _ _ (by decide), eC24, va_up_ne _ _ (by decide), eC23, va_up_ne _ _ (by decide), eC22, va_up_ne _ _ (by decide), eC21, va_up_self]) 0 rfl (by decide) (by decide) dX3_init_218 (fun H locs hP hS => ?_)
  obtain ⟨C49, eC49⟩ : ∃ zz, zz = va_up C48 11 (some (.inl (gI G, 4, .inl (upd (fun _ => 0) 0 100)))) := ⟨_, rfl⟩
  have hP : pw G A (va_up (va_up (va_up (va_up (va_up (va_up (va_up (va_up (va_up (va_up (va_up (va_up (va_up (va_up (va_up (va_up (va_up (va_up (va_up (va_up (va_up (va_up (va_up (va_up ad 1 q1) 2 q2) 3 q3) 4 q4) 5 q5) 6 q6) 7 q7) 8 q8) 9 q9) 10 q10) 11 q11) 12 q12) 13 q13) 14 q14) 15 q15) 16 q16) 17 q17) 18 q18) 19 q19) 20 q20) 21 q21) 22 q22) 23 q23) 24 q24) C49 H := by rw [eC49]; exact hP
  refine lv_aload_n hx hb dX3_init_219 rfl (lv_at hl 1 rfl) ?_
  refine w_get (fs := [.int 0, .int 0, .ref q1, .ref q2, .ref q3, .ref q4, .ref q5, .ref q6, .ref q7, .ref q8, .ref q9, .ref q10, .ref q11, .ref q12, .ref q13, .int 0, .ref q14, .ref q15, .ref q16, .ref q17, .ref q18, .ref q19, .ref q20, .ref q21, .ref q22, .int 0, .ref q23, .ref q24]) cx (ci := 3) rfl iX3 (hP.pa 0 _ (by rw [eC49, va_up_ne _ _ (by decide), eC48, va_up_self])) 13 (by decide) k_464 (v := .ref q12) rfl dX3_init_220 ?_
  refine lv_iload_n hx hb dX3_init_223 rfl (lv_at hl 0 rfl) ?_
  refine lv_sipush (v := 200) hx hb dX3_init_224 (by decide) ?_
  refine w_iast (ad := va_up (va_up (va_up (va_up (va_up (va_up (va_up (va_up (va_up (va_up (va_up (va_up (va_up (va_up (va_up (va_up (va_up (va_up (va_up (va_up (va_up (va_up (va_up (va_up ad 1 q1) 2 q2) 3 q3) 4 q4) 5 q5) 6 q6) 7 q7) 8 q8) 9 q9) 10 q10) 11 q11) 12 q12) 13 q13) 14 q14) 15 q15) 16 q16) 17 q17) 18 q18) 19 q19) 20 q20) 21 q21) 22 q22) 23 q23) 24 q24) (C := C49) (n := 4) (f := fun _ => 0) (i := 12) cx hP hS (by rw [eC49, va_up_ne _ _ (by decide), eC48, va_up_ne _ _ (by decide), eC47, va_up_ne _ _ (by decide), eC46, va_up_ne _ _ (by decide), eC45, va_up_ne _ _ (by decide), eC44, va_up_ne _ _ (by decide), eC43, va_up_ne _ _ (by decide), eC42, va_up_ne _ _ (by decide), eC41, va_up_ne _ _ (by decide), eC40, va_up_ne _ _ (by decide), eC39, va_up_ne _ _ (by decide), eC38, va_up_ne _ _ (by decide), eC37, va_up_ne _ _ (by decide), eC36, va_up_ne _ _ (by decide), eC35, va_up_ne _ _ (by decide), eC34, va_up_ne _ _ (by decide), eC33, va_up_ne _ _ (by decide), eC32, va_up_ne _ _ (by decide), eC31, va_up_ne _ _ (by decide), eC30, va_up_ne _ _ (by decide), eC29, va_up_ne _ _ (by decide), eC28, va_up_ne _ _ (by decide), eC27, va_up_ne _ _ (by decide), eC26, va_up_ne _ _ (by decide), eC25, va_up_ne _ _ (by decide), eC24, va_up_ne _ _ (by decide), eC23, va_up_self]) 0 rfl (by decide) (by decide) dX3_init_227 (fun H locs hP hS => ?_)
  obtain ⟨C50, eC50⟩ : ∃ zz, zz = va_up C49 12 (some (.inl (gI G, 4, .inl (upd (fun _ => 0) 0 200)))) := ⟨_, rfl⟩
  have hP : pw G A (va_up (va_up (va_up (va_up (va_up (va_up (va_up (va_up (va_up (va_up (va_up (va_up (va_up (va_up (va_up (va_up (va_up (va_up (va_up (va_up (va_up (va_up (va_up (va_up ad 1 q1) 2 q2) 3 q3) 4 q4) 5 q5) 6 q6) 7 q7) 8 q8) 9 q9) 10 q10) 11 q11) 12 q12) 13 q13) 14 q14) 15 q15) 16 q16) 17 q17) 18 q18) 19 q19) 20 q20) 21 q21) 22 q22) 23 q23) 24 q24) C50 H := by rw [eC50]; exact hP
  refine lv_iinc (v := 1) (lv' := [(1, .int 1), (0, .ref (ad 0))]) hx hb dX3_init_228 hl (k := 0) rfl (by decide) (by decide) rfl (fun ls hl => ?_)
  refine lv_goto (tgt := 206) hx hb dX3_init_231 (by decide) ?_
  refine lv_iload_n hx hb dX3_init_206 rfl (lv_at hl 0 rfl) ?_
  refine lv_iconst (v := 4) hx hb dX3_init_207 (by decide) ?_
  refine lv_icmp_ge (tgt := 234) hx hb dX3_init_208 (by decide) (fun c_1 => ?_) (fun c_1 => ?_)
  · exact absurd c_1 (by decide)
  refine lv_aload_n hx hb dX3_init_211 rfl (lv_at hl 1 rfl) ?_
  refine w_get (fs := [.int 0, .int 0, .ref q1, .ref q2, .ref q3, .ref q4, .ref q5, .ref q6, .ref q7, .ref q8, .ref q9, .ref q10, .ref q11, .ref q12, .ref q13, .int 0, .ref q14, .ref q15, .ref q16, .ref q17, .ref q18, .ref q19, .ref q20, .ref q21, .ref q22, .int 0, .ref q23, .ref q24]) cx (ci := 3) rfl iX3 (hP.pa 0 _ (by rw [eC50, va_up_ne _ _ (by decide), eC49, va_up_ne _ _ (by decide), eC48, va_up_self])) 12 (by decide) k_463 (v := .ref q11) rfl dX3_init_212 ?_
  refine lv_iload_n hx hb dX3_init_215 rfl (lv_at hl 0 rfl) ?_
  refine lv_bipush (v := 100) hx hb dX3_init_216 (by decide) ?_
  refine w_iast (ad := va_up (va_up (va_up (va_up (va_up (va_up (va_up (va_up (va_up (va_up (va_up (va_up (va_up (va_up (va_up (va_up (va_up (va_up (va_up (va_up (va_up (va_up (va_up (va_up ad 1 q1) 2 q2) 3 q3) 4 q4) 5 q5) 6 q6) 7 q7) 8 q8) 9 q9) 10 q10) 11 q11) 12 q12) 13 q13) 14 q14) 15 q15) 16 q16) 17 q17) 18 q18) 19 q19) 20 q20) 21 q21) 22 q22) 23 q23) 24 q24) (C := C50) (n := 4) (f := upd (fun _ => 0) 0 100) (i := 11) cx hP hS (by rw [eC50, va_up_ne _ _ (by decide), eC49, va_up_self]) 1 rfl (by decide) (by decide) dX3_init_218 (fun H locs hP hS => ?_)
  obtain ⟨C51, eC51⟩ : ∃ zz, zz = va_up C50 11 (some (.inl (gI G, 4, .inl (upd (upd (fun _ => 0) 0 100) 1 100)))) := ⟨_, rfl⟩
  have hP : pw G A (va_up (va_up (va_up (va_up (va_up (va_up (va_up (va_up (va_up (va_up (va_up (va_up (va_up (va_up (va_up (va_up (va_up (va_up (va_up (va_up (va_up (va_up (va_up (va_up ad 1 q1) 2 q2) 3 q3) 4 q4) 5 q5) 6 q6) 7 q7) 8 q8) 9 q9) 10 q10) 11 q11) 12 q12) 13 q13) 14 q14) 15 q15) 16 q16) 17 q17) 18 q18) 19 q19) 20 q20) 21 q21) 22 q22) 23 q23) 24 q24) C51 H := by rw [eC51]; exact hP
  refine lv_aload_n hx hb dX3_init_219 rfl (lv_at hl 1 rfl) ?_
  refine w_get (fs := [.int 0, .int 0, .ref q1, .ref q2, .ref q3, .ref q4, .ref q5, .ref q6, .ref q7, .ref q8, .ref q9, .ref q10, .ref q11, .ref q12, .ref q13, .int 0, .ref q14, .ref q15, .ref q16, .ref q17, .ref q18, .ref q19, .ref q20, .ref q21, .ref q22, .int 0, .ref q23, .ref q24]) cx (ci := 3) rfl iX3 (hP.pa 0 _ (by rw [eC51, va_up_ne _ _ (by decide), eC50, va_up_ne _ _ (by decide), eC49, va_up_ne _ _ (by decide), eC48, va_up_self])) 13 (by decide) k_464 (v := .ref q12) rfl dX3_init_220 ?_
  refine lv_iload_n hx hb dX3_init_223 rfl (lv_at hl 0 rfl) ?_
  refine lv_sipush (v := 200) hx hb dX3_init_224 (by decide) ?_
  refine w_iast (ad := va_up (va_up (va_up (va_up (va_up (va_up (va_up (va_up (va_up (va_up (va_up (va_up (va_up (va_up (va_up (va_up (va_up (va_up (va_up (va_up (va_up (va_up (va_up (va_up ad 1 q1) 2 q2) 3 q3) 4 q4) 5 q5) 6 q6) 7 q7) 8 q8) 9 q9) 10 q10) 11 q11) 12 q12) 13 q13) 14 q14) 15 q15) 16 q16) 17 q17) 18 q18) 19 q19) 20 q20) 21 q21) 22 q22) 23 q23) 24 q24) (C := C51) (n := 4) (f := upd (fun _ => 0) 0 200) (i := 12) cx hP hS (by rw [eC51, va_up_ne _ _ (by decide), eC50, va_up_self]) 1 rfl (by decide) (by decide) dX3_init_227 (fun H locs hP hS => ?_)
  obtain ⟨C52, eC52⟩ : ∃ zz, zz = va_up C51 12 (some (.inl (gI G, 4, .inl (upd (upd (fun _ => 0) 0 200) 1 200)))) := ⟨_, rfl⟩
  have hP : pw G A (va_up (va_up (va_up (va_up (va_up (va_up (va_up (va_up (va_up (va_up (va_up (va_up (va_up (va_up (va_up (va_up (va_up (va_up (va_up (va_up (va_up (va_up (va_up (va_up ad 1 q1) 2 q2) 3 q3) 4 q4) 5 q5) 6 q6) 7 q7) 8 q8) 9 q9) 10 q10) 11 q11) 12 q12) 13 q13) 14 q14) 15 q15) 16 q16) 17 q17) 18 q18) 19 q19) 20 q20) 21 q21) 22 q22) 23 q23) 24 q24) C52 H := by rw [eC52]; exact hP
  refine lv_iinc (v := 2) (lv' := [(1, .int 2), (0, .ref (ad 0))]) hx hb dX3_init_228 hl (k := 0) rfl (by decide) (by decide) rfl (fun ls hl => ?_)
  refine lv_goto (tgt := 206) hx hb dX3_init_231 (by decide) ?_
  refine lv_iload_n hx hb dX3_init_206 rfl (lv_at hl 0 rfl) ?_
  refine lv_iconst (v := 4) hx hb dX3_init_207 (by decide) ?_
  refine lv_icmp_ge (tgt := 234) hx hb dX3_init_208 (by decide) (fun c_1 => ?_) (fun c_1 => ?_)
  · exact absurd c_1 (by decide)
  refine lv_aload_n hx hb dX3_init_211 rfl (lv_at hl 1 rfl) ?_
  refine w_get (fs := [.int 0, .int 0, .ref q1, .ref q2, .ref q3, .ref q4, .ref q5, .ref q6, .ref q7, .ref q8, .ref q9, .ref q10, .ref q11, .ref q12, .ref q13, .int 0, .ref q14, .ref q15, .ref q16, .ref q17, .ref q18, .ref q19, .ref q20, .ref q21, .ref q22, .int 0, .ref q23, .ref q24]) cx (ci := 3) rfl iX3 (hP.pa 0 _ (by rw [eC52, va_up_ne _ _ (by decide), eC51, va_up_ne _ _ (by decide), eC50, va_up_ne _ _ (by decide), eC49, va_up_ne _ _ (by decide), eC48, va_up_self])) 12 (by decide) k_463 (v := .ref q11) rfl dX3_init_212 ?_
  refine lv_iload_n hx hb dX3_init_215 rfl (lv_at hl 0 rfl) ?_
  refine lv_bipush (v := 100) hx hb dX3_init_216 (by decide) ?_
  refine w_iast (ad := va_up (va_up (va_up (va_up (va_up (va_up (va_up (va_up (va_up (va_up (va_up (va_up (va_up (va_up (va_up (va_up (va_up (va_up (va_up (va_up (va_up (va_up (va_up (va_up ad 1 q1) 2 q2) 3 q3) 4 q4) 5 q5) 6 q6) 7 q7) 8 q8) 9 q9) 10 q10) 11 q11) 12 q12) 13 q13) 14 q14) 15 q15) 16 q16) 17 q17) 18 q18) 19 q19) 20 q20) 21 q21) 22 q22) 23 q23) 24 q24) (C := C52) (n := 4) (f := upd (upd (fun _ => 0) 0 100) 1 100) (i := 11) cx hP hS (by rw [eC52, va_up_ne _ _ (by decide), eC51, va_up_self]) 2 rfl (by decide) (by decide) dX3_init_218 (fun H locs hP hS => ?_)
  obtain ⟨C53, eC53⟩ : ∃ zz, zz = va_up C52 11 (some (.inl (gI G, 4, .inl (upd (upd (upd (fun _ => 0) 0 100) 1 100) 2 100)))) := ⟨_, rfl⟩
  have hP : pw G A (va_up (va_up (va_up (va_up (va_up (va_up (va_up (va_up (va_up (va_up (va_up (va_up (va_up (va_up (va_up (va_up (va_up (va_up (va_up (va_up (va_up (va_up (va_up (va_up ad 1 q1) 2 q2) 3 q3) 4 q4) 5 q5) 6 q6) 7 q7) 8 q8) 9 q9) 10 q10) 11 q11) 12 q12) 13 q13) 14 q14) 15 q15) 16 q16) 17 q17) 18 q18) 19 q19) 20 q20) 21 q21) 22 q22) 23 q23) 24 q24) C53 H := by rw [eC53]; exact hP
  refine lv_aload_n hx hb dX3_init_219 rfl (lv_at hl 1 rfl) ?_
  refine w_get (fs := [.int 0, .int 0, .ref q1, .ref q2, .ref q3, .ref q4, .ref q5, .ref q6, .ref q7, .ref q8, .ref q9, .ref q10, .ref q11, .ref q12, .ref q13, .int 0, .ref q14, .ref q15, .ref q16, .ref q17, .ref q18, .ref q19, .ref q20, .ref q21, .ref q22, .int 0, .ref q23, .ref q24]) cx (ci := 3) rfl iX3 (hP.pa 0 _ (by rw [eC53, va_up_ne _ _ (by decide), eC52, va_up_ne _ _ (by decide), eC51, va_up_ne _ _ (by decide), eC50, va_up_ne _ _ (by decide), eC49, va_up_ne _ _ (by decide), eC48, va_up_self])) 13 (by decide) k_464 (v := .ref q12) rfl dX3_init_220 ?_
  refine lv_iload_n hx hb dX3_init_223 rfl (lv_at hl 0 rfl) ?_
  refine lv_sipush (v := 200) hx hb dX3_init_224 (by decide) ?_
  refine w_iast (ad := va_up (va_up (va_up (va_up (va_up (va_up (va_up (va_up (va_up (va_up (va_up (va_up (va_up (va_up (va_up (va_up (va_up (va_up (va_up (va_up (va_up (va_up (va_up (va_up ad 1 q1) 2 q2) 3 q3) 4 q4) 5 q5) 6 q6) 7 q7) 8 q8) 9 q9) 10 q10) 11 q11) 12 q12) 13 q13) 14 q14) 15 q15) 16 q16) 17 q17) 18 q18) 19 q19) 20 q20) 21 q21) 22 q22) 23 q23) 24 q24) (C := C53) (n := 4) (f := upd (upd (fun _ => 0) 0 200) 1 200) (i := 12) cx hP hS (by rw [eC53, va_up_ne _ _ (by decide), eC52, va_up_self]) 2 rfl (by decide) (by decide) dX3_init_227 (fun H locs hP hS => ?_)
  obtain ⟨C54, eC54⟩ : ∃ zz, zz = va_up C53 12 (some (.inl (gI G, 4, .inl (upd (upd (upd (fun _ => 0) 0 200) 1 200) 2 200)))) := ⟨_, rfl⟩
  have hP : pw G A (va_up (va_up (va_up (va_up (va_up (va_up (va_up (va_up (va_up (va_up (va_up (va_up (va_up (va_up (va_up (va_up (va_up (va_up (va_up (va_up (va_up (va_up (va_up (va_up ad 1 q1) 2 q2) 3 q3) 4 q4) 5 q5) 6 q6) 7 q7) 8 q8) 9 q9) 10 q10) 11 q11) 12 q12) 13 q13) 14 q14) 15 q15) 16 q16) 17 q17) 18 q18) 19 q19) 20 q20) 21 q21) 22 q22) 23 q23) 24 q24) C54 H := by rw [eC54]; exact hP
  refine lv_iinc (v := 3) (lv' := [(1, .int 3), (0, .ref (ad 0))]) hx hb dX3_init_228 hl (k := 0) rfl (by decide) (by decide) rfl (fun ls hl => ?_)
  refine lv_goto (tgt := 206) hx hb dX3_init_231 (by decide) ?_
  refine lv_iload_n hx hb dX3_init_206 rfl (lv_at hl 0 rfl) ?_
  refine lv_iconst (v := 4) hx hb dX3_init_207 (by decide) ?_
  refine lv_icmp_ge (tgt := 234) hx hb dX3_init_208 (by decide) (fun c_1 => ?_) (fun c_1 => ?_)
  · exact absurd c_1 (by decide)
  refine lv_aload_n hx hb dX3_init_211 rfl (lv_at hl 1 rfl) ?_
  refine w_get (fs := [.int 0, .int 0, .ref q1, .ref q2, .ref q3, .ref q4, .ref q5, .ref q6, .ref q7, .ref q8, .ref q9, .ref q10, .ref q11, .ref q12, .ref q13, .int 0, .ref q14, .ref q15, .ref q16, .ref q17, .ref q18, .ref q19, .ref q20, .ref q21, .ref q22, .int 0, .ref q23, .ref q24]) cx (ci := 3) rfl iX3 (hP.pa 0 _ (by rw [eC54, va_up_ne _ _ (by decide), eC53, va_up_ne _ _ (by decide), eC52, va_up_ne _ _ (by decide), eC51, va_up_ne _ _ (by decide), eC50, va_up_ne _ _ (by decide), eC49, va_up_ne _ _ (by decide), eC48, va_up_self])) 12 (by decide) k_463 (v := .ref q11) rfl dX3_init_212 ?_
  refine lv_iload_n hx hb dX3_init_215 rfl (lv_at hl 0 rfl) ?_
  refine lv_bipush (v := 100) hx hb dX3_init_216 (by decide) ?_
  refine w_iast (ad := va_up (va_up (va_up (va_up (va_up (va_up (va_up (va_up (va_up (va_up (va_up (va_up (va_up (va_up (va_up (va_up (va_up (va_up (va_up (va_up (va_up (va_up (va_up (va_up ad 1 q1) 2 q2) 3 q3) 4 q4) 5 q5) 6 q6) 7 q7) 8 q8) 9 q9) 10 q10) 11 q11) 12 q12) 13 q13) 14 q14) 15 q15) 16 q16) 17 q17) 18 q18) 19 q19) 20 q20) 21 q21) 22 q22) 23 q23) 24 q24) (C := C54) (n := 4) (f := upd (upd (upd (fun _ => 0) 0 100) 1 100) 2 100) (i := 11) cx hP hS (by rw [eC54, va_up_ne _ _ (by decide), eC53, va_up_self]) 3 rfl (by decide) (by decide) dX3_init_218 (fun H locs hP hS => ?_)
  obtain ⟨C55, eC55⟩ : ∃ zz, zz = va_up C54 11 (some (.inl (gI G, 4, .inl (upd (upd (upd (upd (fun _ => 0) 0 100) 1 100) 2 100) 3 100)))) := ⟨_, rfl⟩
  have hP : pw G A (va_up (va_up (va_up (va_up (va_up (va_up (va_up (va_up (va_up (va_up (va_up (va_up (va_up (va_up (va_up (va_up (va_up (va_up (va_up (va_up (va_up (va_up (va_up (va_up ad 1 q1) 2 q2) 3 q3) 4 q4) 5 q5) 6 q6) 7 q7) 8 q8) 9 q9) 10 q10) 11 q11) 12 q12) 13 q13) 14 q14) 15 q15) 16 q16) 17 q17) 18 q18) 19 q19) 20 q20) 21 q21) 22 q22) 23 q23) 24 q24) C55 H := by rw [eC55]; exact hP
  refine lv_aload_n hx hb dX3_init_219 rfl (lv_at hl 1 rfl) ?_
  refine w_get (fs := [.int 0, .int 0, .ref q1, .ref q2, .ref q3, .ref q4, .ref q5, .ref q6, .ref q7, .ref q8, .ref q9, .ref q10, .ref q11, .ref q12, .ref q13, .int 0, .ref q14, .ref q15, .ref q16, .ref q17, .ref q18, .ref q19, .ref q20, .ref q21, .ref q22, .int 0, .ref q23, .ref q24]) cx (ci := 3) rfl iX3 (hP.pa 0 _ (by rw [eC55, va_up_ne _ _ (by decide), eC54, va_up_ne _ _ (by decide), eC53, va_up_ne _ _ (by decide), eC52, va_up_ne _ _ (by decide), eC51, va_up_ne _ _ (by decide), eC50, va_up_ne _ _ (by decide), eC49, va_up_ne _ _ (by decide), eC48, va_up_self])) 13 (by decide) k_464 (v := .ref q12) rfl dX3_init_220 ?_
  refine lv_iload_n hx hb dX3_init_223 rfl (lv_at hl 0 rfl) ?_
  refine lv_sipush (v := 200) hx hb dX3_init_224 (by decide) ?_
  refine w_iast (ad := va_up (va_up (va_up (va_up (va_up (va_up (va_up (va_up (va_up (va_up (va_up (va_up (va_up (va_up (va_up (va_up (va_up (va_up (va_up (va_up (va_up (va_up (va_up (va_up ad 1 q1) 2 q2) 3 q3) 4 q4) 5 q5) 6 q6) 7 q7) 8 q8) 9 q9) 10 q10) 11 q11) 12 q12) 13 q13) 14 q14) 15 q15) 16 q16) 17 q17) 18 q18) 19 q19) 20 q20) 21 q21) 22 q22) 23 q23) 24 q24) (C := C55) (n := 4) (f := upd (upd (upd (fun _ => 0) 0 200) 1 200) 2 200) (i := 12) cx hP hS (by rw [eC55, va_up_ne _ _ (by decide), eC54, va_up_self]) 3 rfl (by decide) (by decide) dX3_init_227 (fun H locs hP hS => ?_)
  obtain ⟨C56, eC56⟩ : ∃ zz, zz = va_up C55 12 (some (.inl (gI G, 4, .inl (upd (upd (upd (upd (fun _ => 0) 0 200) 1 200) 2 200) 3 200)))) := ⟨_, rfl⟩
  have hP : pw G A (va_up (va_up (va_up (va_up (va_up (va_up (va_up (va_up (va_up (va_up (va_up (va_up (va_up (va_up (va_up (va_up (va_up (va_up (va_up (va_up (va_up (va_up (va_up (va_up ad 1 q1) 2 q2) 3 q3) 4 q4) 5 q5) 6 q6) 7 q7) 8 q8) 9 q9) 10 q10) 11 q11) 12 q12) 13 q13) 14 q14) 15 q15) 16 q16) 17 q17) 18 q18) 19 q19) 20 q20) 21 q21) 22 q22) 23 q23) 24 q24) C56 H := by rw [eC56]; exact hP
  refine lv_iinc (v := 4) (lv' := [(1, .int 4), (0, .ref (ad 0))]) hx hb dX3_init_228 hl (k := 0) rfl (by decide) (by decide) rfl (fun ls hl => ?_)
  refine lv_goto (tgt := 206) hx hb dX3_init_231 (by decide) ?_
  refine lv_iload_n hx hb dX3_init_206 rfl (lv_at hl 0 rfl) ?_
  refine lv_iconst (v := 4) hx hb dX3_init_207 (by decide) ?_
  refine lv_icmp_ge (tgt := 234) hx hb dX3_init_208 (by decide) (fun c_1 => ?_) (fun c_1 => ?_)
  rotate_left
  · exact absurd (by decide) c_1
  refine x_void cx hr hlk (ad' := va_up (va_up (va_up (va_up (va_up (va_up (va_up (va_up (va_up (va_up (va_up (va_up (va_up (va_up (va_up (va_up (va_up (va_up (va_up (va_up (va_up (va_up (va_up (va_up ad 1 q1) 2 q2) 3 q3) 4 q4) 5 q5) 6 q6) 7 q7) 8 q8) 9 q9) 10 q10) 11 q11) 12 q12) 13 q13) 14 q14) 15 q15) 16 q16) 17 q17) 18 q18) 19 q19) 20 q20) 21 q21) 22 q22) 23 q23) 24 q24) ⟨rfl, hP.eq (fun k => ?_)⟩ hS dX3_init_234
  clear hP hS
  subst eC56
  subst eC55
  subst eC54
  subst eC53
  subst eC52
  subst eC51
  subst eC50
  subst eC49
  subst eC48
  subst eC47
  subst eC46
  subst eC45
  subst eC44
  subst eC43
  subst eC42
  subst eC41
  subst eC40
  subst eC39
  subst eC38
  subst eC37
  subst eC36
  subst eC35
  subst eC34
  subst eC33
  subst eC32
  subst eC31
  subst eC30
  subst eC29
  subst eC28
  subst eC27
  subst eC26
  subst eC25
  subst eC24
  subst eC23
  subst eC22
  subst eC21
  subst eC20
  subst eC19
  subst eC18
  subst eC17
  subst eC16
  subst eC15
  subst eC14
  subst eC13
  subst eC12
  subst eC11
  subst eC10
  subst eC9
  subst eC8
  subst eC7
  subst eC6
  subst eC5
  subst eC4
  subst eC3
  subst eC2
  subst eC1
  subst eC
  match k with
  | 0 | 1 | 2 | 3 | 4 | 5 | 6 | 7 | 8 | 9 | 10 | 13 | 14 | 15 | 16 | 17 | 18 | 19 | 20 | 21 | 22 | 23 | 24 => rfl
  | 11 => exact congrArg some (congrArg Sum.inl (congrArg (fun f => (gI G, 4, Sum.inl f)) m100))
  | 12 => exact congrArg some (congrArg Sum.inl (congrArg (fun f => (gI G, 4, Sum.inl f)) m200))
  | k + 25 => exact (cM_new k).symm

