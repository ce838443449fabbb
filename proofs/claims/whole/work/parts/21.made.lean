set_option maxRecDepth 20000 in
theorem c_X1_init_n (l : Launch) (G : GG) (ad : Nat → Nat) (C : Nat → Option va_E) {i : Nat} (hi : C i = some (.inr (1, [.int 0, .int 0, .int 0, .null, .int 0, .int 0, .int 0, .int 0, .int 0, .int 0]))) (x y z : Int32) (u v w : Int32) : MW l yX1_init cX1_init 8 none 1 12 0 0 G ad C [.ref (ad i), .int x, .int y, .int z, .null, .int u, .int v, .int w] none (fun _ => va_up C i (some (.inr (1, [.int x, .int y, .int z, .null, .int u, .int v, .int w, .int 1, .int 0, .int 0])))) (fun ad' => ad' = ad) := by
  refine MW.of [(0, .ref (ad i)), (1, .int x), (2, .int y), (3, .int z), (4, .null), (5, .int u), (6, .int v), (7, .int w)] (by decide) (Nat.le_of_ble_eq_true rfl) rfl ?_
  intro p e s m args below meth c A cx hr hlk hnm hA hP ls hl
  have hx := cx.1.1
  have hb := cx.1.2.1
  have hS : va_S A s.heap s.heap [] := va_S.rf
  refine lv_aload_n hx hb dX1_init_0 rfl (lv_at hl 0 rfl) ?_
  refine W.objInit hx hb cx.1.2.2.2.1 (cx.1.2.2.2.2 _ k_244) (cx.1.2.2.2.2 _ k_39) (cx.1.2.2.2.2 _ k_40) rfl (by rw [cx.1.2.2.1]; exact hl.1) rfl dX1_init_1 (Nat.le_of_ble_eq_true rfl) (Nat.le_of_ble_eq_true rfl) ?_
  refine W.eq (g2 := F0 m 4 ls []) rfl ?_
  refine lv_aload_n hx hb dX1_init_4 rfl (lv_at hl 0 rfl) ?_
  refine lv_iconst (v := 1) hx hb dX1_init_5 (by decide) ?_
  refine w_put (ad := ad) (C := C) (fs := [.int 0, .int 0, .int 0, .null, .int 0, .int 0, .int 0, .int 0, .int 0, .int 0]) (i := i) cx (ci := 1) rfl iX1 tyX1_ok nmX1 hP hS hi 7 (by decide) k_262 rfl rfl rfl rfl (Nat.lt_of_lt_of_eq (show 7 < 10 by decide) rfl) dX1_init_6 (fun H locs hP hS => ?_)
  obtain ⟨C1, eC1⟩ : ∃ zz, zz = va_up C i (some (.inr (1, [.int 0, .int 0, .int 0, .null, .int 0, .int 0, .int 0, .int 1, .int 0, .int 0]))) := ⟨_, rfl⟩
  have hP : pw G A ad C1 H := by rw [eC1]; exact hP
  refine lv_aload_n hx hb dX1_init_9 rfl (lv_at hl 0 rfl) ?_
  refine lv_iload_n hx hb dX1_init_10 rfl (lv_at hl 1 rfl) ?_
  refine w_putF (ad := ad) (C := C1) (fs := [.int 0, .int 0, .int 0, .null, .int 0, .int 0, .int 0, .int 1, .int 0, .int 0]) (i := i) cx (ci := 1) rfl iX1 tyX1_ok nmX1 hP hS (by rw [eC1, va_up_self]) 0 (by decide) k_245 rfl (hnm.trans rfl) rfl rfl rfl rfl (Nat.lt_of_lt_of_eq (show 0 < 10 by decide) rfl) dX1_init_11 (fun H locs hP hS => ?_)
  obtain ⟨C2, eC2⟩ : ∃ zz, zz = va_up C1 i (some (.inr (1, [.int x, .int 0, .int 0, .null, .int 0, .int 0, .int 0, .int 1, .int 0, .int 0]))) := ⟨_, rfl⟩
  have hP : pw G A ad C2 H := by rw [eC2]; exact hP
  refine lv_aload_n hx hb dX1_init_14 rfl (lv_at hl 0 rfl) ?_
  refine lv_iload_n hx hb dX1_init_15 rfl (lv_at hl 2 rfl) ?_
  refine w_putF (ad := ad) (C := C2) (fs := [.int x, .int 0, .int 0, .null, .int 0, .int 0, .int 0, .int 1, .int 0, .int 0]) (i := i) cx (ci := 1) rfl iX1 tyX1_ok nmX1 hP hS (by rw [eC2, va_up_self]) 1 (by decide) k_247 rfl (hnm.trans rfl) rfl rfl rfl rfl (Nat.lt_of_lt_of_eq (show 1 < 10 by decide) rfl) dX1_init_16 (fun H locs hP hS => ?_)
  obtain ⟨C3, eC3⟩ : ∃ zz, zz = va_up C2 i (some (.inr (1, [.int x, .int y, .int 0, .null, .int 0, .int 0, .int 0, .int 1, .int 0, .int 0]))) := ⟨_, rfl⟩
  have hP : pw G A ad C3 H := by rw [eC3]; exact hP
  refine lv_aload_n hx hb dX1_init_19 rfl (lv_at hl 0 rfl) ?_
  refine lv_iload_n hx hb dX1_init_20 rfl (lv_at hl 3 rfl) ?_
  refine w_putF (ad := ad) (C := C3) (fs := [.int x, .int y, .int 0, .null, .int 0, .int 0, .int 0, .int 1, .int 0, .int 0]) (i := i) cx (ci := 1) rfl iX1 tyX1_ok nmX1 hP hS (by rw [eC3, va_up_self]) 2 (by decide) k_249 rfl (hnm.trans rfl) rfl rfl rfl rfl (Nat.lt_of_lt_of_eq (show 2 < 10 by decide) rfl) dX1_init_21 (fun H locs hP hS => ?_)
  obtain ⟨C4, eC4⟩ : ∃ zz, zz = va_up C3 i (some (.inr (1, [.int x, .int y, .int z, .null, .int 0, .int 0, .int 0, .int 1, .int 0, .int 0]))) := ⟨_, rfl⟩
  have hP : pw G A ad C4 H := by rw [eC4]; exact hP
  refine lv_aload_n hx hb dX1_init_24 rfl (lv_at hl 0 rfl) ?_
  refine lv_aloadN hx hb dX1_init_25 (lv_at hl 4 rfl) ?_
  refine w_putF (ad := ad) (C := C4) (fs := [.int x, .int y, .int z, .null, .int 0, .int 0, .int 0, .int 1, .int 0, .int 0]) (i := i) cx (ci := 1) rfl iX1 tyX1_ok nmX1 hP hS (by rw [eC4, va_up_self]) 3 (by decide) k_251 rfl (hnm.trans rfl) rfl rfl rfl rfl (Nat.lt_of_lt_of_eq (show 3 < 10 by decide) rfl) dX1_init_27 (fun H locs hP hS => ?_)
  obtain ⟨C5, eC5⟩ : ∃ zz, zz = va_up C4 i (some (.inr (1, [.int x, .int y, .int z, .null, .int 0, .int 0, .int 0, .int 1, .int 0, .int 0]))) := ⟨_, rfl⟩
  have hP : pw G A ad C5 H := by rw [eC5]; exact hP
  refine lv_aload_n hx hb dX1_init_30 rfl (lv_at hl 0 rfl) ?_
  refine lv_iload hx hb dX1_init_31 (lv_at hl 5 rfl) ?_
  refine w_putF (ad := ad) (C := C5) (fs := [.int x, .int y, .int z, .null, .int 0, .int 0, .int 0, .int 1, .int 0, .int 0]) (i := i) cx (ci := 1) rfl iX1 tyX1_ok nmX1 hP hS (by rw [eC5, va_up_self]) 4 (by decide) k_253 rfl (hnm.trans rfl) rfl rfl rfl rfl (Nat.lt_of_lt_of_eq (show 4 < 10 by decide) rfl) dX1_init_33 (fun H locs hP hS => ?_)
  obtain ⟨C6, eC6⟩ : ∃ zz, zz = va_up C5 i (some (.inr (1, [.int x, .int y, .int z, .null, .int u, .int 0, .int 0, .int 1, .int 0, .int 0]))) := ⟨_, rfl⟩
  have hP : pw G A ad C6 H := by rw [eC6]; exact hP
  refine lv_aload_n hx hb dX1_init_36 rfl (lv_at hl 0 rfl) ?_
  refine lv_iload hx hb dX1_init_37 (lv_at hl 6 rfl) ?_
  refine w_putF (ad := ad) (C := C6) (fs := [.int x, .int y, .int z, .null, .int u, .int 0, .int 0, .int 1, .int 0, .int 0]) (i := i) cx (ci := 1) rfl iX1 tyX1_ok nmX1 hP hS (by rw [eC6, va_up_self]) 5 (by decide) k_256 rfl (hnm.trans rfl) rfl rfl rfl rfl (Nat.lt_of_lt_of_eq (show 5 < 10 by decide) rfl) dX1_init_39 (fun H locs hP hS => ?_)
  obtain ⟨C7, eC7⟩ : ∃ zz, zz = va_up C6 i (some (.inr (1, [.int x, .int y, .int z, .null, .int u, .int v, .int 0, .int 1, .int 0, .int 0]))) := ⟨_, rfl⟩
  have hP : pw G A ad C7 H := by rw [eC7]; exact hP
  refine lv_aload_n hx hb dX1_init_42 rfl (lv_at hl 0 rfl) ?_
  refine lv_iload hx hb dX1_init_43 (lv_at hl 7 rfl) ?_
  refine w_putF (ad := ad) (C := C7) (fs := [.int x, .int y, .int z, .null, .int u, .int v, .int 0, .int 1, .int 0, .int 0]) (i := i) cx (ci := 1) rfl iX1 tyX1_ok nmX1 hP hS (by rw [eC7, va_up_self]) 6 (by decide) k_259 rfl (hnm.trans rfl) rfl rfl rfl rfl (Nat.lt_of_lt_of_eq (show 6 < 10 by decide) rfl) dX1_init_45 (fun H locs hP hS => ?_)
  obtain ⟨C8, eC8⟩ : ∃ zz, zz = va_up C7 i (some (.inr (1, [.int x, .int y, .int z, .null, .int u, .int v, .int w, .int 1, .int 0, .int 0]))) := ⟨_, rfl⟩
  have hP : pw G A ad C8 H := by rw [eC8]; exact hP
  refine x_void cx hr hlk (ad' := ad) ⟨rfl, hP.eq (fun k => ?_)⟩ hS dX1_init_48
  by_cases e2 : k = i
  · subst e2
    rw [va_up_self]; exact (by rw [eC8, va_up_self])
  · rw [va_up_ne _ _ e2]
    rw [eC8, va_up_ne _ _ e2, eC7, va_up_ne _ _ e2, eC6, va_up_ne _ _ e2, eC5, va_up_ne _ _ e2, eC4, va_up_ne _ _ e2, eC3, va_up_ne _ _ e2, eC2, va_up_ne _ _ e2, eC1, va_up_ne _ _ e2]
set_option maxRecDepth 20000 in
theorem c_X1_init_r (l : Launch) (G : GG) (ad : Nat → Nat) (C : Nat → Option va_E) {i : Nat} (hi : C i = some (.inr (1, [.int 0, .int 0, .int 0, .null, .int 0, .int 0, .int 0, .int 0, .int 0, .int 0]))) (x y z : Int32) (ba : Nat) (u v w : Int32) : MW l yX1_init cX1_init 8 none 1 12 0 0 G ad C [.ref (ad i), .int x, .int y, .int z, .ref ba, .int u, .int v, .int w] none (fun _ => va_up C i (some (.inr (1, [.int x, .int y, .int z, .ref ba, .int u, .int v, .int w, .int 1, .int 0, .int 0])))) (fun ad' => ad' = ad) := by
  refine MW.of [(0, .ref (ad i)), (1, .int x), (2, .int y), (3, .int z), (4, .ref ba), (5, .int u), (6, .int v), (7, .int w)] (by decide) (Nat.le_of_ble_eq_true rfl) rfl ?_
  intro p e s m args below meth c A cx hr hlk hnm hA hP ls hl
  have hx := cx.1.1
  have hb := cx.1.2.1
  have hS : va_S A s.heap s.heap [] := va_S.rf
  refine lv_aload_n hx hb dX1_init_0 rfl (lv_at hl 0 rfl) ?_
  refine W.objInit hx hb cx.1.2.2.2.1 (cx.1.2.2.2.2 _ k_244) (cx.1.2.2.2.2 _ k_39) (cx.1.2.2.2.2 _ k_40) rfl (by rw [cx.1.2.2.1]; exact hl.1) rfl dX1_init_1 (Nat.le_of_ble_eq_true rfl) (Nat.le_of_ble_eq_true rfl) ?_
  refine W.eq (g2 := F0 m 4 ls []) rfl ?_
  refine lv_aload_n hx hb dX1_init_4 rfl (lv_at hl 0 rfl) ?_
  refine lv_iconst (v := 1) hx hb dX1_init_5 (by decide) ?_
  refine w_put (ad := ad) (C := C) (fs := [.int 0, .int 0, .int 0, .null, .int 0, .int 0, .int 0, .int 0, .int 0, .int 0]) (i := i) cx (ci := 1) rfl iX1 tyX1_ok nmX1 hP hS hi 7 (by decide) k_262 rfl rfl rfl rfl (Nat.lt_of_lt_of_eq (show 7 < 10 by decide) rfl) dX1_init_6 (fun H locs hP hS => ?_)
  obtain ⟨C1, eC1⟩ : ∃ zz, zz = va_up C i (some (.inr (1, [.int 0, .int 0, .int 0, .null, .int 0, .int 0, .int 0, .int 1, .int 0, .int 0]))) := ⟨_, rfl⟩
  have hP : pw G A ad C1 H := by rw [eC1]; exact hP
  refine lv_aload_n hx hb dX1_init_9 rfl (lv_at hl 0 rfl) ?_
  refine lv_iload_n hx hb dX1_init_10 rfl (lv_at hl 1 rfl) ?_
  refine w_putF (ad := ad) (C := C1) (fs := [.int 0, .int 0, .int 0, .null, .int 0, .int 0, .int 0, .int 1, .int 0, .int 0]) (i := i) cx (ci := 1) rfl iX1 tyX1_ok nmX1 hP hS (by rw [eC1, va_up_self]) 0 (by decide) k_245 rfl (hnm.trans rfl) rfl rfl rfl rfl (Nat.lt_of_lt_of_eq (show 0 < 10 by decide) rfl) dX1_init_11 (fun H locs hP hS => ?_)
  obtain ⟨C2, eC2⟩ : ∃ zz, zz = va_up C1 i (some (.inr (1, [.int x, .int 0, .int 0, .null, .int 0, .int 0, .int 0, .int 1, .int 0, .int 0]))) := ⟨_, rfl⟩
  have hP : pw G A ad C2 H := by rw [eC2]; exact hP
  refine lv_aload_n hx hb dX1_init_14 rfl (lv_at hl 0 rfl) ?_
  refine lv_iload_n hx hb dX1_init_15 rfl (lv_at hl 2 rfl) ?_
  refine w_putF (ad := ad) (C := C2) (fs := [.int x, .int 0, .int 0, .null, .int 0, .int 0, .int 0, .int 1, .int 0, .int 0]) (i := i) cx (ci := 1) rfl iX1 tyX1_ok nmX1 hP hS (by rw [eC2, va_up_self]) 1 (by decide) k_247 rfl (hnm.trans rfl) rfl rfl rfl rfl (Nat.lt_of_lt_of_eq (show 1 < 10 by decide) rfl) dX1_init_16 (fun H locs hP hS => ?_)
  obtain ⟨C3, eC3⟩ : ∃ zz, zz = va_up C2 i (some (.inr (1, [.int x, .int y, .int 0, .null, .int 0, .int 0, .int 0, .int 1, .int 0, .int 0]))) := ⟨_, rfl⟩
  have hP : pw G A ad C3 H := by rw [eC3]; exact hP
  refine lv_aload_n hx hb dX1_init_19 rfl (lv_at hl 0 rfl) ?_
  refine lv_iload_n hx hb dX1_init_20 rfl (lv_at hl 3 rfl) ?_
  refine w_putF (ad := ad) (C := C3) (fs := [.int x, .int y, .int 0, .null, .int 0, .int 0, .int 0, .int 1, .int 0, .int 0]) (i := i) cx (ci := 1) rfl iX1 tyX1_ok nmX1 hP hS (by rw [eC3, va_up_self]) 2 (by decide) k_249 rfl (hnm.trans rfl) rfl rfl rfl rfl (Nat.lt_of_lt_of_eq (show 2 < 10 by decide) rfl) dX1_init_21 (fun H locs hP hS => ?_)
  obtain ⟨C4, eC4⟩ : ∃ zz, zz = va_up C3 i (some (.inr (1, [.int x, .int y, .int z, .null, .int 0, .int 0, .int 0, .int 1, .int 0, .int 0]))) := ⟨_, rfl⟩
  have hP : pw G A ad C4 H := by rw [eC4]; exact hP
  refine lv_aload_n hx hb dX1_init_24 rfl (lv_at hl 0 rfl) ?_
  refine lv_aload hx hb dX1_init_25 (lv_at hl 4 rfl) ?_
  refine w_putF (ad := ad) (C := C4) (fs := [.int x, .int y, .int z, .null, .int 0, .int 0, .int 0, .int 1, .int 0, .int 0]) (i := i) cx (ci := 1) rfl iX1 tyX1_ok nmX1 hP hS (by rw [eC4, va_up_self]) 3 (by decide) k_251 rfl (hnm.trans rfl) rfl rfl rfl rfl (Nat.lt_of_lt_of_eq (show 3 < 10 by decide) rfl) dX1_init_27 (fun H locs hP hS => ?_)
  obtain ⟨C5, eC5⟩ : ∃ zz, zz = va_up C4 i (some (.inr (1, [.int x, .int y, .int z, .ref ba, .int 0, .int 0, .int 0, .int 1, .int 0, .int 0]))) := ⟨_, rfl⟩
  have hP : pw G A ad C5 H := by rw [eC5]; exact hP
  refine lv_aload_n hx hb dX1_init_30 rfl (lv_at hl 0 rfl) ?_
  refine lv_iload hx hb dX1_init_31 (lv_at hl 5 rfl) ?_
  refine w_putF (ad := ad) (C := C5) (fs := [.int x, .int y, .int z, .ref ba, .int 0, .int 0, .int 0, .int 1, .int 0, .int 0]) (i := i) cx (ci := 1) rfl iX1 tyX1_ok nmX1 hP hS (by rw [eC5, va_up_self]) 4 (by decide) k_253 rfl (hnm.trans rfl) rfl rfl rfl rfl (Nat.lt_of_lt_of_eq (show 4 < 10 by decide) rfl) dX1_init_33 (fun H locs hP hS => ?_)
  obtain ⟨C6, eC6⟩ : ∃ zz, zz = va_up C5 i (some (.inr (1, [.int x, .int y, .int z, .ref ba, .int u, .int 0, .int 0, .int 1, .int 0, .int 0]))) := ⟨_, rfl⟩
  have hP : pw G A ad C6 H := by rw [eC6]; exact hP
  refine lv_aload_n hx hb dX1_init_36 rfl (lv_at hl 0 rfl) ?_
  refine lv_iload hx hb dX1_init_37 (lv_at hl 6 rfl) ?_
  refine w_putF (ad := ad) (C := C6) (fs := [.int x, .int y, .int z, .ref ba, .int u, .int 0, .int 0, .int 1, .int 0, .int 0]) (i := i) cx (ci := 1) rfl iX1 tyX1_ok nmX1 hP hS (by rw [eC6, va_up_self]) 5 (by decide) k_256 rfl (hnm.trans rfl) rfl rfl rfl rfl (Nat.lt_of_lt_of_eq (show 5 < 10 by decide) rfl) dX1_init_39 (fun H locs hP hS => ?_)
  obtain ⟨C7, eC7⟩ : ∃ zz, zz = va_up C6 i (some (.inr (1, [.int x, .int y, .int z, .ref ba, .int u, .int v, .int 0, .int 1, .int 0, .int 0]))) := ⟨_, rfl⟩
  have hP : pw G A ad C7 H := by rw [eC7]; exact hP
  refine lv_aload_n hx hb dX1_init_42 rfl (lv_at hl 0 rfl) ?_
  refine lv_iload hx hb dX1_init_43 (lv_at hl 7 rfl) ?_
  refine w_putF (ad := ad) (C := C7) (fs := [.int x, .int y, .int z, .ref ba, .int u, .int v, .int 0, .int 1, .int 0, .int 0]) (i := i) cx (ci := 1) rfl iX1 tyX1_ok nmX1 hP hS (by rw [eC7, va_up_self]) 6 (by decide) k_259 rfl (hnm.trans rfl) rfl rfl rfl rfl (Nat.lt_of_lt_of_eq (show 6 < 10 by decide) rfl) dX1_init_45 (fun H locs hP hS => ?_)
  obtain ⟨C8, eC8⟩ : ∃ zz, zz = va_up C7 i (some (.inr (1, [.int x, .int y, .int z, .ref ba, .int u, .int v, .int w, .int 1, .int 0, .int 0]))) := ⟨_, rfl⟩
  have hP : pw G A ad C8 H := by rw [eC8]; exact hP
  refine x_void cx hr hlk (ad' := ad) ⟨rfl, hP.eq (fun k => ?_)⟩ hS dX1_init_48
  by_cases e2 : k = i
  · subst e2
    rw [va_up_self]; exact (by rw [eC8, va_up_self])
  · rw [va_up_ne _ _ e2]
    rw [eC8, va_up_ne _ _ e2, eC7, va_up_ne _ _ e2, eC6, va_up_ne _ _ e2, eC5, va_up_ne _ _ e2, eC4, va_up_ne _ _ e2, eC3, va_up_ne _ _ e2, eC2, va_up_ne _ _ e2, eC1, va_up_ne _ _ e2]
-- a new thing
def addT (S : St) (x y z u : Int32) : St := setT (setA (setA (setA (setA (setA (setA S 0 (nt S) x) 1 (nt S) y) 2 (nt S) z) 3 (nt S) u) 5 (nt S) (-1000000)) 6 (nt S) (-1000000)) (nt S + 1)
def ZT (S : St) : Prop := ar S 4 (nt S) = 0 ∧ ar S 7 (nt S) = 0 ∧ ar S 8 (nt S) = 0 ∧ ∀ j, j < 3 → ar S 9 (3 * nt S + j) = 0
theorem addT_off (S : St) (x y z u : Int32) (a : Nat) {j : Nat} (h : j ≠ nt S) : ar (addT S x y z u) a j = ar S a j := by
  unfold addT
  rw [ar_setT, ar_off _ _ _ _ _ h, ar_off _ _ _ _ _ h, ar_off _ _ _ _ _ h, ar_off _ _ _ _ _ h, ar_off _ _ _ _ _ h, ar_off _ _ _ _ _ h]
theorem addT_fun (S : St) (x y z u : Int32) {a : Nat} (h0 : a ≠ 0) (h1 : a ≠ 1) (h2 : a ≠ 2) (h3 : a ≠ 3) (h5 : a ≠ 5) (h6 : a ≠ 6) : ar (addT S x y z u) a = ar S a := by
  funext j
  unfold addT
  rw [ar_setT, ar_ne _ _ _ _ _ h6, ar_ne _ _ _ _ _ h5, ar_ne _ _ _ _ _ h3, ar_ne _ _ _ _ _ h2, ar_ne _ _ _ _ _ h1, ar_ne _ _ _ _ _ h0]
theorem rT_c {ad a2 : Nat → Nat} (h : ∀ n, a2 (100 + n) = ad (100 + n)) (x : Int32) : rT a2 x = rT ad x := by unfold rT; rw [h]
theorem cX_freeT {G : GG} {ad : Nat → Nat} {S : St} {E : Ex} (h : nt S < 40) : cX G ad S E (10 + 2 * nt S) = none := by
  rw [cX, if_neg (by omega), if_pos (by omega), if_neg (by omega)]
theorem cX_freeD {G : GG} {ad : Nat → Nat} {S : St} {E : Ex} (h : nt S < 40) : cX G ad S E (11 + 2 * nt S) = none := by
  rw [cX, if_neg (by omega), if_pos (by omega), if_neg (by omega)]
theorem cX_freeR {G : GG} {ad : Nat → Nat} {S : St} {E : Ex} : cX G ad S E (100 + nr S) = none := by
  rw [cX, if_neg (by omega), if_neg (by omega), if_neg (by omega)]
theorem eX_c {ad a2 : Nat → Nat} {S S' : St} (h : ∀ k, k < 10 → a2 k = ad k) (h0 : sc S' = sc S) (h1 : nt S' = nt S) (h2 : nr S' = nr S) : eX a2 S' = eX ad S := by
  unfold eX; rw [h 1 (by decide), h 2 (by decide), h 3 (by decide), h 4 (by decide), h 5 (by decide), h 6 (by decide), h 7 (by decide), h 8 (by decide), h 9 (by decide), h0, h1, h2]
theorem cX_addT {G : GG} {ad a2 : Nat → Nat} {S : St} {E : Ex} {q1 q2 : Nat} {x y z u : Int32} (hn : nt S < 40) (hZ : ZT S) (hT : a2 (10 + 2 * nt S) = q1) (hD : a2 (11 + 2 * nt S) = q2) (ha : ∀ k, k ≠ 10 + 2 * nt S → k ≠ 11 + 2 * nt S → a2 k = ad k) {C4 : Nat → Option va_E}
    (h0 : C4 0 = some (.inr (2, [.ref (ad 1), .ref (ad 2), .ref (ad 3), .ref (ad 4), .ref (ad 5), .ref (ad 6), .ref (ad 7), .ref (ad 8), .ref (ad 9), .int (sc S 0), .int (nI (nt S + 1)), .int (nI (nr S)), .int (sc S 1)])))
    (h1 : C4 1 = some (.inl (gT G, 40, .inr (.inr (.inr (.inr (va_up (fTs ad S) (nt S) (some q1))))))))
    (h2 : C4 (10 + 2 * nt S) = some (.inr (0, [.int x, .int y, .int z, .ref q2, .int u, .int 0, .int 0, .int 0, .int (-1000000), .null])))
    (h3 : C4 (11 + 2 * nt S) = some (.inl (gI G, 3, .inl (fun _ => 0))))
    (h4 : ∀ k, k ≠ 0 → k ≠ 1 → k ≠ 10 + 2 * nt S → k ≠ 11 + 2 * nt S → C4 k = cX G ad S E k) : ∀ k, C4 k = cX G a2 (addT S x y z u) E k := by
  intro k
  have hlo : ∀ k, k < 10 → a2 k = ad k := fun k hk => ha k (by omega) (by omega)
  have hhi : ∀ n, a2 (100 + n) = ad (100 + n) := fun n => ha _ (by omega) (by omega)
  have hnt : nt (addT S x y z u) = nt S + 1 := rfl
  have hnr : nr (addT S x y z u) = nr S := rfl
  have hoff : ∀ a j, j ≠ nt S → ar (addT S x y z u) a j = ar S a j := fun a j h => addT_off S x y z u a h
  by_cases k0 : k = 0
  · subst k0
    rw [h0]
    refine (Eq.trans (cX_lo (e := eX a2 (addT S x y z u)) 0 (by decide) rfl) ?_).symm
    unfold eX
    rw [hlo 1 (by decide), hlo 2 (by decide), hlo 3 (by decide), hlo 4 (by decide), hlo 5 (by decide), hlo 6 (by decide), hlo 7 (by decide), hlo 8 (by decide), hlo 9 (by decide)]
    rfl
  by_cases k1 : k = 1
  · subst k1
    rw [h1]
    refine (Eq.trans (cX_lo (e := .inl (gT G, 40, .inr (.inr (.inr (.inr (fTs a2 (addT S x y z u))))))) 1 (by decide) rfl) ?_).symm
    have : fTs a2 (addT S x y z u) = va_up (fTs ad S) (nt S) (some q1) := by
      funext i
      show (if i < nt S + 1 then some (a2 (10 + 2 * i)) else none) = if i = nt S then some q1 else (if i < nt S then some (ad (10 + 2 * i)) else none)
      by_cases hi : i = nt S
      · subst hi; rw [if_pos (by omega), if_pos rfl, hT]
      · rw [if_neg hi]
        by_cases hl : i < nt S
        · rw [if_pos hl, if_pos (by omega), ha _ (by omega) (by omega)]
        · rw [if_neg hl, if_neg (by omega)]
    rw [this]
  by_cases k2 : k = 10 + 2 * nt S
  · subst k2
    rw [h2]
    refine (Eq.trans (cX_T (i := nt S) (S := addT S x y z u) (by rw [hnt]; omega) (by rw [hnt]; omega)) ?_).symm
    have e4 : ar (addT S x y z u) 4 (nt S) = 0 := by rw [addT_fun S x y z u (by decide) (by decide) (by decide) (by decide) (by decide) (by decide)]; exact hZ.1
    have e7 : ar (addT S x y z u) 7 (nt S) = 0 := by rw [addT_fun S x y z u (by decide) (by decide) (by decide) (by decide) (by decide) (by decide)]; exact hZ.2.1
    have e8 : ar (addT S x y z u) 8 (nt S) = 0 := by rw [addT_fun S x y z u (by decide) (by decide) (by decide) (by decide) (by decide) (by decide)]; exact hZ.2.2.1
    have e0 : ar (addT S x y z u) 0 (nt S) = x := by unfold addT; rw [ar_setT]; simp [ar_setA]
    have e1 : ar (addT S x y z u) 1 (nt S) = y := by unfold addT; rw [ar_setT]; simp [ar_setA]
    have e2 : ar (addT S x y z u) 2 (nt S) = z := by unfold addT; rw [ar_setT]; simp [ar_setA]
    have e3 : ar (addT S x y z u) 3 (nt S) = u := by unfold addT; rw [ar_setT]; simp [ar_setA]
    have e5 : ar (addT S x y z u) 5 (nt S) = -1000000 := by unfold addT; rw [ar_setT]; simp [ar_setA]
    have e6 : ar (addT S x y z u) 6 (nt S) = -1000000 := by unfold addT; rw [ar_setT]; simp [ar_setA]
    unfold eT
    rw [e0, e1, e2, e3, e4, e5, e6, e7, e8, hD, rT_null rfl]
  by_cases k3 : k = 11 + 2 * nt S
  · subst k3
    rw [h3]
    refine (Eq.trans (cX_D (i := nt S) (S := addT S x y z u) (by rw [hnt]; omega) (by rw [hnt]; omega)) ?_).symm
    have : fD (addT S x y z u) (nt S) = fun _ => 0 := by
      funext j
      show (if j < 3 then ar (addT S x y z u) 9 (3 * nt S + j) else 0) = 0
      by_cases hj : j < 3
      · rw [if_pos hj, addT_fun S x y z u (by decide) (by decide) (by decide) (by decide) (by decide) (by decide)]; exact hZ.2.2.2 j hj
      · rw [if_neg hj]
    rw [this]
  rw [h4 k k0 k1 k2 k3]
  unfold cX
  by_cases h10 : k < 10
  · rw [if_pos h10, if_pos h10]
    have f10 : ar (addT S x y z u) 10 = ar S 10 := addT_fun S x y z u (by decide) (by decide) (by decide) (by decide) (by decide) (by decide)
    have f11 : ar (addT S x y z u) 11 = ar S 11 := addT_fun S x y z u (by decide) (by decide) (by decide) (by decide) (by decide) (by decide)
    have f22 : ar (addT S x y z u) 22 = ar S 22 := addT_fun S x y z u (by decide) (by decide) (by decide) (by decide) (by decide) (by decide)
    match k, k0, k1, h10 with
    | 0, h, _, _ => exact absurd rfl h
    | 1, _, h, _ => exact absurd rfl h
    | 2, _, _, _ =>
      show some (Sum.inl (gR G, 300, Sum.inr (Sum.inr (Sum.inr (Sum.inr (fRs ad S)))))) = some (Sum.inl (gR G, 300, Sum.inr (Sum.inr (Sum.inr (Sum.inr (fRs a2 (addT S x y z u)))))))
      have : fRs a2 (addT S x y z u) = fRs ad S := by
        funext n
        show (if n < nr S then some (a2 (100 + n)) else none) = if n < nr S then some (ad (100 + n)) else none
        rw [hhi]
      rw [this]
    | 3, _, _, _ => show some (Sum.inl (gI G, 4, Sum.inl (fA S 10))) = some (Sum.inl (gI G, 4, Sum.inl (fA (addT S x y z u) 10))); rw [fA_c f10]
    | 4, _, _, _ => show some (Sum.inl (gI G, 4, Sum.inl (fA S 11))) = some (Sum.inl (gI G, 4, Sum.inl (fA (addT S x y z u) 11))); rw [fA_c f11]
    | 5, _, _, _ => show some (Sum.inl (gI G, 10, Sum.inl (ar S 22))) = some (Sum.inl (gI G, 10, Sum.inl (ar (addT S x y z u) 22))); rw [f22]
    | 6, _, _, _ | 7, _, _, _ | 8, _, _, _ | 9, _, _, _ => rfl
    | k + 10, _, _, h => exact absurd h (by omega)
  · rw [if_neg h10, if_neg h10]
    by_cases h100 : k < 100
    · rw [if_pos h100, if_pos h100, hnt]
      by_cases h5 : (k - 10) / 2 < nt S
      · have hji : (k - 10) / 2 ≠ nt S := by omega
        rw [if_pos h5, if_pos (show (k - 10) / 2 < nt S + 1 by omega)]
        by_cases h6 : k % 2 = 0
        · rw [if_pos h6, if_pos h6]
          unfold eT
          rw [hoff _ _ hji, hoff _ _ hji, hoff _ _ hji, hoff _ _ hji, hoff _ _ hji, hoff _ _ hji, hoff _ _ hji, hoff _ _ hji, hoff _ _ hji, ha (11 + 2 * ((k - 10) / 2)) (by omega) (by omega), rT_c hhi]
        · rw [if_neg h6, if_neg h6]
          rw [fD_c (S' := addT S x y z u) (S := S) (fun j _ => by rw [addT_fun S x y z u (by decide) (by decide) (by decide) (by decide) (by decide) (by decide)])]
      · rw [if_neg h5, if_neg (show ¬ (k - 10) / 2 < nt S + 1 by omega)]
    · rw [if_neg h100, if_neg h100, hnr]
      by_cases h5 : k - 100 < nr S
      · rw [if_pos h5, if_pos h5]
        have g : ∀ a, 12 < a → ar (addT S x y z u) a = ar S a := fun a h => addT_fun S x y z u (by omega) (by omega) (by omega) (by omega) (by omega) (by omega)
        unfold eR
        rw [g 13 (by decide), g 14 (by decide), g 15 (by decide), g 16 (by decide), g 17 (by decide), g 18 (by decide), g 19 (by decide), g 20 (by decide), g 21 (by decide), rT_c hhi]
      · rw [if_neg h5, if_neg h5]
-- a new trial
def addR (S : St) (i k : Nat) (er sp : Int32) : St := setA (setA (setA (setA (setA (setA (setA (setR S (nr S + 1)) 13 (nr S) (nI i)) 14 (nr S) (nI k)) 15 (nr S) (sc S 0)) 16 (nr S) er) 17 (nr S) sp) 18 (nr S) 1) 20 (nr S) (ar S 5 k)
def ZR (S : St) : Prop := ar S 19 (nr S) = 0 ∧ ar S 21 (nr S) = 0
theorem addR_off (S : St) (i k : Nat) (er sp : Int32) (a : Nat) {j : Nat} (h : j ≠ nr S) : ar (addR S i k er sp) a j = ar S a j := by
  unfold addR
  rw [ar_off _ _ _ _ _ h, ar_off _ _ _ _ _ h, ar_off _ _ _ _ _ h, ar_off _ _ _ _ _ h, ar_off _ _ _ _ _ h, ar_off _ _ _ _ _ h, ar_off _ _ _ _ _ h, ar_setR]
theorem addR_fun (S : St) (i k : Nat) (er sp : Int32) {a : Nat} (h : a < 13 ∨ a = 19 ∨ 20 < a) : ar (addR S i k er sp) a = ar S a := by
  funext j
  unfold addR
  rw [ar_ne _ _ _ _ _ (by omega), ar_ne _ _ _ _ _ (by omega), ar_ne _ _ _ _ _ (by omega), ar_ne _ _ _ _ _ (by omega), ar_ne _ _ _ _ _ (by omega), ar_ne _ _ _ _ _ (by omega), ar_ne _ _ _ _ _ (by omega), ar_setR]
theorem cX_addR {G : GG} {ad a2 : Nat → Nat} {S : St} {E : Ex} {q1 i k : Nat} {er sp : Int32} (hZ : ZR S) (hT : a2 (100 + nr S) = q1) (ha : ∀ j, j ≠ 100 + nr S → a2 j = ad j) (hla : ∀ i, i < nt S → ¬ ar S 5 i = -1000000 → ix (ar S 5 i) < nr S) (hba : ∀ n, n < nr S → ¬ ar S 20 n = -1000000 → ix (ar S 20 n) < n) (hk : k < nt S) (hn40 : nt S ≤ 40) {C4 : Nat → Option va_E}
    (h0 : C4 0 = some (.inr (2, [.ref (ad 1), .ref (ad 2), .ref (ad 3), .ref (ad 4), .ref (ad 5), .ref (ad 6), .ref (ad 7), .ref (ad 8), .ref (ad 9), .int (sc S 0), .int (nI (nt S)), .int (nI (nr S + 1)), .int (sc S 1)])))
    (h1 : C4 2 = some (.inl (gR G, 300, .inr (.inr (.inr (.inr (va_up (fRs ad S) (nr S) (some q1))))))))
    (h2 : C4 (100 + nr S) = some (.inr (1, [.int (nI (nr S)), .int (nI i), .int (nI k), rT ad (ar S 5 k), .int (sc S 0), .int er, .int sp, .int 1, .int 0, .int 0])))
    (h4 : ∀ j, j ≠ 0 → j ≠ 2 → j ≠ 100 + nr S → C4 j = cX G ad S E j) : ∀ j, C4 j = cX G a2 (addR S i k er sp) E j := by
  intro j
  have hlo : ∀ k, k < 100 → a2 k = ad k := fun k hk => ha k (by omega)
  have hr : ∀ x : Int32, (¬ x = -1000000 → ix x < nr S) → rT a2 x = rT ad x := fun x hx => by
    by_cases e : x = -1000000
    · rw [rT_null e, rT_null e]
    · have := hx e
      rw [rT_ref e, rT_ref e, ha _ (by omega)]
  have hnt : nt (addR S i k er sp) = nt S := rfl
  have hnr : nr (addR S i k er sp) = nr S + 1 := rfl
  have hoff : ∀ a j, j ≠ nr S → ar (addR S i k er sp) a j = ar S a j := fun a j h => addR_off S i k er sp a h
  by_cases k0 : j = 0
  · subst k0
    rw [h0]
    refine (Eq.trans (cX_lo (e := eX a2 (addR S i k er sp)) 0 (by decide) rfl) ?_).symm
    unfold eX
    rw [hlo 1 (by decide), hlo 2 (by decide), hlo 3 (by decide), hlo 4 (by decide), hlo 5 (by decide), hlo 6 (by decide), hlo 7 (by decide), hlo 8 (by decide), hlo 9 (by decide)]
    rfl
  by_cases k1 : j = 2
  · subst k1
    rw [h1]
    refine (Eq.trans (cX_lo (e := .inl (gR G, 300, .inr (.inr (.inr (.inr (fRs a2 (addR S i k er sp))))))) 2 (by decide) rfl) ?_).symm
    have : fRs a2 (addR S i k er sp) = va_up (fRs ad S) (nr S) (some q1) := by
      funext n
      show (if n < nr S + 1 then some (a2 (100 + n)) else none) = if n = nr S then some q1 else (if n < nr S then some (ad (100 + n)) else none)
      by_cases hi : n = nr S
      · subst hi; rw [if_pos (by omega), if_pos rfl, hT]
      · rw [if_neg hi]
        by_cases hl : n < nr S
        · rw [if_pos hl, if_pos (by omega), ha _ (by omega)]
        · rw [if_neg hl, if_neg (by omega)]
    rw [this]
  by_cases k2 : j = 100 + nr S
  · subst k2
    rw [h2]
    refine (Eq.trans (cX_R (n := nr S) (S := addR S i k er sp) (by rw [hnr]; omega)) ?_).symm
    have e19 : ar (addR S i k er sp) 19 (nr S) = 0 := by rw [addR_fun S i k er sp (by decide)]; exact hZ.1
    have e21 : ar (addR S i k er sp) 21 (nr S) = 0 := by rw [addR_fun S i k er sp (by decide)]; exact hZ.2
    have e13 : ar (addR S i k er sp) 13 (nr S) = nI i := by unfold addR; simp [ar_setA]
    have e14 : ar (addR S i k er sp) 14 (nr S) = nI k := by unfold addR; simp [ar_setA]
    have e15 : ar (addR S i k er sp) 15 (nr S) = sc S 0 := by unfold addR; simp [ar_setA]
    have e16 : ar (addR S i k er sp) 16 (nr S) = er := by unfold addR; simp [ar_setA]
    have e17 : ar (addR S i k er sp) 17 (nr S) = sp := by unfold addR; simp [ar_setA]
    have e18 : ar (addR S i k er sp) 18 (nr S) = 1 := by unfold addR; simp [ar_setA]
    have e20 : ar (addR S i k er sp) 20 (nr S) = ar S 5 k := by unfold addR; simp [ar_setA]
    unfold eR
    rw [e13, e14, e15, e16, e17, e18, e19, e20, e21, hr _ (hla k hk)]
  rw [h4 j k0 k1 k2]
  unfold cX
  by_cases h10 : j < 10
  · rw [if_pos h10, if_pos h10]
    have f10 : ar (addR S i k er sp) 10 = ar S 10 := addR_fun S i k er sp (by decide)
    have f11 : ar (addR S i k er sp) 11 = ar S 11 := addR_fun S i k er sp (by decide)
    have f22 : ar (addR S i k er sp) 22 = ar S 22 := addR_fun S i k er sp (by decide)
    match j, k0, k1, h10 with
    | 0, h, _, _ => exact absurd rfl h
    | 2, _, h, _ => exact absurd rfl h
    | 1, _, _, _ =>
      show some (Sum.inl (gT G, 40, Sum.inr (Sum.inr (Sum.inr (Sum.inr (fTs ad S)))))) = some (Sum.inl (gT G, 40, Sum.inr (Sum.inr (Sum.inr (Sum.inr (fTs a2 (addR S i k er sp)))))))
      have : fTs a2 (addR S i k er sp) = fTs ad S := by
        funext n
        show (if n < nt S then some (a2 (10 + 2 * n)) else none) = if n < nt S then some (ad (10 + 2 * n)) else none
        by_cases hq : 10 + 2 * n = 100 + nr S
        · by_cases hn : n < nt S
          · exact absurd hq (by have := hn40; omega)
          · rw [if_neg hn, if_neg hn]
        · rw [ha _ hq]
      rw [this]
    | 3, _, _, _ => show some (Sum.inl (gI G, 4, Sum.inl (fA S 10))) = some (Sum.inl (gI G, 4, Sum.inl (fA (addR S i k er sp) 10))); rw [fA_c f10]
    | 4, _, _, _ => show some (Sum.inl (gI G, 4, Sum.inl (fA S 11))) = some (Sum.inl (gI G, 4, Sum.inl (fA (addR S i k er sp) 11))); rw [fA_c f11]
    | 5, _, _, _ => show some (Sum.inl (gI G, 10, Sum.inl (ar S 22))) = some (Sum.inl (gI G, 10, Sum.inl (ar (addR S i k er sp) 22))); rw [f22]
    | 6, _, _, _ | 7, _, _, _ | 8, _, _, _ | 9, _, _, _ => rfl
    | j + 10, _, _, h => exact absurd h (by omega)
  · rw [if_neg h10, if_neg h10]
    by_cases h100 : j < 100
    · rw [if_pos h100, if_pos h100, hnt]
      by_cases h5 : (j - 10) / 2 < nt S
      · rw [if_pos h5, if_pos h5]
        have g : ∀ a, a < 13 → ar (addR S i k er sp) a = ar S a := fun a h => addR_fun S i k er sp (Or.inl h)
        by_cases h6 : j % 2 = 0
        · rw [if_pos h6, if_pos h6]
          unfold eT
          rw [g 0 (by decide), g 1 (by decide), g 2 (by decide), g 3 (by decide), g 4 (by decide), g 5 (by decide), g 6 (by decide), g 7 (by decide), g 8 (by decide), hlo _ (by omega), hr _ (hla _ h5)]
        · rw [if_neg h6, if_neg h6]
          rw [fD_c (S' := addR S i k er sp) (S := S) (fun j _ => by rw [g 9 (by decide)])]
      · rw [if_neg h5, if_neg h5]
    · rw [if_neg h100, if_neg h100, hnr]
      by_cases h5 : j - 100 < nr S
      · have hji : j - 100 ≠ nr S := by omega
        rw [if_pos h5, if_pos (show j - 100 < nr S + 1 by omega)]
        unfold eR
        rw [hoff _ _ hji, hoff _ _ hji, hoff _ _ hji, hoff _ _ hji, hoff _ _ hji, hoff _ _ hji, hoff _ _ hji, hoff _ _ hji, hoff _ _ hji, hr _ (fun h => Nat.lt_trans (hba _ h5 h) h5)]
      · rw [if_neg h5, if_neg (show ¬ j - 100 < nr S + 1 by omega)]
