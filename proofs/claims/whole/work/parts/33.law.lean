/-! THE CLAIM OUT OF ONE WALK OF THE LAW'S BODY. Your part is whole_start (and what it stands on); all else here is the same for every law, but numbers. -/
def R_law : String := "TrueWeightsLaw"
def lw_P (b : Addr) (xs : List Int32) (args : Array Value) (s : State) : Prop := args = #[.ref b] ∧ s.IntsAt b xs ∧ xs.length ≤ 2560 ∧ (Jvm.Cond.and given_1 narrow_1).before args s = true
def lw_Q (_ : Array Value) (s : State) (o : Outcome) (t : State) : Prop := o = .returned (some (.int 1)) ∧ Framed s o t [] 600000 7302250
def lw_Z (below : List Frame) (a : Array Value) (s : State) : State → Prop := fun t => ∃ o, t.status = .running ∧ Ended t below o ∧ lw_Q a s o t
/-- the law's own end, with 1 on the stack, nothing written that was there before, its room as the claim has it -/
theorem lw_ret {p : Program} {l : Launch} {e : Env} {s : State} {m : MethodId} {below : List Frame} {meth : Method} {c : Code} {b : Nat} (hx : p.tables.exec = Jvm.exec) (hb : c.code = code) (hr : meth.sig.returnType = ret) (hlocks : meth.locks = false) {pc : Nat} {H : Heap} {ls : Array Slot} (hdg : decode code pc = .ok (.ireturn, 1)) : W p l e room_1 s m #[Value.ref b] below meth c H [] 600000 7302250 (lw_Z below #[Value.ref b] s) (F0 m pc ls [.int 1]) := by
  intro T hT X
  obtain ⟨fs, hret, hrun, hended, hW, hframe⟩ := X.leave (v := some (.int 1)) (hlocks := hlocks) (fun h => by rw [hr] at h; cases h)
  have hmeth' : T.vm.method? m = some meth := X.method'
  refine ⟨T.setFrames fs, ?_, .returned (some (.int 1)), hrun, hended, rfl, ⟨_, rfl⟩, hW, hframe⟩
  jvm_step X.here [X.here.top, hx, hb, hdg, hmeth', hr, ret, narrow_b1]
  (try refine ⟨rfl, ?_⟩); (try refine ⟨rfl, ?_⟩)
  first | (intro acts; rw [hret _ acts rfl rfl rfl]) | rw [hret _ _ rfl rfl rfl]
  exact Steps.refl _
/-- what holds at the law's entry: the machine, the code, the tables' words (any of lw_tbl by 'hts w (by decide +kernel)'), the script of L ints xs at the cell b, what the Statement gives of the start (any of its parts by flat_of_before) -/
def lw_At (p : Program) (s : State) (m : MethodId) (meth : Method) (c : Code) (b L : Nat) (xs : Nat → Int32) : Prop :=
  p.tables.exec = Jvm.exec ∧ c.code = code ∧ meth.sig.returnType = ret ∧ c.maxLocals = 4 ∧ s.vm.findClass R_law = some m.cls ∧ (∀ w ∈ lw_tbl, w.before #[Value.ref b] s = true) ∧ va_X b L xs s s.heap ∧ b < s.heap.size ∧ meth.locks = false ∧ (Jvm.Cond.and given_1 narrow_1).before #[Value.ref b] s = true
theorem head_lt {Lx i : Nat} (h1 : Lx ≤ 2560) (h2 : i ≤ 2560) : (Int32.ofNat Lx - 5 < nI i) ↔ Lx < i + 5 := by
  have e1 : (Int32.ofNat Lx).toInt = (Lx : Int) := nI_toInt (n := Lx) (by omega)
  have e2 : (nI i).toInt = (i : Int) := nI_toInt (by omega)
  have e5 : (5 : Int32).toInt = 5 := by decide
  have e3 : (Int32.ofNat Lx - 5).toInt = (Lx : Int) - 5 := by
    rw [Int32.toInt_sub, e1, e5]
    exact Int.bmod_eq_of_le (by omega) (by omega)
  rw [i_lt, e3, e2]
  omega
set_option maxRecDepth 100000 in
set_option maxHeartbeats 4000000 in
theorem law_loop {p : Program} {l : Launch} {e : Env} {s : State} {m : MethodId} {below : List Frame} {meth : Method} {c : Code} {b Lx : Nat} {xs : Nat → Int32} {G : GG} (cx : Cx p s m #[Value.ref b] c code 4 RL G) (hr : meth.sig.returnType = ret) (hlocks : meth.locks = false) (hX : va_X b Lx xs s s.heap) (hbl : b < s.heap.size) (hL2 : Lx ≤ 2560) {x0 m0 : Nat} :
    ∀ (q i cells slots : Nat) (S : St) (E : Ex) (adX adM : Nat → Nat) (H : Heap) (locs : List Loc), Lx < i + 5 + 5 * q → i ≤ 2560 → cells + 2 * q ≤ 600000 → slots + 13 * q ≤ 7302250 → LW2 G (fun a => s.heap.size ≤ a) adX adM x0 m0 S E S H → INV S E → va_S (fun a => s.heap.size ≤ a) s.heap H locs → ∀ ls : Array Slot, lv_has ls 4 [(0, .ref b), (1, .ref x0), (2, .ref m0), (3, .int (nI i))] → W p l e room_1 s m #[Value.ref b] below meth c H locs cells slots (lw_Z below #[Value.ref b] s) (F0 m 18 ls []) := by
  have hx := cx.1.1
  have hb := cx.1.2.1
  have hA : ∀ q : Nat, s.heap.size ≤ q → (fun a => s.heap.size ≤ a) q := fun _ h => h
  have hbA : ¬ (fun a => s.heap.size ≤ a) b := Nat.not_le.mpr hbl
  intro q
  induction q with
  | zero =>
    intro i cells slots S E adX adM H locs h1 h2 h3 h4 hLS hI hS ls hl
    refine lv_iload_n hx hb dL_law_18 rfl (lv_at hl 3 rfl) ?_
    refine lv_aload_n hx hb dL_law_19 rfl (lv_at hl 0 rfl) ?_
    refine va_slen hx hb hX hbl hbA hS dL_law_20 ?_
    refine lv_iconst (v := 5) hx hb dL_law_21 (by decide) ?_
    refine lv_isub hx hb dL_law_22 ?_
    refine lv_icmp_gt (tgt := 822) hx hb dL_law_23 (by decide) (fun c_1 => ?_) (fun c_1 => ?_)
    · refine lv_iconst (v := 1) hx hb dL_law_822 (by decide) ?_
      refine va_forget (fun q hq => hS.2.2 q hq) ?_
      refine W.widen (k := 600000) (n := 7302250) (by omega) (by omega) ?_
      exact lw_ret hx hb hr hlocks dL_law_823
    · exact absurd ((head_lt hL2 h2).mpr (by omega)) c_1
  | succ q ih =>
    intro i cells slots S E adX adM H locs h1 h2 h3 h4 hLS hI hS ls hl
    refine lv_iload_n hx hb dL_law_18 rfl (lv_at hl 3 rfl) ?_
    refine lv_aload_n hx hb dL_law_19 rfl (lv_at hl 0 rfl) ?_
    refine va_slen hx hb hX hbl hbA hS dL_law_20 ?_
    refine lv_iconst (v := 5) hx hb dL_law_21 (by decide) ?_
    refine lv_isub hx hb dL_law_22 ?_
    refine lv_icmp_gt (tgt := 822) hx hb dL_law_23 (by decide) (fun c_1 => ?_) (fun c_1 => ?_)
    · refine lv_iconst (v := 1) hx hb dL_law_822 (by decide) ?_
      refine va_forget (fun q hq => hS.2.2 q hq) ?_
      refine W.widen (k := 600000) (n := 7302250) (by omega) (by omega) ?_
      exact lw_ret hx hb hr hlocks dL_law_823
    · have hi : i + 4 < Lx := by
        have := mt (head_lt hL2 h2).mpr c_1
        omega
      refine lv_aload_n hx hb dL_law_26 rfl (lv_at hl 0 rfl) ?_
      refine lv_iload_n hx hb dL_law_27 rfl (lv_at hl 3 rfl) ?_
      refine l_sld cx hX hbl hbA hS i (by omega) (by omega) dL_law_28 ?_
      refine lv_bipush (v := 31) hx hb dL_law_29 (by decide) ?_
      refine lv_iand hx hb dL_law_31 ?_
      have kk : ∀ (S1 : St) (E1 : Ex) (adX1 adM1 : Nat → Nat) (H1 : Heap) (locs1 : List Loc), LW2 G (fun a => s.heap.size ≤ a) adX1 adM1 x0 m0 S1 E1 S1 H1 → INV S1 E1 → va_S (fun a => s.heap.size ≤ a) s.heap H1 locs1 → W p l e room_1 s m #[Value.ref b] below meth c H1 locs1 (cells + 2) (slots + 13) (lw_Z below #[Value.ref b] s) (F0 m 816 ls []) := by
        intro S1 E1 adX1 adM1 H1 locs1 g1 g2 g3
        refine lv_iinc (v := nI (i + 5)) (lv' := [(3, .int (nI (i + 5))), (0, .ref b), (1, .ref x0), (2, .ref m0)]) hx hb dL_law_816 hl (k := 3) rfl (by rw [← nI_add]; rfl) (by decide) rfl (fun ls hl => ?_)
        refine lv_goto (tgt := 18) hx hb dL_law_819 (by decide) ?_
        exact ih (i + 5) (cells + 2) (slots + 13) S1 E1 adX1 adM1 H1 locs1 (by omega) (by omega) (by omega) (by omega) g1 g2 g3 ls (lv_sub hl [1, 2, 3, 0] rfl)
      have hc : cells + 2 ≤ 600000 ∧ slots + 13 ≤ 7302250 := ⟨by omega, by omega⟩
      obtain ⟨j, hj, ej⟩ := pk_andE (xs i) (m := 31) 5 (by decide)
      rw [ej]
      rcases (show j = 0 ∨ j = 1 ∨ j = 2 ∨ j = 3 ∨ j = 4 ∨ j = 5 ∨ j = 6 ∨ j = 7 ∨ j = 8 ∨ j = 9 ∨ j = 10 ∨ j = 11 ∨ j = 12 ∨ j = 13 ∨ j = 14 ∨ j = 15 ∨ j = 16 ∨ j = 17 ∨ j = 18 ∨ j = 19 ∨ j = 20 ∨ j = 21 ∨ j = 22 ∨ 23 ≤ j by omega) with rfl | rfl | rfl | rfl | rfl | rfl | rfl | rfl | rfl | rfl | rfl | rfl | rfl | rfl | rfl | rfl | rfl | rfl | rfl | rfl | rfl | rfl | rfl | h23
      · refine lv_tableIn (off := 108) (tgt := 140) hx hb dL_law_32 (by decide) (by decide) (by decide) (by decide) ?_
        exact lc_0 cx hX hbl hbA hA hi hL2 hc hLS hI hS hl kk
      · refine lv_tableIn (off := 131) (tgt := 163) hx hb dL_law_32 (by decide) (by decide) (by decide) (by decide) ?_
        exact lc_1 cx hX hbl hbA hA hi hL2 hc hLS hI hS hl kk
      · refine lv_tableIn (off := 184) (tgt := 216) hx hb dL_law_32 (by decide) (by decide) (by decide) (by decide) ?_
        exact lc_2 cx hX hbl hbA hA hi hL2 hc hLS hI hS hl kk
      · refine lv_tableIn (off := 217) (tgt := 249) hx hb dL_law_32 (by decide) (by decide) (by decide) (by decide) ?_
        exact lc_3 cx hX hbl hbA hA hi hL2 hc hLS hI hS hl kk
      · refine lv_tableIn (off := 250) (tgt := 282) hx hb dL_law_32 (by decide) (by decide) (by decide) (by decide) ?_
        exact lc_4 cx hX hbl hbA hA hi hL2 hc hLS hI hS hl kk
      · refine lv_tableIn (off := 309) (tgt := 341) hx hb dL_law_32 (by decide) (by decide) (by decide) (by decide) ?_
        exact lc_5 cx hX hbl hbA hA hi hL2 hc hLS hI hS hl kk
      · refine lv_tableIn (off := 342) (tgt := 374) hx hb dL_law_32 (by decide) (by decide) (by decide) (by decide) ?_
        exact lc_6 cx hX hbl hbA hA hi hL2 hc hLS hI hS hl kk
      · refine lv_tableIn (off := 395) (tgt := 427) hx hb dL_law_32 (by decide) (by decide) (by decide) (by decide) ?_
        exact lc_7 cx hX hbl hbA hA hi hL2 hc hLS hI hS hl kk
      · refine lv_tableIn (off := 428) (tgt := 460) hx hb dL_law_32 (by decide) (by decide) (by decide) (by decide) ?_
        exact lc_8 cx hX hbl hbA hA hi hL2 hc hLS hI hS hl kk
      · refine lv_tableIn (off := 451) (tgt := 483) hx hb dL_law_32 (by decide) (by decide) (by decide) (by decide) ?_
        exact lc_9 cx hX hbl hbA hA hi hL2 hc hLS hI hS hl kk
      · refine lv_tableIn (off := 474) (tgt := 506) hx hb dL_law_32 (by decide) (by decide) (by decide) (by decide) ?_
        exact lc_10 cx hX hbl hbA hA hi hL2 hc hLS hI hS hl kk
      · refine lv_tableIn (off := 497) (tgt := 529) hx hb dL_law_32 (by decide) (by decide) (by decide) (by decide) ?_
        exact lc_11 cx hX hbl hbA hA hi hL2 hc hLS hI hS hl kk
      · refine lv_tableIn (off := 520) (tgt := 552) hx hb dL_law_32 (by decide) (by decide) (by decide) (by decide) ?_
        exact lc_12 cx hX hbl hbA hA hi hL2 hc hLS hI hS hl kk
      · refine lv_tableIn (off := 543) (tgt := 575) hx hb dL_law_32 (by decide) (by decide) (by decide) (by decide) ?_
        exact lc_13 cx hX hbl hbA hA hi hL2 hc hLS hI hS hl kk
      · refine lv_tableIn (off := 576) (tgt := 608) hx hb dL_law_32 (by decide) (by decide) (by decide) (by decide) ?_
        exact lc_14 cx hX hbl hbA hA hi hL2 hc hLS hI hS hl kk
      · refine lv_tableIn (off := 589) (tgt := 621) hx hb dL_law_32 (by decide) (by decide) (by decide) (by decide) ?_
        exact lc_15 cx hX hbl hbA hA hi hL2 hc hLS hI hS hl kk
      · refine lv_tableIn (off := 612) (tgt := 644) hx hb dL_law_32 (by decide) (by decide) (by decide) (by decide) ?_
        exact lc_16 cx hX hbl hbA hA hi hL2 hc hLS hI hS hl kk
      · refine lv_tableIn (off := 635) (tgt := 667) hx hb dL_law_32 (by decide) (by decide) (by decide) (by decide) ?_
        exact lc_17 cx hX hbl hbA hA hi hL2 hc hLS hI hS hl kk
      · refine lv_tableIn (off := 668) (tgt := 700) hx hb dL_law_32 (by decide) (by decide) (by decide) (by decide) ?_
        exact lc_18 cx hX hbl hbA hA hi hL2 hc hLS hI hS hl kk
      · refine lv_tableIn (off := 691) (tgt := 723) hx hb dL_law_32 (by decide) (by decide) (by decide) (by decide) ?_
        exact lc_19 cx hX hbl hbA hA hi hL2 hc hLS hI hS hl kk
      · refine lv_tableIn (off := 714) (tgt := 746) hx hb dL_law_32 (by decide) (by decide) (by decide) (by decide) ?_
        exact lc_20 cx hX hbl hbA hA hi hL2 hc hLS hI hS hl kk
      · refine lv_tableIn (off := 738) (tgt := 770) hx hb dL_law_32 (by decide) (by decide) (by decide) (by decide) ?_
        exact lc_21 cx hX hbl hbA hA hi hL2 hc hLS hI hS hl kk
      · refine lv_tableIn (off := 761) (tgt := 793) hx hb dL_law_32 (by decide) (by decide) (by decide) (by decide) ?_
        exact lc_22 cx hX hbl hbA hA hi hL2 hc hLS hI hS hl kk
      · refine lv_tableOut (tgt := 816) hx hb dL_law_32 (Or.inr (by rw [nI_toInt (by omega)]; omega)) (by decide) ?_
        refine W.widen (k := cells + 2) (n := slots + 13) (by omega) (by omega) ?_
        exact kk _ _ _ _ _ _ hLS hI hS
