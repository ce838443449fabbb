theorem ix_nI {j n : Nat} (h : j < n) (hn : n < 2 ^ 31) : ix (nI j) = j := by unfold ix; exact nI_clamp (Nat.lt_trans h hn)
theorem inT_of {S : St} (hW : WF S) {n : Int32} (h : ¬ f_X2_isWithin n 0 (nI (nt S) - 1) = 0) : ∃ j, j < nt S ∧ n = nI j := by
  rcases Classical.em (∃ j, j < nt S ∧ n = nI j) with q | q
  · exact q
  · exact absurd (isW_out (Nat.lt_of_le_of_lt hW.t (by decide)) q) h
theorem outT_of {S : St} (hW : WF S) {n : Int32} (h : f_X2_isWithin n 0 (nI (nt S) - 1) = 0) : nT S n := fun ⟨j, hj, e⟩ => by
  subst e; exact isW_in hj (Nat.lt_of_le_of_lt hW.t (by decide)) h
theorem inR_of {S : St} (hW : WF S) {n : Int32} (h : ¬ f_X2_isWithin n 0 (nI (nr S) - 1) = 0) : ∃ j, j < nr S ∧ n = nI j := by
  rcases Classical.em (∃ j, j < nr S ∧ n = nI j) with q | q
  · exact q
  · exact absurd (isW_out (Nat.lt_of_le_of_lt hW.r (by decide)) q) h
theorem outR_of {S : St} (hW : WF S) {n : Int32} (h : f_X2_isWithin n 0 (nI (nr S) - 1) = 0) : nR S n := fun ⟨j, hj, e⟩ => by
  subst e; exact isW_in hj (Nat.lt_of_le_of_lt hW.r (by decide)) h
def V_about (S : St) (n : Int32) (x : Int32) : Int32 := if f_X2_isWithin n 0 (nI (nt S) - 1) = 0 then -1 else f_X3_about S (ix n) x
theorem cl_X2_about (l : Launch) (G : GG) (ad : Nat → Nat) (S : St) (E : Ex) (hI : INV S E) (n : Int32) (x : Int32) : MR l yX2_about cX2_about 4 (some .int) 2 43 G ad (cX G ad S E) [.ref (ad 0), .int n, .int x] (some (.int (V_about S n x))) := by
  unfold V_about
  by_cases h : f_X2_isWithin n 0 (nI (nt S) - 1) = 0
  · rw [if_pos h]; exact c_X2_about_out l G ad S E hI.wf (outT_of hI.wf h) x
  · rw [if_neg h]
    obtain ⟨j, hj, rfl⟩ := inT_of hI.wf h
    rw [ix_nI hj (Nat.lt_of_le_of_lt hI.wf.t (by decide))]
    rw [← e_about hI hj]
    exact c_X2_about l G ad S E hI.wf hj x
theorem cl_X3_about (l : Launch) (G : GG) (ad : Nat → Nat) (S : St) (E : Ex) (hI : INV S E) (n : Int32) (x : Int32) : MR l yX3_about cX3_about 3 (some .int) 2 43 G ad (cM G ad S) [.ref (ad 0), .int n, .int x] (some (.int (V_about S n x))) := by
  unfold V_about
  by_cases h : f_X2_isWithin n 0 (nI (nt S) - 1) = 0
  · rw [if_pos h]; exact c_X3_about_out l G ad S hI.wf (outT_of hI.wf h) x
  · rw [if_neg h]
    obtain ⟨j, hj, rfl⟩ := inT_of hI.wf h
    rw [ix_nI hj (Nat.lt_of_le_of_lt hI.wf.t (by decide))]
    exact c_X3_about l G ad S hI.wf hj x
def V_error (S : St) (n : Int32) : Int32 := if f_X2_isWithin n 0 (nI (nt S) - 1) = 0 then -1 else f_X3_error S (ix n) 
theorem cl_X2_error (l : Launch) (G : GG) (ad : Nat → Nat) (S : St) (E : Ex) (hI : INV S E) (n : Int32) : MR l yX2_error cX2_error 3 (some .int) 2 43 G ad (cX G ad S E) [.ref (ad 0), .int n] (some (.int (V_error S n ))) := by
  unfold V_error
  by_cases h : f_X2_isWithin n 0 (nI (nt S) - 1) = 0
  · rw [if_pos h]; exact c_X2_error_out l G ad S E hI.wf (outT_of hI.wf h) 
  · rw [if_neg h]
    obtain ⟨j, hj, rfl⟩ := inT_of hI.wf h
    rw [ix_nI hj (Nat.lt_of_le_of_lt hI.wf.t (by decide))]
    rw [← e_error hI hj]
    exact c_X2_error l G ad S E hI.wf hj 
theorem cl_X3_error (l : Launch) (G : GG) (ad : Nat → Nat) (S : St) (E : Ex) (hI : INV S E) (n : Int32) : MR l yX3_error cX3_error 2 (some .int) 2 43 G ad (cM G ad S) [.ref (ad 0), .int n] (some (.int (V_error S n ))) := by
  unfold V_error
  by_cases h : f_X2_isWithin n 0 (nI (nt S) - 1) = 0
  · rw [if_pos h]; exact c_X3_error_out l G ad S hI.wf (outT_of hI.wf h) 
  · rw [if_neg h]
    obtain ⟨j, hj, rfl⟩ := inT_of hI.wf h
    rw [ix_nI hj (Nat.lt_of_le_of_lt hI.wf.t (by decide))]
    exact c_X3_error l G ad S hI.wf hj 
def V_span (S : St) (n : Int32) : Int32 := if f_X2_isWithin n 0 (nI (nt S) - 1) = 0 then -1 else f_X3_span S (ix n) 
theorem cl_X2_span (l : Launch) (G : GG) (ad : Nat → Nat) (S : St) (E : Ex) (hI : INV S E) (n : Int32) : MR l yX2_span cX2_span 3 (some .int) 2 43 G ad (cX G ad S E) [.ref (ad 0), .int n] (some (.int (V_span S n ))) := by
  unfold V_span
  by_cases h : f_X2_isWithin n 0 (nI (nt S) - 1) = 0
  · rw [if_pos h]; exact c_X2_span_out l G ad S E hI.wf (outT_of hI.wf h) 
  · rw [if_neg h]
    obtain ⟨j, hj, rfl⟩ := inT_of hI.wf h
    rw [ix_nI hj (Nat.lt_of_le_of_lt hI.wf.t (by decide))]
    rw [← e_span hI hj]
    exact c_X2_span l G ad S E hI.wf hj 
theorem cl_X3_span (l : Launch) (G : GG) (ad : Nat → Nat) (S : St) (E : Ex) (hI : INV S E) (n : Int32) : MR l yX3_span cX3_span 2 (some .int) 2 43 G ad (cM G ad S) [.ref (ad 0), .int n] (some (.int (V_span S n ))) := by
  unfold V_span
  by_cases h : f_X2_isWithin n 0 (nI (nt S) - 1) = 0
  · rw [if_pos h]; exact c_X3_span_out l G ad S hI.wf (outT_of hI.wf h) 
  · rw [if_neg h]
    obtain ⟨j, hj, rfl⟩ := inT_of hI.wf h
    rw [ix_nI hj (Nat.lt_of_le_of_lt hI.wf.t (by decide))]
    exact c_X3_span l G ad S hI.wf hj 
def V_settled (S : St) (n : Int32) : Int32 := if f_X2_isWithin n 0 (nI (nt S) - 1) = 0 then -1 else f_X3_settled S (ix n) 
theorem cl_X2_settled (l : Launch) (G : GG) (ad : Nat → Nat) (S : St) (E : Ex) (hI : INV S E) (n : Int32) : MR l yX2_settled cX2_settled 3 (some .int) 2 43 G ad (cX G ad S E) [.ref (ad 0), .int n] (some (.int (V_settled S n ))) := by
  unfold V_settled
  by_cases h : f_X2_isWithin n 0 (nI (nt S) - 1) = 0
  · rw [if_pos h]; exact c_X2_settled_out l G ad S E hI.wf (outT_of hI.wf h) 
  · rw [if_neg h]
    obtain ⟨j, hj, rfl⟩ := inT_of hI.wf h
    rw [ix_nI hj (Nat.lt_of_le_of_lt hI.wf.t (by decide))]
    rw [← e_settled hI hj]
    exact c_X2_settled l G ad S E hI.wf hj 
theorem cl_X3_settled (l : Launch) (G : GG) (ad : Nat → Nat) (S : St) (E : Ex) (hI : INV S E) (n : Int32) : MR l yX3_settled cX3_settled 2 (some .int) 2 43 G ad (cM G ad S) [.ref (ad 0), .int n] (some (.int (V_settled S n ))) := by
  unfold V_settled
  by_cases h : f_X2_isWithin n 0 (nI (nt S) - 1) = 0
  · rw [if_pos h]; exact c_X3_settled_out l G ad S hI.wf (outT_of hI.wf h) 
  · rw [if_neg h]
    obtain ⟨j, hj, rfl⟩ := inT_of hI.wf h
    rw [ix_nI hj (Nat.lt_of_le_of_lt hI.wf.t (by decide))]
    exact c_X3_settled l G ad S hI.wf hj 
def V_due (S : St) (n : Int32) : Int32 := if f_X2_isWithin n 0 (nI (nt S) - 1) = 0 then -1 else f_X3_due S (ix n) 
theorem cl_X2_due (l : Launch) (G : GG) (ad : Nat → Nat) (S : St) (E : Ex) (hI : INV S E) (n : Int32) : MR l yX2_due cX2_due 3 (some .int) 3 65 G ad (cX G ad S E) [.ref (ad 0), .int n] (some (.int (V_due S n ))) := by
  unfold V_due
  by_cases h : f_X2_isWithin n 0 (nI (nt S) - 1) = 0
  · rw [if_pos h]; exact c_X2_due_out l G ad S E hI.wf (outT_of hI.wf h) 
  · rw [if_neg h]
    obtain ⟨j, hj, rfl⟩ := inT_of hI.wf h
    rw [ix_nI hj (Nat.lt_of_le_of_lt hI.wf.t (by decide))]
    rw [← e_due hI hj]
    exact c_X2_due l G ad S E hI.wf hj 
theorem cl_X3_due (l : Launch) (G : GG) (ad : Nat → Nat) (S : St) (E : Ex) (hI : INV S E) (n : Int32) : MR l yX3_due cX3_due 2 (some .int) 2 43 G ad (cM G ad S) [.ref (ad 0), .int n] (some (.int (V_due S n ))) := by
  unfold V_due
  by_cases h : f_X2_isWithin n 0 (nI (nt S) - 1) = 0
  · rw [if_pos h]; exact c_X3_due_out l G ad S hI.wf (outT_of hI.wf h) 
  · rw [if_neg h]
    obtain ⟨j, hj, rfl⟩ := inT_of hI.wf h
    rw [ix_nI hj (Nat.lt_of_le_of_lt hI.wf.t (by decide))]
    exact c_X3_due l G ad S hI.wf hj 
def V_left (S : St) (n : Int32) : Int32 := if f_X2_isWithin n 0 (nI (nt S) - 1) = 0 then -1 else f_X3_left S (ix n) 
theorem cl_X2_left (l : Launch) (G : GG) (ad : Nat → Nat) (S : St) (E : Ex) (hI : INV S E) (n : Int32) : MR l yX2_left cX2_left 3 (some .int) 2 44 G ad (cX G ad S E) [.ref (ad 0), .int n] (some (.int (V_left S n ))) := by
  unfold V_left
  by_cases h : f_X2_isWithin n 0 (nI (nt S) - 1) = 0
  · rw [if_pos h]; exact c_X2_left_out l G ad S E hI.wf (outT_of hI.wf h) 
  · rw [if_neg h]
    obtain ⟨j, hj, rfl⟩ := inT_of hI.wf h
    rw [ix_nI hj (Nat.lt_of_le_of_lt hI.wf.t (by decide))]
    rw [← e_left hI hj]
    exact c_X2_left l G ad S E hI.wf hj 
theorem cl_X3_left (l : Launch) (G : GG) (ad : Nat → Nat) (S : St) (E : Ex) (hI : INV S E) (n : Int32) : MR l yX3_left cX3_left 2 (some .int) 2 43 G ad (cM G ad S) [.ref (ad 0), .int n] (some (.int (V_left S n ))) := by
  unfold V_left
  by_cases h : f_X2_isWithin n 0 (nI (nt S) - 1) = 0
  · rw [if_pos h]; exact c_X3_left_out l G ad S hI.wf (outT_of hI.wf h) 
  · rw [if_neg h]
    obtain ⟨j, hj, rfl⟩ := inT_of hI.wf h
    rw [ix_nI hj (Nat.lt_of_le_of_lt hI.wf.t (by decide))]
    exact c_X3_left l G ad S hI.wf hj 
def V_judge (S : St) (n : Int32) : Int32 := if f_X2_isWithin n 0 (nI (nt S) - 1) = 0 then -1 else f_X3_judge S (ix n) 
theorem cl_X2_judge (l : Launch) (G : GG) (ad : Nat → Nat) (S : St) (E : Ex) (hI : INV S E) (n : Int32) : MR l yX2_judge cX2_judge 3 (some .int) 3 68 G ad (cX G ad S E) [.ref (ad 0), .int n] (some (.int (V_judge S n ))) := by
  unfold V_judge
  by_cases h : f_X2_isWithin n 0 (nI (nt S) - 1) = 0
  · rw [if_pos h]; exact c_X2_judge_out l G ad S E hI.wf (outT_of hI.wf h) 
  · rw [if_neg h]
    obtain ⟨j, hj, rfl⟩ := inT_of hI.wf h
    rw [ix_nI hj (Nat.lt_of_le_of_lt hI.wf.t (by decide))]
    rw [← e_judge hI hj]
    exact c_X2_judge l G ad S E hI.wf hj 
theorem cl_X3_judge (l : Launch) (G : GG) (ad : Nat → Nat) (S : St) (E : Ex) (hI : INV S E) (n : Int32) : MR l yX3_judge cX3_judge 2 (some .int) 2 47 G ad (cM G ad S) [.ref (ad 0), .int n] (some (.int (V_judge S n ))) := by
  unfold V_judge
  by_cases h : f_X2_isWithin n 0 (nI (nt S) - 1) = 0
  · rw [if_pos h]; exact c_X3_judge_out l G ad S hI.wf (outT_of hI.wf h) 
  · rw [if_neg h]
    obtain ⟨j, hj, rfl⟩ := inT_of hI.wf h
    rw [ix_nI hj (Nat.lt_of_le_of_lt hI.wf.t (by decide))]
    exact c_X3_judge l G ad S hI.wf hj 
def V_stays (S : St) (n : Int32) : Int32 := if f_X2_isWithin n 0 (nI (nt S) - 1) = 0 then -1 else f_X3_stays S (ix n) 
theorem cl_X2_stays (l : Launch) (G : GG) (ad : Nat → Nat) (S : St) (E : Ex) (hI : INV S E) (n : Int32) : MR l yX2_stays cX2_stays 6 (some .int) 3 68 G ad (cX G ad S E) [.ref (ad 0), .int n] (some (.int (V_stays S n ))) := by
  unfold V_stays
  by_cases h : f_X2_isWithin n 0 (nI (nt S) - 1) = 0
  · rw [if_pos h]; exact c_X2_stays_out l G ad S E hI.wf (outT_of hI.wf h) 
  · rw [if_neg h]
    obtain ⟨j, hj, rfl⟩ := inT_of hI.wf h
    rw [ix_nI hj (Nat.lt_of_le_of_lt hI.wf.t (by decide))]
    rw [← e_stays hI hj]
    exact c_X2_stays l G ad S E hI.wf hj 
theorem cl_X3_stays (l : Launch) (G : GG) (ad : Nat → Nat) (S : St) (E : Ex) (hI : INV S E) (n : Int32) : MR l yX3_stays cX3_stays 4 (some .int) 2 47 G ad (cM G ad S) [.ref (ad 0), .int n] (some (.int (V_stays S n ))) := by
  unfold V_stays
  by_cases h : f_X2_isWithin n 0 (nI (nt S) - 1) = 0
  · rw [if_pos h]; exact c_X3_stays_out l G ad S hI.wf (outT_of hI.wf h) 
  · rw [if_neg h]
    obtain ⟨j, hj, rfl⟩ := inT_of hI.wf h
    rw [ix_nI hj (Nat.lt_of_le_of_lt hI.wf.t (by decide))]
    exact c_X3_stays l G ad S hI.wf hj 
def V_told (S : St) (n x : Int32) : Int32 := if f_X2_isWithin n 0 (nI (nr S) - 1) = 0 then -1 else f_X3_told S (ix n) x
theorem cl_X2_told (l : Launch) (G : GG) (ad : Nat → Nat) (S : St) (E : Ex) (hI : INV S E) (n x : Int32) : MR l yX2_told cX2_told 4 (some .int) 2 43 G ad (cX G ad S E) [.ref (ad 0), .int n, .int x] (some (.int (V_told S n x))) := by
  unfold V_told
  by_cases h : f_X2_isWithin n 0 (nI (nr S) - 1) = 0
  · rw [if_pos h]; exact c_X2_told_out l G ad S E hI.wf (outR_of hI.wf h) x
  · rw [if_neg h]
    obtain ⟨j, hj, rfl⟩ := inR_of hI.wf h
    rw [ix_nI hj (Nat.lt_of_le_of_lt hI.wf.r (by decide))]
    rw [← e_told hI hj]
    exact c_X2_told l G ad S E hI.wf hI.wb hj x
theorem cl_X3_told (l : Launch) (G : GG) (ad : Nat → Nat) (S : St) (E : Ex) (hI : INV S E) (n x : Int32) : MR l yX3_told cX3_told 3 (some .int) 1 22 G ad (cM G ad S) [.ref (ad 0), .int n, .int x] (some (.int (V_told S n x))) := by
  unfold V_told
  by_cases h : f_X2_isWithin n 0 (nI (nr S) - 1) = 0
  · rw [if_pos h]; exact c_X3_told_out l G ad S hI.wf (outR_of hI.wf h) x
  · rw [if_neg h]
    obtain ⟨j, hj, rfl⟩ := inR_of hI.wf h
    rw [ix_nI hj (Nat.lt_of_le_of_lt hI.wf.r (by decide))]
    exact c_X3_told l G ad S hI.wf hj x
def V_chain (S : St) (n x : Int32) : Int32 := if f_X2_isWithin n 0 (nI (nt S) - 1) = 0 then -1 else if x < 0 then -1000000 else f_X3_chain S (ix n) (ix x)
theorem nn_nI {x : Int32} (h : ¬ x < 0) : ∃ j, j < 2 ^ 31 ∧ x = nI j := nI_of h
theorem cl_X2_chain (l : Launch) (G : GG) (ad : Nat → Nat) (S : St) (E : Ex) (hI : INV S E) (n x : Int32) : MR l yX2_chain cX2_chain 6 (some .int) 2 43 G ad (cX G ad S E) [.ref (ad 0), .int n, .int x] (some (.int (V_chain S n x))) := by
  unfold V_chain
  by_cases h : f_X2_isWithin n 0 (nI (nt S) - 1) = 0
  · rw [if_pos h]; exact c_X2_chain_out l G ad S E hI.wf (outT_of hI.wf h) x
  · rw [if_neg h]
    obtain ⟨j, hj, rfl⟩ := inT_of hI.wf h
    rw [ix_nI hj (Nat.lt_of_le_of_lt hI.wf.t (by decide))]
    by_cases hx : x < 0
    · rw [if_pos hx]; exact c_X2_chain_far l G ad S E hI.wf hj (by rw [f_X2_isWithin, if_pos hx])
    · rw [if_neg hx]
      obtain ⟨c, hc, rfl⟩ := nn_nI hx
      rw [show ix (nI c) = c from nI_clamp hc]
      rcases Nat.lt_or_ge c 300 with q | q
      · rw [← e_chain hI hj q]; exact c_X2_chain l G ad S E hI.wf hI.wb hj q
      · rw [e_chainfar hI hj q]
        refine c_X2_chain_far l G ad S E hI.wf hj ?_
        rw [f_X2_isWithin, if_neg hx, if_pos]
        rw [i_lt, nI_toInt hc]
        have : (299 : Int32).toInt = 299 := by decide
        omega
theorem cl_X3_chain (l : Launch) (G : GG) (ad : Nat → Nat) (S : St) (E : Ex) (hI : INV S E) (n x : Int32) : MR l yX3_chain cX3_chain 5 (some .int) 2 43 G ad (cM G ad S) [.ref (ad 0), .int n, .int x] (some (.int (V_chain S n x))) := by
  unfold V_chain
  by_cases h : f_X2_isWithin n 0 (nI (nt S) - 1) = 0
  · rw [if_pos h]; exact c_X3_chain_out l G ad S hI.wf (outT_of hI.wf h) x
  · rw [if_neg h]
    obtain ⟨j, hj, rfl⟩ := inT_of hI.wf h
    rw [ix_nI hj (Nat.lt_of_le_of_lt hI.wf.t (by decide))]
    by_cases hx : x < 0
    · rw [if_pos hx]; exact c_X3_chain_neg l G ad S hI.wf hj hx
    · rw [if_neg hx]
      obtain ⟨c, hc, rfl⟩ := nn_nI hx
      rw [show ix (nI c) = c from nI_clamp hc]
      exact c_X3_chain l G ad S hI.wf hI.wb hj hc
theorem cl_X2_unsettled (l : Launch) (G : GG) (ad : Nat → Nat) (S : St) (E : Ex) (hI : INV S E) : MR l yX2_unsettled cX2_unsettled 4 (some .int) 2 43 G ad (cX G ad S E) [.ref (ad 0)] (some (.int (f_X3_unsettled S))) := by rw [← e_unsettled S]; exact c_X2_unsettled l G ad S E hI.wf
theorem cl_X3_unsettled (l : Launch) (G : GG) (ad : Nat → Nat) (S : St) (E : Ex) (hI : INV S E) : MR l yX3_unsettled cX3_unsettled 3 (some .int) 0 0 G ad (cM G ad S) [.ref (ad 0)] (some (.int (f_X3_unsettled S))) := c_X3_unsettled l G ad S hI.wf
theorem cl_X2_count (l : Launch) (G : GG) (ad : Nat → Nat) (S : St) (E : Ex) (hI : INV S E) (x : Int32) : MR l yX2_count cX2_count 2 (some .int) 4 92 G ad (cX G ad S E) [.ref (ad 0), .int x] (some (.int (f_X3_count S x))) := by rw [← e_count hI x]; exact c_X2_count l G ad S E hI.wf x
theorem cl_X3_count (l : Launch) (G : GG) (ad : Nat → Nat) (S : St) (E : Ex) (hI : INV S E) (x : Int32) : MR l yX3_count cX3_count 5 (some .int) 2 47 G ad (cM G ad S) [.ref (ad 0), .int x] (some (.int (f_X3_count S x))) := c_X3_count l G ad S hI.wf x
theorem cl_X3_first (l : Launch) (G : GG) (ad : Nat → Nat) (S : St) (E : Ex) (hI : INV S E) (x : Int32) : MR l yX3_first cX3_first 5 (some .int) 3 66 G ad (cM G ad S) [.ref (ad 0), .int x] (some (.int (f_X3_first S x))) := c_X3_first l G ad S hI.wf x
def V_sealed (S : St) (x : Int32) : Int32 := if f_X2_isSealNumber x = 0 then -2 else f_X3_sealed S x
theorem cl_X2_sealed (l : Launch) (G : GG) (ad : Nat → Nat) (S : St) (E : Ex) (hI : INV S E) (x : Int32) : MR l yX2_sealed cX2_sealed 4 (some .int) 2 43 G ad (cX G ad S E) [.ref (ad 0), .int x] (some (.int (V_sealed S x))) := by
  unfold V_sealed
  by_cases h : f_X2_isSealNumber x = 0
  · rw [if_pos h]; exact c_X2_sealed_out l G ad S E hI.wf h
  · rw [if_neg h, ← e_sealed S x]; exact c_X2_sealed l G ad S E hI.wf h
theorem cl_X3_sealed (l : Launch) (G : GG) (ad : Nat → Nat) (S : St) (E : Ex) (hI : INV S E) (x : Int32) : MR l yX3_sealed cX3_sealed 3 (some .int) 1 22 G ad (cM G ad S) [.ref (ad 0), .int x] (some (.int (V_sealed S x))) := by
  unfold V_sealed
  by_cases h : f_X2_isSealNumber x = 0
  · rw [if_pos h]; exact c_X3_sealed_out l G ad S hI.wf h
  · rw [if_neg h]; exact c_X3_sealed l G ad S hI.wf h
def V_charged (S : St) (n : Int32) : Int64 := if f_X2_isOwner n = 0 then -1 else os S (ix n)
theorem cl_X2_charged (l : Launch) (G : GG) (ad : Nat → Nat) (S : St) (E : Ex) (hI : INV S E) (n : Int32) : MR l yX2_charged cX2_charged 2 (some .long) 2 42 G ad (cX G ad S E) [.ref (ad 0), .int n] (some (.long (V_charged S n))) := by
  unfold V_charged
  by_cases h : f_X2_isOwner n = 0
  · rw [if_pos h]; exact c_X2_charged_out l G ad S E hI.wf h
  · rw [if_neg h]
    obtain ⟨j, -, hj, rfl⟩ := within_nI (a := 0) (b := 9) (by decide) (by decide) h
    rw [show ix (nI j) = j from nI_clamp (by omega)]
    exact c_X2_charged l G ad S E hI.wf (Nat.lt_succ_of_le hj)
theorem cl_X3_charged (l : Launch) (G : GG) (ad : Nat → Nat) (S : St) (E : Ex) (hI : INV S E) (n : Int32) : MR l yX3_charged cX3_charged 2 (some .long) 1 22 G ad (cM G ad S) [.ref (ad 0), .int n] (some (.long (V_charged S n))) := by
  unfold V_charged
  by_cases h : f_X2_isOwner n = 0
  · rw [if_pos h]; exact c_X3_charged_out l G ad S hI.wf h
  · rw [if_neg h]
    obtain ⟨j, -, hj, rfl⟩ := within_nI (a := 0) (b := 9) (by decide) (by decide) h
    rw [show ix (nI j) = j from nI_clamp (by omega)]
    exact c_X3_charged l G ad S hI.wf (Nat.lt_succ_of_le hj)
theorem cl_X2_pass (l : Launch) (G : GG) (ad : Nat → Nat) (S : St) (E : Ex) (hI : INV S E) (x : Int32) : MW l yX2_pass cX2_pass 2 (some .int) 1 22 0 0 G ad (cX G ad S E) [.ref (ad 0), .int x] (some (.int (f_X3_pass S x).1)) (fun ad' => cX G ad' (f_X3_pass S x).2 E) (fun ad' => ad' = ad) := c_X2_pass l G ad S E hI.wf x
theorem cl_X3_pass (l : Launch) (G : GG) (ad : Nat → Nat) (S : St) (E : Ex) (hI : INV S E) (x : Int32) : MW l yX3_pass cX3_pass 2 (some .int) 1 22 0 0 G ad (cM G ad S) [.ref (ad 0), .int x] (some (.int (f_X3_pass S x).1)) (fun ad' => cM G ad' (f_X3_pass S x).2) (fun ad' => ad' = ad) := c_X3_pass l G ad S hI.wf x
theorem cl_X2_thing (l : Launch) (G : GG) (ad : Nat → Nat) (S : St) (E : Ex) (hI : INV S E) (x y z u : Int32) : MW l yX2_thing cX2_thing 6 (some .int) 2 42 2 13 G ad (cX G ad S E) [.ref (ad 0), .int x, .int y, .int z, .int u] (some (.int (f_X3_thing S x y z u).1)) (fun ad' => cX G ad' (f_X3_thing S x y z u).2 E) (fun ad' => ad' 0 = ad 0) := by rw [← e_thing hI x y z u]; exact c_X2_thing l G ad S E hI.wf hI.zt x y z u
theorem cl_X3_thing (l : Launch) (G : GG) (ad : Nat → Nat) (S : St) (E : Ex) (hI : INV S E) (x y z u : Int32) : MW l yX3_thing cX3_thing 5 (some .int) 1 22 0 0 G ad (cM G ad S) [.ref (ad 0), .int x, .int y, .int z, .int u] (some (.int (f_X3_thing S x y z u).1)) (fun ad' => cM G ad' (f_X3_thing S x y z u).2) (fun ad' => ad' = ad) := c_X3_thing l G ad S hI.wf x y z u
def V_draw (S : St) (n : Int32) (x : Int32) : Int32 × St := if f_X2_isWithin n 0 (nI (nt S) - 1) = 0 then (-1, S) else f_X3_draw S (ix n) x
theorem cl_X2_draw (l : Launch) (G : GG) (ad : Nat → Nat) (S : St) (E : Ex) (hI : INV S E) (n : Int32) (x : Int32) : MW l yX2_draw cX2_draw 4 (some .int) 2 43 0 0 G ad (cX G ad S E) [.ref (ad 0), .int n, .int x] (some (.int (V_draw S n x).1)) (fun ad' => cX G ad' (V_draw S n x).2 E) (fun ad' => ad' = ad) := by
  unfold V_draw
  by_cases h : f_X2_isWithin n 0 (nI (nt S) - 1) = 0
  · rw [if_pos h]; exact c_X2_draw_out l G ad S E hI.wf (outT_of hI.wf h) x
  · rw [if_neg h]
    obtain ⟨j, hj, rfl⟩ := inT_of hI.wf h
    rw [ix_nI hj (Nat.lt_of_le_of_lt hI.wf.t (by decide))]
    rw [← e_draw hI hj x]
    exact c_X2_draw l G ad S E hI.wf hj x
theorem cl_X3_draw (l : Launch) (G : GG) (ad : Nat → Nat) (S : St) (E : Ex) (hI : INV S E) (n : Int32) (x : Int32) : MW l yX3_draw cX3_draw 3 (some .int) 2 43 0 0 G ad (cM G ad S) [.ref (ad 0), .int n, .int x] (some (.int (V_draw S n x).1)) (fun ad' => cM G ad' (V_draw S n x).2) (fun ad' => ad' = ad) := by
  unfold V_draw
  by_cases h : f_X2_isWithin n 0 (nI (nt S) - 1) = 0
  · rw [if_pos h]; exact c_X3_draw_out l G ad S hI.wf (outT_of hI.wf h) x
  · rw [if_neg h]
    obtain ⟨j, hj, rfl⟩ := inT_of hI.wf h
    rw [ix_nI hj (Nat.lt_of_le_of_lt hI.wf.t (by decide))]
    exact c_X3_draw l G ad S hI.wf hj x
def V_move (S : St) (n : Int32) (x : Int32) : Int32 × St := if f_X2_isWithin n 0 (nI (nt S) - 1) = 0 then (-1, S) else f_X3_move S (ix n) x
theorem cl_X2_move (l : Launch) (G : GG) (ad : Nat → Nat) (S : St) (E : Ex) (hI : INV S E) (n : Int32) (x : Int32) : MW l yX2_move cX2_move 5 (some .int) 2 43 0 0 G ad (cX G ad S E) [.ref (ad 0), .int n, .int x] (some (.int (V_move S n x).1)) (fun ad' => cX G ad' (V_move S n x).2 E) (fun ad' => ad' = ad) := by
  unfold V_move
  by_cases h : f_X2_isWithin n 0 (nI (nt S) - 1) = 0
  · rw [if_pos h]; exact c_X2_move_out l G ad S E hI.wf (outT_of hI.wf h) x
  · rw [if_neg h]
    obtain ⟨j, hj, rfl⟩ := inT_of hI.wf h
    rw [ix_nI hj (Nat.lt_of_le_of_lt hI.wf.t (by decide))]
    rw [← e_move hI hj x]
    exact c_X2_move l G ad S E hI.wf hj x
theorem cl_X3_move (l : Launch) (G : GG) (ad : Nat → Nat) (S : St) (E : Ex) (hI : INV S E) (n : Int32) (x : Int32) : MW l yX3_move cX3_move 4 (some .int) 2 43 0 0 G ad (cM G ad S) [.ref (ad 0), .int n, .int x] (some (.int (V_move S n x).1)) (fun ad' => cM G ad' (V_move S n x).2) (fun ad' => ad' = ad) := by
  unfold V_move
  by_cases h : f_X2_isWithin n 0 (nI (nt S) - 1) = 0
  · rw [if_pos h]; exact c_X3_move_out l G ad S hI.wf (outT_of hI.wf h) x
  · rw [if_neg h]
    obtain ⟨j, hj, rfl⟩ := inT_of hI.wf h
    rw [ix_nI hj (Nat.lt_of_le_of_lt hI.wf.t (by decide))]
    exact c_X3_move l G ad S hI.wf hj x
def V_charge (S : St) (n : Int32) : Int32 × St := if f_X2_isWithin n 0 (nI (nt S) - 1) = 0 then (-1, S) else f_X3_charge S (ix n) 
theorem cl_X2_charge (l : Launch) (G : GG) (ad : Nat → Nat) (S : St) (E : Ex) (hI : INV S E) (n : Int32) : MW l yX2_charge cX2_charge 7 (some .int) 3 68 0 0 G ad (cX G ad S E) [.ref (ad 0), .int n] (some (.int (V_charge S n ).1)) (fun ad' => cX G ad' (V_charge S n ).2 E) (fun ad' => ad' = ad) := by
  unfold V_charge
  by_cases h : f_X2_isWithin n 0 (nI (nt S) - 1) = 0
  · rw [if_pos h]; exact c_X2_charge_out l G ad S E hI.wf (outT_of hI.wf h) 
  · rw [if_neg h]
    obtain ⟨j, hj, rfl⟩ := inT_of hI.wf h
    rw [ix_nI hj (Nat.lt_of_le_of_lt hI.wf.t (by decide))]
    rw [← e_charge hI hj ]
    exact c_X2_charge l G ad S E hI.wf hj 
theorem cl_X3_charge (l : Launch) (G : GG) (ad : Nat → Nat) (S : St) (E : Ex) (hI : INV S E) (n : Int32) : MW l yX3_charge cX3_charge 6 (some .int) 2 47 0 0 G ad (cM G ad S) [.ref (ad 0), .int n] (some (.int (V_charge S n ).1)) (fun ad' => cM G ad' (V_charge S n ).2) (fun ad' => ad' = ad) := by
  unfold V_charge
  by_cases h : f_X2_isWithin n 0 (nI (nt S) - 1) = 0
  · rw [if_pos h]; exact c_X3_charge_out l G ad S hI.wf (outT_of hI.wf h) 
  · rw [if_neg h]
    obtain ⟨j, hj, rfl⟩ := inT_of hI.wf h
    rw [ix_nI hj (Nat.lt_of_le_of_lt hI.wf.t (by decide))]
    exact c_X3_charge l G ad S hI.wf hj 
def V_allow (S : St) (n b x : Int32) : Int32 × St := if f_X2_isWithin n 1 3 = 0 then (-2, S) else f_X3_allow S (ix n) b x
theorem cl_X2_allow (l : Launch) (G : GG) (ad : Nat → Nat) (S : St) (E : Ex) (hI : INV S E) (n b x : Int32) : MW l yX2_allow cX2_allow 6 (some .int) 1 22 0 0 G ad (cX G ad S E) [.ref (ad 0), .int n, .int b, .int x] (some (.int (V_allow S n b x).1)) (fun ad' => cX G ad' (V_allow S n b x).2 E) (fun ad' => ad' = ad) := by
  unfold V_allow
  by_cases h : f_X2_isWithin n 1 3 = 0
  · rw [if_pos h]; exact c_X2_allow_out l G ad S E hI.wf h b x
  · rw [if_neg h]
    obtain ⟨j, h1, h3, rfl⟩ := within_nI (a := 1) (b := 3) (by decide) (by decide) h
    rw [show ix (nI j) = j from nI_clamp (by omega)]
    rw [← e_allow h1 b x]
    exact c_X2_allow l G ad S E hI.wf h1 h3 b x
theorem cl_X3_allow (l : Launch) (G : GG) (ad : Nat → Nat) (S : St) (E : Ex) (hI : INV S E) (n b x : Int32) : MW l yX3_allow cX3_allow 5 (some .int) 1 22 0 0 G ad (cM G ad S) [.ref (ad 0), .int n, .int b, .int x] (some (.int (V_allow S n b x).1)) (fun ad' => cM G ad' (V_allow S n b x).2) (fun ad' => ad' = ad) := by
  unfold V_allow
  by_cases h : f_X2_isWithin n 1 3 = 0
  · rw [if_pos h]; exact c_X3_allow_out l G ad S hI.wf h b x
  · rw [if_neg h]
    obtain ⟨j, h1, h3, rfl⟩ := within_nI (a := 1) (b := 3) (by decide) (by decide) h
    rw [show ix (nI j) = j from nI_clamp (by omega)]
    exact c_X3_allow l G ad S hI.wf h1 h3 b x
def V_trial (S : St) (n y x z : Int32) : Int32 × St := if f_X2_isWithin n 0 (nI (nt S) - 1) = 0 then (-1, S) else if f_X2_isWithin y 0 (nI (nt S) - 1) = 0 then (-1, S) else f_X3_trial S (ix n) (ix y) x z
theorem cl_X3_trial (l : Launch) (G : GG) (ad : Nat → Nat) (S : St) (E : Ex) (hI : INV S E) (n y x z : Int32) : MW l yX3_trial cX3_trial 10 (some .int) 2 43 0 0 G ad (cM G ad S) [.ref (ad 0), .int n, .int y, .int x, .int z] (some (.int (V_trial S n y x z).1)) (fun ad' => cM G ad' (V_trial S n y x z).2) (fun ad' => ad' = ad) := by
  unfold V_trial
  by_cases h : f_X2_isWithin n 0 (nI (nt S) - 1) = 0
  · rw [if_pos h]; exact c_X3_trial_out l G ad S hI.wf (outT_of hI.wf h) y x z
  · rw [if_neg h]
    obtain ⟨j, hj, rfl⟩ := inT_of hI.wf h
    rw [ix_nI hj (Nat.lt_of_le_of_lt hI.wf.t (by decide))]
    by_cases h2 : f_X2_isWithin y 0 (nI (nt S) - 1) = 0
    · rw [if_pos h2]; exact c_X3_trial_out2 l G ad S hI.wf hj (outT_of hI.wf h2) x z
    · rw [if_neg h2]
      obtain ⟨k, hk, rfl⟩ := inT_of hI.wf h2
      rw [ix_nI hk (Nat.lt_of_le_of_lt hI.wf.t (by decide))]
      exact c_X3_trial l G ad S hI.wf hI.wb hj hk x z
theorem cl_X2_trial (l : Launch) (G : GG) (ad : Nat → Nat) (S : St) (E : Ex) (hI : INV S E) (n y x z : Int32) : MW l yX2_trial cX2_trial 11 (some .int) 7 200 1 10 G ad (cX G ad S E) [.ref (ad 0), .int n, .int y, .int x, .int z] (some (.int (V_trial S n y x z).1)) (fun ad' => cX G ad' (V_trial S n y x z).2 E) (fun ad' => ad' 0 = ad 0) := by
  unfold V_trial
  by_cases h : f_X2_isWithin n 0 (nI (nt S) - 1) = 0
  · rw [if_pos h]
    by_cases h2 : f_X2_isWithin y 0 (nI (nt S) - 1) = 0
    · exact c_X2_trial_out l G ad S E hI.wf (outT_of hI.wf h) (outT_of hI.wf h2) x z
    · obtain ⟨k, hk, rfl⟩ := inT_of hI.wf h2
      exact c_X2_trial_out1 l G ad S E hI.wf (outT_of hI.wf h) hk x z
  · rw [if_neg h]
    obtain ⟨j, hj, rfl⟩ := inT_of hI.wf h
    rw [ix_nI hj (Nat.lt_of_le_of_lt hI.wf.t (by decide))]
    by_cases h2 : f_X2_isWithin y 0 (nI (nt S) - 1) = 0
    · rw [if_pos h2]; exact c_X2_trial_out2 l G ad S E hI.wf hj (outT_of hI.wf h2) x z
    · rw [if_neg h2]
      obtain ⟨k, hk, rfl⟩ := inT_of hI.wf h2
      rw [ix_nI hk (Nat.lt_of_le_of_lt hI.wf.t (by decide))]
      rw [← e_trial hI hj hk x z]
      exact c_X2_trial l G ad S E hI.wf hI.wb hI.zr hj hk x z
def V_seal (S : St) (n x : Int32) : Int32 × St := if f_X2_isWithin n 0 (nI (nt S) - 1) = 0 then (-1, S) else if f_X2_isSealNumber x = 0 then (-2, S) else f_X3_seal S (ix n) (ix x)
def V_sealE (S : St) (E : Ex) (n x : Int32) : Ex := if f_X2_isWithin n 0 (nI (nt S) - 1) = 0 then E else if f_X2_isSealNumber x = 0 then E else (f_X2_seal S E (ix n) (ix x)).2.2
theorem cl_X3_seal (l : Launch) (G : GG) (ad : Nat → Nat) (S : St) (E : Ex) (hI : INV S E) (n x : Int32) : MW l yX3_seal cX3_seal 3 (some .int) 2 47 0 0 G ad (cM G ad S) [.ref (ad 0), .int n, .int x] (some (.int (V_seal S n x).1)) (fun ad' => cM G ad' (V_seal S n x).2) (fun ad' => ad' = ad) := by
  unfold V_seal
  by_cases h : f_X2_isWithin n 0 (nI (nt S) - 1) = 0
  · rw [if_pos h]; exact c_X3_seal_out l G ad S hI.wf (outT_of hI.wf h) x
  · rw [if_neg h]
    obtain ⟨j, hj, rfl⟩ := inT_of hI.wf h
    rw [ix_nI hj (Nat.lt_of_le_of_lt hI.wf.t (by decide))]
    by_cases h2 : f_X2_isSealNumber x = 0
    · rw [if_pos h2]; exact c_X3_seal_far l G ad S hI.wf hj h2
    · rw [if_neg h2]
      obtain ⟨k, h1, hk, rfl⟩ := within_nI (a := 1) (b := 9999) (by decide) (by decide) h2
      rw [show ix (nI k) = k from nI_clamp (by omega)]
      exact c_X3_seal l G ad S hI.wf hj h1 (Nat.lt_succ_of_le hk)
theorem cl_X2_seal (l : Launch) (G : GG) (ad : Nat → Nat) (S : St) (E : Ex) (hI : INV S E) (n x : Int32) : MW l yX2_seal cX2_seal 4 (some .int) 3 68 0 0 G ad (cX G ad S E) [.ref (ad 0), .int n, .int x] (some (.int (V_seal S n x).1)) (fun ad' => cX G ad' (V_seal S n x).2 (V_sealE S E n x)) (fun ad' => ad' = ad) := by
  unfold V_seal V_sealE
  by_cases h : f_X2_isWithin n 0 (nI (nt S) - 1) = 0
  · rw [if_pos h, if_pos h]; exact c_X2_seal_out l G ad S E hI.wf (outT_of hI.wf h) x
  · rw [if_neg h, if_neg h]
    obtain ⟨j, hj, rfl⟩ := inT_of hI.wf h
    rw [ix_nI hj (Nat.lt_of_le_of_lt hI.wf.t (by decide))]
    by_cases h2 : f_X2_isSealNumber x = 0
    · rw [if_pos h2, if_pos h2]; exact c_X2_seal_far l G ad S E hI.wf hj h2
    · rw [if_neg h2, if_neg h2]
      obtain ⟨k, h1, hk, rfl⟩ := within_nI (a := 1) (b := 9999) (by decide) (by decide) h2
      rw [show ix (nI k) = k from nI_clamp (by omega)]
      have hM := c_X2_seal l G ad S E hI.wf hj h1 (Nat.lt_succ_of_le hk)
      obtain ⟨ev, ep⟩ := e_seal hI hj h1 (Nat.lt_succ_of_le hk)
      rw [← ev, show (fun ad1 => cX G ad1 (f_X3_seal S j k).2 (f_X2_seal S E j k).2.2) = (fun ad1 => cX G ad1 (f_X2_seal S E j k).2.1 (f_X2_seal S E j k).2.2) from funext (fun ad1 => funext (fun i => (ep G ad1 i).symm))]
      exact hM
theorem cl_X2_first (l : Launch) (G : GG) (ad : Nat → Nat) (S : St) (E : Ex) (hI : INV S E) (x : Int32) : MW l yX2_first cX2_first 3 (some .int) 5 110 0 0 G ad (cX G ad S E) [.ref (ad 0), .int x] (some (.int (f_X3_first S x))) (fun ad' => cX G ad' S (f_X2_first S E x).2) (fun ad' => ad' = ad) := by
  rw [← e_first hI x]; exact c_X2_first l G ad S E hI.wf x
