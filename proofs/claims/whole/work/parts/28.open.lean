theorem e_about {S : St} {E : Ex} (hI : INV S E) {i : Nat} (hi : i < nt S) {x : Int32} : f_X2_about S i x = f_X3_about S i x := by sorry
theorem e_error {S : St} {E : Ex} (hI : INV S E) {i : Nat} (hi : i < nt S) : f_X2_error S i = f_X3_error S i := by sorry
theorem e_span {S : St} {E : Ex} (hI : INV S E) {i : Nat} (hi : i < nt S) : f_X2_span S i = f_X3_span S i := by sorry
theorem e_settled {S : St} {E : Ex} (hI : INV S E) {i : Nat} (hi : i < nt S) : f_X2_settled S i = f_X3_settled S i := by sorry
theorem e_due {S : St} {E : Ex} (hI : INV S E) {i : Nat} (hi : i < nt S) : f_X2_due S i = f_X3_due S i := by sorry
theorem e_left {S : St} {E : Ex} (hI : INV S E) {i : Nat} (hi : i < nt S) : f_X2_left S i = f_X3_left S i := by sorry
theorem e_judge {S : St} {E : Ex} (hI : INV S E) {i : Nat} (hi : i < nt S) : f_X2_judge S i = f_X3_judge S i := by sorry
theorem e_stays {S : St} {E : Ex} (hI : INV S E) {i : Nat} (hi : i < nt S) : f_X2_stays S i = f_X3_stays S i := by sorry
theorem e_told {S : St} {E : Ex} (hI : INV S E) {n : Nat} (hn : n < nr S) {x : Int32} : f_X2_told S n x = f_X3_told S n x := by sorry
theorem e_chain {S : St} {E : Ex} (hI : INV S E) {i : Nat} (hi : i < nt S) {c : Nat} (hc : c < 300) : f_X2_chain S i c = f_X3_chain S i c := by sorry
theorem e_chainfar {S : St} {E : Ex} (hI : INV S E) {i : Nat} (hi : i < nt S) {c : Nat} (hc : 300 ≤ c) : f_X3_chain S i c = -1000000 := by sorry
theorem e_unsettled (S : St) : f_X2_unsettled S = f_X3_unsettled S := by sorry
theorem e_count {S : St} {E : Ex} (hI : INV S E) (x : Int32) : f_X2_count S x = f_X3_count S x := by sorry
theorem e_sealed (S : St) (x : Int32) : f_X2_sealed S x = f_X3_sealed S x := by sorry
theorem e_thing {S : St} {E : Ex} (hI : INV S E) (x y z u : Int32) : f_X2_thing S x y z u = f_X3_thing S x y z u := by sorry
theorem e_draw {S : St} {E : Ex} (hI : INV S E) {i : Nat} (hi : i < nt S) (x : Int32) : f_X2_draw S i x = f_X3_draw S i x := by sorry
theorem e_move {S : St} {E : Ex} (hI : INV S E) {i : Nat} (hi : i < nt S) (x : Int32) : f_X2_move S i x = f_X3_move S i x := by sorry
theorem e_charge {S : St} {E : Ex} (hI : INV S E) {i : Nat} (hi : i < nt S) : f_X2_charge S i = f_X3_charge S i := by sorry
theorem e_allow {S : St} {k : Nat} (h1 : 1 ≤ k) (b x : Int32) : f_X2_allow S k b x = f_X3_allow S k b x := by sorry
theorem e_trial {S : St} {E : Ex} (hI : INV S E) {i k : Nat} (hi : i < nt S) (hk : k < nt S) (x z : Int32) : f_X2_trial S i k x z = f_X3_trial S i k x z := by sorry
theorem e_seal {S : St} {E : Ex} (hI : INV S E) {i : Nat} (hi : i < nt S) {k : Nat} (h1 : 1 ≤ k) (hk : k < 10000) : (f_X2_seal S E i k).1 = (f_X3_seal S i k).1 ∧ ∀ (G : GG) (ad : Nat → Nat) (j : Nat), cX G ad (f_X2_seal S E i k).2.1 (f_X2_seal S E i k).2.2 j = cX G ad (f_X3_seal S i k).2 (f_X2_seal S E i k).2.2 j := by sorry
theorem e_first {S : St} {E : Ex} (hI : INV S E) (x : Int32) : (f_X2_first S E x).1 = f_X3_first S x := by sorry
theorem i_0 : INV S0 E0 := by sorry
theorem i_pass {S : St} {E : Ex} (hI : INV S E) (x : Int32) : INV (f_X3_pass S x).2 E := by sorry
theorem i_thing {S : St} {E : Ex} (hI : INV S E) (x y z u : Int32) : INV (f_X3_thing S x y z u).2 E := by sorry
theorem i_draw {S : St} {E : Ex} (hI : INV S E) {i : Nat} (hi : i < nt S) (x : Int32) : INV (f_X3_draw S i x).2 E := by sorry
theorem i_move {S : St} {E : Ex} (hI : INV S E) {i : Nat} (hi : i < nt S) (x : Int32) : INV (f_X3_move S i x).2 E := by sorry
theorem i_charge {S : St} {E : Ex} (hI : INV S E) {i : Nat} (hi : i < nt S) : INV (f_X3_charge S i).2 E := by sorry
theorem i_allow {S : St} {E : Ex} (hI : INV S E) {k : Nat} (h1 : 1 ≤ k) (h3 : k ≤ 3) (b x : Int32) : INV (f_X3_allow S k b x).2 E := by sorry
theorem i_trial {S : St} {E : Ex} (hI : INV S E) {i k : Nat} (hi : i < nt S) (hk : k < nt S) (x z : Int32) : INV (f_X3_trial S i k x z).2 E := by sorry
theorem i_seal {S : St} {E : Ex} (hI : INV S E) {i : Nat} (hi : i < nt S) {k : Nat} (h1 : 1 ≤ k) (hk : k < 10000) : INV (f_X3_seal S i k).2 (f_X2_seal S E i k).2.2 := by sorry
theorem i_first {S : St} {E : Ex} (hI : INV S E) (x : Int32) : INV S (f_X2_first S E x).2 := by sorry
