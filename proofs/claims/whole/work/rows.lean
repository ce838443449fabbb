section
/-- a private method of a class that the tables say can be made, by its rows of tables_1 -/
def lw_okq (q : MethodName × Nat) : Prop := (q.1.cls ≠ "java/lang/invoke/MethodHandle" ∧ q.1.cls ≠ "java/lang/invoke/VarHandle") ∧ Cond.instantiable q.1.cls q.2 ∈ tables_1 ∧ Cond.privateMethod q.1 ∈ tables_1 ∧ Cond.instanceMethod q.1 ∈ tables_1
theorem lw_p0 : lw_okq (⟨"TrueWeights", "thingAt", "(I)LTrueWeights$Thing;"⟩, 13) := ⟨⟨by decide +kernel, by decide +kernel⟩, List.mem_of_getElem? (i := 7) (by decide +kernel), List.mem_of_getElem? (i := 123) (by decide +kernel), List.mem_of_getElem? (i := 124) (by decide +kernel)⟩
theorem lw_p1 : lw_okq (⟨"TrueWeights", "takeTrial", "(LTrueWeights$Thing;LTrueWeights$Trial;)V"⟩, 13) := ⟨⟨by decide +kernel, by decide +kernel⟩, List.mem_of_getElem? (i := 7) (by decide +kernel), List.mem_of_getElem? (i := 262) (by decide +kernel), List.mem_of_getElem? (i := 263) (by decide +kernel)⟩
theorem lw_p2 : lw_okq (⟨"TrueWeights", "unsettleAllBasedOn", "(LTrueWeights$Trial;)V"⟩, 13) := ⟨⟨by decide +kernel, by decide +kernel⟩, List.mem_of_getElem? (i := 7) (by decide +kernel), List.mem_of_getElem? (i := 278) (by decide +kernel), List.mem_of_getElem? (i := 279) (by decide +kernel)⟩
theorem lw_p3 : lw_okq (⟨"TrueWeights", "trialAt", "(I)LTrueWeights$Trial;"⟩, 13) := ⟨⟨by decide +kernel, by decide +kernel⟩, List.mem_of_getElem? (i := 7) (by decide +kernel), List.mem_of_getElem? (i := 282) (by decide +kernel), List.mem_of_getElem? (i := 283) (by decide +kernel)⟩
theorem lw_p4 : lw_okq (⟨"TrueWeights", "judgement", "(LTrueWeights$Thing;)I"⟩, 13) := ⟨⟨by decide +kernel, by decide +kernel⟩, List.mem_of_getElem? (i := 7) (by decide +kernel), List.mem_of_getElem? (i := 333) (by decide +kernel), List.mem_of_getElem? (i := 334) (by decide +kernel)⟩
theorem lw_p5 : lw_okq (⟨"TrueWeights", "allowanceFor", "(LTrueWeights$Thing;)I"⟩, 13) := ⟨⟨by decide +kernel, by decide +kernel⟩, List.mem_of_getElem? (i := 7) (by decide +kernel), List.mem_of_getElem? (i := 342) (by decide +kernel), List.mem_of_getElem? (i := 343) (by decide +kernel)⟩
theorem lw_p6 : lw_okq (⟨"TrueWeights", "wasPutOn", "(I)Z"⟩, 13) := ⟨⟨by decide +kernel, by decide +kernel⟩, List.mem_of_getElem? (i := 7) (by decide +kernel), List.mem_of_getElem? (i := 366) (by decide +kernel), List.mem_of_getElem? (i := 367) (by decide +kernel)⟩
theorem lw_p7 : lw_okq (⟨"TrueWeights", "markPutOn", "(I)V"⟩, 13) := ⟨⟨by decide +kernel, by decide +kernel⟩, List.mem_of_getElem? (i := 7) (by decide +kernel), List.mem_of_getElem? (i := 370) (by decide +kernel), List.mem_of_getElem? (i := 371) (by decide +kernel)⟩
theorem lw_p8 : lw_okq (⟨"TrueWeights", "rankThings", "()I"⟩, 13) := ⟨⟨by decide +kernel, by decide +kernel⟩, List.mem_of_getElem? (i := 7) (by decide +kernel), List.mem_of_getElem? (i := 392) (by decide +kernel), List.mem_of_getElem? (i := 393) (by decide +kernel)⟩
theorem lw_p9 : lw_okq (⟨"TrueWeights", "urgencyOf", "(LTrueWeights$Thing;)J"⟩, 13) := ⟨⟨by decide +kernel, by decide +kernel⟩, List.mem_of_getElem? (i := 7) (by decide +kernel), List.mem_of_getElem? (i := 396) (by decide +kernel), List.mem_of_getElem? (i := 397) (by decide +kernel)⟩
theorem lw_p10 : lw_okq (⟨"TrueWeights", "rankBehind", "(IIJ)V"⟩, 13) := ⟨⟨by decide +kernel, by decide +kernel⟩, List.mem_of_getElem? (i := 7) (by decide +kernel), List.mem_of_getElem? (i := 403) (by decide +kernel), List.mem_of_getElem? (i := 404) (by decide +kernel)⟩
theorem lw_p11 : lw_okq (⟨"TrueWeights", "howManyDue", "()I"⟩, 13) := ⟨⟨by decide +kernel, by decide +kernel⟩, List.mem_of_getElem? (i := 7) (by decide +kernel), List.mem_of_getElem? (i := 411) (by decide +kernel), List.mem_of_getElem? (i := 412) (by decide +kernel)⟩
theorem lw_p12 : lw_okq (⟨"TrueWeights", "howManyJudged", "(I)I"⟩, 13) := ⟨⟨by decide +kernel, by decide +kernel⟩, List.mem_of_getElem? (i := 7) (by decide +kernel), List.mem_of_getElem? (i := 415) (by decide +kernel), List.mem_of_getElem? (i := 416) (by decide +kernel)⟩
theorem lw_p13 : lw_okq (⟨"TrueWeightsModel", "isThing", "(I)Z"⟩, 28) := ⟨⟨by decide +kernel, by decide +kernel⟩, List.mem_of_getElem? (i := 419) (by decide +kernel), List.mem_of_getElem? (i := 527) (by decide +kernel), List.mem_of_getElem? (i := 528) (by decide +kernel)⟩
theorem lw_p14 : lw_okq (⟨"TrueWeightsModel", "isTool", "(I)Z"⟩, 28) := ⟨⟨by decide +kernel, by decide +kernel⟩, List.mem_of_getElem? (i := 419) (by decide +kernel), List.mem_of_getElem? (i := 545) (by decide +kernel), List.mem_of_getElem? (i := 546) (by decide +kernel)⟩
theorem lw_p15 : lw_okq (⟨"TrueWeightsModel", "settledNow", "(I)Z"⟩, 28) := ⟨⟨by decide +kernel, by decide +kernel⟩, List.mem_of_getElem? (i := 419) (by decide +kernel), List.mem_of_getElem? (i := 553) (by decide +kernel), List.mem_of_getElem? (i := 554) (by decide +kernel)⟩
def lw_privs_1 : List (MethodName × Nat) := [(⟨"TrueWeights", "thingAt", "(I)LTrueWeights$Thing;"⟩, 13), (⟨"TrueWeights", "takeTrial", "(LTrueWeights$Thing;LTrueWeights$Trial;)V"⟩, 13), (⟨"TrueWeights", "unsettleAllBasedOn", "(LTrueWeights$Trial;)V"⟩, 13), (⟨"TrueWeights", "trialAt", "(I)LTrueWeights$Trial;"⟩, 13), (⟨"TrueWeights", "judgement", "(LTrueWeights$Thing;)I"⟩, 13), (⟨"TrueWeights", "allowanceFor", "(LTrueWeights$Thing;)I"⟩, 13), (⟨"TrueWeights", "wasPutOn", "(I)Z"⟩, 13), (⟨"TrueWeights", "markPutOn", "(I)V"⟩, 13), (⟨"TrueWeights", "rankThings", "()I"⟩, 13), (⟨"TrueWeights", "urgencyOf", "(LTrueWeights$Thing;)J"⟩, 13), (⟨"TrueWeights", "rankBehind", "(IIJ)V"⟩, 13), (⟨"TrueWeights", "howManyDue", "()I"⟩, 13), (⟨"TrueWeights", "howManyJudged", "(I)I"⟩, 13), (⟨"TrueWeightsModel", "isThing", "(I)Z"⟩, 28), (⟨"TrueWeightsModel", "isTool", "(I)Z"⟩, 28), (⟨"TrueWeightsModel", "settledNow", "(I)Z"⟩, 28)]
theorem lw_r1 : ∀ q ∈ lw_privs_1, lw_okq q := List.forall_mem_cons.mpr ⟨lw_p0, List.forall_mem_cons.mpr ⟨lw_p1, List.forall_mem_cons.mpr ⟨lw_p2, List.forall_mem_cons.mpr ⟨lw_p3, List.forall_mem_cons.mpr ⟨lw_p4, List.forall_mem_cons.mpr ⟨lw_p5, List.forall_mem_cons.mpr ⟨lw_p6, List.forall_mem_cons.mpr ⟨lw_p7, List.forall_mem_cons.mpr ⟨lw_p8, List.forall_mem_cons.mpr ⟨lw_p9, List.forall_mem_cons.mpr ⟨lw_p10, List.forall_mem_cons.mpr ⟨lw_p11, List.forall_mem_cons.mpr ⟨lw_p12, List.forall_mem_cons.mpr ⟨lw_p13, List.forall_mem_cons.mpr ⟨lw_p14, List.forall_mem_cons.mpr ⟨lw_p15, fun _ h => absurd h List.not_mem_nil⟩⟩⟩⟩⟩⟩⟩⟩⟩⟩⟩⟩⟩⟩⟩⟩
theorem lw_p16 : lw_okq (⟨"TrueWeightsModel", "dueNow", "(I)Z"⟩, 28) := ⟨⟨by decide +kernel, by decide +kernel⟩, List.mem_of_getElem? (i := 419) (by decide +kernel), List.mem_of_getElem? (i := 557) (by decide +kernel), List.mem_of_getElem? (i := 558) (by decide +kernel)⟩
theorem lw_p17 : lw_okq (⟨"TrueWeightsModel", "errorOf", "(I)I"⟩, 28) := ⟨⟨by decide +kernel, by decide +kernel⟩, List.mem_of_getElem? (i := 419) (by decide +kernel), List.mem_of_getElem? (i := 561) (by decide +kernel), List.mem_of_getElem? (i := 562) (by decide +kernel)⟩
theorem lw_p18 : lw_okq (⟨"TrueWeightsModel", "middle", "(I)I"⟩, 28) := ⟨⟨by decide +kernel, by decide +kernel⟩, List.mem_of_getElem? (i := 419) (by decide +kernel), List.mem_of_getElem? (i := 565) (by decide +kernel), List.mem_of_getElem? (i := 566) (by decide +kernel)⟩
theorem lw_p19 : lw_okq (⟨"TrueWeightsModel", "spanOn", "(II)I"⟩, 28) := ⟨⟨by decide +kernel, by decide +kernel⟩, List.mem_of_getElem? (i := 419) (by decide +kernel), List.mem_of_getElem? (i := 569) (by decide +kernel), List.mem_of_getElem? (i := 570) (by decide +kernel)⟩
theorem lw_p20 : lw_okq (⟨"TrueWeightsModel", "range", "(I)I"⟩, 28) := ⟨⟨by decide +kernel, by decide +kernel⟩, List.mem_of_getElem? (i := 419) (by decide +kernel), List.mem_of_getElem? (i := 573) (by decide +kernel), List.mem_of_getElem? (i := 574) (by decide +kernel)⟩
theorem lw_p21 : lw_okq (⟨"TrueWeightsModel", "unsettle", "(I)V"⟩, 28) := ⟨⟨by decide +kernel, by decide +kernel⟩, List.mem_of_getElem? (i := 419) (by decide +kernel), List.mem_of_getElem? (i := 577) (by decide +kernel), List.mem_of_getElem? (i := 578) (by decide +kernel)⟩
theorem lw_p22 : lw_okq (⟨"TrueWeightsModel", "judgedOn", "(II)I"⟩, 28) := ⟨⟨by decide +kernel, by decide +kernel⟩, List.mem_of_getElem? (i := 419) (by decide +kernel), List.mem_of_getElem? (i := 617) (by decide +kernel), List.mem_of_getElem? (i := 618) (by decide +kernel)⟩
theorem lw_p23 : lw_okq (⟨"TrueWeightsModel", "allowance", "(I)I"⟩, 28) := ⟨⟨by decide +kernel, by decide +kernel⟩, List.mem_of_getElem? (i := 419) (by decide +kernel), List.mem_of_getElem? (i := 621) (by decide +kernel), List.mem_of_getElem? (i := 622) (by decide +kernel)⟩
theorem lw_p24 : lw_okq (⟨"TrueWeightsModel", "isAhead", "(II)Z"⟩, 28) := ⟨⟨by decide +kernel, by decide +kernel⟩, List.mem_of_getElem? (i := 419) (by decide +kernel), List.mem_of_getElem? (i := 650) (by decide +kernel), List.mem_of_getElem? (i := 651) (by decide +kernel)⟩
theorem lw_p25 : lw_okq (⟨"TrueWeightsModel", "group", "(I)I"⟩, 28) := ⟨⟨by decide +kernel, by decide +kernel⟩, List.mem_of_getElem? (i := 419) (by decide +kernel), List.mem_of_getElem? (i := 654) (by decide +kernel), List.mem_of_getElem? (i := 655) (by decide +kernel)⟩
theorem lw_p26 : lw_okq (⟨"TrueWeightsModel", "weight", "(I)I"⟩, 28) := ⟨⟨by decide +kernel, by decide +kernel⟩, List.mem_of_getElem? (i := 419) (by decide +kernel), List.mem_of_getElem? (i := 658) (by decide +kernel), List.mem_of_getElem? (i := 659) (by decide +kernel)⟩
def lw_privs_2 : List (MethodName × Nat) := [(⟨"TrueWeightsModel", "dueNow", "(I)Z"⟩, 28), (⟨"TrueWeightsModel", "errorOf", "(I)I"⟩, 28), (⟨"TrueWeightsModel", "middle", "(I)I"⟩, 28), (⟨"TrueWeightsModel", "spanOn", "(II)I"⟩, 28), (⟨"TrueWeightsModel", "range", "(I)I"⟩, 28), (⟨"TrueWeightsModel", "unsettle", "(I)V"⟩, 28), (⟨"TrueWeightsModel", "judgedOn", "(II)I"⟩, 28), (⟨"TrueWeightsModel", "allowance", "(I)I"⟩, 28), (⟨"TrueWeightsModel", "isAhead", "(II)Z"⟩, 28), (⟨"TrueWeightsModel", "group", "(I)I"⟩, 28), (⟨"TrueWeightsModel", "weight", "(I)I"⟩, 28)]
theorem lw_r2 : ∀ q ∈ lw_privs_2, lw_okq q := List.forall_mem_cons.mpr ⟨lw_p16, List.forall_mem_cons.mpr ⟨lw_p17, List.forall_mem_cons.mpr ⟨lw_p18, List.forall_mem_cons.mpr ⟨lw_p19, List.forall_mem_cons.mpr ⟨lw_p20, List.forall_mem_cons.mpr ⟨lw_p21, List.forall_mem_cons.mpr ⟨lw_p22, List.forall_mem_cons.mpr ⟨lw_p23, List.forall_mem_cons.mpr ⟨lw_p24, List.forall_mem_cons.mpr ⟨lw_p25, List.forall_mem_cons.mpr ⟨lw_p26, fun _ h => absurd h List.not_mem_nil⟩⟩⟩⟩⟩⟩⟩⟩⟩⟩⟩
def lw_privs : List (MethodName × Nat) := lw_privs_1 ++ (lw_privs_2)
def lw_tbl : List Cond := k2_sels lw_privs ++ tables_1
theorem lw_privs_ok : ∀ q ∈ lw_privs, lw_okq q := by
  show ∀ q ∈ lw_privs_1 ++ (lw_privs_2), lw_okq q
  exact List.forall_mem_append.mpr ⟨lw_r1, lw_r2⟩

def lw_use : List Cond := lw_tbl.filter goodWord
theorem lw_use_good {w : Cond} (h : w ∈ lw_use) : w ∈ lw_tbl ∧ goodWord w = true := List.mem_filter.mp h
theorem lw_use_at {w : Cond} (i : Nat) (h : lw_tbl[i]? = some w) (hg : goodWord w = true) : w ∈ lw_use := List.mem_filter.mpr ⟨List.mem_of_getElem? h, hg⟩
theorem lw_use_in : GoodIn lw_use lw_use := fun _ hw => ⟨hw, good_of_word (lw_use_good hw).2⟩
theorem lw_use_cons {c : Cond} (h : c ∈ lw_use) : GoodIn lw_use (c :: lw_use) := fun w hw => by
  rcases List.mem_cons.mp hw with e | e
  · subst e; exact lw_use_in _ h
  · exact lw_use_in _ e
end
section
def RX0 : String := "TrueWeights$Thing"
def TX0 : u_T := fun k => match k with
  | 0 => ("TrueWeights$Thing", "kind", "I", true)
  | 1 => ("TrueWeights$Thing", "drift", "I", true)
  | 2 => ("TrueWeights$Thing", "period", "I", true)
  | 3 => ("TrueWeights$Thing", "draws", "[I", true)
  | 4 => ("TrueWeights$Thing", "owner", "I", false)
  | 5 => ("TrueWeights$Thing", "drawCount", "I", false)
  | 6 => ("TrueWeights$Thing", "trialsMade", "I", false)
  | 7 => ("TrueWeights$Thing", "chargesMade", "I", false)
  | 8 => ("TrueWeights$Thing", "sealNumber", "I", false)
  | _ => ("TrueWeights$Thing", "latest", "LTrueWeights$Trial;", false)
def tyX0 : Nat → FieldType := fun k => match k with
  | 0 => .int
  | 1 => .int
  | 2 => .int
  | 3 => .array .int
  | 4 => .int
  | 5 => .int
  | 6 => .int
  | 7 => .int
  | 8 => .int
  | _ => .object "TrueWeights$Trial"
abbrev wsX00 : List Cond := u_ws RX0 TX0 10
theorem nmX0 : ∀ a, a < 10 → ∀ b, b < 10 → a ≠ b → (TX0 a).2.1 ≠ (TX0 b).2.1 := by decide +kernel
theorem tyX0_ok : ∀ k, k < 10 → parseFieldDescriptor (TX0 k).2.2.1 = some (tyX0 k) := by decide +kernel
abbrev cX0_init : ByteArray := prog_2_method_1_code
def yX0_init : MethodName := ⟨RX0, "<init>", "(IIII)V"⟩
abbrev cX0_isOfTrade : ByteArray := prog_2_method_2_code
def yX0_isOfTrade : MethodName := ⟨RX0, "isOfTrade", "()Z"⟩
abbrev cX0_hasAllDraws : ByteArray := prog_2_method_3_code
def yX0_hasAllDraws : MethodName := ⟨RX0, "hasAllDraws", "()Z"⟩
abbrev cX0_addDraw : ByteArray := prog_2_method_4_code
def yX0_addDraw : MethodName := ⟨RX0, "addDraw", "(I)I"⟩
abbrev cX0_leastDraw : ByteArray := prog_2_method_5_code
def yX0_leastDraw : MethodName := ⟨RX0, "leastDraw", "()I"⟩
abbrev cX0_greatestDraw : ByteArray := prog_2_method_6_code
def yX0_greatestDraw : MethodName := ⟨RX0, "greatestDraw", "()I"⟩
abbrev cX0_middleDraw : ByteArray := prog_2_method_7_code
def yX0_middleDraw : MethodName := ⟨RX0, "middleDraw", "()I"⟩
abbrev cX0_spreadOfDraws : ByteArray := prog_2_method_8_code
def yX0_spreadOfDraws : MethodName := ⟨RX0, "spreadOfDraws", "()I"⟩
abbrev cX0_isMeasured : ByteArray := prog_2_method_9_code
def yX0_isMeasured : MethodName := ⟨RX0, "isMeasured", "()Z"⟩
abbrev cX0_isSettledNow : ByteArray := prog_2_method_10_code
def yX0_isSettledNow : MethodName := ⟨RX0, "isSettledNow", "()Z"⟩
abbrev cX0_isDueOn : ByteArray := prog_2_method_11_code
def yX0_isDueOn : MethodName := ⟨RX0, "isDueOn", "(I)Z"⟩
abbrev cX0_daysUntilDue : ByteArray := prog_2_method_12_code
def yX0_daysUntilDue : MethodName := ⟨RX0, "daysUntilDue", "(I)I"⟩
abbrev cX0_canBeTried : ByteArray := prog_2_method_13_code
def yX0_canBeTried : MethodName := ⟨RX0, "canBeTried", "()Z"⟩
abbrev cX0_canTryOthers : ByteArray := prog_2_method_14_code
def yX0_canTryOthers : MethodName := ⟨RX0, "canTryOthers", "(I)Z"⟩
abbrev cX0_errorHeld : ByteArray := prog_2_method_15_code
def yX0_errorHeld : MethodName := ⟨RX0, "errorHeld", "()I"⟩
abbrev cX0_errorSize : ByteArray := prog_2_method_16_code
def yX0_errorSize : MethodName := ⟨RX0, "errorSize", "()I"⟩
abbrev cX0_spanOn : ByteArray := prog_2_method_17_code
def yX0_spanOn : MethodName := ⟨RX0, "spanOn", "(I)I"⟩
abbrev cX0_daysNoWiderThan : ByteArray := prog_2_method_18_code
def yX0_daysNoWiderThan : MethodName := ⟨RX0, "daysNoWiderThan", "(II)I"⟩
abbrev cX0_isWrongedBy : ByteArray := prog_2_method_19_code
def yX0_isWrongedBy : MethodName := ⟨RX0, "isWrongedBy", "(LTrueWeights$Trial;)Z"⟩
abbrev cX0_take : ByteArray := prog_2_method_20_code
def yX0_take : MethodName := ⟨RX0, "take", "(LTrueWeights$Trial;)V"⟩
def RX1 : String := "TrueWeights$Trial"
def TX1 : u_T := fun k => match k with
  | 0 => ("TrueWeights$Trial", "number", "I", true)
  | 1 => ("TrueWeights$Trial", "tried", "I", true)
  | 2 => ("TrueWeights$Trial", "master", "I", true)
  | 3 => ("TrueWeights$Trial", "base", "LTrueWeights$Trial;", true)
  | 4 => ("TrueWeights$Trial", "dayMade", "I", true)
  | 5 => ("TrueWeights$Trial", "errorTold", "I", true)
  | 6 => ("TrueWeights$Trial", "spanThen", "I", true)
  | 7 => ("TrueWeights$Trial", "isSettled", "Z", false)
  | 8 => ("TrueWeights$Trial", "foundWronged", "Z", false)
  | _ => ("TrueWeights$Trial", "isCharged", "Z", false)
def tyX1 : Nat → FieldType := fun k => match k with
  | 0 => .int
  | 1 => .int
  | 2 => .int
  | 3 => .object "TrueWeights$Trial"
  | 4 => .int
  | 5 => .int
  | 6 => .int
  | 7 => .boolean
  | 8 => .boolean
  | _ => .boolean
abbrev wsX10 : List Cond := u_ws RX1 TX1 10
theorem nmX1 : ∀ a, a < 10 → ∀ b, b < 10 → a ≠ b → (TX1 a).2.1 ≠ (TX1 b).2.1 := by decide +kernel
theorem tyX1_ok : ∀ k, k < 10 → parseFieldDescriptor (TX1 k).2.2.1 = some (tyX1 k) := by decide +kernel
abbrev cX1_init : ByteArray := prog_3_method_1_code
def yX1_init : MethodName := ⟨RX1, "<init>", "(IIILTrueWeights$Trial;III)V"⟩
abbrev cX1_isShakenBy : ByteArray := prog_3_method_2_code
def yX1_isShakenBy : MethodName := ⟨RX1, "isShakenBy", "(LTrueWeights$Trial;)Z"⟩
def RX2 : String := "TrueWeights"
def TX2 : u_T := fun k => match k with
  | 0 => ("TrueWeights", "things", "[LTrueWeights$Thing;", true)
  | 1 => ("TrueWeights", "trials", "[LTrueWeights$Trial;", true)
  | 2 => ("TrueWeights", "allowancesNew", "[I", true)
  | 3 => ("TrueWeights", "allowancesInUse", "[I", true)
  | 4 => ("TrueWeights", "chargesOfOwner", "[I", true)
  | 5 => ("TrueWeights", "sumOfOwner", "[J", true)
  | 6 => ("TrueWeights", "sealsPutOn", "[I", true)
  | 7 => ("TrueWeights", "ranking", "[I", true)
  | 8 => ("TrueWeights", "urgencies", "[J", true)
  | 9 => ("TrueWeights", "today", "I", false)
  | 10 => ("TrueWeights", "thingCount", "I", false)
  | 11 => ("TrueWeights", "trialCount", "I", false)
  | _ => ("TrueWeights", "chargeCount", "I", false)
def tyX2 : Nat → FieldType := fun k => match k with
  | 0 => .array (.object "TrueWeights$Thing")
  | 1 => .array (.object "TrueWeights$Trial")
  | 2 => .array .int
  | 3 => .array .int
  | 4 => .array .int
  | 5 => .array .long
  | 6 => .array .int
  | 7 => .array .int
  | 8 => .array .long
  | 9 => .int
  | 10 => .int
  | 11 => .int
  | _ => .int
abbrev wsX20 : List Cond := u_ws RX2 TX2 13
theorem nmX2 : ∀ a, a < 13 → ∀ b, b < 13 → a ≠ b → (TX2 a).2.1 ≠ (TX2 b).2.1 := by decide +kernel
theorem tyX2_ok : ∀ k, k < 13 → parseFieldDescriptor (TX2 k).2.2.1 = some (tyX2 k) := by decide +kernel
abbrev cX2_init : ByteArray := prog_1_method_1_code
def yX2_init : MethodName := ⟨RX2, "<init>", "()V"⟩
abbrev cX2_pass : ByteArray := prog_1_method_2_code
def yX2_pass : MethodName := ⟨RX2, "pass", "(I)I"⟩
abbrev cX2_thing : ByteArray := prog_1_method_3_code
def yX2_thing : MethodName := ⟨RX2, "thing", "(IIII)I"⟩
abbrev cX2_about : ByteArray := prog_1_method_4_code
def yX2_about : MethodName := ⟨RX2, "about", "(II)I"⟩
abbrev cX2_draw : ByteArray := prog_1_method_5_code
def yX2_draw : MethodName := ⟨RX2, "draw", "(II)I"⟩
abbrev cX2_allow : ByteArray := prog_1_method_6_code
def yX2_allow : MethodName := ⟨RX2, "allow", "(IZI)I"⟩
abbrev cX2_move : ByteArray := prog_1_method_7_code
def yX2_move : MethodName := ⟨RX2, "move", "(II)I"⟩
abbrev cX2_trial : ByteArray := prog_1_method_8_code
def yX2_trial : MethodName := ⟨RX2, "trial", "(IIII)I"⟩
abbrev cX2_told : ByteArray := prog_1_method_9_code
def yX2_told : MethodName := ⟨RX2, "told", "(II)I"⟩
abbrev cX2_error : ByteArray := prog_1_method_10_code
def yX2_error : MethodName := ⟨RX2, "error", "(I)I"⟩
abbrev cX2_span : ByteArray := prog_1_method_11_code
def yX2_span : MethodName := ⟨RX2, "span", "(I)I"⟩
abbrev cX2_settled : ByteArray := prog_1_method_12_code
def yX2_settled : MethodName := ⟨RX2, "settled", "(I)I"⟩
abbrev cX2_due : ByteArray := prog_1_method_13_code
def yX2_due : MethodName := ⟨RX2, "due", "(I)I"⟩
abbrev cX2_left : ByteArray := prog_1_method_14_code
def yX2_left : MethodName := ⟨RX2, "left", "(I)I"⟩
abbrev cX2_chain : ByteArray := prog_1_method_15_code
def yX2_chain : MethodName := ⟨RX2, "chain", "(II)I"⟩
abbrev cX2_unsettled : ByteArray := prog_1_method_16_code
def yX2_unsettled : MethodName := ⟨RX2, "unsettled", "()I"⟩
abbrev cX2_judge : ByteArray := prog_1_method_17_code
def yX2_judge : MethodName := ⟨RX2, "judge", "(I)I"⟩
abbrev cX2_stays : ByteArray := prog_1_method_18_code
def yX2_stays : MethodName := ⟨RX2, "stays", "(I)I"⟩
abbrev cX2_seal : ByteArray := prog_1_method_19_code
def yX2_seal : MethodName := ⟨RX2, "seal", "(II)I"⟩
abbrev cX2_sealed : ByteArray := prog_1_method_20_code
def yX2_sealed : MethodName := ⟨RX2, "sealed", "(I)I"⟩
abbrev cX2_charge : ByteArray := prog_1_method_21_code
def yX2_charge : MethodName := ⟨RX2, "charge", "(I)I"⟩
abbrev cX2_charged : ByteArray := prog_1_method_22_code
def yX2_charged : MethodName := ⟨RX2, "charged", "(I)J"⟩
abbrev cX2_first : ByteArray := prog_1_method_23_code
def yX2_first : MethodName := ⟨RX2, "first", "(I)I"⟩
abbrev cX2_count : ByteArray := prog_1_method_24_code
def yX2_count : MethodName := ⟨RX2, "count", "(I)I"⟩
abbrev cX2_isWithin : ByteArray := prog_1_method_25_code
def yX2_isWithin : MethodName := ⟨RX2, "isWithin", "(III)Z"⟩
abbrev cX2_isOwner : ByteArray := prog_1_method_26_code
def yX2_isOwner : MethodName := ⟨RX2, "isOwner", "(I)Z"⟩
abbrev cX2_isSealNumber : ByteArray := prog_1_method_27_code
def yX2_isSealNumber : MethodName := ⟨RX2, "isSealNumber", "(I)Z"⟩
abbrev cX2_numberOf : ByteArray := prog_1_method_28_code
def yX2_numberOf : MethodName := ⟨RX2, "numberOf", "(LTrueWeights$Trial;)I"⟩
abbrev cX2_thingAt : ByteArray := prog_1_method_29_code
def yX2_thingAt : MethodName := ⟨RX2, "thingAt", "(I)LTrueWeights$Thing;"⟩
abbrev cX2_trialAt : ByteArray := prog_1_method_30_code
def yX2_trialAt : MethodName := ⟨RX2, "trialAt", "(I)LTrueWeights$Trial;"⟩
abbrev cX2_takeTrial : ByteArray := prog_1_method_31_code
def yX2_takeTrial : MethodName := ⟨RX2, "takeTrial", "(LTrueWeights$Thing;LTrueWeights$Trial;)V"⟩
abbrev cX2_unsettleAllBasedOn : ByteArray := prog_1_method_32_code
def yX2_unsettleAllBasedOn : MethodName := ⟨RX2, "unsettleAllBasedOn", "(LTrueWeights$Trial;)V"⟩
abbrev cX2_allowanceFor : ByteArray := prog_1_method_33_code
def yX2_allowanceFor : MethodName := ⟨RX2, "allowanceFor", "(LTrueWeights$Thing;)I"⟩
abbrev cX2_judgement : ByteArray := prog_1_method_34_code
def yX2_judgement : MethodName := ⟨RX2, "judgement", "(LTrueWeights$Thing;)I"⟩
abbrev cX2_wasPutOn : ByteArray := prog_1_method_35_code
def yX2_wasPutOn : MethodName := ⟨RX2, "wasPutOn", "(I)Z"⟩
abbrev cX2_markPutOn : ByteArray := prog_1_method_36_code
def yX2_markPutOn : MethodName := ⟨RX2, "markPutOn", "(I)V"⟩
abbrev cX2_rankThings : ByteArray := prog_1_method_37_code
def yX2_rankThings : MethodName := ⟨RX2, "rankThings", "()I"⟩
abbrev cX2_rankBehind : ByteArray := prog_1_method_38_code
def yX2_rankBehind : MethodName := ⟨RX2, "rankBehind", "(IIJ)V"⟩
abbrev cX2_urgencyOf : ByteArray := prog_1_method_39_code
def yX2_urgencyOf : MethodName := ⟨RX2, "urgencyOf", "(LTrueWeights$Thing;)J"⟩
abbrev cX2_howManyDue : ByteArray := prog_1_method_40_code
def yX2_howManyDue : MethodName := ⟨RX2, "howManyDue", "()I"⟩
abbrev cX2_howManyJudged : ByteArray := prog_1_method_41_code
def yX2_howManyJudged : MethodName := ⟨RX2, "howManyJudged", "(I)I"⟩
def RX3 : String := "TrueWeightsModel"
def TX3 : u_T := fun k => match k with
  | 0 => ("TrueWeightsModel", "day", "I", false)
  | 1 => ("TrueWeightsModel", "things", "I", false)
  | 2 => ("TrueWeightsModel", "kind", "[I", true)
  | 3 => ("TrueWeightsModel", "drift", "[I", true)
  | 4 => ("TrueWeightsModel", "period", "[I", true)
  | 5 => ("TrueWeightsModel", "owner", "[I", true)
  | 6 => ("TrueWeightsModel", "many", "[I", true)
  | 7 => ("TrueWeightsModel", "latest", "[I", true)
  | 8 => ("TrueWeightsModel", "seal", "[I", true)
  | 9 => ("TrueWeightsModel", "charges", "[I", true)
  | 10 => ("TrueWeightsModel", "draws", "[I", true)
  | 11 => ("TrueWeightsModel", "draw", "[I", true)
  | 12 => ("TrueWeightsModel", "allowNew", "[I", true)
  | 13 => ("TrueWeightsModel", "allowUse", "[I", true)
  | 14 => ("TrueWeightsModel", "isUsed", "[Z", true)
  | 15 => ("TrueWeightsModel", "trials", "I", false)
  | 16 => ("TrueWeightsModel", "ofThing", "[I", true)
  | 17 => ("TrueWeightsModel", "byThing", "[I", true)
  | 18 => ("TrueWeightsModel", "onDay", "[I", true)
  | 19 => ("TrueWeightsModel", "error", "[I", true)
  | 20 => ("TrueWeightsModel", "span", "[I", true)
  | 21 => ("TrueWeightsModel", "isSettled", "[Z", true)
  | 22 => ("TrueWeightsModel", "found", "[Z", true)
  | 23 => ("TrueWeightsModel", "base", "[I", true)
  | 24 => ("TrueWeightsModel", "isCharged", "[Z", true)
  | 25 => ("TrueWeightsModel", "allCharges", "I", false)
  | 26 => ("TrueWeightsModel", "ownerCharges", "[I", true)
  | _ => ("TrueWeightsModel", "ownerSum", "[J", true)
def tyX3 : Nat → FieldType := fun k => match k with
  | 0 => .int
  | 1 => .int
  | 2 => .array .int
  | 3 => .array .int
  | 4 => .array .int
  | 5 => .array .int
  | 6 => .array .int
  | 7 => .array .int
  | 8 => .array .int
  | 9 => .array .int
  | 10 => .array .int
  | 11 => .array .int
  | 12 => .array .int
  | 13 => .array .int
  | 14 => .array .boolean
  | 15 => .int
  | 16 => .array .int
  | 17 => .array .int
  | 18 => .array .int
  | 19 => .array .int
  | 20 => .array .int
  | 21 => .array .boolean
  | 22 => .array .boolean
  | 23 => .array .int
  | 24 => .array .boolean
  | 25 => .int
  | 26 => .array .int
  | _ => .array .long
abbrev wsX30 : List Cond := u_ws RX3 TX3 28
theorem nmX3 : ∀ a, a < 28 → ∀ b, b < 28 → a ≠ b → (TX3 a).2.1 ≠ (TX3 b).2.1 := by decide +kernel
theorem tyX3_ok : ∀ k, k < 28 → parseFieldDescriptor (TX3 k).2.2.1 = some (tyX3 k) := by decide +kernel
abbrev cX3_init : ByteArray := prog_5_method_1_code
def yX3_init : MethodName := ⟨RX3, "<init>", "()V"⟩
abbrev cX3_in : ByteArray := prog_5_method_3_code
def yX3_in : MethodName := ⟨RX3, "in", "(III)Z"⟩
abbrev cX3_isThing : ByteArray := prog_5_method_4_code
def yX3_isThing : MethodName := ⟨RX3, "isThing", "(I)Z"⟩
abbrev cX3_pass : ByteArray := prog_5_method_5_code
def yX3_pass : MethodName := ⟨RX3, "pass", "(I)I"⟩
abbrev cX3_thing : ByteArray := prog_5_method_6_code
def yX3_thing : MethodName := ⟨RX3, "thing", "(IIII)I"⟩
abbrev cX3_about : ByteArray := prog_5_method_7_code
def yX3_about : MethodName := ⟨RX3, "about", "(II)I"⟩
abbrev cX3_draw : ByteArray := prog_5_method_8_code
def yX3_draw : MethodName := ⟨RX3, "draw", "(II)I"⟩
abbrev cX3_allow : ByteArray := prog_5_method_9_code
def yX3_allow : MethodName := ⟨RX3, "allow", "(IZI)I"⟩
abbrev cX3_isTool : ByteArray := prog_5_method_10_code
def yX3_isTool : MethodName := ⟨RX3, "isTool", "(I)Z"⟩
abbrev cX3_move : ByteArray := prog_5_method_11_code
def yX3_move : MethodName := ⟨RX3, "move", "(II)I"⟩
abbrev cX3_settledNow : ByteArray := prog_5_method_12_code
def yX3_settledNow : MethodName := ⟨RX3, "settledNow", "(I)Z"⟩
abbrev cX3_dueNow : ByteArray := prog_5_method_13_code
def yX3_dueNow : MethodName := ⟨RX3, "dueNow", "(I)Z"⟩
abbrev cX3_errorOf : ByteArray := prog_5_method_14_code
def yX3_errorOf : MethodName := ⟨RX3, "errorOf", "(I)I"⟩
abbrev cX3_spanOn : ByteArray := prog_5_method_15_code
def yX3_spanOn : MethodName := ⟨RX3, "spanOn", "(II)I"⟩
abbrev cX3_middle : ByteArray := prog_5_method_16_code
def yX3_middle : MethodName := ⟨RX3, "middle", "(I)I"⟩
abbrev cX3_range : ByteArray := prog_5_method_17_code
def yX3_range : MethodName := ⟨RX3, "range", "(I)I"⟩
abbrev cX3_trial : ByteArray := prog_5_method_18_code
def yX3_trial : MethodName := ⟨RX3, "trial", "(IIII)I"⟩
abbrev cX3_unsettle : ByteArray := prog_5_method_19_code
def yX3_unsettle : MethodName := ⟨RX3, "unsettle", "(I)V"⟩
abbrev cX3_told : ByteArray := prog_5_method_20_code
def yX3_told : MethodName := ⟨RX3, "told", "(II)I"⟩
abbrev cX3_error : ByteArray := prog_5_method_21_code
def yX3_error : MethodName := ⟨RX3, "error", "(I)I"⟩
abbrev cX3_span : ByteArray := prog_5_method_22_code
def yX3_span : MethodName := ⟨RX3, "span", "(I)I"⟩
abbrev cX3_settled : ByteArray := prog_5_method_23_code
def yX3_settled : MethodName := ⟨RX3, "settled", "(I)I"⟩
abbrev cX3_due : ByteArray := prog_5_method_24_code
def yX3_due : MethodName := ⟨RX3, "due", "(I)I"⟩
abbrev cX3_left : ByteArray := prog_5_method_25_code
def yX3_left : MethodName := ⟨RX3, "left", "(I)I"⟩
abbrev cX3_chain : ByteArray := prog_5_method_26_code
def yX3_chain : MethodName := ⟨RX3, "chain", "(II)I"⟩
abbrev cX3_unsettled : ByteArray := prog_5_method_27_code
def yX3_unsettled : MethodName := ⟨RX3, "unsettled", "()I"⟩
abbrev cX3_allowance : ByteArray := prog_5_method_28_code
def yX3_allowance : MethodName := ⟨RX3, "allowance", "(I)I"⟩
abbrev cX3_judgedOn : ByteArray := prog_5_method_29_code
def yX3_judgedOn : MethodName := ⟨RX3, "judgedOn", "(II)I"⟩
abbrev cX3_judge : ByteArray := prog_5_method_30_code
def yX3_judge : MethodName := ⟨RX3, "judge", "(I)I"⟩
abbrev cX3_stays : ByteArray := prog_5_method_31_code
def yX3_stays : MethodName := ⟨RX3, "stays", "(I)I"⟩
abbrev cX3_seal : ByteArray := prog_5_method_32_code
def yX3_seal : MethodName := ⟨RX3, "seal", "(II)I"⟩
abbrev cX3_sealed : ByteArray := prog_5_method_33_code
def yX3_sealed : MethodName := ⟨RX3, "sealed", "(I)I"⟩
abbrev cX3_charge : ByteArray := prog_5_method_34_code
def yX3_charge : MethodName := ⟨RX3, "charge", "(I)I"⟩
abbrev cX3_charged : ByteArray := prog_5_method_35_code
def yX3_charged : MethodName := ⟨RX3, "charged", "(I)J"⟩
abbrev cX3_group : ByteArray := prog_5_method_36_code
def yX3_group : MethodName := ⟨RX3, "group", "(I)I"⟩
abbrev cX3_weight : ByteArray := prog_5_method_37_code
def yX3_weight : MethodName := ⟨RX3, "weight", "(I)I"⟩
abbrev cX3_isAhead : ByteArray := prog_5_method_38_code
def yX3_isAhead : MethodName := ⟨RX3, "isAhead", "(II)Z"⟩
abbrev cX3_first : ByteArray := prog_5_method_39_code
def yX3_first : MethodName := ⟨RX3, "first", "(I)I"⟩
abbrev cX3_count : ByteArray := prog_5_method_40_code
def yX3_count : MethodName := ⟨RX3, "count", "(I)I"⟩
def RJ9 : String := "java/lang/Math"
def TJ9 : u_T := fun k => match k with
  | _ => ("", "", "", false)
def tyJ9 : Nat → FieldType := fun k => match k with
  | _ => .int
theorem nmJ9 : ∀ a, a < 0 → ∀ b, b < 0 → a ≠ b → (TJ9 a).2.1 ≠ (TJ9 b).2.1 := by decide +kernel
theorem tyJ9_ok : ∀ k, k < 0 → parseFieldDescriptor (TJ9 k).2.2.1 = some (tyJ9 k) := by decide +kernel
abbrev cJ9_abs_0f7a4 : ByteArray := prog_6_method_59_code
def yJ9_abs_0f7a4 : MethodName := ⟨RJ9, "abs", "(I)I"⟩
abbrev cJ9_max_7cf53 : ByteArray := prog_6_method_65_code
def yJ9_max_7cf53 : MethodName := ⟨RJ9, "max", "(II)I"⟩
abbrev cJ9_min_7cf53 : ByteArray := prog_6_method_69_code
def yJ9_min_7cf53 : MethodName := ⟨RJ9, "min", "(II)I"⟩
abbrev cJ9_min_f86c9 : ByteArray := prog_6_method_70_code
def yJ9_min_f86c9 : MethodName := ⟨RJ9, "min", "(JJ)J"⟩
def RL : String := "TrueWeightsLaw"
abbrev cL_law : ByteArray := code
def yL_law : MethodName := ⟨RL, "law", "([I)Z"⟩
end
section
-- set_option maxRecDepth 20000
set_option maxRecDepth 20000 in
theorem k_0 : (.selects RX2 yX2_thingAt yX2_thingAt : Cond) ∈ lw_use := lw_use_at 0 rfl rfl
set_option maxRecDepth 20000 in
theorem k_1 : (.selects RX2 yX2_takeTrial yX2_takeTrial : Cond) ∈ lw_use := lw_use_at 1 rfl rfl
set_option maxRecDepth 20000 in
theorem k_2 : (.selects RX2 yX2_unsettleAllBasedOn yX2_unsettleAllBasedOn : Cond) ∈ lw_use := lw_use_at 2 rfl rfl
set_option maxRecDepth 20000 in
theorem k_3 : (.selects RX2 yX2_trialAt yX2_trialAt : Cond) ∈ lw_use := lw_use_at 3 rfl rfl
set_option maxRecDepth 20000 in
theorem k_4 : (.selects RX2 yX2_judgement yX2_judgement : Cond) ∈ lw_use := lw_use_at 4 rfl rfl
set_option maxRecDepth 20000 in
theorem k_5 : (.selects RX2 yX2_allowanceFor yX2_allowanceFor : Cond) ∈ lw_use := lw_use_at 5 rfl rfl
set_option maxRecDepth 20000 in
theorem k_6 : (.selects RX2 yX2_wasPutOn yX2_wasPutOn : Cond) ∈ lw_use := lw_use_at 6 rfl rfl
set_option maxRecDepth 20000 in
theorem k_7 : (.selects RX2 yX2_markPutOn yX2_markPutOn : Cond) ∈ lw_use := lw_use_at 7 rfl rfl
set_option maxRecDepth 20000 in
theorem k_8 : (.selects RX2 yX2_rankThings yX2_rankThings : Cond) ∈ lw_use := lw_use_at 8 rfl rfl
set_option maxRecDepth 20000 in
theorem k_9 : (.selects RX2 yX2_urgencyOf yX2_urgencyOf : Cond) ∈ lw_use := lw_use_at 9 rfl rfl
set_option maxRecDepth 20000 in
theorem k_10 : (.selects RX2 yX2_rankBehind yX2_rankBehind : Cond) ∈ lw_use := lw_use_at 10 rfl rfl
set_option maxRecDepth 20000 in
theorem k_11 : (.selects RX2 yX2_howManyDue yX2_howManyDue : Cond) ∈ lw_use := lw_use_at 11 rfl rfl
set_option maxRecDepth 20000 in
theorem k_12 : (.selects RX2 yX2_howManyJudged yX2_howManyJudged : Cond) ∈ lw_use := lw_use_at 12 rfl rfl
set_option maxRecDepth 20000 in
theorem k_13 : (.selects RX3 yX3_isThing yX3_isThing : Cond) ∈ lw_use := lw_use_at 13 rfl rfl
set_option maxRecDepth 20000 in
theorem k_14 : (.selects RX3 yX3_isTool yX3_isTool : Cond) ∈ lw_use := lw_use_at 14 rfl rfl
set_option maxRecDepth 20000 in
theorem k_15 : (.selects RX3 yX3_settledNow yX3_settledNow : Cond) ∈ lw_use := lw_use_at 15 rfl rfl
set_option maxRecDepth 20000 in
theorem k_16 : (.selects RX3 yX3_dueNow yX3_dueNow : Cond) ∈ lw_use := lw_use_at 16 rfl rfl
set_option maxRecDepth 20000 in
theorem k_17 : (.selects RX3 yX3_errorOf yX3_errorOf : Cond) ∈ lw_use := lw_use_at 17 rfl rfl
set_option maxRecDepth 20000 in
theorem k_18 : (.selects RX3 yX3_middle yX3_middle : Cond) ∈ lw_use := lw_use_at 18 rfl rfl
set_option maxRecDepth 20000 in
theorem k_19 : (.selects RX3 yX3_spanOn yX3_spanOn : Cond) ∈ lw_use := lw_use_at 19 rfl rfl
set_option maxRecDepth 20000 in
theorem k_20 : (.selects RX3 yX3_range yX3_range : Cond) ∈ lw_use := lw_use_at 20 rfl rfl
set_option maxRecDepth 20000 in
theorem k_21 : (.selects RX3 yX3_unsettle yX3_unsettle : Cond) ∈ lw_use := lw_use_at 21 rfl rfl
set_option maxRecDepth 20000 in
theorem k_22 : (.selects RX3 yX3_judgedOn yX3_judgedOn : Cond) ∈ lw_use := lw_use_at 22 rfl rfl
set_option maxRecDepth 20000 in
theorem k_23 : (.selects RX3 yX3_allowance yX3_allowance : Cond) ∈ lw_use := lw_use_at 23 rfl rfl
set_option maxRecDepth 20000 in
theorem k_24 : (.selects RX3 yX3_isAhead yX3_isAhead : Cond) ∈ lw_use := lw_use_at 24 rfl rfl
set_option maxRecDepth 20000 in
theorem k_25 : (.selects RX3 yX3_group yX3_group : Cond) ∈ lw_use := lw_use_at 25 rfl rfl
set_option maxRecDepth 20000 in
theorem k_26 : (.selects RX3 yX3_weight yX3_weight : Cond) ∈ lw_use := lw_use_at 26 rfl rfl
set_option maxRecDepth 20000 in
theorem k_27 : (.initialized RL : Cond) ∈ lw_use := lw_use_at 27 rfl rfl
set_option maxRecDepth 20000 in
theorem k_28 : (.initialized RX2 : Cond) ∈ lw_use := lw_use_at 28 rfl rfl
set_option maxRecDepth 20000 in
theorem k_29 : (.initialized RX3 : Cond) ∈ lw_use := lw_use_at 29 rfl rfl
set_option maxRecDepth 20000 in
theorem k_30 : (.initialized RX0 : Cond) ∈ lw_use := lw_use_at 30 rfl rfl
set_option maxRecDepth 20000 in
theorem k_31 : (.initialized RJ9 : Cond) ∈ lw_use := lw_use_at 31 rfl rfl
set_option maxRecDepth 20000 in
theorem k_32 : (.initialized RX1 : Cond) ∈ lw_use := lw_use_at 32 rfl rfl
set_option maxRecDepth 20000 in
theorem k_33 : (.classLink RL 7 RX2 : Cond) ∈ lw_use := lw_use_at 33 rfl rfl
set_option maxRecDepth 20000 in
theorem k_34 : (.instantiable RX2 13 : Cond) ∈ lw_use := lw_use_at 34 rfl rfl
set_option maxRecDepth 20000 in
theorem k_35 : (.methodLink RL 9 yX2_init : Cond) ∈ lw_use := lw_use_at 35 rfl rfl
set_option maxRecDepth 20000 in
theorem k_36 : (.instanceMethod yX2_init : Cond) ∈ lw_use := lw_use_at 36 rfl rfl
set_option maxRecDepth 20000 in
theorem k_37 : (.code yX2_init cX2_init 2 none : Cond) ∈ lw_use := lw_use_at 37 rfl rfl
set_option maxRecDepth 20000 in
theorem k_41 : (.classLink RX2 9 RX0 : Cond) ∈ lw_use := lw_use_at 41 rfl rfl
set_option maxRecDepth 20000 in
theorem k_over0 : (.arrayOver (.object "TrueWeights$Thing") : Cond) ∈ lw_tbl := List.mem_of_getElem? (i := 42) rfl
set_option maxRecDepth 20000 in
theorem k_43 : (.classLink RX2 15 RX1 : Cond) ∈ lw_use := lw_use_at 43 rfl rfl
set_option maxRecDepth 20000 in
theorem k_over1 : (.arrayOver (.object "TrueWeights$Trial") : Cond) ∈ lw_tbl := List.mem_of_getElem? (i := 44) rfl
set_option maxRecDepth 20000 in
theorem k_45 : (.fieldLink RX2 11 "TrueWeights" "things" "[LTrueWeights$Thing;" : Cond) ∈ lw_use := lw_use_at 45 rfl rfl
set_option maxRecDepth 20000 in
theorem k_46 : (.fieldLink RX2 17 "TrueWeights" "trials" "[LTrueWeights$Trial;" : Cond) ∈ lw_use := lw_use_at 46 rfl rfl
set_option maxRecDepth 20000 in
theorem k_47 : (.fieldLink RX2 21 "TrueWeights" "allowancesNew" "[I" : Cond) ∈ lw_use := lw_use_at 47 rfl rfl
set_option maxRecDepth 20000 in
theorem k_48 : (.fieldLink RX2 25 "TrueWeights" "allowancesInUse" "[I" : Cond) ∈ lw_use := lw_use_at 48 rfl rfl
set_option maxRecDepth 20000 in
theorem k_49 : (.fieldLink RX2 28 "TrueWeights" "chargesOfOwner" "[I" : Cond) ∈ lw_use := lw_use_at 49 rfl rfl
set_option maxRecDepth 20000 in
theorem k_50 : (.fieldLink RX2 31 "TrueWeights" "sumOfOwner" "[J" : Cond) ∈ lw_use := lw_use_at 50 rfl rfl
set_option maxRecDepth 20000 in
theorem k_51 : (.fieldLink RX2 35 "TrueWeights" "sealsPutOn" "[I" : Cond) ∈ lw_use := lw_use_at 51 rfl rfl
set_option maxRecDepth 20000 in
theorem k_52 : (.fieldLink RX2 38 "TrueWeights" "ranking" "[I" : Cond) ∈ lw_use := lw_use_at 52 rfl rfl
set_option maxRecDepth 20000 in
theorem k_53 : (.fieldLink RX2 41 "TrueWeights" "urgencies" "[J" : Cond) ∈ lw_use := lw_use_at 53 rfl rfl
set_option maxRecDepth 20000 in
theorem k_54 : (.fieldLink RX2 48 "TrueWeights" "today" "I" : Cond) ∈ lw_use := lw_use_at 54 rfl rfl
set_option maxRecDepth 20000 in
theorem k_55 : (.fieldLink RX2 56 "TrueWeights" "thingCount" "I" : Cond) ∈ lw_use := lw_use_at 55 rfl rfl
set_option maxRecDepth 20000 in
theorem k_56 : (.fieldLink RX2 115 "TrueWeights" "trialCount" "I" : Cond) ∈ lw_use := lw_use_at 56 rfl rfl
set_option maxRecDepth 20000 in
theorem k_57 : (.fieldLink RX2 209 "TrueWeights" "chargeCount" "I" : Cond) ∈ lw_use := lw_use_at 57 rfl rfl
set_option maxRecDepth 20000 in
theorem k_85 : (.arrayClass .int : Cond) ∈ lw_use := lw_use_at 85 rfl rfl
set_option maxRecDepth 20000 in
theorem k_86 : (.arrayClass .long : Cond) ∈ lw_use := lw_use_at 86 rfl rfl
set_option maxRecDepth 20000 in
theorem k_87 : (.methodLink RL 13 yX2_pass : Cond) ∈ lw_use := lw_use_at 87 rfl rfl
set_option maxRecDepth 20000 in
theorem k_88 : (.instanceMethod yX2_pass : Cond) ∈ lw_use := lw_use_at 88 rfl rfl
set_option maxRecDepth 20000 in
theorem k_89 : (.selects RX2 yX2_pass yX2_pass : Cond) ∈ lw_use := lw_use_at 89 rfl rfl
set_option maxRecDepth 20000 in
theorem k_90 : (.code yX2_pass cX2_pass 2 (some .int) : Cond) ∈ lw_use := lw_use_at 90 rfl rfl
set_option maxRecDepth 20000 in
theorem k_91 : (.methodLink RX2 44 yX2_isWithin : Cond) ∈ lw_use := lw_use_at 91 rfl rfl
set_option maxRecDepth 20000 in
theorem k_92 : (.static yX2_isWithin : Cond) ∈ lw_use := lw_use_at 92 rfl rfl
set_option maxRecDepth 20000 in
theorem k_93 : (.code yX2_isWithin cX2_isWithin 3 (some .boolean) : Cond) ∈ lw_use := lw_use_at 93 rfl rfl
set_option maxRecDepth 20000 in
theorem k_94 : (.methodLink RL 18 yX2_thing : Cond) ∈ lw_use := lw_use_at 94 rfl rfl
set_option maxRecDepth 20000 in
theorem k_95 : (.instanceMethod yX2_thing : Cond) ∈ lw_use := lw_use_at 95 rfl rfl
set_option maxRecDepth 20000 in
theorem k_96 : (.selects RX2 yX2_thing yX2_thing : Cond) ∈ lw_use := lw_use_at 96 rfl rfl
set_option maxRecDepth 20000 in
theorem k_97 : (.code yX2_thing cX2_thing 6 (some .int) : Cond) ∈ lw_use := lw_use_at 97 rfl rfl
set_option maxRecDepth 20000 in
theorem k_98 : (.methodLink RX2 52 yX2_isOwner : Cond) ∈ lw_use := lw_use_at 98 rfl rfl
set_option maxRecDepth 20000 in
theorem k_99 : (.static yX2_isOwner : Cond) ∈ lw_use := lw_use_at 99 rfl rfl
set_option maxRecDepth 20000 in
theorem k_100 : (.code yX2_isOwner cX2_isOwner 1 (some .boolean) : Cond) ∈ lw_use := lw_use_at 100 rfl rfl
set_option maxRecDepth 20000 in
theorem k_101 : (.instantiable RX0 10 : Cond) ∈ lw_use := lw_use_at 101 rfl rfl
set_option maxRecDepth 20000 in
theorem k_102 : (.methodLink RX2 59 yX0_init : Cond) ∈ lw_use := lw_use_at 102 rfl rfl
set_option maxRecDepth 20000 in
theorem k_103 : (.instanceMethod yX0_init : Cond) ∈ lw_use := lw_use_at 103 rfl rfl
set_option maxRecDepth 20000 in
theorem k_104 : (.code yX0_init cX0_init 5 none : Cond) ∈ lw_use := lw_use_at 104 rfl rfl
set_option maxRecDepth 20000 in
theorem k_106 : (.constant RX0 15 (-1000000) : Cond) ∈ lw_use := lw_use_at 106 rfl rfl
set_option maxRecDepth 20000 in
theorem k_107 : (.fieldLink RX0 20 "TrueWeights$Thing" "kind" "I" : Cond) ∈ lw_use := lw_use_at 107 rfl rfl
set_option maxRecDepth 20000 in
theorem k_108 : (.fieldLink RX2 66 "TrueWeights$Thing" "kind" "I" : Cond) ∈ lw_use := lw_use_at 108 rfl rfl
set_option maxRecDepth 20000 in
theorem k_109 : (.fieldLink RX0 23 "TrueWeights$Thing" "drift" "I" : Cond) ∈ lw_use := lw_use_at 109 rfl rfl
set_option maxRecDepth 20000 in
theorem k_110 : (.fieldLink RX2 69 "TrueWeights$Thing" "drift" "I" : Cond) ∈ lw_use := lw_use_at 110 rfl rfl
set_option maxRecDepth 20000 in
theorem k_111 : (.fieldLink RX0 26 "TrueWeights$Thing" "period" "I" : Cond) ∈ lw_use := lw_use_at 111 rfl rfl
set_option maxRecDepth 20000 in
theorem k_112 : (.fieldLink RX2 72 "TrueWeights$Thing" "period" "I" : Cond) ∈ lw_use := lw_use_at 112 rfl rfl
set_option maxRecDepth 20000 in
theorem k_113 : (.fieldLink RX0 9 "TrueWeights$Thing" "draws" "[I" : Cond) ∈ lw_use := lw_use_at 113 rfl rfl
set_option maxRecDepth 20000 in
theorem k_114 : (.fieldLink RX0 29 "TrueWeights$Thing" "owner" "I" : Cond) ∈ lw_use := lw_use_at 114 rfl rfl
set_option maxRecDepth 20000 in
theorem k_115 : (.fieldLink RX2 75 "TrueWeights$Thing" "owner" "I" : Cond) ∈ lw_use := lw_use_at 115 rfl rfl
set_option maxRecDepth 20000 in
theorem k_116 : (.fieldLink RX0 32 "TrueWeights$Thing" "drawCount" "I" : Cond) ∈ lw_use := lw_use_at 116 rfl rfl
set_option maxRecDepth 20000 in
theorem k_117 : (.fieldLink RX2 78 "TrueWeights$Thing" "trialsMade" "I" : Cond) ∈ lw_use := lw_use_at 117 rfl rfl
set_option maxRecDepth 20000 in
theorem k_118 : (.fieldLink RX0 108 "TrueWeights$Thing" "trialsMade" "I" : Cond) ∈ lw_use := lw_use_at 118 rfl rfl
set_option maxRecDepth 20000 in
theorem k_119 : (.fieldLink RX2 92 "TrueWeights$Thing" "chargesMade" "I" : Cond) ∈ lw_use := lw_use_at 119 rfl rfl
set_option maxRecDepth 20000 in
theorem k_120 : (.fieldLink RX0 16 "TrueWeights$Thing" "sealNumber" "I" : Cond) ∈ lw_use := lw_use_at 120 rfl rfl
set_option maxRecDepth 20000 in
theorem k_121 : (.fieldLink RX2 89 "TrueWeights$Thing" "sealNumber" "I" : Cond) ∈ lw_use := lw_use_at 121 rfl rfl
set_option maxRecDepth 20000 in
theorem k_122 : (.fieldLink RX2 81 "TrueWeights$Thing" "latest" "LTrueWeights$Trial;" : Cond) ∈ lw_use := lw_use_at 122 rfl rfl
set_option maxRecDepth 20000 in
theorem k_123 : (.fieldLink RX0 55 "TrueWeights$Thing" "latest" "LTrueWeights$Trial;" : Cond) ∈ lw_use := lw_use_at 123 rfl rfl
set_option maxRecDepth 20000 in
theorem k_145 : (.methodLink RL 23 yX2_about : Cond) ∈ lw_use := lw_use_at 145 rfl rfl
set_option maxRecDepth 20000 in
theorem k_146 : (.instanceMethod yX2_about : Cond) ∈ lw_use := lw_use_at 146 rfl rfl
set_option maxRecDepth 20000 in
theorem k_147 : (.selects RX2 yX2_about yX2_about : Cond) ∈ lw_use := lw_use_at 147 rfl rfl
set_option maxRecDepth 20000 in
theorem k_148 : (.code yX2_about cX2_about 4 (some .int) : Cond) ∈ lw_use := lw_use_at 148 rfl rfl
set_option maxRecDepth 20000 in
theorem k_149 : (.methodLink RX2 62 yX2_thingAt : Cond) ∈ lw_use := lw_use_at 149 rfl rfl
set_option maxRecDepth 20000 in
theorem k_151 : (.instanceMethod yX2_thingAt : Cond) ∈ lw_use := lw_use_at 151 rfl rfl
set_option maxRecDepth 20000 in
theorem k_152 : (.code yX2_thingAt cX2_thingAt 2 (some (.object "TrueWeights$Thing")) : Cond) ∈ lw_use := lw_use_at 152 rfl rfl
set_option maxRecDepth 20000 in
theorem k_153 : (.methodLink RX2 85 yX2_numberOf : Cond) ∈ lw_use := lw_use_at 153 rfl rfl
set_option maxRecDepth 20000 in
theorem k_154 : (.static yX2_numberOf : Cond) ∈ lw_use := lw_use_at 154 rfl rfl
set_option maxRecDepth 20000 in
theorem k_155 : (.code yX2_numberOf cX2_numberOf 1 (some .int) : Cond) ∈ lw_use := lw_use_at 155 rfl rfl
set_option maxRecDepth 20000 in
theorem k_156 : (.constant RX2 108 (-1000000) : Cond) ∈ lw_use := lw_use_at 156 rfl rfl
set_option maxRecDepth 20000 in
theorem k_157 : (.methodLink RL 28 yX2_draw : Cond) ∈ lw_use := lw_use_at 157 rfl rfl
set_option maxRecDepth 20000 in
theorem k_158 : (.instanceMethod yX2_draw : Cond) ∈ lw_use := lw_use_at 158 rfl rfl
set_option maxRecDepth 20000 in
theorem k_159 : (.selects RX2 yX2_draw yX2_draw : Cond) ∈ lw_use := lw_use_at 159 rfl rfl
set_option maxRecDepth 20000 in
theorem k_160 : (.code yX2_draw cX2_draw 4 (some .int) : Cond) ∈ lw_use := lw_use_at 160 rfl rfl
set_option maxRecDepth 20000 in
theorem k_161 : (.constant RX2 95 (-100000) : Cond) ∈ lw_use := lw_use_at 161 rfl rfl
set_option maxRecDepth 20000 in
theorem k_162 : (.constant RX2 96 (100000) : Cond) ∈ lw_use := lw_use_at 162 rfl rfl
set_option maxRecDepth 20000 in
theorem k_163 : (.methodLink RX2 97 yX0_hasAllDraws : Cond) ∈ lw_use := lw_use_at 163 rfl rfl
set_option maxRecDepth 20000 in
theorem k_164 : (.instanceMethod yX0_hasAllDraws : Cond) ∈ lw_use := lw_use_at 164 rfl rfl
set_option maxRecDepth 20000 in
theorem k_165 : (.selects RX0 yX0_hasAllDraws yX0_hasAllDraws : Cond) ∈ lw_use := lw_use_at 165 rfl rfl
set_option maxRecDepth 20000 in
theorem k_166 : (.code yX0_hasAllDraws cX0_hasAllDraws 1 (some .boolean) : Cond) ∈ lw_use := lw_use_at 166 rfl rfl
set_option maxRecDepth 20000 in
theorem k_167 : (.methodLink RX2 101 yX0_addDraw : Cond) ∈ lw_use := lw_use_at 167 rfl rfl
set_option maxRecDepth 20000 in
theorem k_168 : (.instanceMethod yX0_addDraw : Cond) ∈ lw_use := lw_use_at 168 rfl rfl
set_option maxRecDepth 20000 in
theorem k_169 : (.selects RX0 yX0_addDraw yX0_addDraw : Cond) ∈ lw_use := lw_use_at 169 rfl rfl
set_option maxRecDepth 20000 in
theorem k_170 : (.code yX0_addDraw cX0_addDraw 2 (some .int) : Cond) ∈ lw_use := lw_use_at 170 rfl rfl
set_option maxRecDepth 20000 in
theorem k_172 : (.methodLink RL 32 yX2_allow : Cond) ∈ lw_use := lw_use_at 172 rfl rfl
set_option maxRecDepth 20000 in
theorem k_173 : (.instanceMethod yX2_allow : Cond) ∈ lw_use := lw_use_at 173 rfl rfl
set_option maxRecDepth 20000 in
theorem k_174 : (.selects RX2 yX2_allow yX2_allow : Cond) ∈ lw_use := lw_use_at 174 rfl rfl
set_option maxRecDepth 20000 in
theorem k_175 : (.code yX2_allow cX2_allow 6 (some .int) : Cond) ∈ lw_use := lw_use_at 175 rfl rfl
set_option maxRecDepth 20000 in
theorem k_176 : (.methodLink RL 37 yX2_move : Cond) ∈ lw_use := lw_use_at 176 rfl rfl
set_option maxRecDepth 20000 in
theorem k_177 : (.instanceMethod yX2_move : Cond) ∈ lw_use := lw_use_at 177 rfl rfl
set_option maxRecDepth 20000 in
theorem k_178 : (.selects RX2 yX2_move yX2_move : Cond) ∈ lw_use := lw_use_at 178 rfl rfl
set_option maxRecDepth 20000 in
theorem k_179 : (.code yX2_move cX2_move 5 (some .int) : Cond) ∈ lw_use := lw_use_at 179 rfl rfl
set_option maxRecDepth 20000 in
theorem k_180 : (.methodLink RX2 105 yX0_isOfTrade : Cond) ∈ lw_use := lw_use_at 180 rfl rfl
set_option maxRecDepth 20000 in
theorem k_181 : (.instanceMethod yX0_isOfTrade : Cond) ∈ lw_use := lw_use_at 181 rfl rfl
set_option maxRecDepth 20000 in
theorem k_182 : (.selects RX0 yX0_isOfTrade yX0_isOfTrade : Cond) ∈ lw_use := lw_use_at 182 rfl rfl
set_option maxRecDepth 20000 in
theorem k_183 : (.code yX0_isOfTrade cX0_isOfTrade 1 (some .boolean) : Cond) ∈ lw_use := lw_use_at 183 rfl rfl
set_option maxRecDepth 20000 in
theorem k_184 : (.methodLink RL 41 yX2_trial : Cond) ∈ lw_use := lw_use_at 184 rfl rfl
set_option maxRecDepth 20000 in
theorem k_185 : (.instanceMethod yX2_trial : Cond) ∈ lw_use := lw_use_at 185 rfl rfl
set_option maxRecDepth 20000 in
theorem k_186 : (.selects RX2 yX2_trial yX2_trial : Cond) ∈ lw_use := lw_use_at 186 rfl rfl
set_option maxRecDepth 20000 in
theorem k_187 : (.code yX2_trial cX2_trial 11 (some .int) : Cond) ∈ lw_use := lw_use_at 187 rfl rfl
set_option maxRecDepth 20000 in
theorem k_188 : (.methodLink RX2 109 yX0_canBeTried : Cond) ∈ lw_use := lw_use_at 188 rfl rfl
set_option maxRecDepth 20000 in
theorem k_189 : (.instanceMethod yX0_canBeTried : Cond) ∈ lw_use := lw_use_at 189 rfl rfl
set_option maxRecDepth 20000 in
theorem k_190 : (.selects RX0 yX0_canBeTried yX0_canBeTried : Cond) ∈ lw_use := lw_use_at 190 rfl rfl
set_option maxRecDepth 20000 in
theorem k_191 : (.code yX0_canBeTried cX0_canBeTried 1 (some .boolean) : Cond) ∈ lw_use := lw_use_at 191 rfl rfl
set_option maxRecDepth 20000 in
theorem k_192 : (.methodLink RX0 72 yX0_hasAllDraws : Cond) ∈ lw_use := lw_use_at 192 rfl rfl
set_option maxRecDepth 20000 in
theorem k_193 : (.methodLink RX2 112 yX0_canTryOthers : Cond) ∈ lw_use := lw_use_at 193 rfl rfl
set_option maxRecDepth 20000 in
theorem k_194 : (.instanceMethod yX0_canTryOthers : Cond) ∈ lw_use := lw_use_at 194 rfl rfl
set_option maxRecDepth 20000 in
theorem k_195 : (.selects RX0 yX0_canTryOthers yX0_canTryOthers : Cond) ∈ lw_use := lw_use_at 195 rfl rfl
set_option maxRecDepth 20000 in
theorem k_196 : (.code yX0_canTryOthers cX0_canTryOthers 2 (some .boolean) : Cond) ∈ lw_use := lw_use_at 196 rfl rfl
set_option maxRecDepth 20000 in
theorem k_197 : (.methodLink RX0 76 yX0_isOfTrade : Cond) ∈ lw_use := lw_use_at 197 rfl rfl
set_option maxRecDepth 20000 in
theorem k_198 : (.methodLink RX0 79 yX0_isSettledNow : Cond) ∈ lw_use := lw_use_at 198 rfl rfl
set_option maxRecDepth 20000 in
theorem k_199 : (.instanceMethod yX0_isSettledNow : Cond) ∈ lw_use := lw_use_at 199 rfl rfl
set_option maxRecDepth 20000 in
theorem k_200 : (.selects RX0 yX0_isSettledNow yX0_isSettledNow : Cond) ∈ lw_use := lw_use_at 200 rfl rfl
set_option maxRecDepth 20000 in
theorem k_201 : (.code yX0_isSettledNow cX0_isSettledNow 1 (some .boolean) : Cond) ∈ lw_use := lw_use_at 201 rfl rfl
set_option maxRecDepth 20000 in
theorem k_202 : (.methodLink RX0 82 yX0_isDueOn : Cond) ∈ lw_use := lw_use_at 202 rfl rfl
set_option maxRecDepth 20000 in
theorem k_203 : (.instanceMethod yX0_isDueOn : Cond) ∈ lw_use := lw_use_at 203 rfl rfl
set_option maxRecDepth 20000 in
theorem k_204 : (.selects RX0 yX0_isDueOn yX0_isDueOn : Cond) ∈ lw_use := lw_use_at 204 rfl rfl
set_option maxRecDepth 20000 in
theorem k_205 : (.code yX0_isDueOn cX0_isDueOn 2 (some .boolean) : Cond) ∈ lw_use := lw_use_at 205 rfl rfl
set_option maxRecDepth 20000 in
theorem k_206 : (.methodLink RX0 65 yX0_daysUntilDue : Cond) ∈ lw_use := lw_use_at 206 rfl rfl
set_option maxRecDepth 20000 in
theorem k_207 : (.instanceMethod yX0_daysUntilDue : Cond) ∈ lw_use := lw_use_at 207 rfl rfl
set_option maxRecDepth 20000 in
theorem k_208 : (.selects RX0 yX0_daysUntilDue yX0_daysUntilDue : Cond) ∈ lw_use := lw_use_at 208 rfl rfl
set_option maxRecDepth 20000 in
theorem k_209 : (.code yX0_daysUntilDue cX0_daysUntilDue 2 (some .int) : Cond) ∈ lw_use := lw_use_at 209 rfl rfl
set_option maxRecDepth 20000 in
theorem k_210 : (.methodLink RX0 45 yJ9_max_7cf53 : Cond) ∈ lw_use := lw_use_at 210 rfl rfl
set_option maxRecDepth 20000 in
theorem k_211 : (.static yJ9_max_7cf53 : Cond) ∈ lw_use := lw_use_at 211 rfl rfl
set_option maxRecDepth 20000 in
theorem k_212 : (.code yJ9_max_7cf53 cJ9_max_7cf53 2 (some .int) : Cond) ∈ lw_use := lw_use_at 212 rfl rfl
set_option maxRecDepth 20000 in
theorem k_213 : (.methodLink RX2 118 yX0_spanOn : Cond) ∈ lw_use := lw_use_at 213 rfl rfl
set_option maxRecDepth 20000 in
theorem k_214 : (.instanceMethod yX0_spanOn : Cond) ∈ lw_use := lw_use_at 214 rfl rfl
set_option maxRecDepth 20000 in
theorem k_215 : (.selects RX0 yX0_spanOn yX0_spanOn : Cond) ∈ lw_use := lw_use_at 215 rfl rfl
set_option maxRecDepth 20000 in
theorem k_216 : (.code yX0_spanOn cX0_spanOn 3 (some .int) : Cond) ∈ lw_use := lw_use_at 216 rfl rfl
set_option maxRecDepth 20000 in
theorem k_217 : (.methodLink RX2 121 yX0_middleDraw : Cond) ∈ lw_use := lw_use_at 217 rfl rfl
set_option maxRecDepth 20000 in
theorem k_218 : (.instanceMethod yX0_middleDraw : Cond) ∈ lw_use := lw_use_at 218 rfl rfl
set_option maxRecDepth 20000 in
theorem k_219 : (.selects RX0 yX0_middleDraw yX0_middleDraw : Cond) ∈ lw_use := lw_use_at 219 rfl rfl
set_option maxRecDepth 20000 in
theorem k_220 : (.code yX0_middleDraw cX0_middleDraw 1 (some .int) : Cond) ∈ lw_use := lw_use_at 220 rfl rfl
set_option maxRecDepth 20000 in
theorem k_221 : (.methodLink RX0 48 yX0_leastDraw : Cond) ∈ lw_use := lw_use_at 221 rfl rfl
set_option maxRecDepth 20000 in
theorem k_222 : (.instanceMethod yX0_leastDraw : Cond) ∈ lw_use := lw_use_at 222 rfl rfl
set_option maxRecDepth 20000 in
theorem k_223 : (.selects RX0 yX0_leastDraw yX0_leastDraw : Cond) ∈ lw_use := lw_use_at 223 rfl rfl
set_option maxRecDepth 20000 in
theorem k_224 : (.code yX0_leastDraw cX0_leastDraw 1 (some .int) : Cond) ∈ lw_use := lw_use_at 224 rfl rfl
set_option maxRecDepth 20000 in
theorem k_225 : (.methodLink RX0 39 yJ9_min_7cf53 : Cond) ∈ lw_use := lw_use_at 225 rfl rfl
set_option maxRecDepth 20000 in
theorem k_226 : (.static yJ9_min_7cf53 : Cond) ∈ lw_use := lw_use_at 226 rfl rfl
set_option maxRecDepth 20000 in
theorem k_227 : (.code yJ9_min_7cf53 cJ9_min_7cf53 2 (some .int) : Cond) ∈ lw_use := lw_use_at 227 rfl rfl
set_option maxRecDepth 20000 in
theorem k_228 : (.methodLink RX0 52 yX0_greatestDraw : Cond) ∈ lw_use := lw_use_at 228 rfl rfl
set_option maxRecDepth 20000 in
theorem k_229 : (.instanceMethod yX0_greatestDraw : Cond) ∈ lw_use := lw_use_at 229 rfl rfl
set_option maxRecDepth 20000 in
theorem k_230 : (.selects RX0 yX0_greatestDraw yX0_greatestDraw : Cond) ∈ lw_use := lw_use_at 230 rfl rfl
set_option maxRecDepth 20000 in
theorem k_231 : (.code yX0_greatestDraw cX0_greatestDraw 1 (some .int) : Cond) ∈ lw_use := lw_use_at 231 rfl rfl
set_option maxRecDepth 20000 in
theorem k_232 : (.methodLink RX2 125 yX0_spreadOfDraws : Cond) ∈ lw_use := lw_use_at 232 rfl rfl
set_option maxRecDepth 20000 in
theorem k_233 : (.instanceMethod yX0_spreadOfDraws : Cond) ∈ lw_use := lw_use_at 233 rfl rfl
set_option maxRecDepth 20000 in
theorem k_234 : (.selects RX0 yX0_spreadOfDraws yX0_spreadOfDraws : Cond) ∈ lw_use := lw_use_at 234 rfl rfl
set_option maxRecDepth 20000 in
theorem k_235 : (.code yX0_spreadOfDraws cX0_spreadOfDraws 1 (some .int) : Cond) ∈ lw_use := lw_use_at 235 rfl rfl
set_option maxRecDepth 20000 in
theorem k_236 : (.methodLink RX2 128 yX0_errorHeld : Cond) ∈ lw_use := lw_use_at 236 rfl rfl
set_option maxRecDepth 20000 in
theorem k_237 : (.instanceMethod yX0_errorHeld : Cond) ∈ lw_use := lw_use_at 237 rfl rfl
set_option maxRecDepth 20000 in
theorem k_238 : (.selects RX0 yX0_errorHeld yX0_errorHeld : Cond) ∈ lw_use := lw_use_at 238 rfl rfl
set_option maxRecDepth 20000 in
theorem k_239 : (.code yX0_errorHeld cX0_errorHeld 1 (some .int) : Cond) ∈ lw_use := lw_use_at 239 rfl rfl
set_option maxRecDepth 20000 in
theorem k_240 : (.instantiable RX1 10 : Cond) ∈ lw_use := lw_use_at 240 rfl rfl
set_option maxRecDepth 20000 in
theorem k_241 : (.methodLink RX2 131 yX1_init : Cond) ∈ lw_use := lw_use_at 241 rfl rfl
set_option maxRecDepth 20000 in
theorem k_242 : (.instanceMethod yX1_init : Cond) ∈ lw_use := lw_use_at 242 rfl rfl
set_option maxRecDepth 20000 in
theorem k_243 : (.code yX1_init cX1_init 8 none : Cond) ∈ lw_use := lw_use_at 243 rfl rfl
set_option maxRecDepth 20000 in
theorem k_245 : (.fieldLink RX1 13 "TrueWeights$Trial" "number" "I" : Cond) ∈ lw_use := lw_use_at 245 rfl rfl
set_option maxRecDepth 20000 in
theorem k_246 : (.fieldLink RX2 138 "TrueWeights$Trial" "number" "I" : Cond) ∈ lw_use := lw_use_at 246 rfl rfl
set_option maxRecDepth 20000 in
theorem k_247 : (.fieldLink RX1 17 "TrueWeights$Trial" "tried" "I" : Cond) ∈ lw_use := lw_use_at 247 rfl rfl
set_option maxRecDepth 20000 in
theorem k_248 : (.fieldLink RX2 145 "TrueWeights$Trial" "tried" "I" : Cond) ∈ lw_use := lw_use_at 248 rfl rfl
set_option maxRecDepth 20000 in
theorem k_249 : (.fieldLink RX1 20 "TrueWeights$Trial" "master" "I" : Cond) ∈ lw_use := lw_use_at 249 rfl rfl
set_option maxRecDepth 20000 in
theorem k_250 : (.fieldLink RX2 148 "TrueWeights$Trial" "master" "I" : Cond) ∈ lw_use := lw_use_at 250 rfl rfl
set_option maxRecDepth 20000 in
theorem k_251 : (.fieldLink RX1 23 "TrueWeights$Trial" "base" "LTrueWeights$Trial;" : Cond) ∈ lw_use := lw_use_at 251 rfl rfl
set_option maxRecDepth 20000 in
theorem k_252 : (.fieldLink RX2 167 "TrueWeights$Trial" "base" "LTrueWeights$Trial;" : Cond) ∈ lw_use := lw_use_at 252 rfl rfl
set_option maxRecDepth 20000 in
theorem k_253 : (.fieldLink RX1 27 "TrueWeights$Trial" "dayMade" "I" : Cond) ∈ lw_use := lw_use_at 253 rfl rfl
set_option maxRecDepth 20000 in
theorem k_254 : (.fieldLink RX2 151 "TrueWeights$Trial" "dayMade" "I" : Cond) ∈ lw_use := lw_use_at 254 rfl rfl
set_option maxRecDepth 20000 in
theorem k_255 : (.fieldLink RX0 69 "TrueWeights$Trial" "dayMade" "I" : Cond) ∈ lw_use := lw_use_at 255 rfl rfl
set_option maxRecDepth 20000 in
theorem k_256 : (.fieldLink RX1 30 "TrueWeights$Trial" "errorTold" "I" : Cond) ∈ lw_use := lw_use_at 256 rfl rfl
set_option maxRecDepth 20000 in
theorem k_257 : (.fieldLink RX2 154 "TrueWeights$Trial" "errorTold" "I" : Cond) ∈ lw_use := lw_use_at 257 rfl rfl
set_option maxRecDepth 20000 in
theorem k_258 : (.fieldLink RX0 86 "TrueWeights$Trial" "errorTold" "I" : Cond) ∈ lw_use := lw_use_at 258 rfl rfl
set_option maxRecDepth 20000 in
theorem k_259 : (.fieldLink RX1 33 "TrueWeights$Trial" "spanThen" "I" : Cond) ∈ lw_use := lw_use_at 259 rfl rfl
set_option maxRecDepth 20000 in
theorem k_260 : (.fieldLink RX2 157 "TrueWeights$Trial" "spanThen" "I" : Cond) ∈ lw_use := lw_use_at 260 rfl rfl
set_option maxRecDepth 20000 in
theorem k_261 : (.fieldLink RX0 95 "TrueWeights$Trial" "spanThen" "I" : Cond) ∈ lw_use := lw_use_at 261 rfl rfl
set_option maxRecDepth 20000 in
theorem k_262 : (.fieldLink RX1 7 "TrueWeights$Trial" "isSettled" "Z" : Cond) ∈ lw_use := lw_use_at 262 rfl rfl
set_option maxRecDepth 20000 in
theorem k_263 : (.fieldLink RX2 160 "TrueWeights$Trial" "isSettled" "Z" : Cond) ∈ lw_use := lw_use_at 263 rfl rfl
set_option maxRecDepth 20000 in
theorem k_264 : (.fieldLink RX0 59 "TrueWeights$Trial" "isSettled" "Z" : Cond) ∈ lw_use := lw_use_at 264 rfl rfl
set_option maxRecDepth 20000 in
theorem k_265 : (.fieldLink RX2 164 "TrueWeights$Trial" "foundWronged" "Z" : Cond) ∈ lw_use := lw_use_at 265 rfl rfl
set_option maxRecDepth 20000 in
theorem k_266 : (.fieldLink RX2 206 "TrueWeights$Trial" "isCharged" "Z" : Cond) ∈ lw_use := lw_use_at 266 rfl rfl
set_option maxRecDepth 20000 in
theorem k_288 : (.methodLink RX2 134 yX2_takeTrial : Cond) ∈ lw_use := lw_use_at 288 rfl rfl
set_option maxRecDepth 20000 in
theorem k_290 : (.instanceMethod yX2_takeTrial : Cond) ∈ lw_use := lw_use_at 290 rfl rfl
set_option maxRecDepth 20000 in
theorem k_291 : (.code yX2_takeTrial cX2_takeTrial 4 none : Cond) ∈ lw_use := lw_use_at 291 rfl rfl
set_option maxRecDepth 20000 in
theorem k_292 : (.methodLink RX2 228 yX0_isWrongedBy : Cond) ∈ lw_use := lw_use_at 292 rfl rfl
set_option maxRecDepth 20000 in
theorem k_293 : (.instanceMethod yX0_isWrongedBy : Cond) ∈ lw_use := lw_use_at 293 rfl rfl
set_option maxRecDepth 20000 in
theorem k_294 : (.selects RX0 yX0_isWrongedBy yX0_isWrongedBy : Cond) ∈ lw_use := lw_use_at 294 rfl rfl
set_option maxRecDepth 20000 in
theorem k_295 : (.code yX0_isWrongedBy cX0_isWrongedBy 3 (some .boolean) : Cond) ∈ lw_use := lw_use_at 295 rfl rfl
set_option maxRecDepth 20000 in
theorem k_296 : (.methodLink RX0 92 yJ9_abs_0f7a4 : Cond) ∈ lw_use := lw_use_at 296 rfl rfl
set_option maxRecDepth 20000 in
theorem k_297 : (.static yJ9_abs_0f7a4 : Cond) ∈ lw_use := lw_use_at 297 rfl rfl
set_option maxRecDepth 20000 in
theorem k_298 : (.code yJ9_abs_0f7a4 cJ9_abs_0f7a4 1 (some .int) : Cond) ∈ lw_use := lw_use_at 298 rfl rfl
set_option maxRecDepth 20000 in
theorem k_299 : (.methodLink RX0 105 yX0_spanOn : Cond) ∈ lw_use := lw_use_at 299 rfl rfl
set_option maxRecDepth 20000 in
theorem k_300 : (.methodLink RX2 232 yX0_take : Cond) ∈ lw_use := lw_use_at 300 rfl rfl
set_option maxRecDepth 20000 in
theorem k_301 : (.instanceMethod yX0_take : Cond) ∈ lw_use := lw_use_at 301 rfl rfl
set_option maxRecDepth 20000 in
theorem k_302 : (.selects RX0 yX0_take yX0_take : Cond) ∈ lw_use := lw_use_at 302 rfl rfl
set_option maxRecDepth 20000 in
theorem k_303 : (.code yX0_take cX0_take 2 none : Cond) ∈ lw_use := lw_use_at 303 rfl rfl
set_option maxRecDepth 20000 in
theorem k_304 : (.methodLink RX2 236 yX2_unsettleAllBasedOn : Cond) ∈ lw_use := lw_use_at 304 rfl rfl
set_option maxRecDepth 20000 in
theorem k_306 : (.instanceMethod yX2_unsettleAllBasedOn : Cond) ∈ lw_use := lw_use_at 306 rfl rfl
set_option maxRecDepth 20000 in
theorem k_307 : (.code yX2_unsettleAllBasedOn cX2_unsettleAllBasedOn 4 none : Cond) ∈ lw_use := lw_use_at 307 rfl rfl
set_option maxRecDepth 20000 in
theorem k_308 : (.methodLink RX2 141 yX2_trialAt : Cond) ∈ lw_use := lw_use_at 308 rfl rfl
set_option maxRecDepth 20000 in
theorem k_310 : (.instanceMethod yX2_trialAt : Cond) ∈ lw_use := lw_use_at 310 rfl rfl
set_option maxRecDepth 20000 in
theorem k_311 : (.code yX2_trialAt cX2_trialAt 2 (some (.object "TrueWeights$Trial")) : Cond) ∈ lw_use := lw_use_at 311 rfl rfl
set_option maxRecDepth 20000 in
theorem k_312 : (.methodLink RX2 239 yX1_isShakenBy : Cond) ∈ lw_use := lw_use_at 312 rfl rfl
set_option maxRecDepth 20000 in
theorem k_313 : (.instanceMethod yX1_isShakenBy : Cond) ∈ lw_use := lw_use_at 313 rfl rfl
set_option maxRecDepth 20000 in
theorem k_314 : (.selects RX1 yX1_isShakenBy yX1_isShakenBy : Cond) ∈ lw_use := lw_use_at 314 rfl rfl
set_option maxRecDepth 20000 in
theorem k_315 : (.code yX1_isShakenBy cX1_isShakenBy 2 (some .boolean) : Cond) ∈ lw_use := lw_use_at 315 rfl rfl
set_option maxRecDepth 20000 in
theorem k_316 : (.methodLink RL 45 yX2_told : Cond) ∈ lw_use := lw_use_at 316 rfl rfl
set_option maxRecDepth 20000 in
theorem k_317 : (.instanceMethod yX2_told : Cond) ∈ lw_use := lw_use_at 317 rfl rfl
set_option maxRecDepth 20000 in
theorem k_318 : (.selects RX2 yX2_told yX2_told : Cond) ∈ lw_use := lw_use_at 318 rfl rfl
set_option maxRecDepth 20000 in
theorem k_319 : (.code yX2_told cX2_told 4 (some .int) : Cond) ∈ lw_use := lw_use_at 319 rfl rfl
set_option maxRecDepth 20000 in
theorem k_320 : (.methodLink RL 49 yX2_error : Cond) ∈ lw_use := lw_use_at 320 rfl rfl
set_option maxRecDepth 20000 in
theorem k_321 : (.instanceMethod yX2_error : Cond) ∈ lw_use := lw_use_at 321 rfl rfl
set_option maxRecDepth 20000 in
theorem k_322 : (.selects RX2 yX2_error yX2_error : Cond) ∈ lw_use := lw_use_at 322 rfl rfl
set_option maxRecDepth 20000 in
theorem k_323 : (.code yX2_error cX2_error 3 (some .int) : Cond) ∈ lw_use := lw_use_at 323 rfl rfl
set_option maxRecDepth 20000 in
theorem k_324 : (.methodLink RX2 170 yX0_isMeasured : Cond) ∈ lw_use := lw_use_at 324 rfl rfl
set_option maxRecDepth 20000 in
theorem k_325 : (.instanceMethod yX0_isMeasured : Cond) ∈ lw_use := lw_use_at 325 rfl rfl
set_option maxRecDepth 20000 in
theorem k_326 : (.selects RX0 yX0_isMeasured yX0_isMeasured : Cond) ∈ lw_use := lw_use_at 326 rfl rfl
set_option maxRecDepth 20000 in
theorem k_327 : (.code yX0_isMeasured cX0_isMeasured 1 (some .boolean) : Cond) ∈ lw_use := lw_use_at 327 rfl rfl
set_option maxRecDepth 20000 in
theorem k_328 : (.methodLink RL 53 yX2_span : Cond) ∈ lw_use := lw_use_at 328 rfl rfl
set_option maxRecDepth 20000 in
theorem k_329 : (.instanceMethod yX2_span : Cond) ∈ lw_use := lw_use_at 329 rfl rfl
set_option maxRecDepth 20000 in
theorem k_330 : (.selects RX2 yX2_span yX2_span : Cond) ∈ lw_use := lw_use_at 330 rfl rfl
set_option maxRecDepth 20000 in
theorem k_331 : (.code yX2_span cX2_span 3 (some .int) : Cond) ∈ lw_use := lw_use_at 331 rfl rfl
set_option maxRecDepth 20000 in
theorem k_332 : (.methodLink RL 57 yX2_settled : Cond) ∈ lw_use := lw_use_at 332 rfl rfl
set_option maxRecDepth 20000 in
theorem k_333 : (.instanceMethod yX2_settled : Cond) ∈ lw_use := lw_use_at 333 rfl rfl
set_option maxRecDepth 20000 in
theorem k_334 : (.selects RX2 yX2_settled yX2_settled : Cond) ∈ lw_use := lw_use_at 334 rfl rfl
set_option maxRecDepth 20000 in
theorem k_335 : (.code yX2_settled cX2_settled 3 (some .int) : Cond) ∈ lw_use := lw_use_at 335 rfl rfl
set_option maxRecDepth 20000 in
theorem k_336 : (.methodLink RX2 173 yX0_isSettledNow : Cond) ∈ lw_use := lw_use_at 336 rfl rfl
set_option maxRecDepth 20000 in
theorem k_337 : (.methodLink RL 61 yX2_due : Cond) ∈ lw_use := lw_use_at 337 rfl rfl
set_option maxRecDepth 20000 in
theorem k_338 : (.instanceMethod yX2_due : Cond) ∈ lw_use := lw_use_at 338 rfl rfl
set_option maxRecDepth 20000 in
theorem k_339 : (.selects RX2 yX2_due yX2_due : Cond) ∈ lw_use := lw_use_at 339 rfl rfl
set_option maxRecDepth 20000 in
theorem k_340 : (.code yX2_due cX2_due 3 (some .int) : Cond) ∈ lw_use := lw_use_at 340 rfl rfl
set_option maxRecDepth 20000 in
theorem k_341 : (.methodLink RX2 176 yX0_isDueOn : Cond) ∈ lw_use := lw_use_at 341 rfl rfl
set_option maxRecDepth 20000 in
theorem k_342 : (.methodLink RL 65 yX2_left : Cond) ∈ lw_use := lw_use_at 342 rfl rfl
set_option maxRecDepth 20000 in
theorem k_343 : (.instanceMethod yX2_left : Cond) ∈ lw_use := lw_use_at 343 rfl rfl
set_option maxRecDepth 20000 in
theorem k_344 : (.selects RX2 yX2_left yX2_left : Cond) ∈ lw_use := lw_use_at 344 rfl rfl
set_option maxRecDepth 20000 in
theorem k_345 : (.code yX2_left cX2_left 3 (some .int) : Cond) ∈ lw_use := lw_use_at 345 rfl rfl
set_option maxRecDepth 20000 in
theorem k_346 : (.methodLink RX2 179 yX0_daysUntilDue : Cond) ∈ lw_use := lw_use_at 346 rfl rfl
set_option maxRecDepth 20000 in
theorem k_347 : (.methodLink RL 69 yX2_chain : Cond) ∈ lw_use := lw_use_at 347 rfl rfl
set_option maxRecDepth 20000 in
theorem k_348 : (.instanceMethod yX2_chain : Cond) ∈ lw_use := lw_use_at 348 rfl rfl
set_option maxRecDepth 20000 in
theorem k_349 : (.selects RX2 yX2_chain yX2_chain : Cond) ∈ lw_use := lw_use_at 349 rfl rfl
set_option maxRecDepth 20000 in
theorem k_350 : (.code yX2_chain cX2_chain 6 (some .int) : Cond) ∈ lw_use := lw_use_at 350 rfl rfl
set_option maxRecDepth 20000 in
theorem k_351 : (.methodLink RL 73 yX2_unsettled : Cond) ∈ lw_use := lw_use_at 351 rfl rfl
set_option maxRecDepth 20000 in
theorem k_352 : (.instanceMethod yX2_unsettled : Cond) ∈ lw_use := lw_use_at 352 rfl rfl
set_option maxRecDepth 20000 in
theorem k_353 : (.selects RX2 yX2_unsettled yX2_unsettled : Cond) ∈ lw_use := lw_use_at 353 rfl rfl
set_option maxRecDepth 20000 in
theorem k_354 : (.code yX2_unsettled cX2_unsettled 4 (some .int) : Cond) ∈ lw_use := lw_use_at 354 rfl rfl
set_option maxRecDepth 20000 in
theorem k_355 : (.methodLink RL 78 yX2_judge : Cond) ∈ lw_use := lw_use_at 355 rfl rfl
set_option maxRecDepth 20000 in
theorem k_356 : (.instanceMethod yX2_judge : Cond) ∈ lw_use := lw_use_at 356 rfl rfl
set_option maxRecDepth 20000 in
theorem k_357 : (.selects RX2 yX2_judge yX2_judge : Cond) ∈ lw_use := lw_use_at 357 rfl rfl
set_option maxRecDepth 20000 in
theorem k_358 : (.code yX2_judge cX2_judge 3 (some .int) : Cond) ∈ lw_use := lw_use_at 358 rfl rfl
set_option maxRecDepth 20000 in
theorem k_359 : (.methodLink RX2 182 yX2_judgement : Cond) ∈ lw_use := lw_use_at 359 rfl rfl
set_option maxRecDepth 20000 in
theorem k_361 : (.instanceMethod yX2_judgement : Cond) ∈ lw_use := lw_use_at 361 rfl rfl
set_option maxRecDepth 20000 in
theorem k_362 : (.code yX2_judgement cX2_judgement 5 (some .int) : Cond) ∈ lw_use := lw_use_at 362 rfl rfl
set_option maxRecDepth 20000 in
theorem k_363 : (.methodLink RX2 186 yX0_errorSize : Cond) ∈ lw_use := lw_use_at 363 rfl rfl
set_option maxRecDepth 20000 in
theorem k_364 : (.instanceMethod yX0_errorSize : Cond) ∈ lw_use := lw_use_at 364 rfl rfl
set_option maxRecDepth 20000 in
theorem k_365 : (.selects RX0 yX0_errorSize yX0_errorSize : Cond) ∈ lw_use := lw_use_at 365 rfl rfl
set_option maxRecDepth 20000 in
theorem k_366 : (.code yX0_errorSize cX0_errorSize 1 (some .int) : Cond) ∈ lw_use := lw_use_at 366 rfl rfl
set_option maxRecDepth 20000 in
theorem k_367 : (.methodLink RX0 89 yX0_errorHeld : Cond) ∈ lw_use := lw_use_at 367 rfl rfl
set_option maxRecDepth 20000 in
theorem k_368 : (.methodLink RX2 189 yX2_allowanceFor : Cond) ∈ lw_use := lw_use_at 368 rfl rfl
set_option maxRecDepth 20000 in
theorem k_370 : (.instanceMethod yX2_allowanceFor : Cond) ∈ lw_use := lw_use_at 370 rfl rfl
set_option maxRecDepth 20000 in
theorem k_371 : (.code yX2_allowanceFor cX2_allowanceFor 3 (some .int) : Cond) ∈ lw_use := lw_use_at 371 rfl rfl
set_option maxRecDepth 20000 in
theorem k_372 : (.methodLink RL 82 yX2_stays : Cond) ∈ lw_use := lw_use_at 372 rfl rfl
set_option maxRecDepth 20000 in
theorem k_373 : (.instanceMethod yX2_stays : Cond) ∈ lw_use := lw_use_at 373 rfl rfl
set_option maxRecDepth 20000 in
theorem k_374 : (.selects RX2 yX2_stays yX2_stays : Cond) ∈ lw_use := lw_use_at 374 rfl rfl
set_option maxRecDepth 20000 in
theorem k_375 : (.code yX2_stays cX2_stays 6 (some .int) : Cond) ∈ lw_use := lw_use_at 375 rfl rfl
set_option maxRecDepth 20000 in
theorem k_376 : (.methodLink RX2 192 yX0_daysNoWiderThan : Cond) ∈ lw_use := lw_use_at 376 rfl rfl
set_option maxRecDepth 20000 in
theorem k_377 : (.instanceMethod yX0_daysNoWiderThan : Cond) ∈ lw_use := lw_use_at 377 rfl rfl
set_option maxRecDepth 20000 in
theorem k_378 : (.selects RX0 yX0_daysNoWiderThan yX0_daysNoWiderThan : Cond) ∈ lw_use := lw_use_at 378 rfl rfl
set_option maxRecDepth 20000 in
theorem k_379 : (.code yX0_daysNoWiderThan cX0_daysNoWiderThan 5 (some .int) : Cond) ∈ lw_use := lw_use_at 379 rfl rfl
set_option maxRecDepth 20000 in
theorem k_380 : (.constantLong RX0 98 (100) : Cond) ∈ lw_use := lw_use_at 380 rfl rfl
set_option maxRecDepth 20000 in
theorem k_381 : (.constantLong RX0 100 (20000) : Cond) ∈ lw_use := lw_use_at 381 rfl rfl
set_option maxRecDepth 20000 in
theorem k_382 : (.methodLink RX0 102 yJ9_min_f86c9 : Cond) ∈ lw_use := lw_use_at 382 rfl rfl
set_option maxRecDepth 20000 in
theorem k_383 : (.static yJ9_min_f86c9 : Cond) ∈ lw_use := lw_use_at 383 rfl rfl
set_option maxRecDepth 20000 in
theorem k_384 : (.code yJ9_min_f86c9 cJ9_min_f86c9 4 (some .long) : Cond) ∈ lw_use := lw_use_at 384 rfl rfl
set_option maxRecDepth 20000 in
theorem k_385 : (.methodLink RL 86 yX2_seal : Cond) ∈ lw_use := lw_use_at 385 rfl rfl
set_option maxRecDepth 20000 in
theorem k_386 : (.instanceMethod yX2_seal : Cond) ∈ lw_use := lw_use_at 386 rfl rfl
set_option maxRecDepth 20000 in
theorem k_387 : (.selects RX2 yX2_seal yX2_seal : Cond) ∈ lw_use := lw_use_at 387 rfl rfl
set_option maxRecDepth 20000 in
theorem k_388 : (.code yX2_seal cX2_seal 4 (some .int) : Cond) ∈ lw_use := lw_use_at 388 rfl rfl
set_option maxRecDepth 20000 in
theorem k_389 : (.methodLink RX2 196 yX2_isSealNumber : Cond) ∈ lw_use := lw_use_at 389 rfl rfl
set_option maxRecDepth 20000 in
theorem k_390 : (.static yX2_isSealNumber : Cond) ∈ lw_use := lw_use_at 390 rfl rfl
set_option maxRecDepth 20000 in
theorem k_391 : (.code yX2_isSealNumber cX2_isSealNumber 1 (some .boolean) : Cond) ∈ lw_use := lw_use_at 391 rfl rfl
set_option maxRecDepth 20000 in
theorem k_392 : (.methodLink RX2 199 yX2_wasPutOn : Cond) ∈ lw_use := lw_use_at 392 rfl rfl
set_option maxRecDepth 20000 in
theorem k_394 : (.instanceMethod yX2_wasPutOn : Cond) ∈ lw_use := lw_use_at 394 rfl rfl
set_option maxRecDepth 20000 in
theorem k_395 : (.code yX2_wasPutOn cX2_wasPutOn 2 (some .boolean) : Cond) ∈ lw_use := lw_use_at 395 rfl rfl
set_option maxRecDepth 20000 in
theorem k_396 : (.methodLink RX2 202 yX2_markPutOn : Cond) ∈ lw_use := lw_use_at 396 rfl rfl
set_option maxRecDepth 20000 in
theorem k_398 : (.instanceMethod yX2_markPutOn : Cond) ∈ lw_use := lw_use_at 398 rfl rfl
set_option maxRecDepth 20000 in
theorem k_399 : (.code yX2_markPutOn cX2_markPutOn 2 none : Cond) ∈ lw_use := lw_use_at 399 rfl rfl
set_option maxRecDepth 20000 in
theorem k_400 : (.methodLink RL 90 yX2_sealed : Cond) ∈ lw_use := lw_use_at 400 rfl rfl
set_option maxRecDepth 20000 in
theorem k_401 : (.instanceMethod yX2_sealed : Cond) ∈ lw_use := lw_use_at 401 rfl rfl
set_option maxRecDepth 20000 in
theorem k_402 : (.selects RX2 yX2_sealed yX2_sealed : Cond) ∈ lw_use := lw_use_at 402 rfl rfl
set_option maxRecDepth 20000 in
theorem k_403 : (.code yX2_sealed cX2_sealed 4 (some .int) : Cond) ∈ lw_use := lw_use_at 403 rfl rfl
set_option maxRecDepth 20000 in
theorem k_404 : (.methodLink RL 94 yX2_charge : Cond) ∈ lw_use := lw_use_at 404 rfl rfl
set_option maxRecDepth 20000 in
theorem k_405 : (.instanceMethod yX2_charge : Cond) ∈ lw_use := lw_use_at 405 rfl rfl
set_option maxRecDepth 20000 in
theorem k_406 : (.selects RX2 yX2_charge yX2_charge : Cond) ∈ lw_use := lw_use_at 406 rfl rfl
set_option maxRecDepth 20000 in
theorem k_407 : (.code yX2_charge cX2_charge 7 (some .int) : Cond) ∈ lw_use := lw_use_at 407 rfl rfl
set_option maxRecDepth 20000 in
theorem k_408 : (.methodLink RX2 212 yJ9_min_7cf53 : Cond) ∈ lw_use := lw_use_at 408 rfl rfl
set_option maxRecDepth 20000 in
theorem k_409 : (.methodLink RL 98 yX2_charged : Cond) ∈ lw_use := lw_use_at 409 rfl rfl
set_option maxRecDepth 20000 in
theorem k_410 : (.instanceMethod yX2_charged : Cond) ∈ lw_use := lw_use_at 410 rfl rfl
set_option maxRecDepth 20000 in
theorem k_411 : (.selects RX2 yX2_charged yX2_charged : Cond) ∈ lw_use := lw_use_at 411 rfl rfl
set_option maxRecDepth 20000 in
theorem k_412 : (.code yX2_charged cX2_charged 2 (some .long) : Cond) ∈ lw_use := lw_use_at 412 rfl rfl
set_option maxRecDepth 20000 in
theorem k_413 : (.constantLong RX2 217 (-1) : Cond) ∈ lw_use := lw_use_at 413 rfl rfl
set_option maxRecDepth 20000 in
theorem k_414 : (.methodLink RL 103 yX2_first : Cond) ∈ lw_use := lw_use_at 414 rfl rfl
set_option maxRecDepth 20000 in
theorem k_415 : (.instanceMethod yX2_first : Cond) ∈ lw_use := lw_use_at 415 rfl rfl
set_option maxRecDepth 20000 in
theorem k_416 : (.selects RX2 yX2_first yX2_first : Cond) ∈ lw_use := lw_use_at 416 rfl rfl
set_option maxRecDepth 20000 in
theorem k_417 : (.code yX2_first cX2_first 3 (some .int) : Cond) ∈ lw_use := lw_use_at 417 rfl rfl
set_option maxRecDepth 20000 in
theorem k_418 : (.methodLink RX2 219 yX2_rankThings : Cond) ∈ lw_use := lw_use_at 418 rfl rfl
set_option maxRecDepth 20000 in
theorem k_420 : (.instanceMethod yX2_rankThings : Cond) ∈ lw_use := lw_use_at 420 rfl rfl
set_option maxRecDepth 20000 in
theorem k_421 : (.code yX2_rankThings cX2_rankThings 4 (some .int) : Cond) ∈ lw_use := lw_use_at 421 rfl rfl
set_option maxRecDepth 20000 in
theorem k_422 : (.methodLink RX2 242 yX2_urgencyOf : Cond) ∈ lw_use := lw_use_at 422 rfl rfl
set_option maxRecDepth 20000 in
theorem k_424 : (.instanceMethod yX2_urgencyOf : Cond) ∈ lw_use := lw_use_at 424 rfl rfl
set_option maxRecDepth 20000 in
theorem k_425 : (.code yX2_urgencyOf cX2_urgencyOf 3 (some .long) : Cond) ∈ lw_use := lw_use_at 425 rfl rfl
set_option maxRecDepth 20000 in
theorem k_426 : (.constantLong RX2 250 (3298534883328) : Cond) ∈ lw_use := lw_use_at 426 rfl rfl
set_option maxRecDepth 20000 in
theorem k_427 : (.constantLong RX2 252 (2199023255552) : Cond) ∈ lw_use := lw_use_at 427 rfl rfl
set_option maxRecDepth 20000 in
theorem k_428 : (.constantLong RX2 254 (1099511627776) : Cond) ∈ lw_use := lw_use_at 428 rfl rfl
set_option maxRecDepth 20000 in
theorem k_429 : (.methodLink RX2 246 yX2_rankBehind : Cond) ∈ lw_use := lw_use_at 429 rfl rfl
set_option maxRecDepth 20000 in
theorem k_431 : (.instanceMethod yX2_rankBehind : Cond) ∈ lw_use := lw_use_at 431 rfl rfl
set_option maxRecDepth 20000 in
theorem k_432 : (.code yX2_rankBehind cX2_rankBehind 6 none : Cond) ∈ lw_use := lw_use_at 432 rfl rfl
set_option maxRecDepth 20000 in
theorem k_433 : (.methodLink RL 107 yX2_count : Cond) ∈ lw_use := lw_use_at 433 rfl rfl
set_option maxRecDepth 20000 in
theorem k_434 : (.instanceMethod yX2_count : Cond) ∈ lw_use := lw_use_at 434 rfl rfl
set_option maxRecDepth 20000 in
theorem k_435 : (.selects RX2 yX2_count yX2_count : Cond) ∈ lw_use := lw_use_at 435 rfl rfl
set_option maxRecDepth 20000 in
theorem k_436 : (.code yX2_count cX2_count 2 (some .int) : Cond) ∈ lw_use := lw_use_at 436 rfl rfl
set_option maxRecDepth 20000 in
theorem k_437 : (.methodLink RX2 222 yX2_howManyDue : Cond) ∈ lw_use := lw_use_at 437 rfl rfl
set_option maxRecDepth 20000 in
theorem k_439 : (.instanceMethod yX2_howManyDue : Cond) ∈ lw_use := lw_use_at 439 rfl rfl
set_option maxRecDepth 20000 in
theorem k_440 : (.code yX2_howManyDue cX2_howManyDue 4 (some .int) : Cond) ∈ lw_use := lw_use_at 440 rfl rfl
set_option maxRecDepth 20000 in
theorem k_441 : (.methodLink RX2 225 yX2_howManyJudged : Cond) ∈ lw_use := lw_use_at 441 rfl rfl
set_option maxRecDepth 20000 in
theorem k_443 : (.instanceMethod yX2_howManyJudged : Cond) ∈ lw_use := lw_use_at 443 rfl rfl
set_option maxRecDepth 20000 in
theorem k_444 : (.code yX2_howManyJudged cX2_howManyJudged 5 (some .int) : Cond) ∈ lw_use := lw_use_at 444 rfl rfl
set_option maxRecDepth 20000 in
theorem k_445 : (.classLink RL 10 RX3 : Cond) ∈ lw_use := lw_use_at 445 rfl rfl
set_option maxRecDepth 20000 in
theorem k_446 : (.instantiable RX3 28 : Cond) ∈ lw_use := lw_use_at 446 rfl rfl
set_option maxRecDepth 20000 in
theorem k_447 : (.methodLink RL 12 yX3_init : Cond) ∈ lw_use := lw_use_at 447 rfl rfl
set_option maxRecDepth 20000 in
theorem k_448 : (.instanceMethod yX3_init : Cond) ∈ lw_use := lw_use_at 448 rfl rfl
set_option maxRecDepth 20000 in
theorem k_449 : (.code yX3_init cX3_init 2 none : Cond) ∈ lw_use := lw_use_at 449 rfl rfl
set_option maxRecDepth 20000 in
theorem k_451 : (.fieldLink RX3 92 "TrueWeightsModel" "day" "I" : Cond) ∈ lw_use := lw_use_at 451 rfl rfl
set_option maxRecDepth 20000 in
theorem k_452 : (.fieldLink RX3 84 "TrueWeightsModel" "things" "I" : Cond) ∈ lw_use := lw_use_at 452 rfl rfl
set_option maxRecDepth 20000 in
theorem k_453 : (.fieldLink RX3 7 "TrueWeightsModel" "kind" "[I" : Cond) ∈ lw_use := lw_use_at 453 rfl rfl
set_option maxRecDepth 20000 in
theorem k_454 : (.fieldLink RX3 13 "TrueWeightsModel" "drift" "[I" : Cond) ∈ lw_use := lw_use_at 454 rfl rfl
set_option maxRecDepth 20000 in
theorem k_455 : (.fieldLink RX3 16 "TrueWeightsModel" "period" "[I" : Cond) ∈ lw_use := lw_use_at 455 rfl rfl
set_option maxRecDepth 20000 in
theorem k_456 : (.fieldLink RX3 19 "TrueWeightsModel" "owner" "[I" : Cond) ∈ lw_use := lw_use_at 456 rfl rfl
set_option maxRecDepth 20000 in
theorem k_457 : (.fieldLink RX3 22 "TrueWeightsModel" "many" "[I" : Cond) ∈ lw_use := lw_use_at 457 rfl rfl
set_option maxRecDepth 20000 in
theorem k_458 : (.fieldLink RX3 25 "TrueWeightsModel" "latest" "[I" : Cond) ∈ lw_use := lw_use_at 458 rfl rfl
set_option maxRecDepth 20000 in
theorem k_459 : (.fieldLink RX3 28 "TrueWeightsModel" "seal" "[I" : Cond) ∈ lw_use := lw_use_at 459 rfl rfl
set_option maxRecDepth 20000 in
theorem k_460 : (.fieldLink RX3 31 "TrueWeightsModel" "charges" "[I" : Cond) ∈ lw_use := lw_use_at 460 rfl rfl
set_option maxRecDepth 20000 in
theorem k_461 : (.fieldLink RX3 34 "TrueWeightsModel" "draws" "[I" : Cond) ∈ lw_use := lw_use_at 461 rfl rfl
set_option maxRecDepth 20000 in
theorem k_462 : (.fieldLink RX3 37 "TrueWeightsModel" "draw" "[I" : Cond) ∈ lw_use := lw_use_at 462 rfl rfl
set_option maxRecDepth 20000 in
theorem k_463 : (.fieldLink RX3 40 "TrueWeightsModel" "allowNew" "[I" : Cond) ∈ lw_use := lw_use_at 463 rfl rfl
set_option maxRecDepth 20000 in
theorem k_464 : (.fieldLink RX3 43 "TrueWeightsModel" "allowUse" "[I" : Cond) ∈ lw_use := lw_use_at 464 rfl rfl
set_option maxRecDepth 20000 in
theorem k_465 : (.fieldLink RX3 46 "TrueWeightsModel" "isUsed" "[Z" : Cond) ∈ lw_use := lw_use_at 465 rfl rfl
set_option maxRecDepth 20000 in
theorem k_466 : (.fieldLink RX3 111 "TrueWeightsModel" "trials" "I" : Cond) ∈ lw_use := lw_use_at 466 rfl rfl
set_option maxRecDepth 20000 in
theorem k_467 : (.fieldLink RX3 50 "TrueWeightsModel" "ofThing" "[I" : Cond) ∈ lw_use := lw_use_at 467 rfl rfl
set_option maxRecDepth 20000 in
theorem k_468 : (.fieldLink RX3 53 "TrueWeightsModel" "byThing" "[I" : Cond) ∈ lw_use := lw_use_at 468 rfl rfl
set_option maxRecDepth 20000 in
theorem k_469 : (.fieldLink RX3 56 "TrueWeightsModel" "onDay" "[I" : Cond) ∈ lw_use := lw_use_at 469 rfl rfl
set_option maxRecDepth 20000 in
theorem k_470 : (.fieldLink RX3 59 "TrueWeightsModel" "error" "[I" : Cond) ∈ lw_use := lw_use_at 470 rfl rfl
set_option maxRecDepth 20000 in
theorem k_471 : (.fieldLink RX3 62 "TrueWeightsModel" "span" "[I" : Cond) ∈ lw_use := lw_use_at 471 rfl rfl
set_option maxRecDepth 20000 in
theorem k_472 : (.fieldLink RX3 65 "TrueWeightsModel" "isSettled" "[Z" : Cond) ∈ lw_use := lw_use_at 472 rfl rfl
set_option maxRecDepth 20000 in
theorem k_473 : (.fieldLink RX3 68 "TrueWeightsModel" "found" "[Z" : Cond) ∈ lw_use := lw_use_at 473 rfl rfl
set_option maxRecDepth 20000 in
theorem k_474 : (.fieldLink RX3 71 "TrueWeightsModel" "base" "[I" : Cond) ∈ lw_use := lw_use_at 474 rfl rfl
set_option maxRecDepth 20000 in
theorem k_475 : (.fieldLink RX3 74 "TrueWeightsModel" "isCharged" "[Z" : Cond) ∈ lw_use := lw_use_at 475 rfl rfl
set_option maxRecDepth 20000 in
theorem k_476 : (.fieldLink RX3 138 "TrueWeightsModel" "allCharges" "I" : Cond) ∈ lw_use := lw_use_at 476 rfl rfl
set_option maxRecDepth 20000 in
theorem k_477 : (.fieldLink RX3 77 "TrueWeightsModel" "ownerCharges" "[I" : Cond) ∈ lw_use := lw_use_at 477 rfl rfl
set_option maxRecDepth 20000 in
theorem k_478 : (.fieldLink RX3 80 "TrueWeightsModel" "ownerSum" "[J" : Cond) ∈ lw_use := lw_use_at 478 rfl rfl
set_option maxRecDepth 20000 in
theorem k_536 : (.arrayClass .boolean : Cond) ∈ lw_use := lw_use_at 536 rfl rfl
set_option maxRecDepth 20000 in
theorem k_537 : (.methodLink RL 17 yX3_pass : Cond) ∈ lw_use := lw_use_at 537 rfl rfl
set_option maxRecDepth 20000 in
theorem k_538 : (.instanceMethod yX3_pass : Cond) ∈ lw_use := lw_use_at 538 rfl rfl
set_option maxRecDepth 20000 in
theorem k_539 : (.selects RX3 yX3_pass yX3_pass : Cond) ∈ lw_use := lw_use_at 539 rfl rfl
set_option maxRecDepth 20000 in
theorem k_540 : (.code yX3_pass cX3_pass 2 (some .int) : Cond) ∈ lw_use := lw_use_at 540 rfl rfl
set_option maxRecDepth 20000 in
theorem k_541 : (.methodLink RX3 88 yX3_in : Cond) ∈ lw_use := lw_use_at 541 rfl rfl
set_option maxRecDepth 20000 in
theorem k_542 : (.static yX3_in : Cond) ∈ lw_use := lw_use_at 542 rfl rfl
set_option maxRecDepth 20000 in
theorem k_543 : (.code yX3_in cX3_in 3 (some .boolean) : Cond) ∈ lw_use := lw_use_at 543 rfl rfl
set_option maxRecDepth 20000 in
theorem k_544 : (.methodLink RL 22 yX3_thing : Cond) ∈ lw_use := lw_use_at 544 rfl rfl
set_option maxRecDepth 20000 in
theorem k_545 : (.instanceMethod yX3_thing : Cond) ∈ lw_use := lw_use_at 545 rfl rfl
set_option maxRecDepth 20000 in
theorem k_546 : (.selects RX3 yX3_thing yX3_thing : Cond) ∈ lw_use := lw_use_at 546 rfl rfl
set_option maxRecDepth 20000 in
theorem k_547 : (.code yX3_thing cX3_thing 5 (some .int) : Cond) ∈ lw_use := lw_use_at 547 rfl rfl
set_option maxRecDepth 20000 in
theorem k_548 : (.constant RX3 95 (-1000000) : Cond) ∈ lw_use := lw_use_at 548 rfl rfl
set_option maxRecDepth 20000 in
theorem k_549 : (.methodLink RL 27 yX3_about : Cond) ∈ lw_use := lw_use_at 549 rfl rfl
set_option maxRecDepth 20000 in
theorem k_550 : (.instanceMethod yX3_about : Cond) ∈ lw_use := lw_use_at 550 rfl rfl
set_option maxRecDepth 20000 in
theorem k_551 : (.selects RX3 yX3_about yX3_about : Cond) ∈ lw_use := lw_use_at 551 rfl rfl
set_option maxRecDepth 20000 in
theorem k_552 : (.code yX3_about cX3_about 3 (some .int) : Cond) ∈ lw_use := lw_use_at 552 rfl rfl
set_option maxRecDepth 20000 in
theorem k_553 : (.methodLink RX3 96 yX3_isThing : Cond) ∈ lw_use := lw_use_at 553 rfl rfl
set_option maxRecDepth 20000 in
theorem k_555 : (.instanceMethod yX3_isThing : Cond) ∈ lw_use := lw_use_at 555 rfl rfl
set_option maxRecDepth 20000 in
theorem k_556 : (.code yX3_isThing cX3_isThing 2 (some .boolean) : Cond) ∈ lw_use := lw_use_at 556 rfl rfl
set_option maxRecDepth 20000 in
theorem k_557 : (.methodLink RL 31 yX3_draw : Cond) ∈ lw_use := lw_use_at 557 rfl rfl
set_option maxRecDepth 20000 in
theorem k_558 : (.instanceMethod yX3_draw : Cond) ∈ lw_use := lw_use_at 558 rfl rfl
set_option maxRecDepth 20000 in
theorem k_559 : (.selects RX3 yX3_draw yX3_draw : Cond) ∈ lw_use := lw_use_at 559 rfl rfl
set_option maxRecDepth 20000 in
theorem k_560 : (.code yX3_draw cX3_draw 3 (some .int) : Cond) ∈ lw_use := lw_use_at 560 rfl rfl
set_option maxRecDepth 20000 in
theorem k_561 : (.constant RX3 100 (-100000) : Cond) ∈ lw_use := lw_use_at 561 rfl rfl
set_option maxRecDepth 20000 in
theorem k_562 : (.constant RX3 101 (100000) : Cond) ∈ lw_use := lw_use_at 562 rfl rfl
set_option maxRecDepth 20000 in
theorem k_563 : (.methodLink RL 36 yX3_allow : Cond) ∈ lw_use := lw_use_at 563 rfl rfl
set_option maxRecDepth 20000 in
theorem k_564 : (.instanceMethod yX3_allow : Cond) ∈ lw_use := lw_use_at 564 rfl rfl
set_option maxRecDepth 20000 in
theorem k_565 : (.selects RX3 yX3_allow yX3_allow : Cond) ∈ lw_use := lw_use_at 565 rfl rfl
set_option maxRecDepth 20000 in
theorem k_566 : (.code yX3_allow cX3_allow 5 (some .int) : Cond) ∈ lw_use := lw_use_at 566 rfl rfl
set_option maxRecDepth 20000 in
theorem k_567 : (.methodLink RL 40 yX3_move : Cond) ∈ lw_use := lw_use_at 567 rfl rfl
set_option maxRecDepth 20000 in
theorem k_568 : (.instanceMethod yX3_move : Cond) ∈ lw_use := lw_use_at 568 rfl rfl
set_option maxRecDepth 20000 in
theorem k_569 : (.selects RX3 yX3_move yX3_move : Cond) ∈ lw_use := lw_use_at 569 rfl rfl
set_option maxRecDepth 20000 in
theorem k_570 : (.code yX3_move cX3_move 4 (some .int) : Cond) ∈ lw_use := lw_use_at 570 rfl rfl
set_option maxRecDepth 20000 in
theorem k_571 : (.methodLink RX3 102 yX3_isTool : Cond) ∈ lw_use := lw_use_at 571 rfl rfl
set_option maxRecDepth 20000 in
theorem k_573 : (.instanceMethod yX3_isTool : Cond) ∈ lw_use := lw_use_at 573 rfl rfl
set_option maxRecDepth 20000 in
theorem k_574 : (.code yX3_isTool cX3_isTool 2 (some .boolean) : Cond) ∈ lw_use := lw_use_at 574 rfl rfl
set_option maxRecDepth 20000 in
theorem k_575 : (.methodLink RL 44 yX3_trial : Cond) ∈ lw_use := lw_use_at 575 rfl rfl
set_option maxRecDepth 20000 in
theorem k_576 : (.instanceMethod yX3_trial : Cond) ∈ lw_use := lw_use_at 576 rfl rfl
set_option maxRecDepth 20000 in
theorem k_577 : (.selects RX3 yX3_trial yX3_trial : Cond) ∈ lw_use := lw_use_at 577 rfl rfl
set_option maxRecDepth 20000 in
theorem k_578 : (.code yX3_trial cX3_trial 10 (some .int) : Cond) ∈ lw_use := lw_use_at 578 rfl rfl
set_option maxRecDepth 20000 in
theorem k_579 : (.methodLink RX3 105 yX3_settledNow : Cond) ∈ lw_use := lw_use_at 579 rfl rfl
set_option maxRecDepth 20000 in
theorem k_581 : (.instanceMethod yX3_settledNow : Cond) ∈ lw_use := lw_use_at 581 rfl rfl
set_option maxRecDepth 20000 in
theorem k_582 : (.code yX3_settledNow cX3_settledNow 2 (some .boolean) : Cond) ∈ lw_use := lw_use_at 582 rfl rfl
set_option maxRecDepth 20000 in
theorem k_583 : (.methodLink RX3 108 yX3_dueNow : Cond) ∈ lw_use := lw_use_at 583 rfl rfl
set_option maxRecDepth 20000 in
theorem k_585 : (.instanceMethod yX3_dueNow : Cond) ∈ lw_use := lw_use_at 585 rfl rfl
set_option maxRecDepth 20000 in
theorem k_586 : (.code yX3_dueNow cX3_dueNow 2 (some .boolean) : Cond) ∈ lw_use := lw_use_at 586 rfl rfl
set_option maxRecDepth 20000 in
theorem k_587 : (.methodLink RX3 114 yX3_errorOf : Cond) ∈ lw_use := lw_use_at 587 rfl rfl
set_option maxRecDepth 20000 in
theorem k_589 : (.instanceMethod yX3_errorOf : Cond) ∈ lw_use := lw_use_at 589 rfl rfl
set_option maxRecDepth 20000 in
theorem k_590 : (.code yX3_errorOf cX3_errorOf 2 (some .int) : Cond) ∈ lw_use := lw_use_at 590 rfl rfl
set_option maxRecDepth 20000 in
theorem k_591 : (.methodLink RX3 118 yX3_middle : Cond) ∈ lw_use := lw_use_at 591 rfl rfl
set_option maxRecDepth 20000 in
theorem k_593 : (.instanceMethod yX3_middle : Cond) ∈ lw_use := lw_use_at 593 rfl rfl
set_option maxRecDepth 20000 in
theorem k_594 : (.code yX3_middle cX3_middle 7 (some .int) : Cond) ∈ lw_use := lw_use_at 594 rfl rfl
set_option maxRecDepth 20000 in
theorem k_595 : (.methodLink RX3 121 yX3_spanOn : Cond) ∈ lw_use := lw_use_at 595 rfl rfl
set_option maxRecDepth 20000 in
theorem k_597 : (.instanceMethod yX3_spanOn : Cond) ∈ lw_use := lw_use_at 597 rfl rfl
set_option maxRecDepth 20000 in
theorem k_598 : (.code yX3_spanOn cX3_spanOn 3 (some .int) : Cond) ∈ lw_use := lw_use_at 598 rfl rfl
set_option maxRecDepth 20000 in
theorem k_599 : (.methodLink RX3 125 yX3_range : Cond) ∈ lw_use := lw_use_at 599 rfl rfl
set_option maxRecDepth 20000 in
theorem k_601 : (.instanceMethod yX3_range : Cond) ∈ lw_use := lw_use_at 601 rfl rfl
set_option maxRecDepth 20000 in
theorem k_602 : (.code yX3_range cX3_range 5 (some .int) : Cond) ∈ lw_use := lw_use_at 602 rfl rfl
set_option maxRecDepth 20000 in
theorem k_603 : (.methodLink RX3 128 yX3_unsettle : Cond) ∈ lw_use := lw_use_at 603 rfl rfl
set_option maxRecDepth 20000 in
theorem k_605 : (.instanceMethod yX3_unsettle : Cond) ∈ lw_use := lw_use_at 605 rfl rfl
set_option maxRecDepth 20000 in
theorem k_606 : (.code yX3_unsettle cX3_unsettle 3 none : Cond) ∈ lw_use := lw_use_at 606 rfl rfl
set_option maxRecDepth 20000 in
theorem k_607 : (.methodLink RL 48 yX3_told : Cond) ∈ lw_use := lw_use_at 607 rfl rfl
set_option maxRecDepth 20000 in
theorem k_608 : (.instanceMethod yX3_told : Cond) ∈ lw_use := lw_use_at 608 rfl rfl
set_option maxRecDepth 20000 in
theorem k_609 : (.selects RX3 yX3_told yX3_told : Cond) ∈ lw_use := lw_use_at 609 rfl rfl
set_option maxRecDepth 20000 in
theorem k_610 : (.code yX3_told cX3_told 3 (some .int) : Cond) ∈ lw_use := lw_use_at 610 rfl rfl
set_option maxRecDepth 20000 in
theorem k_611 : (.methodLink RL 52 yX3_error : Cond) ∈ lw_use := lw_use_at 611 rfl rfl
set_option maxRecDepth 20000 in
theorem k_612 : (.instanceMethod yX3_error : Cond) ∈ lw_use := lw_use_at 612 rfl rfl
set_option maxRecDepth 20000 in
theorem k_613 : (.selects RX3 yX3_error yX3_error : Cond) ∈ lw_use := lw_use_at 613 rfl rfl
set_option maxRecDepth 20000 in
theorem k_614 : (.code yX3_error cX3_error 2 (some .int) : Cond) ∈ lw_use := lw_use_at 614 rfl rfl
set_option maxRecDepth 20000 in
theorem k_615 : (.methodLink RL 56 yX3_span : Cond) ∈ lw_use := lw_use_at 615 rfl rfl
set_option maxRecDepth 20000 in
theorem k_616 : (.instanceMethod yX3_span : Cond) ∈ lw_use := lw_use_at 616 rfl rfl
set_option maxRecDepth 20000 in
theorem k_617 : (.selects RX3 yX3_span yX3_span : Cond) ∈ lw_use := lw_use_at 617 rfl rfl
set_option maxRecDepth 20000 in
theorem k_618 : (.code yX3_span cX3_span 2 (some .int) : Cond) ∈ lw_use := lw_use_at 618 rfl rfl
set_option maxRecDepth 20000 in
theorem k_619 : (.methodLink RL 60 yX3_settled : Cond) ∈ lw_use := lw_use_at 619 rfl rfl
set_option maxRecDepth 20000 in
theorem k_620 : (.instanceMethod yX3_settled : Cond) ∈ lw_use := lw_use_at 620 rfl rfl
set_option maxRecDepth 20000 in
theorem k_621 : (.selects RX3 yX3_settled yX3_settled : Cond) ∈ lw_use := lw_use_at 621 rfl rfl
set_option maxRecDepth 20000 in
theorem k_622 : (.code yX3_settled cX3_settled 2 (some .int) : Cond) ∈ lw_use := lw_use_at 622 rfl rfl
set_option maxRecDepth 20000 in
theorem k_623 : (.methodLink RL 64 yX3_due : Cond) ∈ lw_use := lw_use_at 623 rfl rfl
set_option maxRecDepth 20000 in
theorem k_624 : (.instanceMethod yX3_due : Cond) ∈ lw_use := lw_use_at 624 rfl rfl
set_option maxRecDepth 20000 in
theorem k_625 : (.selects RX3 yX3_due yX3_due : Cond) ∈ lw_use := lw_use_at 625 rfl rfl
set_option maxRecDepth 20000 in
theorem k_626 : (.code yX3_due cX3_due 2 (some .int) : Cond) ∈ lw_use := lw_use_at 626 rfl rfl
set_option maxRecDepth 20000 in
theorem k_627 : (.methodLink RL 68 yX3_left : Cond) ∈ lw_use := lw_use_at 627 rfl rfl
set_option maxRecDepth 20000 in
theorem k_628 : (.instanceMethod yX3_left : Cond) ∈ lw_use := lw_use_at 628 rfl rfl
set_option maxRecDepth 20000 in
theorem k_629 : (.selects RX3 yX3_left yX3_left : Cond) ∈ lw_use := lw_use_at 629 rfl rfl
set_option maxRecDepth 20000 in
theorem k_630 : (.code yX3_left cX3_left 2 (some .int) : Cond) ∈ lw_use := lw_use_at 630 rfl rfl
set_option maxRecDepth 20000 in
theorem k_631 : (.methodLink RL 72 yX3_chain : Cond) ∈ lw_use := lw_use_at 631 rfl rfl
set_option maxRecDepth 20000 in
theorem k_632 : (.instanceMethod yX3_chain : Cond) ∈ lw_use := lw_use_at 632 rfl rfl
set_option maxRecDepth 20000 in
theorem k_633 : (.selects RX3 yX3_chain yX3_chain : Cond) ∈ lw_use := lw_use_at 633 rfl rfl
set_option maxRecDepth 20000 in
theorem k_634 : (.code yX3_chain cX3_chain 5 (some .int) : Cond) ∈ lw_use := lw_use_at 634 rfl rfl
set_option maxRecDepth 20000 in
theorem k_635 : (.methodLink RL 77 yX3_unsettled : Cond) ∈ lw_use := lw_use_at 635 rfl rfl
set_option maxRecDepth 20000 in
theorem k_636 : (.instanceMethod yX3_unsettled : Cond) ∈ lw_use := lw_use_at 636 rfl rfl
set_option maxRecDepth 20000 in
theorem k_637 : (.selects RX3 yX3_unsettled yX3_unsettled : Cond) ∈ lw_use := lw_use_at 637 rfl rfl
set_option maxRecDepth 20000 in
theorem k_638 : (.code yX3_unsettled cX3_unsettled 3 (some .int) : Cond) ∈ lw_use := lw_use_at 638 rfl rfl
set_option maxRecDepth 20000 in
theorem k_639 : (.methodLink RL 81 yX3_judge : Cond) ∈ lw_use := lw_use_at 639 rfl rfl
set_option maxRecDepth 20000 in
theorem k_640 : (.instanceMethod yX3_judge : Cond) ∈ lw_use := lw_use_at 640 rfl rfl
set_option maxRecDepth 20000 in
theorem k_641 : (.selects RX3 yX3_judge yX3_judge : Cond) ∈ lw_use := lw_use_at 641 rfl rfl
set_option maxRecDepth 20000 in
theorem k_642 : (.code yX3_judge cX3_judge 2 (some .int) : Cond) ∈ lw_use := lw_use_at 642 rfl rfl
set_option maxRecDepth 20000 in
theorem k_643 : (.methodLink RX3 135 yX3_judgedOn : Cond) ∈ lw_use := lw_use_at 643 rfl rfl
set_option maxRecDepth 20000 in
theorem k_645 : (.instanceMethod yX3_judgedOn : Cond) ∈ lw_use := lw_use_at 645 rfl rfl
set_option maxRecDepth 20000 in
theorem k_646 : (.code yX3_judgedOn cX3_judgedOn 6 (some .int) : Cond) ∈ lw_use := lw_use_at 646 rfl rfl
set_option maxRecDepth 20000 in
theorem k_647 : (.methodLink RX3 132 yX3_allowance : Cond) ∈ lw_use := lw_use_at 647 rfl rfl
set_option maxRecDepth 20000 in
theorem k_649 : (.instanceMethod yX3_allowance : Cond) ∈ lw_use := lw_use_at 649 rfl rfl
set_option maxRecDepth 20000 in
theorem k_650 : (.code yX3_allowance cX3_allowance 2 (some .int) : Cond) ∈ lw_use := lw_use_at 650 rfl rfl
set_option maxRecDepth 20000 in
theorem k_651 : (.methodLink RL 85 yX3_stays : Cond) ∈ lw_use := lw_use_at 651 rfl rfl
set_option maxRecDepth 20000 in
theorem k_652 : (.instanceMethod yX3_stays : Cond) ∈ lw_use := lw_use_at 652 rfl rfl
set_option maxRecDepth 20000 in
theorem k_653 : (.selects RX3 yX3_stays yX3_stays : Cond) ∈ lw_use := lw_use_at 653 rfl rfl
set_option maxRecDepth 20000 in
theorem k_654 : (.code yX3_stays cX3_stays 4 (some .int) : Cond) ∈ lw_use := lw_use_at 654 rfl rfl
set_option maxRecDepth 20000 in
theorem k_655 : (.methodLink RL 89 yX3_seal : Cond) ∈ lw_use := lw_use_at 655 rfl rfl
set_option maxRecDepth 20000 in
theorem k_656 : (.instanceMethod yX3_seal : Cond) ∈ lw_use := lw_use_at 656 rfl rfl
set_option maxRecDepth 20000 in
theorem k_657 : (.selects RX3 yX3_seal yX3_seal : Cond) ∈ lw_use := lw_use_at 657 rfl rfl
set_option maxRecDepth 20000 in
theorem k_658 : (.code yX3_seal cX3_seal 3 (some .int) : Cond) ∈ lw_use := lw_use_at 658 rfl rfl
set_option maxRecDepth 20000 in
theorem k_659 : (.methodLink RL 93 yX3_sealed : Cond) ∈ lw_use := lw_use_at 659 rfl rfl
set_option maxRecDepth 20000 in
theorem k_660 : (.instanceMethod yX3_sealed : Cond) ∈ lw_use := lw_use_at 660 rfl rfl
set_option maxRecDepth 20000 in
theorem k_661 : (.selects RX3 yX3_sealed yX3_sealed : Cond) ∈ lw_use := lw_use_at 661 rfl rfl
set_option maxRecDepth 20000 in
theorem k_662 : (.code yX3_sealed cX3_sealed 3 (some .int) : Cond) ∈ lw_use := lw_use_at 662 rfl rfl
set_option maxRecDepth 20000 in
theorem k_663 : (.methodLink RL 97 yX3_charge : Cond) ∈ lw_use := lw_use_at 663 rfl rfl
set_option maxRecDepth 20000 in
theorem k_664 : (.instanceMethod yX3_charge : Cond) ∈ lw_use := lw_use_at 664 rfl rfl
set_option maxRecDepth 20000 in
theorem k_665 : (.selects RX3 yX3_charge yX3_charge : Cond) ∈ lw_use := lw_use_at 665 rfl rfl
set_option maxRecDepth 20000 in
theorem k_666 : (.code yX3_charge cX3_charge 6 (some .int) : Cond) ∈ lw_use := lw_use_at 666 rfl rfl
set_option maxRecDepth 20000 in
theorem k_667 : (.methodLink RL 102 yX3_charged : Cond) ∈ lw_use := lw_use_at 667 rfl rfl
set_option maxRecDepth 20000 in
theorem k_668 : (.instanceMethod yX3_charged : Cond) ∈ lw_use := lw_use_at 668 rfl rfl
set_option maxRecDepth 20000 in
theorem k_669 : (.selects RX3 yX3_charged yX3_charged : Cond) ∈ lw_use := lw_use_at 669 rfl rfl
set_option maxRecDepth 20000 in
theorem k_670 : (.code yX3_charged cX3_charged 2 (some .long) : Cond) ∈ lw_use := lw_use_at 670 rfl rfl
set_option maxRecDepth 20000 in
theorem k_671 : (.constantLong RX3 141 (-1) : Cond) ∈ lw_use := lw_use_at 671 rfl rfl
set_option maxRecDepth 20000 in
theorem k_672 : (.methodLink RL 106 yX3_first : Cond) ∈ lw_use := lw_use_at 672 rfl rfl
set_option maxRecDepth 20000 in
theorem k_673 : (.instanceMethod yX3_first : Cond) ∈ lw_use := lw_use_at 673 rfl rfl
set_option maxRecDepth 20000 in
theorem k_674 : (.selects RX3 yX3_first yX3_first : Cond) ∈ lw_use := lw_use_at 674 rfl rfl
set_option maxRecDepth 20000 in
theorem k_675 : (.code yX3_first cX3_first 5 (some .int) : Cond) ∈ lw_use := lw_use_at 675 rfl rfl
set_option maxRecDepth 20000 in
theorem k_676 : (.methodLink RX3 149 yX3_isAhead : Cond) ∈ lw_use := lw_use_at 676 rfl rfl
set_option maxRecDepth 20000 in
theorem k_678 : (.instanceMethod yX3_isAhead : Cond) ∈ lw_use := lw_use_at 678 rfl rfl
set_option maxRecDepth 20000 in
theorem k_679 : (.code yX3_isAhead cX3_isAhead 3 (some .boolean) : Cond) ∈ lw_use := lw_use_at 679 rfl rfl
set_option maxRecDepth 20000 in
theorem k_680 : (.methodLink RX3 143 yX3_group : Cond) ∈ lw_use := lw_use_at 680 rfl rfl
set_option maxRecDepth 20000 in
theorem k_682 : (.instanceMethod yX3_group : Cond) ∈ lw_use := lw_use_at 682 rfl rfl
set_option maxRecDepth 20000 in
theorem k_683 : (.code yX3_group cX3_group 2 (some .int) : Cond) ∈ lw_use := lw_use_at 683 rfl rfl
set_option maxRecDepth 20000 in
theorem k_684 : (.methodLink RX3 146 yX3_weight : Cond) ∈ lw_use := lw_use_at 684 rfl rfl
set_option maxRecDepth 20000 in
theorem k_686 : (.instanceMethod yX3_weight : Cond) ∈ lw_use := lw_use_at 686 rfl rfl
set_option maxRecDepth 20000 in
theorem k_687 : (.code yX3_weight cX3_weight 3 (some .int) : Cond) ∈ lw_use := lw_use_at 687 rfl rfl
set_option maxRecDepth 20000 in
theorem k_688 : (.methodLink RL 110 yX3_count : Cond) ∈ lw_use := lw_use_at 688 rfl rfl
set_option maxRecDepth 20000 in
theorem k_689 : (.instanceMethod yX3_count : Cond) ∈ lw_use := lw_use_at 689 rfl rfl
set_option maxRecDepth 20000 in
theorem k_690 : (.selects RX3 yX3_count yX3_count : Cond) ∈ lw_use := lw_use_at 690 rfl rfl
set_option maxRecDepth 20000 in
theorem k_691 : (.code yX3_count cX3_count 5 (some .int) : Cond) ∈ lw_use := lw_use_at 691 rfl rfl
set_option maxRecDepth 20000 in
theorem k_38 : (.methodLink RX2 1 objectInit : Cond) ∈ lw_use := lw_use_at 38 rfl rfl
set_option maxRecDepth 20000 in
theorem k_105 : (.methodLink RX0 3 objectInit : Cond) ∈ lw_use := lw_use_at 105 rfl rfl
set_option maxRecDepth 20000 in
theorem k_244 : (.methodLink RX1 1 objectInit : Cond) ∈ lw_use := lw_use_at 244 rfl rfl
set_option maxRecDepth 20000 in
theorem k_450 : (.methodLink RX3 1 objectInit : Cond) ∈ lw_use := lw_use_at 450 rfl rfl
set_option maxRecDepth 20000 in
theorem k_39 : (.instanceMethod objectInit : Cond) ∈ lw_use := lw_use_at 39 rfl rfl
set_option maxRecDepth 20000 in
theorem k_40 : (.code objectInit ⟨#[0xb1]⟩ 1 none : Cond) ∈ lw_use := lw_use_at 40 rfl rfl
set_option maxRecDepth 20000 in
theorem k_nest : (.methodLinkNest RX0 35 yX2_isWithin RX2 : Cond) ∈ lw_tbl := List.mem_of_getElem? (i := 171) rfl
set_option maxRecDepth 20000 in
theorem iX0 : ∀ w ∈ u_ws RX0 TX0 10, w ∈ lw_use := by decide +kernel
set_option maxRecDepth 20000 in
theorem iX1 : ∀ w ∈ u_ws RX1 TX1 10, w ∈ lw_use := by decide +kernel
set_option maxRecDepth 20000 in
theorem iX2 : ∀ w ∈ u_ws RX2 TX2 13, w ∈ lw_use := by decide +kernel
set_option maxRecDepth 20000 in
theorem iX3 : ∀ w ∈ u_ws RX3 TX3 28, w ∈ lw_use := by decide +kernel
end
section
theorem dX0_init_0 : decode cX0_init 0 = .ok (.aload_n 0, 1) := by decide +kernel
theorem dX0_init_1 : decode cX0_init 1 = .ok (.invokespecial 3, 3) := by decide +kernel
theorem dX0_init_4 : decode cX0_init 4 = .ok (.aload_n 0, 1) := by decide +kernel
theorem dX0_init_5 : decode cX0_init 5 = .ok (.iconst 3, 1) := by decide +kernel
theorem dX0_init_6 : decode cX0_init 6 = .ok (.newarray .int, 2) := by decide +kernel
theorem dX0_init_8 : decode cX0_init 8 = .ok (.putfield 9, 3) := by decide +kernel
theorem dX0_init_11 : decode cX0_init 11 = .ok (.aload_n 0, 1) := by decide +kernel
theorem dX0_init_12 : decode cX0_init 12 = .ok (.ldc 15, 2) := by decide +kernel
theorem dX0_init_14 : decode cX0_init 14 = .ok (.putfield 16, 3) := by decide +kernel
theorem dX0_init_17 : decode cX0_init 17 = .ok (.aload_n 0, 1) := by decide +kernel
theorem dX0_init_18 : decode cX0_init 18 = .ok (.iload_n 1, 1) := by decide +kernel
theorem dX0_init_19 : decode cX0_init 19 = .ok (.putfield 20, 3) := by decide +kernel
theorem dX0_init_22 : decode cX0_init 22 = .ok (.aload_n 0, 1) := by decide +kernel
theorem dX0_init_23 : decode cX0_init 23 = .ok (.iload_n 2, 1) := by decide +kernel
theorem dX0_init_24 : decode cX0_init 24 = .ok (.putfield 23, 3) := by decide +kernel
theorem dX0_init_27 : decode cX0_init 27 = .ok (.aload_n 0, 1) := by decide +kernel
theorem dX0_init_28 : decode cX0_init 28 = .ok (.iload_n 3, 1) := by decide +kernel
theorem dX0_init_29 : decode cX0_init 29 = .ok (.putfield 26, 3) := by decide +kernel
theorem dX0_init_32 : decode cX0_init 32 = .ok (.aload_n 0, 1) := by decide +kernel
theorem dX0_init_33 : decode cX0_init 33 = .ok (.iload 4, 2) := by decide +kernel
theorem dX0_init_35 : decode cX0_init 35 = .ok (.putfield 29, 3) := by decide +kernel
theorem dX0_init_38 : decode cX0_init 38 = .ok (.return_, 1) := by decide +kernel
theorem dX0_isOfTrade_0 : decode cX0_isOfTrade 0 = .ok (.aload_n 0, 1) := by decide +kernel
theorem dX0_isOfTrade_1 : decode cX0_isOfTrade 1 = .ok (.getfield 20, 3) := by decide +kernel
theorem dX0_isOfTrade_4 : decode cX0_isOfTrade 4 = .ok (.iconst 2, 1) := by decide +kernel
theorem dX0_isOfTrade_5 : decode cX0_isOfTrade 5 = .ok (.if_icmp .eq 11, 3) := by decide +kernel
theorem dX0_isOfTrade_8 : decode cX0_isOfTrade 8 = .ok (.aload_n 0, 1) := by decide +kernel
theorem dX0_isOfTrade_9 : decode cX0_isOfTrade 9 = .ok (.getfield 20, 3) := by decide +kernel
theorem dX0_isOfTrade_12 : decode cX0_isOfTrade 12 = .ok (.iconst 3, 1) := by decide +kernel
theorem dX0_isOfTrade_13 : decode cX0_isOfTrade 13 = .ok (.if_icmp .ne 7, 3) := by decide +kernel
theorem dX0_isOfTrade_16 : decode cX0_isOfTrade 16 = .ok (.iconst 1, 1) := by decide +kernel
theorem dX0_isOfTrade_17 : decode cX0_isOfTrade 17 = .ok (.goto 4, 3) := by decide +kernel
theorem dX0_isOfTrade_20 : decode cX0_isOfTrade 20 = .ok (.iconst 0, 1) := by decide +kernel
theorem dX0_isOfTrade_21 : decode cX0_isOfTrade 21 = .ok (.ireturn, 1) := by decide +kernel
theorem dX0_hasAllDraws_0 : decode cX0_hasAllDraws 0 = .ok (.aload_n 0, 1) := by decide +kernel
theorem dX0_hasAllDraws_1 : decode cX0_hasAllDraws 1 = .ok (.getfield 32, 3) := by decide +kernel
theorem dX0_hasAllDraws_4 : decode cX0_hasAllDraws 4 = .ok (.iconst 3, 1) := by decide +kernel
theorem dX0_hasAllDraws_5 : decode cX0_hasAllDraws 5 = .ok (.if_icmp .lt 7, 3) := by decide +kernel
theorem dX0_hasAllDraws_8 : decode cX0_hasAllDraws 8 = .ok (.iconst 1, 1) := by decide +kernel
theorem dX0_hasAllDraws_9 : decode cX0_hasAllDraws 9 = .ok (.goto 4, 3) := by decide +kernel
theorem dX0_hasAllDraws_12 : decode cX0_hasAllDraws 12 = .ok (.iconst 0, 1) := by decide +kernel
theorem dX0_hasAllDraws_13 : decode cX0_hasAllDraws 13 = .ok (.ireturn, 1) := by decide +kernel
theorem dX0_addDraw_0 : decode cX0_addDraw 0 = .ok (.aload_n 0, 1) := by decide +kernel
theorem dX0_addDraw_1 : decode cX0_addDraw 1 = .ok (.getfield 32, 3) := by decide +kernel
theorem dX0_addDraw_4 : decode cX0_addDraw 4 = .ok (.iconst 0, 1) := by decide +kernel
theorem dX0_addDraw_5 : decode cX0_addDraw 5 = .ok (.iconst 2, 1) := by decide +kernel
theorem dX0_addDraw_6 : decode cX0_addDraw 6 = .ok (.invokestatic 35, 3) := by decide +kernel
theorem dX0_addDraw_9 : decode cX0_addDraw 9 = .ok (.ifCond .eq 23, 3) := by decide +kernel
theorem dX0_addDraw_12 : decode cX0_addDraw 12 = .ok (.aload_n 0, 1) := by decide +kernel
theorem dX0_addDraw_13 : decode cX0_addDraw 13 = .ok (.getfield 9, 3) := by decide +kernel
theorem dX0_addDraw_16 : decode cX0_addDraw 16 = .ok (.aload_n 0, 1) := by decide +kernel
theorem dX0_addDraw_17 : decode cX0_addDraw 17 = .ok (.getfield 32, 3) := by decide +kernel
theorem dX0_addDraw_20 : decode cX0_addDraw 20 = .ok (.iload_n 1, 1) := by decide +kernel
theorem dX0_addDraw_21 : decode cX0_addDraw 21 = .ok (.iastore, 1) := by decide +kernel
theorem dX0_addDraw_22 : decode cX0_addDraw 22 = .ok (.aload_n 0, 1) := by decide +kernel
theorem dX0_addDraw_23 : decode cX0_addDraw 23 = .ok (.dup, 1) := by decide +kernel
theorem dX0_addDraw_24 : decode cX0_addDraw 24 = .ok (.getfield 32, 3) := by decide +kernel
theorem dX0_addDraw_27 : decode cX0_addDraw 27 = .ok (.iconst 1, 1) := by decide +kernel
theorem dX0_addDraw_28 : decode cX0_addDraw 28 = .ok (.iadd, 1) := by decide +kernel
theorem dX0_addDraw_29 : decode cX0_addDraw 29 = .ok (.putfield 32, 3) := by decide +kernel
theorem dX0_addDraw_32 : decode cX0_addDraw 32 = .ok (.aload_n 0, 1) := by decide +kernel
theorem dX0_addDraw_33 : decode cX0_addDraw 33 = .ok (.getfield 32, 3) := by decide +kernel
theorem dX0_addDraw_36 : decode cX0_addDraw 36 = .ok (.ireturn, 1) := by decide +kernel
theorem dX0_leastDraw_0 : decode cX0_leastDraw 0 = .ok (.aload_n 0, 1) := by decide +kernel
theorem dX0_leastDraw_1 : decode cX0_leastDraw 1 = .ok (.getfield 9, 3) := by decide +kernel
theorem dX0_leastDraw_4 : decode cX0_leastDraw 4 = .ok (.iconst 0, 1) := by decide +kernel
theorem dX0_leastDraw_5 : decode cX0_leastDraw 5 = .ok (.iaload, 1) := by decide +kernel
theorem dX0_leastDraw_6 : decode cX0_leastDraw 6 = .ok (.aload_n 0, 1) := by decide +kernel
theorem dX0_leastDraw_7 : decode cX0_leastDraw 7 = .ok (.getfield 9, 3) := by decide +kernel
theorem dX0_leastDraw_10 : decode cX0_leastDraw 10 = .ok (.iconst 1, 1) := by decide +kernel
theorem dX0_leastDraw_11 : decode cX0_leastDraw 11 = .ok (.iaload, 1) := by decide +kernel
theorem dX0_leastDraw_12 : decode cX0_leastDraw 12 = .ok (.aload_n 0, 1) := by decide +kernel
theorem dX0_leastDraw_13 : decode cX0_leastDraw 13 = .ok (.getfield 9, 3) := by decide +kernel
theorem dX0_leastDraw_16 : decode cX0_leastDraw 16 = .ok (.iconst 2, 1) := by decide +kernel
theorem dX0_leastDraw_17 : decode cX0_leastDraw 17 = .ok (.iaload, 1) := by decide +kernel
theorem dX0_leastDraw_18 : decode cX0_leastDraw 18 = .ok (.invokestatic 39, 3) := by decide +kernel
theorem dX0_leastDraw_21 : decode cX0_leastDraw 21 = .ok (.invokestatic 39, 3) := by decide +kernel
theorem dX0_leastDraw_24 : decode cX0_leastDraw 24 = .ok (.ireturn, 1) := by decide +kernel
theorem dX0_greatestDraw_0 : decode cX0_greatestDraw 0 = .ok (.aload_n 0, 1) := by decide +kernel
theorem dX0_greatestDraw_1 : decode cX0_greatestDraw 1 = .ok (.getfield 9, 3) := by decide +kernel
theorem dX0_greatestDraw_4 : decode cX0_greatestDraw 4 = .ok (.iconst 0, 1) := by decide +kernel
theorem dX0_greatestDraw_5 : decode cX0_greatestDraw 5 = .ok (.iaload, 1) := by decide +kernel
theorem dX0_greatestDraw_6 : decode cX0_greatestDraw 6 = .ok (.aload_n 0, 1) := by decide +kernel
theorem dX0_greatestDraw_7 : decode cX0_greatestDraw 7 = .ok (.getfield 9, 3) := by decide +kernel
theorem dX0_greatestDraw_10 : decode cX0_greatestDraw 10 = .ok (.iconst 1, 1) := by decide +kernel
theorem dX0_greatestDraw_11 : decode cX0_greatestDraw 11 = .ok (.iaload, 1) := by decide +kernel
theorem dX0_greatestDraw_12 : decode cX0_greatestDraw 12 = .ok (.aload_n 0, 1) := by decide +kernel
theorem dX0_greatestDraw_13 : decode cX0_greatestDraw 13 = .ok (.getfield 9, 3) := by decide +kernel
theorem dX0_greatestDraw_16 : decode cX0_greatestDraw 16 = .ok (.iconst 2, 1) := by decide +kernel
theorem dX0_greatestDraw_17 : decode cX0_greatestDraw 17 = .ok (.iaload, 1) := by decide +kernel
theorem dX0_greatestDraw_18 : decode cX0_greatestDraw 18 = .ok (.invokestatic 45, 3) := by decide +kernel
theorem dX0_greatestDraw_21 : decode cX0_greatestDraw 21 = .ok (.invokestatic 45, 3) := by decide +kernel
theorem dX0_greatestDraw_24 : decode cX0_greatestDraw 24 = .ok (.ireturn, 1) := by decide +kernel
theorem dX0_middleDraw_0 : decode cX0_middleDraw 0 = .ok (.aload_n 0, 1) := by decide +kernel
theorem dX0_middleDraw_1 : decode cX0_middleDraw 1 = .ok (.getfield 9, 3) := by decide +kernel
theorem dX0_middleDraw_4 : decode cX0_middleDraw 4 = .ok (.iconst 0, 1) := by decide +kernel
theorem dX0_middleDraw_5 : decode cX0_middleDraw 5 = .ok (.iaload, 1) := by decide +kernel
theorem dX0_middleDraw_6 : decode cX0_middleDraw 6 = .ok (.aload_n 0, 1) := by decide +kernel
theorem dX0_middleDraw_7 : decode cX0_middleDraw 7 = .ok (.getfield 9, 3) := by decide +kernel
theorem dX0_middleDraw_10 : decode cX0_middleDraw 10 = .ok (.iconst 1, 1) := by decide +kernel
theorem dX0_middleDraw_11 : decode cX0_middleDraw 11 = .ok (.iaload, 1) := by decide +kernel
theorem dX0_middleDraw_12 : decode cX0_middleDraw 12 = .ok (.iadd, 1) := by decide +kernel
theorem dX0_middleDraw_13 : decode cX0_middleDraw 13 = .ok (.aload_n 0, 1) := by decide +kernel
theorem dX0_middleDraw_14 : decode cX0_middleDraw 14 = .ok (.getfield 9, 3) := by decide +kernel
theorem dX0_middleDraw_17 : decode cX0_middleDraw 17 = .ok (.iconst 2, 1) := by decide +kernel
theorem dX0_middleDraw_18 : decode cX0_middleDraw 18 = .ok (.iaload, 1) := by decide +kernel
theorem dX0_middleDraw_19 : decode cX0_middleDraw 19 = .ok (.iadd, 1) := by decide +kernel
theorem dX0_middleDraw_20 : decode cX0_middleDraw 20 = .ok (.aload_n 0, 1) := by decide +kernel
theorem dX0_middleDraw_21 : decode cX0_middleDraw 21 = .ok (.invokevirtual 48, 3) := by decide +kernel
theorem dX0_middleDraw_24 : decode cX0_middleDraw 24 = .ok (.isub, 1) := by decide +kernel
theorem dX0_middleDraw_25 : decode cX0_middleDraw 25 = .ok (.aload_n 0, 1) := by decide +kernel
theorem dX0_middleDraw_26 : decode cX0_middleDraw 26 = .ok (.invokevirtual 52, 3) := by decide +kernel
theorem dX0_middleDraw_29 : decode cX0_middleDraw 29 = .ok (.isub, 1) := by decide +kernel
theorem dX0_middleDraw_30 : decode cX0_middleDraw 30 = .ok (.ireturn, 1) := by decide +kernel
theorem dX0_spreadOfDraws_0 : decode cX0_spreadOfDraws 0 = .ok (.aload_n 0, 1) := by decide +kernel
theorem dX0_spreadOfDraws_1 : decode cX0_spreadOfDraws 1 = .ok (.invokevirtual 52, 3) := by decide +kernel
theorem dX0_spreadOfDraws_4 : decode cX0_spreadOfDraws 4 = .ok (.aload_n 0, 1) := by decide +kernel
theorem dX0_spreadOfDraws_5 : decode cX0_spreadOfDraws 5 = .ok (.invokevirtual 48, 3) := by decide +kernel
theorem dX0_spreadOfDraws_8 : decode cX0_spreadOfDraws 8 = .ok (.isub, 1) := by decide +kernel
theorem dX0_spreadOfDraws_9 : decode cX0_spreadOfDraws 9 = .ok (.ireturn, 1) := by decide +kernel
theorem dX0_isMeasured_0 : decode cX0_isMeasured 0 = .ok (.aload_n 0, 1) := by decide +kernel
theorem dX0_isMeasured_1 : decode cX0_isMeasured 1 = .ok (.getfield 20, 3) := by decide +kernel
theorem dX0_isMeasured_4 : decode cX0_isMeasured 4 = .ok (.ifCond .eq 10, 3) := by decide +kernel
theorem dX0_isMeasured_7 : decode cX0_isMeasured 7 = .ok (.aload_n 0, 1) := by decide +kernel
theorem dX0_isMeasured_8 : decode cX0_isMeasured 8 = .ok (.getfield 55, 3) := by decide +kernel
theorem dX0_isMeasured_11 : decode cX0_isMeasured 11 = .ok (.ifnull 7, 3) := by decide +kernel
theorem dX0_isMeasured_14 : decode cX0_isMeasured 14 = .ok (.iconst 1, 1) := by decide +kernel
theorem dX0_isMeasured_15 : decode cX0_isMeasured 15 = .ok (.goto 4, 3) := by decide +kernel
theorem dX0_isMeasured_18 : decode cX0_isMeasured 18 = .ok (.iconst 0, 1) := by decide +kernel
theorem dX0_isMeasured_19 : decode cX0_isMeasured 19 = .ok (.ireturn, 1) := by decide +kernel
theorem dX0_isSettledNow_0 : decode cX0_isSettledNow 0 = .ok (.aload_n 0, 1) := by decide +kernel
theorem dX0_isSettledNow_1 : decode cX0_isSettledNow 1 = .ok (.getfield 20, 3) := by decide +kernel
theorem dX0_isSettledNow_4 : decode cX0_isSettledNow 4 = .ok (.ifCond .eq 20, 3) := by decide +kernel
theorem dX0_isSettledNow_7 : decode cX0_isSettledNow 7 = .ok (.aload_n 0, 1) := by decide +kernel
theorem dX0_isSettledNow_8 : decode cX0_isSettledNow 8 = .ok (.getfield 55, 3) := by decide +kernel
theorem dX0_isSettledNow_11 : decode cX0_isSettledNow 11 = .ok (.ifnull 17, 3) := by decide +kernel
theorem dX0_isSettledNow_14 : decode cX0_isSettledNow 14 = .ok (.aload_n 0, 1) := by decide +kernel
theorem dX0_isSettledNow_15 : decode cX0_isSettledNow 15 = .ok (.getfield 55, 3) := by decide +kernel
theorem dX0_isSettledNow_18 : decode cX0_isSettledNow 18 = .ok (.getfield 59, 3) := by decide +kernel
theorem dX0_isSettledNow_21 : decode cX0_isSettledNow 21 = .ok (.ifCond .eq 7, 3) := by decide +kernel
theorem dX0_isSettledNow_24 : decode cX0_isSettledNow 24 = .ok (.iconst 1, 1) := by decide +kernel
theorem dX0_isSettledNow_25 : decode cX0_isSettledNow 25 = .ok (.goto 4, 3) := by decide +kernel
theorem dX0_isSettledNow_28 : decode cX0_isSettledNow 28 = .ok (.iconst 0, 1) := by decide +kernel
theorem dX0_isSettledNow_29 : decode cX0_isSettledNow 29 = .ok (.ireturn, 1) := by decide +kernel
theorem dX0_isDueOn_0 : decode cX0_isDueOn 0 = .ok (.aload_n 0, 1) := by decide +kernel
theorem dX0_isDueOn_1 : decode cX0_isDueOn 1 = .ok (.getfield 20, 3) := by decide +kernel
theorem dX0_isDueOn_4 : decode cX0_isDueOn 4 = .ok (.ifCond .eq 15, 3) := by decide +kernel
theorem dX0_isDueOn_7 : decode cX0_isDueOn 7 = .ok (.aload_n 0, 1) := by decide +kernel
theorem dX0_isDueOn_8 : decode cX0_isDueOn 8 = .ok (.iload_n 1, 1) := by decide +kernel
theorem dX0_isDueOn_9 : decode cX0_isDueOn 9 = .ok (.invokevirtual 65, 3) := by decide +kernel
theorem dX0_isDueOn_12 : decode cX0_isDueOn 12 = .ok (.ifCond .ne 7, 3) := by decide +kernel
theorem dX0_isDueOn_15 : decode cX0_isDueOn 15 = .ok (.iconst 1, 1) := by decide +kernel
theorem dX0_isDueOn_16 : decode cX0_isDueOn 16 = .ok (.goto 4, 3) := by decide +kernel
theorem dX0_isDueOn_19 : decode cX0_isDueOn 19 = .ok (.iconst 0, 1) := by decide +kernel
theorem dX0_isDueOn_20 : decode cX0_isDueOn 20 = .ok (.ireturn, 1) := by decide +kernel
theorem dX0_daysUntilDue_0 : decode cX0_daysUntilDue 0 = .ok (.aload_n 0, 1) := by decide +kernel
theorem dX0_daysUntilDue_1 : decode cX0_daysUntilDue 1 = .ok (.getfield 55, 3) := by decide +kernel
theorem dX0_daysUntilDue_4 : decode cX0_daysUntilDue 4 = .ok (.ifnonnull 7, 3) := by decide +kernel
theorem dX0_daysUntilDue_7 : decode cX0_daysUntilDue 7 = .ok (.iconst 0, 1) := by decide +kernel
theorem dX0_daysUntilDue_8 : decode cX0_daysUntilDue 8 = .ok (.goto 23, 3) := by decide +kernel
theorem dX0_daysUntilDue_11 : decode cX0_daysUntilDue 11 = .ok (.iconst 0, 1) := by decide +kernel
theorem dX0_daysUntilDue_12 : decode cX0_daysUntilDue 12 = .ok (.aload_n 0, 1) := by decide +kernel
theorem dX0_daysUntilDue_13 : decode cX0_daysUntilDue 13 = .ok (.getfield 55, 3) := by decide +kernel
theorem dX0_daysUntilDue_16 : decode cX0_daysUntilDue 16 = .ok (.getfield 69, 3) := by decide +kernel
theorem dX0_daysUntilDue_19 : decode cX0_daysUntilDue 19 = .ok (.aload_n 0, 1) := by decide +kernel
theorem dX0_daysUntilDue_20 : decode cX0_daysUntilDue 20 = .ok (.getfield 26, 3) := by decide +kernel
theorem dX0_daysUntilDue_23 : decode cX0_daysUntilDue 23 = .ok (.iadd, 1) := by decide +kernel
theorem dX0_daysUntilDue_24 : decode cX0_daysUntilDue 24 = .ok (.iconst 1, 1) := by decide +kernel
theorem dX0_daysUntilDue_25 : decode cX0_daysUntilDue 25 = .ok (.iadd, 1) := by decide +kernel
theorem dX0_daysUntilDue_26 : decode cX0_daysUntilDue 26 = .ok (.iload_n 1, 1) := by decide +kernel
theorem dX0_daysUntilDue_27 : decode cX0_daysUntilDue 27 = .ok (.isub, 1) := by decide +kernel
theorem dX0_daysUntilDue_28 : decode cX0_daysUntilDue 28 = .ok (.invokestatic 45, 3) := by decide +kernel
theorem dX0_daysUntilDue_31 : decode cX0_daysUntilDue 31 = .ok (.ireturn, 1) := by decide +kernel
theorem dX0_canBeTried_0 : decode cX0_canBeTried 0 = .ok (.aload_n 0, 1) := by decide +kernel
theorem dX0_canBeTried_1 : decode cX0_canBeTried 1 = .ok (.getfield 20, 3) := by decide +kernel
theorem dX0_canBeTried_4 : decode cX0_canBeTried 4 = .ok (.ifCond .eq 22, 3) := by decide +kernel
theorem dX0_canBeTried_7 : decode cX0_canBeTried 7 = .ok (.aload_n 0, 1) := by decide +kernel
theorem dX0_canBeTried_8 : decode cX0_canBeTried 8 = .ok (.getfield 20, 3) := by decide +kernel
theorem dX0_canBeTried_11 : decode cX0_canBeTried 11 = .ok (.iconst 3, 1) := by decide +kernel
theorem dX0_canBeTried_12 : decode cX0_canBeTried 12 = .ok (.if_icmp .ne 10, 3) := by decide +kernel
theorem dX0_canBeTried_15 : decode cX0_canBeTried 15 = .ok (.aload_n 0, 1) := by decide +kernel
theorem dX0_canBeTried_16 : decode cX0_canBeTried 16 = .ok (.invokevirtual 72, 3) := by decide +kernel
theorem dX0_canBeTried_19 : decode cX0_canBeTried 19 = .ok (.ifCond .eq 7, 3) := by decide +kernel
theorem dX0_canBeTried_22 : decode cX0_canBeTried 22 = .ok (.iconst 1, 1) := by decide +kernel
theorem dX0_canBeTried_23 : decode cX0_canBeTried 23 = .ok (.goto 4, 3) := by decide +kernel
theorem dX0_canBeTried_26 : decode cX0_canBeTried 26 = .ok (.iconst 0, 1) := by decide +kernel
theorem dX0_canBeTried_27 : decode cX0_canBeTried 27 = .ok (.ireturn, 1) := by decide +kernel
theorem dX0_canTryOthers_0 : decode cX0_canTryOthers 0 = .ok (.aload_n 0, 1) := by decide +kernel
theorem dX0_canTryOthers_1 : decode cX0_canTryOthers 1 = .ok (.invokevirtual 76, 3) := by decide +kernel
theorem dX0_canTryOthers_4 : decode cX0_canTryOthers 4 = .ok (.ifCond .ne 22, 3) := by decide +kernel
theorem dX0_canTryOthers_7 : decode cX0_canTryOthers 7 = .ok (.aload_n 0, 1) := by decide +kernel
theorem dX0_canTryOthers_8 : decode cX0_canTryOthers 8 = .ok (.invokevirtual 79, 3) := by decide +kernel
theorem dX0_canTryOthers_11 : decode cX0_canTryOthers 11 = .ok (.ifCond .eq 15, 3) := by decide +kernel
theorem dX0_canTryOthers_14 : decode cX0_canTryOthers 14 = .ok (.aload_n 0, 1) := by decide +kernel
theorem dX0_canTryOthers_15 : decode cX0_canTryOthers 15 = .ok (.iload_n 1, 1) := by decide +kernel
theorem dX0_canTryOthers_16 : decode cX0_canTryOthers 16 = .ok (.invokevirtual 82, 3) := by decide +kernel
theorem dX0_canTryOthers_19 : decode cX0_canTryOthers 19 = .ok (.ifCond .ne 7, 3) := by decide +kernel
theorem dX0_canTryOthers_22 : decode cX0_canTryOthers 22 = .ok (.iconst 1, 1) := by decide +kernel
theorem dX0_canTryOthers_23 : decode cX0_canTryOthers 23 = .ok (.goto 4, 3) := by decide +kernel
theorem dX0_canTryOthers_26 : decode cX0_canTryOthers 26 = .ok (.iconst 0, 1) := by decide +kernel
theorem dX0_canTryOthers_27 : decode cX0_canTryOthers 27 = .ok (.ireturn, 1) := by decide +kernel
theorem dX0_errorHeld_0 : decode cX0_errorHeld 0 = .ok (.aload_n 0, 1) := by decide +kernel
theorem dX0_errorHeld_1 : decode cX0_errorHeld 1 = .ok (.getfield 55, 3) := by decide +kernel
theorem dX0_errorHeld_4 : decode cX0_errorHeld 4 = .ok (.ifnonnull 7, 3) := by decide +kernel
theorem dX0_errorHeld_7 : decode cX0_errorHeld 7 = .ok (.iconst 0, 1) := by decide +kernel
theorem dX0_errorHeld_8 : decode cX0_errorHeld 8 = .ok (.goto 10, 3) := by decide +kernel
theorem dX0_errorHeld_11 : decode cX0_errorHeld 11 = .ok (.aload_n 0, 1) := by decide +kernel
theorem dX0_errorHeld_12 : decode cX0_errorHeld 12 = .ok (.getfield 55, 3) := by decide +kernel
theorem dX0_errorHeld_15 : decode cX0_errorHeld 15 = .ok (.getfield 86, 3) := by decide +kernel
theorem dX0_errorHeld_18 : decode cX0_errorHeld 18 = .ok (.ireturn, 1) := by decide +kernel
theorem dX0_errorSize_0 : decode cX0_errorSize 0 = .ok (.aload_n 0, 1) := by decide +kernel
theorem dX0_errorSize_1 : decode cX0_errorSize 1 = .ok (.invokevirtual 89, 3) := by decide +kernel
theorem dX0_errorSize_4 : decode cX0_errorSize 4 = .ok (.invokestatic 92, 3) := by decide +kernel
theorem dX0_errorSize_7 : decode cX0_errorSize 7 = .ok (.ireturn, 1) := by decide +kernel
theorem dX0_spanOn_0 : decode cX0_spanOn 0 = .ok (.aload_n 0, 1) := by decide +kernel
theorem dX0_spanOn_1 : decode cX0_spanOn 1 = .ok (.getfield 55, 3) := by decide +kernel
theorem dX0_spanOn_4 : decode cX0_spanOn 4 = .ok (.ifnonnull 5, 3) := by decide +kernel
theorem dX0_spanOn_7 : decode cX0_spanOn 7 = .ok (.iconst 0, 1) := by decide +kernel
theorem dX0_spanOn_8 : decode cX0_spanOn 8 = .ok (.ireturn, 1) := by decide +kernel
theorem dX0_spanOn_9 : decode cX0_spanOn 9 = .ok (.aload_n 0, 1) := by decide +kernel
theorem dX0_spanOn_10 : decode cX0_spanOn 10 = .ok (.getfield 23, 3) := by decide +kernel
theorem dX0_spanOn_13 : decode cX0_spanOn 13 = .ok (.iload_n 1, 1) := by decide +kernel
theorem dX0_spanOn_14 : decode cX0_spanOn 14 = .ok (.aload_n 0, 1) := by decide +kernel
theorem dX0_spanOn_15 : decode cX0_spanOn 15 = .ok (.getfield 55, 3) := by decide +kernel
theorem dX0_spanOn_18 : decode cX0_spanOn 18 = .ok (.getfield 69, 3) := by decide +kernel
theorem dX0_spanOn_21 : decode cX0_spanOn 21 = .ok (.isub, 1) := by decide +kernel
theorem dX0_spanOn_22 : decode cX0_spanOn 22 = .ok (.imul, 1) := by decide +kernel
theorem dX0_spanOn_23 : decode cX0_spanOn 23 = .ok (.istore_n 2, 1) := by decide +kernel
theorem dX0_spanOn_24 : decode cX0_spanOn 24 = .ok (.aload_n 0, 1) := by decide +kernel
theorem dX0_spanOn_25 : decode cX0_spanOn 25 = .ok (.getfield 55, 3) := by decide +kernel
theorem dX0_spanOn_28 : decode cX0_spanOn 28 = .ok (.getfield 95, 3) := by decide +kernel
theorem dX0_spanOn_31 : decode cX0_spanOn 31 = .ok (.iload_n 2, 1) := by decide +kernel
theorem dX0_spanOn_32 : decode cX0_spanOn 32 = .ok (.bipush 100, 2) := by decide +kernel
theorem dX0_spanOn_34 : decode cX0_spanOn 34 = .ok (.iadd, 1) := by decide +kernel
theorem dX0_spanOn_35 : decode cX0_spanOn 35 = .ok (.iconst 1, 1) := by decide +kernel
theorem dX0_spanOn_36 : decode cX0_spanOn 36 = .ok (.isub, 1) := by decide +kernel
theorem dX0_spanOn_37 : decode cX0_spanOn 37 = .ok (.bipush 100, 2) := by decide +kernel
theorem dX0_spanOn_39 : decode cX0_spanOn 39 = .ok (.idiv, 1) := by decide +kernel
theorem dX0_spanOn_40 : decode cX0_spanOn 40 = .ok (.iadd, 1) := by decide +kernel
theorem dX0_spanOn_41 : decode cX0_spanOn 41 = .ok (.ireturn, 1) := by decide +kernel
theorem dX0_daysNoWiderThan_0 : decode cX0_daysNoWiderThan 0 = .ok (.aload_n 0, 1) := by decide +kernel
theorem dX0_daysNoWiderThan_1 : decode cX0_daysNoWiderThan 1 = .ok (.getfield 55, 3) := by decide +kernel
theorem dX0_daysNoWiderThan_4 : decode cX0_daysNoWiderThan 4 = .ok (.ifnull 10, 3) := by decide +kernel
theorem dX0_daysNoWiderThan_7 : decode cX0_daysNoWiderThan 7 = .ok (.aload_n 0, 1) := by decide +kernel
theorem dX0_daysNoWiderThan_8 : decode cX0_daysNoWiderThan 8 = .ok (.getfield 23, 3) := by decide +kernel
theorem dX0_daysNoWiderThan_11 : decode cX0_daysNoWiderThan 11 = .ok (.ifCond .gt 7, 3) := by decide +kernel
theorem dX0_daysNoWiderThan_14 : decode cX0_daysNoWiderThan 14 = .ok (.sipush 20000, 3) := by decide +kernel
theorem dX0_daysNoWiderThan_17 : decode cX0_daysNoWiderThan 17 = .ok (.ireturn, 1) := by decide +kernel
theorem dX0_daysNoWiderThan_18 : decode cX0_daysNoWiderThan 18 = .ok (.iload_n 1, 1) := by decide +kernel
theorem dX0_daysNoWiderThan_19 : decode cX0_daysNoWiderThan 19 = .ok (.i2l, 1) := by decide +kernel
theorem dX0_daysNoWiderThan_20 : decode cX0_daysNoWiderThan 20 = .ok (.aload_n 0, 1) := by decide +kernel
theorem dX0_daysNoWiderThan_21 : decode cX0_daysNoWiderThan 21 = .ok (.getfield 55, 3) := by decide +kernel
theorem dX0_daysNoWiderThan_24 : decode cX0_daysNoWiderThan 24 = .ok (.getfield 95, 3) := by decide +kernel
theorem dX0_daysNoWiderThan_27 : decode cX0_daysNoWiderThan 27 = .ok (.i2l, 1) := by decide +kernel
theorem dX0_daysNoWiderThan_28 : decode cX0_daysNoWiderThan 28 = .ok (.lsub, 1) := by decide +kernel
theorem dX0_daysNoWiderThan_29 : decode cX0_daysNoWiderThan 29 = .ok (.ldc2_w 98, 3) := by decide +kernel
theorem dX0_daysNoWiderThan_32 : decode cX0_daysNoWiderThan 32 = .ok (.lmul, 1) := by decide +kernel
theorem dX0_daysNoWiderThan_33 : decode cX0_daysNoWiderThan 33 = .ok (.aload_n 0, 1) := by decide +kernel
theorem dX0_daysNoWiderThan_34 : decode cX0_daysNoWiderThan 34 = .ok (.getfield 23, 3) := by decide +kernel
theorem dX0_daysNoWiderThan_37 : decode cX0_daysNoWiderThan 37 = .ok (.i2l, 1) := by decide +kernel
theorem dX0_daysNoWiderThan_38 : decode cX0_daysNoWiderThan 38 = .ok (.ldiv, 1) := by decide +kernel
theorem dX0_daysNoWiderThan_39 : decode cX0_daysNoWiderThan 39 = .ok (.lstore_n 3, 1) := by decide +kernel
theorem dX0_daysNoWiderThan_40 : decode cX0_daysNoWiderThan 40 = .ok (.ldc2_w 100, 3) := by decide +kernel
theorem dX0_daysNoWiderThan_43 : decode cX0_daysNoWiderThan 43 = .ok (.lload_n 3, 1) := by decide +kernel
theorem dX0_daysNoWiderThan_44 : decode cX0_daysNoWiderThan 44 = .ok (.iload_n 2, 1) := by decide +kernel
theorem dX0_daysNoWiderThan_45 : decode cX0_daysNoWiderThan 45 = .ok (.aload_n 0, 1) := by decide +kernel
theorem dX0_daysNoWiderThan_46 : decode cX0_daysNoWiderThan 46 = .ok (.getfield 55, 3) := by decide +kernel
theorem dX0_daysNoWiderThan_49 : decode cX0_daysNoWiderThan 49 = .ok (.getfield 69, 3) := by decide +kernel
theorem dX0_daysNoWiderThan_52 : decode cX0_daysNoWiderThan 52 = .ok (.isub, 1) := by decide +kernel
theorem dX0_daysNoWiderThan_53 : decode cX0_daysNoWiderThan 53 = .ok (.i2l, 1) := by decide +kernel
theorem dX0_daysNoWiderThan_54 : decode cX0_daysNoWiderThan 54 = .ok (.lsub, 1) := by decide +kernel
theorem dX0_daysNoWiderThan_55 : decode cX0_daysNoWiderThan 55 = .ok (.invokestatic 102, 3) := by decide +kernel
theorem dX0_daysNoWiderThan_58 : decode cX0_daysNoWiderThan 58 = .ok (.l2i, 1) := by decide +kernel
theorem dX0_daysNoWiderThan_59 : decode cX0_daysNoWiderThan 59 = .ok (.ireturn, 1) := by decide +kernel
theorem dX0_isWrongedBy_0 : decode cX0_isWrongedBy 0 = .ok (.aload_n 0, 1) := by decide +kernel
theorem dX0_isWrongedBy_1 : decode cX0_isWrongedBy 1 = .ok (.getfield 55, 3) := by decide +kernel
theorem dX0_isWrongedBy_4 : decode cX0_isWrongedBy 4 = .ok (.ifnull 13, 3) := by decide +kernel
theorem dX0_isWrongedBy_7 : decode cX0_isWrongedBy 7 = .ok (.aload_n 0, 1) := by decide +kernel
theorem dX0_isWrongedBy_8 : decode cX0_isWrongedBy 8 = .ok (.getfield 55, 3) := by decide +kernel
theorem dX0_isWrongedBy_11 : decode cX0_isWrongedBy 11 = .ok (.getfield 59, 3) := by decide +kernel
theorem dX0_isWrongedBy_14 : decode cX0_isWrongedBy 14 = .ok (.ifCond .ne 5, 3) := by decide +kernel
theorem dX0_isWrongedBy_17 : decode cX0_isWrongedBy 17 = .ok (.iconst 0, 1) := by decide +kernel
theorem dX0_isWrongedBy_18 : decode cX0_isWrongedBy 18 = .ok (.ireturn, 1) := by decide +kernel
theorem dX0_isWrongedBy_19 : decode cX0_isWrongedBy 19 = .ok (.aload_n 0, 1) := by decide +kernel
theorem dX0_isWrongedBy_20 : decode cX0_isWrongedBy 20 = .ok (.getfield 55, 3) := by decide +kernel
theorem dX0_isWrongedBy_23 : decode cX0_isWrongedBy 23 = .ok (.getfield 86, 3) := by decide +kernel
theorem dX0_isWrongedBy_26 : decode cX0_isWrongedBy 26 = .ok (.aload_n 1, 1) := by decide +kernel
theorem dX0_isWrongedBy_27 : decode cX0_isWrongedBy 27 = .ok (.getfield 86, 3) := by decide +kernel
theorem dX0_isWrongedBy_30 : decode cX0_isWrongedBy 30 = .ok (.isub, 1) := by decide +kernel
theorem dX0_isWrongedBy_31 : decode cX0_isWrongedBy 31 = .ok (.invokestatic 92, 3) := by decide +kernel
theorem dX0_isWrongedBy_34 : decode cX0_isWrongedBy 34 = .ok (.istore_n 2, 1) := by decide +kernel
theorem dX0_isWrongedBy_35 : decode cX0_isWrongedBy 35 = .ok (.iload_n 2, 1) := by decide +kernel
theorem dX0_isWrongedBy_36 : decode cX0_isWrongedBy 36 = .ok (.aload_n 0, 1) := by decide +kernel
theorem dX0_isWrongedBy_37 : decode cX0_isWrongedBy 37 = .ok (.aload_n 1, 1) := by decide +kernel
theorem dX0_isWrongedBy_38 : decode cX0_isWrongedBy 38 = .ok (.getfield 69, 3) := by decide +kernel
theorem dX0_isWrongedBy_41 : decode cX0_isWrongedBy 41 = .ok (.invokevirtual 105, 3) := by decide +kernel
theorem dX0_isWrongedBy_44 : decode cX0_isWrongedBy 44 = .ok (.aload_n 1, 1) := by decide +kernel
theorem dX0_isWrongedBy_45 : decode cX0_isWrongedBy 45 = .ok (.getfield 95, 3) := by decide +kernel
theorem dX0_isWrongedBy_48 : decode cX0_isWrongedBy 48 = .ok (.iadd, 1) := by decide +kernel
theorem dX0_isWrongedBy_49 : decode cX0_isWrongedBy 49 = .ok (.if_icmp .le 7, 3) := by decide +kernel
theorem dX0_isWrongedBy_52 : decode cX0_isWrongedBy 52 = .ok (.iconst 1, 1) := by decide +kernel
theorem dX0_isWrongedBy_53 : decode cX0_isWrongedBy 53 = .ok (.goto 4, 3) := by decide +kernel
theorem dX0_isWrongedBy_56 : decode cX0_isWrongedBy 56 = .ok (.iconst 0, 1) := by decide +kernel
theorem dX0_isWrongedBy_57 : decode cX0_isWrongedBy 57 = .ok (.ireturn, 1) := by decide +kernel
theorem dX0_take_0 : decode cX0_take 0 = .ok (.aload_n 0, 1) := by decide +kernel
theorem dX0_take_1 : decode cX0_take 1 = .ok (.aload_n 1, 1) := by decide +kernel
theorem dX0_take_2 : decode cX0_take 2 = .ok (.putfield 55, 3) := by decide +kernel
theorem dX0_take_5 : decode cX0_take 5 = .ok (.aload_n 0, 1) := by decide +kernel
theorem dX0_take_6 : decode cX0_take 6 = .ok (.dup, 1) := by decide +kernel
theorem dX0_take_7 : decode cX0_take 7 = .ok (.getfield 108, 3) := by decide +kernel
theorem dX0_take_10 : decode cX0_take 10 = .ok (.iconst 1, 1) := by decide +kernel
theorem dX0_take_11 : decode cX0_take 11 = .ok (.iadd, 1) := by decide +kernel
theorem dX0_take_12 : decode cX0_take 12 = .ok (.putfield 108, 3) := by decide +kernel
theorem dX0_take_15 : decode cX0_take 15 = .ok (.aload_n 0, 1) := by decide +kernel
theorem dX0_take_16 : decode cX0_take 16 = .ok (.iconst 0, 1) := by decide +kernel
theorem dX0_take_17 : decode cX0_take 17 = .ok (.putfield 32, 3) := by decide +kernel
theorem dX0_take_20 : decode cX0_take 20 = .ok (.return_, 1) := by decide +kernel
end
section
theorem dX1_init_0 : decode cX1_init 0 = .ok (.aload_n 0, 1) := by decide +kernel
theorem dX1_init_1 : decode cX1_init 1 = .ok (.invokespecial 1, 3) := by decide +kernel
theorem dX1_init_4 : decode cX1_init 4 = .ok (.aload_n 0, 1) := by decide +kernel
theorem dX1_init_5 : decode cX1_init 5 = .ok (.iconst 1, 1) := by decide +kernel
theorem dX1_init_6 : decode cX1_init 6 = .ok (.putfield 7, 3) := by decide +kernel
theorem dX1_init_9 : decode cX1_init 9 = .ok (.aload_n 0, 1) := by decide +kernel
theorem dX1_init_10 : decode cX1_init 10 = .ok (.iload_n 1, 1) := by decide +kernel
theorem dX1_init_11 : decode cX1_init 11 = .ok (.putfield 13, 3) := by decide +kernel
theorem dX1_init_14 : decode cX1_init 14 = .ok (.aload_n 0, 1) := by decide +kernel
theorem dX1_init_15 : decode cX1_init 15 = .ok (.iload_n 2, 1) := by decide +kernel
theorem dX1_init_16 : decode cX1_init 16 = .ok (.putfield 17, 3) := by decide +kernel
theorem dX1_init_19 : decode cX1_init 19 = .ok (.aload_n 0, 1) := by decide +kernel
theorem dX1_init_20 : decode cX1_init 20 = .ok (.iload_n 3, 1) := by decide +kernel
theorem dX1_init_21 : decode cX1_init 21 = .ok (.putfield 20, 3) := by decide +kernel
theorem dX1_init_24 : decode cX1_init 24 = .ok (.aload_n 0, 1) := by decide +kernel
theorem dX1_init_25 : decode cX1_init 25 = .ok (.aload 4, 2) := by decide +kernel
theorem dX1_init_27 : decode cX1_init 27 = .ok (.putfield 23, 3) := by decide +kernel
theorem dX1_init_30 : decode cX1_init 30 = .ok (.aload_n 0, 1) := by decide +kernel
theorem dX1_init_31 : decode cX1_init 31 = .ok (.iload 5, 2) := by decide +kernel
theorem dX1_init_33 : decode cX1_init 33 = .ok (.putfield 27, 3) := by decide +kernel
theorem dX1_init_36 : decode cX1_init 36 = .ok (.aload_n 0, 1) := by decide +kernel
theorem dX1_init_37 : decode cX1_init 37 = .ok (.iload 6, 2) := by decide +kernel
theorem dX1_init_39 : decode cX1_init 39 = .ok (.putfield 30, 3) := by decide +kernel
theorem dX1_init_42 : decode cX1_init 42 = .ok (.aload_n 0, 1) := by decide +kernel
theorem dX1_init_43 : decode cX1_init 43 = .ok (.iload 7, 2) := by decide +kernel
theorem dX1_init_45 : decode cX1_init 45 = .ok (.putfield 33, 3) := by decide +kernel
theorem dX1_init_48 : decode cX1_init 48 = .ok (.return_, 1) := by decide +kernel
theorem dX1_isShakenBy_0 : decode cX1_isShakenBy 0 = .ok (.aload_n 0, 1) := by decide +kernel
theorem dX1_isShakenBy_1 : decode cX1_isShakenBy 1 = .ok (.getfield 23, 3) := by decide +kernel
theorem dX1_isShakenBy_4 : decode cX1_isShakenBy 4 = .ok (.ifnull 25, 3) := by decide +kernel
theorem dX1_isShakenBy_7 : decode cX1_isShakenBy 7 = .ok (.aload_n 0, 1) := by decide +kernel
theorem dX1_isShakenBy_8 : decode cX1_isShakenBy 8 = .ok (.getfield 23, 3) := by decide +kernel
theorem dX1_isShakenBy_11 : decode cX1_isShakenBy 11 = .ok (.aload_n 1, 1) := by decide +kernel
theorem dX1_isShakenBy_12 : decode cX1_isShakenBy 12 = .ok (.if_acmp .eq 13, 3) := by decide +kernel
theorem dX1_isShakenBy_15 : decode cX1_isShakenBy 15 = .ok (.aload_n 0, 1) := by decide +kernel
theorem dX1_isShakenBy_16 : decode cX1_isShakenBy 16 = .ok (.getfield 23, 3) := by decide +kernel
theorem dX1_isShakenBy_19 : decode cX1_isShakenBy 19 = .ok (.getfield 7, 3) := by decide +kernel
theorem dX1_isShakenBy_22 : decode cX1_isShakenBy 22 = .ok (.ifCond .ne 7, 3) := by decide +kernel
theorem dX1_isShakenBy_25 : decode cX1_isShakenBy 25 = .ok (.iconst 1, 1) := by decide +kernel
theorem dX1_isShakenBy_26 : decode cX1_isShakenBy 26 = .ok (.goto 4, 3) := by decide +kernel
theorem dX1_isShakenBy_29 : decode cX1_isShakenBy 29 = .ok (.iconst 0, 1) := by decide +kernel
theorem dX1_isShakenBy_30 : decode cX1_isShakenBy 30 = .ok (.ireturn, 1) := by decide +kernel
end
section
theorem dJ9_abs_0f7a4_0 : decode cJ9_abs_0f7a4 0 = .ok (.iload_n 0, 1) := by decide +kernel
theorem dJ9_abs_0f7a4_1 : decode cJ9_abs_0f7a4 1 = .ok (.ifCond .ge 8, 3) := by decide +kernel
theorem dJ9_abs_0f7a4_4 : decode cJ9_abs_0f7a4 4 = .ok (.iload_n 0, 1) := by decide +kernel
theorem dJ9_abs_0f7a4_5 : decode cJ9_abs_0f7a4 5 = .ok (.ineg, 1) := by decide +kernel
theorem dJ9_abs_0f7a4_6 : decode cJ9_abs_0f7a4 6 = .ok (.goto 4, 3) := by decide +kernel
theorem dJ9_abs_0f7a4_9 : decode cJ9_abs_0f7a4 9 = .ok (.iload_n 0, 1) := by decide +kernel
theorem dJ9_abs_0f7a4_10 : decode cJ9_abs_0f7a4 10 = .ok (.ireturn, 1) := by decide +kernel
theorem dJ9_max_7cf53_0 : decode cJ9_max_7cf53 0 = .ok (.iload_n 0, 1) := by decide +kernel
theorem dJ9_max_7cf53_1 : decode cJ9_max_7cf53 1 = .ok (.iload_n 1, 1) := by decide +kernel
theorem dJ9_max_7cf53_2 : decode cJ9_max_7cf53 2 = .ok (.if_icmp .lt 7, 3) := by decide +kernel
theorem dJ9_max_7cf53_5 : decode cJ9_max_7cf53 5 = .ok (.iload_n 0, 1) := by decide +kernel
theorem dJ9_max_7cf53_6 : decode cJ9_max_7cf53 6 = .ok (.goto 4, 3) := by decide +kernel
theorem dJ9_max_7cf53_9 : decode cJ9_max_7cf53 9 = .ok (.iload_n 1, 1) := by decide +kernel
theorem dJ9_max_7cf53_10 : decode cJ9_max_7cf53 10 = .ok (.ireturn, 1) := by decide +kernel
theorem dJ9_min_7cf53_0 : decode cJ9_min_7cf53 0 = .ok (.iload_n 0, 1) := by decide +kernel
theorem dJ9_min_7cf53_1 : decode cJ9_min_7cf53 1 = .ok (.iload_n 1, 1) := by decide +kernel
theorem dJ9_min_7cf53_2 : decode cJ9_min_7cf53 2 = .ok (.if_icmp .gt 7, 3) := by decide +kernel
theorem dJ9_min_7cf53_5 : decode cJ9_min_7cf53 5 = .ok (.iload_n 0, 1) := by decide +kernel
theorem dJ9_min_7cf53_6 : decode cJ9_min_7cf53 6 = .ok (.goto 4, 3) := by decide +kernel
theorem dJ9_min_7cf53_9 : decode cJ9_min_7cf53 9 = .ok (.iload_n 1, 1) := by decide +kernel
theorem dJ9_min_7cf53_10 : decode cJ9_min_7cf53 10 = .ok (.ireturn, 1) := by decide +kernel
theorem dJ9_min_f86c9_0 : decode cJ9_min_f86c9 0 = .ok (.lload_n 0, 1) := by decide +kernel
theorem dJ9_min_f86c9_1 : decode cJ9_min_f86c9 1 = .ok (.lload_n 2, 1) := by decide +kernel
theorem dJ9_min_f86c9_2 : decode cJ9_min_f86c9 2 = .ok (.lcmp, 1) := by decide +kernel
theorem dJ9_min_f86c9_3 : decode cJ9_min_f86c9 3 = .ok (.ifCond .gt 7, 3) := by decide +kernel
theorem dJ9_min_f86c9_6 : decode cJ9_min_f86c9 6 = .ok (.lload_n 0, 1) := by decide +kernel
theorem dJ9_min_f86c9_7 : decode cJ9_min_f86c9 7 = .ok (.goto 4, 3) := by decide +kernel
theorem dJ9_min_f86c9_10 : decode cJ9_min_f86c9 10 = .ok (.lload_n 2, 1) := by decide +kernel
theorem dJ9_min_f86c9_11 : decode cJ9_min_f86c9 11 = .ok (.lreturn, 1) := by decide +kernel
end
section
theorem dX2_init_0 : decode cX2_init 0 = .ok (.aload_n 0, 1) := by decide +kernel
theorem dX2_init_1 : decode cX2_init 1 = .ok (.invokespecial 1, 3) := by decide +kernel
theorem dX2_init_4 : decode cX2_init 4 = .ok (.aload_n 0, 1) := by decide +kernel
theorem dX2_init_5 : decode cX2_init 5 = .ok (.bipush 40, 2) := by decide +kernel
theorem dX2_init_7 : decode cX2_init 7 = .ok (.anewarray 9, 3) := by decide +kernel
theorem dX2_init_10 : decode cX2_init 10 = .ok (.putfield 11, 3) := by decide +kernel
theorem dX2_init_13 : decode cX2_init 13 = .ok (.aload_n 0, 1) := by decide +kernel
theorem dX2_init_14 : decode cX2_init 14 = .ok (.sipush 300, 3) := by decide +kernel
theorem dX2_init_17 : decode cX2_init 17 = .ok (.anewarray 15, 3) := by decide +kernel
theorem dX2_init_20 : decode cX2_init 20 = .ok (.putfield 17, 3) := by decide +kernel
theorem dX2_init_23 : decode cX2_init 23 = .ok (.aload_n 0, 1) := by decide +kernel
theorem dX2_init_24 : decode cX2_init 24 = .ok (.iconst 4, 1) := by decide +kernel
theorem dX2_init_25 : decode cX2_init 25 = .ok (.newarray .int, 2) := by decide +kernel
theorem dX2_init_27 : decode cX2_init 27 = .ok (.putfield 21, 3) := by decide +kernel
theorem dX2_init_30 : decode cX2_init 30 = .ok (.aload_n 0, 1) := by decide +kernel
theorem dX2_init_31 : decode cX2_init 31 = .ok (.iconst 4, 1) := by decide +kernel
theorem dX2_init_32 : decode cX2_init 32 = .ok (.newarray .int, 2) := by decide +kernel
theorem dX2_init_34 : decode cX2_init 34 = .ok (.putfield 25, 3) := by decide +kernel
theorem dX2_init_37 : decode cX2_init 37 = .ok (.aload_n 0, 1) := by decide +kernel
theorem dX2_init_38 : decode cX2_init 38 = .ok (.bipush 10, 2) := by decide +kernel
theorem dX2_init_40 : decode cX2_init 40 = .ok (.newarray .int, 2) := by decide +kernel
theorem dX2_init_42 : decode cX2_init 42 = .ok (.putfield 28, 3) := by decide +kernel
theorem dX2_init_45 : decode cX2_init 45 = .ok (.aload_n 0, 1) := by decide +kernel
theorem dX2_init_46 : decode cX2_init 46 = .ok (.bipush 10, 2) := by decide +kernel
theorem dX2_init_48 : decode cX2_init 48 = .ok (.newarray .long, 2) := by decide +kernel
theorem dX2_init_50 : decode cX2_init 50 = .ok (.putfield 31, 3) := by decide +kernel
theorem dX2_init_53 : decode cX2_init 53 = .ok (.aload_n 0, 1) := by decide +kernel
theorem dX2_init_54 : decode cX2_init 54 = .ok (.sipush 313, 3) := by decide +kernel
theorem dX2_init_57 : decode cX2_init 57 = .ok (.newarray .int, 2) := by decide +kernel
theorem dX2_init_59 : decode cX2_init 59 = .ok (.putfield 35, 3) := by decide +kernel
theorem dX2_init_62 : decode cX2_init 62 = .ok (.aload_n 0, 1) := by decide +kernel
theorem dX2_init_63 : decode cX2_init 63 = .ok (.bipush 40, 2) := by decide +kernel
theorem dX2_init_65 : decode cX2_init 65 = .ok (.newarray .int, 2) := by decide +kernel
theorem dX2_init_67 : decode cX2_init 67 = .ok (.putfield 38, 3) := by decide +kernel
theorem dX2_init_70 : decode cX2_init 70 = .ok (.aload_n 0, 1) := by decide +kernel
theorem dX2_init_71 : decode cX2_init 71 = .ok (.bipush 40, 2) := by decide +kernel
theorem dX2_init_73 : decode cX2_init 73 = .ok (.newarray .long, 2) := by decide +kernel
theorem dX2_init_75 : decode cX2_init 75 = .ok (.putfield 41, 3) := by decide +kernel
theorem dX2_init_78 : decode cX2_init 78 = .ok (.iconst 1, 1) := by decide +kernel
theorem dX2_init_79 : decode cX2_init 79 = .ok (.istore_n 1, 1) := by decide +kernel
theorem dX2_init_80 : decode cX2_init 80 = .ok (.iload_n 1, 1) := by decide +kernel
theorem dX2_init_81 : decode cX2_init 81 = .ok (.iconst 3, 1) := by decide +kernel
theorem dX2_init_82 : decode cX2_init 82 = .ok (.if_icmp .gt 26, 3) := by decide +kernel
theorem dX2_init_85 : decode cX2_init 85 = .ok (.aload_n 0, 1) := by decide +kernel
theorem dX2_init_86 : decode cX2_init 86 = .ok (.getfield 21, 3) := by decide +kernel
theorem dX2_init_89 : decode cX2_init 89 = .ok (.iload_n 1, 1) := by decide +kernel
theorem dX2_init_90 : decode cX2_init 90 = .ok (.bipush 100, 2) := by decide +kernel
theorem dX2_init_92 : decode cX2_init 92 = .ok (.iastore, 1) := by decide +kernel
theorem dX2_init_93 : decode cX2_init 93 = .ok (.aload_n 0, 1) := by decide +kernel
theorem dX2_init_94 : decode cX2_init 94 = .ok (.getfield 25, 3) := by decide +kernel
theorem dX2_init_97 : decode cX2_init 97 = .ok (.iload_n 1, 1) := by decide +kernel
theorem dX2_init_98 : decode cX2_init 98 = .ok (.sipush 200, 3) := by decide +kernel
theorem dX2_init_101 : decode cX2_init 101 = .ok (.iastore, 1) := by decide +kernel
theorem dX2_init_102 : decode cX2_init 102 = .ok (.iinc 1 1, 3) := by decide +kernel
theorem dX2_init_105 : decode cX2_init 105 = .ok (.goto (-25), 3) := by decide +kernel
theorem dX2_init_108 : decode cX2_init 108 = .ok (.return_, 1) := by decide +kernel
theorem dX2_pass_0 : decode cX2_pass 0 = .ok (.iload_n 1, 1) := by decide +kernel
theorem dX2_pass_1 : decode cX2_pass 1 = .ok (.iconst 1, 1) := by decide +kernel
theorem dX2_pass_2 : decode cX2_pass 2 = .ok (.sipush 5000, 3) := by decide +kernel
theorem dX2_pass_5 : decode cX2_pass 5 = .ok (.invokestatic 44, 3) := by decide +kernel
theorem dX2_pass_8 : decode cX2_pass 8 = .ok (.ifCond .ne 6, 3) := by decide +kernel
theorem dX2_pass_11 : decode cX2_pass 11 = .ok (.bipush (-2), 2) := by decide +kernel
theorem dX2_pass_13 : decode cX2_pass 13 = .ok (.ireturn, 1) := by decide +kernel
theorem dX2_pass_14 : decode cX2_pass 14 = .ok (.aload_n 0, 1) := by decide +kernel
theorem dX2_pass_15 : decode cX2_pass 15 = .ok (.getfield 48, 3) := by decide +kernel
theorem dX2_pass_18 : decode cX2_pass 18 = .ok (.iload_n 1, 1) := by decide +kernel
theorem dX2_pass_19 : decode cX2_pass 19 = .ok (.iadd, 1) := by decide +kernel
theorem dX2_pass_20 : decode cX2_pass 20 = .ok (.sipush 20000, 3) := by decide +kernel
theorem dX2_pass_23 : decode cX2_pass 23 = .ok (.if_icmp .le 6, 3) := by decide +kernel
theorem dX2_pass_26 : decode cX2_pass 26 = .ok (.bipush (-4), 2) := by decide +kernel
theorem dX2_pass_28 : decode cX2_pass 28 = .ok (.ireturn, 1) := by decide +kernel
theorem dX2_pass_29 : decode cX2_pass 29 = .ok (.aload_n 0, 1) := by decide +kernel
theorem dX2_pass_30 : decode cX2_pass 30 = .ok (.dup, 1) := by decide +kernel
theorem dX2_pass_31 : decode cX2_pass 31 = .ok (.getfield 48, 3) := by decide +kernel
theorem dX2_pass_34 : decode cX2_pass 34 = .ok (.iload_n 1, 1) := by decide +kernel
theorem dX2_pass_35 : decode cX2_pass 35 = .ok (.iadd, 1) := by decide +kernel
theorem dX2_pass_36 : decode cX2_pass 36 = .ok (.putfield 48, 3) := by decide +kernel
theorem dX2_pass_39 : decode cX2_pass 39 = .ok (.aload_n 0, 1) := by decide +kernel
theorem dX2_pass_40 : decode cX2_pass 40 = .ok (.getfield 48, 3) := by decide +kernel
theorem dX2_pass_43 : decode cX2_pass 43 = .ok (.ireturn, 1) := by decide +kernel
theorem dX2_thing_0 : decode cX2_thing 0 = .ok (.iload_n 1, 1) := by decide +kernel
theorem dX2_thing_1 : decode cX2_thing 1 = .ok (.iconst 0, 1) := by decide +kernel
theorem dX2_thing_2 : decode cX2_thing 2 = .ok (.iconst 3, 1) := by decide +kernel
theorem dX2_thing_3 : decode cX2_thing 3 = .ok (.invokestatic 44, 3) := by decide +kernel
theorem dX2_thing_6 : decode cX2_thing 6 = .ok (.ifCond .ne 6, 3) := by decide +kernel
theorem dX2_thing_9 : decode cX2_thing 9 = .ok (.bipush (-2), 2) := by decide +kernel
theorem dX2_thing_11 : decode cX2_thing 11 = .ok (.ireturn, 1) := by decide +kernel
theorem dX2_thing_12 : decode cX2_thing 12 = .ok (.iload_n 2, 1) := by decide +kernel
theorem dX2_thing_13 : decode cX2_thing 13 = .ok (.iconst 0, 1) := by decide +kernel
theorem dX2_thing_14 : decode cX2_thing 14 = .ok (.bipush 100, 2) := by decide +kernel
theorem dX2_thing_16 : decode cX2_thing 16 = .ok (.invokestatic 44, 3) := by decide +kernel
theorem dX2_thing_19 : decode cX2_thing 19 = .ok (.ifCond .ne 6, 3) := by decide +kernel
theorem dX2_thing_22 : decode cX2_thing 22 = .ok (.bipush (-2), 2) := by decide +kernel
theorem dX2_thing_24 : decode cX2_thing 24 = .ok (.ireturn, 1) := by decide +kernel
theorem dX2_thing_25 : decode cX2_thing 25 = .ok (.iload_n 3, 1) := by decide +kernel
theorem dX2_thing_26 : decode cX2_thing 26 = .ok (.iconst 1, 1) := by decide +kernel
theorem dX2_thing_27 : decode cX2_thing 27 = .ok (.sipush 4000, 3) := by decide +kernel
theorem dX2_thing_30 : decode cX2_thing 30 = .ok (.invokestatic 44, 3) := by decide +kernel
theorem dX2_thing_33 : decode cX2_thing 33 = .ok (.ifCond .ne 6, 3) := by decide +kernel
theorem dX2_thing_36 : decode cX2_thing 36 = .ok (.bipush (-2), 2) := by decide +kernel
theorem dX2_thing_38 : decode cX2_thing 38 = .ok (.ireturn, 1) := by decide +kernel
theorem dX2_thing_39 : decode cX2_thing 39 = .ok (.iload 4, 2) := by decide +kernel
theorem dX2_thing_41 : decode cX2_thing 41 = .ok (.invokestatic 52, 3) := by decide +kernel
theorem dX2_thing_44 : decode cX2_thing 44 = .ok (.ifCond .ne 5, 3) := by decide +kernel
theorem dX2_thing_47 : decode cX2_thing 47 = .ok (.iconst (-1), 1) := by decide +kernel
theorem dX2_thing_48 : decode cX2_thing 48 = .ok (.ireturn, 1) := by decide +kernel
theorem dX2_thing_49 : decode cX2_thing 49 = .ok (.aload_n 0, 1) := by decide +kernel
theorem dX2_thing_50 : decode cX2_thing 50 = .ok (.getfield 56, 3) := by decide +kernel
theorem dX2_thing_53 : decode cX2_thing 53 = .ok (.bipush 40, 2) := by decide +kernel
theorem dX2_thing_55 : decode cX2_thing 55 = .ok (.if_icmp .lt 6, 3) := by decide +kernel
theorem dX2_thing_58 : decode cX2_thing 58 = .ok (.bipush (-4), 2) := by decide +kernel
theorem dX2_thing_60 : decode cX2_thing 60 = .ok (.ireturn, 1) := by decide +kernel
theorem dX2_thing_61 : decode cX2_thing 61 = .ok (.aload_n 0, 1) := by decide +kernel
theorem dX2_thing_62 : decode cX2_thing 62 = .ok (.getfield 56, 3) := by decide +kernel
theorem dX2_thing_65 : decode cX2_thing 65 = .ok (.istore 5, 2) := by decide +kernel
theorem dX2_thing_67 : decode cX2_thing 67 = .ok (.aload_n 0, 1) := by decide +kernel
theorem dX2_thing_68 : decode cX2_thing 68 = .ok (.getfield 11, 3) := by decide +kernel
theorem dX2_thing_71 : decode cX2_thing 71 = .ok (.iload 5, 2) := by decide +kernel
theorem dX2_thing_73 : decode cX2_thing 73 = .ok (.new 9, 3) := by decide +kernel
theorem dX2_thing_76 : decode cX2_thing 76 = .ok (.dup, 1) := by decide +kernel
theorem dX2_thing_77 : decode cX2_thing 77 = .ok (.iload_n 1, 1) := by decide +kernel
theorem dX2_thing_78 : decode cX2_thing 78 = .ok (.iload_n 2, 1) := by decide +kernel
theorem dX2_thing_79 : decode cX2_thing 79 = .ok (.iload_n 3, 1) := by decide +kernel
theorem dX2_thing_80 : decode cX2_thing 80 = .ok (.iload 4, 2) := by decide +kernel
theorem dX2_thing_82 : decode cX2_thing 82 = .ok (.invokespecial 59, 3) := by decide +kernel
theorem dX2_thing_85 : decode cX2_thing 85 = .ok (.aastore, 1) := by decide +kernel
theorem dX2_thing_86 : decode cX2_thing 86 = .ok (.aload_n 0, 1) := by decide +kernel
theorem dX2_thing_87 : decode cX2_thing 87 = .ok (.dup, 1) := by decide +kernel
theorem dX2_thing_88 : decode cX2_thing 88 = .ok (.getfield 56, 3) := by decide +kernel
theorem dX2_thing_91 : decode cX2_thing 91 = .ok (.iconst 1, 1) := by decide +kernel
theorem dX2_thing_92 : decode cX2_thing 92 = .ok (.iadd, 1) := by decide +kernel
theorem dX2_thing_93 : decode cX2_thing 93 = .ok (.putfield 56, 3) := by decide +kernel
theorem dX2_thing_96 : decode cX2_thing 96 = .ok (.iload 5, 2) := by decide +kernel
theorem dX2_thing_98 : decode cX2_thing 98 = .ok (.ireturn, 1) := by decide +kernel
theorem dX2_about_0 : decode cX2_about 0 = .ok (.aload_n 0, 1) := by decide +kernel
theorem dX2_about_1 : decode cX2_about 1 = .ok (.iload_n 1, 1) := by decide +kernel
theorem dX2_about_2 : decode cX2_about 2 = .ok (.invokevirtual 62, 3) := by decide +kernel
theorem dX2_about_5 : decode cX2_about 5 = .ok (.astore_n 3, 1) := by decide +kernel
theorem dX2_about_6 : decode cX2_about 6 = .ok (.aload_n 3, 1) := by decide +kernel
theorem dX2_about_7 : decode cX2_about 7 = .ok (.ifnonnull 5, 3) := by decide +kernel
theorem dX2_about_10 : decode cX2_about 10 = .ok (.iconst (-1), 1) := by decide +kernel
theorem dX2_about_11 : decode cX2_about 11 = .ok (.ireturn, 1) := by decide +kernel
theorem dX2_about_12 : decode cX2_about 12 = .ok (.iload_n 2, 1) := by decide +kernel
theorem dX2_about_13 : decode cX2_about 13 = .ok (.tableswitch 90 0 7 #[47, 52, 57, 62, 67, 72, 80, 85], 47) := by decide +kernel
theorem dX2_about_60 : decode cX2_about 60 = .ok (.aload_n 3, 1) := by decide +kernel
theorem dX2_about_61 : decode cX2_about 61 = .ok (.getfield 66, 3) := by decide +kernel
theorem dX2_about_64 : decode cX2_about 64 = .ok (.ireturn, 1) := by decide +kernel
theorem dX2_about_65 : decode cX2_about 65 = .ok (.aload_n 3, 1) := by decide +kernel
theorem dX2_about_66 : decode cX2_about 66 = .ok (.getfield 69, 3) := by decide +kernel
theorem dX2_about_69 : decode cX2_about 69 = .ok (.ireturn, 1) := by decide +kernel
theorem dX2_about_70 : decode cX2_about 70 = .ok (.aload_n 3, 1) := by decide +kernel
theorem dX2_about_71 : decode cX2_about 71 = .ok (.getfield 72, 3) := by decide +kernel
theorem dX2_about_74 : decode cX2_about 74 = .ok (.ireturn, 1) := by decide +kernel
theorem dX2_about_75 : decode cX2_about 75 = .ok (.aload_n 3, 1) := by decide +kernel
theorem dX2_about_76 : decode cX2_about 76 = .ok (.getfield 75, 3) := by decide +kernel
theorem dX2_about_79 : decode cX2_about 79 = .ok (.ireturn, 1) := by decide +kernel
theorem dX2_about_80 : decode cX2_about 80 = .ok (.aload_n 3, 1) := by decide +kernel
theorem dX2_about_81 : decode cX2_about 81 = .ok (.getfield 78, 3) := by decide +kernel
theorem dX2_about_84 : decode cX2_about 84 = .ok (.ireturn, 1) := by decide +kernel
theorem dX2_about_85 : decode cX2_about 85 = .ok (.aload_n 3, 1) := by decide +kernel
theorem dX2_about_86 : decode cX2_about 86 = .ok (.getfield 81, 3) := by decide +kernel
theorem dX2_about_89 : decode cX2_about 89 = .ok (.invokestatic 85, 3) := by decide +kernel
theorem dX2_about_92 : decode cX2_about 92 = .ok (.ireturn, 1) := by decide +kernel
theorem dX2_about_93 : decode cX2_about 93 = .ok (.aload_n 3, 1) := by decide +kernel
theorem dX2_about_94 : decode cX2_about 94 = .ok (.getfield 89, 3) := by decide +kernel
theorem dX2_about_97 : decode cX2_about 97 = .ok (.ireturn, 1) := by decide +kernel
theorem dX2_about_98 : decode cX2_about 98 = .ok (.aload_n 3, 1) := by decide +kernel
theorem dX2_about_99 : decode cX2_about 99 = .ok (.getfield 92, 3) := by decide +kernel
theorem dX2_about_102 : decode cX2_about 102 = .ok (.ireturn, 1) := by decide +kernel
theorem dX2_about_103 : decode cX2_about 103 = .ok (.bipush (-2), 2) := by decide +kernel
theorem dX2_about_105 : decode cX2_about 105 = .ok (.ireturn, 1) := by decide +kernel
theorem dX2_draw_0 : decode cX2_draw 0 = .ok (.aload_n 0, 1) := by decide +kernel
theorem dX2_draw_1 : decode cX2_draw 1 = .ok (.iload_n 1, 1) := by decide +kernel
theorem dX2_draw_2 : decode cX2_draw 2 = .ok (.invokevirtual 62, 3) := by decide +kernel
theorem dX2_draw_5 : decode cX2_draw 5 = .ok (.astore_n 3, 1) := by decide +kernel
theorem dX2_draw_6 : decode cX2_draw 6 = .ok (.aload_n 3, 1) := by decide +kernel
theorem dX2_draw_7 : decode cX2_draw 7 = .ok (.ifnonnull 5, 3) := by decide +kernel
theorem dX2_draw_10 : decode cX2_draw 10 = .ok (.iconst (-1), 1) := by decide +kernel
theorem dX2_draw_11 : decode cX2_draw 11 = .ok (.ireturn, 1) := by decide +kernel
theorem dX2_draw_12 : decode cX2_draw 12 = .ok (.iload_n 2, 1) := by decide +kernel
theorem dX2_draw_13 : decode cX2_draw 13 = .ok (.ldc 95, 2) := by decide +kernel
theorem dX2_draw_15 : decode cX2_draw 15 = .ok (.ldc 96, 2) := by decide +kernel
theorem dX2_draw_17 : decode cX2_draw 17 = .ok (.invokestatic 44, 3) := by decide +kernel
theorem dX2_draw_20 : decode cX2_draw 20 = .ok (.ifCond .ne 6, 3) := by decide +kernel
theorem dX2_draw_23 : decode cX2_draw 23 = .ok (.bipush (-2), 2) := by decide +kernel
theorem dX2_draw_25 : decode cX2_draw 25 = .ok (.ireturn, 1) := by decide +kernel
theorem dX2_draw_26 : decode cX2_draw 26 = .ok (.aload_n 3, 1) := by decide +kernel
theorem dX2_draw_27 : decode cX2_draw 27 = .ok (.getfield 66, 3) := by decide +kernel
theorem dX2_draw_30 : decode cX2_draw 30 = .ok (.iconst 3, 1) := by decide +kernel
theorem dX2_draw_31 : decode cX2_draw 31 = .ok (.if_icmp .eq 6, 3) := by decide +kernel
theorem dX2_draw_34 : decode cX2_draw 34 = .ok (.bipush (-3), 2) := by decide +kernel
theorem dX2_draw_36 : decode cX2_draw 36 = .ok (.ireturn, 1) := by decide +kernel
theorem dX2_draw_37 : decode cX2_draw 37 = .ok (.aload_n 3, 1) := by decide +kernel
theorem dX2_draw_38 : decode cX2_draw 38 = .ok (.invokevirtual 97, 3) := by decide +kernel
theorem dX2_draw_41 : decode cX2_draw 41 = .ok (.ifCond .eq 6, 3) := by decide +kernel
theorem dX2_draw_44 : decode cX2_draw 44 = .ok (.bipush (-4), 2) := by decide +kernel
theorem dX2_draw_46 : decode cX2_draw 46 = .ok (.ireturn, 1) := by decide +kernel
theorem dX2_draw_47 : decode cX2_draw 47 = .ok (.aload_n 3, 1) := by decide +kernel
theorem dX2_draw_48 : decode cX2_draw 48 = .ok (.iload_n 2, 1) := by decide +kernel
theorem dX2_draw_49 : decode cX2_draw 49 = .ok (.invokevirtual 101, 3) := by decide +kernel
theorem dX2_draw_52 : decode cX2_draw 52 = .ok (.ireturn, 1) := by decide +kernel
theorem dX2_allow_0 : decode cX2_allow 0 = .ok (.iload_n 1, 1) := by decide +kernel
theorem dX2_allow_1 : decode cX2_allow 1 = .ok (.iconst 1, 1) := by decide +kernel
theorem dX2_allow_2 : decode cX2_allow 2 = .ok (.iconst 3, 1) := by decide +kernel
theorem dX2_allow_3 : decode cX2_allow 3 = .ok (.invokestatic 44, 3) := by decide +kernel
theorem dX2_allow_6 : decode cX2_allow 6 = .ok (.ifCond .ne 6, 3) := by decide +kernel
theorem dX2_allow_9 : decode cX2_allow 9 = .ok (.bipush (-2), 2) := by decide +kernel
theorem dX2_allow_11 : decode cX2_allow 11 = .ok (.ireturn, 1) := by decide +kernel
theorem dX2_allow_12 : decode cX2_allow 12 = .ok (.iload_n 3, 1) := by decide +kernel
theorem dX2_allow_13 : decode cX2_allow 13 = .ok (.iconst 0, 1) := by decide +kernel
theorem dX2_allow_14 : decode cX2_allow 14 = .ok (.ldc 96, 2) := by decide +kernel
theorem dX2_allow_16 : decode cX2_allow 16 = .ok (.invokestatic 44, 3) := by decide +kernel
theorem dX2_allow_19 : decode cX2_allow 19 = .ok (.ifCond .ne 6, 3) := by decide +kernel
theorem dX2_allow_22 : decode cX2_allow 22 = .ok (.bipush (-2), 2) := by decide +kernel
theorem dX2_allow_24 : decode cX2_allow 24 = .ok (.ireturn, 1) := by decide +kernel
theorem dX2_allow_25 : decode cX2_allow 25 = .ok (.iload_n 2, 1) := by decide +kernel
theorem dX2_allow_26 : decode cX2_allow 26 = .ok (.ifCond .eq 10, 3) := by decide +kernel
theorem dX2_allow_29 : decode cX2_allow 29 = .ok (.aload_n 0, 1) := by decide +kernel
theorem dX2_allow_30 : decode cX2_allow 30 = .ok (.getfield 21, 3) := by decide +kernel
theorem dX2_allow_33 : decode cX2_allow 33 = .ok (.goto 7, 3) := by decide +kernel
theorem dX2_allow_36 : decode cX2_allow 36 = .ok (.aload_n 0, 1) := by decide +kernel
theorem dX2_allow_37 : decode cX2_allow 37 = .ok (.getfield 25, 3) := by decide +kernel
theorem dX2_allow_40 : decode cX2_allow 40 = .ok (.astore 4, 2) := by decide +kernel
theorem dX2_allow_42 : decode cX2_allow 42 = .ok (.aload 4, 2) := by decide +kernel
theorem dX2_allow_44 : decode cX2_allow 44 = .ok (.iload_n 1, 1) := by decide +kernel
theorem dX2_allow_45 : decode cX2_allow 45 = .ok (.iaload, 1) := by decide +kernel
theorem dX2_allow_46 : decode cX2_allow 46 = .ok (.istore 5, 2) := by decide +kernel
theorem dX2_allow_48 : decode cX2_allow 48 = .ok (.aload 4, 2) := by decide +kernel
theorem dX2_allow_50 : decode cX2_allow 50 = .ok (.iload_n 1, 1) := by decide +kernel
theorem dX2_allow_51 : decode cX2_allow 51 = .ok (.iload_n 3, 1) := by decide +kernel
theorem dX2_allow_52 : decode cX2_allow 52 = .ok (.iastore, 1) := by decide +kernel
theorem dX2_allow_53 : decode cX2_allow 53 = .ok (.iload 5, 2) := by decide +kernel
theorem dX2_allow_55 : decode cX2_allow 55 = .ok (.ireturn, 1) := by decide +kernel
theorem dX2_move_0 : decode cX2_move 0 = .ok (.aload_n 0, 1) := by decide +kernel
theorem dX2_move_1 : decode cX2_move 1 = .ok (.iload_n 1, 1) := by decide +kernel
theorem dX2_move_2 : decode cX2_move 2 = .ok (.invokevirtual 62, 3) := by decide +kernel
theorem dX2_move_5 : decode cX2_move 5 = .ok (.astore_n 3, 1) := by decide +kernel
theorem dX2_move_6 : decode cX2_move 6 = .ok (.aload_n 3, 1) := by decide +kernel
theorem dX2_move_7 : decode cX2_move 7 = .ok (.ifnull 10, 3) := by decide +kernel
theorem dX2_move_10 : decode cX2_move 10 = .ok (.iload_n 2, 1) := by decide +kernel
theorem dX2_move_11 : decode cX2_move 11 = .ok (.invokestatic 52, 3) := by decide +kernel
theorem dX2_move_14 : decode cX2_move 14 = .ok (.ifCond .ne 5, 3) := by decide +kernel
theorem dX2_move_17 : decode cX2_move 17 = .ok (.iconst (-1), 1) := by decide +kernel
theorem dX2_move_18 : decode cX2_move 18 = .ok (.ireturn, 1) := by decide +kernel
theorem dX2_move_19 : decode cX2_move 19 = .ok (.aload_n 3, 1) := by decide +kernel
theorem dX2_move_20 : decode cX2_move 20 = .ok (.invokevirtual 105, 3) := by decide +kernel
theorem dX2_move_23 : decode cX2_move 23 = .ok (.ifCond .ne 6, 3) := by decide +kernel
theorem dX2_move_26 : decode cX2_move 26 = .ok (.bipush (-3), 2) := by decide +kernel
theorem dX2_move_28 : decode cX2_move 28 = .ok (.ireturn, 1) := by decide +kernel
theorem dX2_move_29 : decode cX2_move 29 = .ok (.aload_n 3, 1) := by decide +kernel
theorem dX2_move_30 : decode cX2_move 30 = .ok (.getfield 75, 3) := by decide +kernel
theorem dX2_move_33 : decode cX2_move 33 = .ok (.istore 4, 2) := by decide +kernel
theorem dX2_move_35 : decode cX2_move 35 = .ok (.aload_n 3, 1) := by decide +kernel
theorem dX2_move_36 : decode cX2_move 36 = .ok (.iload_n 2, 1) := by decide +kernel
theorem dX2_move_37 : decode cX2_move 37 = .ok (.putfield 75, 3) := by decide +kernel
theorem dX2_move_40 : decode cX2_move 40 = .ok (.aload_n 3, 1) := by decide +kernel
theorem dX2_move_41 : decode cX2_move 41 = .ok (.ldc 108, 2) := by decide +kernel
theorem dX2_move_43 : decode cX2_move 43 = .ok (.putfield 89, 3) := by decide +kernel
theorem dX2_move_46 : decode cX2_move 46 = .ok (.iload 4, 2) := by decide +kernel
theorem dX2_move_48 : decode cX2_move 48 = .ok (.ireturn, 1) := by decide +kernel
theorem dX2_trial_0 : decode cX2_trial 0 = .ok (.aload_n 0, 1) := by decide +kernel
theorem dX2_trial_1 : decode cX2_trial 1 = .ok (.iload_n 1, 1) := by decide +kernel
theorem dX2_trial_2 : decode cX2_trial 2 = .ok (.invokevirtual 62, 3) := by decide +kernel
theorem dX2_trial_5 : decode cX2_trial 5 = .ok (.astore 5, 2) := by decide +kernel
theorem dX2_trial_7 : decode cX2_trial 7 = .ok (.aload_n 0, 1) := by decide +kernel
theorem dX2_trial_8 : decode cX2_trial 8 = .ok (.iload_n 2, 1) := by decide +kernel
theorem dX2_trial_9 : decode cX2_trial 9 = .ok (.invokevirtual 62, 3) := by decide +kernel
theorem dX2_trial_12 : decode cX2_trial 12 = .ok (.astore 6, 2) := by decide +kernel
theorem dX2_trial_14 : decode cX2_trial 14 = .ok (.aload 5, 2) := by decide +kernel
theorem dX2_trial_16 : decode cX2_trial 16 = .ok (.ifnull 8, 3) := by decide +kernel
theorem dX2_trial_19 : decode cX2_trial 19 = .ok (.aload 6, 2) := by decide +kernel
theorem dX2_trial_21 : decode cX2_trial 21 = .ok (.ifnonnull 5, 3) := by decide +kernel
theorem dX2_trial_24 : decode cX2_trial 24 = .ok (.iconst (-1), 1) := by decide +kernel
theorem dX2_trial_25 : decode cX2_trial 25 = .ok (.ireturn, 1) := by decide +kernel
theorem dX2_trial_26 : decode cX2_trial 26 = .ok (.aload 5, 2) := by decide +kernel
theorem dX2_trial_28 : decode cX2_trial 28 = .ok (.getfield 66, 3) := by decide +kernel
theorem dX2_trial_31 : decode cX2_trial 31 = .ok (.iconst 3, 1) := by decide +kernel
theorem dX2_trial_32 : decode cX2_trial 32 = .ok (.if_icmp .eq 17, 3) := by decide +kernel
theorem dX2_trial_35 : decode cX2_trial 35 = .ok (.iload_n 3, 1) := by decide +kernel
theorem dX2_trial_36 : decode cX2_trial 36 = .ok (.ldc 95, 2) := by decide +kernel
theorem dX2_trial_38 : decode cX2_trial 38 = .ok (.ldc 96, 2) := by decide +kernel
theorem dX2_trial_40 : decode cX2_trial 40 = .ok (.invokestatic 44, 3) := by decide +kernel
theorem dX2_trial_43 : decode cX2_trial 43 = .ok (.ifCond .ne 6, 3) := by decide +kernel
theorem dX2_trial_46 : decode cX2_trial 46 = .ok (.bipush (-2), 2) := by decide +kernel
theorem dX2_trial_48 : decode cX2_trial 48 = .ok (.ireturn, 1) := by decide +kernel
theorem dX2_trial_49 : decode cX2_trial 49 = .ok (.iload 4, 2) := by decide +kernel
theorem dX2_trial_51 : decode cX2_trial 51 = .ok (.iconst 0, 1) := by decide +kernel
theorem dX2_trial_52 : decode cX2_trial 52 = .ok (.ldc 96, 2) := by decide +kernel
theorem dX2_trial_54 : decode cX2_trial 54 = .ok (.invokestatic 44, 3) := by decide +kernel
theorem dX2_trial_57 : decode cX2_trial 57 = .ok (.ifCond .ne 6, 3) := by decide +kernel
theorem dX2_trial_60 : decode cX2_trial 60 = .ok (.bipush (-2), 2) := by decide +kernel
theorem dX2_trial_62 : decode cX2_trial 62 = .ok (.ireturn, 1) := by decide +kernel
theorem dX2_trial_63 : decode cX2_trial 63 = .ok (.aload 5, 2) := by decide +kernel
theorem dX2_trial_65 : decode cX2_trial 65 = .ok (.invokevirtual 109, 3) := by decide +kernel
theorem dX2_trial_68 : decode cX2_trial 68 = .ok (.ifCond .eq 20, 3) := by decide +kernel
theorem dX2_trial_71 : decode cX2_trial 71 = .ok (.iload_n 1, 1) := by decide +kernel
theorem dX2_trial_72 : decode cX2_trial 72 = .ok (.iload_n 2, 1) := by decide +kernel
theorem dX2_trial_73 : decode cX2_trial 73 = .ok (.if_icmp .eq 15, 3) := by decide +kernel
theorem dX2_trial_76 : decode cX2_trial 76 = .ok (.aload 6, 2) := by decide +kernel
theorem dX2_trial_78 : decode cX2_trial 78 = .ok (.aload_n 0, 1) := by decide +kernel
theorem dX2_trial_79 : decode cX2_trial 79 = .ok (.getfield 48, 3) := by decide +kernel
theorem dX2_trial_82 : decode cX2_trial 82 = .ok (.invokevirtual 112, 3) := by decide +kernel
theorem dX2_trial_85 : decode cX2_trial 85 = .ok (.ifCond .ne 6, 3) := by decide +kernel
theorem dX2_trial_88 : decode cX2_trial 88 = .ok (.bipush (-3), 2) := by decide +kernel
theorem dX2_trial_90 : decode cX2_trial 90 = .ok (.ireturn, 1) := by decide +kernel
theorem dX2_trial_91 : decode cX2_trial 91 = .ok (.aload_n 0, 1) := by decide +kernel
theorem dX2_trial_92 : decode cX2_trial 92 = .ok (.getfield 115, 3) := by decide +kernel
theorem dX2_trial_95 : decode cX2_trial 95 = .ok (.sipush 300, 3) := by decide +kernel
theorem dX2_trial_98 : decode cX2_trial 98 = .ok (.if_icmp .lt 6, 3) := by decide +kernel
theorem dX2_trial_101 : decode cX2_trial 101 = .ok (.bipush (-4), 2) := by decide +kernel
theorem dX2_trial_103 : decode cX2_trial 103 = .ok (.ireturn, 1) := by decide +kernel
theorem dX2_trial_104 : decode cX2_trial 104 = .ok (.iload_n 3, 1) := by decide +kernel
theorem dX2_trial_105 : decode cX2_trial 105 = .ok (.istore 7, 2) := by decide +kernel
theorem dX2_trial_107 : decode cX2_trial 107 = .ok (.aload 6, 2) := by decide +kernel
theorem dX2_trial_109 : decode cX2_trial 109 = .ok (.aload_n 0, 1) := by decide +kernel
theorem dX2_trial_110 : decode cX2_trial 110 = .ok (.getfield 48, 3) := by decide +kernel
theorem dX2_trial_113 : decode cX2_trial 113 = .ok (.invokevirtual 118, 3) := by decide +kernel
theorem dX2_trial_116 : decode cX2_trial 116 = .ok (.iload 4, 2) := by decide +kernel
theorem dX2_trial_118 : decode cX2_trial 118 = .ok (.iadd, 1) := by decide +kernel
theorem dX2_trial_119 : decode cX2_trial 119 = .ok (.istore 8, 2) := by decide +kernel
theorem dX2_trial_121 : decode cX2_trial 121 = .ok (.aload 5, 2) := by decide +kernel
theorem dX2_trial_123 : decode cX2_trial 123 = .ok (.getfield 66, 3) := by decide +kernel
theorem dX2_trial_126 : decode cX2_trial 126 = .ok (.iconst 3, 1) := by decide +kernel
theorem dX2_trial_127 : decode cX2_trial 127 = .ok (.if_icmp .ne 20, 3) := by decide +kernel
theorem dX2_trial_130 : decode cX2_trial 130 = .ok (.aload 5, 2) := by decide +kernel
theorem dX2_trial_132 : decode cX2_trial 132 = .ok (.invokevirtual 121, 3) := by decide +kernel
theorem dX2_trial_135 : decode cX2_trial 135 = .ok (.istore 7, 2) := by decide +kernel
theorem dX2_trial_137 : decode cX2_trial 137 = .ok (.iload 8, 2) := by decide +kernel
theorem dX2_trial_139 : decode cX2_trial 139 = .ok (.aload 5, 2) := by decide +kernel
theorem dX2_trial_141 : decode cX2_trial 141 = .ok (.invokevirtual 125, 3) := by decide +kernel
theorem dX2_trial_144 : decode cX2_trial 144 = .ok (.iadd, 1) := by decide +kernel
theorem dX2_trial_145 : decode cX2_trial 145 = .ok (.istore 8, 2) := by decide +kernel
theorem dX2_trial_147 : decode cX2_trial 147 = .ok (.aload 6, 2) := by decide +kernel
theorem dX2_trial_149 : decode cX2_trial 149 = .ok (.invokevirtual 128, 3) := by decide +kernel
theorem dX2_trial_152 : decode cX2_trial 152 = .ok (.iload 7, 2) := by decide +kernel
theorem dX2_trial_154 : decode cX2_trial 154 = .ok (.iadd, 1) := by decide +kernel
theorem dX2_trial_155 : decode cX2_trial 155 = .ok (.istore 9, 2) := by decide +kernel
theorem dX2_trial_157 : decode cX2_trial 157 = .ok (.new 15, 3) := by decide +kernel
theorem dX2_trial_160 : decode cX2_trial 160 = .ok (.dup, 1) := by decide +kernel
theorem dX2_trial_161 : decode cX2_trial 161 = .ok (.aload_n 0, 1) := by decide +kernel
theorem dX2_trial_162 : decode cX2_trial 162 = .ok (.getfield 115, 3) := by decide +kernel
theorem dX2_trial_165 : decode cX2_trial 165 = .ok (.iload_n 1, 1) := by decide +kernel
theorem dX2_trial_166 : decode cX2_trial 166 = .ok (.iload_n 2, 1) := by decide +kernel
theorem dX2_trial_167 : decode cX2_trial 167 = .ok (.aload 6, 2) := by decide +kernel
theorem dX2_trial_169 : decode cX2_trial 169 = .ok (.getfield 81, 3) := by decide +kernel
theorem dX2_trial_172 : decode cX2_trial 172 = .ok (.aload_n 0, 1) := by decide +kernel
theorem dX2_trial_173 : decode cX2_trial 173 = .ok (.getfield 48, 3) := by decide +kernel
theorem dX2_trial_176 : decode cX2_trial 176 = .ok (.iload 9, 2) := by decide +kernel
theorem dX2_trial_178 : decode cX2_trial 178 = .ok (.iload 8, 2) := by decide +kernel
theorem dX2_trial_180 : decode cX2_trial 180 = .ok (.invokespecial 131, 3) := by decide +kernel
theorem dX2_trial_183 : decode cX2_trial 183 = .ok (.astore 10, 2) := by decide +kernel
theorem dX2_trial_185 : decode cX2_trial 185 = .ok (.aload_n 0, 1) := by decide +kernel
theorem dX2_trial_186 : decode cX2_trial 186 = .ok (.getfield 17, 3) := by decide +kernel
theorem dX2_trial_189 : decode cX2_trial 189 = .ok (.aload_n 0, 1) := by decide +kernel
theorem dX2_trial_190 : decode cX2_trial 190 = .ok (.getfield 115, 3) := by decide +kernel
theorem dX2_trial_193 : decode cX2_trial 193 = .ok (.aload 10, 2) := by decide +kernel
theorem dX2_trial_195 : decode cX2_trial 195 = .ok (.aastore, 1) := by decide +kernel
theorem dX2_trial_196 : decode cX2_trial 196 = .ok (.aload_n 0, 1) := by decide +kernel
theorem dX2_trial_197 : decode cX2_trial 197 = .ok (.dup, 1) := by decide +kernel
theorem dX2_trial_198 : decode cX2_trial 198 = .ok (.getfield 115, 3) := by decide +kernel
theorem dX2_trial_201 : decode cX2_trial 201 = .ok (.iconst 1, 1) := by decide +kernel
theorem dX2_trial_202 : decode cX2_trial 202 = .ok (.iadd, 1) := by decide +kernel
theorem dX2_trial_203 : decode cX2_trial 203 = .ok (.putfield 115, 3) := by decide +kernel
theorem dX2_trial_206 : decode cX2_trial 206 = .ok (.aload_n 0, 1) := by decide +kernel
theorem dX2_trial_207 : decode cX2_trial 207 = .ok (.aload 5, 2) := by decide +kernel
theorem dX2_trial_209 : decode cX2_trial 209 = .ok (.aload 10, 2) := by decide +kernel
theorem dX2_trial_211 : decode cX2_trial 211 = .ok (.invokevirtual 134, 3) := by decide +kernel
theorem dX2_trial_214 : decode cX2_trial 214 = .ok (.aload 10, 2) := by decide +kernel
theorem dX2_trial_216 : decode cX2_trial 216 = .ok (.getfield 138, 3) := by decide +kernel
theorem dX2_trial_219 : decode cX2_trial 219 = .ok (.ireturn, 1) := by decide +kernel
theorem dX2_told_0 : decode cX2_told 0 = .ok (.aload_n 0, 1) := by decide +kernel
theorem dX2_told_1 : decode cX2_told 1 = .ok (.iload_n 1, 1) := by decide +kernel
theorem dX2_told_2 : decode cX2_told 2 = .ok (.invokevirtual 141, 3) := by decide +kernel
theorem dX2_told_5 : decode cX2_told 5 = .ok (.astore_n 3, 1) := by decide +kernel
theorem dX2_told_6 : decode cX2_told 6 = .ok (.aload_n 3, 1) := by decide +kernel
theorem dX2_told_7 : decode cX2_told 7 = .ok (.ifnonnull 5, 3) := by decide +kernel
theorem dX2_told_10 : decode cX2_told 10 = .ok (.iconst (-1), 1) := by decide +kernel
theorem dX2_told_11 : decode cX2_told 11 = .ok (.ireturn, 1) := by decide +kernel
theorem dX2_told_12 : decode cX2_told 12 = .ok (.iload_n 2, 1) := by decide +kernel
theorem dX2_told_13 : decode cX2_told 13 = .ok (.tableswitch 106 0 7 #[47, 52, 57, 62, 67, 72, 85, 98], 47) := by decide +kernel
theorem dX2_told_60 : decode cX2_told 60 = .ok (.aload_n 3, 1) := by decide +kernel
theorem dX2_told_61 : decode cX2_told 61 = .ok (.getfield 145, 3) := by decide +kernel
theorem dX2_told_64 : decode cX2_told 64 = .ok (.ireturn, 1) := by decide +kernel
theorem dX2_told_65 : decode cX2_told 65 = .ok (.aload_n 3, 1) := by decide +kernel
theorem dX2_told_66 : decode cX2_told 66 = .ok (.getfield 148, 3) := by decide +kernel
theorem dX2_told_69 : decode cX2_told 69 = .ok (.ireturn, 1) := by decide +kernel
theorem dX2_told_70 : decode cX2_told 70 = .ok (.aload_n 3, 1) := by decide +kernel
theorem dX2_told_71 : decode cX2_told 71 = .ok (.getfield 151, 3) := by decide +kernel
theorem dX2_told_74 : decode cX2_told 74 = .ok (.ireturn, 1) := by decide +kernel
theorem dX2_told_75 : decode cX2_told 75 = .ok (.aload_n 3, 1) := by decide +kernel
theorem dX2_told_76 : decode cX2_told 76 = .ok (.getfield 154, 3) := by decide +kernel
theorem dX2_told_79 : decode cX2_told 79 = .ok (.ireturn, 1) := by decide +kernel
theorem dX2_told_80 : decode cX2_told 80 = .ok (.aload_n 3, 1) := by decide +kernel
theorem dX2_told_81 : decode cX2_told 81 = .ok (.getfield 157, 3) := by decide +kernel
theorem dX2_told_84 : decode cX2_told 84 = .ok (.ireturn, 1) := by decide +kernel
theorem dX2_told_85 : decode cX2_told 85 = .ok (.aload_n 3, 1) := by decide +kernel
theorem dX2_told_86 : decode cX2_told 86 = .ok (.getfield 160, 3) := by decide +kernel
theorem dX2_told_89 : decode cX2_told 89 = .ok (.ifCond .eq 7, 3) := by decide +kernel
theorem dX2_told_92 : decode cX2_told 92 = .ok (.iconst 1, 1) := by decide +kernel
theorem dX2_told_93 : decode cX2_told 93 = .ok (.goto 4, 3) := by decide +kernel
theorem dX2_told_96 : decode cX2_told 96 = .ok (.iconst 0, 1) := by decide +kernel
theorem dX2_told_97 : decode cX2_told 97 = .ok (.ireturn, 1) := by decide +kernel
theorem dX2_told_98 : decode cX2_told 98 = .ok (.aload_n 3, 1) := by decide +kernel
theorem dX2_told_99 : decode cX2_told 99 = .ok (.getfield 164, 3) := by decide +kernel
theorem dX2_told_102 : decode cX2_told 102 = .ok (.ifCond .eq 7, 3) := by decide +kernel
theorem dX2_told_105 : decode cX2_told 105 = .ok (.iconst 1, 1) := by decide +kernel
theorem dX2_told_106 : decode cX2_told 106 = .ok (.goto 4, 3) := by decide +kernel
theorem dX2_told_109 : decode cX2_told 109 = .ok (.iconst 0, 1) := by decide +kernel
theorem dX2_told_110 : decode cX2_told 110 = .ok (.ireturn, 1) := by decide +kernel
theorem dX2_told_111 : decode cX2_told 111 = .ok (.aload_n 3, 1) := by decide +kernel
theorem dX2_told_112 : decode cX2_told 112 = .ok (.getfield 167, 3) := by decide +kernel
theorem dX2_told_115 : decode cX2_told 115 = .ok (.invokestatic 85, 3) := by decide +kernel
theorem dX2_told_118 : decode cX2_told 118 = .ok (.ireturn, 1) := by decide +kernel
theorem dX2_told_119 : decode cX2_told 119 = .ok (.bipush (-2), 2) := by decide +kernel
theorem dX2_told_121 : decode cX2_told 121 = .ok (.ireturn, 1) := by decide +kernel
theorem dX2_error_0 : decode cX2_error 0 = .ok (.aload_n 0, 1) := by decide +kernel
theorem dX2_error_1 : decode cX2_error 1 = .ok (.iload_n 1, 1) := by decide +kernel
theorem dX2_error_2 : decode cX2_error 2 = .ok (.invokevirtual 62, 3) := by decide +kernel
theorem dX2_error_5 : decode cX2_error 5 = .ok (.astore_n 2, 1) := by decide +kernel
theorem dX2_error_6 : decode cX2_error 6 = .ok (.aload_n 2, 1) := by decide +kernel
theorem dX2_error_7 : decode cX2_error 7 = .ok (.ifnonnull 5, 3) := by decide +kernel
theorem dX2_error_10 : decode cX2_error 10 = .ok (.iconst (-1), 1) := by decide +kernel
theorem dX2_error_11 : decode cX2_error 11 = .ok (.ireturn, 1) := by decide +kernel
theorem dX2_error_12 : decode cX2_error 12 = .ok (.aload_n 2, 1) := by decide +kernel
theorem dX2_error_13 : decode cX2_error 13 = .ok (.invokevirtual 170, 3) := by decide +kernel
theorem dX2_error_16 : decode cX2_error 16 = .ok (.ifCond .eq 10, 3) := by decide +kernel
theorem dX2_error_19 : decode cX2_error 19 = .ok (.aload_n 2, 1) := by decide +kernel
theorem dX2_error_20 : decode cX2_error 20 = .ok (.invokevirtual 128, 3) := by decide +kernel
theorem dX2_error_23 : decode cX2_error 23 = .ok (.goto 5, 3) := by decide +kernel
theorem dX2_error_26 : decode cX2_error 26 = .ok (.ldc 108, 2) := by decide +kernel
theorem dX2_error_28 : decode cX2_error 28 = .ok (.ireturn, 1) := by decide +kernel
theorem dX2_span_0 : decode cX2_span 0 = .ok (.aload_n 0, 1) := by decide +kernel
theorem dX2_span_1 : decode cX2_span 1 = .ok (.iload_n 1, 1) := by decide +kernel
theorem dX2_span_2 : decode cX2_span 2 = .ok (.invokevirtual 62, 3) := by decide +kernel
theorem dX2_span_5 : decode cX2_span 5 = .ok (.astore_n 2, 1) := by decide +kernel
theorem dX2_span_6 : decode cX2_span 6 = .ok (.aload_n 2, 1) := by decide +kernel
theorem dX2_span_7 : decode cX2_span 7 = .ok (.ifnonnull 5, 3) := by decide +kernel
theorem dX2_span_10 : decode cX2_span 10 = .ok (.iconst (-1), 1) := by decide +kernel
theorem dX2_span_11 : decode cX2_span 11 = .ok (.ireturn, 1) := by decide +kernel
theorem dX2_span_12 : decode cX2_span 12 = .ok (.aload_n 2, 1) := by decide +kernel
theorem dX2_span_13 : decode cX2_span 13 = .ok (.invokevirtual 170, 3) := by decide +kernel
theorem dX2_span_16 : decode cX2_span 16 = .ok (.ifCond .eq 14, 3) := by decide +kernel
theorem dX2_span_19 : decode cX2_span 19 = .ok (.aload_n 2, 1) := by decide +kernel
theorem dX2_span_20 : decode cX2_span 20 = .ok (.aload_n 0, 1) := by decide +kernel
theorem dX2_span_21 : decode cX2_span 21 = .ok (.getfield 48, 3) := by decide +kernel
theorem dX2_span_24 : decode cX2_span 24 = .ok (.invokevirtual 118, 3) := by decide +kernel
theorem dX2_span_27 : decode cX2_span 27 = .ok (.goto 5, 3) := by decide +kernel
theorem dX2_span_30 : decode cX2_span 30 = .ok (.ldc 108, 2) := by decide +kernel
theorem dX2_span_32 : decode cX2_span 32 = .ok (.ireturn, 1) := by decide +kernel
theorem dX2_settled_0 : decode cX2_settled 0 = .ok (.aload_n 0, 1) := by decide +kernel
theorem dX2_settled_1 : decode cX2_settled 1 = .ok (.iload_n 1, 1) := by decide +kernel
theorem dX2_settled_2 : decode cX2_settled 2 = .ok (.invokevirtual 62, 3) := by decide +kernel
theorem dX2_settled_5 : decode cX2_settled 5 = .ok (.astore_n 2, 1) := by decide +kernel
theorem dX2_settled_6 : decode cX2_settled 6 = .ok (.aload_n 2, 1) := by decide +kernel
theorem dX2_settled_7 : decode cX2_settled 7 = .ok (.ifnonnull 5, 3) := by decide +kernel
theorem dX2_settled_10 : decode cX2_settled 10 = .ok (.iconst (-1), 1) := by decide +kernel
theorem dX2_settled_11 : decode cX2_settled 11 = .ok (.ireturn, 1) := by decide +kernel
theorem dX2_settled_12 : decode cX2_settled 12 = .ok (.aload_n 2, 1) := by decide +kernel
theorem dX2_settled_13 : decode cX2_settled 13 = .ok (.invokevirtual 173, 3) := by decide +kernel
theorem dX2_settled_16 : decode cX2_settled 16 = .ok (.ifCond .eq 7, 3) := by decide +kernel
theorem dX2_settled_19 : decode cX2_settled 19 = .ok (.iconst 1, 1) := by decide +kernel
theorem dX2_settled_20 : decode cX2_settled 20 = .ok (.goto 4, 3) := by decide +kernel
theorem dX2_settled_23 : decode cX2_settled 23 = .ok (.iconst 0, 1) := by decide +kernel
theorem dX2_settled_24 : decode cX2_settled 24 = .ok (.ireturn, 1) := by decide +kernel
theorem dX2_due_0 : decode cX2_due 0 = .ok (.aload_n 0, 1) := by decide +kernel
theorem dX2_due_1 : decode cX2_due 1 = .ok (.iload_n 1, 1) := by decide +kernel
theorem dX2_due_2 : decode cX2_due 2 = .ok (.invokevirtual 62, 3) := by decide +kernel
theorem dX2_due_5 : decode cX2_due 5 = .ok (.astore_n 2, 1) := by decide +kernel
theorem dX2_due_6 : decode cX2_due 6 = .ok (.aload_n 2, 1) := by decide +kernel
theorem dX2_due_7 : decode cX2_due 7 = .ok (.ifnonnull 5, 3) := by decide +kernel
theorem dX2_due_10 : decode cX2_due 10 = .ok (.iconst (-1), 1) := by decide +kernel
theorem dX2_due_11 : decode cX2_due 11 = .ok (.ireturn, 1) := by decide +kernel
theorem dX2_due_12 : decode cX2_due 12 = .ok (.aload_n 2, 1) := by decide +kernel
theorem dX2_due_13 : decode cX2_due 13 = .ok (.aload_n 0, 1) := by decide +kernel
theorem dX2_due_14 : decode cX2_due 14 = .ok (.getfield 48, 3) := by decide +kernel
theorem dX2_due_17 : decode cX2_due 17 = .ok (.invokevirtual 176, 3) := by decide +kernel
theorem dX2_due_20 : decode cX2_due 20 = .ok (.ifCond .eq 7, 3) := by decide +kernel
theorem dX2_due_23 : decode cX2_due 23 = .ok (.iconst 1, 1) := by decide +kernel
theorem dX2_due_24 : decode cX2_due 24 = .ok (.goto 4, 3) := by decide +kernel
theorem dX2_due_27 : decode cX2_due 27 = .ok (.iconst 0, 1) := by decide +kernel
theorem dX2_due_28 : decode cX2_due 28 = .ok (.ireturn, 1) := by decide +kernel
theorem dX2_left_0 : decode cX2_left 0 = .ok (.aload_n 0, 1) := by decide +kernel
theorem dX2_left_1 : decode cX2_left 1 = .ok (.iload_n 1, 1) := by decide +kernel
theorem dX2_left_2 : decode cX2_left 2 = .ok (.invokevirtual 62, 3) := by decide +kernel
theorem dX2_left_5 : decode cX2_left 5 = .ok (.astore_n 2, 1) := by decide +kernel
theorem dX2_left_6 : decode cX2_left 6 = .ok (.aload_n 2, 1) := by decide +kernel
theorem dX2_left_7 : decode cX2_left 7 = .ok (.ifnonnull 5, 3) := by decide +kernel
theorem dX2_left_10 : decode cX2_left 10 = .ok (.iconst (-1), 1) := by decide +kernel
theorem dX2_left_11 : decode cX2_left 11 = .ok (.ireturn, 1) := by decide +kernel
theorem dX2_left_12 : decode cX2_left 12 = .ok (.aload_n 2, 1) := by decide +kernel
theorem dX2_left_13 : decode cX2_left 13 = .ok (.getfield 66, 3) := by decide +kernel
theorem dX2_left_16 : decode cX2_left 16 = .ok (.ifCond .ne 8, 3) := by decide +kernel
theorem dX2_left_19 : decode cX2_left 19 = .ok (.ldc 108, 2) := by decide +kernel
theorem dX2_left_21 : decode cX2_left 21 = .ok (.goto 11, 3) := by decide +kernel
theorem dX2_left_24 : decode cX2_left 24 = .ok (.aload_n 2, 1) := by decide +kernel
theorem dX2_left_25 : decode cX2_left 25 = .ok (.aload_n 0, 1) := by decide +kernel
theorem dX2_left_26 : decode cX2_left 26 = .ok (.getfield 48, 3) := by decide +kernel
theorem dX2_left_29 : decode cX2_left 29 = .ok (.invokevirtual 179, 3) := by decide +kernel
theorem dX2_left_32 : decode cX2_left 32 = .ok (.ireturn, 1) := by decide +kernel
theorem dX2_chain_0 : decode cX2_chain 0 = .ok (.aload_n 0, 1) := by decide +kernel
theorem dX2_chain_1 : decode cX2_chain 1 = .ok (.iload_n 1, 1) := by decide +kernel
theorem dX2_chain_2 : decode cX2_chain 2 = .ok (.invokevirtual 62, 3) := by decide +kernel
theorem dX2_chain_5 : decode cX2_chain 5 = .ok (.astore_n 3, 1) := by decide +kernel
theorem dX2_chain_6 : decode cX2_chain 6 = .ok (.aload_n 3, 1) := by decide +kernel
theorem dX2_chain_7 : decode cX2_chain 7 = .ok (.ifnonnull 5, 3) := by decide +kernel
theorem dX2_chain_10 : decode cX2_chain 10 = .ok (.iconst (-1), 1) := by decide +kernel
theorem dX2_chain_11 : decode cX2_chain 11 = .ok (.ireturn, 1) := by decide +kernel
theorem dX2_chain_12 : decode cX2_chain 12 = .ok (.iload_n 2, 1) := by decide +kernel
theorem dX2_chain_13 : decode cX2_chain 13 = .ok (.iconst 0, 1) := by decide +kernel
theorem dX2_chain_14 : decode cX2_chain 14 = .ok (.sipush 299, 3) := by decide +kernel
theorem dX2_chain_17 : decode cX2_chain 17 = .ok (.invokestatic 44, 3) := by decide +kernel
theorem dX2_chain_20 : decode cX2_chain 20 = .ok (.ifCond .ne 6, 3) := by decide +kernel
theorem dX2_chain_23 : decode cX2_chain 23 = .ok (.ldc 108, 2) := by decide +kernel
theorem dX2_chain_25 : decode cX2_chain 25 = .ok (.ireturn, 1) := by decide +kernel
theorem dX2_chain_26 : decode cX2_chain 26 = .ok (.aload_n 3, 1) := by decide +kernel
theorem dX2_chain_27 : decode cX2_chain 27 = .ok (.getfield 81, 3) := by decide +kernel
theorem dX2_chain_30 : decode cX2_chain 30 = .ok (.astore 4, 2) := by decide +kernel
theorem dX2_chain_32 : decode cX2_chain 32 = .ok (.iconst 0, 1) := by decide +kernel
theorem dX2_chain_33 : decode cX2_chain 33 = .ok (.istore 5, 2) := by decide +kernel
theorem dX2_chain_35 : decode cX2_chain 35 = .ok (.iload 5, 2) := by decide +kernel
theorem dX2_chain_37 : decode cX2_chain 37 = .ok (.iload_n 2, 1) := by decide +kernel
theorem dX2_chain_38 : decode cX2_chain 38 = .ok (.if_icmp .ge 21, 3) := by decide +kernel
theorem dX2_chain_41 : decode cX2_chain 41 = .ok (.aload 4, 2) := by decide +kernel
theorem dX2_chain_43 : decode cX2_chain 43 = .ok (.ifnull 16, 3) := by decide +kernel
theorem dX2_chain_46 : decode cX2_chain 46 = .ok (.aload 4, 2) := by decide +kernel
theorem dX2_chain_48 : decode cX2_chain 48 = .ok (.getfield 167, 3) := by decide +kernel
theorem dX2_chain_51 : decode cX2_chain 51 = .ok (.astore 4, 2) := by decide +kernel
theorem dX2_chain_53 : decode cX2_chain 53 = .ok (.iinc 5 1, 3) := by decide +kernel
theorem dX2_chain_56 : decode cX2_chain 56 = .ok (.goto (-21), 3) := by decide +kernel
theorem dX2_chain_59 : decode cX2_chain 59 = .ok (.aload 4, 2) := by decide +kernel
theorem dX2_chain_61 : decode cX2_chain 61 = .ok (.invokestatic 85, 3) := by decide +kernel
theorem dX2_chain_64 : decode cX2_chain 64 = .ok (.ireturn, 1) := by decide +kernel
theorem dX2_unsettled_0 : decode cX2_unsettled 0 = .ok (.iconst 0, 1) := by decide +kernel
theorem dX2_unsettled_1 : decode cX2_unsettled 1 = .ok (.istore_n 1, 1) := by decide +kernel
theorem dX2_unsettled_2 : decode cX2_unsettled 2 = .ok (.iconst 0, 1) := by decide +kernel
theorem dX2_unsettled_3 : decode cX2_unsettled 3 = .ok (.istore_n 2, 1) := by decide +kernel
theorem dX2_unsettled_4 : decode cX2_unsettled 4 = .ok (.iload_n 2, 1) := by decide +kernel
theorem dX2_unsettled_5 : decode cX2_unsettled 5 = .ok (.aload_n 0, 1) := by decide +kernel
theorem dX2_unsettled_6 : decode cX2_unsettled 6 = .ok (.getfield 115, 3) := by decide +kernel
theorem dX2_unsettled_9 : decode cX2_unsettled 9 = .ok (.if_icmp .ge 29, 3) := by decide +kernel
theorem dX2_unsettled_12 : decode cX2_unsettled 12 = .ok (.aload_n 0, 1) := by decide +kernel
theorem dX2_unsettled_13 : decode cX2_unsettled 13 = .ok (.iload_n 2, 1) := by decide +kernel
theorem dX2_unsettled_14 : decode cX2_unsettled 14 = .ok (.invokevirtual 141, 3) := by decide +kernel
theorem dX2_unsettled_17 : decode cX2_unsettled 17 = .ok (.astore_n 3, 1) := by decide +kernel
theorem dX2_unsettled_18 : decode cX2_unsettled 18 = .ok (.aload_n 3, 1) := by decide +kernel
theorem dX2_unsettled_19 : decode cX2_unsettled 19 = .ok (.ifnull 13, 3) := by decide +kernel
theorem dX2_unsettled_22 : decode cX2_unsettled 22 = .ok (.aload_n 3, 1) := by decide +kernel
theorem dX2_unsettled_23 : decode cX2_unsettled 23 = .ok (.getfield 160, 3) := by decide +kernel
theorem dX2_unsettled_26 : decode cX2_unsettled 26 = .ok (.ifCond .ne 6, 3) := by decide +kernel
theorem dX2_unsettled_29 : decode cX2_unsettled 29 = .ok (.iinc 1 1, 3) := by decide +kernel
theorem dX2_unsettled_32 : decode cX2_unsettled 32 = .ok (.iinc 2 1, 3) := by decide +kernel
theorem dX2_unsettled_35 : decode cX2_unsettled 35 = .ok (.goto (-31), 3) := by decide +kernel
theorem dX2_unsettled_38 : decode cX2_unsettled 38 = .ok (.iload_n 1, 1) := by decide +kernel
theorem dX2_unsettled_39 : decode cX2_unsettled 39 = .ok (.ireturn, 1) := by decide +kernel
theorem dX2_judge_0 : decode cX2_judge 0 = .ok (.aload_n 0, 1) := by decide +kernel
theorem dX2_judge_1 : decode cX2_judge 1 = .ok (.iload_n 1, 1) := by decide +kernel
theorem dX2_judge_2 : decode cX2_judge 2 = .ok (.invokevirtual 62, 3) := by decide +kernel
theorem dX2_judge_5 : decode cX2_judge 5 = .ok (.astore_n 2, 1) := by decide +kernel
theorem dX2_judge_6 : decode cX2_judge 6 = .ok (.aload_n 2, 1) := by decide +kernel
theorem dX2_judge_7 : decode cX2_judge 7 = .ok (.ifnonnull 7, 3) := by decide +kernel
theorem dX2_judge_10 : decode cX2_judge 10 = .ok (.iconst (-1), 1) := by decide +kernel
theorem dX2_judge_11 : decode cX2_judge 11 = .ok (.goto 8, 3) := by decide +kernel
theorem dX2_judge_14 : decode cX2_judge 14 = .ok (.aload_n 0, 1) := by decide +kernel
theorem dX2_judge_15 : decode cX2_judge 15 = .ok (.aload_n 2, 1) := by decide +kernel
theorem dX2_judge_16 : decode cX2_judge 16 = .ok (.invokevirtual 182, 3) := by decide +kernel
theorem dX2_judge_19 : decode cX2_judge 19 = .ok (.ireturn, 1) := by decide +kernel
theorem dX2_stays_0 : decode cX2_stays 0 = .ok (.aload_n 0, 1) := by decide +kernel
theorem dX2_stays_1 : decode cX2_stays 1 = .ok (.iload_n 1, 1) := by decide +kernel
theorem dX2_stays_2 : decode cX2_stays 2 = .ok (.invokevirtual 62, 3) := by decide +kernel
theorem dX2_stays_5 : decode cX2_stays 5 = .ok (.astore_n 2, 1) := by decide +kernel
theorem dX2_stays_6 : decode cX2_stays 6 = .ok (.aload_n 2, 1) := by decide +kernel
theorem dX2_stays_7 : decode cX2_stays 7 = .ok (.ifnonnull 5, 3) := by decide +kernel
theorem dX2_stays_10 : decode cX2_stays 10 = .ok (.iconst (-1), 1) := by decide +kernel
theorem dX2_stays_11 : decode cX2_stays 11 = .ok (.ireturn, 1) := by decide +kernel
theorem dX2_stays_12 : decode cX2_stays 12 = .ok (.aload_n 0, 1) := by decide +kernel
theorem dX2_stays_13 : decode cX2_stays 13 = .ok (.aload_n 2, 1) := by decide +kernel
theorem dX2_stays_14 : decode cX2_stays 14 = .ok (.invokevirtual 182, 3) := by decide +kernel
theorem dX2_stays_17 : decode cX2_stays 17 = .ok (.istore_n 3, 1) := by decide +kernel
theorem dX2_stays_18 : decode cX2_stays 18 = .ok (.aload_n 2, 1) := by decide +kernel
theorem dX2_stays_19 : decode cX2_stays 19 = .ok (.invokevirtual 186, 3) := by decide +kernel
theorem dX2_stays_22 : decode cX2_stays 22 = .ok (.istore 4, 2) := by decide +kernel
theorem dX2_stays_24 : decode cX2_stays 24 = .ok (.aload_n 0, 1) := by decide +kernel
theorem dX2_stays_25 : decode cX2_stays 25 = .ok (.aload_n 2, 1) := by decide +kernel
theorem dX2_stays_26 : decode cX2_stays 26 = .ok (.invokevirtual 189, 3) := by decide +kernel
theorem dX2_stays_29 : decode cX2_stays 29 = .ok (.istore 5, 2) := by decide +kernel
theorem dX2_stays_31 : decode cX2_stays 31 = .ok (.iload_n 3, 1) := by decide +kernel
theorem dX2_stays_32 : decode cX2_stays 32 = .ok (.iconst 1, 1) := by decide +kernel
theorem dX2_stays_33 : decode cX2_stays 33 = .ok (.if_icmp .ne 17, 3) := by decide +kernel
theorem dX2_stays_36 : decode cX2_stays 36 = .ok (.aload_n 2, 1) := by decide +kernel
theorem dX2_stays_37 : decode cX2_stays 37 = .ok (.iload 5, 2) := by decide +kernel
theorem dX2_stays_39 : decode cX2_stays 39 = .ok (.iload 4, 2) := by decide +kernel
theorem dX2_stays_41 : decode cX2_stays 41 = .ok (.isub, 1) := by decide +kernel
theorem dX2_stays_42 : decode cX2_stays 42 = .ok (.aload_n 0, 1) := by decide +kernel
theorem dX2_stays_43 : decode cX2_stays 43 = .ok (.getfield 48, 3) := by decide +kernel
theorem dX2_stays_46 : decode cX2_stays 46 = .ok (.invokevirtual 192, 3) := by decide +kernel
theorem dX2_stays_49 : decode cX2_stays 49 = .ok (.ireturn, 1) := by decide +kernel
theorem dX2_stays_50 : decode cX2_stays 50 = .ok (.iload_n 3, 1) := by decide +kernel
theorem dX2_stays_51 : decode cX2_stays 51 = .ok (.iconst 3, 1) := by decide +kernel
theorem dX2_stays_52 : decode cX2_stays 52 = .ok (.if_icmp .ne 19, 3) := by decide +kernel
theorem dX2_stays_55 : decode cX2_stays 55 = .ok (.aload_n 2, 1) := by decide +kernel
end
section
theorem dX2_stays_56 : decode cX2_stays 56 = .ok (.iload 4, 2) := by decide +kernel
theorem dX2_stays_58 : decode cX2_stays 58 = .ok (.iload 5, 2) := by decide +kernel
theorem dX2_stays_60 : decode cX2_stays 60 = .ok (.isub, 1) := by decide +kernel
theorem dX2_stays_61 : decode cX2_stays 61 = .ok (.iconst 1, 1) := by decide +kernel
theorem dX2_stays_62 : decode cX2_stays 62 = .ok (.isub, 1) := by decide +kernel
theorem dX2_stays_63 : decode cX2_stays 63 = .ok (.aload_n 0, 1) := by decide +kernel
theorem dX2_stays_64 : decode cX2_stays 64 = .ok (.getfield 48, 3) := by decide +kernel
theorem dX2_stays_67 : decode cX2_stays 67 = .ok (.invokevirtual 192, 3) := by decide +kernel
theorem dX2_stays_70 : decode cX2_stays 70 = .ok (.ireturn, 1) := by decide +kernel
theorem dX2_stays_71 : decode cX2_stays 71 = .ok (.iload_n 3, 1) := by decide +kernel
theorem dX2_stays_72 : decode cX2_stays 72 = .ok (.iconst 2, 1) := by decide +kernel
theorem dX2_stays_73 : decode cX2_stays 73 = .ok (.if_icmp .ne 9, 3) := by decide +kernel
theorem dX2_stays_76 : decode cX2_stays 76 = .ok (.sipush 20000, 3) := by decide +kernel
theorem dX2_stays_79 : decode cX2_stays 79 = .ok (.goto 5, 3) := by decide +kernel
theorem dX2_stays_82 : decode cX2_stays 82 = .ok (.ldc 108, 2) := by decide +kernel
theorem dX2_stays_84 : decode cX2_stays 84 = .ok (.ireturn, 1) := by decide +kernel
theorem dX2_seal_0 : decode cX2_seal 0 = .ok (.aload_n 0, 1) := by decide +kernel
theorem dX2_seal_1 : decode cX2_seal 1 = .ok (.iload_n 1, 1) := by decide +kernel
theorem dX2_seal_2 : decode cX2_seal 2 = .ok (.invokevirtual 62, 3) := by decide +kernel
theorem dX2_seal_5 : decode cX2_seal 5 = .ok (.astore_n 3, 1) := by decide +kernel
theorem dX2_seal_6 : decode cX2_seal 6 = .ok (.aload_n 3, 1) := by decide +kernel
theorem dX2_seal_7 : decode cX2_seal 7 = .ok (.ifnonnull 5, 3) := by decide +kernel
theorem dX2_seal_10 : decode cX2_seal 10 = .ok (.iconst (-1), 1) := by decide +kernel
theorem dX2_seal_11 : decode cX2_seal 11 = .ok (.ireturn, 1) := by decide +kernel
theorem dX2_seal_12 : decode cX2_seal 12 = .ok (.iload_n 2, 1) := by decide +kernel
theorem dX2_seal_13 : decode cX2_seal 13 = .ok (.invokestatic 196, 3) := by decide +kernel
theorem dX2_seal_16 : decode cX2_seal 16 = .ok (.ifCond .ne 6, 3) := by decide +kernel
theorem dX2_seal_19 : decode cX2_seal 19 = .ok (.bipush (-2), 2) := by decide +kernel
theorem dX2_seal_21 : decode cX2_seal 21 = .ok (.ireturn, 1) := by decide +kernel
theorem dX2_seal_22 : decode cX2_seal 22 = .ok (.aload_n 3, 1) := by decide +kernel
theorem dX2_seal_23 : decode cX2_seal 23 = .ok (.invokevirtual 105, 3) := by decide +kernel
theorem dX2_seal_26 : decode cX2_seal 26 = .ok (.ifCond .eq 20, 3) := by decide +kernel
theorem dX2_seal_29 : decode cX2_seal 29 = .ok (.aload_n 0, 1) := by decide +kernel
theorem dX2_seal_30 : decode cX2_seal 30 = .ok (.aload_n 3, 1) := by decide +kernel
theorem dX2_seal_31 : decode cX2_seal 31 = .ok (.invokevirtual 182, 3) := by decide +kernel
theorem dX2_seal_34 : decode cX2_seal 34 = .ok (.iconst 1, 1) := by decide +kernel
theorem dX2_seal_35 : decode cX2_seal 35 = .ok (.if_icmp .ne 11, 3) := by decide +kernel
theorem dX2_seal_38 : decode cX2_seal 38 = .ok (.aload_n 0, 1) := by decide +kernel
theorem dX2_seal_39 : decode cX2_seal 39 = .ok (.iload_n 2, 1) := by decide +kernel
theorem dX2_seal_40 : decode cX2_seal 40 = .ok (.invokevirtual 199, 3) := by decide +kernel
theorem dX2_seal_43 : decode cX2_seal 43 = .ok (.ifCond .eq 6, 3) := by decide +kernel
theorem dX2_seal_46 : decode cX2_seal 46 = .ok (.bipush (-3), 2) := by decide +kernel
theorem dX2_seal_48 : decode cX2_seal 48 = .ok (.ireturn, 1) := by decide +kernel
theorem dX2_seal_49 : decode cX2_seal 49 = .ok (.aload_n 0, 1) := by decide +kernel
theorem dX2_seal_50 : decode cX2_seal 50 = .ok (.iload_n 2, 1) := by decide +kernel
theorem dX2_seal_51 : decode cX2_seal 51 = .ok (.invokevirtual 202, 3) := by decide +kernel
theorem dX2_seal_54 : decode cX2_seal 54 = .ok (.aload_n 3, 1) := by decide +kernel
theorem dX2_seal_55 : decode cX2_seal 55 = .ok (.iload_n 2, 1) := by decide +kernel
theorem dX2_seal_56 : decode cX2_seal 56 = .ok (.putfield 89, 3) := by decide +kernel
theorem dX2_seal_59 : decode cX2_seal 59 = .ok (.iconst 1, 1) := by decide +kernel
theorem dX2_seal_60 : decode cX2_seal 60 = .ok (.ireturn, 1) := by decide +kernel
theorem dX2_sealed_0 : decode cX2_sealed 0 = .ok (.iload_n 1, 1) := by decide +kernel
theorem dX2_sealed_1 : decode cX2_sealed 1 = .ok (.invokestatic 196, 3) := by decide +kernel
theorem dX2_sealed_4 : decode cX2_sealed 4 = .ok (.ifCond .ne 6, 3) := by decide +kernel
theorem dX2_sealed_7 : decode cX2_sealed 7 = .ok (.bipush (-2), 2) := by decide +kernel
theorem dX2_sealed_9 : decode cX2_sealed 9 = .ok (.ireturn, 1) := by decide +kernel
theorem dX2_sealed_10 : decode cX2_sealed 10 = .ok (.iconst 0, 1) := by decide +kernel
theorem dX2_sealed_11 : decode cX2_sealed 11 = .ok (.istore_n 2, 1) := by decide +kernel
theorem dX2_sealed_12 : decode cX2_sealed 12 = .ok (.iload_n 2, 1) := by decide +kernel
theorem dX2_sealed_13 : decode cX2_sealed 13 = .ok (.aload_n 0, 1) := by decide +kernel
theorem dX2_sealed_14 : decode cX2_sealed 14 = .ok (.getfield 56, 3) := by decide +kernel
theorem dX2_sealed_17 : decode cX2_sealed 17 = .ok (.if_icmp .ge 29, 3) := by decide +kernel
theorem dX2_sealed_20 : decode cX2_sealed 20 = .ok (.aload_n 0, 1) := by decide +kernel
theorem dX2_sealed_21 : decode cX2_sealed 21 = .ok (.iload_n 2, 1) := by decide +kernel
theorem dX2_sealed_22 : decode cX2_sealed 22 = .ok (.invokevirtual 62, 3) := by decide +kernel
theorem dX2_sealed_25 : decode cX2_sealed 25 = .ok (.astore_n 3, 1) := by decide +kernel
theorem dX2_sealed_26 : decode cX2_sealed 26 = .ok (.aload_n 3, 1) := by decide +kernel
theorem dX2_sealed_27 : decode cX2_sealed 27 = .ok (.ifnull 13, 3) := by decide +kernel
theorem dX2_sealed_30 : decode cX2_sealed 30 = .ok (.aload_n 3, 1) := by decide +kernel
theorem dX2_sealed_31 : decode cX2_sealed 31 = .ok (.getfield 89, 3) := by decide +kernel
theorem dX2_sealed_34 : decode cX2_sealed 34 = .ok (.iload_n 1, 1) := by decide +kernel
theorem dX2_sealed_35 : decode cX2_sealed 35 = .ok (.if_icmp .ne 5, 3) := by decide +kernel
theorem dX2_sealed_38 : decode cX2_sealed 38 = .ok (.iload_n 2, 1) := by decide +kernel
theorem dX2_sealed_39 : decode cX2_sealed 39 = .ok (.ireturn, 1) := by decide +kernel
theorem dX2_sealed_40 : decode cX2_sealed 40 = .ok (.iinc 2 1, 3) := by decide +kernel
theorem dX2_sealed_43 : decode cX2_sealed 43 = .ok (.goto (-31), 3) := by decide +kernel
theorem dX2_sealed_46 : decode cX2_sealed 46 = .ok (.ldc 108, 2) := by decide +kernel
theorem dX2_sealed_48 : decode cX2_sealed 48 = .ok (.ireturn, 1) := by decide +kernel
theorem dX2_charge_0 : decode cX2_charge 0 = .ok (.aload_n 0, 1) := by decide +kernel
theorem dX2_charge_1 : decode cX2_charge 1 = .ok (.iload_n 1, 1) := by decide +kernel
theorem dX2_charge_2 : decode cX2_charge 2 = .ok (.invokevirtual 62, 3) := by decide +kernel
theorem dX2_charge_5 : decode cX2_charge 5 = .ok (.astore_n 2, 1) := by decide +kernel
theorem dX2_charge_6 : decode cX2_charge 6 = .ok (.aload_n 2, 1) := by decide +kernel
theorem dX2_charge_7 : decode cX2_charge 7 = .ok (.ifnonnull 5, 3) := by decide +kernel
theorem dX2_charge_10 : decode cX2_charge 10 = .ok (.iconst (-1), 1) := by decide +kernel
theorem dX2_charge_11 : decode cX2_charge 11 = .ok (.ireturn, 1) := by decide +kernel
theorem dX2_charge_12 : decode cX2_charge 12 = .ok (.aload_n 2, 1) := by decide +kernel
theorem dX2_charge_13 : decode cX2_charge 13 = .ok (.getfield 81, 3) := by decide +kernel
theorem dX2_charge_16 : decode cX2_charge 16 = .ok (.astore_n 3, 1) := by decide +kernel
theorem dX2_charge_17 : decode cX2_charge 17 = .ok (.aload_n 2, 1) := by decide +kernel
theorem dX2_charge_18 : decode cX2_charge 18 = .ok (.invokevirtual 105, 3) := by decide +kernel
theorem dX2_charge_21 : decode cX2_charge 21 = .ok (.ifCond .eq 16, 3) := by decide +kernel
theorem dX2_charge_24 : decode cX2_charge 24 = .ok (.aload_n 0, 1) := by decide +kernel
theorem dX2_charge_25 : decode cX2_charge 25 = .ok (.aload_n 2, 1) := by decide +kernel
theorem dX2_charge_26 : decode cX2_charge 26 = .ok (.invokevirtual 182, 3) := by decide +kernel
theorem dX2_charge_29 : decode cX2_charge 29 = .ok (.iconst 3, 1) := by decide +kernel
theorem dX2_charge_30 : decode cX2_charge 30 = .ok (.if_icmp .ne 7, 3) := by decide +kernel
theorem dX2_charge_33 : decode cX2_charge 33 = .ok (.aload_n 3, 1) := by decide +kernel
theorem dX2_charge_34 : decode cX2_charge 34 = .ok (.ifnonnull 6, 3) := by decide +kernel
theorem dX2_charge_37 : decode cX2_charge 37 = .ok (.bipush (-3), 2) := by decide +kernel
theorem dX2_charge_39 : decode cX2_charge 39 = .ok (.ireturn, 1) := by decide +kernel
theorem dX2_charge_40 : decode cX2_charge 40 = .ok (.aload_n 3, 1) := by decide +kernel
theorem dX2_charge_41 : decode cX2_charge 41 = .ok (.getfield 151, 3) := by decide +kernel
theorem dX2_charge_44 : decode cX2_charge 44 = .ok (.aload_n 0, 1) := by decide +kernel
theorem dX2_charge_45 : decode cX2_charge 45 = .ok (.getfield 48, 3) := by decide +kernel
theorem dX2_charge_48 : decode cX2_charge 48 = .ok (.if_icmp .ne 10, 3) := by decide +kernel
theorem dX2_charge_51 : decode cX2_charge 51 = .ok (.aload_n 3, 1) := by decide +kernel
theorem dX2_charge_52 : decode cX2_charge 52 = .ok (.getfield 206, 3) := by decide +kernel
theorem dX2_charge_55 : decode cX2_charge 55 = .ok (.ifCond .eq 6, 3) := by decide +kernel
theorem dX2_charge_58 : decode cX2_charge 58 = .ok (.bipush (-3), 2) := by decide +kernel
theorem dX2_charge_60 : decode cX2_charge 60 = .ok (.ireturn, 1) := by decide +kernel
theorem dX2_charge_61 : decode cX2_charge 61 = .ok (.aload_n 2, 1) := by decide +kernel
theorem dX2_charge_62 : decode cX2_charge 62 = .ok (.getfield 75, 3) := by decide +kernel
theorem dX2_charge_65 : decode cX2_charge 65 = .ok (.istore 4, 2) := by decide +kernel
theorem dX2_charge_67 : decode cX2_charge 67 = .ok (.iload 4, 2) := by decide +kernel
theorem dX2_charge_69 : decode cX2_charge 69 = .ok (.invokestatic 52, 3) := by decide +kernel
theorem dX2_charge_72 : decode cX2_charge 72 = .ok (.ifCond .ne 6, 3) := by decide +kernel
theorem dX2_charge_75 : decode cX2_charge 75 = .ok (.bipush (-3), 2) := by decide +kernel
theorem dX2_charge_77 : decode cX2_charge 77 = .ok (.ireturn, 1) := by decide +kernel
theorem dX2_charge_78 : decode cX2_charge 78 = .ok (.aload_n 3, 1) := by decide +kernel
theorem dX2_charge_79 : decode cX2_charge 79 = .ok (.iconst 1, 1) := by decide +kernel
theorem dX2_charge_80 : decode cX2_charge 80 = .ok (.putfield 206, 3) := by decide +kernel
theorem dX2_charge_83 : decode cX2_charge 83 = .ok (.aload_n 2, 1) := by decide +kernel
theorem dX2_charge_84 : decode cX2_charge 84 = .ok (.dup, 1) := by decide +kernel
theorem dX2_charge_85 : decode cX2_charge 85 = .ok (.getfield 92, 3) := by decide +kernel
theorem dX2_charge_88 : decode cX2_charge 88 = .ok (.iconst 1, 1) := by decide +kernel
theorem dX2_charge_89 : decode cX2_charge 89 = .ok (.iadd, 1) := by decide +kernel
theorem dX2_charge_90 : decode cX2_charge 90 = .ok (.putfield 92, 3) := by decide +kernel
theorem dX2_charge_93 : decode cX2_charge 93 = .ok (.aload_n 0, 1) := by decide +kernel
theorem dX2_charge_94 : decode cX2_charge 94 = .ok (.getfield 28, 3) := by decide +kernel
theorem dX2_charge_97 : decode cX2_charge 97 = .ok (.iload 4, 2) := by decide +kernel
theorem dX2_charge_99 : decode cX2_charge 99 = .ok (.dup2, 1) := by decide +kernel
theorem dX2_charge_100 : decode cX2_charge 100 = .ok (.iaload, 1) := by decide +kernel
theorem dX2_charge_101 : decode cX2_charge 101 = .ok (.iconst 1, 1) := by decide +kernel
theorem dX2_charge_102 : decode cX2_charge 102 = .ok (.iadd, 1) := by decide +kernel
theorem dX2_charge_103 : decode cX2_charge 103 = .ok (.iastore, 1) := by decide +kernel
theorem dX2_charge_104 : decode cX2_charge 104 = .ok (.aload_n 0, 1) := by decide +kernel
theorem dX2_charge_105 : decode cX2_charge 105 = .ok (.dup, 1) := by decide +kernel
theorem dX2_charge_106 : decode cX2_charge 106 = .ok (.getfield 209, 3) := by decide +kernel
theorem dX2_charge_109 : decode cX2_charge 109 = .ok (.iconst 1, 1) := by decide +kernel
theorem dX2_charge_110 : decode cX2_charge 110 = .ok (.iadd, 1) := by decide +kernel
theorem dX2_charge_111 : decode cX2_charge 111 = .ok (.putfield 209, 3) := by decide +kernel
theorem dX2_charge_114 : decode cX2_charge 114 = .ok (.aload_n 2, 1) := by decide +kernel
theorem dX2_charge_115 : decode cX2_charge 115 = .ok (.invokevirtual 186, 3) := by decide +kernel
theorem dX2_charge_118 : decode cX2_charge 118 = .ok (.aload_n 2, 1) := by decide +kernel
theorem dX2_charge_119 : decode cX2_charge 119 = .ok (.aload_n 0, 1) := by decide +kernel
theorem dX2_charge_120 : decode cX2_charge 120 = .ok (.getfield 48, 3) := by decide +kernel
theorem dX2_charge_123 : decode cX2_charge 123 = .ok (.invokevirtual 118, 3) := by decide +kernel
theorem dX2_charge_126 : decode cX2_charge 126 = .ok (.isub, 1) := by decide +kernel
theorem dX2_charge_127 : decode cX2_charge 127 = .ok (.aload_n 0, 1) := by decide +kernel
theorem dX2_charge_128 : decode cX2_charge 128 = .ok (.aload_n 2, 1) := by decide +kernel
theorem dX2_charge_129 : decode cX2_charge 129 = .ok (.invokevirtual 189, 3) := by decide +kernel
theorem dX2_charge_132 : decode cX2_charge 132 = .ok (.isub, 1) := by decide +kernel
theorem dX2_charge_133 : decode cX2_charge 133 = .ok (.istore 5, 2) := by decide +kernel
theorem dX2_charge_135 : decode cX2_charge 135 = .ok (.bipush 10, 2) := by decide +kernel
theorem dX2_charge_137 : decode cX2_charge 137 = .ok (.iload 5, 2) := by decide +kernel
theorem dX2_charge_139 : decode cX2_charge 139 = .ok (.imul, 1) := by decide +kernel
theorem dX2_charge_140 : decode cX2_charge 140 = .ok (.aload_n 0, 1) := by decide +kernel
theorem dX2_charge_141 : decode cX2_charge 141 = .ok (.getfield 28, 3) := by decide +kernel
theorem dX2_charge_144 : decode cX2_charge 144 = .ok (.iload 4, 2) := by decide +kernel
theorem dX2_charge_146 : decode cX2_charge 146 = .ok (.iaload, 1) := by decide +kernel
theorem dX2_charge_147 : decode cX2_charge 147 = .ok (.iconst 5, 1) := by decide +kernel
theorem dX2_charge_148 : decode cX2_charge 148 = .ok (.invokestatic 212, 3) := by decide +kernel
theorem dX2_charge_151 : decode cX2_charge 151 = .ok (.imul, 1) := by decide +kernel
theorem dX2_charge_152 : decode cX2_charge 152 = .ok (.istore 6, 2) := by decide +kernel
theorem dX2_charge_154 : decode cX2_charge 154 = .ok (.aload_n 0, 1) := by decide +kernel
theorem dX2_charge_155 : decode cX2_charge 155 = .ok (.getfield 31, 3) := by decide +kernel
theorem dX2_charge_158 : decode cX2_charge 158 = .ok (.iload 4, 2) := by decide +kernel
theorem dX2_charge_160 : decode cX2_charge 160 = .ok (.dup2, 1) := by decide +kernel
theorem dX2_charge_161 : decode cX2_charge 161 = .ok (.laload, 1) := by decide +kernel
theorem dX2_charge_162 : decode cX2_charge 162 = .ok (.iload 6, 2) := by decide +kernel
theorem dX2_charge_164 : decode cX2_charge 164 = .ok (.i2l, 1) := by decide +kernel
theorem dX2_charge_165 : decode cX2_charge 165 = .ok (.ladd, 1) := by decide +kernel
theorem dX2_charge_166 : decode cX2_charge 166 = .ok (.lastore, 1) := by decide +kernel
theorem dX2_charge_167 : decode cX2_charge 167 = .ok (.iload 6, 2) := by decide +kernel
theorem dX2_charge_169 : decode cX2_charge 169 = .ok (.ireturn, 1) := by decide +kernel
theorem dX2_charged_0 : decode cX2_charged 0 = .ok (.iload_n 1, 1) := by decide +kernel
theorem dX2_charged_1 : decode cX2_charged 1 = .ok (.invokestatic 52, 3) := by decide +kernel
theorem dX2_charged_4 : decode cX2_charged 4 = .ok (.ifCond .eq 12, 3) := by decide +kernel
theorem dX2_charged_7 : decode cX2_charged 7 = .ok (.aload_n 0, 1) := by decide +kernel
theorem dX2_charged_8 : decode cX2_charged 8 = .ok (.getfield 31, 3) := by decide +kernel
theorem dX2_charged_11 : decode cX2_charged 11 = .ok (.iload_n 1, 1) := by decide +kernel
theorem dX2_charged_12 : decode cX2_charged 12 = .ok (.laload, 1) := by decide +kernel
theorem dX2_charged_13 : decode cX2_charged 13 = .ok (.goto 6, 3) := by decide +kernel
theorem dX2_charged_16 : decode cX2_charged 16 = .ok (.ldc2_w 217, 3) := by decide +kernel
theorem dX2_charged_19 : decode cX2_charged 19 = .ok (.lreturn, 1) := by decide +kernel
theorem dX2_first_0 : decode cX2_first 0 = .ok (.aload_n 0, 1) := by decide +kernel
theorem dX2_first_1 : decode cX2_first 1 = .ok (.invokevirtual 219, 3) := by decide +kernel
theorem dX2_first_4 : decode cX2_first 4 = .ok (.istore_n 2, 1) := by decide +kernel
theorem dX2_first_5 : decode cX2_first 5 = .ok (.iload_n 1, 1) := by decide +kernel
theorem dX2_first_6 : decode cX2_first 6 = .ok (.iconst 0, 1) := by decide +kernel
theorem dX2_first_7 : decode cX2_first 7 = .ok (.iload_n 2, 1) := by decide +kernel
theorem dX2_first_8 : decode cX2_first 8 = .ok (.iconst 1, 1) := by decide +kernel
theorem dX2_first_9 : decode cX2_first 9 = .ok (.isub, 1) := by decide +kernel
theorem dX2_first_10 : decode cX2_first 10 = .ok (.invokestatic 44, 3) := by decide +kernel
theorem dX2_first_13 : decode cX2_first 13 = .ok (.ifCond .eq 12, 3) := by decide +kernel
theorem dX2_first_16 : decode cX2_first 16 = .ok (.aload_n 0, 1) := by decide +kernel
theorem dX2_first_17 : decode cX2_first 17 = .ok (.getfield 38, 3) := by decide +kernel
theorem dX2_first_20 : decode cX2_first 20 = .ok (.iload_n 1, 1) := by decide +kernel
theorem dX2_first_21 : decode cX2_first 21 = .ok (.iaload, 1) := by decide +kernel
theorem dX2_first_22 : decode cX2_first 22 = .ok (.goto 5, 3) := by decide +kernel
theorem dX2_first_25 : decode cX2_first 25 = .ok (.ldc 108, 2) := by decide +kernel
theorem dX2_first_27 : decode cX2_first 27 = .ok (.ireturn, 1) := by decide +kernel
theorem dX2_count_0 : decode cX2_count 0 = .ok (.iload_n 1, 1) := by decide +kernel
theorem dX2_count_1 : decode cX2_count 1 = .ok (.tableswitch 90 0 7 #[47, 52, 57, 62, 67, 73, 79, 85], 47) := by decide +kernel
theorem dX2_count_48 : decode cX2_count 48 = .ok (.aload_n 0, 1) := by decide +kernel
theorem dX2_count_49 : decode cX2_count 49 = .ok (.getfield 48, 3) := by decide +kernel
theorem dX2_count_52 : decode cX2_count 52 = .ok (.ireturn, 1) := by decide +kernel
theorem dX2_count_53 : decode cX2_count 53 = .ok (.aload_n 0, 1) := by decide +kernel
theorem dX2_count_54 : decode cX2_count 54 = .ok (.getfield 56, 3) := by decide +kernel
theorem dX2_count_57 : decode cX2_count 57 = .ok (.ireturn, 1) := by decide +kernel
theorem dX2_count_58 : decode cX2_count 58 = .ok (.aload_n 0, 1) := by decide +kernel
theorem dX2_count_59 : decode cX2_count 59 = .ok (.getfield 115, 3) := by decide +kernel
theorem dX2_count_62 : decode cX2_count 62 = .ok (.ireturn, 1) := by decide +kernel
theorem dX2_count_63 : decode cX2_count 63 = .ok (.aload_n 0, 1) := by decide +kernel
theorem dX2_count_64 : decode cX2_count 64 = .ok (.invokevirtual 222, 3) := by decide +kernel
theorem dX2_count_67 : decode cX2_count 67 = .ok (.ireturn, 1) := by decide +kernel
theorem dX2_count_68 : decode cX2_count 68 = .ok (.aload_n 0, 1) := by decide +kernel
theorem dX2_count_69 : decode cX2_count 69 = .ok (.iconst 1, 1) := by decide +kernel
theorem dX2_count_70 : decode cX2_count 70 = .ok (.invokevirtual 225, 3) := by decide +kernel
theorem dX2_count_73 : decode cX2_count 73 = .ok (.ireturn, 1) := by decide +kernel
theorem dX2_count_74 : decode cX2_count 74 = .ok (.aload_n 0, 1) := by decide +kernel
theorem dX2_count_75 : decode cX2_count 75 = .ok (.iconst 2, 1) := by decide +kernel
theorem dX2_count_76 : decode cX2_count 76 = .ok (.invokevirtual 225, 3) := by decide +kernel
theorem dX2_count_79 : decode cX2_count 79 = .ok (.ireturn, 1) := by decide +kernel
theorem dX2_count_80 : decode cX2_count 80 = .ok (.aload_n 0, 1) := by decide +kernel
theorem dX2_count_81 : decode cX2_count 81 = .ok (.iconst 3, 1) := by decide +kernel
theorem dX2_count_82 : decode cX2_count 82 = .ok (.invokevirtual 225, 3) := by decide +kernel
theorem dX2_count_85 : decode cX2_count 85 = .ok (.ireturn, 1) := by decide +kernel
theorem dX2_count_86 : decode cX2_count 86 = .ok (.aload_n 0, 1) := by decide +kernel
theorem dX2_count_87 : decode cX2_count 87 = .ok (.getfield 209, 3) := by decide +kernel
theorem dX2_count_90 : decode cX2_count 90 = .ok (.ireturn, 1) := by decide +kernel
theorem dX2_count_91 : decode cX2_count 91 = .ok (.bipush (-2), 2) := by decide +kernel
theorem dX2_count_93 : decode cX2_count 93 = .ok (.ireturn, 1) := by decide +kernel
theorem dX2_isWithin_0 : decode cX2_isWithin 0 = .ok (.iload_n 0, 1) := by decide +kernel
theorem dX2_isWithin_1 : decode cX2_isWithin 1 = .ok (.iload_n 1, 1) := by decide +kernel
theorem dX2_isWithin_2 : decode cX2_isWithin 2 = .ok (.if_icmp .lt 12, 3) := by decide +kernel
theorem dX2_isWithin_5 : decode cX2_isWithin 5 = .ok (.iload_n 0, 1) := by decide +kernel
theorem dX2_isWithin_6 : decode cX2_isWithin 6 = .ok (.iload_n 2, 1) := by decide +kernel
theorem dX2_isWithin_7 : decode cX2_isWithin 7 = .ok (.if_icmp .gt 7, 3) := by decide +kernel
theorem dX2_isWithin_10 : decode cX2_isWithin 10 = .ok (.iconst 1, 1) := by decide +kernel
theorem dX2_isWithin_11 : decode cX2_isWithin 11 = .ok (.goto 4, 3) := by decide +kernel
theorem dX2_isWithin_14 : decode cX2_isWithin 14 = .ok (.iconst 0, 1) := by decide +kernel
theorem dX2_isWithin_15 : decode cX2_isWithin 15 = .ok (.ireturn, 1) := by decide +kernel
theorem dX2_isOwner_0 : decode cX2_isOwner 0 = .ok (.iload_n 0, 1) := by decide +kernel
theorem dX2_isOwner_1 : decode cX2_isOwner 1 = .ok (.iconst 0, 1) := by decide +kernel
theorem dX2_isOwner_2 : decode cX2_isOwner 2 = .ok (.bipush 9, 2) := by decide +kernel
theorem dX2_isOwner_4 : decode cX2_isOwner 4 = .ok (.invokestatic 44, 3) := by decide +kernel
theorem dX2_isOwner_7 : decode cX2_isOwner 7 = .ok (.ireturn, 1) := by decide +kernel
theorem dX2_isSealNumber_0 : decode cX2_isSealNumber 0 = .ok (.iload_n 0, 1) := by decide +kernel
theorem dX2_isSealNumber_1 : decode cX2_isSealNumber 1 = .ok (.iconst 1, 1) := by decide +kernel
theorem dX2_isSealNumber_2 : decode cX2_isSealNumber 2 = .ok (.sipush 9999, 3) := by decide +kernel
theorem dX2_isSealNumber_5 : decode cX2_isSealNumber 5 = .ok (.invokestatic 44, 3) := by decide +kernel
theorem dX2_isSealNumber_8 : decode cX2_isSealNumber 8 = .ok (.ireturn, 1) := by decide +kernel
theorem dX2_numberOf_0 : decode cX2_numberOf 0 = .ok (.aload_n 0, 1) := by decide +kernel
theorem dX2_numberOf_1 : decode cX2_numberOf 1 = .ok (.ifnonnull 8, 3) := by decide +kernel
theorem dX2_numberOf_4 : decode cX2_numberOf 4 = .ok (.ldc 108, 2) := by decide +kernel
theorem dX2_numberOf_6 : decode cX2_numberOf 6 = .ok (.goto 7, 3) := by decide +kernel
theorem dX2_numberOf_9 : decode cX2_numberOf 9 = .ok (.aload_n 0, 1) := by decide +kernel
theorem dX2_numberOf_10 : decode cX2_numberOf 10 = .ok (.getfield 138, 3) := by decide +kernel
theorem dX2_numberOf_13 : decode cX2_numberOf 13 = .ok (.ireturn, 1) := by decide +kernel
theorem dX2_thingAt_0 : decode cX2_thingAt 0 = .ok (.iload_n 1, 1) := by decide +kernel
theorem dX2_thingAt_1 : decode cX2_thingAt 1 = .ok (.iconst 0, 1) := by decide +kernel
theorem dX2_thingAt_2 : decode cX2_thingAt 2 = .ok (.aload_n 0, 1) := by decide +kernel
theorem dX2_thingAt_3 : decode cX2_thingAt 3 = .ok (.getfield 56, 3) := by decide +kernel
theorem dX2_thingAt_6 : decode cX2_thingAt 6 = .ok (.iconst 1, 1) := by decide +kernel
theorem dX2_thingAt_7 : decode cX2_thingAt 7 = .ok (.isub, 1) := by decide +kernel
theorem dX2_thingAt_8 : decode cX2_thingAt 8 = .ok (.invokestatic 44, 3) := by decide +kernel
theorem dX2_thingAt_11 : decode cX2_thingAt 11 = .ok (.ifCond .eq 12, 3) := by decide +kernel
theorem dX2_thingAt_14 : decode cX2_thingAt 14 = .ok (.aload_n 0, 1) := by decide +kernel
theorem dX2_thingAt_15 : decode cX2_thingAt 15 = .ok (.getfield 11, 3) := by decide +kernel
theorem dX2_thingAt_18 : decode cX2_thingAt 18 = .ok (.iload_n 1, 1) := by decide +kernel
theorem dX2_thingAt_19 : decode cX2_thingAt 19 = .ok (.aaload, 1) := by decide +kernel
theorem dX2_thingAt_20 : decode cX2_thingAt 20 = .ok (.goto 4, 3) := by decide +kernel
theorem dX2_thingAt_23 : decode cX2_thingAt 23 = .ok (.aconst_null, 1) := by decide +kernel
theorem dX2_thingAt_24 : decode cX2_thingAt 24 = .ok (.areturn, 1) := by decide +kernel
theorem dX2_trialAt_0 : decode cX2_trialAt 0 = .ok (.iload_n 1, 1) := by decide +kernel
theorem dX2_trialAt_1 : decode cX2_trialAt 1 = .ok (.iconst 0, 1) := by decide +kernel
theorem dX2_trialAt_2 : decode cX2_trialAt 2 = .ok (.aload_n 0, 1) := by decide +kernel
theorem dX2_trialAt_3 : decode cX2_trialAt 3 = .ok (.getfield 115, 3) := by decide +kernel
theorem dX2_trialAt_6 : decode cX2_trialAt 6 = .ok (.iconst 1, 1) := by decide +kernel
theorem dX2_trialAt_7 : decode cX2_trialAt 7 = .ok (.isub, 1) := by decide +kernel
theorem dX2_trialAt_8 : decode cX2_trialAt 8 = .ok (.invokestatic 44, 3) := by decide +kernel
theorem dX2_trialAt_11 : decode cX2_trialAt 11 = .ok (.ifCond .eq 12, 3) := by decide +kernel
theorem dX2_trialAt_14 : decode cX2_trialAt 14 = .ok (.aload_n 0, 1) := by decide +kernel
theorem dX2_trialAt_15 : decode cX2_trialAt 15 = .ok (.getfield 17, 3) := by decide +kernel
theorem dX2_trialAt_18 : decode cX2_trialAt 18 = .ok (.iload_n 1, 1) := by decide +kernel
theorem dX2_trialAt_19 : decode cX2_trialAt 19 = .ok (.aaload, 1) := by decide +kernel
theorem dX2_trialAt_20 : decode cX2_trialAt 20 = .ok (.goto 4, 3) := by decide +kernel
theorem dX2_trialAt_23 : decode cX2_trialAt 23 = .ok (.aconst_null, 1) := by decide +kernel
theorem dX2_trialAt_24 : decode cX2_trialAt 24 = .ok (.areturn, 1) := by decide +kernel
theorem dX2_takeTrial_0 : decode cX2_takeTrial 0 = .ok (.aload_n 1, 1) := by decide +kernel
theorem dX2_takeTrial_1 : decode cX2_takeTrial 1 = .ok (.getfield 81, 3) := by decide +kernel
theorem dX2_takeTrial_4 : decode cX2_takeTrial 4 = .ok (.astore_n 3, 1) := by decide +kernel
theorem dX2_takeTrial_5 : decode cX2_takeTrial 5 = .ok (.aload_n 2, 1) := by decide +kernel
theorem dX2_takeTrial_6 : decode cX2_takeTrial 6 = .ok (.aload_n 1, 1) := by decide +kernel
theorem dX2_takeTrial_7 : decode cX2_takeTrial 7 = .ok (.aload_n 2, 1) := by decide +kernel
theorem dX2_takeTrial_8 : decode cX2_takeTrial 8 = .ok (.invokevirtual 228, 3) := by decide +kernel
theorem dX2_takeTrial_11 : decode cX2_takeTrial 11 = .ok (.putfield 164, 3) := by decide +kernel
theorem dX2_takeTrial_14 : decode cX2_takeTrial 14 = .ok (.aload_n 1, 1) := by decide +kernel
theorem dX2_takeTrial_15 : decode cX2_takeTrial 15 = .ok (.aload_n 2, 1) := by decide +kernel
theorem dX2_takeTrial_16 : decode cX2_takeTrial 16 = .ok (.invokevirtual 232, 3) := by decide +kernel
theorem dX2_takeTrial_19 : decode cX2_takeTrial 19 = .ok (.aload_n 3, 1) := by decide +kernel
theorem dX2_takeTrial_20 : decode cX2_takeTrial 20 = .ok (.ifnull 10, 3) := by decide +kernel
theorem dX2_takeTrial_23 : decode cX2_takeTrial 23 = .ok (.aload_n 2, 1) := by decide +kernel
theorem dX2_takeTrial_24 : decode cX2_takeTrial 24 = .ok (.getfield 164, 3) := by decide +kernel
theorem dX2_takeTrial_27 : decode cX2_takeTrial 27 = .ok (.ifCond .ne 4, 3) := by decide +kernel
theorem dX2_takeTrial_30 : decode cX2_takeTrial 30 = .ok (.return_, 1) := by decide +kernel
theorem dX2_takeTrial_31 : decode cX2_takeTrial 31 = .ok (.aload_n 1, 1) := by decide +kernel
theorem dX2_takeTrial_32 : decode cX2_takeTrial 32 = .ok (.ldc 108, 2) := by decide +kernel
theorem dX2_takeTrial_34 : decode cX2_takeTrial 34 = .ok (.putfield 89, 3) := by decide +kernel
theorem dX2_takeTrial_37 : decode cX2_takeTrial 37 = .ok (.aload_n 0, 1) := by decide +kernel
theorem dX2_takeTrial_38 : decode cX2_takeTrial 38 = .ok (.aload_n 3, 1) := by decide +kernel
theorem dX2_takeTrial_39 : decode cX2_takeTrial 39 = .ok (.invokevirtual 236, 3) := by decide +kernel
theorem dX2_takeTrial_42 : decode cX2_takeTrial 42 = .ok (.return_, 1) := by decide +kernel
theorem dX2_unsettleAllBasedOn_0 : decode cX2_unsettleAllBasedOn 0 = .ok (.aload_n 1, 1) := by decide +kernel
theorem dX2_unsettleAllBasedOn_1 : decode cX2_unsettleAllBasedOn 1 = .ok (.getfield 138, 3) := by decide +kernel
theorem dX2_unsettleAllBasedOn_4 : decode cX2_unsettleAllBasedOn 4 = .ok (.iconst 1, 1) := by decide +kernel
theorem dX2_unsettleAllBasedOn_5 : decode cX2_unsettleAllBasedOn 5 = .ok (.iadd, 1) := by decide +kernel
theorem dX2_unsettleAllBasedOn_6 : decode cX2_unsettleAllBasedOn 6 = .ok (.istore_n 2, 1) := by decide +kernel
theorem dX2_unsettleAllBasedOn_7 : decode cX2_unsettleAllBasedOn 7 = .ok (.iload_n 2, 1) := by decide +kernel
theorem dX2_unsettleAllBasedOn_8 : decode cX2_unsettleAllBasedOn 8 = .ok (.aload_n 0, 1) := by decide +kernel
theorem dX2_unsettleAllBasedOn_9 : decode cX2_unsettleAllBasedOn 9 = .ok (.getfield 115, 3) := by decide +kernel
theorem dX2_unsettleAllBasedOn_12 : decode cX2_unsettleAllBasedOn 12 = .ok (.if_icmp .ge 32, 3) := by decide +kernel
theorem dX2_unsettleAllBasedOn_15 : decode cX2_unsettleAllBasedOn 15 = .ok (.aload_n 0, 1) := by decide +kernel
theorem dX2_unsettleAllBasedOn_16 : decode cX2_unsettleAllBasedOn 16 = .ok (.iload_n 2, 1) := by decide +kernel
theorem dX2_unsettleAllBasedOn_17 : decode cX2_unsettleAllBasedOn 17 = .ok (.invokevirtual 141, 3) := by decide +kernel
theorem dX2_unsettleAllBasedOn_20 : decode cX2_unsettleAllBasedOn 20 = .ok (.astore_n 3, 1) := by decide +kernel
theorem dX2_unsettleAllBasedOn_21 : decode cX2_unsettleAllBasedOn 21 = .ok (.aload_n 3, 1) := by decide +kernel
theorem dX2_unsettleAllBasedOn_22 : decode cX2_unsettleAllBasedOn 22 = .ok (.ifnull 16, 3) := by decide +kernel
theorem dX2_unsettleAllBasedOn_25 : decode cX2_unsettleAllBasedOn 25 = .ok (.aload_n 3, 1) := by decide +kernel
theorem dX2_unsettleAllBasedOn_26 : decode cX2_unsettleAllBasedOn 26 = .ok (.aload_n 1, 1) := by decide +kernel
theorem dX2_unsettleAllBasedOn_27 : decode cX2_unsettleAllBasedOn 27 = .ok (.invokevirtual 239, 3) := by decide +kernel
theorem dX2_unsettleAllBasedOn_30 : decode cX2_unsettleAllBasedOn 30 = .ok (.ifCond .eq 8, 3) := by decide +kernel
theorem dX2_unsettleAllBasedOn_33 : decode cX2_unsettleAllBasedOn 33 = .ok (.aload_n 3, 1) := by decide +kernel
theorem dX2_unsettleAllBasedOn_34 : decode cX2_unsettleAllBasedOn 34 = .ok (.iconst 0, 1) := by decide +kernel
theorem dX2_unsettleAllBasedOn_35 : decode cX2_unsettleAllBasedOn 35 = .ok (.putfield 160, 3) := by decide +kernel
theorem dX2_unsettleAllBasedOn_38 : decode cX2_unsettleAllBasedOn 38 = .ok (.iinc 2 1, 3) := by decide +kernel
theorem dX2_unsettleAllBasedOn_41 : decode cX2_unsettleAllBasedOn 41 = .ok (.goto (-34), 3) := by decide +kernel
theorem dX2_unsettleAllBasedOn_44 : decode cX2_unsettleAllBasedOn 44 = .ok (.return_, 1) := by decide +kernel
theorem dX2_allowanceFor_0 : decode cX2_allowanceFor 0 = .ok (.aload_n 1, 1) := by decide +kernel
theorem dX2_allowanceFor_1 : decode cX2_allowanceFor 1 = .ok (.getfield 66, 3) := by decide +kernel
theorem dX2_allowanceFor_4 : decode cX2_allowanceFor 4 = .ok (.istore_n 2, 1) := by decide +kernel
theorem dX2_allowanceFor_5 : decode cX2_allowanceFor 5 = .ok (.iload_n 2, 1) := by decide +kernel
theorem dX2_allowanceFor_6 : decode cX2_allowanceFor 6 = .ok (.iconst 1, 1) := by decide +kernel
theorem dX2_allowanceFor_7 : decode cX2_allowanceFor 7 = .ok (.iconst 3, 1) := by decide +kernel
theorem dX2_allowanceFor_8 : decode cX2_allowanceFor 8 = .ok (.invokestatic 44, 3) := by decide +kernel
theorem dX2_allowanceFor_11 : decode cX2_allowanceFor 11 = .ok (.ifCond .ne 5, 3) := by decide +kernel
theorem dX2_allowanceFor_14 : decode cX2_allowanceFor 14 = .ok (.iconst 0, 1) := by decide +kernel
theorem dX2_allowanceFor_15 : decode cX2_allowanceFor 15 = .ok (.ireturn, 1) := by decide +kernel
theorem dX2_allowanceFor_16 : decode cX2_allowanceFor 16 = .ok (.aload_n 1, 1) := by decide +kernel
theorem dX2_allowanceFor_17 : decode cX2_allowanceFor 17 = .ok (.getfield 78, 3) := by decide +kernel
theorem dX2_allowanceFor_20 : decode cX2_allowanceFor 20 = .ok (.iconst 1, 1) := by decide +kernel
theorem dX2_allowanceFor_21 : decode cX2_allowanceFor 21 = .ok (.if_icmp .ne 12, 3) := by decide +kernel
theorem dX2_allowanceFor_24 : decode cX2_allowanceFor 24 = .ok (.aload_n 0, 1) := by decide +kernel
theorem dX2_allowanceFor_25 : decode cX2_allowanceFor 25 = .ok (.getfield 21, 3) := by decide +kernel
theorem dX2_allowanceFor_28 : decode cX2_allowanceFor 28 = .ok (.iload_n 2, 1) := by decide +kernel
theorem dX2_allowanceFor_29 : decode cX2_allowanceFor 29 = .ok (.iaload, 1) := by decide +kernel
theorem dX2_allowanceFor_30 : decode cX2_allowanceFor 30 = .ok (.goto 9, 3) := by decide +kernel
theorem dX2_allowanceFor_33 : decode cX2_allowanceFor 33 = .ok (.aload_n 0, 1) := by decide +kernel
theorem dX2_allowanceFor_34 : decode cX2_allowanceFor 34 = .ok (.getfield 25, 3) := by decide +kernel
theorem dX2_allowanceFor_37 : decode cX2_allowanceFor 37 = .ok (.iload_n 2, 1) := by decide +kernel
theorem dX2_allowanceFor_38 : decode cX2_allowanceFor 38 = .ok (.iaload, 1) := by decide +kernel
theorem dX2_allowanceFor_39 : decode cX2_allowanceFor 39 = .ok (.ireturn, 1) := by decide +kernel
theorem dX2_judgement_0 : decode cX2_judgement 0 = .ok (.aload_n 1, 1) := by decide +kernel
theorem dX2_judgement_1 : decode cX2_judgement 1 = .ok (.getfield 66, 3) := by decide +kernel
theorem dX2_judgement_4 : decode cX2_judgement 4 = .ok (.ifCond .eq 10, 3) := by decide +kernel
theorem dX2_judgement_7 : decode cX2_judgement 7 = .ok (.aload_n 1, 1) := by decide +kernel
theorem dX2_judgement_8 : decode cX2_judgement 8 = .ok (.invokevirtual 173, 3) := by decide +kernel
theorem dX2_judgement_11 : decode cX2_judgement 11 = .ok (.ifCond .ne 5, 3) := by decide +kernel
theorem dX2_judgement_14 : decode cX2_judgement 14 = .ok (.iconst 0, 1) := by decide +kernel
theorem dX2_judgement_15 : decode cX2_judgement 15 = .ok (.ireturn, 1) := by decide +kernel
theorem dX2_judgement_16 : decode cX2_judgement 16 = .ok (.aload_n 1, 1) := by decide +kernel
theorem dX2_judgement_17 : decode cX2_judgement 17 = .ok (.invokevirtual 186, 3) := by decide +kernel
theorem dX2_judgement_20 : decode cX2_judgement 20 = .ok (.istore_n 2, 1) := by decide +kernel
theorem dX2_judgement_21 : decode cX2_judgement 21 = .ok (.aload_n 1, 1) := by decide +kernel
theorem dX2_judgement_22 : decode cX2_judgement 22 = .ok (.aload_n 0, 1) := by decide +kernel
theorem dX2_judgement_23 : decode cX2_judgement 23 = .ok (.getfield 48, 3) := by decide +kernel
theorem dX2_judgement_26 : decode cX2_judgement 26 = .ok (.invokevirtual 118, 3) := by decide +kernel
theorem dX2_judgement_29 : decode cX2_judgement 29 = .ok (.istore_n 3, 1) := by decide +kernel
theorem dX2_judgement_30 : decode cX2_judgement 30 = .ok (.aload_n 0, 1) := by decide +kernel
theorem dX2_judgement_31 : decode cX2_judgement 31 = .ok (.aload_n 1, 1) := by decide +kernel
theorem dX2_judgement_32 : decode cX2_judgement 32 = .ok (.invokevirtual 189, 3) := by decide +kernel
theorem dX2_judgement_35 : decode cX2_judgement 35 = .ok (.istore 4, 2) := by decide +kernel
theorem dX2_judgement_37 : decode cX2_judgement 37 = .ok (.iload_n 2, 1) := by decide +kernel
theorem dX2_judgement_38 : decode cX2_judgement 38 = .ok (.iload_n 3, 1) := by decide +kernel
theorem dX2_judgement_39 : decode cX2_judgement 39 = .ok (.iadd, 1) := by decide +kernel
theorem dX2_judgement_40 : decode cX2_judgement 40 = .ok (.iload 4, 2) := by decide +kernel
theorem dX2_judgement_42 : decode cX2_judgement 42 = .ok (.if_icmp .gt 5, 3) := by decide +kernel
theorem dX2_judgement_45 : decode cX2_judgement 45 = .ok (.iconst 1, 1) := by decide +kernel
theorem dX2_judgement_46 : decode cX2_judgement 46 = .ok (.ireturn, 1) := by decide +kernel
theorem dX2_judgement_47 : decode cX2_judgement 47 = .ok (.iload_n 2, 1) := by decide +kernel
theorem dX2_judgement_48 : decode cX2_judgement 48 = .ok (.iload_n 3, 1) := by decide +kernel
theorem dX2_judgement_49 : decode cX2_judgement 49 = .ok (.isub, 1) := by decide +kernel
theorem dX2_judgement_50 : decode cX2_judgement 50 = .ok (.iload 4, 2) := by decide +kernel
theorem dX2_judgement_52 : decode cX2_judgement 52 = .ok (.if_icmp .le 7, 3) := by decide +kernel
theorem dX2_judgement_55 : decode cX2_judgement 55 = .ok (.iconst 3, 1) := by decide +kernel
theorem dX2_judgement_56 : decode cX2_judgement 56 = .ok (.goto 4, 3) := by decide +kernel
theorem dX2_judgement_59 : decode cX2_judgement 59 = .ok (.iconst 2, 1) := by decide +kernel
theorem dX2_judgement_60 : decode cX2_judgement 60 = .ok (.ireturn, 1) := by decide +kernel
theorem dX2_wasPutOn_0 : decode cX2_wasPutOn 0 = .ok (.iload_n 1, 1) := by decide +kernel
theorem dX2_wasPutOn_1 : decode cX2_wasPutOn 1 = .ok (.invokestatic 196, 3) := by decide +kernel
theorem dX2_wasPutOn_4 : decode cX2_wasPutOn 4 = .ok (.ifCond .eq 26, 3) := by decide +kernel
theorem dX2_wasPutOn_7 : decode cX2_wasPutOn 7 = .ok (.aload_n 0, 1) := by decide +kernel
theorem dX2_wasPutOn_8 : decode cX2_wasPutOn 8 = .ok (.getfield 35, 3) := by decide +kernel
theorem dX2_wasPutOn_11 : decode cX2_wasPutOn 11 = .ok (.iload_n 1, 1) := by decide +kernel
theorem dX2_wasPutOn_12 : decode cX2_wasPutOn 12 = .ok (.bipush 32, 2) := by decide +kernel
theorem dX2_wasPutOn_14 : decode cX2_wasPutOn 14 = .ok (.idiv, 1) := by decide +kernel
theorem dX2_wasPutOn_15 : decode cX2_wasPutOn 15 = .ok (.iaload, 1) := by decide +kernel
theorem dX2_wasPutOn_16 : decode cX2_wasPutOn 16 = .ok (.iconst 1, 1) := by decide +kernel
theorem dX2_wasPutOn_17 : decode cX2_wasPutOn 17 = .ok (.iload_n 1, 1) := by decide +kernel
theorem dX2_wasPutOn_18 : decode cX2_wasPutOn 18 = .ok (.bipush 32, 2) := by decide +kernel
theorem dX2_wasPutOn_20 : decode cX2_wasPutOn 20 = .ok (.irem, 1) := by decide +kernel
theorem dX2_wasPutOn_21 : decode cX2_wasPutOn 21 = .ok (.ishl, 1) := by decide +kernel
theorem dX2_wasPutOn_22 : decode cX2_wasPutOn 22 = .ok (.iand, 1) := by decide +kernel
theorem dX2_wasPutOn_23 : decode cX2_wasPutOn 23 = .ok (.ifCond .eq 7, 3) := by decide +kernel
theorem dX2_wasPutOn_26 : decode cX2_wasPutOn 26 = .ok (.iconst 1, 1) := by decide +kernel
theorem dX2_wasPutOn_27 : decode cX2_wasPutOn 27 = .ok (.goto 4, 3) := by decide +kernel
theorem dX2_wasPutOn_30 : decode cX2_wasPutOn 30 = .ok (.iconst 0, 1) := by decide +kernel
theorem dX2_wasPutOn_31 : decode cX2_wasPutOn 31 = .ok (.ireturn, 1) := by decide +kernel
theorem dX2_markPutOn_0 : decode cX2_markPutOn 0 = .ok (.iload_n 1, 1) := by decide +kernel
theorem dX2_markPutOn_1 : decode cX2_markPutOn 1 = .ok (.invokestatic 196, 3) := by decide +kernel
theorem dX2_markPutOn_4 : decode cX2_markPutOn 4 = .ok (.ifCond .eq 21, 3) := by decide +kernel
theorem dX2_markPutOn_7 : decode cX2_markPutOn 7 = .ok (.aload_n 0, 1) := by decide +kernel
theorem dX2_markPutOn_8 : decode cX2_markPutOn 8 = .ok (.getfield 35, 3) := by decide +kernel
theorem dX2_markPutOn_11 : decode cX2_markPutOn 11 = .ok (.iload_n 1, 1) := by decide +kernel
theorem dX2_markPutOn_12 : decode cX2_markPutOn 12 = .ok (.bipush 32, 2) := by decide +kernel
theorem dX2_markPutOn_14 : decode cX2_markPutOn 14 = .ok (.idiv, 1) := by decide +kernel
theorem dX2_markPutOn_15 : decode cX2_markPutOn 15 = .ok (.dup2, 1) := by decide +kernel
theorem dX2_markPutOn_16 : decode cX2_markPutOn 16 = .ok (.iaload, 1) := by decide +kernel
theorem dX2_markPutOn_17 : decode cX2_markPutOn 17 = .ok (.iconst 1, 1) := by decide +kernel
theorem dX2_markPutOn_18 : decode cX2_markPutOn 18 = .ok (.iload_n 1, 1) := by decide +kernel
theorem dX2_markPutOn_19 : decode cX2_markPutOn 19 = .ok (.bipush 32, 2) := by decide +kernel
theorem dX2_markPutOn_21 : decode cX2_markPutOn 21 = .ok (.irem, 1) := by decide +kernel
theorem dX2_markPutOn_22 : decode cX2_markPutOn 22 = .ok (.ishl, 1) := by decide +kernel
theorem dX2_markPutOn_23 : decode cX2_markPutOn 23 = .ok (.ior, 1) := by decide +kernel
theorem dX2_markPutOn_24 : decode cX2_markPutOn 24 = .ok (.iastore, 1) := by decide +kernel
theorem dX2_markPutOn_25 : decode cX2_markPutOn 25 = .ok (.return_, 1) := by decide +kernel
theorem dX2_rankThings_0 : decode cX2_rankThings 0 = .ok (.iconst 0, 1) := by decide +kernel
theorem dX2_rankThings_1 : decode cX2_rankThings 1 = .ok (.istore_n 1, 1) := by decide +kernel
theorem dX2_rankThings_2 : decode cX2_rankThings 2 = .ok (.iconst 0, 1) := by decide +kernel
theorem dX2_rankThings_3 : decode cX2_rankThings 3 = .ok (.istore_n 2, 1) := by decide +kernel
theorem dX2_rankThings_4 : decode cX2_rankThings 4 = .ok (.iload_n 2, 1) := by decide +kernel
theorem dX2_rankThings_5 : decode cX2_rankThings 5 = .ok (.aload_n 0, 1) := by decide +kernel
theorem dX2_rankThings_6 : decode cX2_rankThings 6 = .ok (.getfield 56, 3) := by decide +kernel
theorem dX2_rankThings_9 : decode cX2_rankThings 9 = .ok (.if_icmp .ge 43, 3) := by decide +kernel
theorem dX2_rankThings_12 : decode cX2_rankThings 12 = .ok (.aload_n 0, 1) := by decide +kernel
theorem dX2_rankThings_13 : decode cX2_rankThings 13 = .ok (.iload_n 2, 1) := by decide +kernel
theorem dX2_rankThings_14 : decode cX2_rankThings 14 = .ok (.invokevirtual 62, 3) := by decide +kernel
theorem dX2_rankThings_17 : decode cX2_rankThings 17 = .ok (.astore_n 3, 1) := by decide +kernel
theorem dX2_rankThings_18 : decode cX2_rankThings 18 = .ok (.aload_n 3, 1) := by decide +kernel
theorem dX2_rankThings_19 : decode cX2_rankThings 19 = .ok (.ifnull 27, 3) := by decide +kernel
theorem dX2_rankThings_22 : decode cX2_rankThings 22 = .ok (.aload_n 3, 1) := by decide +kernel
theorem dX2_rankThings_23 : decode cX2_rankThings 23 = .ok (.invokevirtual 105, 3) := by decide +kernel
theorem dX2_rankThings_26 : decode cX2_rankThings 26 = .ok (.ifCond .ne 6, 3) := by decide +kernel
theorem dX2_rankThings_29 : decode cX2_rankThings 29 = .ok (.goto 17, 3) := by decide +kernel
theorem dX2_rankThings_32 : decode cX2_rankThings 32 = .ok (.aload_n 0, 1) := by decide +kernel
theorem dX2_rankThings_33 : decode cX2_rankThings 33 = .ok (.iload_n 1, 1) := by decide +kernel
theorem dX2_rankThings_34 : decode cX2_rankThings 34 = .ok (.iload_n 2, 1) := by decide +kernel
theorem dX2_rankThings_35 : decode cX2_rankThings 35 = .ok (.aload_n 0, 1) := by decide +kernel
theorem dX2_rankThings_36 : decode cX2_rankThings 36 = .ok (.aload_n 3, 1) := by decide +kernel
theorem dX2_rankThings_37 : decode cX2_rankThings 37 = .ok (.invokevirtual 242, 3) := by decide +kernel
theorem dX2_rankThings_40 : decode cX2_rankThings 40 = .ok (.invokevirtual 246, 3) := by decide +kernel
theorem dX2_rankThings_43 : decode cX2_rankThings 43 = .ok (.iinc 1 1, 3) := by decide +kernel
theorem dX2_rankThings_46 : decode cX2_rankThings 46 = .ok (.iinc 2 1, 3) := by decide +kernel
theorem dX2_rankThings_49 : decode cX2_rankThings 49 = .ok (.goto (-45), 3) := by decide +kernel
theorem dX2_rankThings_52 : decode cX2_rankThings 52 = .ok (.iload_n 1, 1) := by decide +kernel
theorem dX2_rankThings_53 : decode cX2_rankThings 53 = .ok (.ireturn, 1) := by decide +kernel
theorem dX2_rankBehind_0 : decode cX2_rankBehind 0 = .ok (.iload_n 1, 1) := by decide +kernel
theorem dX2_rankBehind_1 : decode cX2_rankBehind 1 = .ok (.iconst 0, 1) := by decide +kernel
theorem dX2_rankBehind_2 : decode cX2_rankBehind 2 = .ok (.bipush 39, 2) := by decide +kernel
theorem dX2_rankBehind_4 : decode cX2_rankBehind 4 = .ok (.invokestatic 44, 3) := by decide +kernel
theorem dX2_rankBehind_7 : decode cX2_rankBehind 7 = .ok (.ifCond .ne 4, 3) := by decide +kernel
theorem dX2_rankBehind_10 : decode cX2_rankBehind 10 = .ok (.return_, 1) := by decide +kernel
theorem dX2_rankBehind_11 : decode cX2_rankBehind 11 = .ok (.iload_n 1, 1) := by decide +kernel
theorem dX2_rankBehind_12 : decode cX2_rankBehind 12 = .ok (.istore 5, 2) := by decide +kernel
theorem dX2_rankBehind_14 : decode cX2_rankBehind 14 = .ok (.iload 5, 2) := by decide +kernel
theorem dX2_rankBehind_16 : decode cX2_rankBehind 16 = .ok (.ifCond .le 55, 3) := by decide +kernel
theorem dX2_rankBehind_19 : decode cX2_rankBehind 19 = .ok (.aload_n 0, 1) := by decide +kernel
theorem dX2_rankBehind_20 : decode cX2_rankBehind 20 = .ok (.getfield 41, 3) := by decide +kernel
theorem dX2_rankBehind_23 : decode cX2_rankBehind 23 = .ok (.iload 5, 2) := by decide +kernel
theorem dX2_rankBehind_25 : decode cX2_rankBehind 25 = .ok (.iconst 1, 1) := by decide +kernel
theorem dX2_rankBehind_26 : decode cX2_rankBehind 26 = .ok (.isub, 1) := by decide +kernel
theorem dX2_rankBehind_27 : decode cX2_rankBehind 27 = .ok (.laload, 1) := by decide +kernel
theorem dX2_rankBehind_28 : decode cX2_rankBehind 28 = .ok (.lload_n 3, 1) := by decide +kernel
theorem dX2_rankBehind_29 : decode cX2_rankBehind 29 = .ok (.lcmp, 1) := by decide +kernel
theorem dX2_rankBehind_30 : decode cX2_rankBehind 30 = .ok (.ifCond .ge 41, 3) := by decide +kernel
theorem dX2_rankBehind_33 : decode cX2_rankBehind 33 = .ok (.aload_n 0, 1) := by decide +kernel
theorem dX2_rankBehind_34 : decode cX2_rankBehind 34 = .ok (.getfield 38, 3) := by decide +kernel
theorem dX2_rankBehind_37 : decode cX2_rankBehind 37 = .ok (.iload 5, 2) := by decide +kernel
theorem dX2_rankBehind_39 : decode cX2_rankBehind 39 = .ok (.aload_n 0, 1) := by decide +kernel
theorem dX2_rankBehind_40 : decode cX2_rankBehind 40 = .ok (.getfield 38, 3) := by decide +kernel
theorem dX2_rankBehind_43 : decode cX2_rankBehind 43 = .ok (.iload 5, 2) := by decide +kernel
theorem dX2_rankBehind_45 : decode cX2_rankBehind 45 = .ok (.iconst 1, 1) := by decide +kernel
theorem dX2_rankBehind_46 : decode cX2_rankBehind 46 = .ok (.isub, 1) := by decide +kernel
theorem dX2_rankBehind_47 : decode cX2_rankBehind 47 = .ok (.iaload, 1) := by decide +kernel
theorem dX2_rankBehind_48 : decode cX2_rankBehind 48 = .ok (.iastore, 1) := by decide +kernel
theorem dX2_rankBehind_49 : decode cX2_rankBehind 49 = .ok (.aload_n 0, 1) := by decide +kernel
theorem dX2_rankBehind_50 : decode cX2_rankBehind 50 = .ok (.getfield 41, 3) := by decide +kernel
theorem dX2_rankBehind_53 : decode cX2_rankBehind 53 = .ok (.iload 5, 2) := by decide +kernel
theorem dX2_rankBehind_55 : decode cX2_rankBehind 55 = .ok (.aload_n 0, 1) := by decide +kernel
theorem dX2_rankBehind_56 : decode cX2_rankBehind 56 = .ok (.getfield 41, 3) := by decide +kernel
theorem dX2_rankBehind_59 : decode cX2_rankBehind 59 = .ok (.iload 5, 2) := by decide +kernel
theorem dX2_rankBehind_61 : decode cX2_rankBehind 61 = .ok (.iconst 1, 1) := by decide +kernel
theorem dX2_rankBehind_62 : decode cX2_rankBehind 62 = .ok (.isub, 1) := by decide +kernel
theorem dX2_rankBehind_63 : decode cX2_rankBehind 63 = .ok (.laload, 1) := by decide +kernel
theorem dX2_rankBehind_64 : decode cX2_rankBehind 64 = .ok (.lastore, 1) := by decide +kernel
theorem dX2_rankBehind_65 : decode cX2_rankBehind 65 = .ok (.iinc 5 (-1), 3) := by decide +kernel
theorem dX2_rankBehind_68 : decode cX2_rankBehind 68 = .ok (.goto (-54), 3) := by decide +kernel
theorem dX2_rankBehind_71 : decode cX2_rankBehind 71 = .ok (.aload_n 0, 1) := by decide +kernel
theorem dX2_rankBehind_72 : decode cX2_rankBehind 72 = .ok (.getfield 38, 3) := by decide +kernel
theorem dX2_rankBehind_75 : decode cX2_rankBehind 75 = .ok (.iload 5, 2) := by decide +kernel
theorem dX2_rankBehind_77 : decode cX2_rankBehind 77 = .ok (.iload_n 2, 1) := by decide +kernel
theorem dX2_rankBehind_78 : decode cX2_rankBehind 78 = .ok (.iastore, 1) := by decide +kernel
theorem dX2_rankBehind_79 : decode cX2_rankBehind 79 = .ok (.aload_n 0, 1) := by decide +kernel
theorem dX2_rankBehind_80 : decode cX2_rankBehind 80 = .ok (.getfield 41, 3) := by decide +kernel
theorem dX2_rankBehind_83 : decode cX2_rankBehind 83 = .ok (.iload 5, 2) := by decide +kernel
theorem dX2_rankBehind_85 : decode cX2_rankBehind 85 = .ok (.lload_n 3, 1) := by decide +kernel
theorem dX2_rankBehind_86 : decode cX2_rankBehind 86 = .ok (.lastore, 1) := by decide +kernel
theorem dX2_rankBehind_87 : decode cX2_rankBehind 87 = .ok (.return_, 1) := by decide +kernel
theorem dX2_urgencyOf_0 : decode cX2_urgencyOf 0 = .ok (.aload_n 1, 1) := by decide +kernel
theorem dX2_urgencyOf_1 : decode cX2_urgencyOf 1 = .ok (.getfield 81, 3) := by decide +kernel
theorem dX2_urgencyOf_4 : decode cX2_urgencyOf 4 = .ok (.ifnonnull 7, 3) := by decide +kernel
theorem dX2_urgencyOf_7 : decode cX2_urgencyOf 7 = .ok (.ldc2_w 250, 3) := by decide +kernel
theorem dX2_urgencyOf_10 : decode cX2_urgencyOf 10 = .ok (.lreturn, 1) := by decide +kernel
theorem dX2_urgencyOf_11 : decode cX2_urgencyOf 11 = .ok (.aload_n 1, 1) := by decide +kernel
theorem dX2_urgencyOf_12 : decode cX2_urgencyOf 12 = .ok (.invokevirtual 186, 3) := by decide +kernel
theorem dX2_urgencyOf_15 : decode cX2_urgencyOf 15 = .ok (.aload_n 1, 1) := by decide +kernel
theorem dX2_urgencyOf_16 : decode cX2_urgencyOf 16 = .ok (.aload_n 0, 1) := by decide +kernel
theorem dX2_urgencyOf_17 : decode cX2_urgencyOf 17 = .ok (.getfield 48, 3) := by decide +kernel
theorem dX2_urgencyOf_20 : decode cX2_urgencyOf 20 = .ok (.invokevirtual 118, 3) := by decide +kernel
theorem dX2_urgencyOf_23 : decode cX2_urgencyOf 23 = .ok (.iadd, 1) := by decide +kernel
theorem dX2_urgencyOf_24 : decode cX2_urgencyOf 24 = .ok (.aload_n 0, 1) := by decide +kernel
theorem dX2_urgencyOf_25 : decode cX2_urgencyOf 25 = .ok (.aload_n 1, 1) := by decide +kernel
theorem dX2_urgencyOf_26 : decode cX2_urgencyOf 26 = .ok (.invokevirtual 189, 3) := by decide +kernel
theorem dX2_urgencyOf_29 : decode cX2_urgencyOf 29 = .ok (.isub, 1) := by decide +kernel
theorem dX2_urgencyOf_30 : decode cX2_urgencyOf 30 = .ok (.istore_n 2, 1) := by decide +kernel
theorem dX2_urgencyOf_31 : decode cX2_urgencyOf 31 = .ok (.aload_n 1, 1) := by decide +kernel
theorem dX2_urgencyOf_32 : decode cX2_urgencyOf 32 = .ok (.invokevirtual 173, 3) := by decide +kernel
theorem dX2_urgencyOf_35 : decode cX2_urgencyOf 35 = .ok (.ifCond .ne 10, 3) := by decide +kernel
theorem dX2_urgencyOf_38 : decode cX2_urgencyOf 38 = .ok (.ldc2_w 252, 3) := by decide +kernel
theorem dX2_urgencyOf_41 : decode cX2_urgencyOf 41 = .ok (.iload_n 2, 1) := by decide +kernel
theorem dX2_urgencyOf_42 : decode cX2_urgencyOf 42 = .ok (.i2l, 1) := by decide +kernel
theorem dX2_urgencyOf_43 : decode cX2_urgencyOf 43 = .ok (.ladd, 1) := by decide +kernel
theorem dX2_urgencyOf_44 : decode cX2_urgencyOf 44 = .ok (.lreturn, 1) := by decide +kernel
theorem dX2_urgencyOf_45 : decode cX2_urgencyOf 45 = .ok (.aload_n 1, 1) := by decide +kernel
theorem dX2_urgencyOf_46 : decode cX2_urgencyOf 46 = .ok (.aload_n 0, 1) := by decide +kernel
theorem dX2_urgencyOf_47 : decode cX2_urgencyOf 47 = .ok (.getfield 48, 3) := by decide +kernel
theorem dX2_urgencyOf_50 : decode cX2_urgencyOf 50 = .ok (.invokevirtual 176, 3) := by decide +kernel
theorem dX2_urgencyOf_53 : decode cX2_urgencyOf 53 = .ok (.ifCond .eq 12, 3) := by decide +kernel
theorem dX2_urgencyOf_56 : decode cX2_urgencyOf 56 = .ok (.ldc2_w 254, 3) := by decide +kernel
theorem dX2_urgencyOf_59 : decode cX2_urgencyOf 59 = .ok (.iload_n 2, 1) := by decide +kernel
theorem dX2_urgencyOf_60 : decode cX2_urgencyOf 60 = .ok (.i2l, 1) := by decide +kernel
theorem dX2_urgencyOf_61 : decode cX2_urgencyOf 61 = .ok (.ladd, 1) := by decide +kernel
theorem dX2_urgencyOf_62 : decode cX2_urgencyOf 62 = .ok (.goto 5, 3) := by decide +kernel
theorem dX2_urgencyOf_65 : decode cX2_urgencyOf 65 = .ok (.iload_n 2, 1) := by decide +kernel
theorem dX2_urgencyOf_66 : decode cX2_urgencyOf 66 = .ok (.i2l, 1) := by decide +kernel
theorem dX2_urgencyOf_67 : decode cX2_urgencyOf 67 = .ok (.lreturn, 1) := by decide +kernel
theorem dX2_howManyDue_0 : decode cX2_howManyDue 0 = .ok (.iconst 0, 1) := by decide +kernel
theorem dX2_howManyDue_1 : decode cX2_howManyDue 1 = .ok (.istore_n 1, 1) := by decide +kernel
theorem dX2_howManyDue_2 : decode cX2_howManyDue 2 = .ok (.iconst 0, 1) := by decide +kernel
theorem dX2_howManyDue_3 : decode cX2_howManyDue 3 = .ok (.istore_n 2, 1) := by decide +kernel
theorem dX2_howManyDue_4 : decode cX2_howManyDue 4 = .ok (.iload_n 2, 1) := by decide +kernel
theorem dX2_howManyDue_5 : decode cX2_howManyDue 5 = .ok (.aload_n 0, 1) := by decide +kernel
theorem dX2_howManyDue_6 : decode cX2_howManyDue 6 = .ok (.getfield 56, 3) := by decide +kernel
theorem dX2_howManyDue_9 : decode cX2_howManyDue 9 = .ok (.if_icmp .ge 33, 3) := by decide +kernel
theorem dX2_howManyDue_12 : decode cX2_howManyDue 12 = .ok (.aload_n 0, 1) := by decide +kernel
theorem dX2_howManyDue_13 : decode cX2_howManyDue 13 = .ok (.iload_n 2, 1) := by decide +kernel
theorem dX2_howManyDue_14 : decode cX2_howManyDue 14 = .ok (.invokevirtual 62, 3) := by decide +kernel
theorem dX2_howManyDue_17 : decode cX2_howManyDue 17 = .ok (.astore_n 3, 1) := by decide +kernel
theorem dX2_howManyDue_18 : decode cX2_howManyDue 18 = .ok (.aload_n 3, 1) := by decide +kernel
theorem dX2_howManyDue_19 : decode cX2_howManyDue 19 = .ok (.ifnull 17, 3) := by decide +kernel
theorem dX2_howManyDue_22 : decode cX2_howManyDue 22 = .ok (.aload_n 3, 1) := by decide +kernel
theorem dX2_howManyDue_23 : decode cX2_howManyDue 23 = .ok (.aload_n 0, 1) := by decide +kernel
theorem dX2_howManyDue_24 : decode cX2_howManyDue 24 = .ok (.getfield 48, 3) := by decide +kernel
theorem dX2_howManyDue_27 : decode cX2_howManyDue 27 = .ok (.invokevirtual 176, 3) := by decide +kernel
theorem dX2_howManyDue_30 : decode cX2_howManyDue 30 = .ok (.ifCond .eq 6, 3) := by decide +kernel
theorem dX2_howManyDue_33 : decode cX2_howManyDue 33 = .ok (.iinc 1 1, 3) := by decide +kernel
theorem dX2_howManyDue_36 : decode cX2_howManyDue 36 = .ok (.iinc 2 1, 3) := by decide +kernel
theorem dX2_howManyDue_39 : decode cX2_howManyDue 39 = .ok (.goto (-35), 3) := by decide +kernel
theorem dX2_howManyDue_42 : decode cX2_howManyDue 42 = .ok (.iload_n 1, 1) := by decide +kernel
theorem dX2_howManyDue_43 : decode cX2_howManyDue 43 = .ok (.ireturn, 1) := by decide +kernel
theorem dX2_howManyJudged_0 : decode cX2_howManyJudged 0 = .ok (.iconst 0, 1) := by decide +kernel
theorem dX2_howManyJudged_1 : decode cX2_howManyJudged 1 = .ok (.istore_n 2, 1) := by decide +kernel
theorem dX2_howManyJudged_2 : decode cX2_howManyJudged 2 = .ok (.iconst 0, 1) := by decide +kernel
theorem dX2_howManyJudged_3 : decode cX2_howManyJudged 3 = .ok (.istore_n 3, 1) := by decide +kernel
theorem dX2_howManyJudged_4 : decode cX2_howManyJudged 4 = .ok (.iload_n 3, 1) := by decide +kernel
theorem dX2_howManyJudged_5 : decode cX2_howManyJudged 5 = .ok (.aload_n 0, 1) := by decide +kernel
theorem dX2_howManyJudged_6 : decode cX2_howManyJudged 6 = .ok (.getfield 56, 3) := by decide +kernel
theorem dX2_howManyJudged_9 : decode cX2_howManyJudged 9 = .ok (.if_icmp .ge 42, 3) := by decide +kernel
theorem dX2_howManyJudged_12 : decode cX2_howManyJudged 12 = .ok (.aload_n 0, 1) := by decide +kernel
theorem dX2_howManyJudged_13 : decode cX2_howManyJudged 13 = .ok (.iload_n 3, 1) := by decide +kernel
theorem dX2_howManyJudged_14 : decode cX2_howManyJudged 14 = .ok (.invokevirtual 62, 3) := by decide +kernel
theorem dX2_howManyJudged_17 : decode cX2_howManyJudged 17 = .ok (.astore 4, 2) := by decide +kernel
theorem dX2_howManyJudged_19 : decode cX2_howManyJudged 19 = .ok (.aload 4, 2) := by decide +kernel
theorem dX2_howManyJudged_21 : decode cX2_howManyJudged 21 = .ok (.ifnull 24, 3) := by decide +kernel
theorem dX2_howManyJudged_24 : decode cX2_howManyJudged 24 = .ok (.aload 4, 2) := by decide +kernel
theorem dX2_howManyJudged_26 : decode cX2_howManyJudged 26 = .ok (.invokevirtual 105, 3) := by decide +kernel
theorem dX2_howManyJudged_29 : decode cX2_howManyJudged 29 = .ok (.ifCond .eq 16, 3) := by decide +kernel
theorem dX2_howManyJudged_32 : decode cX2_howManyJudged 32 = .ok (.aload_n 0, 1) := by decide +kernel
end
section
theorem dX2_howManyJudged_33 : decode cX2_howManyJudged 33 = .ok (.aload 4, 2) := by decide +kernel
theorem dX2_howManyJudged_35 : decode cX2_howManyJudged 35 = .ok (.invokevirtual 182, 3) := by decide +kernel
theorem dX2_howManyJudged_38 : decode cX2_howManyJudged 38 = .ok (.iload_n 1, 1) := by decide +kernel
theorem dX2_howManyJudged_39 : decode cX2_howManyJudged 39 = .ok (.if_icmp .ne 6, 3) := by decide +kernel
theorem dX2_howManyJudged_42 : decode cX2_howManyJudged 42 = .ok (.iinc 2 1, 3) := by decide +kernel
theorem dX2_howManyJudged_45 : decode cX2_howManyJudged 45 = .ok (.iinc 3 1, 3) := by decide +kernel
theorem dX2_howManyJudged_48 : decode cX2_howManyJudged 48 = .ok (.goto (-44), 3) := by decide +kernel
theorem dX2_howManyJudged_51 : decode cX2_howManyJudged 51 = .ok (.iload_n 2, 1) := by decide +kernel
theorem dX2_howManyJudged_52 : decode cX2_howManyJudged 52 = .ok (.ireturn, 1) := by decide +kernel
end
section
theorem dX3_init_0 : decode cX3_init 0 = .ok (.aload_n 0, 1) := by decide +kernel
theorem dX3_init_1 : decode cX3_init 1 = .ok (.invokespecial 1, 3) := by decide +kernel
theorem dX3_init_4 : decode cX3_init 4 = .ok (.aload_n 0, 1) := by decide +kernel
theorem dX3_init_5 : decode cX3_init 5 = .ok (.bipush 40, 2) := by decide +kernel
theorem dX3_init_7 : decode cX3_init 7 = .ok (.newarray .int, 2) := by decide +kernel
theorem dX3_init_9 : decode cX3_init 9 = .ok (.putfield 7, 3) := by decide +kernel
theorem dX3_init_12 : decode cX3_init 12 = .ok (.aload_n 0, 1) := by decide +kernel
theorem dX3_init_13 : decode cX3_init 13 = .ok (.bipush 40, 2) := by decide +kernel
theorem dX3_init_15 : decode cX3_init 15 = .ok (.newarray .int, 2) := by decide +kernel
theorem dX3_init_17 : decode cX3_init 17 = .ok (.putfield 13, 3) := by decide +kernel
theorem dX3_init_20 : decode cX3_init 20 = .ok (.aload_n 0, 1) := by decide +kernel
theorem dX3_init_21 : decode cX3_init 21 = .ok (.bipush 40, 2) := by decide +kernel
theorem dX3_init_23 : decode cX3_init 23 = .ok (.newarray .int, 2) := by decide +kernel
theorem dX3_init_25 : decode cX3_init 25 = .ok (.putfield 16, 3) := by decide +kernel
theorem dX3_init_28 : decode cX3_init 28 = .ok (.aload_n 0, 1) := by decide +kernel
theorem dX3_init_29 : decode cX3_init 29 = .ok (.bipush 40, 2) := by decide +kernel
theorem dX3_init_31 : decode cX3_init 31 = .ok (.newarray .int, 2) := by decide +kernel
theorem dX3_init_33 : decode cX3_init 33 = .ok (.putfield 19, 3) := by decide +kernel
theorem dX3_init_36 : decode cX3_init 36 = .ok (.aload_n 0, 1) := by decide +kernel
theorem dX3_init_37 : decode cX3_init 37 = .ok (.bipush 40, 2) := by decide +kernel
theorem dX3_init_39 : decode cX3_init 39 = .ok (.newarray .int, 2) := by decide +kernel
theorem dX3_init_41 : decode cX3_init 41 = .ok (.putfield 22, 3) := by decide +kernel
theorem dX3_init_44 : decode cX3_init 44 = .ok (.aload_n 0, 1) := by decide +kernel
theorem dX3_init_45 : decode cX3_init 45 = .ok (.bipush 40, 2) := by decide +kernel
theorem dX3_init_47 : decode cX3_init 47 = .ok (.newarray .int, 2) := by decide +kernel
theorem dX3_init_49 : decode cX3_init 49 = .ok (.putfield 25, 3) := by decide +kernel
theorem dX3_init_52 : decode cX3_init 52 = .ok (.aload_n 0, 1) := by decide +kernel
theorem dX3_init_53 : decode cX3_init 53 = .ok (.bipush 40, 2) := by decide +kernel
theorem dX3_init_55 : decode cX3_init 55 = .ok (.newarray .int, 2) := by decide +kernel
theorem dX3_init_57 : decode cX3_init 57 = .ok (.putfield 28, 3) := by decide +kernel
theorem dX3_init_60 : decode cX3_init 60 = .ok (.aload_n 0, 1) := by decide +kernel
theorem dX3_init_61 : decode cX3_init 61 = .ok (.bipush 40, 2) := by decide +kernel
theorem dX3_init_63 : decode cX3_init 63 = .ok (.newarray .int, 2) := by decide +kernel
theorem dX3_init_65 : decode cX3_init 65 = .ok (.putfield 31, 3) := by decide +kernel
theorem dX3_init_68 : decode cX3_init 68 = .ok (.aload_n 0, 1) := by decide +kernel
theorem dX3_init_69 : decode cX3_init 69 = .ok (.bipush 40, 2) := by decide +kernel
theorem dX3_init_71 : decode cX3_init 71 = .ok (.newarray .int, 2) := by decide +kernel
theorem dX3_init_73 : decode cX3_init 73 = .ok (.putfield 34, 3) := by decide +kernel
theorem dX3_init_76 : decode cX3_init 76 = .ok (.aload_n 0, 1) := by decide +kernel
theorem dX3_init_77 : decode cX3_init 77 = .ok (.bipush 120, 2) := by decide +kernel
theorem dX3_init_79 : decode cX3_init 79 = .ok (.newarray .int, 2) := by decide +kernel
theorem dX3_init_81 : decode cX3_init 81 = .ok (.putfield 37, 3) := by decide +kernel
theorem dX3_init_84 : decode cX3_init 84 = .ok (.aload_n 0, 1) := by decide +kernel
theorem dX3_init_85 : decode cX3_init 85 = .ok (.iconst 4, 1) := by decide +kernel
theorem dX3_init_86 : decode cX3_init 86 = .ok (.newarray .int, 2) := by decide +kernel
theorem dX3_init_88 : decode cX3_init 88 = .ok (.putfield 40, 3) := by decide +kernel
theorem dX3_init_91 : decode cX3_init 91 = .ok (.aload_n 0, 1) := by decide +kernel
theorem dX3_init_92 : decode cX3_init 92 = .ok (.iconst 4, 1) := by decide +kernel
theorem dX3_init_93 : decode cX3_init 93 = .ok (.newarray .int, 2) := by decide +kernel
theorem dX3_init_95 : decode cX3_init 95 = .ok (.putfield 43, 3) := by decide +kernel
theorem dX3_init_98 : decode cX3_init 98 = .ok (.aload_n 0, 1) := by decide +kernel
theorem dX3_init_99 : decode cX3_init 99 = .ok (.sipush 10000, 3) := by decide +kernel
theorem dX3_init_102 : decode cX3_init 102 = .ok (.newarray .boolean, 2) := by decide +kernel
theorem dX3_init_104 : decode cX3_init 104 = .ok (.putfield 46, 3) := by decide +kernel
theorem dX3_init_107 : decode cX3_init 107 = .ok (.aload_n 0, 1) := by decide +kernel
theorem dX3_init_108 : decode cX3_init 108 = .ok (.sipush 300, 3) := by decide +kernel
theorem dX3_init_111 : decode cX3_init 111 = .ok (.newarray .int, 2) := by decide +kernel
theorem dX3_init_113 : decode cX3_init 113 = .ok (.putfield 50, 3) := by decide +kernel
theorem dX3_init_116 : decode cX3_init 116 = .ok (.aload_n 0, 1) := by decide +kernel
theorem dX3_init_117 : decode cX3_init 117 = .ok (.sipush 300, 3) := by decide +kernel
theorem dX3_init_120 : decode cX3_init 120 = .ok (.newarray .int, 2) := by decide +kernel
theorem dX3_init_122 : decode cX3_init 122 = .ok (.putfield 53, 3) := by decide +kernel
theorem dX3_init_125 : decode cX3_init 125 = .ok (.aload_n 0, 1) := by decide +kernel
theorem dX3_init_126 : decode cX3_init 126 = .ok (.sipush 300, 3) := by decide +kernel
theorem dX3_init_129 : decode cX3_init 129 = .ok (.newarray .int, 2) := by decide +kernel
theorem dX3_init_131 : decode cX3_init 131 = .ok (.putfield 56, 3) := by decide +kernel
theorem dX3_init_134 : decode cX3_init 134 = .ok (.aload_n 0, 1) := by decide +kernel
theorem dX3_init_135 : decode cX3_init 135 = .ok (.sipush 300, 3) := by decide +kernel
theorem dX3_init_138 : decode cX3_init 138 = .ok (.newarray .int, 2) := by decide +kernel
theorem dX3_init_140 : decode cX3_init 140 = .ok (.putfield 59, 3) := by decide +kernel
theorem dX3_init_143 : decode cX3_init 143 = .ok (.aload_n 0, 1) := by decide +kernel
theorem dX3_init_144 : decode cX3_init 144 = .ok (.sipush 300, 3) := by decide +kernel
theorem dX3_init_147 : decode cX3_init 147 = .ok (.newarray .int, 2) := by decide +kernel
theorem dX3_init_149 : decode cX3_init 149 = .ok (.putfield 62, 3) := by decide +kernel
theorem dX3_init_152 : decode cX3_init 152 = .ok (.aload_n 0, 1) := by decide +kernel
theorem dX3_init_153 : decode cX3_init 153 = .ok (.sipush 300, 3) := by decide +kernel
theorem dX3_init_156 : decode cX3_init 156 = .ok (.newarray .boolean, 2) := by decide +kernel
theorem dX3_init_158 : decode cX3_init 158 = .ok (.putfield 65, 3) := by decide +kernel
theorem dX3_init_161 : decode cX3_init 161 = .ok (.aload_n 0, 1) := by decide +kernel
theorem dX3_init_162 : decode cX3_init 162 = .ok (.sipush 300, 3) := by decide +kernel
theorem dX3_init_165 : decode cX3_init 165 = .ok (.newarray .boolean, 2) := by decide +kernel
theorem dX3_init_167 : decode cX3_init 167 = .ok (.putfield 68, 3) := by decide +kernel
theorem dX3_init_170 : decode cX3_init 170 = .ok (.aload_n 0, 1) := by decide +kernel
theorem dX3_init_171 : decode cX3_init 171 = .ok (.sipush 300, 3) := by decide +kernel
theorem dX3_init_174 : decode cX3_init 174 = .ok (.newarray .int, 2) := by decide +kernel
theorem dX3_init_176 : decode cX3_init 176 = .ok (.putfield 71, 3) := by decide +kernel
theorem dX3_init_179 : decode cX3_init 179 = .ok (.aload_n 0, 1) := by decide +kernel
theorem dX3_init_180 : decode cX3_init 180 = .ok (.sipush 300, 3) := by decide +kernel
theorem dX3_init_183 : decode cX3_init 183 = .ok (.newarray .boolean, 2) := by decide +kernel
theorem dX3_init_185 : decode cX3_init 185 = .ok (.putfield 74, 3) := by decide +kernel
theorem dX3_init_188 : decode cX3_init 188 = .ok (.aload_n 0, 1) := by decide +kernel
theorem dX3_init_189 : decode cX3_init 189 = .ok (.bipush 10, 2) := by decide +kernel
theorem dX3_init_191 : decode cX3_init 191 = .ok (.newarray .int, 2) := by decide +kernel
theorem dX3_init_193 : decode cX3_init 193 = .ok (.putfield 77, 3) := by decide +kernel
theorem dX3_init_196 : decode cX3_init 196 = .ok (.aload_n 0, 1) := by decide +kernel
theorem dX3_init_197 : decode cX3_init 197 = .ok (.bipush 10, 2) := by decide +kernel
theorem dX3_init_199 : decode cX3_init 199 = .ok (.newarray .long, 2) := by decide +kernel
theorem dX3_init_201 : decode cX3_init 201 = .ok (.putfield 80, 3) := by decide +kernel
theorem dX3_init_204 : decode cX3_init 204 = .ok (.iconst 0, 1) := by decide +kernel
theorem dX3_init_205 : decode cX3_init 205 = .ok (.istore_n 1, 1) := by decide +kernel
theorem dX3_init_206 : decode cX3_init 206 = .ok (.iload_n 1, 1) := by decide +kernel
theorem dX3_init_207 : decode cX3_init 207 = .ok (.iconst 4, 1) := by decide +kernel
theorem dX3_init_208 : decode cX3_init 208 = .ok (.if_icmp .ge 26, 3) := by decide +kernel
theorem dX3_init_211 : decode cX3_init 211 = .ok (.aload_n 0, 1) := by decide +kernel
theorem dX3_init_212 : decode cX3_init 212 = .ok (.getfield 40, 3) := by decide +kernel
theorem dX3_init_215 : decode cX3_init 215 = .ok (.iload_n 1, 1) := by decide +kernel
theorem dX3_init_216 : decode cX3_init 216 = .ok (.bipush 100, 2) := by decide +kernel
theorem dX3_init_218 : decode cX3_init 218 = .ok (.iastore, 1) := by decide +kernel
theorem dX3_init_219 : decode cX3_init 219 = .ok (.aload_n 0, 1) := by decide +kernel
theorem dX3_init_220 : decode cX3_init 220 = .ok (.getfield 43, 3) := by decide +kernel
theorem dX3_init_223 : decode cX3_init 223 = .ok (.iload_n 1, 1) := by decide +kernel
theorem dX3_init_224 : decode cX3_init 224 = .ok (.sipush 200, 3) := by decide +kernel
theorem dX3_init_227 : decode cX3_init 227 = .ok (.iastore, 1) := by decide +kernel
theorem dX3_init_228 : decode cX3_init 228 = .ok (.iinc 1 1, 3) := by decide +kernel
theorem dX3_init_231 : decode cX3_init 231 = .ok (.goto (-25), 3) := by decide +kernel
theorem dX3_init_234 : decode cX3_init 234 = .ok (.return_, 1) := by decide +kernel
theorem dX3_in_0 : decode cX3_in 0 = .ok (.iload_n 0, 1) := by decide +kernel
theorem dX3_in_1 : decode cX3_in 1 = .ok (.iload_n 1, 1) := by decide +kernel
theorem dX3_in_2 : decode cX3_in 2 = .ok (.if_icmp .lt 12, 3) := by decide +kernel
theorem dX3_in_5 : decode cX3_in 5 = .ok (.iload_n 0, 1) := by decide +kernel
theorem dX3_in_6 : decode cX3_in 6 = .ok (.iload_n 2, 1) := by decide +kernel
theorem dX3_in_7 : decode cX3_in 7 = .ok (.if_icmp .gt 7, 3) := by decide +kernel
theorem dX3_in_10 : decode cX3_in 10 = .ok (.iconst 1, 1) := by decide +kernel
theorem dX3_in_11 : decode cX3_in 11 = .ok (.goto 4, 3) := by decide +kernel
theorem dX3_in_14 : decode cX3_in 14 = .ok (.iconst 0, 1) := by decide +kernel
theorem dX3_in_15 : decode cX3_in 15 = .ok (.ireturn, 1) := by decide +kernel
theorem dX3_isThing_0 : decode cX3_isThing 0 = .ok (.iload_n 1, 1) := by decide +kernel
theorem dX3_isThing_1 : decode cX3_isThing 1 = .ok (.iconst 0, 1) := by decide +kernel
theorem dX3_isThing_2 : decode cX3_isThing 2 = .ok (.aload_n 0, 1) := by decide +kernel
theorem dX3_isThing_3 : decode cX3_isThing 3 = .ok (.getfield 84, 3) := by decide +kernel
theorem dX3_isThing_6 : decode cX3_isThing 6 = .ok (.iconst 1, 1) := by decide +kernel
theorem dX3_isThing_7 : decode cX3_isThing 7 = .ok (.isub, 1) := by decide +kernel
theorem dX3_isThing_8 : decode cX3_isThing 8 = .ok (.invokestatic 88, 3) := by decide +kernel
theorem dX3_isThing_11 : decode cX3_isThing 11 = .ok (.ireturn, 1) := by decide +kernel
theorem dX3_pass_0 : decode cX3_pass 0 = .ok (.iload_n 1, 1) := by decide +kernel
theorem dX3_pass_1 : decode cX3_pass 1 = .ok (.iconst 1, 1) := by decide +kernel
theorem dX3_pass_2 : decode cX3_pass 2 = .ok (.sipush 5000, 3) := by decide +kernel
theorem dX3_pass_5 : decode cX3_pass 5 = .ok (.invokestatic 88, 3) := by decide +kernel
theorem dX3_pass_8 : decode cX3_pass 8 = .ok (.ifCond .ne 6, 3) := by decide +kernel
theorem dX3_pass_11 : decode cX3_pass 11 = .ok (.bipush (-2), 2) := by decide +kernel
theorem dX3_pass_13 : decode cX3_pass 13 = .ok (.ireturn, 1) := by decide +kernel
theorem dX3_pass_14 : decode cX3_pass 14 = .ok (.aload_n 0, 1) := by decide +kernel
theorem dX3_pass_15 : decode cX3_pass 15 = .ok (.getfield 92, 3) := by decide +kernel
theorem dX3_pass_18 : decode cX3_pass 18 = .ok (.iload_n 1, 1) := by decide +kernel
theorem dX3_pass_19 : decode cX3_pass 19 = .ok (.iadd, 1) := by decide +kernel
theorem dX3_pass_20 : decode cX3_pass 20 = .ok (.sipush 20000, 3) := by decide +kernel
theorem dX3_pass_23 : decode cX3_pass 23 = .ok (.if_icmp .le 6, 3) := by decide +kernel
theorem dX3_pass_26 : decode cX3_pass 26 = .ok (.bipush (-4), 2) := by decide +kernel
theorem dX3_pass_28 : decode cX3_pass 28 = .ok (.ireturn, 1) := by decide +kernel
theorem dX3_pass_29 : decode cX3_pass 29 = .ok (.aload_n 0, 1) := by decide +kernel
theorem dX3_pass_30 : decode cX3_pass 30 = .ok (.dup, 1) := by decide +kernel
theorem dX3_pass_31 : decode cX3_pass 31 = .ok (.getfield 92, 3) := by decide +kernel
theorem dX3_pass_34 : decode cX3_pass 34 = .ok (.iload_n 1, 1) := by decide +kernel
theorem dX3_pass_35 : decode cX3_pass 35 = .ok (.iadd, 1) := by decide +kernel
theorem dX3_pass_36 : decode cX3_pass 36 = .ok (.putfield 92, 3) := by decide +kernel
theorem dX3_pass_39 : decode cX3_pass 39 = .ok (.aload_n 0, 1) := by decide +kernel
theorem dX3_pass_40 : decode cX3_pass 40 = .ok (.getfield 92, 3) := by decide +kernel
theorem dX3_pass_43 : decode cX3_pass 43 = .ok (.ireturn, 1) := by decide +kernel
theorem dX3_thing_0 : decode cX3_thing 0 = .ok (.iload_n 1, 1) := by decide +kernel
theorem dX3_thing_1 : decode cX3_thing 1 = .ok (.iconst 0, 1) := by decide +kernel
theorem dX3_thing_2 : decode cX3_thing 2 = .ok (.iconst 3, 1) := by decide +kernel
theorem dX3_thing_3 : decode cX3_thing 3 = .ok (.invokestatic 88, 3) := by decide +kernel
theorem dX3_thing_6 : decode cX3_thing 6 = .ok (.ifCond .eq 24, 3) := by decide +kernel
theorem dX3_thing_9 : decode cX3_thing 9 = .ok (.iload_n 2, 1) := by decide +kernel
theorem dX3_thing_10 : decode cX3_thing 10 = .ok (.iconst 0, 1) := by decide +kernel
theorem dX3_thing_11 : decode cX3_thing 11 = .ok (.bipush 100, 2) := by decide +kernel
theorem dX3_thing_13 : decode cX3_thing 13 = .ok (.invokestatic 88, 3) := by decide +kernel
theorem dX3_thing_16 : decode cX3_thing 16 = .ok (.ifCond .eq 14, 3) := by decide +kernel
theorem dX3_thing_19 : decode cX3_thing 19 = .ok (.iload_n 3, 1) := by decide +kernel
theorem dX3_thing_20 : decode cX3_thing 20 = .ok (.iconst 1, 1) := by decide +kernel
theorem dX3_thing_21 : decode cX3_thing 21 = .ok (.sipush 4000, 3) := by decide +kernel
theorem dX3_thing_24 : decode cX3_thing 24 = .ok (.invokestatic 88, 3) := by decide +kernel
theorem dX3_thing_27 : decode cX3_thing 27 = .ok (.ifCond .ne 6, 3) := by decide +kernel
theorem dX3_thing_30 : decode cX3_thing 30 = .ok (.bipush (-2), 2) := by decide +kernel
theorem dX3_thing_32 : decode cX3_thing 32 = .ok (.ireturn, 1) := by decide +kernel
theorem dX3_thing_33 : decode cX3_thing 33 = .ok (.iload 4, 2) := by decide +kernel
theorem dX3_thing_35 : decode cX3_thing 35 = .ok (.iconst 0, 1) := by decide +kernel
theorem dX3_thing_36 : decode cX3_thing 36 = .ok (.bipush 9, 2) := by decide +kernel
theorem dX3_thing_38 : decode cX3_thing 38 = .ok (.invokestatic 88, 3) := by decide +kernel
theorem dX3_thing_41 : decode cX3_thing 41 = .ok (.ifCond .ne 5, 3) := by decide +kernel
theorem dX3_thing_44 : decode cX3_thing 44 = .ok (.iconst (-1), 1) := by decide +kernel
theorem dX3_thing_45 : decode cX3_thing 45 = .ok (.ireturn, 1) := by decide +kernel
theorem dX3_thing_46 : decode cX3_thing 46 = .ok (.aload_n 0, 1) := by decide +kernel
theorem dX3_thing_47 : decode cX3_thing 47 = .ok (.getfield 84, 3) := by decide +kernel
theorem dX3_thing_50 : decode cX3_thing 50 = .ok (.bipush 40, 2) := by decide +kernel
theorem dX3_thing_52 : decode cX3_thing 52 = .ok (.if_icmp .ne 6, 3) := by decide +kernel
theorem dX3_thing_55 : decode cX3_thing 55 = .ok (.bipush (-4), 2) := by decide +kernel
theorem dX3_thing_57 : decode cX3_thing 57 = .ok (.ireturn, 1) := by decide +kernel
theorem dX3_thing_58 : decode cX3_thing 58 = .ok (.aload_n 0, 1) := by decide +kernel
theorem dX3_thing_59 : decode cX3_thing 59 = .ok (.getfield 7, 3) := by decide +kernel
theorem dX3_thing_62 : decode cX3_thing 62 = .ok (.aload_n 0, 1) := by decide +kernel
theorem dX3_thing_63 : decode cX3_thing 63 = .ok (.getfield 84, 3) := by decide +kernel
theorem dX3_thing_66 : decode cX3_thing 66 = .ok (.iload_n 1, 1) := by decide +kernel
theorem dX3_thing_67 : decode cX3_thing 67 = .ok (.iastore, 1) := by decide +kernel
theorem dX3_thing_68 : decode cX3_thing 68 = .ok (.aload_n 0, 1) := by decide +kernel
theorem dX3_thing_69 : decode cX3_thing 69 = .ok (.getfield 13, 3) := by decide +kernel
theorem dX3_thing_72 : decode cX3_thing 72 = .ok (.aload_n 0, 1) := by decide +kernel
theorem dX3_thing_73 : decode cX3_thing 73 = .ok (.getfield 84, 3) := by decide +kernel
theorem dX3_thing_76 : decode cX3_thing 76 = .ok (.iload_n 2, 1) := by decide +kernel
theorem dX3_thing_77 : decode cX3_thing 77 = .ok (.iastore, 1) := by decide +kernel
theorem dX3_thing_78 : decode cX3_thing 78 = .ok (.aload_n 0, 1) := by decide +kernel
theorem dX3_thing_79 : decode cX3_thing 79 = .ok (.getfield 16, 3) := by decide +kernel
theorem dX3_thing_82 : decode cX3_thing 82 = .ok (.aload_n 0, 1) := by decide +kernel
theorem dX3_thing_83 : decode cX3_thing 83 = .ok (.getfield 84, 3) := by decide +kernel
theorem dX3_thing_86 : decode cX3_thing 86 = .ok (.iload_n 3, 1) := by decide +kernel
theorem dX3_thing_87 : decode cX3_thing 87 = .ok (.iastore, 1) := by decide +kernel
theorem dX3_thing_88 : decode cX3_thing 88 = .ok (.aload_n 0, 1) := by decide +kernel
theorem dX3_thing_89 : decode cX3_thing 89 = .ok (.getfield 19, 3) := by decide +kernel
theorem dX3_thing_92 : decode cX3_thing 92 = .ok (.aload_n 0, 1) := by decide +kernel
theorem dX3_thing_93 : decode cX3_thing 93 = .ok (.getfield 84, 3) := by decide +kernel
theorem dX3_thing_96 : decode cX3_thing 96 = .ok (.iload 4, 2) := by decide +kernel
theorem dX3_thing_98 : decode cX3_thing 98 = .ok (.iastore, 1) := by decide +kernel
theorem dX3_thing_99 : decode cX3_thing 99 = .ok (.aload_n 0, 1) := by decide +kernel
theorem dX3_thing_100 : decode cX3_thing 100 = .ok (.getfield 25, 3) := by decide +kernel
theorem dX3_thing_103 : decode cX3_thing 103 = .ok (.aload_n 0, 1) := by decide +kernel
theorem dX3_thing_104 : decode cX3_thing 104 = .ok (.getfield 84, 3) := by decide +kernel
theorem dX3_thing_107 : decode cX3_thing 107 = .ok (.ldc 95, 2) := by decide +kernel
theorem dX3_thing_109 : decode cX3_thing 109 = .ok (.iastore, 1) := by decide +kernel
theorem dX3_thing_110 : decode cX3_thing 110 = .ok (.aload_n 0, 1) := by decide +kernel
theorem dX3_thing_111 : decode cX3_thing 111 = .ok (.getfield 28, 3) := by decide +kernel
theorem dX3_thing_114 : decode cX3_thing 114 = .ok (.aload_n 0, 1) := by decide +kernel
theorem dX3_thing_115 : decode cX3_thing 115 = .ok (.getfield 84, 3) := by decide +kernel
theorem dX3_thing_118 : decode cX3_thing 118 = .ok (.ldc 95, 2) := by decide +kernel
theorem dX3_thing_120 : decode cX3_thing 120 = .ok (.iastore, 1) := by decide +kernel
theorem dX3_thing_121 : decode cX3_thing 121 = .ok (.aload_n 0, 1) := by decide +kernel
theorem dX3_thing_122 : decode cX3_thing 122 = .ok (.dup, 1) := by decide +kernel
theorem dX3_thing_123 : decode cX3_thing 123 = .ok (.getfield 84, 3) := by decide +kernel
theorem dX3_thing_126 : decode cX3_thing 126 = .ok (.iconst 1, 1) := by decide +kernel
theorem dX3_thing_127 : decode cX3_thing 127 = .ok (.iadd, 1) := by decide +kernel
theorem dX3_thing_128 : decode cX3_thing 128 = .ok (.putfield 84, 3) := by decide +kernel
theorem dX3_thing_131 : decode cX3_thing 131 = .ok (.aload_n 0, 1) := by decide +kernel
theorem dX3_thing_132 : decode cX3_thing 132 = .ok (.getfield 84, 3) := by decide +kernel
theorem dX3_thing_135 : decode cX3_thing 135 = .ok (.iconst 1, 1) := by decide +kernel
theorem dX3_thing_136 : decode cX3_thing 136 = .ok (.isub, 1) := by decide +kernel
theorem dX3_thing_137 : decode cX3_thing 137 = .ok (.ireturn, 1) := by decide +kernel
theorem dX3_about_0 : decode cX3_about 0 = .ok (.aload_n 0, 1) := by decide +kernel
theorem dX3_about_1 : decode cX3_about 1 = .ok (.iload_n 1, 1) := by decide +kernel
theorem dX3_about_2 : decode cX3_about 2 = .ok (.invokevirtual 96, 3) := by decide +kernel
theorem dX3_about_5 : decode cX3_about 5 = .ok (.ifCond .ne 5, 3) := by decide +kernel
theorem dX3_about_8 : decode cX3_about 8 = .ok (.iconst (-1), 1) := by decide +kernel
theorem dX3_about_9 : decode cX3_about 9 = .ok (.ireturn, 1) := by decide +kernel
theorem dX3_about_10 : decode cX3_about 10 = .ok (.iload_n 2, 1) := by decide +kernel
theorem dX3_about_11 : decode cX3_about 11 = .ok (.tableswitch 101 0 7 #[45, 52, 59, 66, 73, 80, 87, 94], 45) := by decide +kernel
theorem dX3_about_56 : decode cX3_about 56 = .ok (.aload_n 0, 1) := by decide +kernel
theorem dX3_about_57 : decode cX3_about 57 = .ok (.getfield 7, 3) := by decide +kernel
theorem dX3_about_60 : decode cX3_about 60 = .ok (.iload_n 1, 1) := by decide +kernel
theorem dX3_about_61 : decode cX3_about 61 = .ok (.iaload, 1) := by decide +kernel
theorem dX3_about_62 : decode cX3_about 62 = .ok (.ireturn, 1) := by decide +kernel
theorem dX3_about_63 : decode cX3_about 63 = .ok (.aload_n 0, 1) := by decide +kernel
theorem dX3_about_64 : decode cX3_about 64 = .ok (.getfield 13, 3) := by decide +kernel
theorem dX3_about_67 : decode cX3_about 67 = .ok (.iload_n 1, 1) := by decide +kernel
theorem dX3_about_68 : decode cX3_about 68 = .ok (.iaload, 1) := by decide +kernel
theorem dX3_about_69 : decode cX3_about 69 = .ok (.ireturn, 1) := by decide +kernel
theorem dX3_about_70 : decode cX3_about 70 = .ok (.aload_n 0, 1) := by decide +kernel
theorem dX3_about_71 : decode cX3_about 71 = .ok (.getfield 16, 3) := by decide +kernel
theorem dX3_about_74 : decode cX3_about 74 = .ok (.iload_n 1, 1) := by decide +kernel
theorem dX3_about_75 : decode cX3_about 75 = .ok (.iaload, 1) := by decide +kernel
theorem dX3_about_76 : decode cX3_about 76 = .ok (.ireturn, 1) := by decide +kernel
theorem dX3_about_77 : decode cX3_about 77 = .ok (.aload_n 0, 1) := by decide +kernel
theorem dX3_about_78 : decode cX3_about 78 = .ok (.getfield 19, 3) := by decide +kernel
theorem dX3_about_81 : decode cX3_about 81 = .ok (.iload_n 1, 1) := by decide +kernel
theorem dX3_about_82 : decode cX3_about 82 = .ok (.iaload, 1) := by decide +kernel
theorem dX3_about_83 : decode cX3_about 83 = .ok (.ireturn, 1) := by decide +kernel
theorem dX3_about_84 : decode cX3_about 84 = .ok (.aload_n 0, 1) := by decide +kernel
theorem dX3_about_85 : decode cX3_about 85 = .ok (.getfield 22, 3) := by decide +kernel
theorem dX3_about_88 : decode cX3_about 88 = .ok (.iload_n 1, 1) := by decide +kernel
theorem dX3_about_89 : decode cX3_about 89 = .ok (.iaload, 1) := by decide +kernel
theorem dX3_about_90 : decode cX3_about 90 = .ok (.ireturn, 1) := by decide +kernel
theorem dX3_about_91 : decode cX3_about 91 = .ok (.aload_n 0, 1) := by decide +kernel
theorem dX3_about_92 : decode cX3_about 92 = .ok (.getfield 25, 3) := by decide +kernel
theorem dX3_about_95 : decode cX3_about 95 = .ok (.iload_n 1, 1) := by decide +kernel
theorem dX3_about_96 : decode cX3_about 96 = .ok (.iaload, 1) := by decide +kernel
theorem dX3_about_97 : decode cX3_about 97 = .ok (.ireturn, 1) := by decide +kernel
theorem dX3_about_98 : decode cX3_about 98 = .ok (.aload_n 0, 1) := by decide +kernel
theorem dX3_about_99 : decode cX3_about 99 = .ok (.getfield 28, 3) := by decide +kernel
theorem dX3_about_102 : decode cX3_about 102 = .ok (.iload_n 1, 1) := by decide +kernel
theorem dX3_about_103 : decode cX3_about 103 = .ok (.iaload, 1) := by decide +kernel
theorem dX3_about_104 : decode cX3_about 104 = .ok (.ireturn, 1) := by decide +kernel
theorem dX3_about_105 : decode cX3_about 105 = .ok (.aload_n 0, 1) := by decide +kernel
theorem dX3_about_106 : decode cX3_about 106 = .ok (.getfield 31, 3) := by decide +kernel
theorem dX3_about_109 : decode cX3_about 109 = .ok (.iload_n 1, 1) := by decide +kernel
theorem dX3_about_110 : decode cX3_about 110 = .ok (.iaload, 1) := by decide +kernel
theorem dX3_about_111 : decode cX3_about 111 = .ok (.ireturn, 1) := by decide +kernel
theorem dX3_about_112 : decode cX3_about 112 = .ok (.bipush (-2), 2) := by decide +kernel
theorem dX3_about_114 : decode cX3_about 114 = .ok (.ireturn, 1) := by decide +kernel
theorem dX3_draw_0 : decode cX3_draw 0 = .ok (.aload_n 0, 1) := by decide +kernel
theorem dX3_draw_1 : decode cX3_draw 1 = .ok (.iload_n 1, 1) := by decide +kernel
theorem dX3_draw_2 : decode cX3_draw 2 = .ok (.invokevirtual 96, 3) := by decide +kernel
theorem dX3_draw_5 : decode cX3_draw 5 = .ok (.ifCond .ne 5, 3) := by decide +kernel
theorem dX3_draw_8 : decode cX3_draw 8 = .ok (.iconst (-1), 1) := by decide +kernel
theorem dX3_draw_9 : decode cX3_draw 9 = .ok (.ireturn, 1) := by decide +kernel
theorem dX3_draw_10 : decode cX3_draw 10 = .ok (.iload_n 2, 1) := by decide +kernel
theorem dX3_draw_11 : decode cX3_draw 11 = .ok (.ldc 100, 2) := by decide +kernel
theorem dX3_draw_13 : decode cX3_draw 13 = .ok (.ldc 101, 2) := by decide +kernel
theorem dX3_draw_15 : decode cX3_draw 15 = .ok (.invokestatic 88, 3) := by decide +kernel
theorem dX3_draw_18 : decode cX3_draw 18 = .ok (.ifCond .ne 6, 3) := by decide +kernel
theorem dX3_draw_21 : decode cX3_draw 21 = .ok (.bipush (-2), 2) := by decide +kernel
theorem dX3_draw_23 : decode cX3_draw 23 = .ok (.ireturn, 1) := by decide +kernel
theorem dX3_draw_24 : decode cX3_draw 24 = .ok (.aload_n 0, 1) := by decide +kernel
theorem dX3_draw_25 : decode cX3_draw 25 = .ok (.getfield 7, 3) := by decide +kernel
theorem dX3_draw_28 : decode cX3_draw 28 = .ok (.iload_n 1, 1) := by decide +kernel
theorem dX3_draw_29 : decode cX3_draw 29 = .ok (.iaload, 1) := by decide +kernel
theorem dX3_draw_30 : decode cX3_draw 30 = .ok (.iconst 3, 1) := by decide +kernel
theorem dX3_draw_31 : decode cX3_draw 31 = .ok (.if_icmp .eq 6, 3) := by decide +kernel
theorem dX3_draw_34 : decode cX3_draw 34 = .ok (.bipush (-3), 2) := by decide +kernel
theorem dX3_draw_36 : decode cX3_draw 36 = .ok (.ireturn, 1) := by decide +kernel
theorem dX3_draw_37 : decode cX3_draw 37 = .ok (.aload_n 0, 1) := by decide +kernel
theorem dX3_draw_38 : decode cX3_draw 38 = .ok (.getfield 34, 3) := by decide +kernel
theorem dX3_draw_41 : decode cX3_draw 41 = .ok (.iload_n 1, 1) := by decide +kernel
theorem dX3_draw_42 : decode cX3_draw 42 = .ok (.iaload, 1) := by decide +kernel
theorem dX3_draw_43 : decode cX3_draw 43 = .ok (.iconst 3, 1) := by decide +kernel
theorem dX3_draw_44 : decode cX3_draw 44 = .ok (.if_icmp .ne 6, 3) := by decide +kernel
theorem dX3_draw_47 : decode cX3_draw 47 = .ok (.bipush (-4), 2) := by decide +kernel
theorem dX3_draw_49 : decode cX3_draw 49 = .ok (.ireturn, 1) := by decide +kernel
theorem dX3_draw_50 : decode cX3_draw 50 = .ok (.aload_n 0, 1) := by decide +kernel
theorem dX3_draw_51 : decode cX3_draw 51 = .ok (.getfield 37, 3) := by decide +kernel
theorem dX3_draw_54 : decode cX3_draw 54 = .ok (.iconst 3, 1) := by decide +kernel
theorem dX3_draw_55 : decode cX3_draw 55 = .ok (.iload_n 1, 1) := by decide +kernel
theorem dX3_draw_56 : decode cX3_draw 56 = .ok (.imul, 1) := by decide +kernel
theorem dX3_draw_57 : decode cX3_draw 57 = .ok (.aload_n 0, 1) := by decide +kernel
theorem dX3_draw_58 : decode cX3_draw 58 = .ok (.getfield 34, 3) := by decide +kernel
theorem dX3_draw_61 : decode cX3_draw 61 = .ok (.iload_n 1, 1) := by decide +kernel
theorem dX3_draw_62 : decode cX3_draw 62 = .ok (.iaload, 1) := by decide +kernel
theorem dX3_draw_63 : decode cX3_draw 63 = .ok (.iadd, 1) := by decide +kernel
theorem dX3_draw_64 : decode cX3_draw 64 = .ok (.iload_n 2, 1) := by decide +kernel
theorem dX3_draw_65 : decode cX3_draw 65 = .ok (.iastore, 1) := by decide +kernel
theorem dX3_draw_66 : decode cX3_draw 66 = .ok (.aload_n 0, 1) := by decide +kernel
theorem dX3_draw_67 : decode cX3_draw 67 = .ok (.getfield 34, 3) := by decide +kernel
theorem dX3_draw_70 : decode cX3_draw 70 = .ok (.iload_n 1, 1) := by decide +kernel
theorem dX3_draw_71 : decode cX3_draw 71 = .ok (.dup2, 1) := by decide +kernel
theorem dX3_draw_72 : decode cX3_draw 72 = .ok (.iaload, 1) := by decide +kernel
theorem dX3_draw_73 : decode cX3_draw 73 = .ok (.iconst 1, 1) := by decide +kernel
theorem dX3_draw_74 : decode cX3_draw 74 = .ok (.iadd, 1) := by decide +kernel
theorem dX3_draw_75 : decode cX3_draw 75 = .ok (.iastore, 1) := by decide +kernel
theorem dX3_draw_76 : decode cX3_draw 76 = .ok (.aload_n 0, 1) := by decide +kernel
theorem dX3_draw_77 : decode cX3_draw 77 = .ok (.getfield 34, 3) := by decide +kernel
theorem dX3_draw_80 : decode cX3_draw 80 = .ok (.iload_n 1, 1) := by decide +kernel
theorem dX3_draw_81 : decode cX3_draw 81 = .ok (.iaload, 1) := by decide +kernel
theorem dX3_draw_82 : decode cX3_draw 82 = .ok (.ireturn, 1) := by decide +kernel
theorem dX3_allow_0 : decode cX3_allow 0 = .ok (.iload_n 1, 1) := by decide +kernel
theorem dX3_allow_1 : decode cX3_allow 1 = .ok (.iconst 1, 1) := by decide +kernel
theorem dX3_allow_2 : decode cX3_allow 2 = .ok (.iconst 3, 1) := by decide +kernel
theorem dX3_allow_3 : decode cX3_allow 3 = .ok (.invokestatic 88, 3) := by decide +kernel
theorem dX3_allow_6 : decode cX3_allow 6 = .ok (.ifCond .eq 13, 3) := by decide +kernel
theorem dX3_allow_9 : decode cX3_allow 9 = .ok (.iload_n 3, 1) := by decide +kernel
theorem dX3_allow_10 : decode cX3_allow 10 = .ok (.iconst 0, 1) := by decide +kernel
theorem dX3_allow_11 : decode cX3_allow 11 = .ok (.ldc 101, 2) := by decide +kernel
theorem dX3_allow_13 : decode cX3_allow 13 = .ok (.invokestatic 88, 3) := by decide +kernel
theorem dX3_allow_16 : decode cX3_allow 16 = .ok (.ifCond .ne 6, 3) := by decide +kernel
theorem dX3_allow_19 : decode cX3_allow 19 = .ok (.bipush (-2), 2) := by decide +kernel
theorem dX3_allow_21 : decode cX3_allow 21 = .ok (.ireturn, 1) := by decide +kernel
theorem dX3_allow_22 : decode cX3_allow 22 = .ok (.iload_n 2, 1) := by decide +kernel
theorem dX3_allow_23 : decode cX3_allow 23 = .ok (.ifCond .eq 12, 3) := by decide +kernel
theorem dX3_allow_26 : decode cX3_allow 26 = .ok (.aload_n 0, 1) := by decide +kernel
theorem dX3_allow_27 : decode cX3_allow 27 = .ok (.getfield 40, 3) := by decide +kernel
theorem dX3_allow_30 : decode cX3_allow 30 = .ok (.iload_n 1, 1) := by decide +kernel
theorem dX3_allow_31 : decode cX3_allow 31 = .ok (.iaload, 1) := by decide +kernel
theorem dX3_allow_32 : decode cX3_allow 32 = .ok (.goto 9, 3) := by decide +kernel
theorem dX3_allow_35 : decode cX3_allow 35 = .ok (.aload_n 0, 1) := by decide +kernel
theorem dX3_allow_36 : decode cX3_allow 36 = .ok (.getfield 43, 3) := by decide +kernel
theorem dX3_allow_39 : decode cX3_allow 39 = .ok (.iload_n 1, 1) := by decide +kernel
theorem dX3_allow_40 : decode cX3_allow 40 = .ok (.iaload, 1) := by decide +kernel
theorem dX3_allow_41 : decode cX3_allow 41 = .ok (.istore 4, 2) := by decide +kernel
theorem dX3_allow_43 : decode cX3_allow 43 = .ok (.iload_n 2, 1) := by decide +kernel
theorem dX3_allow_44 : decode cX3_allow 44 = .ok (.ifCond .eq 13, 3) := by decide +kernel
theorem dX3_allow_47 : decode cX3_allow 47 = .ok (.aload_n 0, 1) := by decide +kernel
theorem dX3_allow_48 : decode cX3_allow 48 = .ok (.getfield 40, 3) := by decide +kernel
theorem dX3_allow_51 : decode cX3_allow 51 = .ok (.iload_n 1, 1) := by decide +kernel
theorem dX3_allow_52 : decode cX3_allow 52 = .ok (.iload_n 3, 1) := by decide +kernel
theorem dX3_allow_53 : decode cX3_allow 53 = .ok (.iastore, 1) := by decide +kernel
theorem dX3_allow_54 : decode cX3_allow 54 = .ok (.goto 10, 3) := by decide +kernel
theorem dX3_allow_57 : decode cX3_allow 57 = .ok (.aload_n 0, 1) := by decide +kernel
theorem dX3_allow_58 : decode cX3_allow 58 = .ok (.getfield 43, 3) := by decide +kernel
theorem dX3_allow_61 : decode cX3_allow 61 = .ok (.iload_n 1, 1) := by decide +kernel
theorem dX3_allow_62 : decode cX3_allow 62 = .ok (.iload_n 3, 1) := by decide +kernel
theorem dX3_allow_63 : decode cX3_allow 63 = .ok (.iastore, 1) := by decide +kernel
theorem dX3_allow_64 : decode cX3_allow 64 = .ok (.iload 4, 2) := by decide +kernel
theorem dX3_allow_66 : decode cX3_allow 66 = .ok (.ireturn, 1) := by decide +kernel
theorem dX3_isTool_0 : decode cX3_isTool 0 = .ok (.aload_n 0, 1) := by decide +kernel
theorem dX3_isTool_1 : decode cX3_isTool 1 = .ok (.getfield 7, 3) := by decide +kernel
theorem dX3_isTool_4 : decode cX3_isTool 4 = .ok (.iload_n 1, 1) := by decide +kernel
theorem dX3_isTool_5 : decode cX3_isTool 5 = .ok (.iaload, 1) := by decide +kernel
theorem dX3_isTool_6 : decode cX3_isTool 6 = .ok (.iconst 2, 1) := by decide +kernel
theorem dX3_isTool_7 : decode cX3_isTool 7 = .ok (.if_icmp .eq 13, 3) := by decide +kernel
theorem dX3_isTool_10 : decode cX3_isTool 10 = .ok (.aload_n 0, 1) := by decide +kernel
theorem dX3_isTool_11 : decode cX3_isTool 11 = .ok (.getfield 7, 3) := by decide +kernel
theorem dX3_isTool_14 : decode cX3_isTool 14 = .ok (.iload_n 1, 1) := by decide +kernel
theorem dX3_isTool_15 : decode cX3_isTool 15 = .ok (.iaload, 1) := by decide +kernel
theorem dX3_isTool_16 : decode cX3_isTool 16 = .ok (.iconst 3, 1) := by decide +kernel
theorem dX3_isTool_17 : decode cX3_isTool 17 = .ok (.if_icmp .ne 7, 3) := by decide +kernel
theorem dX3_isTool_20 : decode cX3_isTool 20 = .ok (.iconst 1, 1) := by decide +kernel
theorem dX3_isTool_21 : decode cX3_isTool 21 = .ok (.goto 4, 3) := by decide +kernel
theorem dX3_isTool_24 : decode cX3_isTool 24 = .ok (.iconst 0, 1) := by decide +kernel
theorem dX3_isTool_25 : decode cX3_isTool 25 = .ok (.ireturn, 1) := by decide +kernel
theorem dX3_move_0 : decode cX3_move 0 = .ok (.aload_n 0, 1) := by decide +kernel
theorem dX3_move_1 : decode cX3_move 1 = .ok (.iload_n 1, 1) := by decide +kernel
theorem dX3_move_2 : decode cX3_move 2 = .ok (.invokevirtual 96, 3) := by decide +kernel
theorem dX3_move_5 : decode cX3_move 5 = .ok (.ifCond .eq 13, 3) := by decide +kernel
theorem dX3_move_8 : decode cX3_move 8 = .ok (.iload_n 2, 1) := by decide +kernel
theorem dX3_move_9 : decode cX3_move 9 = .ok (.iconst 0, 1) := by decide +kernel
theorem dX3_move_10 : decode cX3_move 10 = .ok (.bipush 9, 2) := by decide +kernel
theorem dX3_move_12 : decode cX3_move 12 = .ok (.invokestatic 88, 3) := by decide +kernel
theorem dX3_move_15 : decode cX3_move 15 = .ok (.ifCond .ne 5, 3) := by decide +kernel
theorem dX3_move_18 : decode cX3_move 18 = .ok (.iconst (-1), 1) := by decide +kernel
theorem dX3_move_19 : decode cX3_move 19 = .ok (.ireturn, 1) := by decide +kernel
theorem dX3_move_20 : decode cX3_move 20 = .ok (.aload_n 0, 1) := by decide +kernel
theorem dX3_move_21 : decode cX3_move 21 = .ok (.iload_n 1, 1) := by decide +kernel
theorem dX3_move_22 : decode cX3_move 22 = .ok (.invokevirtual 102, 3) := by decide +kernel
theorem dX3_move_25 : decode cX3_move 25 = .ok (.ifCond .ne 6, 3) := by decide +kernel
theorem dX3_move_28 : decode cX3_move 28 = .ok (.bipush (-3), 2) := by decide +kernel
theorem dX3_move_30 : decode cX3_move 30 = .ok (.ireturn, 1) := by decide +kernel
theorem dX3_move_31 : decode cX3_move 31 = .ok (.aload_n 0, 1) := by decide +kernel
theorem dX3_move_32 : decode cX3_move 32 = .ok (.getfield 19, 3) := by decide +kernel
theorem dX3_move_35 : decode cX3_move 35 = .ok (.iload_n 1, 1) := by decide +kernel
theorem dX3_move_36 : decode cX3_move 36 = .ok (.iaload, 1) := by decide +kernel
theorem dX3_move_37 : decode cX3_move 37 = .ok (.istore_n 3, 1) := by decide +kernel
theorem dX3_move_38 : decode cX3_move 38 = .ok (.aload_n 0, 1) := by decide +kernel
theorem dX3_move_39 : decode cX3_move 39 = .ok (.getfield 19, 3) := by decide +kernel
theorem dX3_move_42 : decode cX3_move 42 = .ok (.iload_n 1, 1) := by decide +kernel
theorem dX3_move_43 : decode cX3_move 43 = .ok (.iload_n 2, 1) := by decide +kernel
theorem dX3_move_44 : decode cX3_move 44 = .ok (.iastore, 1) := by decide +kernel
theorem dX3_move_45 : decode cX3_move 45 = .ok (.aload_n 0, 1) := by decide +kernel
theorem dX3_move_46 : decode cX3_move 46 = .ok (.getfield 28, 3) := by decide +kernel
theorem dX3_move_49 : decode cX3_move 49 = .ok (.iload_n 1, 1) := by decide +kernel
theorem dX3_move_50 : decode cX3_move 50 = .ok (.ldc 95, 2) := by decide +kernel
theorem dX3_move_52 : decode cX3_move 52 = .ok (.iastore, 1) := by decide +kernel
theorem dX3_move_53 : decode cX3_move 53 = .ok (.iload_n 3, 1) := by decide +kernel
theorem dX3_move_54 : decode cX3_move 54 = .ok (.ireturn, 1) := by decide +kernel
theorem dX3_settledNow_0 : decode cX3_settledNow 0 = .ok (.aload_n 0, 1) := by decide +kernel
theorem dX3_settledNow_1 : decode cX3_settledNow 1 = .ok (.getfield 7, 3) := by decide +kernel
theorem dX3_settledNow_4 : decode cX3_settledNow 4 = .ok (.iload_n 1, 1) := by decide +kernel
theorem dX3_settledNow_5 : decode cX3_settledNow 5 = .ok (.iaload, 1) := by decide +kernel
theorem dX3_settledNow_6 : decode cX3_settledNow 6 = .ok (.ifCond .eq 28, 3) := by decide +kernel
theorem dX3_settledNow_9 : decode cX3_settledNow 9 = .ok (.aload_n 0, 1) := by decide +kernel
theorem dX3_settledNow_10 : decode cX3_settledNow 10 = .ok (.getfield 25, 3) := by decide +kernel
theorem dX3_settledNow_13 : decode cX3_settledNow 13 = .ok (.iload_n 1, 1) := by decide +kernel
theorem dX3_settledNow_14 : decode cX3_settledNow 14 = .ok (.iaload, 1) := by decide +kernel
theorem dX3_settledNow_15 : decode cX3_settledNow 15 = .ok (.ldc 95, 2) := by decide +kernel
theorem dX3_settledNow_17 : decode cX3_settledNow 17 = .ok (.if_icmp .eq 21, 3) := by decide +kernel
theorem dX3_settledNow_20 : decode cX3_settledNow 20 = .ok (.aload_n 0, 1) := by decide +kernel
theorem dX3_settledNow_21 : decode cX3_settledNow 21 = .ok (.getfield 65, 3) := by decide +kernel
theorem dX3_settledNow_24 : decode cX3_settledNow 24 = .ok (.aload_n 0, 1) := by decide +kernel
theorem dX3_settledNow_25 : decode cX3_settledNow 25 = .ok (.getfield 25, 3) := by decide +kernel
theorem dX3_settledNow_28 : decode cX3_settledNow 28 = .ok (.iload_n 1, 1) := by decide +kernel
theorem dX3_settledNow_29 : decode cX3_settledNow 29 = .ok (.iaload, 1) := by decide +kernel
theorem dX3_settledNow_30 : decode cX3_settledNow 30 = .ok (.baload, 1) := by decide +kernel
theorem dX3_settledNow_31 : decode cX3_settledNow 31 = .ok (.ifCond .eq 7, 3) := by decide +kernel
theorem dX3_settledNow_34 : decode cX3_settledNow 34 = .ok (.iconst 1, 1) := by decide +kernel
theorem dX3_settledNow_35 : decode cX3_settledNow 35 = .ok (.goto 4, 3) := by decide +kernel
theorem dX3_settledNow_38 : decode cX3_settledNow 38 = .ok (.iconst 0, 1) := by decide +kernel
theorem dX3_settledNow_39 : decode cX3_settledNow 39 = .ok (.ireturn, 1) := by decide +kernel
theorem dX3_dueNow_0 : decode cX3_dueNow 0 = .ok (.aload_n 0, 1) := by decide +kernel
theorem dX3_dueNow_1 : decode cX3_dueNow 1 = .ok (.getfield 7, 3) := by decide +kernel
theorem dX3_dueNow_4 : decode cX3_dueNow 4 = .ok (.iload_n 1, 1) := by decide +kernel
theorem dX3_dueNow_5 : decode cX3_dueNow 5 = .ok (.iaload, 1) := by decide +kernel
theorem dX3_dueNow_6 : decode cX3_dueNow 6 = .ok (.ifCond .eq 43, 3) := by decide +kernel
theorem dX3_dueNow_9 : decode cX3_dueNow 9 = .ok (.aload_n 0, 1) := by decide +kernel
theorem dX3_dueNow_10 : decode cX3_dueNow 10 = .ok (.getfield 25, 3) := by decide +kernel
theorem dX3_dueNow_13 : decode cX3_dueNow 13 = .ok (.iload_n 1, 1) := by decide +kernel
theorem dX3_dueNow_14 : decode cX3_dueNow 14 = .ok (.iaload, 1) := by decide +kernel
theorem dX3_dueNow_15 : decode cX3_dueNow 15 = .ok (.ldc 95, 2) := by decide +kernel
theorem dX3_dueNow_17 : decode cX3_dueNow 17 = .ok (.if_icmp .eq 28, 3) := by decide +kernel
theorem dX3_dueNow_20 : decode cX3_dueNow 20 = .ok (.aload_n 0, 1) := by decide +kernel
theorem dX3_dueNow_21 : decode cX3_dueNow 21 = .ok (.getfield 92, 3) := by decide +kernel
theorem dX3_dueNow_24 : decode cX3_dueNow 24 = .ok (.aload_n 0, 1) := by decide +kernel
theorem dX3_dueNow_25 : decode cX3_dueNow 25 = .ok (.getfield 56, 3) := by decide +kernel
theorem dX3_dueNow_28 : decode cX3_dueNow 28 = .ok (.aload_n 0, 1) := by decide +kernel
theorem dX3_dueNow_29 : decode cX3_dueNow 29 = .ok (.getfield 25, 3) := by decide +kernel
theorem dX3_dueNow_32 : decode cX3_dueNow 32 = .ok (.iload_n 1, 1) := by decide +kernel
theorem dX3_dueNow_33 : decode cX3_dueNow 33 = .ok (.iaload, 1) := by decide +kernel
theorem dX3_dueNow_34 : decode cX3_dueNow 34 = .ok (.iaload, 1) := by decide +kernel
theorem dX3_dueNow_35 : decode cX3_dueNow 35 = .ok (.isub, 1) := by decide +kernel
theorem dX3_dueNow_36 : decode cX3_dueNow 36 = .ok (.aload_n 0, 1) := by decide +kernel
theorem dX3_dueNow_37 : decode cX3_dueNow 37 = .ok (.getfield 16, 3) := by decide +kernel
theorem dX3_dueNow_40 : decode cX3_dueNow 40 = .ok (.iload_n 1, 1) := by decide +kernel
theorem dX3_dueNow_41 : decode cX3_dueNow 41 = .ok (.iaload, 1) := by decide +kernel
theorem dX3_dueNow_42 : decode cX3_dueNow 42 = .ok (.if_icmp .le 7, 3) := by decide +kernel
theorem dX3_dueNow_45 : decode cX3_dueNow 45 = .ok (.iconst 1, 1) := by decide +kernel
theorem dX3_dueNow_46 : decode cX3_dueNow 46 = .ok (.goto 4, 3) := by decide +kernel
theorem dX3_dueNow_49 : decode cX3_dueNow 49 = .ok (.iconst 0, 1) := by decide +kernel
theorem dX3_dueNow_50 : decode cX3_dueNow 50 = .ok (.ireturn, 1) := by decide +kernel
theorem dX3_errorOf_0 : decode cX3_errorOf 0 = .ok (.aload_n 0, 1) := by decide +kernel
theorem dX3_errorOf_1 : decode cX3_errorOf 1 = .ok (.getfield 25, 3) := by decide +kernel
theorem dX3_errorOf_4 : decode cX3_errorOf 4 = .ok (.iload_n 1, 1) := by decide +kernel
theorem dX3_errorOf_5 : decode cX3_errorOf 5 = .ok (.iaload, 1) := by decide +kernel
theorem dX3_errorOf_6 : decode cX3_errorOf 6 = .ok (.ldc 95, 2) := by decide +kernel
theorem dX3_errorOf_8 : decode cX3_errorOf 8 = .ok (.if_icmp .ne 7, 3) := by decide +kernel
theorem dX3_errorOf_11 : decode cX3_errorOf 11 = .ok (.iconst 0, 1) := by decide +kernel
theorem dX3_errorOf_12 : decode cX3_errorOf 12 = .ok (.goto 14, 3) := by decide +kernel
theorem dX3_errorOf_15 : decode cX3_errorOf 15 = .ok (.aload_n 0, 1) := by decide +kernel
theorem dX3_errorOf_16 : decode cX3_errorOf 16 = .ok (.getfield 59, 3) := by decide +kernel
theorem dX3_errorOf_19 : decode cX3_errorOf 19 = .ok (.aload_n 0, 1) := by decide +kernel
theorem dX3_errorOf_20 : decode cX3_errorOf 20 = .ok (.getfield 25, 3) := by decide +kernel
theorem dX3_errorOf_23 : decode cX3_errorOf 23 = .ok (.iload_n 1, 1) := by decide +kernel
theorem dX3_errorOf_24 : decode cX3_errorOf 24 = .ok (.iaload, 1) := by decide +kernel
theorem dX3_errorOf_25 : decode cX3_errorOf 25 = .ok (.iaload, 1) := by decide +kernel
theorem dX3_errorOf_26 : decode cX3_errorOf 26 = .ok (.ireturn, 1) := by decide +kernel
theorem dX3_spanOn_0 : decode cX3_spanOn 0 = .ok (.aload_n 0, 1) := by decide +kernel
theorem dX3_spanOn_1 : decode cX3_spanOn 1 = .ok (.getfield 25, 3) := by decide +kernel
theorem dX3_spanOn_4 : decode cX3_spanOn 4 = .ok (.iload_n 1, 1) := by decide +kernel
theorem dX3_spanOn_5 : decode cX3_spanOn 5 = .ok (.iaload, 1) := by decide +kernel
theorem dX3_spanOn_6 : decode cX3_spanOn 6 = .ok (.ldc 95, 2) := by decide +kernel
theorem dX3_spanOn_8 : decode cX3_spanOn 8 = .ok (.if_icmp .ne 7, 3) := by decide +kernel
theorem dX3_spanOn_11 : decode cX3_spanOn 11 = .ok (.iconst 0, 1) := by decide +kernel
theorem dX3_spanOn_12 : decode cX3_spanOn 12 = .ok (.goto 41, 3) := by decide +kernel
theorem dX3_spanOn_15 : decode cX3_spanOn 15 = .ok (.aload_n 0, 1) := by decide +kernel
theorem dX3_spanOn_16 : decode cX3_spanOn 16 = .ok (.getfield 62, 3) := by decide +kernel
theorem dX3_spanOn_19 : decode cX3_spanOn 19 = .ok (.aload_n 0, 1) := by decide +kernel
theorem dX3_spanOn_20 : decode cX3_spanOn 20 = .ok (.getfield 25, 3) := by decide +kernel
theorem dX3_spanOn_23 : decode cX3_spanOn 23 = .ok (.iload_n 1, 1) := by decide +kernel
theorem dX3_spanOn_24 : decode cX3_spanOn 24 = .ok (.iaload, 1) := by decide +kernel
theorem dX3_spanOn_25 : decode cX3_spanOn 25 = .ok (.iaload, 1) := by decide +kernel
theorem dX3_spanOn_26 : decode cX3_spanOn 26 = .ok (.aload_n 0, 1) := by decide +kernel
theorem dX3_spanOn_27 : decode cX3_spanOn 27 = .ok (.getfield 13, 3) := by decide +kernel
theorem dX3_spanOn_30 : decode cX3_spanOn 30 = .ok (.iload_n 1, 1) := by decide +kernel
theorem dX3_spanOn_31 : decode cX3_spanOn 31 = .ok (.iaload, 1) := by decide +kernel
theorem dX3_spanOn_32 : decode cX3_spanOn 32 = .ok (.iload_n 2, 1) := by decide +kernel
theorem dX3_spanOn_33 : decode cX3_spanOn 33 = .ok (.aload_n 0, 1) := by decide +kernel
theorem dX3_spanOn_34 : decode cX3_spanOn 34 = .ok (.getfield 56, 3) := by decide +kernel
theorem dX3_spanOn_37 : decode cX3_spanOn 37 = .ok (.aload_n 0, 1) := by decide +kernel
theorem dX3_spanOn_38 : decode cX3_spanOn 38 = .ok (.getfield 25, 3) := by decide +kernel
theorem dX3_spanOn_41 : decode cX3_spanOn 41 = .ok (.iload_n 1, 1) := by decide +kernel
theorem dX3_spanOn_42 : decode cX3_spanOn 42 = .ok (.iaload, 1) := by decide +kernel
theorem dX3_spanOn_43 : decode cX3_spanOn 43 = .ok (.iaload, 1) := by decide +kernel
theorem dX3_spanOn_44 : decode cX3_spanOn 44 = .ok (.isub, 1) := by decide +kernel
theorem dX3_spanOn_45 : decode cX3_spanOn 45 = .ok (.imul, 1) := by decide +kernel
theorem dX3_spanOn_46 : decode cX3_spanOn 46 = .ok (.bipush 99, 2) := by decide +kernel
theorem dX3_spanOn_48 : decode cX3_spanOn 48 = .ok (.iadd, 1) := by decide +kernel
theorem dX3_spanOn_49 : decode cX3_spanOn 49 = .ok (.bipush 100, 2) := by decide +kernel
theorem dX3_spanOn_51 : decode cX3_spanOn 51 = .ok (.idiv, 1) := by decide +kernel
theorem dX3_spanOn_52 : decode cX3_spanOn 52 = .ok (.iadd, 1) := by decide +kernel
theorem dX3_spanOn_53 : decode cX3_spanOn 53 = .ok (.ireturn, 1) := by decide +kernel
theorem dX3_middle_0 : decode cX3_middle 0 = .ok (.aload_n 0, 1) := by decide +kernel
theorem dX3_middle_1 : decode cX3_middle 1 = .ok (.getfield 37, 3) := by decide +kernel
theorem dX3_middle_4 : decode cX3_middle 4 = .ok (.iconst 3, 1) := by decide +kernel
theorem dX3_middle_5 : decode cX3_middle 5 = .ok (.iload_n 1, 1) := by decide +kernel
theorem dX3_middle_6 : decode cX3_middle 6 = .ok (.imul, 1) := by decide +kernel
theorem dX3_middle_7 : decode cX3_middle 7 = .ok (.iaload, 1) := by decide +kernel
theorem dX3_middle_8 : decode cX3_middle 8 = .ok (.istore_n 2, 1) := by decide +kernel
theorem dX3_middle_9 : decode cX3_middle 9 = .ok (.aload_n 0, 1) := by decide +kernel
theorem dX3_middle_10 : decode cX3_middle 10 = .ok (.getfield 37, 3) := by decide +kernel
theorem dX3_middle_13 : decode cX3_middle 13 = .ok (.iconst 3, 1) := by decide +kernel
theorem dX3_middle_14 : decode cX3_middle 14 = .ok (.iload_n 1, 1) := by decide +kernel
theorem dX3_middle_15 : decode cX3_middle 15 = .ok (.imul, 1) := by decide +kernel
theorem dX3_middle_16 : decode cX3_middle 16 = .ok (.iconst 1, 1) := by decide +kernel
theorem dX3_middle_17 : decode cX3_middle 17 = .ok (.iadd, 1) := by decide +kernel
theorem dX3_middle_18 : decode cX3_middle 18 = .ok (.iaload, 1) := by decide +kernel
theorem dX3_middle_19 : decode cX3_middle 19 = .ok (.istore_n 3, 1) := by decide +kernel
theorem dX3_middle_20 : decode cX3_middle 20 = .ok (.aload_n 0, 1) := by decide +kernel
theorem dX3_middle_21 : decode cX3_middle 21 = .ok (.getfield 37, 3) := by decide +kernel
theorem dX3_middle_24 : decode cX3_middle 24 = .ok (.iconst 3, 1) := by decide +kernel
theorem dX3_middle_25 : decode cX3_middle 25 = .ok (.iload_n 1, 1) := by decide +kernel
theorem dX3_middle_26 : decode cX3_middle 26 = .ok (.imul, 1) := by decide +kernel
theorem dX3_middle_27 : decode cX3_middle 27 = .ok (.iconst 2, 1) := by decide +kernel
theorem dX3_middle_28 : decode cX3_middle 28 = .ok (.iadd, 1) := by decide +kernel
theorem dX3_middle_29 : decode cX3_middle 29 = .ok (.iaload, 1) := by decide +kernel
theorem dX3_middle_30 : decode cX3_middle 30 = .ok (.istore 4, 2) := by decide +kernel
theorem dX3_middle_32 : decode cX3_middle 32 = .ok (.iload_n 2, 1) := by decide +kernel
theorem dX3_middle_33 : decode cX3_middle 33 = .ok (.iload_n 3, 1) := by decide +kernel
theorem dX3_middle_34 : decode cX3_middle 34 = .ok (.if_icmp .le 7, 3) := by decide +kernel
theorem dX3_middle_37 : decode cX3_middle 37 = .ok (.iload_n 2, 1) := by decide +kernel
theorem dX3_middle_38 : decode cX3_middle 38 = .ok (.goto 4, 3) := by decide +kernel
theorem dX3_middle_41 : decode cX3_middle 41 = .ok (.iload_n 3, 1) := by decide +kernel
theorem dX3_middle_42 : decode cX3_middle 42 = .ok (.istore 5, 2) := by decide +kernel
theorem dX3_middle_44 : decode cX3_middle 44 = .ok (.iload_n 2, 1) := by decide +kernel
theorem dX3_middle_45 : decode cX3_middle 45 = .ok (.iload_n 3, 1) := by decide +kernel
theorem dX3_middle_46 : decode cX3_middle 46 = .ok (.if_icmp .le 7, 3) := by decide +kernel
theorem dX3_middle_49 : decode cX3_middle 49 = .ok (.iload_n 3, 1) := by decide +kernel
theorem dX3_middle_50 : decode cX3_middle 50 = .ok (.goto 4, 3) := by decide +kernel
theorem dX3_middle_53 : decode cX3_middle 53 = .ok (.iload_n 2, 1) := by decide +kernel
theorem dX3_middle_54 : decode cX3_middle 54 = .ok (.istore 6, 2) := by decide +kernel
theorem dX3_middle_56 : decode cX3_middle 56 = .ok (.iload 4, 2) := by decide +kernel
theorem dX3_middle_58 : decode cX3_middle 58 = .ok (.iload 5, 2) := by decide +kernel
theorem dX3_middle_60 : decode cX3_middle 60 = .ok (.if_icmp .le 8, 3) := by decide +kernel
theorem dX3_middle_63 : decode cX3_middle 63 = .ok (.iload 5, 2) := by decide +kernel
theorem dX3_middle_65 : decode cX3_middle 65 = .ok (.goto 17, 3) := by decide +kernel
theorem dX3_middle_68 : decode cX3_middle 68 = .ok (.iload 4, 2) := by decide +kernel
theorem dX3_middle_70 : decode cX3_middle 70 = .ok (.iload 6, 2) := by decide +kernel
theorem dX3_middle_72 : decode cX3_middle 72 = .ok (.if_icmp .ge 8, 3) := by decide +kernel
theorem dX3_middle_75 : decode cX3_middle 75 = .ok (.iload 6, 2) := by decide +kernel
theorem dX3_middle_77 : decode cX3_middle 77 = .ok (.goto 5, 3) := by decide +kernel
theorem dX3_middle_80 : decode cX3_middle 80 = .ok (.iload 4, 2) := by decide +kernel
theorem dX3_middle_82 : decode cX3_middle 82 = .ok (.ireturn, 1) := by decide +kernel
theorem dX3_range_0 : decode cX3_range 0 = .ok (.aload_n 0, 1) := by decide +kernel
theorem dX3_range_1 : decode cX3_range 1 = .ok (.getfield 37, 3) := by decide +kernel
theorem dX3_range_4 : decode cX3_range 4 = .ok (.iconst 3, 1) := by decide +kernel
theorem dX3_range_5 : decode cX3_range 5 = .ok (.iload_n 1, 1) := by decide +kernel
theorem dX3_range_6 : decode cX3_range 6 = .ok (.imul, 1) := by decide +kernel
theorem dX3_range_7 : decode cX3_range 7 = .ok (.iaload, 1) := by decide +kernel
theorem dX3_range_8 : decode cX3_range 8 = .ok (.istore_n 2, 1) := by decide +kernel
theorem dX3_range_9 : decode cX3_range 9 = .ok (.iload_n 2, 1) := by decide +kernel
theorem dX3_range_10 : decode cX3_range 10 = .ok (.istore_n 3, 1) := by decide +kernel
theorem dX3_range_11 : decode cX3_range 11 = .ok (.iconst 1, 1) := by decide +kernel
theorem dX3_range_12 : decode cX3_range 12 = .ok (.istore 4, 2) := by decide +kernel
theorem dX3_range_14 : decode cX3_range 14 = .ok (.iload 4, 2) := by decide +kernel
theorem dX3_range_16 : decode cX3_range 16 = .ok (.iconst 3, 1) := by decide +kernel
theorem dX3_range_17 : decode cX3_range 17 = .ok (.if_icmp .ge 71, 3) := by decide +kernel
theorem dX3_range_20 : decode cX3_range 20 = .ok (.aload_n 0, 1) := by decide +kernel
theorem dX3_range_21 : decode cX3_range 21 = .ok (.getfield 37, 3) := by decide +kernel
theorem dX3_range_24 : decode cX3_range 24 = .ok (.iconst 3, 1) := by decide +kernel
end
section
theorem dX3_range_25 : decode cX3_range 25 = .ok (.iload_n 1, 1) := by decide +kernel
theorem dX3_range_26 : decode cX3_range 26 = .ok (.imul, 1) := by decide +kernel
theorem dX3_range_27 : decode cX3_range 27 = .ok (.iload 4, 2) := by decide +kernel
theorem dX3_range_29 : decode cX3_range 29 = .ok (.iadd, 1) := by decide +kernel
theorem dX3_range_30 : decode cX3_range 30 = .ok (.iaload, 1) := by decide +kernel
theorem dX3_range_31 : decode cX3_range 31 = .ok (.iload_n 2, 1) := by decide +kernel
theorem dX3_range_32 : decode cX3_range 32 = .ok (.if_icmp .le 17, 3) := by decide +kernel
theorem dX3_range_35 : decode cX3_range 35 = .ok (.aload_n 0, 1) := by decide +kernel
theorem dX3_range_36 : decode cX3_range 36 = .ok (.getfield 37, 3) := by decide +kernel
theorem dX3_range_39 : decode cX3_range 39 = .ok (.iconst 3, 1) := by decide +kernel
theorem dX3_range_40 : decode cX3_range 40 = .ok (.iload_n 1, 1) := by decide +kernel
theorem dX3_range_41 : decode cX3_range 41 = .ok (.imul, 1) := by decide +kernel
theorem dX3_range_42 : decode cX3_range 42 = .ok (.iload 4, 2) := by decide +kernel
theorem dX3_range_44 : decode cX3_range 44 = .ok (.iadd, 1) := by decide +kernel
theorem dX3_range_45 : decode cX3_range 45 = .ok (.iaload, 1) := by decide +kernel
theorem dX3_range_46 : decode cX3_range 46 = .ok (.goto 4, 3) := by decide +kernel
theorem dX3_range_49 : decode cX3_range 49 = .ok (.iload_n 2, 1) := by decide +kernel
theorem dX3_range_50 : decode cX3_range 50 = .ok (.istore_n 2, 1) := by decide +kernel
theorem dX3_range_51 : decode cX3_range 51 = .ok (.aload_n 0, 1) := by decide +kernel
theorem dX3_range_52 : decode cX3_range 52 = .ok (.getfield 37, 3) := by decide +kernel
theorem dX3_range_55 : decode cX3_range 55 = .ok (.iconst 3, 1) := by decide +kernel
theorem dX3_range_56 : decode cX3_range 56 = .ok (.iload_n 1, 1) := by decide +kernel
theorem dX3_range_57 : decode cX3_range 57 = .ok (.imul, 1) := by decide +kernel
theorem dX3_range_58 : decode cX3_range 58 = .ok (.iload 4, 2) := by decide +kernel
theorem dX3_range_60 : decode cX3_range 60 = .ok (.iadd, 1) := by decide +kernel
theorem dX3_range_61 : decode cX3_range 61 = .ok (.iaload, 1) := by decide +kernel
theorem dX3_range_62 : decode cX3_range 62 = .ok (.iload_n 3, 1) := by decide +kernel
theorem dX3_range_63 : decode cX3_range 63 = .ok (.if_icmp .ge 17, 3) := by decide +kernel
theorem dX3_range_66 : decode cX3_range 66 = .ok (.aload_n 0, 1) := by decide +kernel
theorem dX3_range_67 : decode cX3_range 67 = .ok (.getfield 37, 3) := by decide +kernel
theorem dX3_range_70 : decode cX3_range 70 = .ok (.iconst 3, 1) := by decide +kernel
theorem dX3_range_71 : decode cX3_range 71 = .ok (.iload_n 1, 1) := by decide +kernel
theorem dX3_range_72 : decode cX3_range 72 = .ok (.imul, 1) := by decide +kernel
theorem dX3_range_73 : decode cX3_range 73 = .ok (.iload 4, 2) := by decide +kernel
theorem dX3_range_75 : decode cX3_range 75 = .ok (.iadd, 1) := by decide +kernel
theorem dX3_range_76 : decode cX3_range 76 = .ok (.iaload, 1) := by decide +kernel
theorem dX3_range_77 : decode cX3_range 77 = .ok (.goto 4, 3) := by decide +kernel
theorem dX3_range_80 : decode cX3_range 80 = .ok (.iload_n 3, 1) := by decide +kernel
theorem dX3_range_81 : decode cX3_range 81 = .ok (.istore_n 3, 1) := by decide +kernel
theorem dX3_range_82 : decode cX3_range 82 = .ok (.iinc 4 1, 3) := by decide +kernel
theorem dX3_range_85 : decode cX3_range 85 = .ok (.goto (-71), 3) := by decide +kernel
theorem dX3_range_88 : decode cX3_range 88 = .ok (.iload_n 2, 1) := by decide +kernel
theorem dX3_range_89 : decode cX3_range 89 = .ok (.iload_n 3, 1) := by decide +kernel
theorem dX3_range_90 : decode cX3_range 90 = .ok (.isub, 1) := by decide +kernel
theorem dX3_range_91 : decode cX3_range 91 = .ok (.ireturn, 1) := by decide +kernel
theorem dX3_trial_0 : decode cX3_trial 0 = .ok (.aload_n 0, 1) := by decide +kernel
theorem dX3_trial_1 : decode cX3_trial 1 = .ok (.iload_n 1, 1) := by decide +kernel
theorem dX3_trial_2 : decode cX3_trial 2 = .ok (.invokevirtual 96, 3) := by decide +kernel
theorem dX3_trial_5 : decode cX3_trial 5 = .ok (.ifCond .eq 11, 3) := by decide +kernel
theorem dX3_trial_8 : decode cX3_trial 8 = .ok (.aload_n 0, 1) := by decide +kernel
theorem dX3_trial_9 : decode cX3_trial 9 = .ok (.iload_n 2, 1) := by decide +kernel
theorem dX3_trial_10 : decode cX3_trial 10 = .ok (.invokevirtual 96, 3) := by decide +kernel
theorem dX3_trial_13 : decode cX3_trial 13 = .ok (.ifCond .ne 5, 3) := by decide +kernel
theorem dX3_trial_16 : decode cX3_trial 16 = .ok (.iconst (-1), 1) := by decide +kernel
theorem dX3_trial_17 : decode cX3_trial 17 = .ok (.ireturn, 1) := by decide +kernel
theorem dX3_trial_18 : decode cX3_trial 18 = .ok (.aload_n 0, 1) := by decide +kernel
theorem dX3_trial_19 : decode cX3_trial 19 = .ok (.getfield 7, 3) := by decide +kernel
theorem dX3_trial_22 : decode cX3_trial 22 = .ok (.iload_n 1, 1) := by decide +kernel
theorem dX3_trial_23 : decode cX3_trial 23 = .ok (.iaload, 1) := by decide +kernel
theorem dX3_trial_24 : decode cX3_trial 24 = .ok (.iconst 3, 1) := by decide +kernel
theorem dX3_trial_25 : decode cX3_trial 25 = .ok (.if_icmp .ne 7, 3) := by decide +kernel
theorem dX3_trial_28 : decode cX3_trial 28 = .ok (.iconst 1, 1) := by decide +kernel
theorem dX3_trial_29 : decode cX3_trial 29 = .ok (.goto 4, 3) := by decide +kernel
theorem dX3_trial_32 : decode cX3_trial 32 = .ok (.iconst 0, 1) := by decide +kernel
theorem dX3_trial_33 : decode cX3_trial 33 = .ok (.istore 5, 2) := by decide +kernel
theorem dX3_trial_35 : decode cX3_trial 35 = .ok (.iload 5, 2) := by decide +kernel
theorem dX3_trial_37 : decode cX3_trial 37 = .ok (.ifCond .ne 14, 3) := by decide +kernel
theorem dX3_trial_40 : decode cX3_trial 40 = .ok (.iload_n 3, 1) := by decide +kernel
theorem dX3_trial_41 : decode cX3_trial 41 = .ok (.ldc 100, 2) := by decide +kernel
theorem dX3_trial_43 : decode cX3_trial 43 = .ok (.ldc 101, 2) := by decide +kernel
theorem dX3_trial_45 : decode cX3_trial 45 = .ok (.invokestatic 88, 3) := by decide +kernel
theorem dX3_trial_48 : decode cX3_trial 48 = .ok (.ifCond .eq 14, 3) := by decide +kernel
theorem dX3_trial_51 : decode cX3_trial 51 = .ok (.iload 4, 2) := by decide +kernel
theorem dX3_trial_53 : decode cX3_trial 53 = .ok (.iconst 0, 1) := by decide +kernel
theorem dX3_trial_54 : decode cX3_trial 54 = .ok (.ldc 101, 2) := by decide +kernel
theorem dX3_trial_56 : decode cX3_trial 56 = .ok (.invokestatic 88, 3) := by decide +kernel
theorem dX3_trial_59 : decode cX3_trial 59 = .ok (.ifCond .ne 6, 3) := by decide +kernel
theorem dX3_trial_62 : decode cX3_trial 62 = .ok (.bipush (-2), 2) := by decide +kernel
theorem dX3_trial_64 : decode cX3_trial 64 = .ok (.ireturn, 1) := by decide +kernel
theorem dX3_trial_65 : decode cX3_trial 65 = .ok (.aload_n 0, 1) := by decide +kernel
theorem dX3_trial_66 : decode cX3_trial 66 = .ok (.getfield 7, 3) := by decide +kernel
theorem dX3_trial_69 : decode cX3_trial 69 = .ok (.iload_n 1, 1) := by decide +kernel
theorem dX3_trial_70 : decode cX3_trial 70 = .ok (.iaload, 1) := by decide +kernel
theorem dX3_trial_71 : decode cX3_trial 71 = .ok (.ifCond .eq 37, 3) := by decide +kernel
theorem dX3_trial_74 : decode cX3_trial 74 = .ok (.iload 5, 2) := by decide +kernel
theorem dX3_trial_76 : decode cX3_trial 76 = .ok (.ifCond .eq 13, 3) := by decide +kernel
theorem dX3_trial_79 : decode cX3_trial 79 = .ok (.aload_n 0, 1) := by decide +kernel
theorem dX3_trial_80 : decode cX3_trial 80 = .ok (.getfield 34, 3) := by decide +kernel
theorem dX3_trial_83 : decode cX3_trial 83 = .ok (.iload_n 1, 1) := by decide +kernel
theorem dX3_trial_84 : decode cX3_trial 84 = .ok (.iaload, 1) := by decide +kernel
theorem dX3_trial_85 : decode cX3_trial 85 = .ok (.iconst 3, 1) := by decide +kernel
theorem dX3_trial_86 : decode cX3_trial 86 = .ok (.if_icmp .ne 22, 3) := by decide +kernel
theorem dX3_trial_89 : decode cX3_trial 89 = .ok (.iload_n 2, 1) := by decide +kernel
theorem dX3_trial_90 : decode cX3_trial 90 = .ok (.iload_n 1, 1) := by decide +kernel
theorem dX3_trial_91 : decode cX3_trial 91 = .ok (.if_icmp .eq 17, 3) := by decide +kernel
theorem dX3_trial_94 : decode cX3_trial 94 = .ok (.aload_n 0, 1) := by decide +kernel
theorem dX3_trial_95 : decode cX3_trial 95 = .ok (.getfield 7, 3) := by decide +kernel
theorem dX3_trial_98 : decode cX3_trial 98 = .ok (.iload_n 2, 1) := by decide +kernel
theorem dX3_trial_99 : decode cX3_trial 99 = .ok (.iaload, 1) := by decide +kernel
theorem dX3_trial_100 : decode cX3_trial 100 = .ok (.iconst 1, 1) := by decide +kernel
theorem dX3_trial_101 : decode cX3_trial 101 = .ok (.if_icmp .gt 7, 3) := by decide +kernel
theorem dX3_trial_104 : decode cX3_trial 104 = .ok (.iconst 1, 1) := by decide +kernel
theorem dX3_trial_105 : decode cX3_trial 105 = .ok (.goto 4, 3) := by decide +kernel
theorem dX3_trial_108 : decode cX3_trial 108 = .ok (.iconst 0, 1) := by decide +kernel
theorem dX3_trial_109 : decode cX3_trial 109 = .ok (.istore 6, 2) := by decide +kernel
theorem dX3_trial_111 : decode cX3_trial 111 = .ok (.iload 6, 2) := by decide +kernel
theorem dX3_trial_113 : decode cX3_trial 113 = .ok (.ifCond .eq 19, 3) := by decide +kernel
theorem dX3_trial_116 : decode cX3_trial 116 = .ok (.aload_n 0, 1) := by decide +kernel
theorem dX3_trial_117 : decode cX3_trial 117 = .ok (.iload_n 2, 1) := by decide +kernel
theorem dX3_trial_118 : decode cX3_trial 118 = .ok (.invokevirtual 105, 3) := by decide +kernel
theorem dX3_trial_121 : decode cX3_trial 121 = .ok (.ifCond .eq 11, 3) := by decide +kernel
theorem dX3_trial_124 : decode cX3_trial 124 = .ok (.aload_n 0, 1) := by decide +kernel
theorem dX3_trial_125 : decode cX3_trial 125 = .ok (.iload_n 2, 1) := by decide +kernel
theorem dX3_trial_126 : decode cX3_trial 126 = .ok (.invokevirtual 108, 3) := by decide +kernel
theorem dX3_trial_129 : decode cX3_trial 129 = .ok (.ifCond .eq 6, 3) := by decide +kernel
theorem dX3_trial_132 : decode cX3_trial 132 = .ok (.bipush (-3), 2) := by decide +kernel
theorem dX3_trial_134 : decode cX3_trial 134 = .ok (.ireturn, 1) := by decide +kernel
theorem dX3_trial_135 : decode cX3_trial 135 = .ok (.aload_n 0, 1) := by decide +kernel
theorem dX3_trial_136 : decode cX3_trial 136 = .ok (.getfield 111, 3) := by decide +kernel
theorem dX3_trial_139 : decode cX3_trial 139 = .ok (.sipush 300, 3) := by decide +kernel
theorem dX3_trial_142 : decode cX3_trial 142 = .ok (.if_icmp .ne 6, 3) := by decide +kernel
theorem dX3_trial_145 : decode cX3_trial 145 = .ok (.bipush (-4), 2) := by decide +kernel
theorem dX3_trial_147 : decode cX3_trial 147 = .ok (.ireturn, 1) := by decide +kernel
theorem dX3_trial_148 : decode cX3_trial 148 = .ok (.aload_n 0, 1) := by decide +kernel
theorem dX3_trial_149 : decode cX3_trial 149 = .ok (.getfield 111, 3) := by decide +kernel
theorem dX3_trial_152 : decode cX3_trial 152 = .ok (.istore 7, 2) := by decide +kernel
theorem dX3_trial_154 : decode cX3_trial 154 = .ok (.aload_n 0, 1) := by decide +kernel
theorem dX3_trial_155 : decode cX3_trial 155 = .ok (.dup, 1) := by decide +kernel
theorem dX3_trial_156 : decode cX3_trial 156 = .ok (.getfield 111, 3) := by decide +kernel
theorem dX3_trial_159 : decode cX3_trial 159 = .ok (.iconst 1, 1) := by decide +kernel
theorem dX3_trial_160 : decode cX3_trial 160 = .ok (.iadd, 1) := by decide +kernel
theorem dX3_trial_161 : decode cX3_trial 161 = .ok (.putfield 111, 3) := by decide +kernel
theorem dX3_trial_164 : decode cX3_trial 164 = .ok (.aload_n 0, 1) := by decide +kernel
theorem dX3_trial_165 : decode cX3_trial 165 = .ok (.getfield 50, 3) := by decide +kernel
theorem dX3_trial_168 : decode cX3_trial 168 = .ok (.iload 7, 2) := by decide +kernel
theorem dX3_trial_170 : decode cX3_trial 170 = .ok (.iload_n 1, 1) := by decide +kernel
theorem dX3_trial_171 : decode cX3_trial 171 = .ok (.iastore, 1) := by decide +kernel
theorem dX3_trial_172 : decode cX3_trial 172 = .ok (.aload_n 0, 1) := by decide +kernel
theorem dX3_trial_173 : decode cX3_trial 173 = .ok (.getfield 53, 3) := by decide +kernel
theorem dX3_trial_176 : decode cX3_trial 176 = .ok (.iload 7, 2) := by decide +kernel
theorem dX3_trial_178 : decode cX3_trial 178 = .ok (.iload_n 2, 1) := by decide +kernel
theorem dX3_trial_179 : decode cX3_trial 179 = .ok (.iastore, 1) := by decide +kernel
theorem dX3_trial_180 : decode cX3_trial 180 = .ok (.aload_n 0, 1) := by decide +kernel
theorem dX3_trial_181 : decode cX3_trial 181 = .ok (.getfield 56, 3) := by decide +kernel
theorem dX3_trial_184 : decode cX3_trial 184 = .ok (.iload 7, 2) := by decide +kernel
theorem dX3_trial_186 : decode cX3_trial 186 = .ok (.aload_n 0, 1) := by decide +kernel
theorem dX3_trial_187 : decode cX3_trial 187 = .ok (.getfield 92, 3) := by decide +kernel
theorem dX3_trial_190 : decode cX3_trial 190 = .ok (.iastore, 1) := by decide +kernel
theorem dX3_trial_191 : decode cX3_trial 191 = .ok (.aload_n 0, 1) := by decide +kernel
theorem dX3_trial_192 : decode cX3_trial 192 = .ok (.getfield 59, 3) := by decide +kernel
theorem dX3_trial_195 : decode cX3_trial 195 = .ok (.iload 7, 2) := by decide +kernel
theorem dX3_trial_197 : decode cX3_trial 197 = .ok (.aload_n 0, 1) := by decide +kernel
theorem dX3_trial_198 : decode cX3_trial 198 = .ok (.iload_n 2, 1) := by decide +kernel
theorem dX3_trial_199 : decode cX3_trial 199 = .ok (.invokevirtual 114, 3) := by decide +kernel
theorem dX3_trial_202 : decode cX3_trial 202 = .ok (.iload 5, 2) := by decide +kernel
theorem dX3_trial_204 : decode cX3_trial 204 = .ok (.ifCond .eq 11, 3) := by decide +kernel
theorem dX3_trial_207 : decode cX3_trial 207 = .ok (.aload_n 0, 1) := by decide +kernel
theorem dX3_trial_208 : decode cX3_trial 208 = .ok (.iload_n 1, 1) := by decide +kernel
theorem dX3_trial_209 : decode cX3_trial 209 = .ok (.invokevirtual 118, 3) := by decide +kernel
theorem dX3_trial_212 : decode cX3_trial 212 = .ok (.goto 4, 3) := by decide +kernel
theorem dX3_trial_215 : decode cX3_trial 215 = .ok (.iload_n 3, 1) := by decide +kernel
theorem dX3_trial_216 : decode cX3_trial 216 = .ok (.iadd, 1) := by decide +kernel
theorem dX3_trial_217 : decode cX3_trial 217 = .ok (.iastore, 1) := by decide +kernel
theorem dX3_trial_218 : decode cX3_trial 218 = .ok (.aload_n 0, 1) := by decide +kernel
theorem dX3_trial_219 : decode cX3_trial 219 = .ok (.getfield 62, 3) := by decide +kernel
theorem dX3_trial_222 : decode cX3_trial 222 = .ok (.iload 7, 2) := by decide +kernel
theorem dX3_trial_224 : decode cX3_trial 224 = .ok (.aload_n 0, 1) := by decide +kernel
theorem dX3_trial_225 : decode cX3_trial 225 = .ok (.iload_n 2, 1) := by decide +kernel
theorem dX3_trial_226 : decode cX3_trial 226 = .ok (.aload_n 0, 1) := by decide +kernel
theorem dX3_trial_227 : decode cX3_trial 227 = .ok (.getfield 92, 3) := by decide +kernel
theorem dX3_trial_230 : decode cX3_trial 230 = .ok (.invokevirtual 121, 3) := by decide +kernel
theorem dX3_trial_233 : decode cX3_trial 233 = .ok (.iload 4, 2) := by decide +kernel
theorem dX3_trial_235 : decode cX3_trial 235 = .ok (.iadd, 1) := by decide +kernel
theorem dX3_trial_236 : decode cX3_trial 236 = .ok (.iload 5, 2) := by decide +kernel
theorem dX3_trial_238 : decode cX3_trial 238 = .ok (.ifCond .eq 11, 3) := by decide +kernel
theorem dX3_trial_241 : decode cX3_trial 241 = .ok (.aload_n 0, 1) := by decide +kernel
theorem dX3_trial_242 : decode cX3_trial 242 = .ok (.iload_n 1, 1) := by decide +kernel
theorem dX3_trial_243 : decode cX3_trial 243 = .ok (.invokevirtual 125, 3) := by decide +kernel
theorem dX3_trial_246 : decode cX3_trial 246 = .ok (.goto 4, 3) := by decide +kernel
theorem dX3_trial_249 : decode cX3_trial 249 = .ok (.iconst 0, 1) := by decide +kernel
theorem dX3_trial_250 : decode cX3_trial 250 = .ok (.iadd, 1) := by decide +kernel
theorem dX3_trial_251 : decode cX3_trial 251 = .ok (.iastore, 1) := by decide +kernel
theorem dX3_trial_252 : decode cX3_trial 252 = .ok (.aload_n 0, 1) := by decide +kernel
theorem dX3_trial_253 : decode cX3_trial 253 = .ok (.getfield 65, 3) := by decide +kernel
theorem dX3_trial_256 : decode cX3_trial 256 = .ok (.iload 7, 2) := by decide +kernel
theorem dX3_trial_258 : decode cX3_trial 258 = .ok (.iconst 1, 1) := by decide +kernel
theorem dX3_trial_259 : decode cX3_trial 259 = .ok (.bastore, 1) := by decide +kernel
theorem dX3_trial_260 : decode cX3_trial 260 = .ok (.aload_n 0, 1) := by decide +kernel
theorem dX3_trial_261 : decode cX3_trial 261 = .ok (.getfield 71, 3) := by decide +kernel
theorem dX3_trial_264 : decode cX3_trial 264 = .ok (.iload 7, 2) := by decide +kernel
theorem dX3_trial_266 : decode cX3_trial 266 = .ok (.aload_n 0, 1) := by decide +kernel
theorem dX3_trial_267 : decode cX3_trial 267 = .ok (.getfield 25, 3) := by decide +kernel
theorem dX3_trial_270 : decode cX3_trial 270 = .ok (.iload_n 2, 1) := by decide +kernel
theorem dX3_trial_271 : decode cX3_trial 271 = .ok (.iaload, 1) := by decide +kernel
theorem dX3_trial_272 : decode cX3_trial 272 = .ok (.iastore, 1) := by decide +kernel
theorem dX3_trial_273 : decode cX3_trial 273 = .ok (.aload_n 0, 1) := by decide +kernel
theorem dX3_trial_274 : decode cX3_trial 274 = .ok (.getfield 25, 3) := by decide +kernel
theorem dX3_trial_277 : decode cX3_trial 277 = .ok (.iload_n 1, 1) := by decide +kernel
theorem dX3_trial_278 : decode cX3_trial 278 = .ok (.iaload, 1) := by decide +kernel
theorem dX3_trial_279 : decode cX3_trial 279 = .ok (.istore 8, 2) := by decide +kernel
theorem dX3_trial_281 : decode cX3_trial 281 = .ok (.iload 8, 2) := by decide +kernel
theorem dX3_trial_283 : decode cX3_trial 283 = .ok (.ldc 95, 2) := by decide +kernel
theorem dX3_trial_285 : decode cX3_trial 285 = .ok (.if_icmp .eq 90, 3) := by decide +kernel
theorem dX3_trial_288 : decode cX3_trial 288 = .ok (.aload_n 0, 1) := by decide +kernel
theorem dX3_trial_289 : decode cX3_trial 289 = .ok (.iload_n 1, 1) := by decide +kernel
theorem dX3_trial_290 : decode cX3_trial 290 = .ok (.invokevirtual 105, 3) := by decide +kernel
theorem dX3_trial_293 : decode cX3_trial 293 = .ok (.ifCond .eq 82, 3) := by decide +kernel
theorem dX3_trial_296 : decode cX3_trial 296 = .ok (.aload_n 0, 1) := by decide +kernel
theorem dX3_trial_297 : decode cX3_trial 297 = .ok (.iload_n 1, 1) := by decide +kernel
theorem dX3_trial_298 : decode cX3_trial 298 = .ok (.aload_n 0, 1) := by decide +kernel
theorem dX3_trial_299 : decode cX3_trial 299 = .ok (.getfield 92, 3) := by decide +kernel
theorem dX3_trial_302 : decode cX3_trial 302 = .ok (.invokevirtual 121, 3) := by decide +kernel
theorem dX3_trial_305 : decode cX3_trial 305 = .ok (.istore 9, 2) := by decide +kernel
theorem dX3_trial_307 : decode cX3_trial 307 = .ok (.aload_n 0, 1) := by decide +kernel
theorem dX3_trial_308 : decode cX3_trial 308 = .ok (.getfield 68, 3) := by decide +kernel
theorem dX3_trial_311 : decode cX3_trial 311 = .ok (.iload 7, 2) := by decide +kernel
theorem dX3_trial_313 : decode cX3_trial 313 = .ok (.aload_n 0, 1) := by decide +kernel
theorem dX3_trial_314 : decode cX3_trial 314 = .ok (.getfield 59, 3) := by decide +kernel
theorem dX3_trial_317 : decode cX3_trial 317 = .ok (.iload 8, 2) := by decide +kernel
theorem dX3_trial_319 : decode cX3_trial 319 = .ok (.iaload, 1) := by decide +kernel
theorem dX3_trial_320 : decode cX3_trial 320 = .ok (.iload 9, 2) := by decide +kernel
theorem dX3_trial_322 : decode cX3_trial 322 = .ok (.isub, 1) := by decide +kernel
theorem dX3_trial_323 : decode cX3_trial 323 = .ok (.aload_n 0, 1) := by decide +kernel
theorem dX3_trial_324 : decode cX3_trial 324 = .ok (.getfield 59, 3) := by decide +kernel
theorem dX3_trial_327 : decode cX3_trial 327 = .ok (.iload 7, 2) := by decide +kernel
theorem dX3_trial_329 : decode cX3_trial 329 = .ok (.iaload, 1) := by decide +kernel
theorem dX3_trial_330 : decode cX3_trial 330 = .ok (.aload_n 0, 1) := by decide +kernel
theorem dX3_trial_331 : decode cX3_trial 331 = .ok (.getfield 62, 3) := by decide +kernel
theorem dX3_trial_334 : decode cX3_trial 334 = .ok (.iload 7, 2) := by decide +kernel
theorem dX3_trial_336 : decode cX3_trial 336 = .ok (.iaload, 1) := by decide +kernel
theorem dX3_trial_337 : decode cX3_trial 337 = .ok (.iadd, 1) := by decide +kernel
theorem dX3_trial_338 : decode cX3_trial 338 = .ok (.if_icmp .gt 31, 3) := by decide +kernel
theorem dX3_trial_341 : decode cX3_trial 341 = .ok (.aload_n 0, 1) := by decide +kernel
theorem dX3_trial_342 : decode cX3_trial 342 = .ok (.getfield 59, 3) := by decide +kernel
theorem dX3_trial_345 : decode cX3_trial 345 = .ok (.iload 8, 2) := by decide +kernel
theorem dX3_trial_347 : decode cX3_trial 347 = .ok (.iaload, 1) := by decide +kernel
theorem dX3_trial_348 : decode cX3_trial 348 = .ok (.iload 9, 2) := by decide +kernel
theorem dX3_trial_350 : decode cX3_trial 350 = .ok (.iadd, 1) := by decide +kernel
theorem dX3_trial_351 : decode cX3_trial 351 = .ok (.aload_n 0, 1) := by decide +kernel
theorem dX3_trial_352 : decode cX3_trial 352 = .ok (.getfield 59, 3) := by decide +kernel
theorem dX3_trial_355 : decode cX3_trial 355 = .ok (.iload 7, 2) := by decide +kernel
theorem dX3_trial_357 : decode cX3_trial 357 = .ok (.iaload, 1) := by decide +kernel
theorem dX3_trial_358 : decode cX3_trial 358 = .ok (.aload_n 0, 1) := by decide +kernel
theorem dX3_trial_359 : decode cX3_trial 359 = .ok (.getfield 62, 3) := by decide +kernel
theorem dX3_trial_362 : decode cX3_trial 362 = .ok (.iload 7, 2) := by decide +kernel
theorem dX3_trial_364 : decode cX3_trial 364 = .ok (.iaload, 1) := by decide +kernel
theorem dX3_trial_365 : decode cX3_trial 365 = .ok (.isub, 1) := by decide +kernel
theorem dX3_trial_366 : decode cX3_trial 366 = .ok (.if_icmp .ge 7, 3) := by decide +kernel
theorem dX3_trial_369 : decode cX3_trial 369 = .ok (.iconst 1, 1) := by decide +kernel
theorem dX3_trial_370 : decode cX3_trial 370 = .ok (.goto 4, 3) := by decide +kernel
theorem dX3_trial_373 : decode cX3_trial 373 = .ok (.iconst 0, 1) := by decide +kernel
theorem dX3_trial_374 : decode cX3_trial 374 = .ok (.bastore, 1) := by decide +kernel
theorem dX3_trial_375 : decode cX3_trial 375 = .ok (.aload_n 0, 1) := by decide +kernel
theorem dX3_trial_376 : decode cX3_trial 376 = .ok (.getfield 68, 3) := by decide +kernel
theorem dX3_trial_379 : decode cX3_trial 379 = .ok (.iload 7, 2) := by decide +kernel
theorem dX3_trial_381 : decode cX3_trial 381 = .ok (.baload, 1) := by decide +kernel
theorem dX3_trial_382 : decode cX3_trial 382 = .ok (.ifCond .eq 17, 3) := by decide +kernel
theorem dX3_trial_385 : decode cX3_trial 385 = .ok (.aload_n 0, 1) := by decide +kernel
theorem dX3_trial_386 : decode cX3_trial 386 = .ok (.iload 8, 2) := by decide +kernel
theorem dX3_trial_388 : decode cX3_trial 388 = .ok (.invokevirtual 128, 3) := by decide +kernel
theorem dX3_trial_391 : decode cX3_trial 391 = .ok (.aload_n 0, 1) := by decide +kernel
theorem dX3_trial_392 : decode cX3_trial 392 = .ok (.getfield 28, 3) := by decide +kernel
theorem dX3_trial_395 : decode cX3_trial 395 = .ok (.iload_n 1, 1) := by decide +kernel
theorem dX3_trial_396 : decode cX3_trial 396 = .ok (.ldc 95, 2) := by decide +kernel
theorem dX3_trial_398 : decode cX3_trial 398 = .ok (.iastore, 1) := by decide +kernel
theorem dX3_trial_399 : decode cX3_trial 399 = .ok (.aload_n 0, 1) := by decide +kernel
theorem dX3_trial_400 : decode cX3_trial 400 = .ok (.getfield 25, 3) := by decide +kernel
theorem dX3_trial_403 : decode cX3_trial 403 = .ok (.iload_n 1, 1) := by decide +kernel
theorem dX3_trial_404 : decode cX3_trial 404 = .ok (.iload 7, 2) := by decide +kernel
theorem dX3_trial_406 : decode cX3_trial 406 = .ok (.iastore, 1) := by decide +kernel
theorem dX3_trial_407 : decode cX3_trial 407 = .ok (.aload_n 0, 1) := by decide +kernel
theorem dX3_trial_408 : decode cX3_trial 408 = .ok (.getfield 22, 3) := by decide +kernel
theorem dX3_trial_411 : decode cX3_trial 411 = .ok (.iload_n 1, 1) := by decide +kernel
theorem dX3_trial_412 : decode cX3_trial 412 = .ok (.dup2, 1) := by decide +kernel
theorem dX3_trial_413 : decode cX3_trial 413 = .ok (.iaload, 1) := by decide +kernel
theorem dX3_trial_414 : decode cX3_trial 414 = .ok (.iconst 1, 1) := by decide +kernel
theorem dX3_trial_415 : decode cX3_trial 415 = .ok (.iadd, 1) := by decide +kernel
theorem dX3_trial_416 : decode cX3_trial 416 = .ok (.iastore, 1) := by decide +kernel
theorem dX3_trial_417 : decode cX3_trial 417 = .ok (.aload_n 0, 1) := by decide +kernel
theorem dX3_trial_418 : decode cX3_trial 418 = .ok (.getfield 34, 3) := by decide +kernel
theorem dX3_trial_421 : decode cX3_trial 421 = .ok (.iload_n 1, 1) := by decide +kernel
theorem dX3_trial_422 : decode cX3_trial 422 = .ok (.iconst 0, 1) := by decide +kernel
theorem dX3_trial_423 : decode cX3_trial 423 = .ok (.iastore, 1) := by decide +kernel
theorem dX3_trial_424 : decode cX3_trial 424 = .ok (.iload 7, 2) := by decide +kernel
theorem dX3_trial_426 : decode cX3_trial 426 = .ok (.ireturn, 1) := by decide +kernel
theorem dX3_unsettle_0 : decode cX3_unsettle 0 = .ok (.iconst 0, 1) := by decide +kernel
theorem dX3_unsettle_1 : decode cX3_unsettle 1 = .ok (.istore_n 2, 1) := by decide +kernel
theorem dX3_unsettle_2 : decode cX3_unsettle 2 = .ok (.iload_n 2, 1) := by decide +kernel
theorem dX3_unsettle_3 : decode cX3_unsettle 3 = .ok (.aload_n 0, 1) := by decide +kernel
theorem dX3_unsettle_4 : decode cX3_unsettle 4 = .ok (.getfield 111, 3) := by decide +kernel
theorem dX3_unsettle_7 : decode cX3_unsettle 7 = .ok (.if_icmp .ge 51, 3) := by decide +kernel
theorem dX3_unsettle_10 : decode cX3_unsettle 10 = .ok (.aload_n 0, 1) := by decide +kernel
theorem dX3_unsettle_11 : decode cX3_unsettle 11 = .ok (.getfield 71, 3) := by decide +kernel
theorem dX3_unsettle_14 : decode cX3_unsettle 14 = .ok (.iload_n 2, 1) := by decide +kernel
theorem dX3_unsettle_15 : decode cX3_unsettle 15 = .ok (.iaload, 1) := by decide +kernel
theorem dX3_unsettle_16 : decode cX3_unsettle 16 = .ok (.ldc 95, 2) := by decide +kernel
theorem dX3_unsettle_18 : decode cX3_unsettle 18 = .ok (.if_icmp .eq 34, 3) := by decide +kernel
theorem dX3_unsettle_21 : decode cX3_unsettle 21 = .ok (.aload_n 0, 1) := by decide +kernel
theorem dX3_unsettle_22 : decode cX3_unsettle 22 = .ok (.getfield 71, 3) := by decide +kernel
theorem dX3_unsettle_25 : decode cX3_unsettle 25 = .ok (.iload_n 2, 1) := by decide +kernel
theorem dX3_unsettle_26 : decode cX3_unsettle 26 = .ok (.iaload, 1) := by decide +kernel
theorem dX3_unsettle_27 : decode cX3_unsettle 27 = .ok (.iload_n 1, 1) := by decide +kernel
theorem dX3_unsettle_28 : decode cX3_unsettle 28 = .ok (.if_icmp .eq 17, 3) := by decide +kernel
theorem dX3_unsettle_31 : decode cX3_unsettle 31 = .ok (.aload_n 0, 1) := by decide +kernel
theorem dX3_unsettle_32 : decode cX3_unsettle 32 = .ok (.getfield 65, 3) := by decide +kernel
theorem dX3_unsettle_35 : decode cX3_unsettle 35 = .ok (.aload_n 0, 1) := by decide +kernel
theorem dX3_unsettle_36 : decode cX3_unsettle 36 = .ok (.getfield 71, 3) := by decide +kernel
theorem dX3_unsettle_39 : decode cX3_unsettle 39 = .ok (.iload_n 2, 1) := by decide +kernel
theorem dX3_unsettle_40 : decode cX3_unsettle 40 = .ok (.iaload, 1) := by decide +kernel
theorem dX3_unsettle_41 : decode cX3_unsettle 41 = .ok (.baload, 1) := by decide +kernel
theorem dX3_unsettle_42 : decode cX3_unsettle 42 = .ok (.ifCond .ne 10, 3) := by decide +kernel
theorem dX3_unsettle_45 : decode cX3_unsettle 45 = .ok (.aload_n 0, 1) := by decide +kernel
theorem dX3_unsettle_46 : decode cX3_unsettle 46 = .ok (.getfield 65, 3) := by decide +kernel
theorem dX3_unsettle_49 : decode cX3_unsettle 49 = .ok (.iload_n 2, 1) := by decide +kernel
theorem dX3_unsettle_50 : decode cX3_unsettle 50 = .ok (.iconst 0, 1) := by decide +kernel
theorem dX3_unsettle_51 : decode cX3_unsettle 51 = .ok (.bastore, 1) := by decide +kernel
theorem dX3_unsettle_52 : decode cX3_unsettle 52 = .ok (.iinc 2 1, 3) := by decide +kernel
theorem dX3_unsettle_55 : decode cX3_unsettle 55 = .ok (.goto (-53), 3) := by decide +kernel
theorem dX3_unsettle_58 : decode cX3_unsettle 58 = .ok (.return_, 1) := by decide +kernel
theorem dX3_told_0 : decode cX3_told 0 = .ok (.iload_n 1, 1) := by decide +kernel
theorem dX3_told_1 : decode cX3_told 1 = .ok (.iconst 0, 1) := by decide +kernel
theorem dX3_told_2 : decode cX3_told 2 = .ok (.aload_n 0, 1) := by decide +kernel
theorem dX3_told_3 : decode cX3_told 3 = .ok (.getfield 111, 3) := by decide +kernel
theorem dX3_told_6 : decode cX3_told 6 = .ok (.iconst 1, 1) := by decide +kernel
theorem dX3_told_7 : decode cX3_told 7 = .ok (.isub, 1) := by decide +kernel
theorem dX3_told_8 : decode cX3_told 8 = .ok (.invokestatic 88, 3) := by decide +kernel
theorem dX3_told_11 : decode cX3_told 11 = .ok (.ifCond .ne 5, 3) := by decide +kernel
theorem dX3_told_14 : decode cX3_told 14 = .ok (.iconst (-1), 1) := by decide +kernel
theorem dX3_told_15 : decode cX3_told 15 = .ok (.ireturn, 1) := by decide +kernel
theorem dX3_told_16 : decode cX3_told 16 = .ok (.iload_n 2, 1) := by decide +kernel
theorem dX3_told_17 : decode cX3_told 17 = .ok (.tableswitch 119 0 7 #[47, 54, 61, 68, 75, 82, 97, 112], 47) := by decide +kernel
theorem dX3_told_64 : decode cX3_told 64 = .ok (.aload_n 0, 1) := by decide +kernel
theorem dX3_told_65 : decode cX3_told 65 = .ok (.getfield 50, 3) := by decide +kernel
theorem dX3_told_68 : decode cX3_told 68 = .ok (.iload_n 1, 1) := by decide +kernel
theorem dX3_told_69 : decode cX3_told 69 = .ok (.iaload, 1) := by decide +kernel
theorem dX3_told_70 : decode cX3_told 70 = .ok (.ireturn, 1) := by decide +kernel
theorem dX3_told_71 : decode cX3_told 71 = .ok (.aload_n 0, 1) := by decide +kernel
theorem dX3_told_72 : decode cX3_told 72 = .ok (.getfield 53, 3) := by decide +kernel
theorem dX3_told_75 : decode cX3_told 75 = .ok (.iload_n 1, 1) := by decide +kernel
theorem dX3_told_76 : decode cX3_told 76 = .ok (.iaload, 1) := by decide +kernel
theorem dX3_told_77 : decode cX3_told 77 = .ok (.ireturn, 1) := by decide +kernel
theorem dX3_told_78 : decode cX3_told 78 = .ok (.aload_n 0, 1) := by decide +kernel
theorem dX3_told_79 : decode cX3_told 79 = .ok (.getfield 56, 3) := by decide +kernel
theorem dX3_told_82 : decode cX3_told 82 = .ok (.iload_n 1, 1) := by decide +kernel
theorem dX3_told_83 : decode cX3_told 83 = .ok (.iaload, 1) := by decide +kernel
theorem dX3_told_84 : decode cX3_told 84 = .ok (.ireturn, 1) := by decide +kernel
theorem dX3_told_85 : decode cX3_told 85 = .ok (.aload_n 0, 1) := by decide +kernel
theorem dX3_told_86 : decode cX3_told 86 = .ok (.getfield 59, 3) := by decide +kernel
theorem dX3_told_89 : decode cX3_told 89 = .ok (.iload_n 1, 1) := by decide +kernel
theorem dX3_told_90 : decode cX3_told 90 = .ok (.iaload, 1) := by decide +kernel
theorem dX3_told_91 : decode cX3_told 91 = .ok (.ireturn, 1) := by decide +kernel
theorem dX3_told_92 : decode cX3_told 92 = .ok (.aload_n 0, 1) := by decide +kernel
theorem dX3_told_93 : decode cX3_told 93 = .ok (.getfield 62, 3) := by decide +kernel
theorem dX3_told_96 : decode cX3_told 96 = .ok (.iload_n 1, 1) := by decide +kernel
theorem dX3_told_97 : decode cX3_told 97 = .ok (.iaload, 1) := by decide +kernel
theorem dX3_told_98 : decode cX3_told 98 = .ok (.ireturn, 1) := by decide +kernel
theorem dX3_told_99 : decode cX3_told 99 = .ok (.aload_n 0, 1) := by decide +kernel
theorem dX3_told_100 : decode cX3_told 100 = .ok (.getfield 65, 3) := by decide +kernel
theorem dX3_told_103 : decode cX3_told 103 = .ok (.iload_n 1, 1) := by decide +kernel
theorem dX3_told_104 : decode cX3_told 104 = .ok (.baload, 1) := by decide +kernel
theorem dX3_told_105 : decode cX3_told 105 = .ok (.ifCond .eq 7, 3) := by decide +kernel
theorem dX3_told_108 : decode cX3_told 108 = .ok (.iconst 1, 1) := by decide +kernel
theorem dX3_told_109 : decode cX3_told 109 = .ok (.goto 4, 3) := by decide +kernel
theorem dX3_told_112 : decode cX3_told 112 = .ok (.iconst 0, 1) := by decide +kernel
theorem dX3_told_113 : decode cX3_told 113 = .ok (.ireturn, 1) := by decide +kernel
theorem dX3_told_114 : decode cX3_told 114 = .ok (.aload_n 0, 1) := by decide +kernel
theorem dX3_told_115 : decode cX3_told 115 = .ok (.getfield 68, 3) := by decide +kernel
theorem dX3_told_118 : decode cX3_told 118 = .ok (.iload_n 1, 1) := by decide +kernel
theorem dX3_told_119 : decode cX3_told 119 = .ok (.baload, 1) := by decide +kernel
theorem dX3_told_120 : decode cX3_told 120 = .ok (.ifCond .eq 7, 3) := by decide +kernel
theorem dX3_told_123 : decode cX3_told 123 = .ok (.iconst 1, 1) := by decide +kernel
theorem dX3_told_124 : decode cX3_told 124 = .ok (.goto 4, 3) := by decide +kernel
theorem dX3_told_127 : decode cX3_told 127 = .ok (.iconst 0, 1) := by decide +kernel
theorem dX3_told_128 : decode cX3_told 128 = .ok (.ireturn, 1) := by decide +kernel
theorem dX3_told_129 : decode cX3_told 129 = .ok (.aload_n 0, 1) := by decide +kernel
theorem dX3_told_130 : decode cX3_told 130 = .ok (.getfield 71, 3) := by decide +kernel
theorem dX3_told_133 : decode cX3_told 133 = .ok (.iload_n 1, 1) := by decide +kernel
theorem dX3_told_134 : decode cX3_told 134 = .ok (.iaload, 1) := by decide +kernel
theorem dX3_told_135 : decode cX3_told 135 = .ok (.ireturn, 1) := by decide +kernel
theorem dX3_told_136 : decode cX3_told 136 = .ok (.bipush (-2), 2) := by decide +kernel
theorem dX3_told_138 : decode cX3_told 138 = .ok (.ireturn, 1) := by decide +kernel
theorem dX3_error_0 : decode cX3_error 0 = .ok (.aload_n 0, 1) := by decide +kernel
theorem dX3_error_1 : decode cX3_error 1 = .ok (.iload_n 1, 1) := by decide +kernel
theorem dX3_error_2 : decode cX3_error 2 = .ok (.invokevirtual 96, 3) := by decide +kernel
theorem dX3_error_5 : decode cX3_error 5 = .ok (.ifCond .ne 5, 3) := by decide +kernel
theorem dX3_error_8 : decode cX3_error 8 = .ok (.iconst (-1), 1) := by decide +kernel
theorem dX3_error_9 : decode cX3_error 9 = .ok (.ireturn, 1) := by decide +kernel
theorem dX3_error_10 : decode cX3_error 10 = .ok (.aload_n 0, 1) := by decide +kernel
theorem dX3_error_11 : decode cX3_error 11 = .ok (.getfield 7, 3) := by decide +kernel
theorem dX3_error_14 : decode cX3_error 14 = .ok (.iload_n 1, 1) := by decide +kernel
theorem dX3_error_15 : decode cX3_error 15 = .ok (.iaload, 1) := by decide +kernel
theorem dX3_error_16 : decode cX3_error 16 = .ok (.ifCond .ne 7, 3) := by decide +kernel
theorem dX3_error_19 : decode cX3_error 19 = .ok (.iconst 0, 1) := by decide +kernel
theorem dX3_error_20 : decode cX3_error 20 = .ok (.goto 30, 3) := by decide +kernel
theorem dX3_error_23 : decode cX3_error 23 = .ok (.aload_n 0, 1) := by decide +kernel
theorem dX3_error_24 : decode cX3_error 24 = .ok (.getfield 25, 3) := by decide +kernel
theorem dX3_error_27 : decode cX3_error 27 = .ok (.iload_n 1, 1) := by decide +kernel
theorem dX3_error_28 : decode cX3_error 28 = .ok (.iaload, 1) := by decide +kernel
theorem dX3_error_29 : decode cX3_error 29 = .ok (.ldc 95, 2) := by decide +kernel
theorem dX3_error_31 : decode cX3_error 31 = .ok (.if_icmp .ne 8, 3) := by decide +kernel
theorem dX3_error_34 : decode cX3_error 34 = .ok (.ldc 95, 2) := by decide +kernel
theorem dX3_error_36 : decode cX3_error 36 = .ok (.goto 14, 3) := by decide +kernel
theorem dX3_error_39 : decode cX3_error 39 = .ok (.aload_n 0, 1) := by decide +kernel
theorem dX3_error_40 : decode cX3_error 40 = .ok (.getfield 59, 3) := by decide +kernel
theorem dX3_error_43 : decode cX3_error 43 = .ok (.aload_n 0, 1) := by decide +kernel
theorem dX3_error_44 : decode cX3_error 44 = .ok (.getfield 25, 3) := by decide +kernel
theorem dX3_error_47 : decode cX3_error 47 = .ok (.iload_n 1, 1) := by decide +kernel
theorem dX3_error_48 : decode cX3_error 48 = .ok (.iaload, 1) := by decide +kernel
theorem dX3_error_49 : decode cX3_error 49 = .ok (.iaload, 1) := by decide +kernel
theorem dX3_error_50 : decode cX3_error 50 = .ok (.ireturn, 1) := by decide +kernel
theorem dX3_span_0 : decode cX3_span 0 = .ok (.aload_n 0, 1) := by decide +kernel
theorem dX3_span_1 : decode cX3_span 1 = .ok (.iload_n 1, 1) := by decide +kernel
theorem dX3_span_2 : decode cX3_span 2 = .ok (.invokevirtual 96, 3) := by decide +kernel
theorem dX3_span_5 : decode cX3_span 5 = .ok (.ifCond .ne 5, 3) := by decide +kernel
theorem dX3_span_8 : decode cX3_span 8 = .ok (.iconst (-1), 1) := by decide +kernel
theorem dX3_span_9 : decode cX3_span 9 = .ok (.ireturn, 1) := by decide +kernel
theorem dX3_span_10 : decode cX3_span 10 = .ok (.aload_n 0, 1) := by decide +kernel
theorem dX3_span_11 : decode cX3_span 11 = .ok (.getfield 7, 3) := by decide +kernel
theorem dX3_span_14 : decode cX3_span 14 = .ok (.iload_n 1, 1) := by decide +kernel
theorem dX3_span_15 : decode cX3_span 15 = .ok (.iaload, 1) := by decide +kernel
theorem dX3_span_16 : decode cX3_span 16 = .ok (.ifCond .ne 7, 3) := by decide +kernel
theorem dX3_span_19 : decode cX3_span 19 = .ok (.iconst 0, 1) := by decide +kernel
theorem dX3_span_20 : decode cX3_span 20 = .ok (.goto 28, 3) := by decide +kernel
theorem dX3_span_23 : decode cX3_span 23 = .ok (.aload_n 0, 1) := by decide +kernel
theorem dX3_span_24 : decode cX3_span 24 = .ok (.getfield 25, 3) := by decide +kernel
theorem dX3_span_27 : decode cX3_span 27 = .ok (.iload_n 1, 1) := by decide +kernel
theorem dX3_span_28 : decode cX3_span 28 = .ok (.iaload, 1) := by decide +kernel
theorem dX3_span_29 : decode cX3_span 29 = .ok (.ldc 95, 2) := by decide +kernel
theorem dX3_span_31 : decode cX3_span 31 = .ok (.if_icmp .ne 8, 3) := by decide +kernel
theorem dX3_span_34 : decode cX3_span 34 = .ok (.ldc 95, 2) := by decide +kernel
theorem dX3_span_36 : decode cX3_span 36 = .ok (.goto 12, 3) := by decide +kernel
theorem dX3_span_39 : decode cX3_span 39 = .ok (.aload_n 0, 1) := by decide +kernel
theorem dX3_span_40 : decode cX3_span 40 = .ok (.iload_n 1, 1) := by decide +kernel
theorem dX3_span_41 : decode cX3_span 41 = .ok (.aload_n 0, 1) := by decide +kernel
theorem dX3_span_42 : decode cX3_span 42 = .ok (.getfield 92, 3) := by decide +kernel
theorem dX3_span_45 : decode cX3_span 45 = .ok (.invokevirtual 121, 3) := by decide +kernel
theorem dX3_span_48 : decode cX3_span 48 = .ok (.ireturn, 1) := by decide +kernel
theorem dX3_settled_0 : decode cX3_settled 0 = .ok (.aload_n 0, 1) := by decide +kernel
theorem dX3_settled_1 : decode cX3_settled 1 = .ok (.iload_n 1, 1) := by decide +kernel
theorem dX3_settled_2 : decode cX3_settled 2 = .ok (.invokevirtual 96, 3) := by decide +kernel
theorem dX3_settled_5 : decode cX3_settled 5 = .ok (.ifCond .ne 7, 3) := by decide +kernel
theorem dX3_settled_8 : decode cX3_settled 8 = .ok (.iconst (-1), 1) := by decide +kernel
theorem dX3_settled_9 : decode cX3_settled 9 = .ok (.goto 16, 3) := by decide +kernel
theorem dX3_settled_12 : decode cX3_settled 12 = .ok (.aload_n 0, 1) := by decide +kernel
theorem dX3_settled_13 : decode cX3_settled 13 = .ok (.iload_n 1, 1) := by decide +kernel
theorem dX3_settled_14 : decode cX3_settled 14 = .ok (.invokevirtual 105, 3) := by decide +kernel
theorem dX3_settled_17 : decode cX3_settled 17 = .ok (.ifCond .eq 7, 3) := by decide +kernel
theorem dX3_settled_20 : decode cX3_settled 20 = .ok (.iconst 1, 1) := by decide +kernel
theorem dX3_settled_21 : decode cX3_settled 21 = .ok (.goto 4, 3) := by decide +kernel
theorem dX3_settled_24 : decode cX3_settled 24 = .ok (.iconst 0, 1) := by decide +kernel
theorem dX3_settled_25 : decode cX3_settled 25 = .ok (.ireturn, 1) := by decide +kernel
theorem dX3_due_0 : decode cX3_due 0 = .ok (.aload_n 0, 1) := by decide +kernel
theorem dX3_due_1 : decode cX3_due 1 = .ok (.iload_n 1, 1) := by decide +kernel
theorem dX3_due_2 : decode cX3_due 2 = .ok (.invokevirtual 96, 3) := by decide +kernel
theorem dX3_due_5 : decode cX3_due 5 = .ok (.ifCond .ne 7, 3) := by decide +kernel
theorem dX3_due_8 : decode cX3_due 8 = .ok (.iconst (-1), 1) := by decide +kernel
theorem dX3_due_9 : decode cX3_due 9 = .ok (.goto 16, 3) := by decide +kernel
theorem dX3_due_12 : decode cX3_due 12 = .ok (.aload_n 0, 1) := by decide +kernel
theorem dX3_due_13 : decode cX3_due 13 = .ok (.iload_n 1, 1) := by decide +kernel
theorem dX3_due_14 : decode cX3_due 14 = .ok (.invokevirtual 108, 3) := by decide +kernel
theorem dX3_due_17 : decode cX3_due 17 = .ok (.ifCond .eq 7, 3) := by decide +kernel
theorem dX3_due_20 : decode cX3_due 20 = .ok (.iconst 1, 1) := by decide +kernel
theorem dX3_due_21 : decode cX3_due 21 = .ok (.goto 4, 3) := by decide +kernel
theorem dX3_due_24 : decode cX3_due 24 = .ok (.iconst 0, 1) := by decide +kernel
theorem dX3_due_25 : decode cX3_due 25 = .ok (.ireturn, 1) := by decide +kernel
theorem dX3_left_0 : decode cX3_left 0 = .ok (.aload_n 0, 1) := by decide +kernel
theorem dX3_left_1 : decode cX3_left 1 = .ok (.iload_n 1, 1) := by decide +kernel
theorem dX3_left_2 : decode cX3_left 2 = .ok (.invokevirtual 96, 3) := by decide +kernel
theorem dX3_left_5 : decode cX3_left 5 = .ok (.ifCond .ne 5, 3) := by decide +kernel
theorem dX3_left_8 : decode cX3_left 8 = .ok (.iconst (-1), 1) := by decide +kernel
theorem dX3_left_9 : decode cX3_left 9 = .ok (.ireturn, 1) := by decide +kernel
theorem dX3_left_10 : decode cX3_left 10 = .ok (.aload_n 0, 1) := by decide +kernel
theorem dX3_left_11 : decode cX3_left 11 = .ok (.getfield 7, 3) := by decide +kernel
theorem dX3_left_14 : decode cX3_left 14 = .ok (.iload_n 1, 1) := by decide +kernel
theorem dX3_left_15 : decode cX3_left 15 = .ok (.iaload, 1) := by decide +kernel
theorem dX3_left_16 : decode cX3_left 16 = .ok (.ifCond .ne 8, 3) := by decide +kernel
theorem dX3_left_19 : decode cX3_left 19 = .ok (.ldc 95, 2) := by decide +kernel
theorem dX3_left_21 : decode cX3_left 21 = .ok (.goto 40, 3) := by decide +kernel
theorem dX3_left_24 : decode cX3_left 24 = .ok (.aload_n 0, 1) := by decide +kernel
theorem dX3_left_25 : decode cX3_left 25 = .ok (.iload_n 1, 1) := by decide +kernel
theorem dX3_left_26 : decode cX3_left 26 = .ok (.invokevirtual 108, 3) := by decide +kernel
theorem dX3_left_29 : decode cX3_left 29 = .ok (.ifCond .eq 7, 3) := by decide +kernel
theorem dX3_left_32 : decode cX3_left 32 = .ok (.iconst 0, 1) := by decide +kernel
theorem dX3_left_33 : decode cX3_left 33 = .ok (.goto 28, 3) := by decide +kernel
theorem dX3_left_36 : decode cX3_left 36 = .ok (.aload_n 0, 1) := by decide +kernel
theorem dX3_left_37 : decode cX3_left 37 = .ok (.getfield 56, 3) := by decide +kernel
theorem dX3_left_40 : decode cX3_left 40 = .ok (.aload_n 0, 1) := by decide +kernel
theorem dX3_left_41 : decode cX3_left 41 = .ok (.getfield 25, 3) := by decide +kernel
theorem dX3_left_44 : decode cX3_left 44 = .ok (.iload_n 1, 1) := by decide +kernel
theorem dX3_left_45 : decode cX3_left 45 = .ok (.iaload, 1) := by decide +kernel
theorem dX3_left_46 : decode cX3_left 46 = .ok (.iaload, 1) := by decide +kernel
theorem dX3_left_47 : decode cX3_left 47 = .ok (.aload_n 0, 1) := by decide +kernel
theorem dX3_left_48 : decode cX3_left 48 = .ok (.getfield 16, 3) := by decide +kernel
theorem dX3_left_51 : decode cX3_left 51 = .ok (.iload_n 1, 1) := by decide +kernel
theorem dX3_left_52 : decode cX3_left 52 = .ok (.iaload, 1) := by decide +kernel
theorem dX3_left_53 : decode cX3_left 53 = .ok (.iadd, 1) := by decide +kernel
theorem dX3_left_54 : decode cX3_left 54 = .ok (.iconst 1, 1) := by decide +kernel
theorem dX3_left_55 : decode cX3_left 55 = .ok (.iadd, 1) := by decide +kernel
theorem dX3_left_56 : decode cX3_left 56 = .ok (.aload_n 0, 1) := by decide +kernel
theorem dX3_left_57 : decode cX3_left 57 = .ok (.getfield 92, 3) := by decide +kernel
theorem dX3_left_60 : decode cX3_left 60 = .ok (.isub, 1) := by decide +kernel
theorem dX3_left_61 : decode cX3_left 61 = .ok (.ireturn, 1) := by decide +kernel
theorem dX3_chain_0 : decode cX3_chain 0 = .ok (.aload_n 0, 1) := by decide +kernel
theorem dX3_chain_1 : decode cX3_chain 1 = .ok (.iload_n 1, 1) := by decide +kernel
theorem dX3_chain_2 : decode cX3_chain 2 = .ok (.invokevirtual 96, 3) := by decide +kernel
theorem dX3_chain_5 : decode cX3_chain 5 = .ok (.ifCond .ne 5, 3) := by decide +kernel
theorem dX3_chain_8 : decode cX3_chain 8 = .ok (.iconst (-1), 1) := by decide +kernel
theorem dX3_chain_9 : decode cX3_chain 9 = .ok (.ireturn, 1) := by decide +kernel
theorem dX3_chain_10 : decode cX3_chain 10 = .ok (.aload_n 0, 1) := by decide +kernel
theorem dX3_chain_11 : decode cX3_chain 11 = .ok (.getfield 25, 3) := by decide +kernel
theorem dX3_chain_14 : decode cX3_chain 14 = .ok (.iload_n 1, 1) := by decide +kernel
theorem dX3_chain_15 : decode cX3_chain 15 = .ok (.iaload, 1) := by decide +kernel
theorem dX3_chain_16 : decode cX3_chain 16 = .ok (.istore_n 3, 1) := by decide +kernel
theorem dX3_chain_17 : decode cX3_chain 17 = .ok (.iconst 0, 1) := by decide +kernel
theorem dX3_chain_18 : decode cX3_chain 18 = .ok (.istore 4, 2) := by decide +kernel
theorem dX3_chain_20 : decode cX3_chain 20 = .ok (.iload 4, 2) := by decide +kernel
theorem dX3_chain_22 : decode cX3_chain 22 = .ok (.iload_n 2, 1) := by decide +kernel
theorem dX3_chain_23 : decode cX3_chain 23 = .ok (.if_icmp .ge 22, 3) := by decide +kernel
theorem dX3_chain_26 : decode cX3_chain 26 = .ok (.iload_n 3, 1) := by decide +kernel
theorem dX3_chain_27 : decode cX3_chain 27 = .ok (.ldc 95, 2) := by decide +kernel
theorem dX3_chain_29 : decode cX3_chain 29 = .ok (.if_icmp .eq 16, 3) := by decide +kernel
theorem dX3_chain_32 : decode cX3_chain 32 = .ok (.aload_n 0, 1) := by decide +kernel
theorem dX3_chain_33 : decode cX3_chain 33 = .ok (.getfield 71, 3) := by decide +kernel
theorem dX3_chain_36 : decode cX3_chain 36 = .ok (.iload_n 3, 1) := by decide +kernel
theorem dX3_chain_37 : decode cX3_chain 37 = .ok (.iaload, 1) := by decide +kernel
theorem dX3_chain_38 : decode cX3_chain 38 = .ok (.istore_n 3, 1) := by decide +kernel
theorem dX3_chain_39 : decode cX3_chain 39 = .ok (.iinc 4 1, 3) := by decide +kernel
theorem dX3_chain_42 : decode cX3_chain 42 = .ok (.goto (-22), 3) := by decide +kernel
theorem dX3_chain_45 : decode cX3_chain 45 = .ok (.iload_n 2, 1) := by decide +kernel
theorem dX3_chain_46 : decode cX3_chain 46 = .ok (.ifCond .ge 8, 3) := by decide +kernel
theorem dX3_chain_49 : decode cX3_chain 49 = .ok (.ldc 95, 2) := by decide +kernel
theorem dX3_chain_51 : decode cX3_chain 51 = .ok (.goto 4, 3) := by decide +kernel
theorem dX3_chain_54 : decode cX3_chain 54 = .ok (.iload_n 3, 1) := by decide +kernel
theorem dX3_chain_55 : decode cX3_chain 55 = .ok (.ireturn, 1) := by decide +kernel
theorem dX3_unsettled_0 : decode cX3_unsettled 0 = .ok (.iconst 0, 1) := by decide +kernel
theorem dX3_unsettled_1 : decode cX3_unsettled 1 = .ok (.istore_n 1, 1) := by decide +kernel
theorem dX3_unsettled_2 : decode cX3_unsettled 2 = .ok (.iconst 0, 1) := by decide +kernel
theorem dX3_unsettled_3 : decode cX3_unsettled 3 = .ok (.istore_n 2, 1) := by decide +kernel
theorem dX3_unsettled_4 : decode cX3_unsettled 4 = .ok (.iload_n 2, 1) := by decide +kernel
theorem dX3_unsettled_5 : decode cX3_unsettled 5 = .ok (.aload_n 0, 1) := by decide +kernel
theorem dX3_unsettled_6 : decode cX3_unsettled 6 = .ok (.getfield 111, 3) := by decide +kernel
theorem dX3_unsettled_9 : decode cX3_unsettled 9 = .ok (.if_icmp .ge 26, 3) := by decide +kernel
theorem dX3_unsettled_12 : decode cX3_unsettled 12 = .ok (.iload_n 1, 1) := by decide +kernel
theorem dX3_unsettled_13 : decode cX3_unsettled 13 = .ok (.aload_n 0, 1) := by decide +kernel
theorem dX3_unsettled_14 : decode cX3_unsettled 14 = .ok (.getfield 65, 3) := by decide +kernel
theorem dX3_unsettled_17 : decode cX3_unsettled 17 = .ok (.iload_n 2, 1) := by decide +kernel
theorem dX3_unsettled_18 : decode cX3_unsettled 18 = .ok (.baload, 1) := by decide +kernel
theorem dX3_unsettled_19 : decode cX3_unsettled 19 = .ok (.ifCond .eq 7, 3) := by decide +kernel
theorem dX3_unsettled_22 : decode cX3_unsettled 22 = .ok (.iconst 0, 1) := by decide +kernel
theorem dX3_unsettled_23 : decode cX3_unsettled 23 = .ok (.goto 4, 3) := by decide +kernel
theorem dX3_unsettled_26 : decode cX3_unsettled 26 = .ok (.iconst 1, 1) := by decide +kernel
theorem dX3_unsettled_27 : decode cX3_unsettled 27 = .ok (.iadd, 1) := by decide +kernel
theorem dX3_unsettled_28 : decode cX3_unsettled 28 = .ok (.istore_n 1, 1) := by decide +kernel
theorem dX3_unsettled_29 : decode cX3_unsettled 29 = .ok (.iinc 2 1, 3) := by decide +kernel
theorem dX3_unsettled_32 : decode cX3_unsettled 32 = .ok (.goto (-28), 3) := by decide +kernel
theorem dX3_unsettled_35 : decode cX3_unsettled 35 = .ok (.iload_n 1, 1) := by decide +kernel
theorem dX3_unsettled_36 : decode cX3_unsettled 36 = .ok (.ireturn, 1) := by decide +kernel
theorem dX3_allowance_0 : decode cX3_allowance 0 = .ok (.aload_n 0, 1) := by decide +kernel
theorem dX3_allowance_1 : decode cX3_allowance 1 = .ok (.getfield 22, 3) := by decide +kernel
theorem dX3_allowance_4 : decode cX3_allowance 4 = .ok (.iload_n 1, 1) := by decide +kernel
theorem dX3_allowance_5 : decode cX3_allowance 5 = .ok (.iaload, 1) := by decide +kernel
theorem dX3_allowance_6 : decode cX3_allowance 6 = .ok (.iconst 1, 1) := by decide +kernel
theorem dX3_allowance_7 : decode cX3_allowance 7 = .ok (.if_icmp .ne 17, 3) := by decide +kernel
theorem dX3_allowance_10 : decode cX3_allowance 10 = .ok (.aload_n 0, 1) := by decide +kernel
theorem dX3_allowance_11 : decode cX3_allowance 11 = .ok (.getfield 40, 3) := by decide +kernel
theorem dX3_allowance_14 : decode cX3_allowance 14 = .ok (.aload_n 0, 1) := by decide +kernel
theorem dX3_allowance_15 : decode cX3_allowance 15 = .ok (.getfield 7, 3) := by decide +kernel
theorem dX3_allowance_18 : decode cX3_allowance 18 = .ok (.iload_n 1, 1) := by decide +kernel
theorem dX3_allowance_19 : decode cX3_allowance 19 = .ok (.iaload, 1) := by decide +kernel
theorem dX3_allowance_20 : decode cX3_allowance 20 = .ok (.iaload, 1) := by decide +kernel
theorem dX3_allowance_21 : decode cX3_allowance 21 = .ok (.goto 14, 3) := by decide +kernel
theorem dX3_allowance_24 : decode cX3_allowance 24 = .ok (.aload_n 0, 1) := by decide +kernel
theorem dX3_allowance_25 : decode cX3_allowance 25 = .ok (.getfield 43, 3) := by decide +kernel
theorem dX3_allowance_28 : decode cX3_allowance 28 = .ok (.aload_n 0, 1) := by decide +kernel
theorem dX3_allowance_29 : decode cX3_allowance 29 = .ok (.getfield 7, 3) := by decide +kernel
theorem dX3_allowance_32 : decode cX3_allowance 32 = .ok (.iload_n 1, 1) := by decide +kernel
theorem dX3_allowance_33 : decode cX3_allowance 33 = .ok (.iaload, 1) := by decide +kernel
theorem dX3_allowance_34 : decode cX3_allowance 34 = .ok (.iaload, 1) := by decide +kernel
theorem dX3_allowance_35 : decode cX3_allowance 35 = .ok (.ireturn, 1) := by decide +kernel
theorem dX3_judgedOn_0 : decode cX3_judgedOn 0 = .ok (.aload_n 0, 1) := by decide +kernel
theorem dX3_judgedOn_1 : decode cX3_judgedOn 1 = .ok (.getfield 7, 3) := by decide +kernel
theorem dX3_judgedOn_4 : decode cX3_judgedOn 4 = .ok (.iload_n 1, 1) := by decide +kernel
theorem dX3_judgedOn_5 : decode cX3_judgedOn 5 = .ok (.iaload, 1) := by decide +kernel
theorem dX3_judgedOn_6 : decode cX3_judgedOn 6 = .ok (.ifCond .eq 11, 3) := by decide +kernel
theorem dX3_judgedOn_9 : decode cX3_judgedOn 9 = .ok (.aload_n 0, 1) := by decide +kernel
theorem dX3_judgedOn_10 : decode cX3_judgedOn 10 = .ok (.iload_n 1, 1) := by decide +kernel
theorem dX3_judgedOn_11 : decode cX3_judgedOn 11 = .ok (.invokevirtual 105, 3) := by decide +kernel
theorem dX3_judgedOn_14 : decode cX3_judgedOn 14 = .ok (.ifCond .ne 5, 3) := by decide +kernel
theorem dX3_judgedOn_17 : decode cX3_judgedOn 17 = .ok (.iconst 0, 1) := by decide +kernel
theorem dX3_judgedOn_18 : decode cX3_judgedOn 18 = .ok (.ireturn, 1) := by decide +kernel
theorem dX3_judgedOn_19 : decode cX3_judgedOn 19 = .ok (.aload_n 0, 1) := by decide +kernel
theorem dX3_judgedOn_20 : decode cX3_judgedOn 20 = .ok (.iload_n 1, 1) := by decide +kernel
theorem dX3_judgedOn_21 : decode cX3_judgedOn 21 = .ok (.invokevirtual 132, 3) := by decide +kernel
theorem dX3_judgedOn_24 : decode cX3_judgedOn 24 = .ok (.istore_n 3, 1) := by decide +kernel
theorem dX3_judgedOn_25 : decode cX3_judgedOn 25 = .ok (.aload_n 0, 1) := by decide +kernel
theorem dX3_judgedOn_26 : decode cX3_judgedOn 26 = .ok (.iload_n 1, 1) := by decide +kernel
theorem dX3_judgedOn_27 : decode cX3_judgedOn 27 = .ok (.invokevirtual 114, 3) := by decide +kernel
theorem dX3_judgedOn_30 : decode cX3_judgedOn 30 = .ok (.aload_n 0, 1) := by decide +kernel
theorem dX3_judgedOn_31 : decode cX3_judgedOn 31 = .ok (.iload_n 1, 1) := by decide +kernel
theorem dX3_judgedOn_32 : decode cX3_judgedOn 32 = .ok (.iload_n 2, 1) := by decide +kernel
end
section
theorem dX3_judgedOn_33 : decode cX3_judgedOn 33 = .ok (.invokevirtual 121, 3) := by decide +kernel
theorem dX3_judgedOn_36 : decode cX3_judgedOn 36 = .ok (.isub, 1) := by decide +kernel
theorem dX3_judgedOn_37 : decode cX3_judgedOn 37 = .ok (.istore 4, 2) := by decide +kernel
theorem dX3_judgedOn_39 : decode cX3_judgedOn 39 = .ok (.aload_n 0, 1) := by decide +kernel
theorem dX3_judgedOn_40 : decode cX3_judgedOn 40 = .ok (.iload_n 1, 1) := by decide +kernel
theorem dX3_judgedOn_41 : decode cX3_judgedOn 41 = .ok (.invokevirtual 114, 3) := by decide +kernel
theorem dX3_judgedOn_44 : decode cX3_judgedOn 44 = .ok (.aload_n 0, 1) := by decide +kernel
theorem dX3_judgedOn_45 : decode cX3_judgedOn 45 = .ok (.iload_n 1, 1) := by decide +kernel
theorem dX3_judgedOn_46 : decode cX3_judgedOn 46 = .ok (.iload_n 2, 1) := by decide +kernel
theorem dX3_judgedOn_47 : decode cX3_judgedOn 47 = .ok (.invokevirtual 121, 3) := by decide +kernel
theorem dX3_judgedOn_50 : decode cX3_judgedOn 50 = .ok (.iadd, 1) := by decide +kernel
theorem dX3_judgedOn_51 : decode cX3_judgedOn 51 = .ok (.istore 5, 2) := by decide +kernel
theorem dX3_judgedOn_53 : decode cX3_judgedOn 53 = .ok (.iload 4, 2) := by decide +kernel
theorem dX3_judgedOn_55 : decode cX3_judgedOn 55 = .ok (.iload_n 3, 1) := by decide +kernel
theorem dX3_judgedOn_56 : decode cX3_judgedOn 56 = .ok (.ineg, 1) := by decide +kernel
theorem dX3_judgedOn_57 : decode cX3_judgedOn 57 = .ok (.if_icmp .lt 11, 3) := by decide +kernel
theorem dX3_judgedOn_60 : decode cX3_judgedOn 60 = .ok (.iload 5, 2) := by decide +kernel
theorem dX3_judgedOn_62 : decode cX3_judgedOn 62 = .ok (.iload_n 3, 1) := by decide +kernel
theorem dX3_judgedOn_63 : decode cX3_judgedOn 63 = .ok (.if_icmp .gt 5, 3) := by decide +kernel
theorem dX3_judgedOn_66 : decode cX3_judgedOn 66 = .ok (.iconst 1, 1) := by decide +kernel
theorem dX3_judgedOn_67 : decode cX3_judgedOn 67 = .ok (.ireturn, 1) := by decide +kernel
theorem dX3_judgedOn_68 : decode cX3_judgedOn 68 = .ok (.iload 4, 2) := by decide +kernel
theorem dX3_judgedOn_70 : decode cX3_judgedOn 70 = .ok (.iload_n 3, 1) := by decide +kernel
theorem dX3_judgedOn_71 : decode cX3_judgedOn 71 = .ok (.if_icmp .gt 10, 3) := by decide +kernel
theorem dX3_judgedOn_74 : decode cX3_judgedOn 74 = .ok (.iload 5, 2) := by decide +kernel
theorem dX3_judgedOn_76 : decode cX3_judgedOn 76 = .ok (.iload_n 3, 1) := by decide +kernel
theorem dX3_judgedOn_77 : decode cX3_judgedOn 77 = .ok (.ineg, 1) := by decide +kernel
theorem dX3_judgedOn_78 : decode cX3_judgedOn 78 = .ok (.if_icmp .ge 7, 3) := by decide +kernel
theorem dX3_judgedOn_81 : decode cX3_judgedOn 81 = .ok (.iconst 3, 1) := by decide +kernel
theorem dX3_judgedOn_82 : decode cX3_judgedOn 82 = .ok (.goto 4, 3) := by decide +kernel
theorem dX3_judgedOn_85 : decode cX3_judgedOn 85 = .ok (.iconst 2, 1) := by decide +kernel
theorem dX3_judgedOn_86 : decode cX3_judgedOn 86 = .ok (.ireturn, 1) := by decide +kernel
theorem dX3_judge_0 : decode cX3_judge 0 = .ok (.aload_n 0, 1) := by decide +kernel
theorem dX3_judge_1 : decode cX3_judge 1 = .ok (.iload_n 1, 1) := by decide +kernel
theorem dX3_judge_2 : decode cX3_judge 2 = .ok (.invokevirtual 96, 3) := by decide +kernel
theorem dX3_judge_5 : decode cX3_judge 5 = .ok (.ifCond .eq 15, 3) := by decide +kernel
theorem dX3_judge_8 : decode cX3_judge 8 = .ok (.aload_n 0, 1) := by decide +kernel
theorem dX3_judge_9 : decode cX3_judge 9 = .ok (.iload_n 1, 1) := by decide +kernel
theorem dX3_judge_10 : decode cX3_judge 10 = .ok (.aload_n 0, 1) := by decide +kernel
theorem dX3_judge_11 : decode cX3_judge 11 = .ok (.getfield 92, 3) := by decide +kernel
theorem dX3_judge_14 : decode cX3_judge 14 = .ok (.invokevirtual 135, 3) := by decide +kernel
theorem dX3_judge_17 : decode cX3_judge 17 = .ok (.goto 4, 3) := by decide +kernel
theorem dX3_judge_20 : decode cX3_judge 20 = .ok (.iconst (-1), 1) := by decide +kernel
theorem dX3_judge_21 : decode cX3_judge 21 = .ok (.ireturn, 1) := by decide +kernel
theorem dX3_stays_0 : decode cX3_stays 0 = .ok (.aload_n 0, 1) := by decide +kernel
theorem dX3_stays_1 : decode cX3_stays 1 = .ok (.iload_n 1, 1) := by decide +kernel
theorem dX3_stays_2 : decode cX3_stays 2 = .ok (.invokevirtual 96, 3) := by decide +kernel
theorem dX3_stays_5 : decode cX3_stays 5 = .ok (.ifCond .ne 5, 3) := by decide +kernel
theorem dX3_stays_8 : decode cX3_stays 8 = .ok (.iconst (-1), 1) := by decide +kernel
theorem dX3_stays_9 : decode cX3_stays 9 = .ok (.ireturn, 1) := by decide +kernel
theorem dX3_stays_10 : decode cX3_stays 10 = .ok (.aload_n 0, 1) := by decide +kernel
theorem dX3_stays_11 : decode cX3_stays 11 = .ok (.iload_n 1, 1) := by decide +kernel
theorem dX3_stays_12 : decode cX3_stays 12 = .ok (.aload_n 0, 1) := by decide +kernel
theorem dX3_stays_13 : decode cX3_stays 13 = .ok (.getfield 92, 3) := by decide +kernel
theorem dX3_stays_16 : decode cX3_stays 16 = .ok (.invokevirtual 135, 3) := by decide +kernel
theorem dX3_stays_19 : decode cX3_stays 19 = .ok (.istore_n 2, 1) := by decide +kernel
theorem dX3_stays_20 : decode cX3_stays 20 = .ok (.iload_n 2, 1) := by decide +kernel
theorem dX3_stays_21 : decode cX3_stays 21 = .ok (.ifCond .ne 6, 3) := by decide +kernel
theorem dX3_stays_24 : decode cX3_stays 24 = .ok (.ldc 95, 2) := by decide +kernel
theorem dX3_stays_26 : decode cX3_stays 26 = .ok (.ireturn, 1) := by decide +kernel
theorem dX3_stays_27 : decode cX3_stays 27 = .ok (.iconst 0, 1) := by decide +kernel
theorem dX3_stays_28 : decode cX3_stays 28 = .ok (.istore_n 3, 1) := by decide +kernel
theorem dX3_stays_29 : decode cX3_stays 29 = .ok (.iload_n 3, 1) := by decide +kernel
theorem dX3_stays_30 : decode cX3_stays 30 = .ok (.sipush 20000, 3) := by decide +kernel
theorem dX3_stays_33 : decode cX3_stays 33 = .ok (.if_icmp .ge 26, 3) := by decide +kernel
theorem dX3_stays_36 : decode cX3_stays 36 = .ok (.aload_n 0, 1) := by decide +kernel
theorem dX3_stays_37 : decode cX3_stays 37 = .ok (.iload_n 1, 1) := by decide +kernel
theorem dX3_stays_38 : decode cX3_stays 38 = .ok (.aload_n 0, 1) := by decide +kernel
theorem dX3_stays_39 : decode cX3_stays 39 = .ok (.getfield 92, 3) := by decide +kernel
theorem dX3_stays_42 : decode cX3_stays 42 = .ok (.iload_n 3, 1) := by decide +kernel
theorem dX3_stays_43 : decode cX3_stays 43 = .ok (.iadd, 1) := by decide +kernel
theorem dX3_stays_44 : decode cX3_stays 44 = .ok (.iconst 1, 1) := by decide +kernel
theorem dX3_stays_45 : decode cX3_stays 45 = .ok (.iadd, 1) := by decide +kernel
theorem dX3_stays_46 : decode cX3_stays 46 = .ok (.invokevirtual 135, 3) := by decide +kernel
theorem dX3_stays_49 : decode cX3_stays 49 = .ok (.iload_n 2, 1) := by decide +kernel
theorem dX3_stays_50 : decode cX3_stays 50 = .ok (.if_icmp .ne 9, 3) := by decide +kernel
theorem dX3_stays_53 : decode cX3_stays 53 = .ok (.iinc 3 1, 3) := by decide +kernel
theorem dX3_stays_56 : decode cX3_stays 56 = .ok (.goto (-27), 3) := by decide +kernel
theorem dX3_stays_59 : decode cX3_stays 59 = .ok (.iload_n 3, 1) := by decide +kernel
theorem dX3_stays_60 : decode cX3_stays 60 = .ok (.ireturn, 1) := by decide +kernel
theorem dX3_seal_0 : decode cX3_seal 0 = .ok (.aload_n 0, 1) := by decide +kernel
theorem dX3_seal_1 : decode cX3_seal 1 = .ok (.iload_n 1, 1) := by decide +kernel
theorem dX3_seal_2 : decode cX3_seal 2 = .ok (.invokevirtual 96, 3) := by decide +kernel
theorem dX3_seal_5 : decode cX3_seal 5 = .ok (.ifCond .ne 5, 3) := by decide +kernel
theorem dX3_seal_8 : decode cX3_seal 8 = .ok (.iconst (-1), 1) := by decide +kernel
theorem dX3_seal_9 : decode cX3_seal 9 = .ok (.ireturn, 1) := by decide +kernel
theorem dX3_seal_10 : decode cX3_seal 10 = .ok (.iload_n 2, 1) := by decide +kernel
theorem dX3_seal_11 : decode cX3_seal 11 = .ok (.iconst 1, 1) := by decide +kernel
theorem dX3_seal_12 : decode cX3_seal 12 = .ok (.sipush 9999, 3) := by decide +kernel
theorem dX3_seal_15 : decode cX3_seal 15 = .ok (.invokestatic 88, 3) := by decide +kernel
theorem dX3_seal_18 : decode cX3_seal 18 = .ok (.ifCond .ne 6, 3) := by decide +kernel
theorem dX3_seal_21 : decode cX3_seal 21 = .ok (.bipush (-2), 2) := by decide +kernel
theorem dX3_seal_23 : decode cX3_seal 23 = .ok (.ireturn, 1) := by decide +kernel
theorem dX3_seal_24 : decode cX3_seal 24 = .ok (.aload_n 0, 1) := by decide +kernel
theorem dX3_seal_25 : decode cX3_seal 25 = .ok (.iload_n 1, 1) := by decide +kernel
theorem dX3_seal_26 : decode cX3_seal 26 = .ok (.invokevirtual 102, 3) := by decide +kernel
theorem dX3_seal_29 : decode cX3_seal 29 = .ok (.ifCond .eq 25, 3) := by decide +kernel
theorem dX3_seal_32 : decode cX3_seal 32 = .ok (.aload_n 0, 1) := by decide +kernel
theorem dX3_seal_33 : decode cX3_seal 33 = .ok (.iload_n 1, 1) := by decide +kernel
theorem dX3_seal_34 : decode cX3_seal 34 = .ok (.aload_n 0, 1) := by decide +kernel
theorem dX3_seal_35 : decode cX3_seal 35 = .ok (.getfield 92, 3) := by decide +kernel
theorem dX3_seal_38 : decode cX3_seal 38 = .ok (.invokevirtual 135, 3) := by decide +kernel
theorem dX3_seal_41 : decode cX3_seal 41 = .ok (.iconst 1, 1) := by decide +kernel
theorem dX3_seal_42 : decode cX3_seal 42 = .ok (.if_icmp .ne 12, 3) := by decide +kernel
theorem dX3_seal_45 : decode cX3_seal 45 = .ok (.aload_n 0, 1) := by decide +kernel
theorem dX3_seal_46 : decode cX3_seal 46 = .ok (.getfield 46, 3) := by decide +kernel
theorem dX3_seal_49 : decode cX3_seal 49 = .ok (.iload_n 2, 1) := by decide +kernel
theorem dX3_seal_50 : decode cX3_seal 50 = .ok (.baload, 1) := by decide +kernel
theorem dX3_seal_51 : decode cX3_seal 51 = .ok (.ifCond .eq 6, 3) := by decide +kernel
theorem dX3_seal_54 : decode cX3_seal 54 = .ok (.bipush (-3), 2) := by decide +kernel
theorem dX3_seal_56 : decode cX3_seal 56 = .ok (.ireturn, 1) := by decide +kernel
theorem dX3_seal_57 : decode cX3_seal 57 = .ok (.aload_n 0, 1) := by decide +kernel
theorem dX3_seal_58 : decode cX3_seal 58 = .ok (.getfield 46, 3) := by decide +kernel
theorem dX3_seal_61 : decode cX3_seal 61 = .ok (.iload_n 2, 1) := by decide +kernel
theorem dX3_seal_62 : decode cX3_seal 62 = .ok (.iconst 1, 1) := by decide +kernel
theorem dX3_seal_63 : decode cX3_seal 63 = .ok (.bastore, 1) := by decide +kernel
theorem dX3_seal_64 : decode cX3_seal 64 = .ok (.aload_n 0, 1) := by decide +kernel
theorem dX3_seal_65 : decode cX3_seal 65 = .ok (.getfield 28, 3) := by decide +kernel
theorem dX3_seal_68 : decode cX3_seal 68 = .ok (.iload_n 1, 1) := by decide +kernel
theorem dX3_seal_69 : decode cX3_seal 69 = .ok (.iload_n 2, 1) := by decide +kernel
theorem dX3_seal_70 : decode cX3_seal 70 = .ok (.iastore, 1) := by decide +kernel
theorem dX3_seal_71 : decode cX3_seal 71 = .ok (.iconst 1, 1) := by decide +kernel
theorem dX3_seal_72 : decode cX3_seal 72 = .ok (.ireturn, 1) := by decide +kernel
theorem dX3_sealed_0 : decode cX3_sealed 0 = .ok (.iload_n 1, 1) := by decide +kernel
theorem dX3_sealed_1 : decode cX3_sealed 1 = .ok (.iconst 1, 1) := by decide +kernel
theorem dX3_sealed_2 : decode cX3_sealed 2 = .ok (.sipush 9999, 3) := by decide +kernel
theorem dX3_sealed_5 : decode cX3_sealed 5 = .ok (.invokestatic 88, 3) := by decide +kernel
theorem dX3_sealed_8 : decode cX3_sealed 8 = .ok (.ifCond .ne 6, 3) := by decide +kernel
theorem dX3_sealed_11 : decode cX3_sealed 11 = .ok (.bipush (-2), 2) := by decide +kernel
theorem dX3_sealed_13 : decode cX3_sealed 13 = .ok (.ireturn, 1) := by decide +kernel
theorem dX3_sealed_14 : decode cX3_sealed 14 = .ok (.iconst 0, 1) := by decide +kernel
theorem dX3_sealed_15 : decode cX3_sealed 15 = .ok (.istore_n 2, 1) := by decide +kernel
theorem dX3_sealed_16 : decode cX3_sealed 16 = .ok (.iload_n 2, 1) := by decide +kernel
theorem dX3_sealed_17 : decode cX3_sealed 17 = .ok (.aload_n 0, 1) := by decide +kernel
theorem dX3_sealed_18 : decode cX3_sealed 18 = .ok (.getfield 84, 3) := by decide +kernel
theorem dX3_sealed_21 : decode cX3_sealed 21 = .ok (.if_icmp .ge 21, 3) := by decide +kernel
theorem dX3_sealed_24 : decode cX3_sealed 24 = .ok (.aload_n 0, 1) := by decide +kernel
theorem dX3_sealed_25 : decode cX3_sealed 25 = .ok (.getfield 28, 3) := by decide +kernel
theorem dX3_sealed_28 : decode cX3_sealed 28 = .ok (.iload_n 2, 1) := by decide +kernel
theorem dX3_sealed_29 : decode cX3_sealed 29 = .ok (.iaload, 1) := by decide +kernel
theorem dX3_sealed_30 : decode cX3_sealed 30 = .ok (.iload_n 1, 1) := by decide +kernel
theorem dX3_sealed_31 : decode cX3_sealed 31 = .ok (.if_icmp .ne 5, 3) := by decide +kernel
theorem dX3_sealed_34 : decode cX3_sealed 34 = .ok (.iload_n 2, 1) := by decide +kernel
theorem dX3_sealed_35 : decode cX3_sealed 35 = .ok (.ireturn, 1) := by decide +kernel
theorem dX3_sealed_36 : decode cX3_sealed 36 = .ok (.iinc 2 1, 3) := by decide +kernel
theorem dX3_sealed_39 : decode cX3_sealed 39 = .ok (.goto (-23), 3) := by decide +kernel
theorem dX3_sealed_42 : decode cX3_sealed 42 = .ok (.ldc 95, 2) := by decide +kernel
theorem dX3_sealed_44 : decode cX3_sealed 44 = .ok (.ireturn, 1) := by decide +kernel
theorem dX3_charge_0 : decode cX3_charge 0 = .ok (.aload_n 0, 1) := by decide +kernel
theorem dX3_charge_1 : decode cX3_charge 1 = .ok (.iload_n 1, 1) := by decide +kernel
theorem dX3_charge_2 : decode cX3_charge 2 = .ok (.invokevirtual 96, 3) := by decide +kernel
theorem dX3_charge_5 : decode cX3_charge 5 = .ok (.ifCond .ne 5, 3) := by decide +kernel
theorem dX3_charge_8 : decode cX3_charge 8 = .ok (.iconst (-1), 1) := by decide +kernel
theorem dX3_charge_9 : decode cX3_charge 9 = .ok (.ireturn, 1) := by decide +kernel
theorem dX3_charge_10 : decode cX3_charge 10 = .ok (.aload_n 0, 1) := by decide +kernel
theorem dX3_charge_11 : decode cX3_charge 11 = .ok (.iload_n 1, 1) := by decide +kernel
theorem dX3_charge_12 : decode cX3_charge 12 = .ok (.invokevirtual 102, 3) := by decide +kernel
theorem dX3_charge_15 : decode cX3_charge 15 = .ok (.ifCond .eq 48, 3) := by decide +kernel
theorem dX3_charge_18 : decode cX3_charge 18 = .ok (.aload_n 0, 1) := by decide +kernel
theorem dX3_charge_19 : decode cX3_charge 19 = .ok (.iload_n 1, 1) := by decide +kernel
theorem dX3_charge_20 : decode cX3_charge 20 = .ok (.aload_n 0, 1) := by decide +kernel
theorem dX3_charge_21 : decode cX3_charge 21 = .ok (.getfield 92, 3) := by decide +kernel
theorem dX3_charge_24 : decode cX3_charge 24 = .ok (.invokevirtual 135, 3) := by decide +kernel
theorem dX3_charge_27 : decode cX3_charge 27 = .ok (.iconst 3, 1) := by decide +kernel
theorem dX3_charge_28 : decode cX3_charge 28 = .ok (.if_icmp .ne 35, 3) := by decide +kernel
theorem dX3_charge_31 : decode cX3_charge 31 = .ok (.aload_n 0, 1) := by decide +kernel
theorem dX3_charge_32 : decode cX3_charge 32 = .ok (.getfield 56, 3) := by decide +kernel
theorem dX3_charge_35 : decode cX3_charge 35 = .ok (.aload_n 0, 1) := by decide +kernel
theorem dX3_charge_36 : decode cX3_charge 36 = .ok (.getfield 25, 3) := by decide +kernel
theorem dX3_charge_39 : decode cX3_charge 39 = .ok (.iload_n 1, 1) := by decide +kernel
theorem dX3_charge_40 : decode cX3_charge 40 = .ok (.iaload, 1) := by decide +kernel
theorem dX3_charge_41 : decode cX3_charge 41 = .ok (.iaload, 1) := by decide +kernel
theorem dX3_charge_42 : decode cX3_charge 42 = .ok (.aload_n 0, 1) := by decide +kernel
theorem dX3_charge_43 : decode cX3_charge 43 = .ok (.getfield 92, 3) := by decide +kernel
theorem dX3_charge_46 : decode cX3_charge 46 = .ok (.if_icmp .ne 17, 3) := by decide +kernel
theorem dX3_charge_49 : decode cX3_charge 49 = .ok (.aload_n 0, 1) := by decide +kernel
theorem dX3_charge_50 : decode cX3_charge 50 = .ok (.getfield 74, 3) := by decide +kernel
theorem dX3_charge_53 : decode cX3_charge 53 = .ok (.aload_n 0, 1) := by decide +kernel
theorem dX3_charge_54 : decode cX3_charge 54 = .ok (.getfield 25, 3) := by decide +kernel
theorem dX3_charge_57 : decode cX3_charge 57 = .ok (.iload_n 1, 1) := by decide +kernel
theorem dX3_charge_58 : decode cX3_charge 58 = .ok (.iaload, 1) := by decide +kernel
theorem dX3_charge_59 : decode cX3_charge 59 = .ok (.baload, 1) := by decide +kernel
theorem dX3_charge_60 : decode cX3_charge 60 = .ok (.ifCond .eq 6, 3) := by decide +kernel
theorem dX3_charge_63 : decode cX3_charge 63 = .ok (.bipush (-3), 2) := by decide +kernel
theorem dX3_charge_65 : decode cX3_charge 65 = .ok (.ireturn, 1) := by decide +kernel
theorem dX3_charge_66 : decode cX3_charge 66 = .ok (.aload_n 0, 1) := by decide +kernel
theorem dX3_charge_67 : decode cX3_charge 67 = .ok (.getfield 74, 3) := by decide +kernel
theorem dX3_charge_70 : decode cX3_charge 70 = .ok (.aload_n 0, 1) := by decide +kernel
theorem dX3_charge_71 : decode cX3_charge 71 = .ok (.getfield 25, 3) := by decide +kernel
theorem dX3_charge_74 : decode cX3_charge 74 = .ok (.iload_n 1, 1) := by decide +kernel
theorem dX3_charge_75 : decode cX3_charge 75 = .ok (.iaload, 1) := by decide +kernel
theorem dX3_charge_76 : decode cX3_charge 76 = .ok (.iconst 1, 1) := by decide +kernel
theorem dX3_charge_77 : decode cX3_charge 77 = .ok (.bastore, 1) := by decide +kernel
theorem dX3_charge_78 : decode cX3_charge 78 = .ok (.aload_n 0, 1) := by decide +kernel
theorem dX3_charge_79 : decode cX3_charge 79 = .ok (.getfield 19, 3) := by decide +kernel
theorem dX3_charge_82 : decode cX3_charge 82 = .ok (.iload_n 1, 1) := by decide +kernel
theorem dX3_charge_83 : decode cX3_charge 83 = .ok (.iaload, 1) := by decide +kernel
theorem dX3_charge_84 : decode cX3_charge 84 = .ok (.istore_n 2, 1) := by decide +kernel
theorem dX3_charge_85 : decode cX3_charge 85 = .ok (.aload_n 0, 1) := by decide +kernel
theorem dX3_charge_86 : decode cX3_charge 86 = .ok (.getfield 31, 3) := by decide +kernel
theorem dX3_charge_89 : decode cX3_charge 89 = .ok (.iload_n 1, 1) := by decide +kernel
theorem dX3_charge_90 : decode cX3_charge 90 = .ok (.dup2, 1) := by decide +kernel
theorem dX3_charge_91 : decode cX3_charge 91 = .ok (.iaload, 1) := by decide +kernel
theorem dX3_charge_92 : decode cX3_charge 92 = .ok (.iconst 1, 1) := by decide +kernel
theorem dX3_charge_93 : decode cX3_charge 93 = .ok (.iadd, 1) := by decide +kernel
theorem dX3_charge_94 : decode cX3_charge 94 = .ok (.iastore, 1) := by decide +kernel
theorem dX3_charge_95 : decode cX3_charge 95 = .ok (.aload_n 0, 1) := by decide +kernel
theorem dX3_charge_96 : decode cX3_charge 96 = .ok (.dup, 1) := by decide +kernel
theorem dX3_charge_97 : decode cX3_charge 97 = .ok (.getfield 138, 3) := by decide +kernel
theorem dX3_charge_100 : decode cX3_charge 100 = .ok (.iconst 1, 1) := by decide +kernel
theorem dX3_charge_101 : decode cX3_charge 101 = .ok (.iadd, 1) := by decide +kernel
theorem dX3_charge_102 : decode cX3_charge 102 = .ok (.putfield 138, 3) := by decide +kernel
theorem dX3_charge_105 : decode cX3_charge 105 = .ok (.aload_n 0, 1) := by decide +kernel
theorem dX3_charge_106 : decode cX3_charge 106 = .ok (.getfield 77, 3) := by decide +kernel
theorem dX3_charge_109 : decode cX3_charge 109 = .ok (.iload_n 2, 1) := by decide +kernel
theorem dX3_charge_110 : decode cX3_charge 110 = .ok (.dup2, 1) := by decide +kernel
theorem dX3_charge_111 : decode cX3_charge 111 = .ok (.iaload, 1) := by decide +kernel
theorem dX3_charge_112 : decode cX3_charge 112 = .ok (.iconst 1, 1) := by decide +kernel
theorem dX3_charge_113 : decode cX3_charge 113 = .ok (.iadd, 1) := by decide +kernel
theorem dX3_charge_114 : decode cX3_charge 114 = .ok (.iastore, 1) := by decide +kernel
theorem dX3_charge_115 : decode cX3_charge 115 = .ok (.aload_n 0, 1) := by decide +kernel
theorem dX3_charge_116 : decode cX3_charge 116 = .ok (.iload_n 1, 1) := by decide +kernel
theorem dX3_charge_117 : decode cX3_charge 117 = .ok (.invokevirtual 114, 3) := by decide +kernel
theorem dX3_charge_120 : decode cX3_charge 120 = .ok (.ifCond .ge 12, 3) := by decide +kernel
theorem dX3_charge_123 : decode cX3_charge 123 = .ok (.aload_n 0, 1) := by decide +kernel
theorem dX3_charge_124 : decode cX3_charge 124 = .ok (.iload_n 1, 1) := by decide +kernel
theorem dX3_charge_125 : decode cX3_charge 125 = .ok (.invokevirtual 114, 3) := by decide +kernel
theorem dX3_charge_128 : decode cX3_charge 128 = .ok (.ineg, 1) := by decide +kernel
theorem dX3_charge_129 : decode cX3_charge 129 = .ok (.goto 8, 3) := by decide +kernel
theorem dX3_charge_132 : decode cX3_charge 132 = .ok (.aload_n 0, 1) := by decide +kernel
theorem dX3_charge_133 : decode cX3_charge 133 = .ok (.iload_n 1, 1) := by decide +kernel
theorem dX3_charge_134 : decode cX3_charge 134 = .ok (.invokevirtual 114, 3) := by decide +kernel
theorem dX3_charge_137 : decode cX3_charge 137 = .ok (.istore_n 3, 1) := by decide +kernel
theorem dX3_charge_138 : decode cX3_charge 138 = .ok (.iload_n 3, 1) := by decide +kernel
theorem dX3_charge_139 : decode cX3_charge 139 = .ok (.aload_n 0, 1) := by decide +kernel
theorem dX3_charge_140 : decode cX3_charge 140 = .ok (.iload_n 1, 1) := by decide +kernel
theorem dX3_charge_141 : decode cX3_charge 141 = .ok (.aload_n 0, 1) := by decide +kernel
theorem dX3_charge_142 : decode cX3_charge 142 = .ok (.getfield 92, 3) := by decide +kernel
theorem dX3_charge_145 : decode cX3_charge 145 = .ok (.invokevirtual 121, 3) := by decide +kernel
theorem dX3_charge_148 : decode cX3_charge 148 = .ok (.isub, 1) := by decide +kernel
theorem dX3_charge_149 : decode cX3_charge 149 = .ok (.aload_n 0, 1) := by decide +kernel
theorem dX3_charge_150 : decode cX3_charge 150 = .ok (.iload_n 1, 1) := by decide +kernel
theorem dX3_charge_151 : decode cX3_charge 151 = .ok (.invokevirtual 132, 3) := by decide +kernel
theorem dX3_charge_154 : decode cX3_charge 154 = .ok (.isub, 1) := by decide +kernel
theorem dX3_charge_155 : decode cX3_charge 155 = .ok (.istore 4, 2) := by decide +kernel
theorem dX3_charge_157 : decode cX3_charge 157 = .ok (.bipush 10, 2) := by decide +kernel
theorem dX3_charge_159 : decode cX3_charge 159 = .ok (.iload 4, 2) := by decide +kernel
theorem dX3_charge_161 : decode cX3_charge 161 = .ok (.imul, 1) := by decide +kernel
theorem dX3_charge_162 : decode cX3_charge 162 = .ok (.aload_n 0, 1) := by decide +kernel
theorem dX3_charge_163 : decode cX3_charge 163 = .ok (.getfield 77, 3) := by decide +kernel
theorem dX3_charge_166 : decode cX3_charge 166 = .ok (.iload_n 2, 1) := by decide +kernel
theorem dX3_charge_167 : decode cX3_charge 167 = .ok (.iaload, 1) := by decide +kernel
theorem dX3_charge_168 : decode cX3_charge 168 = .ok (.iconst 5, 1) := by decide +kernel
theorem dX3_charge_169 : decode cX3_charge 169 = .ok (.if_icmp .ge 12, 3) := by decide +kernel
theorem dX3_charge_172 : decode cX3_charge 172 = .ok (.aload_n 0, 1) := by decide +kernel
theorem dX3_charge_173 : decode cX3_charge 173 = .ok (.getfield 77, 3) := by decide +kernel
theorem dX3_charge_176 : decode cX3_charge 176 = .ok (.iload_n 2, 1) := by decide +kernel
theorem dX3_charge_177 : decode cX3_charge 177 = .ok (.iaload, 1) := by decide +kernel
theorem dX3_charge_178 : decode cX3_charge 178 = .ok (.goto 4, 3) := by decide +kernel
theorem dX3_charge_181 : decode cX3_charge 181 = .ok (.iconst 5, 1) := by decide +kernel
theorem dX3_charge_182 : decode cX3_charge 182 = .ok (.imul, 1) := by decide +kernel
theorem dX3_charge_183 : decode cX3_charge 183 = .ok (.istore 5, 2) := by decide +kernel
theorem dX3_charge_185 : decode cX3_charge 185 = .ok (.aload_n 0, 1) := by decide +kernel
theorem dX3_charge_186 : decode cX3_charge 186 = .ok (.getfield 80, 3) := by decide +kernel
theorem dX3_charge_189 : decode cX3_charge 189 = .ok (.iload_n 2, 1) := by decide +kernel
theorem dX3_charge_190 : decode cX3_charge 190 = .ok (.dup2, 1) := by decide +kernel
theorem dX3_charge_191 : decode cX3_charge 191 = .ok (.laload, 1) := by decide +kernel
theorem dX3_charge_192 : decode cX3_charge 192 = .ok (.iload 5, 2) := by decide +kernel
theorem dX3_charge_194 : decode cX3_charge 194 = .ok (.i2l, 1) := by decide +kernel
theorem dX3_charge_195 : decode cX3_charge 195 = .ok (.ladd, 1) := by decide +kernel
theorem dX3_charge_196 : decode cX3_charge 196 = .ok (.lastore, 1) := by decide +kernel
theorem dX3_charge_197 : decode cX3_charge 197 = .ok (.iload 5, 2) := by decide +kernel
theorem dX3_charge_199 : decode cX3_charge 199 = .ok (.ireturn, 1) := by decide +kernel
theorem dX3_charged_0 : decode cX3_charged 0 = .ok (.iload_n 1, 1) := by decide +kernel
theorem dX3_charged_1 : decode cX3_charged 1 = .ok (.iconst 0, 1) := by decide +kernel
theorem dX3_charged_2 : decode cX3_charged 2 = .ok (.bipush 9, 2) := by decide +kernel
theorem dX3_charged_4 : decode cX3_charged 4 = .ok (.invokestatic 88, 3) := by decide +kernel
theorem dX3_charged_7 : decode cX3_charged 7 = .ok (.ifCond .eq 12, 3) := by decide +kernel
theorem dX3_charged_10 : decode cX3_charged 10 = .ok (.aload_n 0, 1) := by decide +kernel
theorem dX3_charged_11 : decode cX3_charged 11 = .ok (.getfield 80, 3) := by decide +kernel
theorem dX3_charged_14 : decode cX3_charged 14 = .ok (.iload_n 1, 1) := by decide +kernel
theorem dX3_charged_15 : decode cX3_charged 15 = .ok (.laload, 1) := by decide +kernel
theorem dX3_charged_16 : decode cX3_charged 16 = .ok (.goto 6, 3) := by decide +kernel
theorem dX3_charged_19 : decode cX3_charged 19 = .ok (.ldc2_w 141, 3) := by decide +kernel
theorem dX3_charged_22 : decode cX3_charged 22 = .ok (.lreturn, 1) := by decide +kernel
theorem dX3_group_0 : decode cX3_group 0 = .ok (.aload_n 0, 1) := by decide +kernel
theorem dX3_group_1 : decode cX3_group 1 = .ok (.getfield 25, 3) := by decide +kernel
theorem dX3_group_4 : decode cX3_group 4 = .ok (.iload_n 1, 1) := by decide +kernel
theorem dX3_group_5 : decode cX3_group 5 = .ok (.iaload, 1) := by decide +kernel
theorem dX3_group_6 : decode cX3_group 6 = .ok (.ldc 95, 2) := by decide +kernel
theorem dX3_group_8 : decode cX3_group 8 = .ok (.if_icmp .ne 7, 3) := by decide +kernel
theorem dX3_group_11 : decode cX3_group 11 = .ok (.iconst 0, 1) := by decide +kernel
theorem dX3_group_12 : decode cX3_group 12 = .ok (.goto 28, 3) := by decide +kernel
theorem dX3_group_15 : decode cX3_group 15 = .ok (.aload_n 0, 1) := by decide +kernel
theorem dX3_group_16 : decode cX3_group 16 = .ok (.iload_n 1, 1) := by decide +kernel
theorem dX3_group_17 : decode cX3_group 17 = .ok (.invokevirtual 105, 3) := by decide +kernel
theorem dX3_group_20 : decode cX3_group 20 = .ok (.ifCond .ne 7, 3) := by decide +kernel
theorem dX3_group_23 : decode cX3_group 23 = .ok (.iconst 1, 1) := by decide +kernel
theorem dX3_group_24 : decode cX3_group 24 = .ok (.goto 16, 3) := by decide +kernel
theorem dX3_group_27 : decode cX3_group 27 = .ok (.aload_n 0, 1) := by decide +kernel
theorem dX3_group_28 : decode cX3_group 28 = .ok (.iload_n 1, 1) := by decide +kernel
theorem dX3_group_29 : decode cX3_group 29 = .ok (.invokevirtual 108, 3) := by decide +kernel
theorem dX3_group_32 : decode cX3_group 32 = .ok (.ifCond .eq 7, 3) := by decide +kernel
theorem dX3_group_35 : decode cX3_group 35 = .ok (.iconst 2, 1) := by decide +kernel
theorem dX3_group_36 : decode cX3_group 36 = .ok (.goto 4, 3) := by decide +kernel
theorem dX3_group_39 : decode cX3_group 39 = .ok (.iconst 3, 1) := by decide +kernel
theorem dX3_group_40 : decode cX3_group 40 = .ok (.ireturn, 1) := by decide +kernel
theorem dX3_weight_0 : decode cX3_weight 0 = .ok (.aload_n 0, 1) := by decide +kernel
theorem dX3_weight_1 : decode cX3_weight 1 = .ok (.iload_n 1, 1) := by decide +kernel
theorem dX3_weight_2 : decode cX3_weight 2 = .ok (.invokevirtual 114, 3) := by decide +kernel
theorem dX3_weight_5 : decode cX3_weight 5 = .ok (.ifCond .ge 12, 3) := by decide +kernel
theorem dX3_weight_8 : decode cX3_weight 8 = .ok (.aload_n 0, 1) := by decide +kernel
theorem dX3_weight_9 : decode cX3_weight 9 = .ok (.iload_n 1, 1) := by decide +kernel
theorem dX3_weight_10 : decode cX3_weight 10 = .ok (.invokevirtual 114, 3) := by decide +kernel
theorem dX3_weight_13 : decode cX3_weight 13 = .ok (.ineg, 1) := by decide +kernel
theorem dX3_weight_14 : decode cX3_weight 14 = .ok (.goto 8, 3) := by decide +kernel
theorem dX3_weight_17 : decode cX3_weight 17 = .ok (.aload_n 0, 1) := by decide +kernel
theorem dX3_weight_18 : decode cX3_weight 18 = .ok (.iload_n 1, 1) := by decide +kernel
theorem dX3_weight_19 : decode cX3_weight 19 = .ok (.invokevirtual 114, 3) := by decide +kernel
theorem dX3_weight_22 : decode cX3_weight 22 = .ok (.istore_n 2, 1) := by decide +kernel
theorem dX3_weight_23 : decode cX3_weight 23 = .ok (.aload_n 0, 1) := by decide +kernel
theorem dX3_weight_24 : decode cX3_weight 24 = .ok (.getfield 25, 3) := by decide +kernel
theorem dX3_weight_27 : decode cX3_weight 27 = .ok (.iload_n 1, 1) := by decide +kernel
theorem dX3_weight_28 : decode cX3_weight 28 = .ok (.iaload, 1) := by decide +kernel
theorem dX3_weight_29 : decode cX3_weight 29 = .ok (.ldc 95, 2) := by decide +kernel
theorem dX3_weight_31 : decode cX3_weight 31 = .ok (.if_icmp .ne 7, 3) := by decide +kernel
theorem dX3_weight_34 : decode cX3_weight 34 = .ok (.iconst 0, 1) := by decide +kernel
theorem dX3_weight_35 : decode cX3_weight 35 = .ok (.goto 20, 3) := by decide +kernel
theorem dX3_weight_38 : decode cX3_weight 38 = .ok (.iload_n 2, 1) := by decide +kernel
theorem dX3_weight_39 : decode cX3_weight 39 = .ok (.aload_n 0, 1) := by decide +kernel
theorem dX3_weight_40 : decode cX3_weight 40 = .ok (.iload_n 1, 1) := by decide +kernel
theorem dX3_weight_41 : decode cX3_weight 41 = .ok (.aload_n 0, 1) := by decide +kernel
theorem dX3_weight_42 : decode cX3_weight 42 = .ok (.getfield 92, 3) := by decide +kernel
theorem dX3_weight_45 : decode cX3_weight 45 = .ok (.invokevirtual 121, 3) := by decide +kernel
theorem dX3_weight_48 : decode cX3_weight 48 = .ok (.iadd, 1) := by decide +kernel
theorem dX3_weight_49 : decode cX3_weight 49 = .ok (.aload_n 0, 1) := by decide +kernel
theorem dX3_weight_50 : decode cX3_weight 50 = .ok (.iload_n 1, 1) := by decide +kernel
theorem dX3_weight_51 : decode cX3_weight 51 = .ok (.invokevirtual 132, 3) := by decide +kernel
theorem dX3_weight_54 : decode cX3_weight 54 = .ok (.isub, 1) := by decide +kernel
theorem dX3_weight_55 : decode cX3_weight 55 = .ok (.ireturn, 1) := by decide +kernel
theorem dX3_isAhead_0 : decode cX3_isAhead 0 = .ok (.aload_n 0, 1) := by decide +kernel
theorem dX3_isAhead_1 : decode cX3_isAhead 1 = .ok (.iload_n 1, 1) := by decide +kernel
theorem dX3_isAhead_2 : decode cX3_isAhead 2 = .ok (.invokevirtual 143, 3) := by decide +kernel
theorem dX3_isAhead_5 : decode cX3_isAhead 5 = .ok (.aload_n 0, 1) := by decide +kernel
theorem dX3_isAhead_6 : decode cX3_isAhead 6 = .ok (.iload_n 2, 1) := by decide +kernel
theorem dX3_isAhead_7 : decode cX3_isAhead 7 = .ok (.invokevirtual 143, 3) := by decide +kernel
theorem dX3_isAhead_10 : decode cX3_isAhead 10 = .ok (.if_icmp .eq 22, 3) := by decide +kernel
theorem dX3_isAhead_13 : decode cX3_isAhead 13 = .ok (.aload_n 0, 1) := by decide +kernel
theorem dX3_isAhead_14 : decode cX3_isAhead 14 = .ok (.iload_n 1, 1) := by decide +kernel
theorem dX3_isAhead_15 : decode cX3_isAhead 15 = .ok (.invokevirtual 143, 3) := by decide +kernel
theorem dX3_isAhead_18 : decode cX3_isAhead 18 = .ok (.aload_n 0, 1) := by decide +kernel
theorem dX3_isAhead_19 : decode cX3_isAhead 19 = .ok (.iload_n 2, 1) := by decide +kernel
theorem dX3_isAhead_20 : decode cX3_isAhead 20 = .ok (.invokevirtual 143, 3) := by decide +kernel
theorem dX3_isAhead_23 : decode cX3_isAhead 23 = .ok (.if_icmp .ge 7, 3) := by decide +kernel
theorem dX3_isAhead_26 : decode cX3_isAhead 26 = .ok (.iconst 1, 1) := by decide +kernel
theorem dX3_isAhead_27 : decode cX3_isAhead 27 = .ok (.goto 4, 3) := by decide +kernel
theorem dX3_isAhead_30 : decode cX3_isAhead 30 = .ok (.iconst 0, 1) := by decide +kernel
theorem dX3_isAhead_31 : decode cX3_isAhead 31 = .ok (.ireturn, 1) := by decide +kernel
theorem dX3_isAhead_32 : decode cX3_isAhead 32 = .ok (.aload_n 0, 1) := by decide +kernel
theorem dX3_isAhead_33 : decode cX3_isAhead 33 = .ok (.iload_n 1, 1) := by decide +kernel
theorem dX3_isAhead_34 : decode cX3_isAhead 34 = .ok (.invokevirtual 146, 3) := by decide +kernel
theorem dX3_isAhead_37 : decode cX3_isAhead 37 = .ok (.aload_n 0, 1) := by decide +kernel
theorem dX3_isAhead_38 : decode cX3_isAhead 38 = .ok (.iload_n 2, 1) := by decide +kernel
theorem dX3_isAhead_39 : decode cX3_isAhead 39 = .ok (.invokevirtual 146, 3) := by decide +kernel
theorem dX3_isAhead_42 : decode cX3_isAhead 42 = .ok (.if_icmp .eq 24, 3) := by decide +kernel
theorem dX3_isAhead_45 : decode cX3_isAhead 45 = .ok (.aload_n 0, 1) := by decide +kernel
theorem dX3_isAhead_46 : decode cX3_isAhead 46 = .ok (.iload_n 1, 1) := by decide +kernel
theorem dX3_isAhead_47 : decode cX3_isAhead 47 = .ok (.invokevirtual 146, 3) := by decide +kernel
theorem dX3_isAhead_50 : decode cX3_isAhead 50 = .ok (.aload_n 0, 1) := by decide +kernel
theorem dX3_isAhead_51 : decode cX3_isAhead 51 = .ok (.iload_n 2, 1) := by decide +kernel
theorem dX3_isAhead_52 : decode cX3_isAhead 52 = .ok (.invokevirtual 146, 3) := by decide +kernel
theorem dX3_isAhead_55 : decode cX3_isAhead 55 = .ok (.if_icmp .le 7, 3) := by decide +kernel
theorem dX3_isAhead_58 : decode cX3_isAhead 58 = .ok (.iconst 1, 1) := by decide +kernel
theorem dX3_isAhead_59 : decode cX3_isAhead 59 = .ok (.goto 17, 3) := by decide +kernel
theorem dX3_isAhead_62 : decode cX3_isAhead 62 = .ok (.iconst 0, 1) := by decide +kernel
theorem dX3_isAhead_63 : decode cX3_isAhead 63 = .ok (.goto 13, 3) := by decide +kernel
theorem dX3_isAhead_66 : decode cX3_isAhead 66 = .ok (.iload_n 1, 1) := by decide +kernel
theorem dX3_isAhead_67 : decode cX3_isAhead 67 = .ok (.iload_n 2, 1) := by decide +kernel
theorem dX3_isAhead_68 : decode cX3_isAhead 68 = .ok (.if_icmp .ge 7, 3) := by decide +kernel
theorem dX3_isAhead_71 : decode cX3_isAhead 71 = .ok (.iconst 1, 1) := by decide +kernel
theorem dX3_isAhead_72 : decode cX3_isAhead 72 = .ok (.goto 4, 3) := by decide +kernel
theorem dX3_isAhead_75 : decode cX3_isAhead 75 = .ok (.iconst 0, 1) := by decide +kernel
theorem dX3_isAhead_76 : decode cX3_isAhead 76 = .ok (.ireturn, 1) := by decide +kernel
theorem dX3_first_0 : decode cX3_first 0 = .ok (.iconst 0, 1) := by decide +kernel
theorem dX3_first_1 : decode cX3_first 1 = .ok (.istore_n 2, 1) := by decide +kernel
theorem dX3_first_2 : decode cX3_first 2 = .ok (.iload_n 2, 1) := by decide +kernel
theorem dX3_first_3 : decode cX3_first 3 = .ok (.aload_n 0, 1) := by decide +kernel
theorem dX3_first_4 : decode cX3_first 4 = .ok (.getfield 84, 3) := by decide +kernel
theorem dX3_first_7 : decode cX3_first 7 = .ok (.if_icmp .ge 85, 3) := by decide +kernel
theorem dX3_first_10 : decode cX3_first 10 = .ok (.iconst 0, 1) := by decide +kernel
theorem dX3_first_11 : decode cX3_first 11 = .ok (.istore_n 3, 1) := by decide +kernel
theorem dX3_first_12 : decode cX3_first 12 = .ok (.iconst 0, 1) := by decide +kernel
theorem dX3_first_13 : decode cX3_first 13 = .ok (.istore 4, 2) := by decide +kernel
theorem dX3_first_15 : decode cX3_first 15 = .ok (.iload 4, 2) := by decide +kernel
theorem dX3_first_17 : decode cX3_first 17 = .ok (.aload_n 0, 1) := by decide +kernel
theorem dX3_first_18 : decode cX3_first 18 = .ok (.getfield 84, 3) := by decide +kernel
theorem dX3_first_21 : decode cX3_first 21 = .ok (.if_icmp .ge 50, 3) := by decide +kernel
theorem dX3_first_24 : decode cX3_first 24 = .ok (.iload_n 3, 1) := by decide +kernel
theorem dX3_first_25 : decode cX3_first 25 = .ok (.aload_n 0, 1) := by decide +kernel
theorem dX3_first_26 : decode cX3_first 26 = .ok (.iload 4, 2) := by decide +kernel
theorem dX3_first_28 : decode cX3_first 28 = .ok (.invokevirtual 102, 3) := by decide +kernel
theorem dX3_first_31 : decode cX3_first 31 = .ok (.ifCond .eq 31, 3) := by decide +kernel
theorem dX3_first_34 : decode cX3_first 34 = .ok (.aload_n 0, 1) := by decide +kernel
theorem dX3_first_35 : decode cX3_first 35 = .ok (.iload_n 2, 1) := by decide +kernel
theorem dX3_first_36 : decode cX3_first 36 = .ok (.invokevirtual 102, 3) := by decide +kernel
theorem dX3_first_39 : decode cX3_first 39 = .ok (.ifCond .eq 23, 3) := by decide +kernel
theorem dX3_first_42 : decode cX3_first 42 = .ok (.iload 4, 2) := by decide +kernel
theorem dX3_first_44 : decode cX3_first 44 = .ok (.iload_n 2, 1) := by decide +kernel
theorem dX3_first_45 : decode cX3_first 45 = .ok (.if_icmp .eq 17, 3) := by decide +kernel
theorem dX3_first_48 : decode cX3_first 48 = .ok (.aload_n 0, 1) := by decide +kernel
theorem dX3_first_49 : decode cX3_first 49 = .ok (.iload 4, 2) := by decide +kernel
theorem dX3_first_51 : decode cX3_first 51 = .ok (.iload_n 2, 1) := by decide +kernel
theorem dX3_first_52 : decode cX3_first 52 = .ok (.invokevirtual 149, 3) := by decide +kernel
theorem dX3_first_55 : decode cX3_first 55 = .ok (.ifCond .eq 7, 3) := by decide +kernel
theorem dX3_first_58 : decode cX3_first 58 = .ok (.iconst 1, 1) := by decide +kernel
theorem dX3_first_59 : decode cX3_first 59 = .ok (.goto 4, 3) := by decide +kernel
theorem dX3_first_62 : decode cX3_first 62 = .ok (.iconst 0, 1) := by decide +kernel
theorem dX3_first_63 : decode cX3_first 63 = .ok (.iadd, 1) := by decide +kernel
theorem dX3_first_64 : decode cX3_first 64 = .ok (.istore_n 3, 1) := by decide +kernel
theorem dX3_first_65 : decode cX3_first 65 = .ok (.iinc 4 1, 3) := by decide +kernel
theorem dX3_first_68 : decode cX3_first 68 = .ok (.goto (-53), 3) := by decide +kernel
theorem dX3_first_71 : decode cX3_first 71 = .ok (.aload_n 0, 1) := by decide +kernel
theorem dX3_first_72 : decode cX3_first 72 = .ok (.iload_n 2, 1) := by decide +kernel
theorem dX3_first_73 : decode cX3_first 73 = .ok (.invokevirtual 102, 3) := by decide +kernel
theorem dX3_first_76 : decode cX3_first 76 = .ok (.ifCond .eq 10, 3) := by decide +kernel
theorem dX3_first_79 : decode cX3_first 79 = .ok (.iload_n 3, 1) := by decide +kernel
theorem dX3_first_80 : decode cX3_first 80 = .ok (.iload_n 1, 1) := by decide +kernel
theorem dX3_first_81 : decode cX3_first 81 = .ok (.if_icmp .ne 5, 3) := by decide +kernel
theorem dX3_first_84 : decode cX3_first 84 = .ok (.iload_n 2, 1) := by decide +kernel
theorem dX3_first_85 : decode cX3_first 85 = .ok (.ireturn, 1) := by decide +kernel
theorem dX3_first_86 : decode cX3_first 86 = .ok (.iinc 2 1, 3) := by decide +kernel
theorem dX3_first_89 : decode cX3_first 89 = .ok (.goto (-87), 3) := by decide +kernel
theorem dX3_first_92 : decode cX3_first 92 = .ok (.ldc 95, 2) := by decide +kernel
theorem dX3_first_94 : decode cX3_first 94 = .ok (.ireturn, 1) := by decide +kernel
theorem dX3_count_0 : decode cX3_count 0 = .ok (.iload_n 1, 1) := by decide +kernel
theorem dX3_count_1 : decode cX3_count 1 = .ok (.iconst 0, 1) := by decide +kernel
theorem dX3_count_2 : decode cX3_count 2 = .ok (.bipush 7, 2) := by decide +kernel
theorem dX3_count_4 : decode cX3_count 4 = .ok (.invokestatic 88, 3) := by decide +kernel
theorem dX3_count_7 : decode cX3_count 7 = .ok (.ifCond .ne 6, 3) := by decide +kernel
theorem dX3_count_10 : decode cX3_count 10 = .ok (.bipush (-2), 2) := by decide +kernel
theorem dX3_count_12 : decode cX3_count 12 = .ok (.ireturn, 1) := by decide +kernel
theorem dX3_count_13 : decode cX3_count 13 = .ok (.iconst 0, 1) := by decide +kernel
theorem dX3_count_14 : decode cX3_count 14 = .ok (.istore_n 2, 1) := by decide +kernel
theorem dX3_count_15 : decode cX3_count 15 = .ok (.iconst 0, 1) := by decide +kernel
theorem dX3_count_16 : decode cX3_count 16 = .ok (.istore_n 3, 1) := by decide +kernel
theorem dX3_count_17 : decode cX3_count 17 = .ok (.iload_n 3, 1) := by decide +kernel
theorem dX3_count_18 : decode cX3_count 18 = .ok (.aload_n 0, 1) := by decide +kernel
theorem dX3_count_19 : decode cX3_count 19 = .ok (.getfield 84, 3) := by decide +kernel
theorem dX3_count_22 : decode cX3_count 22 = .ok (.if_icmp .ge 70, 3) := by decide +kernel
theorem dX3_count_25 : decode cX3_count 25 = .ok (.iload_n 1, 1) := by decide +kernel
theorem dX3_count_26 : decode cX3_count 26 = .ok (.iconst 3, 1) := by decide +kernel
theorem dX3_count_27 : decode cX3_count 27 = .ok (.if_icmp .ne 11, 3) := by decide +kernel
theorem dX3_count_30 : decode cX3_count 30 = .ok (.aload_n 0, 1) := by decide +kernel
theorem dX3_count_31 : decode cX3_count 31 = .ok (.iload_n 3, 1) := by decide +kernel
theorem dX3_count_32 : decode cX3_count 32 = .ok (.invokevirtual 108, 3) := by decide +kernel
theorem dX3_count_35 : decode cX3_count 35 = .ok (.goto 36, 3) := by decide +kernel
theorem dX3_count_38 : decode cX3_count 38 = .ok (.iload_n 1, 1) := by decide +kernel
theorem dX3_count_39 : decode cX3_count 39 = .ok (.iconst 3, 1) := by decide +kernel
theorem dX3_count_40 : decode cX3_count 40 = .ok (.if_icmp .le 30, 3) := by decide +kernel
theorem dX3_count_43 : decode cX3_count 43 = .ok (.aload_n 0, 1) := by decide +kernel
theorem dX3_count_44 : decode cX3_count 44 = .ok (.iload_n 3, 1) := by decide +kernel
theorem dX3_count_45 : decode cX3_count 45 = .ok (.invokevirtual 102, 3) := by decide +kernel
theorem dX3_count_48 : decode cX3_count 48 = .ok (.ifCond .eq 22, 3) := by decide +kernel
theorem dX3_count_51 : decode cX3_count 51 = .ok (.aload_n 0, 1) := by decide +kernel
theorem dX3_count_52 : decode cX3_count 52 = .ok (.iload_n 3, 1) := by decide +kernel
theorem dX3_count_53 : decode cX3_count 53 = .ok (.aload_n 0, 1) := by decide +kernel
theorem dX3_count_54 : decode cX3_count 54 = .ok (.getfield 92, 3) := by decide +kernel
theorem dX3_count_57 : decode cX3_count 57 = .ok (.invokevirtual 135, 3) := by decide +kernel
theorem dX3_count_60 : decode cX3_count 60 = .ok (.iload_n 1, 1) := by decide +kernel
theorem dX3_count_61 : decode cX3_count 61 = .ok (.iconst 3, 1) := by decide +kernel
theorem dX3_count_62 : decode cX3_count 62 = .ok (.isub, 1) := by decide +kernel
theorem dX3_count_63 : decode cX3_count 63 = .ok (.if_icmp .ne 7, 3) := by decide +kernel
theorem dX3_count_66 : decode cX3_count 66 = .ok (.iconst 1, 1) := by decide +kernel
theorem dX3_count_67 : decode cX3_count 67 = .ok (.goto 4, 3) := by decide +kernel
theorem dX3_count_70 : decode cX3_count 70 = .ok (.iconst 0, 1) := by decide +kernel
theorem dX3_count_71 : decode cX3_count 71 = .ok (.istore 4, 2) := by decide +kernel
theorem dX3_count_73 : decode cX3_count 73 = .ok (.iload_n 2, 1) := by decide +kernel
theorem dX3_count_74 : decode cX3_count 74 = .ok (.iload 4, 2) := by decide +kernel
theorem dX3_count_76 : decode cX3_count 76 = .ok (.ifCond .eq 7, 3) := by decide +kernel
theorem dX3_count_79 : decode cX3_count 79 = .ok (.iconst 1, 1) := by decide +kernel
theorem dX3_count_80 : decode cX3_count 80 = .ok (.goto 4, 3) := by decide +kernel
theorem dX3_count_83 : decode cX3_count 83 = .ok (.iconst 0, 1) := by decide +kernel
theorem dX3_count_84 : decode cX3_count 84 = .ok (.iadd, 1) := by decide +kernel
theorem dX3_count_85 : decode cX3_count 85 = .ok (.istore_n 2, 1) := by decide +kernel
theorem dX3_count_86 : decode cX3_count 86 = .ok (.iinc 3 1, 3) := by decide +kernel
theorem dX3_count_89 : decode cX3_count 89 = .ok (.goto (-72), 3) := by decide +kernel
theorem dX3_count_92 : decode cX3_count 92 = .ok (.iload_n 1, 1) := by decide +kernel
theorem dX3_count_93 : decode cX3_count 93 = .ok (.ifCond .ne 10, 3) := by decide +kernel
theorem dX3_count_96 : decode cX3_count 96 = .ok (.aload_n 0, 1) := by decide +kernel
theorem dX3_count_97 : decode cX3_count 97 = .ok (.getfield 92, 3) := by decide +kernel
theorem dX3_count_100 : decode cX3_count 100 = .ok (.goto 41, 3) := by decide +kernel
theorem dX3_count_103 : decode cX3_count 103 = .ok (.iload_n 1, 1) := by decide +kernel
theorem dX3_count_104 : decode cX3_count 104 = .ok (.iconst 1, 1) := by decide +kernel
theorem dX3_count_105 : decode cX3_count 105 = .ok (.if_icmp .ne 10, 3) := by decide +kernel
theorem dX3_count_108 : decode cX3_count 108 = .ok (.aload_n 0, 1) := by decide +kernel
theorem dX3_count_109 : decode cX3_count 109 = .ok (.getfield 84, 3) := by decide +kernel
theorem dX3_count_112 : decode cX3_count 112 = .ok (.goto 29, 3) := by decide +kernel
theorem dX3_count_115 : decode cX3_count 115 = .ok (.iload_n 1, 1) := by decide +kernel
theorem dX3_count_116 : decode cX3_count 116 = .ok (.iconst 2, 1) := by decide +kernel
theorem dX3_count_117 : decode cX3_count 117 = .ok (.if_icmp .ne 10, 3) := by decide +kernel
theorem dX3_count_120 : decode cX3_count 120 = .ok (.aload_n 0, 1) := by decide +kernel
theorem dX3_count_121 : decode cX3_count 121 = .ok (.getfield 111, 3) := by decide +kernel
theorem dX3_count_124 : decode cX3_count 124 = .ok (.goto 17, 3) := by decide +kernel
theorem dX3_count_127 : decode cX3_count 127 = .ok (.iload_n 1, 1) := by decide +kernel
theorem dX3_count_128 : decode cX3_count 128 = .ok (.bipush 7, 2) := by decide +kernel
theorem dX3_count_130 : decode cX3_count 130 = .ok (.if_icmp .ne 10, 3) := by decide +kernel
theorem dX3_count_133 : decode cX3_count 133 = .ok (.aload_n 0, 1) := by decide +kernel
theorem dX3_count_134 : decode cX3_count 134 = .ok (.getfield 138, 3) := by decide +kernel
theorem dX3_count_137 : decode cX3_count 137 = .ok (.goto 4, 3) := by decide +kernel
theorem dX3_count_140 : decode cX3_count 140 = .ok (.iload_n 2, 1) := by decide +kernel
theorem dX3_count_141 : decode cX3_count 141 = .ok (.ireturn, 1) := by decide +kernel
end
section
theorem dL_law_0 : decode cL_law 0 = .ok (.new 7, 3) := by decide +kernel
theorem dL_law_3 : decode cL_law 3 = .ok (.dup, 1) := by decide +kernel
theorem dL_law_4 : decode cL_law 4 = .ok (.invokespecial 9, 3) := by decide +kernel
theorem dL_law_7 : decode cL_law 7 = .ok (.astore_n 1, 1) := by decide +kernel
theorem dL_law_8 : decode cL_law 8 = .ok (.new 10, 3) := by decide +kernel
theorem dL_law_11 : decode cL_law 11 = .ok (.dup, 1) := by decide +kernel
theorem dL_law_12 : decode cL_law 12 = .ok (.invokespecial 12, 3) := by decide +kernel
theorem dL_law_15 : decode cL_law 15 = .ok (.astore_n 2, 1) := by decide +kernel
theorem dL_law_16 : decode cL_law 16 = .ok (.iconst 0, 1) := by decide +kernel
theorem dL_law_17 : decode cL_law 17 = .ok (.istore_n 3, 1) := by decide +kernel
theorem dL_law_18 : decode cL_law 18 = .ok (.iload_n 3, 1) := by decide +kernel
theorem dL_law_19 : decode cL_law 19 = .ok (.aload_n 0, 1) := by decide +kernel
theorem dL_law_20 : decode cL_law 20 = .ok (.arraylength, 1) := by decide +kernel
theorem dL_law_21 : decode cL_law 21 = .ok (.iconst 5, 1) := by decide +kernel
theorem dL_law_22 : decode cL_law 22 = .ok (.isub, 1) := by decide +kernel
theorem dL_law_23 : decode cL_law 23 = .ok (.if_icmp .gt 799, 3) := by decide +kernel
theorem dL_law_26 : decode cL_law 26 = .ok (.aload_n 0, 1) := by decide +kernel
theorem dL_law_27 : decode cL_law 27 = .ok (.iload_n 3, 1) := by decide +kernel
theorem dL_law_28 : decode cL_law 28 = .ok (.iaload, 1) := by decide +kernel
theorem dL_law_29 : decode cL_law 29 = .ok (.bipush 31, 2) := by decide +kernel
theorem dL_law_31 : decode cL_law 31 = .ok (.iand, 1) := by decide +kernel
theorem dL_law_32 : decode cL_law 32 = .ok (.tableswitch 784 0 22 #[108, 131, 184, 217, 250, 309, 342, 395, 428, 451, 474, 497, 520, 543, 576, 589, 612, 635, 668, 691, 714, 738, 761], 108) := by decide +kernel
theorem dL_law_140 : decode cL_law 140 = .ok (.aload_n 1, 1) := by decide +kernel
theorem dL_law_141 : decode cL_law 141 = .ok (.aload_n 0, 1) := by decide +kernel
theorem dL_law_142 : decode cL_law 142 = .ok (.iload_n 3, 1) := by decide +kernel
theorem dL_law_143 : decode cL_law 143 = .ok (.iconst 1, 1) := by decide +kernel
theorem dL_law_144 : decode cL_law 144 = .ok (.iadd, 1) := by decide +kernel
theorem dL_law_145 : decode cL_law 145 = .ok (.iaload, 1) := by decide +kernel
theorem dL_law_146 : decode cL_law 146 = .ok (.invokevirtual 13, 3) := by decide +kernel
theorem dL_law_149 : decode cL_law 149 = .ok (.aload_n 2, 1) := by decide +kernel
theorem dL_law_150 : decode cL_law 150 = .ok (.aload_n 0, 1) := by decide +kernel
theorem dL_law_151 : decode cL_law 151 = .ok (.iload_n 3, 1) := by decide +kernel
theorem dL_law_152 : decode cL_law 152 = .ok (.iconst 1, 1) := by decide +kernel
theorem dL_law_153 : decode cL_law 153 = .ok (.iadd, 1) := by decide +kernel
theorem dL_law_154 : decode cL_law 154 = .ok (.iaload, 1) := by decide +kernel
theorem dL_law_155 : decode cL_law 155 = .ok (.invokevirtual 17, 3) := by decide +kernel
theorem dL_law_158 : decode cL_law 158 = .ok (.if_icmp .eq 658, 3) := by decide +kernel
theorem dL_law_161 : decode cL_law 161 = .ok (.iconst 0, 1) := by decide +kernel
theorem dL_law_162 : decode cL_law 162 = .ok (.ireturn, 1) := by decide +kernel
theorem dL_law_163 : decode cL_law 163 = .ok (.aload_n 1, 1) := by decide +kernel
theorem dL_law_164 : decode cL_law 164 = .ok (.aload_n 0, 1) := by decide +kernel
theorem dL_law_165 : decode cL_law 165 = .ok (.iload_n 3, 1) := by decide +kernel
theorem dL_law_166 : decode cL_law 166 = .ok (.iconst 1, 1) := by decide +kernel
theorem dL_law_167 : decode cL_law 167 = .ok (.iadd, 1) := by decide +kernel
theorem dL_law_168 : decode cL_law 168 = .ok (.iaload, 1) := by decide +kernel
theorem dL_law_169 : decode cL_law 169 = .ok (.aload_n 0, 1) := by decide +kernel
theorem dL_law_170 : decode cL_law 170 = .ok (.iload_n 3, 1) := by decide +kernel
theorem dL_law_171 : decode cL_law 171 = .ok (.iconst 2, 1) := by decide +kernel
theorem dL_law_172 : decode cL_law 172 = .ok (.iadd, 1) := by decide +kernel
theorem dL_law_173 : decode cL_law 173 = .ok (.iaload, 1) := by decide +kernel
theorem dL_law_174 : decode cL_law 174 = .ok (.aload_n 0, 1) := by decide +kernel
theorem dL_law_175 : decode cL_law 175 = .ok (.iload_n 3, 1) := by decide +kernel
theorem dL_law_176 : decode cL_law 176 = .ok (.iconst 3, 1) := by decide +kernel
theorem dL_law_177 : decode cL_law 177 = .ok (.iadd, 1) := by decide +kernel
theorem dL_law_178 : decode cL_law 178 = .ok (.iaload, 1) := by decide +kernel
theorem dL_law_179 : decode cL_law 179 = .ok (.aload_n 0, 1) := by decide +kernel
theorem dL_law_180 : decode cL_law 180 = .ok (.iload_n 3, 1) := by decide +kernel
theorem dL_law_181 : decode cL_law 181 = .ok (.iconst 4, 1) := by decide +kernel
theorem dL_law_182 : decode cL_law 182 = .ok (.iadd, 1) := by decide +kernel
theorem dL_law_183 : decode cL_law 183 = .ok (.iaload, 1) := by decide +kernel
theorem dL_law_184 : decode cL_law 184 = .ok (.invokevirtual 18, 3) := by decide +kernel
theorem dL_law_187 : decode cL_law 187 = .ok (.aload_n 2, 1) := by decide +kernel
theorem dL_law_188 : decode cL_law 188 = .ok (.aload_n 0, 1) := by decide +kernel
theorem dL_law_189 : decode cL_law 189 = .ok (.iload_n 3, 1) := by decide +kernel
theorem dL_law_190 : decode cL_law 190 = .ok (.iconst 1, 1) := by decide +kernel
theorem dL_law_191 : decode cL_law 191 = .ok (.iadd, 1) := by decide +kernel
theorem dL_law_192 : decode cL_law 192 = .ok (.iaload, 1) := by decide +kernel
theorem dL_law_193 : decode cL_law 193 = .ok (.aload_n 0, 1) := by decide +kernel
theorem dL_law_194 : decode cL_law 194 = .ok (.iload_n 3, 1) := by decide +kernel
theorem dL_law_195 : decode cL_law 195 = .ok (.iconst 2, 1) := by decide +kernel
theorem dL_law_196 : decode cL_law 196 = .ok (.iadd, 1) := by decide +kernel
theorem dL_law_197 : decode cL_law 197 = .ok (.iaload, 1) := by decide +kernel
theorem dL_law_198 : decode cL_law 198 = .ok (.aload_n 0, 1) := by decide +kernel
theorem dL_law_199 : decode cL_law 199 = .ok (.iload_n 3, 1) := by decide +kernel
theorem dL_law_200 : decode cL_law 200 = .ok (.iconst 3, 1) := by decide +kernel
theorem dL_law_201 : decode cL_law 201 = .ok (.iadd, 1) := by decide +kernel
theorem dL_law_202 : decode cL_law 202 = .ok (.iaload, 1) := by decide +kernel
theorem dL_law_203 : decode cL_law 203 = .ok (.aload_n 0, 1) := by decide +kernel
theorem dL_law_204 : decode cL_law 204 = .ok (.iload_n 3, 1) := by decide +kernel
theorem dL_law_205 : decode cL_law 205 = .ok (.iconst 4, 1) := by decide +kernel
theorem dL_law_206 : decode cL_law 206 = .ok (.iadd, 1) := by decide +kernel
theorem dL_law_207 : decode cL_law 207 = .ok (.iaload, 1) := by decide +kernel
theorem dL_law_208 : decode cL_law 208 = .ok (.invokevirtual 22, 3) := by decide +kernel
theorem dL_law_211 : decode cL_law 211 = .ok (.if_icmp .eq 605, 3) := by decide +kernel
theorem dL_law_214 : decode cL_law 214 = .ok (.iconst 0, 1) := by decide +kernel
theorem dL_law_215 : decode cL_law 215 = .ok (.ireturn, 1) := by decide +kernel
theorem dL_law_216 : decode cL_law 216 = .ok (.aload_n 1, 1) := by decide +kernel
theorem dL_law_217 : decode cL_law 217 = .ok (.aload_n 0, 1) := by decide +kernel
theorem dL_law_218 : decode cL_law 218 = .ok (.iload_n 3, 1) := by decide +kernel
theorem dL_law_219 : decode cL_law 219 = .ok (.iconst 1, 1) := by decide +kernel
theorem dL_law_220 : decode cL_law 220 = .ok (.iadd, 1) := by decide +kernel
theorem dL_law_221 : decode cL_law 221 = .ok (.iaload, 1) := by decide +kernel
theorem dL_law_222 : decode cL_law 222 = .ok (.aload_n 0, 1) := by decide +kernel
theorem dL_law_223 : decode cL_law 223 = .ok (.iload_n 3, 1) := by decide +kernel
theorem dL_law_224 : decode cL_law 224 = .ok (.iconst 2, 1) := by decide +kernel
theorem dL_law_225 : decode cL_law 225 = .ok (.iadd, 1) := by decide +kernel
theorem dL_law_226 : decode cL_law 226 = .ok (.iaload, 1) := by decide +kernel
theorem dL_law_227 : decode cL_law 227 = .ok (.invokevirtual 23, 3) := by decide +kernel
theorem dL_law_230 : decode cL_law 230 = .ok (.aload_n 2, 1) := by decide +kernel
theorem dL_law_231 : decode cL_law 231 = .ok (.aload_n 0, 1) := by decide +kernel
theorem dL_law_232 : decode cL_law 232 = .ok (.iload_n 3, 1) := by decide +kernel
theorem dL_law_233 : decode cL_law 233 = .ok (.iconst 1, 1) := by decide +kernel
theorem dL_law_234 : decode cL_law 234 = .ok (.iadd, 1) := by decide +kernel
theorem dL_law_235 : decode cL_law 235 = .ok (.iaload, 1) := by decide +kernel
theorem dL_law_236 : decode cL_law 236 = .ok (.aload_n 0, 1) := by decide +kernel
theorem dL_law_237 : decode cL_law 237 = .ok (.iload_n 3, 1) := by decide +kernel
theorem dL_law_238 : decode cL_law 238 = .ok (.iconst 2, 1) := by decide +kernel
theorem dL_law_239 : decode cL_law 239 = .ok (.iadd, 1) := by decide +kernel
theorem dL_law_240 : decode cL_law 240 = .ok (.iaload, 1) := by decide +kernel
theorem dL_law_241 : decode cL_law 241 = .ok (.invokevirtual 27, 3) := by decide +kernel
theorem dL_law_244 : decode cL_law 244 = .ok (.if_icmp .eq 572, 3) := by decide +kernel
theorem dL_law_247 : decode cL_law 247 = .ok (.iconst 0, 1) := by decide +kernel
theorem dL_law_248 : decode cL_law 248 = .ok (.ireturn, 1) := by decide +kernel
theorem dL_law_249 : decode cL_law 249 = .ok (.aload_n 1, 1) := by decide +kernel
theorem dL_law_250 : decode cL_law 250 = .ok (.aload_n 0, 1) := by decide +kernel
theorem dL_law_251 : decode cL_law 251 = .ok (.iload_n 3, 1) := by decide +kernel
theorem dL_law_252 : decode cL_law 252 = .ok (.iconst 1, 1) := by decide +kernel
theorem dL_law_253 : decode cL_law 253 = .ok (.iadd, 1) := by decide +kernel
theorem dL_law_254 : decode cL_law 254 = .ok (.iaload, 1) := by decide +kernel
theorem dL_law_255 : decode cL_law 255 = .ok (.aload_n 0, 1) := by decide +kernel
theorem dL_law_256 : decode cL_law 256 = .ok (.iload_n 3, 1) := by decide +kernel
theorem dL_law_257 : decode cL_law 257 = .ok (.iconst 2, 1) := by decide +kernel
theorem dL_law_258 : decode cL_law 258 = .ok (.iadd, 1) := by decide +kernel
theorem dL_law_259 : decode cL_law 259 = .ok (.iaload, 1) := by decide +kernel
theorem dL_law_260 : decode cL_law 260 = .ok (.invokevirtual 28, 3) := by decide +kernel
theorem dL_law_263 : decode cL_law 263 = .ok (.aload_n 2, 1) := by decide +kernel
theorem dL_law_264 : decode cL_law 264 = .ok (.aload_n 0, 1) := by decide +kernel
theorem dL_law_265 : decode cL_law 265 = .ok (.iload_n 3, 1) := by decide +kernel
theorem dL_law_266 : decode cL_law 266 = .ok (.iconst 1, 1) := by decide +kernel
theorem dL_law_267 : decode cL_law 267 = .ok (.iadd, 1) := by decide +kernel
theorem dL_law_268 : decode cL_law 268 = .ok (.iaload, 1) := by decide +kernel
theorem dL_law_269 : decode cL_law 269 = .ok (.aload_n 0, 1) := by decide +kernel
theorem dL_law_270 : decode cL_law 270 = .ok (.iload_n 3, 1) := by decide +kernel
theorem dL_law_271 : decode cL_law 271 = .ok (.iconst 2, 1) := by decide +kernel
theorem dL_law_272 : decode cL_law 272 = .ok (.iadd, 1) := by decide +kernel
theorem dL_law_273 : decode cL_law 273 = .ok (.iaload, 1) := by decide +kernel
theorem dL_law_274 : decode cL_law 274 = .ok (.invokevirtual 31, 3) := by decide +kernel
theorem dL_law_277 : decode cL_law 277 = .ok (.if_icmp .eq 539, 3) := by decide +kernel
theorem dL_law_280 : decode cL_law 280 = .ok (.iconst 0, 1) := by decide +kernel
theorem dL_law_281 : decode cL_law 281 = .ok (.ireturn, 1) := by decide +kernel
theorem dL_law_282 : decode cL_law 282 = .ok (.aload_n 1, 1) := by decide +kernel
theorem dL_law_283 : decode cL_law 283 = .ok (.aload_n 0, 1) := by decide +kernel
theorem dL_law_284 : decode cL_law 284 = .ok (.iload_n 3, 1) := by decide +kernel
theorem dL_law_285 : decode cL_law 285 = .ok (.iconst 1, 1) := by decide +kernel
theorem dL_law_286 : decode cL_law 286 = .ok (.iadd, 1) := by decide +kernel
theorem dL_law_287 : decode cL_law 287 = .ok (.iaload, 1) := by decide +kernel
theorem dL_law_288 : decode cL_law 288 = .ok (.aload_n 0, 1) := by decide +kernel
theorem dL_law_289 : decode cL_law 289 = .ok (.iload_n 3, 1) := by decide +kernel
theorem dL_law_290 : decode cL_law 290 = .ok (.iconst 2, 1) := by decide +kernel
theorem dL_law_291 : decode cL_law 291 = .ok (.iadd, 1) := by decide +kernel
theorem dL_law_292 : decode cL_law 292 = .ok (.iaload, 1) := by decide +kernel
theorem dL_law_293 : decode cL_law 293 = .ok (.ifCond .eq 7, 3) := by decide +kernel
theorem dL_law_296 : decode cL_law 296 = .ok (.iconst 1, 1) := by decide +kernel
theorem dL_law_297 : decode cL_law 297 = .ok (.goto 4, 3) := by decide +kernel
theorem dL_law_300 : decode cL_law 300 = .ok (.iconst 0, 1) := by decide +kernel
theorem dL_law_301 : decode cL_law 301 = .ok (.aload_n 0, 1) := by decide +kernel
theorem dL_law_302 : decode cL_law 302 = .ok (.iload_n 3, 1) := by decide +kernel
theorem dL_law_303 : decode cL_law 303 = .ok (.iconst 3, 1) := by decide +kernel
theorem dL_law_304 : decode cL_law 304 = .ok (.iadd, 1) := by decide +kernel
theorem dL_law_305 : decode cL_law 305 = .ok (.iaload, 1) := by decide +kernel
theorem dL_law_306 : decode cL_law 306 = .ok (.invokevirtual 32, 3) := by decide +kernel
theorem dL_law_309 : decode cL_law 309 = .ok (.aload_n 2, 1) := by decide +kernel
theorem dL_law_310 : decode cL_law 310 = .ok (.aload_n 0, 1) := by decide +kernel
theorem dL_law_311 : decode cL_law 311 = .ok (.iload_n 3, 1) := by decide +kernel
theorem dL_law_312 : decode cL_law 312 = .ok (.iconst 1, 1) := by decide +kernel
theorem dL_law_313 : decode cL_law 313 = .ok (.iadd, 1) := by decide +kernel
theorem dL_law_314 : decode cL_law 314 = .ok (.iaload, 1) := by decide +kernel
theorem dL_law_315 : decode cL_law 315 = .ok (.aload_n 0, 1) := by decide +kernel
theorem dL_law_316 : decode cL_law 316 = .ok (.iload_n 3, 1) := by decide +kernel
theorem dL_law_317 : decode cL_law 317 = .ok (.iconst 2, 1) := by decide +kernel
theorem dL_law_318 : decode cL_law 318 = .ok (.iadd, 1) := by decide +kernel
theorem dL_law_319 : decode cL_law 319 = .ok (.iaload, 1) := by decide +kernel
theorem dL_law_320 : decode cL_law 320 = .ok (.ifCond .eq 7, 3) := by decide +kernel
theorem dL_law_323 : decode cL_law 323 = .ok (.iconst 1, 1) := by decide +kernel
theorem dL_law_324 : decode cL_law 324 = .ok (.goto 4, 3) := by decide +kernel
theorem dL_law_327 : decode cL_law 327 = .ok (.iconst 0, 1) := by decide +kernel
theorem dL_law_328 : decode cL_law 328 = .ok (.aload_n 0, 1) := by decide +kernel
theorem dL_law_329 : decode cL_law 329 = .ok (.iload_n 3, 1) := by decide +kernel
theorem dL_law_330 : decode cL_law 330 = .ok (.iconst 3, 1) := by decide +kernel
theorem dL_law_331 : decode cL_law 331 = .ok (.iadd, 1) := by decide +kernel
theorem dL_law_332 : decode cL_law 332 = .ok (.iaload, 1) := by decide +kernel
theorem dL_law_333 : decode cL_law 333 = .ok (.invokevirtual 36, 3) := by decide +kernel
theorem dL_law_336 : decode cL_law 336 = .ok (.if_icmp .eq 480, 3) := by decide +kernel
theorem dL_law_339 : decode cL_law 339 = .ok (.iconst 0, 1) := by decide +kernel
theorem dL_law_340 : decode cL_law 340 = .ok (.ireturn, 1) := by decide +kernel
theorem dL_law_341 : decode cL_law 341 = .ok (.aload_n 1, 1) := by decide +kernel
theorem dL_law_342 : decode cL_law 342 = .ok (.aload_n 0, 1) := by decide +kernel
theorem dL_law_343 : decode cL_law 343 = .ok (.iload_n 3, 1) := by decide +kernel
theorem dL_law_344 : decode cL_law 344 = .ok (.iconst 1, 1) := by decide +kernel
theorem dL_law_345 : decode cL_law 345 = .ok (.iadd, 1) := by decide +kernel
theorem dL_law_346 : decode cL_law 346 = .ok (.iaload, 1) := by decide +kernel
theorem dL_law_347 : decode cL_law 347 = .ok (.aload_n 0, 1) := by decide +kernel
theorem dL_law_348 : decode cL_law 348 = .ok (.iload_n 3, 1) := by decide +kernel
theorem dL_law_349 : decode cL_law 349 = .ok (.iconst 2, 1) := by decide +kernel
theorem dL_law_350 : decode cL_law 350 = .ok (.iadd, 1) := by decide +kernel
theorem dL_law_351 : decode cL_law 351 = .ok (.iaload, 1) := by decide +kernel
theorem dL_law_352 : decode cL_law 352 = .ok (.invokevirtual 37, 3) := by decide +kernel
theorem dL_law_355 : decode cL_law 355 = .ok (.aload_n 2, 1) := by decide +kernel
theorem dL_law_356 : decode cL_law 356 = .ok (.aload_n 0, 1) := by decide +kernel
theorem dL_law_357 : decode cL_law 357 = .ok (.iload_n 3, 1) := by decide +kernel
theorem dL_law_358 : decode cL_law 358 = .ok (.iconst 1, 1) := by decide +kernel
theorem dL_law_359 : decode cL_law 359 = .ok (.iadd, 1) := by decide +kernel
theorem dL_law_360 : decode cL_law 360 = .ok (.iaload, 1) := by decide +kernel
theorem dL_law_361 : decode cL_law 361 = .ok (.aload_n 0, 1) := by decide +kernel
theorem dL_law_362 : decode cL_law 362 = .ok (.iload_n 3, 1) := by decide +kernel
theorem dL_law_363 : decode cL_law 363 = .ok (.iconst 2, 1) := by decide +kernel
theorem dL_law_364 : decode cL_law 364 = .ok (.iadd, 1) := by decide +kernel
theorem dL_law_365 : decode cL_law 365 = .ok (.iaload, 1) := by decide +kernel
theorem dL_law_366 : decode cL_law 366 = .ok (.invokevirtual 40, 3) := by decide +kernel
theorem dL_law_369 : decode cL_law 369 = .ok (.if_icmp .eq 447, 3) := by decide +kernel
theorem dL_law_372 : decode cL_law 372 = .ok (.iconst 0, 1) := by decide +kernel
theorem dL_law_373 : decode cL_law 373 = .ok (.ireturn, 1) := by decide +kernel
theorem dL_law_374 : decode cL_law 374 = .ok (.aload_n 1, 1) := by decide +kernel
theorem dL_law_375 : decode cL_law 375 = .ok (.aload_n 0, 1) := by decide +kernel
theorem dL_law_376 : decode cL_law 376 = .ok (.iload_n 3, 1) := by decide +kernel
theorem dL_law_377 : decode cL_law 377 = .ok (.iconst 1, 1) := by decide +kernel
theorem dL_law_378 : decode cL_law 378 = .ok (.iadd, 1) := by decide +kernel
theorem dL_law_379 : decode cL_law 379 = .ok (.iaload, 1) := by decide +kernel
theorem dL_law_380 : decode cL_law 380 = .ok (.aload_n 0, 1) := by decide +kernel
theorem dL_law_381 : decode cL_law 381 = .ok (.iload_n 3, 1) := by decide +kernel
theorem dL_law_382 : decode cL_law 382 = .ok (.iconst 2, 1) := by decide +kernel
theorem dL_law_383 : decode cL_law 383 = .ok (.iadd, 1) := by decide +kernel
theorem dL_law_384 : decode cL_law 384 = .ok (.iaload, 1) := by decide +kernel
theorem dL_law_385 : decode cL_law 385 = .ok (.aload_n 0, 1) := by decide +kernel
theorem dL_law_386 : decode cL_law 386 = .ok (.iload_n 3, 1) := by decide +kernel
theorem dL_law_387 : decode cL_law 387 = .ok (.iconst 3, 1) := by decide +kernel
theorem dL_law_388 : decode cL_law 388 = .ok (.iadd, 1) := by decide +kernel
theorem dL_law_389 : decode cL_law 389 = .ok (.iaload, 1) := by decide +kernel
theorem dL_law_390 : decode cL_law 390 = .ok (.aload_n 0, 1) := by decide +kernel
theorem dL_law_391 : decode cL_law 391 = .ok (.iload_n 3, 1) := by decide +kernel
theorem dL_law_392 : decode cL_law 392 = .ok (.iconst 4, 1) := by decide +kernel
theorem dL_law_393 : decode cL_law 393 = .ok (.iadd, 1) := by decide +kernel
theorem dL_law_394 : decode cL_law 394 = .ok (.iaload, 1) := by decide +kernel
theorem dL_law_395 : decode cL_law 395 = .ok (.invokevirtual 41, 3) := by decide +kernel
theorem dL_law_398 : decode cL_law 398 = .ok (.aload_n 2, 1) := by decide +kernel
theorem dL_law_399 : decode cL_law 399 = .ok (.aload_n 0, 1) := by decide +kernel
theorem dL_law_400 : decode cL_law 400 = .ok (.iload_n 3, 1) := by decide +kernel
theorem dL_law_401 : decode cL_law 401 = .ok (.iconst 1, 1) := by decide +kernel
theorem dL_law_402 : decode cL_law 402 = .ok (.iadd, 1) := by decide +kernel
theorem dL_law_403 : decode cL_law 403 = .ok (.iaload, 1) := by decide +kernel
theorem dL_law_404 : decode cL_law 404 = .ok (.aload_n 0, 1) := by decide +kernel
theorem dL_law_405 : decode cL_law 405 = .ok (.iload_n 3, 1) := by decide +kernel
theorem dL_law_406 : decode cL_law 406 = .ok (.iconst 2, 1) := by decide +kernel
theorem dL_law_407 : decode cL_law 407 = .ok (.iadd, 1) := by decide +kernel
theorem dL_law_408 : decode cL_law 408 = .ok (.iaload, 1) := by decide +kernel
theorem dL_law_409 : decode cL_law 409 = .ok (.aload_n 0, 1) := by decide +kernel
theorem dL_law_410 : decode cL_law 410 = .ok (.iload_n 3, 1) := by decide +kernel
theorem dL_law_411 : decode cL_law 411 = .ok (.iconst 3, 1) := by decide +kernel
theorem dL_law_412 : decode cL_law 412 = .ok (.iadd, 1) := by decide +kernel
theorem dL_law_413 : decode cL_law 413 = .ok (.iaload, 1) := by decide +kernel
theorem dL_law_414 : decode cL_law 414 = .ok (.aload_n 0, 1) := by decide +kernel
theorem dL_law_415 : decode cL_law 415 = .ok (.iload_n 3, 1) := by decide +kernel
theorem dL_law_416 : decode cL_law 416 = .ok (.iconst 4, 1) := by decide +kernel
theorem dL_law_417 : decode cL_law 417 = .ok (.iadd, 1) := by decide +kernel
theorem dL_law_418 : decode cL_law 418 = .ok (.iaload, 1) := by decide +kernel
theorem dL_law_419 : decode cL_law 419 = .ok (.invokevirtual 44, 3) := by decide +kernel
theorem dL_law_422 : decode cL_law 422 = .ok (.if_icmp .eq 394, 3) := by decide +kernel
theorem dL_law_425 : decode cL_law 425 = .ok (.iconst 0, 1) := by decide +kernel
theorem dL_law_426 : decode cL_law 426 = .ok (.ireturn, 1) := by decide +kernel
theorem dL_law_427 : decode cL_law 427 = .ok (.aload_n 1, 1) := by decide +kernel
theorem dL_law_428 : decode cL_law 428 = .ok (.aload_n 0, 1) := by decide +kernel
theorem dL_law_429 : decode cL_law 429 = .ok (.iload_n 3, 1) := by decide +kernel
theorem dL_law_430 : decode cL_law 430 = .ok (.iconst 1, 1) := by decide +kernel
theorem dL_law_431 : decode cL_law 431 = .ok (.iadd, 1) := by decide +kernel
theorem dL_law_432 : decode cL_law 432 = .ok (.iaload, 1) := by decide +kernel
theorem dL_law_433 : decode cL_law 433 = .ok (.aload_n 0, 1) := by decide +kernel
theorem dL_law_434 : decode cL_law 434 = .ok (.iload_n 3, 1) := by decide +kernel
theorem dL_law_435 : decode cL_law 435 = .ok (.iconst 2, 1) := by decide +kernel
theorem dL_law_436 : decode cL_law 436 = .ok (.iadd, 1) := by decide +kernel
theorem dL_law_437 : decode cL_law 437 = .ok (.iaload, 1) := by decide +kernel
theorem dL_law_438 : decode cL_law 438 = .ok (.invokevirtual 45, 3) := by decide +kernel
theorem dL_law_441 : decode cL_law 441 = .ok (.aload_n 2, 1) := by decide +kernel
theorem dL_law_442 : decode cL_law 442 = .ok (.aload_n 0, 1) := by decide +kernel
theorem dL_law_443 : decode cL_law 443 = .ok (.iload_n 3, 1) := by decide +kernel
theorem dL_law_444 : decode cL_law 444 = .ok (.iconst 1, 1) := by decide +kernel
theorem dL_law_445 : decode cL_law 445 = .ok (.iadd, 1) := by decide +kernel
theorem dL_law_446 : decode cL_law 446 = .ok (.iaload, 1) := by decide +kernel
theorem dL_law_447 : decode cL_law 447 = .ok (.aload_n 0, 1) := by decide +kernel
theorem dL_law_448 : decode cL_law 448 = .ok (.iload_n 3, 1) := by decide +kernel
theorem dL_law_449 : decode cL_law 449 = .ok (.iconst 2, 1) := by decide +kernel
theorem dL_law_450 : decode cL_law 450 = .ok (.iadd, 1) := by decide +kernel
theorem dL_law_451 : decode cL_law 451 = .ok (.iaload, 1) := by decide +kernel
theorem dL_law_452 : decode cL_law 452 = .ok (.invokevirtual 48, 3) := by decide +kernel
theorem dL_law_455 : decode cL_law 455 = .ok (.if_icmp .eq 361, 3) := by decide +kernel
theorem dL_law_458 : decode cL_law 458 = .ok (.iconst 0, 1) := by decide +kernel
theorem dL_law_459 : decode cL_law 459 = .ok (.ireturn, 1) := by decide +kernel
theorem dL_law_460 : decode cL_law 460 = .ok (.aload_n 1, 1) := by decide +kernel
theorem dL_law_461 : decode cL_law 461 = .ok (.aload_n 0, 1) := by decide +kernel
theorem dL_law_462 : decode cL_law 462 = .ok (.iload_n 3, 1) := by decide +kernel
theorem dL_law_463 : decode cL_law 463 = .ok (.iconst 1, 1) := by decide +kernel
theorem dL_law_464 : decode cL_law 464 = .ok (.iadd, 1) := by decide +kernel
theorem dL_law_465 : decode cL_law 465 = .ok (.iaload, 1) := by decide +kernel
theorem dL_law_466 : decode cL_law 466 = .ok (.invokevirtual 49, 3) := by decide +kernel
theorem dL_law_469 : decode cL_law 469 = .ok (.aload_n 2, 1) := by decide +kernel
theorem dL_law_470 : decode cL_law 470 = .ok (.aload_n 0, 1) := by decide +kernel
theorem dL_law_471 : decode cL_law 471 = .ok (.iload_n 3, 1) := by decide +kernel
theorem dL_law_472 : decode cL_law 472 = .ok (.iconst 1, 1) := by decide +kernel
theorem dL_law_473 : decode cL_law 473 = .ok (.iadd, 1) := by decide +kernel
theorem dL_law_474 : decode cL_law 474 = .ok (.iaload, 1) := by decide +kernel
theorem dL_law_475 : decode cL_law 475 = .ok (.invokevirtual 52, 3) := by decide +kernel
theorem dL_law_478 : decode cL_law 478 = .ok (.if_icmp .eq 338, 3) := by decide +kernel
theorem dL_law_481 : decode cL_law 481 = .ok (.iconst 0, 1) := by decide +kernel
theorem dL_law_482 : decode cL_law 482 = .ok (.ireturn, 1) := by decide +kernel
theorem dL_law_483 : decode cL_law 483 = .ok (.aload_n 1, 1) := by decide +kernel
theorem dL_law_484 : decode cL_law 484 = .ok (.aload_n 0, 1) := by decide +kernel
theorem dL_law_485 : decode cL_law 485 = .ok (.iload_n 3, 1) := by decide +kernel
theorem dL_law_486 : decode cL_law 486 = .ok (.iconst 1, 1) := by decide +kernel
theorem dL_law_487 : decode cL_law 487 = .ok (.iadd, 1) := by decide +kernel
theorem dL_law_488 : decode cL_law 488 = .ok (.iaload, 1) := by decide +kernel
theorem dL_law_489 : decode cL_law 489 = .ok (.invokevirtual 53, 3) := by decide +kernel
theorem dL_law_492 : decode cL_law 492 = .ok (.aload_n 2, 1) := by decide +kernel
theorem dL_law_493 : decode cL_law 493 = .ok (.aload_n 0, 1) := by decide +kernel
theorem dL_law_494 : decode cL_law 494 = .ok (.iload_n 3, 1) := by decide +kernel
theorem dL_law_495 : decode cL_law 495 = .ok (.iconst 1, 1) := by decide +kernel
theorem dL_law_496 : decode cL_law 496 = .ok (.iadd, 1) := by decide +kernel
theorem dL_law_497 : decode cL_law 497 = .ok (.iaload, 1) := by decide +kernel
theorem dL_law_498 : decode cL_law 498 = .ok (.invokevirtual 56, 3) := by decide +kernel
theorem dL_law_501 : decode cL_law 501 = .ok (.if_icmp .eq 315, 3) := by decide +kernel
theorem dL_law_504 : decode cL_law 504 = .ok (.iconst 0, 1) := by decide +kernel
theorem dL_law_505 : decode cL_law 505 = .ok (.ireturn, 1) := by decide +kernel
theorem dL_law_506 : decode cL_law 506 = .ok (.aload_n 1, 1) := by decide +kernel
theorem dL_law_507 : decode cL_law 507 = .ok (.aload_n 0, 1) := by decide +kernel
theorem dL_law_508 : decode cL_law 508 = .ok (.iload_n 3, 1) := by decide +kernel
theorem dL_law_509 : decode cL_law 509 = .ok (.iconst 1, 1) := by decide +kernel
theorem dL_law_510 : decode cL_law 510 = .ok (.iadd, 1) := by decide +kernel
theorem dL_law_511 : decode cL_law 511 = .ok (.iaload, 1) := by decide +kernel
theorem dL_law_512 : decode cL_law 512 = .ok (.invokevirtual 57, 3) := by decide +kernel
theorem dL_law_515 : decode cL_law 515 = .ok (.aload_n 2, 1) := by decide +kernel
theorem dL_law_516 : decode cL_law 516 = .ok (.aload_n 0, 1) := by decide +kernel
theorem dL_law_517 : decode cL_law 517 = .ok (.iload_n 3, 1) := by decide +kernel
theorem dL_law_518 : decode cL_law 518 = .ok (.iconst 1, 1) := by decide +kernel
theorem dL_law_519 : decode cL_law 519 = .ok (.iadd, 1) := by decide +kernel
theorem dL_law_520 : decode cL_law 520 = .ok (.iaload, 1) := by decide +kernel
theorem dL_law_521 : decode cL_law 521 = .ok (.invokevirtual 60, 3) := by decide +kernel
theorem dL_law_524 : decode cL_law 524 = .ok (.if_icmp .eq 292, 3) := by decide +kernel
theorem dL_law_527 : decode cL_law 527 = .ok (.iconst 0, 1) := by decide +kernel
theorem dL_law_528 : decode cL_law 528 = .ok (.ireturn, 1) := by decide +kernel
theorem dL_law_529 : decode cL_law 529 = .ok (.aload_n 1, 1) := by decide +kernel
theorem dL_law_530 : decode cL_law 530 = .ok (.aload_n 0, 1) := by decide +kernel
theorem dL_law_531 : decode cL_law 531 = .ok (.iload_n 3, 1) := by decide +kernel
theorem dL_law_532 : decode cL_law 532 = .ok (.iconst 1, 1) := by decide +kernel
theorem dL_law_533 : decode cL_law 533 = .ok (.iadd, 1) := by decide +kernel
theorem dL_law_534 : decode cL_law 534 = .ok (.iaload, 1) := by decide +kernel
theorem dL_law_535 : decode cL_law 535 = .ok (.invokevirtual 61, 3) := by decide +kernel
theorem dL_law_538 : decode cL_law 538 = .ok (.aload_n 2, 1) := by decide +kernel
theorem dL_law_539 : decode cL_law 539 = .ok (.aload_n 0, 1) := by decide +kernel
theorem dL_law_540 : decode cL_law 540 = .ok (.iload_n 3, 1) := by decide +kernel
theorem dL_law_541 : decode cL_law 541 = .ok (.iconst 1, 1) := by decide +kernel
theorem dL_law_542 : decode cL_law 542 = .ok (.iadd, 1) := by decide +kernel
theorem dL_law_543 : decode cL_law 543 = .ok (.iaload, 1) := by decide +kernel
theorem dL_law_544 : decode cL_law 544 = .ok (.invokevirtual 64, 3) := by decide +kernel
theorem dL_law_547 : decode cL_law 547 = .ok (.if_icmp .eq 269, 3) := by decide +kernel
theorem dL_law_550 : decode cL_law 550 = .ok (.iconst 0, 1) := by decide +kernel
theorem dL_law_551 : decode cL_law 551 = .ok (.ireturn, 1) := by decide +kernel
theorem dL_law_552 : decode cL_law 552 = .ok (.aload_n 1, 1) := by decide +kernel
theorem dL_law_553 : decode cL_law 553 = .ok (.aload_n 0, 1) := by decide +kernel
theorem dL_law_554 : decode cL_law 554 = .ok (.iload_n 3, 1) := by decide +kernel
theorem dL_law_555 : decode cL_law 555 = .ok (.iconst 1, 1) := by decide +kernel
theorem dL_law_556 : decode cL_law 556 = .ok (.iadd, 1) := by decide +kernel
theorem dL_law_557 : decode cL_law 557 = .ok (.iaload, 1) := by decide +kernel
theorem dL_law_558 : decode cL_law 558 = .ok (.invokevirtual 65, 3) := by decide +kernel
theorem dL_law_561 : decode cL_law 561 = .ok (.aload_n 2, 1) := by decide +kernel
theorem dL_law_562 : decode cL_law 562 = .ok (.aload_n 0, 1) := by decide +kernel
theorem dL_law_563 : decode cL_law 563 = .ok (.iload_n 3, 1) := by decide +kernel
theorem dL_law_564 : decode cL_law 564 = .ok (.iconst 1, 1) := by decide +kernel
theorem dL_law_565 : decode cL_law 565 = .ok (.iadd, 1) := by decide +kernel
theorem dL_law_566 : decode cL_law 566 = .ok (.iaload, 1) := by decide +kernel
theorem dL_law_567 : decode cL_law 567 = .ok (.invokevirtual 68, 3) := by decide +kernel
theorem dL_law_570 : decode cL_law 570 = .ok (.if_icmp .eq 246, 3) := by decide +kernel
theorem dL_law_573 : decode cL_law 573 = .ok (.iconst 0, 1) := by decide +kernel
theorem dL_law_574 : decode cL_law 574 = .ok (.ireturn, 1) := by decide +kernel
theorem dL_law_575 : decode cL_law 575 = .ok (.aload_n 1, 1) := by decide +kernel
theorem dL_law_576 : decode cL_law 576 = .ok (.aload_n 0, 1) := by decide +kernel
theorem dL_law_577 : decode cL_law 577 = .ok (.iload_n 3, 1) := by decide +kernel
theorem dL_law_578 : decode cL_law 578 = .ok (.iconst 1, 1) := by decide +kernel
theorem dL_law_579 : decode cL_law 579 = .ok (.iadd, 1) := by decide +kernel
theorem dL_law_580 : decode cL_law 580 = .ok (.iaload, 1) := by decide +kernel
theorem dL_law_581 : decode cL_law 581 = .ok (.aload_n 0, 1) := by decide +kernel
theorem dL_law_582 : decode cL_law 582 = .ok (.iload_n 3, 1) := by decide +kernel
theorem dL_law_583 : decode cL_law 583 = .ok (.iconst 2, 1) := by decide +kernel
theorem dL_law_584 : decode cL_law 584 = .ok (.iadd, 1) := by decide +kernel
theorem dL_law_585 : decode cL_law 585 = .ok (.iaload, 1) := by decide +kernel
theorem dL_law_586 : decode cL_law 586 = .ok (.invokevirtual 69, 3) := by decide +kernel
theorem dL_law_589 : decode cL_law 589 = .ok (.aload_n 2, 1) := by decide +kernel
theorem dL_law_590 : decode cL_law 590 = .ok (.aload_n 0, 1) := by decide +kernel
theorem dL_law_591 : decode cL_law 591 = .ok (.iload_n 3, 1) := by decide +kernel
theorem dL_law_592 : decode cL_law 592 = .ok (.iconst 1, 1) := by decide +kernel
theorem dL_law_593 : decode cL_law 593 = .ok (.iadd, 1) := by decide +kernel
theorem dL_law_594 : decode cL_law 594 = .ok (.iaload, 1) := by decide +kernel
theorem dL_law_595 : decode cL_law 595 = .ok (.aload_n 0, 1) := by decide +kernel
theorem dL_law_596 : decode cL_law 596 = .ok (.iload_n 3, 1) := by decide +kernel
theorem dL_law_597 : decode cL_law 597 = .ok (.iconst 2, 1) := by decide +kernel
theorem dL_law_598 : decode cL_law 598 = .ok (.iadd, 1) := by decide +kernel
theorem dL_law_599 : decode cL_law 599 = .ok (.iaload, 1) := by decide +kernel
theorem dL_law_600 : decode cL_law 600 = .ok (.invokevirtual 72, 3) := by decide +kernel
theorem dL_law_603 : decode cL_law 603 = .ok (.if_icmp .eq 213, 3) := by decide +kernel
theorem dL_law_606 : decode cL_law 606 = .ok (.iconst 0, 1) := by decide +kernel
theorem dL_law_607 : decode cL_law 607 = .ok (.ireturn, 1) := by decide +kernel
theorem dL_law_608 : decode cL_law 608 = .ok (.aload_n 1, 1) := by decide +kernel
theorem dL_law_609 : decode cL_law 609 = .ok (.invokevirtual 73, 3) := by decide +kernel
theorem dL_law_612 : decode cL_law 612 = .ok (.aload_n 2, 1) := by decide +kernel
theorem dL_law_613 : decode cL_law 613 = .ok (.invokevirtual 77, 3) := by decide +kernel
theorem dL_law_616 : decode cL_law 616 = .ok (.if_icmp .eq 200, 3) := by decide +kernel
theorem dL_law_619 : decode cL_law 619 = .ok (.iconst 0, 1) := by decide +kernel
theorem dL_law_620 : decode cL_law 620 = .ok (.ireturn, 1) := by decide +kernel
theorem dL_law_621 : decode cL_law 621 = .ok (.aload_n 1, 1) := by decide +kernel
theorem dL_law_622 : decode cL_law 622 = .ok (.aload_n 0, 1) := by decide +kernel
theorem dL_law_623 : decode cL_law 623 = .ok (.iload_n 3, 1) := by decide +kernel
theorem dL_law_624 : decode cL_law 624 = .ok (.iconst 1, 1) := by decide +kernel
theorem dL_law_625 : decode cL_law 625 = .ok (.iadd, 1) := by decide +kernel
theorem dL_law_626 : decode cL_law 626 = .ok (.iaload, 1) := by decide +kernel
theorem dL_law_627 : decode cL_law 627 = .ok (.invokevirtual 78, 3) := by decide +kernel
theorem dL_law_630 : decode cL_law 630 = .ok (.aload_n 2, 1) := by decide +kernel
theorem dL_law_631 : decode cL_law 631 = .ok (.aload_n 0, 1) := by decide +kernel
theorem dL_law_632 : decode cL_law 632 = .ok (.iload_n 3, 1) := by decide +kernel
theorem dL_law_633 : decode cL_law 633 = .ok (.iconst 1, 1) := by decide +kernel
theorem dL_law_634 : decode cL_law 634 = .ok (.iadd, 1) := by decide +kernel
theorem dL_law_635 : decode cL_law 635 = .ok (.iaload, 1) := by decide +kernel
theorem dL_law_636 : decode cL_law 636 = .ok (.invokevirtual 81, 3) := by decide +kernel
theorem dL_law_639 : decode cL_law 639 = .ok (.if_icmp .eq 177, 3) := by decide +kernel
theorem dL_law_642 : decode cL_law 642 = .ok (.iconst 0, 1) := by decide +kernel
theorem dL_law_643 : decode cL_law 643 = .ok (.ireturn, 1) := by decide +kernel
theorem dL_law_644 : decode cL_law 644 = .ok (.aload_n 1, 1) := by decide +kernel
theorem dL_law_645 : decode cL_law 645 = .ok (.aload_n 0, 1) := by decide +kernel
theorem dL_law_646 : decode cL_law 646 = .ok (.iload_n 3, 1) := by decide +kernel
theorem dL_law_647 : decode cL_law 647 = .ok (.iconst 1, 1) := by decide +kernel
theorem dL_law_648 : decode cL_law 648 = .ok (.iadd, 1) := by decide +kernel
theorem dL_law_649 : decode cL_law 649 = .ok (.iaload, 1) := by decide +kernel
theorem dL_law_650 : decode cL_law 650 = .ok (.invokevirtual 82, 3) := by decide +kernel
theorem dL_law_653 : decode cL_law 653 = .ok (.aload_n 2, 1) := by decide +kernel
theorem dL_law_654 : decode cL_law 654 = .ok (.aload_n 0, 1) := by decide +kernel
theorem dL_law_655 : decode cL_law 655 = .ok (.iload_n 3, 1) := by decide +kernel
theorem dL_law_656 : decode cL_law 656 = .ok (.iconst 1, 1) := by decide +kernel
theorem dL_law_657 : decode cL_law 657 = .ok (.iadd, 1) := by decide +kernel
theorem dL_law_658 : decode cL_law 658 = .ok (.iaload, 1) := by decide +kernel
theorem dL_law_659 : decode cL_law 659 = .ok (.invokevirtual 85, 3) := by decide +kernel
theorem dL_law_662 : decode cL_law 662 = .ok (.if_icmp .eq 154, 3) := by decide +kernel
theorem dL_law_665 : decode cL_law 665 = .ok (.iconst 0, 1) := by decide +kernel
theorem dL_law_666 : decode cL_law 666 = .ok (.ireturn, 1) := by decide +kernel
theorem dL_law_667 : decode cL_law 667 = .ok (.aload_n 1, 1) := by decide +kernel
theorem dL_law_668 : decode cL_law 668 = .ok (.aload_n 0, 1) := by decide +kernel
theorem dL_law_669 : decode cL_law 669 = .ok (.iload_n 3, 1) := by decide +kernel
theorem dL_law_670 : decode cL_law 670 = .ok (.iconst 1, 1) := by decide +kernel
theorem dL_law_671 : decode cL_law 671 = .ok (.iadd, 1) := by decide +kernel
theorem dL_law_672 : decode cL_law 672 = .ok (.iaload, 1) := by decide +kernel
theorem dL_law_673 : decode cL_law 673 = .ok (.aload_n 0, 1) := by decide +kernel
theorem dL_law_674 : decode cL_law 674 = .ok (.iload_n 3, 1) := by decide +kernel
theorem dL_law_675 : decode cL_law 675 = .ok (.iconst 2, 1) := by decide +kernel
theorem dL_law_676 : decode cL_law 676 = .ok (.iadd, 1) := by decide +kernel
theorem dL_law_677 : decode cL_law 677 = .ok (.iaload, 1) := by decide +kernel
theorem dL_law_678 : decode cL_law 678 = .ok (.invokevirtual 86, 3) := by decide +kernel
theorem dL_law_681 : decode cL_law 681 = .ok (.aload_n 2, 1) := by decide +kernel
theorem dL_law_682 : decode cL_law 682 = .ok (.aload_n 0, 1) := by decide +kernel
theorem dL_law_683 : decode cL_law 683 = .ok (.iload_n 3, 1) := by decide +kernel
theorem dL_law_684 : decode cL_law 684 = .ok (.iconst 1, 1) := by decide +kernel
theorem dL_law_685 : decode cL_law 685 = .ok (.iadd, 1) := by decide +kernel
theorem dL_law_686 : decode cL_law 686 = .ok (.iaload, 1) := by decide +kernel
theorem dL_law_687 : decode cL_law 687 = .ok (.aload_n 0, 1) := by decide +kernel
theorem dL_law_688 : decode cL_law 688 = .ok (.iload_n 3, 1) := by decide +kernel
theorem dL_law_689 : decode cL_law 689 = .ok (.iconst 2, 1) := by decide +kernel
theorem dL_law_690 : decode cL_law 690 = .ok (.iadd, 1) := by decide +kernel
theorem dL_law_691 : decode cL_law 691 = .ok (.iaload, 1) := by decide +kernel
theorem dL_law_692 : decode cL_law 692 = .ok (.invokevirtual 89, 3) := by decide +kernel
theorem dL_law_695 : decode cL_law 695 = .ok (.if_icmp .eq 121, 3) := by decide +kernel
theorem dL_law_698 : decode cL_law 698 = .ok (.iconst 0, 1) := by decide +kernel
theorem dL_law_699 : decode cL_law 699 = .ok (.ireturn, 1) := by decide +kernel
theorem dL_law_700 : decode cL_law 700 = .ok (.aload_n 1, 1) := by decide +kernel
theorem dL_law_701 : decode cL_law 701 = .ok (.aload_n 0, 1) := by decide +kernel
theorem dL_law_702 : decode cL_law 702 = .ok (.iload_n 3, 1) := by decide +kernel
theorem dL_law_703 : decode cL_law 703 = .ok (.iconst 1, 1) := by decide +kernel
theorem dL_law_704 : decode cL_law 704 = .ok (.iadd, 1) := by decide +kernel
theorem dL_law_705 : decode cL_law 705 = .ok (.iaload, 1) := by decide +kernel
theorem dL_law_706 : decode cL_law 706 = .ok (.invokevirtual 90, 3) := by decide +kernel
theorem dL_law_709 : decode cL_law 709 = .ok (.aload_n 2, 1) := by decide +kernel
theorem dL_law_710 : decode cL_law 710 = .ok (.aload_n 0, 1) := by decide +kernel
theorem dL_law_711 : decode cL_law 711 = .ok (.iload_n 3, 1) := by decide +kernel
theorem dL_law_712 : decode cL_law 712 = .ok (.iconst 1, 1) := by decide +kernel
theorem dL_law_713 : decode cL_law 713 = .ok (.iadd, 1) := by decide +kernel
theorem dL_law_714 : decode cL_law 714 = .ok (.iaload, 1) := by decide +kernel
theorem dL_law_715 : decode cL_law 715 = .ok (.invokevirtual 93, 3) := by decide +kernel
theorem dL_law_718 : decode cL_law 718 = .ok (.if_icmp .eq 98, 3) := by decide +kernel
theorem dL_law_721 : decode cL_law 721 = .ok (.iconst 0, 1) := by decide +kernel
theorem dL_law_722 : decode cL_law 722 = .ok (.ireturn, 1) := by decide +kernel
theorem dL_law_723 : decode cL_law 723 = .ok (.aload_n 1, 1) := by decide +kernel
theorem dL_law_724 : decode cL_law 724 = .ok (.aload_n 0, 1) := by decide +kernel
theorem dL_law_725 : decode cL_law 725 = .ok (.iload_n 3, 1) := by decide +kernel
theorem dL_law_726 : decode cL_law 726 = .ok (.iconst 1, 1) := by decide +kernel
theorem dL_law_727 : decode cL_law 727 = .ok (.iadd, 1) := by decide +kernel
theorem dL_law_728 : decode cL_law 728 = .ok (.iaload, 1) := by decide +kernel
theorem dL_law_729 : decode cL_law 729 = .ok (.invokevirtual 94, 3) := by decide +kernel
theorem dL_law_732 : decode cL_law 732 = .ok (.aload_n 2, 1) := by decide +kernel
theorem dL_law_733 : decode cL_law 733 = .ok (.aload_n 0, 1) := by decide +kernel
theorem dL_law_734 : decode cL_law 734 = .ok (.iload_n 3, 1) := by decide +kernel
theorem dL_law_735 : decode cL_law 735 = .ok (.iconst 1, 1) := by decide +kernel
theorem dL_law_736 : decode cL_law 736 = .ok (.iadd, 1) := by decide +kernel
theorem dL_law_737 : decode cL_law 737 = .ok (.iaload, 1) := by decide +kernel
theorem dL_law_738 : decode cL_law 738 = .ok (.invokevirtual 97, 3) := by decide +kernel
theorem dL_law_741 : decode cL_law 741 = .ok (.if_icmp .eq 75, 3) := by decide +kernel
theorem dL_law_744 : decode cL_law 744 = .ok (.iconst 0, 1) := by decide +kernel
theorem dL_law_745 : decode cL_law 745 = .ok (.ireturn, 1) := by decide +kernel
theorem dL_law_746 : decode cL_law 746 = .ok (.aload_n 1, 1) := by decide +kernel
theorem dL_law_747 : decode cL_law 747 = .ok (.aload_n 0, 1) := by decide +kernel
theorem dL_law_748 : decode cL_law 748 = .ok (.iload_n 3, 1) := by decide +kernel
theorem dL_law_749 : decode cL_law 749 = .ok (.iconst 1, 1) := by decide +kernel
theorem dL_law_750 : decode cL_law 750 = .ok (.iadd, 1) := by decide +kernel
theorem dL_law_751 : decode cL_law 751 = .ok (.iaload, 1) := by decide +kernel
theorem dL_law_752 : decode cL_law 752 = .ok (.invokevirtual 98, 3) := by decide +kernel
theorem dL_law_755 : decode cL_law 755 = .ok (.aload_n 2, 1) := by decide +kernel
theorem dL_law_756 : decode cL_law 756 = .ok (.aload_n 0, 1) := by decide +kernel
theorem dL_law_757 : decode cL_law 757 = .ok (.iload_n 3, 1) := by decide +kernel
theorem dL_law_758 : decode cL_law 758 = .ok (.iconst 1, 1) := by decide +kernel
theorem dL_law_759 : decode cL_law 759 = .ok (.iadd, 1) := by decide +kernel
theorem dL_law_760 : decode cL_law 760 = .ok (.iaload, 1) := by decide +kernel
theorem dL_law_761 : decode cL_law 761 = .ok (.invokevirtual 102, 3) := by decide +kernel
theorem dL_law_764 : decode cL_law 764 = .ok (.lcmp, 1) := by decide +kernel
theorem dL_law_765 : decode cL_law 765 = .ok (.ifCond .eq 51, 3) := by decide +kernel
theorem dL_law_768 : decode cL_law 768 = .ok (.iconst 0, 1) := by decide +kernel
theorem dL_law_769 : decode cL_law 769 = .ok (.ireturn, 1) := by decide +kernel
theorem dL_law_770 : decode cL_law 770 = .ok (.aload_n 1, 1) := by decide +kernel
theorem dL_law_771 : decode cL_law 771 = .ok (.aload_n 0, 1) := by decide +kernel
theorem dL_law_772 : decode cL_law 772 = .ok (.iload_n 3, 1) := by decide +kernel
theorem dL_law_773 : decode cL_law 773 = .ok (.iconst 1, 1) := by decide +kernel
theorem dL_law_774 : decode cL_law 774 = .ok (.iadd, 1) := by decide +kernel
theorem dL_law_775 : decode cL_law 775 = .ok (.iaload, 1) := by decide +kernel
theorem dL_law_776 : decode cL_law 776 = .ok (.invokevirtual 103, 3) := by decide +kernel
theorem dL_law_779 : decode cL_law 779 = .ok (.aload_n 2, 1) := by decide +kernel
theorem dL_law_780 : decode cL_law 780 = .ok (.aload_n 0, 1) := by decide +kernel
theorem dL_law_781 : decode cL_law 781 = .ok (.iload_n 3, 1) := by decide +kernel
theorem dL_law_782 : decode cL_law 782 = .ok (.iconst 1, 1) := by decide +kernel
theorem dL_law_783 : decode cL_law 783 = .ok (.iadd, 1) := by decide +kernel
theorem dL_law_784 : decode cL_law 784 = .ok (.iaload, 1) := by decide +kernel
theorem dL_law_785 : decode cL_law 785 = .ok (.invokevirtual 106, 3) := by decide +kernel
theorem dL_law_788 : decode cL_law 788 = .ok (.if_icmp .eq 28, 3) := by decide +kernel
theorem dL_law_791 : decode cL_law 791 = .ok (.iconst 0, 1) := by decide +kernel
theorem dL_law_792 : decode cL_law 792 = .ok (.ireturn, 1) := by decide +kernel
theorem dL_law_793 : decode cL_law 793 = .ok (.aload_n 1, 1) := by decide +kernel
theorem dL_law_794 : decode cL_law 794 = .ok (.aload_n 0, 1) := by decide +kernel
theorem dL_law_795 : decode cL_law 795 = .ok (.iload_n 3, 1) := by decide +kernel
theorem dL_law_796 : decode cL_law 796 = .ok (.iconst 1, 1) := by decide +kernel
theorem dL_law_797 : decode cL_law 797 = .ok (.iadd, 1) := by decide +kernel
theorem dL_law_798 : decode cL_law 798 = .ok (.iaload, 1) := by decide +kernel
theorem dL_law_799 : decode cL_law 799 = .ok (.invokevirtual 107, 3) := by decide +kernel
theorem dL_law_802 : decode cL_law 802 = .ok (.aload_n 2, 1) := by decide +kernel
theorem dL_law_803 : decode cL_law 803 = .ok (.aload_n 0, 1) := by decide +kernel
theorem dL_law_804 : decode cL_law 804 = .ok (.iload_n 3, 1) := by decide +kernel
theorem dL_law_805 : decode cL_law 805 = .ok (.iconst 1, 1) := by decide +kernel
theorem dL_law_806 : decode cL_law 806 = .ok (.iadd, 1) := by decide +kernel
theorem dL_law_807 : decode cL_law 807 = .ok (.iaload, 1) := by decide +kernel
theorem dL_law_808 : decode cL_law 808 = .ok (.invokevirtual 110, 3) := by decide +kernel
theorem dL_law_811 : decode cL_law 811 = .ok (.if_icmp .eq 5, 3) := by decide +kernel
theorem dL_law_814 : decode cL_law 814 = .ok (.iconst 0, 1) := by decide +kernel
theorem dL_law_815 : decode cL_law 815 = .ok (.ireturn, 1) := by decide +kernel
theorem dL_law_816 : decode cL_law 816 = .ok (.iinc 3 5, 3) := by decide +kernel
theorem dL_law_819 : decode cL_law 819 = .ok (.goto (-801), 3) := by decide +kernel
theorem dL_law_822 : decode cL_law 822 = .ok (.iconst 1, 1) := by decide +kernel
theorem dL_law_823 : decode cL_law 823 = .ok (.ireturn, 1) := by decide +kernel
end
section
-- the classes, the array classes, what is known of the tables
abbrev classes : List vw_C := [(RX0, TX0, 10), (RX1, TX1, 10), (RX2, TX2, 13), (RX3, TX3, 28)]
abbrev GG : Type := va_G × ClassId × ClassId × ClassId × ClassId × ClassId
abbrev gI (G : GG) : ClassId := G.2.1
abbrev gJ (G : GG) : ClassId := G.2.2.1
abbrev gZ (G : GG) : ClassId := G.2.2.2.1
abbrev gT (G : GG) : ClassId := G.2.2.2.2.1
abbrev gR (G : GG) : ClassId := G.2.2.2.2.2
abbrev tysG (G : GG) : List (ClassId × FieldType) := [(gI G, .int), (gJ G, .long), (gZ G, .boolean), (gT G, .object "TrueWeights$Thing"), (gR G, .object "TrueWeights$Trial")]
def kx (G : GG) (U : State) : Prop := va_K G.1 classes (tysG G) U ∧ va_Nw (.methodLinkNest RX0 35 yX2_isWithin RX2) U ∧ va_AO "TrueWeights$Thing" U ∧ va_AO "TrueWeights$Trial" U
theorem kx.warm {G : GG} {s U : State} (h : kx G s) (hW : s.WarmedH U.vm) : kx G U := ⟨va_K.moved hW.alike h.1, va_Nw.warmM hW h.2.1, va_AO.moved hW.alike h.2.2.1, va_AO.moved hW.alike h.2.2.2⟩
theorem kx.calling {G : GG} {U : State} {g : JFrame} {mk : MethodId} {a : Array Value} (h : kx G U) : kx G (U.calling g mk a) := ⟨va_K.moved (u := U) (U := U.calling g mk a) (Vm.Alike.refl U.vm) h.1, va_Nw.same rfl (show U.vm = (U.calling g mk a).vm from rfl) h.2.1, va_AO.moved (u := U) (U := U.calling g mk a) (Vm.Alike.refl U.vm) h.2.2.1, va_AO.moved (u := U) (U := U.calling g mk a) (Vm.Alike.refl U.vm) h.2.2.2⟩
-- what a walk stands on
def Cx (p : Program) (s : State) (m : MethodId) (args : Array Value) (c : Code) (cc : ByteArray) (nL : Nat) (own : String) (G : GG) : Prop := CallFix p m c cc nL s args lw_use own ∧ kx G s
-- a picture: logical cells at addresses
def pa (G : GG) (ad : Nat → Nat) (C : Nat → Option va_E) (H : Heap) : Prop := ∀ (i : Nat) (e : va_E), C i = some e → va_at G.1 classes (ad i, e) H
theorem pa.none {G : GG} {ad : Nat → Nat} {H : Heap} : pa G ad (fun _ => none) H := fun _ _ h => by cases h
-- read-only contracts
def Rd (v : Option Value) : Array Value → State → Outcome → State → Prop := fun _ st o t => o = .returned v ∧ t.heap = st.heap
def wsM (y : MethodName) (b : ByteArray) (n : Nat) (r : Option FieldType) : List Cond := .code y b n r :: lw_use
def rmM (f lo cs sl : Nat) : Room := { frames := f, cells := cs, slots := sl, locals := lo }
def PcM (G : GG) (ad : Nat → Nat) (C : Nat → Option va_E) (av : List Value) : Array Value → State → Prop := va_Pc av (fun U => pa G ad C U.heap ∧ kx G U)
def MR (l : Launch) (y : MethodName) (b : ByteArray) (n : Nat) (r : Option FieldType) (f lo : Nat) (G : GG) (ad : Nat → Nat) (C : Nat → Option va_E) (av : List Value) (v : Option Value) : Prop :=
  Met l y (wsM y b n r) (rmM f lo 0 0) (PcM G ad C av) (Rd v) 0 0 (fun _ => False)
theorem PcM.blind {G : GG} {ad : Nat → Nat} {C : Nat → Option va_E} {av : List Value} : FrameBlind (PcM G ad C av) := fun _ _ _ _ q => ⟨q.1, q.2.1, q.2.2.calling⟩
theorem lv_entry0 (vs : List Value) {n : Nat} {lv : List (Nat × Value)} (h : (lg_sl vs).length ≤ n) (hv : lv_args 0 vs = lv) : lv_has ((lg_sl vs ++ List.replicate (n - (lg_sl vs).length) Slot.unset).toArray) n lv := hv ▸ lv_entry vs h
theorem MR.of {l : Launch} {y : MethodName} {b : ByteArray} {n : Nat} {r : Option FieldType} {f lo : Nat} {G : GG} {ad : Nat → Nat} {C : Nat → Option va_E} {av : List Value} {v : Option Value} (lv : List (Nat × Value)) (hy : plainName y.cls = true) (hn : (lg_sl av).length ≤ n) (hlv : lv_args 0 av = lv)
    (body : ∀ (p : Program) (e : Env) (s : State) (m : MethodId) (args : Array Value) (below : List Frame) (meth : Method) (c : Code), Cx p s m args c b n y.cls G → meth.sig.returnType = r → meth.locks = false → pa G ad C s.heap → ∀ ls : Array Slot, lv_has ls n lv →
      W p l e (rmM f lo 0 0) s m args below meth c s.heap [] 0 0 (MQ below (Rd v) args s 0 0 (fun _ => False)) (F0 m 0 ls [])) : MR l y b n r f lo G ad C av v := by
  refine Met.ofW (cc := b) (maxL := n) (ret := r) hy rfl ?_
  intro p e s m args below meth c s₁ B hml hv
  obtain ⟨rfl, hP, hK⟩ := hv
  have hts : ∀ w ∈ lw_use, w.before av.toArray s = true := fun w hw => atoms_spec (ws := wsM y b n r) B.pre w (List.mem_cons_of_mem _ hw)
  rw [lg_entry_eq]
  exact body p e s m av.toArray below meth c ⟨⟨B.exec, B.bytes, hml, findClass_of_methodNamed B.named, hts⟩, hK⟩ B.returns B.notSynchronized hP _ (lv_entry0 av hn hlv)
-- what a callee is
def CalV (y : MethodName) (b : ByteArray) (n : Nat) (r : Option FieldType) (Cn : String) (k : Nat) : Prop := (.instanceMethod y : Cond) ∈ lw_use ∧ (.selects Cn y y : Cond) ∈ lw_use ∧ (.initialized Cn : Cond) ∈ lw_use ∧ (.code y b n r : Cond) ∈ lw_use ∧ (y.cls = Cn ∧ y.cls ≠ "java/lang/invoke/MethodHandle" ∧ y.cls ≠ "java/lang/invoke/VarHandle" ∧ (parseMethodDescriptor y.desc).map (fun d => d.parameters.length) = some k)
def CalS (y : MethodName) (b : ByteArray) (n : Nat) (r : Option FieldType) (k : Nat) : Prop := (.static y : Cond) ∈ lw_use ∧ (.initialized y.cls : Cond) ∈ lw_use ∧ (.code y b n r : Cond) ∈ lw_use ∧ (y.cls ≠ "java/lang/invoke/MethodHandle" ∧ y.cls ≠ "java/lang/invoke/VarHandle" ∧ (parseMethodDescriptor y.desc).map (fun d => d.parameters.length) = some k)
def CalI (y : MethodName) (b : ByteArray) (n : Nat) (k : Nat) : Prop := (.instanceMethod y : Cond) ∈ lw_use ∧ (.initialized y.cls : Cond) ∈ lw_use ∧ (.code y b n none : Cond) ∈ lw_use ∧ y.name = "<init>" ∧ (y.cls ≠ "java/lang/invoke/MethodHandle" ∧ y.cls ≠ "java/lang/invoke/VarHandle" ∧ (parseMethodDescriptor y.desc).map (fun d => d.parameters.length) = some k)
theorem good_cons {w : Cond} {ws : List Cond} (h : w ∈ lw_use) (hs : GoodIn lw_use ws) : GoodIn lw_use (w :: ws) := fun x hx => by
  rcases List.mem_cons.mp hx with e | e
  · subst e; exact lw_use_in _ h
  · exact hs _ e
section RB
variable {p : Program} {l : Launch} {e : Env} {R : Room} {s : State} {m : MethodId} {args : Array Value} {below : List Frame} {meth : Method} {c : Code} {H : Heap} {locs : List Loc} {cells slots : Nat} {Q : State → Prop}
variable {cc : ByteArray} {pc nL idx : Nat} {ls : Array Slot} {rest : List Value} {own : String} {G : GG} {a : Nat}
theorem w_rd {v : Option Value} {st0 : List Value} {aa : Array Value} (hr : CallRun p l e R s m args below meth c H locs cells slots 0 0 (F0 m pc ls st0) rest (Rd v aa) (fun _ => False)) {st : List Value} (hst : v.toList ++ rest = st)
    (kk : W p l e R s m args below meth c H locs cells slots Q (F0 m (pc + 3) ls st)) : W p l e R s m args below meth c H locs cells slots Q (F0 m pc ls st0) := by
  subst hst
  intro T hT X
  obtain ⟨v', st₀, t, T', L, h0, X', hL, e1, ⟨hv, hh⟩, st⟩ := hr T hT X
  cases hv
  obtain ⟨t2, a1, b1⟩ := kk T' (by rw [e1, hh, h0]) (Stand.forget X' (fun q h => (hL q h).elim))
  exact ⟨t2, st t2 a1, b1⟩
theorem w_callV {y : MethodName} {b : ByteArray} {n : Nat} {r : Option FieldType} {f lo : Nat} {ad : Nat → Nat} {C : Nat → Option va_E} {As : List Value} {v : Option Value} {Cn : String} {k ci N : Nat} {T : u_T} {fs : List Value} (cx : Cx p s m args c cc nL own G) (hM : MR l y b n r f lo G ad C (.ref a :: As) v) (lk : (.methodLink own idx y : Cond) ∈ lw_use) (cal : CalV y b n r Cn k) (hc : classes[ci]? = some (Cn, T, N)) (ha : va_at G.1 classes (a, .inr (ci, fs)) H) (hP : pa G ad C H) (hk : As.length = k)
    (hR : f + 1 ≤ R.frames ∧ 8 + (n + 11) + lo ≤ R.locals) (hls : ls.size = nL) (hro : (rest.map fun v => v.category).sum ≤ 8) (hf : cells ≤ R.cells ∧ slots ≤ R.slots) {st0 st : List Value} (hst0 : st0 = As.reverse ++ .ref a :: rest) (hst : v.toList ++ rest = st) (hdg : decode cc pc = .ok (.invokevirtual idx, 3))
    (kk : W p l e R s m args below meth c H locs cells slots Q (F0 m (pc + 3) ls st)) : W p l e R s m args below meth c H locs cells slots Q (F0 m pc ls st0) := by
  obtain ⟨h1, h2, h3, h4, h5⟩ := cal
  refine w_rd (W.runV (C := Cn) (b := a) (As := As) (rest := rest) (n := k) (bytes := b) (maxL := n) (ret := r) cx.1 hM (cwV k cx.1.2.2.2.2 (good_cons lk (good_cons h1 (good_cons h2 (good_cons h3 (lw_use_cons h4))))) rfl rfl rfl h5 hR) ⟨PcM.blind, va_recv (ws := [(a, .inr (ci, fs))]) (q0 := 0) cx.2.1 (fun k q h => ?_) hc rfl, fun U hU hW => ⟨rfl, by rw [hU]; exact hP, cx.2.warm hW⟩⟩ rfl hk hls hst0 (lv_room hro) hdg hf) hst kk
  match k, h with
  | 0, h => cases h; exact ha
theorem w_callS {y : MethodName} {b : ByteArray} {n : Nat} {r : Option FieldType} {f lo : Nat} {ad : Nat → Nat} {C : Nat → Option va_E} {As : List Value} {v : Option Value} {k : Nat} (cx : Cx p s m args c cc nL own G) (hM : MR l y b n r f lo G ad C As v) (lk : (.methodLink own idx y : Cond) ∈ lw_use) (cal : CalS y b n r k) (hP : pa G ad C H) (hk : As.length = k)
    (hR : f + 1 ≤ R.frames ∧ 8 + (n + 11) + lo ≤ R.locals) (hls : ls.size = nL) (hro : (rest.map fun v => v.category).sum ≤ 8) (hf : cells ≤ R.cells ∧ slots ≤ R.slots) {st0 st : List Value} (hst0 : st0 = As.reverse ++ rest) (hst : v.toList ++ rest = st) (hdg : decode cc pc = .ok (.invokestatic idx, 3))
    (kk : W p l e R s m args below meth c H locs cells slots Q (F0 m (pc + 3) ls st)) : W p l e R s m args below meth c H locs cells slots Q (F0 m pc ls st0) := by
  obtain ⟨h1, h2, h3, h4⟩ := cal
  exact w_rd (W.runS (As := As) (rest := rest) (n := k) (bytes := b) (maxL := n) (ret := r) cx.1 hM (va_cwS k cx.1.2.2.2.2 (good_cons lk (good_cons h1 (good_cons h2 (lw_use_cons h3)))) rfl rfl rfl h4 hR) ⟨PcM.blind, fun U hU hW => ⟨rfl, by rw [hU]; exact hP, cx.2.warm hW⟩⟩ rfl hk hls hst0 (lv_room hro) hdg hf) hst kk
theorem w_get {ci N : Nat} {Cn : String} {T : u_T} {fs : List Value} {v : Value} (cx : Cx p s m args c cc nL own G) (hc : classes[ci]? = some (Cn, T, N)) (hin : ∀ w ∈ u_ws Cn T N, w ∈ lw_use) (ha : va_at G.1 classes (a, .inr (ci, fs)) H) (k : Nat) (hk : k < N) (lk : (.fieldLink own idx (T k).1 (T k).2.1 (T k).2.2.1 : Cond) ∈ lw_use) (hv : fs[k]? = some v) (hdg : decode cc pc = .ok (.getfield idx, 3))
    (kk : W p l e R s m args below meth c H locs cells slots Q (F0 m (pc + 3) ls (v :: rest))) : W p l e R s m args below meth c H locs cells slots Q (F0 m pc ls (.ref a :: rest)) := by
  refine va_get (ws := [(a, .inr (ci, fs))]) cx.1.1 cx.1.2.1 cx.1.2.2.2.2 hin cx.1.2.2.2.1 cx.2.1 (fun k q h => ?_) 0 rfl hc k hk (cx.1.2.2.2.2 _ lk) (fun _ h => h) hv hdg kk
  match k, h with
  | 0, h => cases h; exact ha
theorem w_one {q : Nat × va_E} (ha : va_at G.1 classes q H) : va_P G.1 classes [q] H := fun k q' h => by
  match k, h with
  | 0, h => cases h; exact ha
theorem w_iald {n : Nat} {f : Nat → Int32} {x : Int32} (cx : Cx p s m args c cc nL own G) (ha : va_at G.1 classes (a, .inl (gI G, n, .inl f)) H) (j : Nat) (hx : x = nI j) (hj : j < n) (hn : n < 2 ^ 31) (hdg : decode cc pc = .ok (.iaload, 1))
    (kk : W p l e R s m args below meth c H locs cells slots Q (F0 m (pc + 1) ls (.int (f j) :: rest))) : W p l e R s m args below meth c H locs cells slots Q (F0 m pc ls (.int x :: .ref a :: rest)) := by
  refine va_iald (ws := [(a, .inl (gI G, n, .inl f))]) cx.1.1 cx.1.2.1 cx.2.1 (w_one ha) 0 0 rfl rfl (by rw [hx]; exact vp_in_nI hj hn) hdg ?_
  rw [hx, nI_clamp (Nat.lt_trans hj hn)]
  exact kk
theorem w_zald {n : Nat} {f : Nat → Int32} {x : Int32} (cx : Cx p s m args c cc nL own G) (ha : va_at G.1 classes (a, .inl (gZ G, n, .inl f)) H) (j : Nat) (hx : x = nI j) (hj : j < n) (hn : n < 2 ^ 31) (hdg : decode cc pc = .ok (.baload, 1))
    (kk : W p l e R s m args below meth c H locs cells slots Q (F0 m (pc + 1) ls (.int (f j) :: rest))) : W p l e R s m args below meth c H locs cells slots Q (F0 m pc ls (.int x :: .ref a :: rest)) := by
  refine va_zald (ws := [(a, .inl (gZ G, n, .inl f))]) cx.1.1 cx.1.2.1 cx.2.1 (w_one ha) 0 2 rfl rfl (by rw [hx]; exact vp_in_nI hj hn) hdg ?_
  rw [hx, nI_clamp (Nat.lt_trans hj hn)]
  exact kk
theorem w_lald {n : Nat} {f : Nat → Int64} {x : Int32} (cx : Cx p s m args c cc nL own G) (ha : va_at G.1 classes (a, .inl (gJ G, n, .inr (.inl f))) H) (j : Nat) (hx : x = nI j) (hj : j < n) (hn : n < 2 ^ 31) (hdg : decode cc pc = .ok (.laload, 1))
    (kk : W p l e R s m args below meth c H locs cells slots Q (F0 m (pc + 1) ls (.long (f j) :: rest))) : W p l e R s m args below meth c H locs cells slots Q (F0 m pc ls (.int x :: .ref a :: rest)) := by
  refine va_lald (ws := [(a, .inl (gJ G, n, .inr (.inl f)))]) cx.1.1 cx.1.2.1 cx.2.1 (w_one ha) 0 1 rfl rfl (by rw [hx]; exact vp_in_nI hj hn) hdg ?_
  rw [hx, nI_clamp (Nat.lt_trans hj hn)]
  exact kk
theorem w_aaldT {n : Nat} {f : Nat → Option Nat} {x : Int32} {v : Value} (cx : Cx p s m args c cc nL own G) (ha : va_at G.1 classes (a, .inl (gT G, n, .inr (.inr (.inr (.inr f))))) H) (j : Nat) (hx : x = nI j) (hj : j < n) (hn : n < 2 ^ 31) (hv : va_rf (f j) = v) (hdg : decode cc pc = .ok (.aaload, 1))
    (kk : W p l e R s m args below meth c H locs cells slots Q (F0 m (pc + 1) ls (v :: rest))) : W p l e R s m args below meth c H locs cells slots Q (F0 m pc ls (.int x :: .ref a :: rest)) := by
  refine va_aldq (ws := [(a, .inl (gT G, n, .inr (.inr (.inr (.inr f)))))]) cx.1.1 cx.1.2.1 cx.2.1 (w_one ha) 0 3 rfl rfl (by rw [hx]; exact vp_in_nI hj hn) hdg ?_
  rw [hx, nI_clamp (Nat.lt_trans hj hn), hv]
  exact kk
theorem w_aaldR {n : Nat} {f : Nat → Option Nat} {x : Int32} {v : Value} (cx : Cx p s m args c cc nL own G) (ha : va_at G.1 classes (a, .inl (gR G, n, .inr (.inr (.inr (.inr f))))) H) (j : Nat) (hx : x = nI j) (hj : j < n) (hn : n < 2 ^ 31) (hv : va_rf (f j) = v) (hdg : decode cc pc = .ok (.aaload, 1))
    (kk : W p l e R s m args below meth c H locs cells slots Q (F0 m (pc + 1) ls (v :: rest))) : W p l e R s m args below meth c H locs cells slots Q (F0 m pc ls (.int x :: .ref a :: rest)) := by
  refine va_aldq (ws := [(a, .inl (gR G, n, .inr (.inr (.inr (.inr f)))))]) cx.1.1 cx.1.2.1 cx.2.1 (w_one ha) 0 4 rfl rfl (by rw [hx]; exact vp_in_nI hj hn) hdg ?_
  rw [hx, nI_clamp (Nat.lt_trans hj hn), hv]
  exact kk
theorem w_ldc {v : Int32} (cx : Cx p s m args c cc nL own G) (lk : (.constant own idx v : Cond) ∈ lw_use) (hdg : decode cc pc = .ok (.ldc idx, 2))
    (kk : W p l e R s m args below meth c H locs cells slots Q (F0 m (pc + 2) ls (.int v :: rest))) : W p l e R s m args below meth c H locs cells slots Q (F0 m pc ls rest) := lv_ldc cx.1.1 cx.1.2.1 cx.1.2.2.2.1 (cx.1.2.2.2.2 _ lk) hdg kk
theorem w_ldc2 {v : Int64} (cx : Cx p s m args c cc nL own G) (lk : (.constantLong own idx v : Cond) ∈ lw_use) (hdg : decode cc pc = .ok (.ldc2_w idx, 3))
    (kk : W p l e R s m args below meth c H locs cells slots Q (F0 m (pc + 3) ls (.long v :: rest))) : W p l e R s m args below meth c H locs cells slots Q (F0 m pc ls rest) := lv_ldc2 cx.1.1 cx.1.2.1 cx.1.2.2.2.1 (cx.1.2.2.2.2 _ lk) hdg kk
theorem r_int {v w : Int32} (cx : Cx p s m args c cc nL own G) (hr : meth.sig.returnType = some .int) (hlocks : meth.locks = false) (h : v = w) (hdg : decode cc pc = .ok (.ireturn, 1)) : W p l e R s m args below meth c s.heap [] cells slots (MQ below (Rd (some (.int w))) args s cells slots (fun _ => False)) (F0 m pc ls [.int v]) := by
  subst h
  exact W.iret cx.1.1 cx.1.2.1 hr (fun t ht hW => ⟨rfl, ht⟩) (fun q h => by cases h) hdg hlocks
theorem r_bool {v w : Int32} (cx : Cx p s m args c cc nL own G) (hr : meth.sig.returnType = some .boolean) (hlocks : meth.locks = false) (h : v = w) (h01 : v = 0 ∨ v = 1) (hdg : decode cc pc = .ok (.ireturn, 1)) : W p l e R s m args below meth c s.heap [] cells slots (MQ below (Rd (some (.int w))) args s cells slots (fun _ => False)) (F0 m pc ls [.int v]) := by
  subst h
  exact W.zret cx.1.1 cx.1.2.1 hr (by rcases h01 with e | e <;> subst e <;> rfl) (fun t ht hW => ⟨rfl, ht⟩) (fun q h => by cases h) hdg hlocks
theorem r_long {v w : Int64} (cx : Cx p s m args c cc nL own G) (hr : meth.sig.returnType = some .long) (hlocks : meth.locks = false) (h : v = w) (hdg : decode cc pc = .ok (.lreturn, 1)) : W p l e R s m args below meth c s.heap [] cells slots (MQ below (Rd (some (.long w))) args s cells slots (fun _ => False)) (F0 m pc ls [.long v]) := by
  subst h
  exact W.lret cx.1.1 cx.1.2.1 hr (fun t ht hW => ⟨rfl, ht⟩) (fun q h => by cases h) hdg hlocks
theorem r_ref {v w : Value} {n : String} (cx : Cx p s m args c cc nL own G) (hr : meth.sig.returnType = some (.object n)) (hlocks : meth.locks = false) (h : v = w) (hv : v = .null ∨ ∃ a, v = .ref a) (hdg : decode cc pc = .ok (.areturn, 1)) : W p l e R s m args below meth c s.heap [] cells slots (MQ below (Rd (some w)) args s cells slots (fun _ => False)) (F0 m pc ls [v]) := by
  subst h
  exact W.aret cx.1.1 cx.1.2.1 hr (Or.inl ⟨_, rfl⟩) hv (fun t ht hW => ⟨rfl, ht⟩) (fun q h => by cases h) hdg hlocks
end RB
end
section
-- the abstract state: things, trials, scalars (0 day, 1 charges), arrays (see wip/whole/gen/walk.py), sums of owners
abbrev St : Type := Nat × Nat × (Nat → Int32) × (Nat → Nat → Int32) × (Nat → Int64)
def nt (S : St) : Nat := S.1
def nr (S : St) : Nat := S.2.1
def sc (S : St) (k : Nat) : Int32 := S.2.2.1 k
def ar (S : St) (k i : Nat) : Int32 := S.2.2.2.1 k i
def os (S : St) (i : Nat) : Int64 := S.2.2.2.2 i
def ix (x : Int32) : Nat := x.toNatClampNeg
-- what the class alone holds: the words of the seals, the ranking, the urgencies
abbrev Ex : Type := (Nat → Int32) × (Nat → Int32) × (Nat → Int64)
def rT (ad : Nat → Nat) (x : Int32) : Value := if x = -1000000 then .null else .ref (ad (100 + ix x))
theorem rT_null {ad : Nat → Nat} {x : Int32} (h : x = -1000000) : rT ad x = .null := if_pos h
theorem rT_ref {ad : Nat → Nat} {x : Int32} (h : ¬ x = -1000000) : rT ad x = .ref (ad (100 + ix x)) := if_neg h
abbrev eX (ad : Nat → Nat) (S : St) : va_E := .inr (2, [.ref (ad 1), .ref (ad 2), .ref (ad 3), .ref (ad 4), .ref (ad 5), .ref (ad 6), .ref (ad 7), .ref (ad 8), .ref (ad 9), .int (sc S 0), .int (nI (nt S)), .int (nI (nr S)), .int (sc S 1)])
abbrev fTs (ad : Nat → Nat) (S : St) : Nat → Option Nat := fun i => if i < nt S then some (ad (10 + 2 * i)) else none
abbrev fRs (ad : Nat → Nat) (S : St) : Nat → Option Nat := fun n => if n < nr S then some (ad (100 + n)) else none
abbrev fA (S : St) (k : Nat) : Nat → Int32 := fun i => if i = 0 then 0 else ar S k i
abbrev fD (S : St) (i : Nat) : Nat → Int32 := fun j => if j < 3 then ar S 9 (3 * i + j) else 0
abbrev eT (ad : Nat → Nat) (S : St) (i : Nat) : va_E := .inr (0, [.int (ar S 0 i), .int (ar S 1 i), .int (ar S 2 i), .ref (ad (11 + 2 * i)), .int (ar S 3 i), .int (ar S 8 i), .int (ar S 4 i), .int (ar S 7 i), .int (ar S 6 i), rT ad (ar S 5 i)])
abbrev eR (ad : Nat → Nat) (S : St) (n : Nat) : va_E := .inr (1, [.int (nI n), .int (ar S 13 n), .int (ar S 14 n), rT ad (ar S 20 n), .int (ar S 15 n), .int (ar S 16 n), .int (ar S 17 n), .int (ar S 18 n), .int (ar S 19 n), .int (ar S 21 n)])
def cX0 (G : GG) (ad : Nat → Nat) (S : St) (E : Ex) : Nat → Option va_E := fun k => match k with
  | 0 => some (eX ad S)
  | 1 => some (.inl (gT G, 40, .inr (.inr (.inr (.inr (fTs ad S))))))
  | 2 => some (.inl (gR G, 300, .inr (.inr (.inr (.inr (fRs ad S))))))
  | 3 => some (.inl (gI G, 4, .inl (fA S 10)))
  | 4 => some (.inl (gI G, 4, .inl (fA S 11)))
  | 5 => some (.inl (gI G, 10, .inl (ar S 22)))
  | 6 => some (.inl (gJ G, 10, .inr (.inl (os S))))
  | 7 => some (.inl (gI G, 313, .inl E.1))
  | 8 => some (.inl (gI G, 40, .inl E.2.1))
  | 9 => some (.inl (gJ G, 40, .inr (.inl E.2.2)))
  | _ => none
def cX (G : GG) (ad : Nat → Nat) (S : St) (E : Ex) : Nat → Option va_E := fun k =>
  if k < 10 then cX0 G ad S E k
  else if k < 100 then (if (k - 10) / 2 < nt S then (if k % 2 = 0 then some (eT ad S ((k - 10) / 2)) else some (.inl (gI G, 3, .inl (fD S ((k - 10) / 2))))) else none)
  else if k - 100 < nr S then some (eR ad S (k - 100)) else none
theorem cX_lo {G : GG} {ad : Nat → Nat} {S : St} {E : Ex} (k : Nat) (hk : k < 10) {e : va_E} (h : cX0 G ad S E k = some e) : cX G ad S E k = some e := by
  rw [cX, if_pos hk]; exact h
theorem cX_T {G : GG} {ad : Nat → Nat} {S : St} {E : Ex} {i : Nat} (hi : i < nt S) (h : nt S ≤ 40) : cX G ad S E (10 + 2 * i) = some (eT ad S i) := by
  rw [cX, if_neg (by omega), if_pos (by omega), show (10 + 2 * i - 10) / 2 = i by omega, if_pos hi, if_pos (by omega)]
theorem cX_D {G : GG} {ad : Nat → Nat} {S : St} {E : Ex} {i : Nat} (hi : i < nt S) (h : nt S ≤ 40) : cX G ad S E (11 + 2 * i) = some (.inl (gI G, 3, .inl (fD S i))) := by
  rw [cX, if_neg (by omega), if_pos (by omega), show (11 + 2 * i - 10) / 2 = i by omega, if_pos hi, if_neg (by omega)]
theorem cX_R {G : GG} {ad : Nat → Nat} {S : St} {E : Ex} {n : Nat} (hn : n < nr S) : cX G ad S E (100 + n) = some (eR ad S n) := by
  rw [cX, if_neg (by omega), if_neg (by omega), show 100 + n - 100 = n by omega, if_pos hn]
-- the reference: its object at 0, its arrays at 1 + k
abbrev eM (ad : Nat → Nat) (S : St) : va_E := .inr (3, [.int (sc S 0), .int (nI (nt S)), .ref (ad 1), .ref (ad 2), .ref (ad 3), .ref (ad 4), .ref (ad 5), .ref (ad 6), .ref (ad 7), .ref (ad 8), .ref (ad 9), .ref (ad 10), .ref (ad 11), .ref (ad 12), .ref (ad 13), .int (nI (nr S)), .ref (ad 14), .ref (ad 15), .ref (ad 16), .ref (ad 17), .ref (ad 18), .ref (ad 19), .ref (ad 20), .ref (ad 21), .ref (ad 22), .int (sc S 1), .ref (ad 23), .ref (ad 24)])
def mlen (k : Nat) : Nat := if k < 9 then 40 else if k = 9 then 120 else if k < 12 then 4 else if k = 12 then 10000 else if k < 22 then 300 else 10
def mcls (G : GG) (k : Nat) : ClassId := if k = 12 then gZ G else if k = 18 then gZ G else if k = 19 then gZ G else if k = 21 then gZ G else gI G
def cM (G : GG) (ad : Nat → Nat) (S : St) : Nat → Option va_E := fun k =>
  if k = 0 then some (eM ad S) else if k < 24 then some (.inl (mcls G (k - 1), mlen (k - 1), .inl (ar S (k - 1)))) else if k = 24 then some (.inl (gJ G, 10, .inr (.inl (os S)))) else none
theorem cM_0 {G : GG} {ad : Nat → Nat} {S : St} : cM G ad S 0 = some (eM ad S) := rfl
theorem cM_A {G : GG} {ad : Nat → Nat} {S : St} (k : Nat) (hk : k < 23) {n : Nat} {c : ClassId} (hn : mlen k = n) (hc : mcls G k = c) : cM G ad S (k + 1) = some (.inl (c, n, .inl (ar S k))) := by
  rw [cM, if_neg (by omega), if_pos (by omega), show k + 1 - 1 = k by omega, hn, hc]
theorem cM_L {G : GG} {ad : Nat → Nat} {S : St} : cM G ad S 24 = some (.inl (gJ G, 10, .inr (.inl (os S)))) := rfl
-- well-formed: what keeps every index within
def okx (x : Int32) (n : Nat) : Prop := x = nI (ix x) ∧ ix x < n
def WF (S : St) : Prop := nt S ≤ 40 ∧ nr S ≤ 300 ∧ (∀ i, i < nt S → ¬ ar S 5 i = -1000000 → okx (ar S 5 i) (nr S)) ∧ (∀ i, i < nt S → okx (ar S 0 i) 4) ∧ (∀ i, i < nt S → okx (ar S 3 i) 10) ∧ (∀ i, i < nt S → okx (ar S 8 i) 4)
def WB (S : St) : Prop := ∀ n, n < nr S → ¬ ar S 20 n = -1000000 → okx (ar S 20 n) n
theorem WF.t {S : St} (h : WF S) : nt S ≤ 40 := h.1
theorem WF.r {S : St} (h : WF S) : nr S ≤ 300 := h.2.1
theorem WF.la {S : St} (h : WF S) {i : Nat} (hi : i < nt S) (hn : ¬ ar S 5 i = -1000000) : okx (ar S 5 i) (nr S) := h.2.2.1 i hi hn
theorem WB.ba {S : St} (h : WB S) {n : Nat} (hi : n < nr S) (hn : ¬ ar S 20 n = -1000000) : okx (ar S 20 n) n := h n hi hn
theorem WF.kd {S : St} (h : WF S) {i : Nat} (hi : i < nt S) : okx (ar S 0 i) 4 := h.2.2.2.1 i hi
theorem WF.ow {S : St} (h : WF S) {i : Nat} (hi : i < nt S) : okx (ar S 3 i) 10 := h.2.2.2.2.1 i hi
theorem WF.dc {S : St} (h : WF S) {i : Nat} (hi : i < nt S) : okx (ar S 8 i) 4 := h.2.2.2.2.2 i hi
end
section
theorem cal_yX0_init : CalI yX0_init cX0_init 5 4 := ⟨k_103, k_30, k_104, rfl, by decide +kernel⟩
theorem cal_yX0_isOfTrade : CalV yX0_isOfTrade cX0_isOfTrade 1 (some .boolean) RX0 0 := ⟨k_181, k_182, k_30, k_183, by decide +kernel⟩
theorem cal_yX0_hasAllDraws : CalV yX0_hasAllDraws cX0_hasAllDraws 1 (some .boolean) RX0 0 := ⟨k_164, k_165, k_30, k_166, by decide +kernel⟩
theorem cal_yX0_addDraw : CalV yX0_addDraw cX0_addDraw 2 (some .int) RX0 1 := ⟨k_168, k_169, k_30, k_170, by decide +kernel⟩
theorem cal_yX0_leastDraw : CalV yX0_leastDraw cX0_leastDraw 1 (some .int) RX0 0 := ⟨k_222, k_223, k_30, k_224, by decide +kernel⟩
theorem cal_yX0_greatestDraw : CalV yX0_greatestDraw cX0_greatestDraw 1 (some .int) RX0 0 := ⟨k_229, k_230, k_30, k_231, by decide +kernel⟩
theorem cal_yX0_middleDraw : CalV yX0_middleDraw cX0_middleDraw 1 (some .int) RX0 0 := ⟨k_218, k_219, k_30, k_220, by decide +kernel⟩
theorem cal_yX0_spreadOfDraws : CalV yX0_spreadOfDraws cX0_spreadOfDraws 1 (some .int) RX0 0 := ⟨k_233, k_234, k_30, k_235, by decide +kernel⟩
theorem cal_yX0_isMeasured : CalV yX0_isMeasured cX0_isMeasured 1 (some .boolean) RX0 0 := ⟨k_325, k_326, k_30, k_327, by decide +kernel⟩
theorem cal_yX0_isSettledNow : CalV yX0_isSettledNow cX0_isSettledNow 1 (some .boolean) RX0 0 := ⟨k_199, k_200, k_30, k_201, by decide +kernel⟩
theorem cal_yX0_isDueOn : CalV yX0_isDueOn cX0_isDueOn 2 (some .boolean) RX0 1 := ⟨k_203, k_204, k_30, k_205, by decide +kernel⟩
theorem cal_yX0_daysUntilDue : CalV yX0_daysUntilDue cX0_daysUntilDue 2 (some .int) RX0 1 := ⟨k_207, k_208, k_30, k_209, by decide +kernel⟩
theorem cal_yX0_canBeTried : CalV yX0_canBeTried cX0_canBeTried 1 (some .boolean) RX0 0 := ⟨k_189, k_190, k_30, k_191, by decide +kernel⟩
theorem cal_yX0_canTryOthers : CalV yX0_canTryOthers cX0_canTryOthers 2 (some .boolean) RX0 1 := ⟨k_194, k_195, k_30, k_196, by decide +kernel⟩
theorem cal_yX0_errorHeld : CalV yX0_errorHeld cX0_errorHeld 1 (some .int) RX0 0 := ⟨k_237, k_238, k_30, k_239, by decide +kernel⟩
theorem cal_yX0_errorSize : CalV yX0_errorSize cX0_errorSize 1 (some .int) RX0 0 := ⟨k_364, k_365, k_30, k_366, by decide +kernel⟩
theorem cal_yX0_spanOn : CalV yX0_spanOn cX0_spanOn 3 (some .int) RX0 1 := ⟨k_214, k_215, k_30, k_216, by decide +kernel⟩
theorem cal_yX0_daysNoWiderThan : CalV yX0_daysNoWiderThan cX0_daysNoWiderThan 5 (some .int) RX0 2 := ⟨k_377, k_378, k_30, k_379, by decide +kernel⟩
theorem cal_yX0_isWrongedBy : CalV yX0_isWrongedBy cX0_isWrongedBy 3 (some .boolean) RX0 1 := ⟨k_293, k_294, k_30, k_295, by decide +kernel⟩
theorem cal_yX0_take : CalV yX0_take cX0_take 2 none RX0 1 := ⟨k_301, k_302, k_30, k_303, by decide +kernel⟩
theorem cal_yX1_init : CalI yX1_init cX1_init 8 7 := ⟨k_242, k_32, k_243, rfl, by decide +kernel⟩
theorem cal_yX1_isShakenBy : CalV yX1_isShakenBy cX1_isShakenBy 2 (some .boolean) RX1 1 := ⟨k_313, k_314, k_32, k_315, by decide +kernel⟩
theorem cal_yX2_init : CalI yX2_init cX2_init 2 0 := ⟨k_36, k_28, k_37, rfl, by decide +kernel⟩
theorem cal_yX2_pass : CalV yX2_pass cX2_pass 2 (some .int) RX2 1 := ⟨k_88, k_89, k_28, k_90, by decide +kernel⟩
theorem cal_yX2_thing : CalV yX2_thing cX2_thing 6 (some .int) RX2 4 := ⟨k_95, k_96, k_28, k_97, by decide +kernel⟩
theorem cal_yX2_about : CalV yX2_about cX2_about 4 (some .int) RX2 2 := ⟨k_146, k_147, k_28, k_148, by decide +kernel⟩
theorem cal_yX2_draw : CalV yX2_draw cX2_draw 4 (some .int) RX2 2 := ⟨k_158, k_159, k_28, k_160, by decide +kernel⟩
theorem cal_yX2_allow : CalV yX2_allow cX2_allow 6 (some .int) RX2 3 := ⟨k_173, k_174, k_28, k_175, by decide +kernel⟩
theorem cal_yX2_move : CalV yX2_move cX2_move 5 (some .int) RX2 2 := ⟨k_177, k_178, k_28, k_179, by decide +kernel⟩
theorem cal_yX2_trial : CalV yX2_trial cX2_trial 11 (some .int) RX2 4 := ⟨k_185, k_186, k_28, k_187, by decide +kernel⟩
theorem cal_yX2_told : CalV yX2_told cX2_told 4 (some .int) RX2 2 := ⟨k_317, k_318, k_28, k_319, by decide +kernel⟩
theorem cal_yX2_error : CalV yX2_error cX2_error 3 (some .int) RX2 1 := ⟨k_321, k_322, k_28, k_323, by decide +kernel⟩
theorem cal_yX2_span : CalV yX2_span cX2_span 3 (some .int) RX2 1 := ⟨k_329, k_330, k_28, k_331, by decide +kernel⟩
theorem cal_yX2_settled : CalV yX2_settled cX2_settled 3 (some .int) RX2 1 := ⟨k_333, k_334, k_28, k_335, by decide +kernel⟩
theorem cal_yX2_due : CalV yX2_due cX2_due 3 (some .int) RX2 1 := ⟨k_338, k_339, k_28, k_340, by decide +kernel⟩
theorem cal_yX2_left : CalV yX2_left cX2_left 3 (some .int) RX2 1 := ⟨k_343, k_344, k_28, k_345, by decide +kernel⟩
theorem cal_yX2_chain : CalV yX2_chain cX2_chain 6 (some .int) RX2 2 := ⟨k_348, k_349, k_28, k_350, by decide +kernel⟩
theorem cal_yX2_unsettled : CalV yX2_unsettled cX2_unsettled 4 (some .int) RX2 0 := ⟨k_352, k_353, k_28, k_354, by decide +kernel⟩
theorem cal_yX2_judge : CalV yX2_judge cX2_judge 3 (some .int) RX2 1 := ⟨k_356, k_357, k_28, k_358, by decide +kernel⟩
theorem cal_yX2_stays : CalV yX2_stays cX2_stays 6 (some .int) RX2 1 := ⟨k_373, k_374, k_28, k_375, by decide +kernel⟩
theorem cal_yX2_seal : CalV yX2_seal cX2_seal 4 (some .int) RX2 2 := ⟨k_386, k_387, k_28, k_388, by decide +kernel⟩
theorem cal_yX2_sealed : CalV yX2_sealed cX2_sealed 4 (some .int) RX2 1 := ⟨k_401, k_402, k_28, k_403, by decide +kernel⟩
theorem cal_yX2_charge : CalV yX2_charge cX2_charge 7 (some .int) RX2 1 := ⟨k_405, k_406, k_28, k_407, by decide +kernel⟩
theorem cal_yX2_charged : CalV yX2_charged cX2_charged 2 (some .long) RX2 1 := ⟨k_410, k_411, k_28, k_412, by decide +kernel⟩
theorem cal_yX2_first : CalV yX2_first cX2_first 3 (some .int) RX2 1 := ⟨k_415, k_416, k_28, k_417, by decide +kernel⟩
theorem cal_yX2_count : CalV yX2_count cX2_count 2 (some .int) RX2 1 := ⟨k_434, k_435, k_28, k_436, by decide +kernel⟩
theorem cal_yX2_isWithin : CalS yX2_isWithin cX2_isWithin 3 (some .boolean) 3 := ⟨k_92, k_28, k_93, by decide +kernel⟩
theorem cal_yX2_isOwner : CalS yX2_isOwner cX2_isOwner 1 (some .boolean) 1 := ⟨k_99, k_28, k_100, by decide +kernel⟩
theorem cal_yX2_isSealNumber : CalS yX2_isSealNumber cX2_isSealNumber 1 (some .boolean) 1 := ⟨k_390, k_28, k_391, by decide +kernel⟩
theorem cal_yX2_numberOf : CalS yX2_numberOf cX2_numberOf 1 (some .int) 1 := ⟨k_154, k_28, k_155, by decide +kernel⟩
theorem cal_yX2_thingAt : CalV yX2_thingAt cX2_thingAt 2 (some (.object "TrueWeights$Thing")) RX2 1 := ⟨k_151, k_0, k_28, k_152, by decide +kernel⟩
theorem cal_yX2_trialAt : CalV yX2_trialAt cX2_trialAt 2 (some (.object "TrueWeights$Trial")) RX2 1 := ⟨k_310, k_3, k_28, k_311, by decide +kernel⟩
theorem cal_yX2_takeTrial : CalV yX2_takeTrial cX2_takeTrial 4 none RX2 2 := ⟨k_290, k_1, k_28, k_291, by decide +kernel⟩
theorem cal_yX2_unsettleAllBasedOn : CalV yX2_unsettleAllBasedOn cX2_unsettleAllBasedOn 4 none RX2 1 := ⟨k_306, k_2, k_28, k_307, by decide +kernel⟩
theorem cal_yX2_allowanceFor : CalV yX2_allowanceFor cX2_allowanceFor 3 (some .int) RX2 1 := ⟨k_370, k_5, k_28, k_371, by decide +kernel⟩
theorem cal_yX2_judgement : CalV yX2_judgement cX2_judgement 5 (some .int) RX2 1 := ⟨k_361, k_4, k_28, k_362, by decide +kernel⟩
theorem cal_yX2_wasPutOn : CalV yX2_wasPutOn cX2_wasPutOn 2 (some .boolean) RX2 1 := ⟨k_394, k_6, k_28, k_395, by decide +kernel⟩
theorem cal_yX2_markPutOn : CalV yX2_markPutOn cX2_markPutOn 2 none RX2 1 := ⟨k_398, k_7, k_28, k_399, by decide +kernel⟩
theorem cal_yX2_rankThings : CalV yX2_rankThings cX2_rankThings 4 (some .int) RX2 0 := ⟨k_420, k_8, k_28, k_421, by decide +kernel⟩
theorem cal_yX2_rankBehind : CalV yX2_rankBehind cX2_rankBehind 6 none RX2 3 := ⟨k_431, k_10, k_28, k_432, by decide +kernel⟩
theorem cal_yX2_urgencyOf : CalV yX2_urgencyOf cX2_urgencyOf 3 (some .long) RX2 1 := ⟨k_424, k_9, k_28, k_425, by decide +kernel⟩
theorem cal_yX2_howManyDue : CalV yX2_howManyDue cX2_howManyDue 4 (some .int) RX2 0 := ⟨k_439, k_11, k_28, k_440, by decide +kernel⟩
theorem cal_yX2_howManyJudged : CalV yX2_howManyJudged cX2_howManyJudged 5 (some .int) RX2 1 := ⟨k_443, k_12, k_28, k_444, by decide +kernel⟩
theorem cal_yX3_init : CalI yX3_init cX3_init 2 0 := ⟨k_448, k_29, k_449, rfl, by decide +kernel⟩
theorem cal_yX3_in : CalS yX3_in cX3_in 3 (some .boolean) 3 := ⟨k_542, k_29, k_543, by decide +kernel⟩
theorem cal_yX3_isThing : CalV yX3_isThing cX3_isThing 2 (some .boolean) RX3 1 := ⟨k_555, k_13, k_29, k_556, by decide +kernel⟩
theorem cal_yX3_pass : CalV yX3_pass cX3_pass 2 (some .int) RX3 1 := ⟨k_538, k_539, k_29, k_540, by decide +kernel⟩
theorem cal_yX3_thing : CalV yX3_thing cX3_thing 5 (some .int) RX3 4 := ⟨k_545, k_546, k_29, k_547, by decide +kernel⟩
theorem cal_yX3_about : CalV yX3_about cX3_about 3 (some .int) RX3 2 := ⟨k_550, k_551, k_29, k_552, by decide +kernel⟩
theorem cal_yX3_draw : CalV yX3_draw cX3_draw 3 (some .int) RX3 2 := ⟨k_558, k_559, k_29, k_560, by decide +kernel⟩
theorem cal_yX3_allow : CalV yX3_allow cX3_allow 5 (some .int) RX3 3 := ⟨k_564, k_565, k_29, k_566, by decide +kernel⟩
theorem cal_yX3_isTool : CalV yX3_isTool cX3_isTool 2 (some .boolean) RX3 1 := ⟨k_573, k_14, k_29, k_574, by decide +kernel⟩
theorem cal_yX3_move : CalV yX3_move cX3_move 4 (some .int) RX3 2 := ⟨k_568, k_569, k_29, k_570, by decide +kernel⟩
theorem cal_yX3_settledNow : CalV yX3_settledNow cX3_settledNow 2 (some .boolean) RX3 1 := ⟨k_581, k_15, k_29, k_582, by decide +kernel⟩
theorem cal_yX3_dueNow : CalV yX3_dueNow cX3_dueNow 2 (some .boolean) RX3 1 := ⟨k_585, k_16, k_29, k_586, by decide +kernel⟩
theorem cal_yX3_errorOf : CalV yX3_errorOf cX3_errorOf 2 (some .int) RX3 1 := ⟨k_589, k_17, k_29, k_590, by decide +kernel⟩
theorem cal_yX3_spanOn : CalV yX3_spanOn cX3_spanOn 3 (some .int) RX3 2 := ⟨k_597, k_19, k_29, k_598, by decide +kernel⟩
theorem cal_yX3_middle : CalV yX3_middle cX3_middle 7 (some .int) RX3 1 := ⟨k_593, k_18, k_29, k_594, by decide +kernel⟩
theorem cal_yX3_range : CalV yX3_range cX3_range 5 (some .int) RX3 1 := ⟨k_601, k_20, k_29, k_602, by decide +kernel⟩
theorem cal_yX3_trial : CalV yX3_trial cX3_trial 10 (some .int) RX3 4 := ⟨k_576, k_577, k_29, k_578, by decide +kernel⟩
theorem cal_yX3_unsettle : CalV yX3_unsettle cX3_unsettle 3 none RX3 1 := ⟨k_605, k_21, k_29, k_606, by decide +kernel⟩
theorem cal_yX3_told : CalV yX3_told cX3_told 3 (some .int) RX3 2 := ⟨k_608, k_609, k_29, k_610, by decide +kernel⟩
theorem cal_yX3_error : CalV yX3_error cX3_error 2 (some .int) RX3 1 := ⟨k_612, k_613, k_29, k_614, by decide +kernel⟩
theorem cal_yX3_span : CalV yX3_span cX3_span 2 (some .int) RX3 1 := ⟨k_616, k_617, k_29, k_618, by decide +kernel⟩
theorem cal_yX3_settled : CalV yX3_settled cX3_settled 2 (some .int) RX3 1 := ⟨k_620, k_621, k_29, k_622, by decide +kernel⟩
theorem cal_yX3_due : CalV yX3_due cX3_due 2 (some .int) RX3 1 := ⟨k_624, k_625, k_29, k_626, by decide +kernel⟩
theorem cal_yX3_left : CalV yX3_left cX3_left 2 (some .int) RX3 1 := ⟨k_628, k_629, k_29, k_630, by decide +kernel⟩
theorem cal_yX3_chain : CalV yX3_chain cX3_chain 5 (some .int) RX3 2 := ⟨k_632, k_633, k_29, k_634, by decide +kernel⟩
theorem cal_yX3_unsettled : CalV yX3_unsettled cX3_unsettled 3 (some .int) RX3 0 := ⟨k_636, k_637, k_29, k_638, by decide +kernel⟩
theorem cal_yX3_allowance : CalV yX3_allowance cX3_allowance 2 (some .int) RX3 1 := ⟨k_649, k_23, k_29, k_650, by decide +kernel⟩
theorem cal_yX3_judgedOn : CalV yX3_judgedOn cX3_judgedOn 6 (some .int) RX3 2 := ⟨k_645, k_22, k_29, k_646, by decide +kernel⟩
theorem cal_yX3_judge : CalV yX3_judge cX3_judge 2 (some .int) RX3 1 := ⟨k_640, k_641, k_29, k_642, by decide +kernel⟩
theorem cal_yX3_stays : CalV yX3_stays cX3_stays 4 (some .int) RX3 1 := ⟨k_652, k_653, k_29, k_654, by decide +kernel⟩
theorem cal_yX3_seal : CalV yX3_seal cX3_seal 3 (some .int) RX3 2 := ⟨k_656, k_657, k_29, k_658, by decide +kernel⟩
theorem cal_yX3_sealed : CalV yX3_sealed cX3_sealed 3 (some .int) RX3 1 := ⟨k_660, k_661, k_29, k_662, by decide +kernel⟩
theorem cal_yX3_charge : CalV yX3_charge cX3_charge 6 (some .int) RX3 1 := ⟨k_664, k_665, k_29, k_666, by decide +kernel⟩
theorem cal_yX3_charged : CalV yX3_charged cX3_charged 2 (some .long) RX3 1 := ⟨k_668, k_669, k_29, k_670, by decide +kernel⟩
theorem cal_yX3_group : CalV yX3_group cX3_group 2 (some .int) RX3 1 := ⟨k_682, k_25, k_29, k_683, by decide +kernel⟩
theorem cal_yX3_weight : CalV yX3_weight cX3_weight 3 (some .int) RX3 1 := ⟨k_686, k_26, k_29, k_687, by decide +kernel⟩
theorem cal_yX3_isAhead : CalV yX3_isAhead cX3_isAhead 3 (some .boolean) RX3 2 := ⟨k_678, k_24, k_29, k_679, by decide +kernel⟩
theorem cal_yX3_first : CalV yX3_first cX3_first 5 (some .int) RX3 1 := ⟨k_673, k_674, k_29, k_675, by decide +kernel⟩
theorem cal_yX3_count : CalV yX3_count cX3_count 5 (some .int) RX3 1 := ⟨k_689, k_690, k_29, k_691, by decide +kernel⟩
def f_abs (x : Int32) : Int32 := if 0 ≤ x then x else 0 - x
def f_max (x y : Int32) : Int32 := if x < y then y else x
def f_min (x y : Int32) : Int32 := if y < x then y else x
def f_lmin (x y : Int64) : Int64 := if y < x then y else x
section MA
variable {p : Program} {l : Launch} {e : Env} {R : Room} {s : State} {m : MethodId} {args : Array Value} {below : List Frame} {meth : Method} {c : Code} {H : Heap} {locs : List Loc} {cells slots : Nat} {Q : State → Prop}
variable {cc : ByteArray} {pc nL idx : Nat} {ls : Array Slot} {rest : List Value} {own : String} {G : GG} {x y : Int32} {u v : Int64}
theorem w_abs (cx : Cx p s m args c cc nL own G) (hls : ls.size = nL) (lk : (.methodLink own idx Lib.Math.abs.name : Cond) ∈ lw_use) (hfr : 1 ≤ R.frames) (hlo : 23 ≤ R.locals) (hf : cells ≤ R.cells ∧ slots ≤ R.slots) (hro : (rest.map fun v => v.category).sum ≤ 8) (hdg : decode cc pc = .ok (.invokestatic idx, 3))
    (kk : W p l e R s m args below meth c H locs cells slots Q (F0 m (pc + 3) ls (.int (f_abs x) :: rest))) : W p l e R s m args below meth c H locs cells slots Q (F0 m pc ls (.int x :: rest)) :=
  va_mabs cx.1.1 cx.1.2.1 (cx.1.2.2.1.trans hls.symm) cx.1.2.2.2.1 (cx.1.2.2.2.2 _ lk) (cx.1.2.2.2.2 _ k_297) (cx.1.2.2.2.2 _ k_31) (cx.1.2.2.2.2 (.code Lib.Math.abs.name Lib.Math.abs.code 1 (some .int)) k_298) hfr (by omega) hf.1 hf.2 hdg kk
theorem w_max (cx : Cx p s m args c cc nL own G) (hls : ls.size = nL) (lk : (.methodLink own idx Lib.Math.max.name : Cond) ∈ lw_use) (hfr : 1 ≤ R.frames) (hlo : 23 ≤ R.locals) (hf : cells ≤ R.cells ∧ slots ≤ R.slots) (hro : (rest.map fun v => v.category).sum ≤ 8) (hdg : decode cc pc = .ok (.invokestatic idx, 3))
    (kk : W p l e R s m args below meth c H locs cells slots Q (F0 m (pc + 3) ls (.int (f_max x y) :: rest))) : W p l e R s m args below meth c H locs cells slots Q (F0 m pc ls (.int y :: .int x :: rest)) :=
  va_mmax cx.1.1 cx.1.2.1 (cx.1.2.2.1.trans hls.symm) cx.1.2.2.2.1 (cx.1.2.2.2.2 _ lk) (cx.1.2.2.2.2 _ k_211) (cx.1.2.2.2.2 _ k_31) (cx.1.2.2.2.2 (.code Lib.Math.max.name Lib.Math.max.code 2 (some .int)) k_212) hfr (by omega) hf.1 hf.2 hdg kk
theorem w_min (cx : Cx p s m args c cc nL own G) (hls : ls.size = nL) (lk : (.methodLink own idx Lib.Math.min.name : Cond) ∈ lw_use) (hfr : 1 ≤ R.frames) (hlo : 23 ≤ R.locals) (hf : cells ≤ R.cells ∧ slots ≤ R.slots) (hro : (rest.map fun v => v.category).sum ≤ 8) (hdg : decode cc pc = .ok (.invokestatic idx, 3))
    (kk : W p l e R s m args below meth c H locs cells slots Q (F0 m (pc + 3) ls (.int (f_min x y) :: rest))) : W p l e R s m args below meth c H locs cells slots Q (F0 m pc ls (.int y :: .int x :: rest)) :=
  va_mmin cx.1.1 cx.1.2.1 (cx.1.2.2.1.trans hls.symm) cx.1.2.2.2.1 (cx.1.2.2.2.2 _ lk) (cx.1.2.2.2.2 _ k_226) (cx.1.2.2.2.2 _ k_31) (cx.1.2.2.2.2 (.code Lib.Math.min.name Lib.Math.min.code 2 (some .int)) k_227) hfr (by omega) hf.1 hf.2 hdg kk
theorem w_lmin (cx : Cx p s m args c cc nL own G) (hls : ls.size = nL) (lk : (.methodLink own idx Lib.MathLoose.min_long.x : Cond) ∈ lw_use) (hfr : 1 ≤ R.frames) (hlo : 23 ≤ R.locals) (hf : cells ≤ R.cells ∧ slots ≤ R.slots) (hro : (rest.map fun v => v.category).sum ≤ 8) (hdg : decode cc pc = .ok (.invokestatic idx, 3))
    (kk : W p l e R s m args below meth c H locs cells slots Q (F0 m (pc + 3) ls (.long (f_lmin u v) :: rest))) : W p l e R s m args below meth c H locs cells slots Q (F0 m pc ls (.long v :: .long u :: rest)) :=
  va_mmin_long cx.1.1 cx.1.2.1 (cx.1.2.2.1.trans hls.symm) cx.1.2.2.2.1 (cx.1.2.2.2.2 _ lk) (cx.1.2.2.2.2 _ k_383) (cx.1.2.2.2.2 _ k_31) (cx.1.2.2.2.2 (.code Lib.MathLoose.min_long.x Lib.MathLoose.min_long.code 4 (some .long)) k_384) hfr (by omega) hf.1 hf.2 hdg kk
end MA
end
section
def f_X2_isWithin (x y z : Int32) : Int32 :=
  if x < y then 0
  else if z < x then 0
  else 1
theorem b_X2_isWithin (x y z : Int32) : f_X2_isWithin x y z = 0 ∨ f_X2_isWithin x y z = 1 := by
  unfold f_X2_isWithin
  repeat' split
  all_goals first | exact Or.inl rfl | exact Or.inr rfl
set_option maxRecDepth 20000 in
theorem c_X2_isWithin (l : Launch) (G : GG) (ad : Nat → Nat) (C : Nat → Option va_E) (x y z : Int32) : MR l yX2_isWithin cX2_isWithin 3 (some .boolean) 0 0 G ad C [.int x, .int y, .int z] (some (.int (f_X2_isWithin x y z))) := by
  refine MR.of [(0, .int x), (1, .int y), (2, .int z)] (by decide) (Nat.le_of_ble_eq_true rfl) rfl ?_
  intro p e s m args below meth c cx hr hlk hP ls hl
  have hx := cx.1.1
  have hb := cx.1.2.1
  refine lv_iload_n hx hb dX2_isWithin_0 rfl (lv_at hl 0 rfl) ?_
  refine lv_iload_n hx hb dX2_isWithin_1 rfl (lv_at hl 1 rfl) ?_
  refine lv_icmp_lt (tgt := 14) hx hb dX2_isWithin_2 (by decide) (fun c_1 => ?_) (fun c_1 => ?_)
  · refine lv_iconst (v := 0) hx hb dX2_isWithin_14 (by decide) ?_
    exact r_bool cx hr hlk (by rw [f_X2_isWithin, if_pos c_1]) (Or.inl rfl) dX2_isWithin_15
  · refine lv_iload_n hx hb dX2_isWithin_5 rfl (lv_at hl 0 rfl) ?_
    refine lv_iload_n hx hb dX2_isWithin_6 rfl (lv_at hl 2 rfl) ?_
    refine lv_icmp_gt (tgt := 14) hx hb dX2_isWithin_7 (by decide) (fun c_2 => ?_) (fun c_2 => ?_)
    · refine lv_iconst (v := 0) hx hb dX2_isWithin_14 (by decide) ?_
      exact r_bool cx hr hlk (by rw [f_X2_isWithin, if_neg c_1, if_pos c_2]) (Or.inl rfl) dX2_isWithin_15
    · refine lv_iconst (v := 1) hx hb dX2_isWithin_10 (by decide) ?_
      refine lv_goto (tgt := 15) hx hb dX2_isWithin_11 (by decide) ?_
      exact r_bool cx hr hlk (by rw [f_X2_isWithin, if_neg c_1, if_neg c_2]) (Or.inr rfl) dX2_isWithin_15
def f_X2_isOwner (x : Int32) : Int32 :=
  f_X2_isWithin x 0 9
theorem b_X2_isOwner (x : Int32) : f_X2_isOwner x = 0 ∨ f_X2_isOwner x = 1 := by
  unfold f_X2_isOwner
  all_goals first | exact Or.inl rfl | exact Or.inr rfl | exact b_X2_isWithin x 0 9
set_option maxRecDepth 20000 in
theorem c_X2_isOwner (l : Launch) (G : GG) (ad : Nat → Nat) (C : Nat → Option va_E) (x : Int32) : MR l yX2_isOwner cX2_isOwner 1 (some .boolean) 1 22 G ad C [.int x] (some (.int (f_X2_isOwner x))) := by
  refine MR.of [(0, .int x)] (by decide) (Nat.le_of_ble_eq_true rfl) rfl ?_
  intro p e s m args below meth c cx hr hlk hP ls hl
  have hx := cx.1.1
  have hb := cx.1.2.1
  refine lv_iload_n hx hb dX2_isOwner_0 rfl (lv_at hl 0 rfl) ?_
  refine lv_iconst (v := 0) hx hb dX2_isOwner_1 (by decide) ?_
  refine lv_bipush (v := 9) hx hb dX2_isOwner_2 (by decide) ?_
  refine w_callS (As := [.int x, .int 0, .int 9]) (rest := []) (st := [.int (f_X2_isWithin x 0 9)]) cx (c_X2_isWithin l G ad _ x 0 9) k_91 cal_yX2_isWithin hP rfl ⟨Nat.le_of_ble_eq_true rfl, Nat.le_of_ble_eq_true rfl⟩ hl.1 (Nat.le_of_ble_eq_true rfl) ⟨Nat.zero_le _, Nat.zero_le _⟩ rfl rfl dX2_isOwner_4 ?_
  exact r_bool cx hr hlk (by rw [f_X2_isOwner]) (b_X2_isWithin x 0 9) dX2_isOwner_7
def f_X2_isSealNumber (x : Int32) : Int32 :=
  f_X2_isWithin x 1 9999
theorem b_X2_isSealNumber (x : Int32) : f_X2_isSealNumber x = 0 ∨ f_X2_isSealNumber x = 1 := by
  unfold f_X2_isSealNumber
  all_goals first | exact Or.inl rfl | exact Or.inr rfl | exact b_X2_isWithin x 1 9999
set_option maxRecDepth 20000 in
theorem c_X2_isSealNumber (l : Launch) (G : GG) (ad : Nat → Nat) (C : Nat → Option va_E) (x : Int32) : MR l yX2_isSealNumber cX2_isSealNumber 1 (some .boolean) 1 22 G ad C [.int x] (some (.int (f_X2_isSealNumber x))) := by
  refine MR.of [(0, .int x)] (by decide) (Nat.le_of_ble_eq_true rfl) rfl ?_
  intro p e s m args below meth c cx hr hlk hP ls hl
  have hx := cx.1.1
  have hb := cx.1.2.1
  refine lv_iload_n hx hb dX2_isSealNumber_0 rfl (lv_at hl 0 rfl) ?_
  refine lv_iconst (v := 1) hx hb dX2_isSealNumber_1 (by decide) ?_
  refine lv_sipush (v := 9999) hx hb dX2_isSealNumber_2 (by decide) ?_
  refine w_callS (As := [.int x, .int 1, .int 9999]) (rest := []) (st := [.int (f_X2_isWithin x 1 9999)]) cx (c_X2_isWithin l G ad _ x 1 9999) k_91 cal_yX2_isWithin hP rfl ⟨Nat.le_of_ble_eq_true rfl, Nat.le_of_ble_eq_true rfl⟩ hl.1 (Nat.le_of_ble_eq_true rfl) ⟨Nat.zero_le _, Nat.zero_le _⟩ rfl rfl dX2_isSealNumber_5 ?_
  exact r_bool cx hr hlk (by rw [f_X2_isSealNumber]) (b_X2_isWithin x 1 9999) dX2_isSealNumber_8
def f_X3_in (x y z : Int32) : Int32 :=
  if x < y then 0
  else if z < x then 0
  else 1
theorem b_X3_in (x y z : Int32) : f_X3_in x y z = 0 ∨ f_X3_in x y z = 1 := by
  unfold f_X3_in
  repeat' split
  all_goals first | exact Or.inl rfl | exact Or.inr rfl
set_option maxRecDepth 20000 in
theorem c_X3_in (l : Launch) (G : GG) (ad : Nat → Nat) (C : Nat → Option va_E) (x y z : Int32) : MR l yX3_in cX3_in 3 (some .boolean) 0 0 G ad C [.int x, .int y, .int z] (some (.int (f_X3_in x y z))) := by
  refine MR.of [(0, .int x), (1, .int y), (2, .int z)] (by decide) (Nat.le_of_ble_eq_true rfl) rfl ?_
  intro p e s m args below meth c cx hr hlk hP ls hl
  have hx := cx.1.1
  have hb := cx.1.2.1
  refine lv_iload_n hx hb dX3_in_0 rfl (lv_at hl 0 rfl) ?_
  refine lv_iload_n hx hb dX3_in_1 rfl (lv_at hl 1 rfl) ?_
  refine lv_icmp_lt (tgt := 14) hx hb dX3_in_2 (by decide) (fun c_1 => ?_) (fun c_1 => ?_)
  · refine lv_iconst (v := 0) hx hb dX3_in_14 (by decide) ?_
    exact r_bool cx hr hlk (by rw [f_X3_in, if_pos c_1]) (Or.inl rfl) dX3_in_15
  · refine lv_iload_n hx hb dX3_in_5 rfl (lv_at hl 0 rfl) ?_
    refine lv_iload_n hx hb dX3_in_6 rfl (lv_at hl 2 rfl) ?_
    refine lv_icmp_gt (tgt := 14) hx hb dX3_in_7 (by decide) (fun c_2 => ?_) (fun c_2 => ?_)
    · refine lv_iconst (v := 0) hx hb dX3_in_14 (by decide) ?_
      exact r_bool cx hr hlk (by rw [f_X3_in, if_neg c_1, if_pos c_2]) (Or.inl rfl) dX3_in_15
    · refine lv_iconst (v := 1) hx hb dX3_in_10 (by decide) ?_
      refine lv_goto (tgt := 15) hx hb dX3_in_11 (by decide) ?_
      exact r_bool cx hr hlk (by rw [f_X3_in, if_neg c_1, if_neg c_2]) (Or.inr rfl) dX3_in_15

def nT (S : St) (n : Int32) : Prop := ¬ ∃ j, j < nt S ∧ n = nI j
def nR (S : St) (n : Int32) : Prop := ¬ ∃ j, j < nr S ∧ n = nI j
theorem i_lt (a b : Int32) : a < b ↔ a.toInt < b.toInt := Int32.lt_iff_toInt_lt
theorem i_le (a b : Int32) : a ≤ b ↔ a.toInt ≤ b.toInt := Int32.le_iff_toInt_le
theorem i_eq (a b : Int32) : a = b ↔ a.toInt = b.toInt := Int32.toInt_inj.symm
theorem nI_m1 {n : Nat} (h : n < 1000000) : (nI n - 1).toInt = (n : Int) - 1 := by
  have h1 : (nI n).toInt = (n : Int) := nI_toInt (by omega)
  rw [Int32.toInt_sub, h1]
  show ((n : Int) - 1).bmod (2 ^ 32) = (n : Int) - 1
  rw [Int.bmod_eq_of_le (by omega) (by omega)]
theorem isW_in {j n : Nat} (hj : j < n) (hn : n < 1000000) : ¬ f_X2_isWithin (nI j) 0 (nI n - 1) = 0 := by
  have h1 : (nI j).toInt = (j : Int) := nI_toInt (by omega)
  rw [f_X2_isWithin, if_neg (by rw [i_lt, h1]; show ¬ (j : Int) < 0; omega), if_neg (by rw [i_lt, h1, nI_m1 hn]; omega)]
  decide
theorem isW_out {n : Nat} {x : Int32} (hn : n < 1000000) (h : ¬ ∃ j, j < n ∧ x = nI j) : f_X2_isWithin x 0 (nI n - 1) = 0 := by
  rw [f_X2_isWithin]
  split
  · rfl
  · rename_i h0
    split
    · rfl
    · rename_i h1
      refine absurd ⟨x.toInt.toNat, ?_, ?_⟩ h
      · rw [i_lt, nI_m1 hn] at h1
        rw [i_lt] at h0
        have : ¬ x.toInt < 0 := h0
        omega
      · rw [i_eq]
        rw [i_lt, nI_m1 hn] at h1
        rw [i_lt] at h0
        have : ¬ x.toInt < 0 := h0
        rw [nI_toInt (by omega)]
        omega
theorem in_in {j n : Nat} (hj : j < n) (hn : n < 1000000) : ¬ f_X3_in (nI j) 0 (nI n - 1) = 0 := isW_in hj hn
theorem in_out {n : Nat} {x : Int32} (hn : n < 1000000) (h : ¬ ∃ j, j < n ∧ x = nI j) : f_X3_in x 0 (nI n - 1) = 0 := isW_out hn h
theorem within_nI {x : Int32} {a b : Nat} (ha : a < 1000000) (hb : b < 1000000) (h : ¬ f_X2_isWithin x (nI a) (nI b) = 0) : ∃ j, a ≤ j ∧ j ≤ b ∧ x = nI j := by
  rw [f_X2_isWithin] at h
  split at h
  · exact absurd rfl h
  · rename_i h0
    split at h
    · exact absurd rfl h
    · rename_i h1
      have hbb : (nI b).toInt = (b : Int) := nI_toInt (by omega)
      rw [i_lt, hbb] at h1
      have haa : (nI a).toInt = (a : Int) := nI_toInt (by omega)
      rw [i_lt, haa] at h0
      refine ⟨x.toInt.toNat, by omega, by omega, ?_⟩
      rw [i_eq, nI_toInt (by omega)]
      omega
theorem nI_within {j a b : Nat} (h1 : a ≤ j) (h2 : j ≤ b) (hb : b < 1000000) : ¬ f_X2_isWithin (nI j) (nI a) (nI b) = 0 := by
  have e1 : (nI j).toInt = (j : Int) := nI_toInt (by omega)
  have e2 : (nI a).toInt = (a : Int) := nI_toInt (by omega)
  have e3 : (nI b).toInt = (b : Int) := nI_toInt (by omega)
  rw [f_X2_isWithin, if_neg (by rw [i_lt, e1, e2]; omega), if_neg (by rw [i_lt, e1, e3]; omega)]
  decide
theorem isO_in {o : Nat} (h : o < 10) : ¬ f_X2_isOwner (nI o) = 0 := nI_within (a := 0) (b := 9) (Nat.zero_le _) (by omega) (by decide)
theorem isN_in {k : Nat} (h1 : 1 ≤ k) (h : k < 10000) : ¬ f_X2_isSealNumber (nI k) = 0 := nI_within (a := 1) (b := 9999) h1 (by omega) (by decide)
theorem nz64 {x : Int32} (h : ¬ x ≤ 0) : ¬ x.toInt64 = 0 := by
  intro e
  apply h
  rw [i_le]
  have e2 : x.toInt64.toInt = (0 : Int64).toInt := by rw [e]
  rw [Int32.toInt_toInt64] at e2
  rw [e2]; decide
theorem nz64' {x : Int32} (h : 0 < x) : ¬ x.toInt64 = 0 := nz64 (fun h2 => by rw [i_lt] at h; rw [i_le] at h2; omega)
theorem tab_out8 {x : Int32} (h0 : ¬ x = 0) (h1 : ¬ x = 1) (h2 : ¬ x = 2) (h3 : ¬ x = 3) (h4 : ¬ x = 4) (h5 : ¬ x = 5) (h6 : ¬ x = 6) (h7 : ¬ x = 7) : x.toInt < 0 ∨ 7 < x.toInt := by
  rw [i_eq] at h0 h1 h2 h3 h4 h5 h6 h7
  have e0 : (0 : Int32).toInt = 0 := by decide
  have e1 : (1 : Int32).toInt = 1 := by decide
  have e2 : (2 : Int32).toInt = 2 := by decide
  have e3 : (3 : Int32).toInt = 3 := by decide
  have e4 : (4 : Int32).toInt = 4 := by decide
  have e5 : (5 : Int32).toInt = 5 := by decide
  have e6 : (6 : Int32).toInt = 6 := by decide
  have e7 : (7 : Int32).toInt = 7 := by decide
  omega
end
section
def f_X0_isOfTrade (S : St) (i : Nat)  : Int32 :=
  if ar S 0 i = 2 then 1
  else if ar S 0 i = 3 then 1
  else 0
theorem b_X0_isOfTrade (S : St) (i : Nat)  : f_X0_isOfTrade S i = 0 ∨ f_X0_isOfTrade S i = 1 := by
  unfold f_X0_isOfTrade
  repeat' split
  all_goals first | exact Or.inl rfl | exact Or.inr rfl
set_option maxRecDepth 20000 in
theorem c_X0_isOfTrade (l : Launch) (G : GG) (ad : Nat → Nat) (S : St) (E : Ex) (hW : WF S) {i : Nat} (hi : i < nt S)  : MR l yX0_isOfTrade cX0_isOfTrade 1 (some .boolean) 0 0 G ad (cX G ad S E) [.ref (ad (10 + 2 * i))] (some (.int (f_X0_isOfTrade S i))) := by
  refine MR.of [(0, .ref (ad (10 + 2 * i)))] (by decide) (Nat.le_of_ble_eq_true rfl) rfl ?_
  intro p e s m args below meth c cx hr hlk hP ls hl
  have hx := cx.1.1
  have hb := cx.1.2.1
  refine lv_aload_n hx hb dX0_isOfTrade_0 rfl (lv_at hl 0 rfl) ?_
  refine w_get cx (ci := 0) rfl iX0 (hP _ _ (cX_T hi hW.t)) 0 (by decide) k_107 (v := .int (ar S 0 i)) rfl dX0_isOfTrade_1 ?_
  refine lv_iconst (v := 2) hx hb dX0_isOfTrade_4 (by decide) ?_
  refine lv_icmp_eq (tgt := 16) hx hb dX0_isOfTrade_5 (by decide) (fun c_1 => ?_) (fun c_1 => ?_)
  · refine lv_iconst (v := 1) hx hb dX0_isOfTrade_16 (by decide) ?_
    refine lv_goto (tgt := 21) hx hb dX0_isOfTrade_17 (by decide) ?_
    exact r_bool cx hr hlk (by rw [f_X0_isOfTrade, if_pos c_1]) (Or.inr rfl) dX0_isOfTrade_21
  · refine lv_aload_n hx hb dX0_isOfTrade_8 rfl (lv_at hl 0 rfl) ?_
    refine w_get cx (ci := 0) rfl iX0 (hP _ _ (cX_T hi hW.t)) 0 (by decide) k_107 (v := .int (ar S 0 i)) rfl dX0_isOfTrade_9 ?_
    refine lv_iconst (v := 3) hx hb dX0_isOfTrade_12 (by decide) ?_
    refine lv_icmp_ne (tgt := 20) hx hb dX0_isOfTrade_13 (by decide) (fun c_2 => ?_) (fun c_2 => ?_)
    · refine lv_iconst (v := 0) hx hb dX0_isOfTrade_20 (by decide) ?_
      exact r_bool cx hr hlk (by rw [f_X0_isOfTrade, if_neg c_1, if_neg c_2]) (Or.inl rfl) dX0_isOfTrade_21
    · refine lv_iconst (v := 1) hx hb dX0_isOfTrade_16 (by decide) ?_
      refine lv_goto (tgt := 21) hx hb dX0_isOfTrade_17 (by decide) ?_
      exact r_bool cx hr hlk (by rw [f_X0_isOfTrade, if_neg c_1, if_pos c_2]) (Or.inr rfl) dX0_isOfTrade_21
def f_X0_hasAllDraws (S : St) (i : Nat)  : Int32 :=
  if ar S 8 i < 3 then 0
  else 1
theorem b_X0_hasAllDraws (S : St) (i : Nat)  : f_X0_hasAllDraws S i = 0 ∨ f_X0_hasAllDraws S i = 1 := by
  unfold f_X0_hasAllDraws
  repeat' split
  all_goals first | exact Or.inl rfl | exact Or.inr rfl
set_option maxRecDepth 20000 in
theorem c_X0_hasAllDraws (l : Launch) (G : GG) (ad : Nat → Nat) (S : St) (E : Ex) (hW : WF S) {i : Nat} (hi : i < nt S)  : MR l yX0_hasAllDraws cX0_hasAllDraws 1 (some .boolean) 0 0 G ad (cX G ad S E) [.ref (ad (10 + 2 * i))] (some (.int (f_X0_hasAllDraws S i))) := by
  refine MR.of [(0, .ref (ad (10 + 2 * i)))] (by decide) (Nat.le_of_ble_eq_true rfl) rfl ?_
  intro p e s m args below meth c cx hr hlk hP ls hl
  have hx := cx.1.1
  have hb := cx.1.2.1
  refine lv_aload_n hx hb dX0_hasAllDraws_0 rfl (lv_at hl 0 rfl) ?_
  refine w_get cx (ci := 0) rfl iX0 (hP _ _ (cX_T hi hW.t)) 5 (by decide) k_116 (v := .int (ar S 8 i)) rfl dX0_hasAllDraws_1 ?_
  refine lv_iconst (v := 3) hx hb dX0_hasAllDraws_4 (by decide) ?_
  refine lv_icmp_lt (tgt := 12) hx hb dX0_hasAllDraws_5 (by decide) (fun c_1 => ?_) (fun c_1 => ?_)
  · refine lv_iconst (v := 0) hx hb dX0_hasAllDraws_12 (by decide) ?_
    exact r_bool cx hr hlk (by rw [f_X0_hasAllDraws, if_pos c_1]) (Or.inl rfl) dX0_hasAllDraws_13
  · refine lv_iconst (v := 1) hx hb dX0_hasAllDraws_8 (by decide) ?_
    refine lv_goto (tgt := 13) hx hb dX0_hasAllDraws_9 (by decide) ?_
    exact r_bool cx hr hlk (by rw [f_X0_hasAllDraws, if_neg c_1]) (Or.inr rfl) dX0_hasAllDraws_13
def f_X0_leastDraw (S : St) (i : Nat)  : Int32 :=
  f_min (fD S i 0) (f_min (fD S i 1) (fD S i 2))
set_option maxRecDepth 20000 in
theorem c_X0_leastDraw (l : Launch) (G : GG) (ad : Nat → Nat) (S : St) (E : Ex) (hW : WF S) {i : Nat} (hi : i < nt S)  : MR l yX0_leastDraw cX0_leastDraw 1 (some .int) 1 23 G ad (cX G ad S E) [.ref (ad (10 + 2 * i))] (some (.int (f_X0_leastDraw S i))) := by
  refine MR.of [(0, .ref (ad (10 + 2 * i)))] (by decide) (Nat.le_of_ble_eq_true rfl) rfl ?_
  intro p e s m args below meth c cx hr hlk hP ls hl
  have hx := cx.1.1
  have hb := cx.1.2.1
  refine lv_aload_n hx hb dX0_leastDraw_0 rfl (lv_at hl 0 rfl) ?_
  refine w_get cx (ci := 0) rfl iX0 (hP _ _ (cX_T hi hW.t)) 3 (by decide) k_113 (v := .ref (ad (11 + 2 * i))) rfl dX0_leastDraw_1 ?_
  refine lv_iconst (v := 0) hx hb dX0_leastDraw_4 (by decide) ?_
  refine w_iald cx (hP _ _ (cX_D hi hW.t)) 0 (by decide) (by decide) (by decide) dX0_leastDraw_5 ?_
  refine lv_aload_n hx hb dX0_leastDraw_6 rfl (lv_at hl 0 rfl) ?_
  refine w_get cx (ci := 0) rfl iX0 (hP _ _ (cX_T hi hW.t)) 3 (by decide) k_113 (v := .ref (ad (11 + 2 * i))) rfl dX0_leastDraw_7 ?_
  refine lv_iconst (v := 1) hx hb dX0_leastDraw_10 (by decide) ?_
  refine w_iald cx (hP _ _ (cX_D hi hW.t)) 1 (by decide) (by decide) (by decide) dX0_leastDraw_11 ?_
  refine lv_aload_n hx hb dX0_leastDraw_12 rfl (lv_at hl 0 rfl) ?_
  refine w_get cx (ci := 0) rfl iX0 (hP _ _ (cX_T hi hW.t)) 3 (by decide) k_113 (v := .ref (ad (11 + 2 * i))) rfl dX0_leastDraw_13 ?_
  refine lv_iconst (v := 2) hx hb dX0_leastDraw_16 (by decide) ?_
  refine w_iald cx (hP _ _ (cX_D hi hW.t)) 2 (by decide) (by decide) (by decide) dX0_leastDraw_17 ?_
  refine w_min cx hl.1 k_225 (Nat.le_of_ble_eq_true rfl) (Nat.le_of_ble_eq_true rfl) ⟨Nat.zero_le _, Nat.zero_le _⟩ (Nat.le_of_ble_eq_true rfl) dX0_leastDraw_18 ?_
  refine w_min cx hl.1 k_225 (Nat.le_of_ble_eq_true rfl) (Nat.le_of_ble_eq_true rfl) ⟨Nat.zero_le _, Nat.zero_le _⟩ (Nat.le_of_ble_eq_true rfl) dX0_leastDraw_21 ?_
  exact r_int cx hr hlk (by rw [f_X0_leastDraw]) dX0_leastDraw_24
def f_X0_greatestDraw (S : St) (i : Nat)  : Int32 :=
  f_max (fD S i 0) (f_max (fD S i 1) (fD S i 2))
set_option maxRecDepth 20000 in
theorem c_X0_greatestDraw (l : Launch) (G : GG) (ad : Nat → Nat) (S : St) (E : Ex) (hW : WF S) {i : Nat} (hi : i < nt S)  : MR l yX0_greatestDraw cX0_greatestDraw 1 (some .int) 1 23 G ad (cX G ad S E) [.ref (ad (10 + 2 * i))] (some (.int (f_X0_greatestDraw S i))) := by
  refine MR.of [(0, .ref (ad (10 + 2 * i)))] (by decide) (Nat.le_of_ble_eq_true rfl) rfl ?_
  intro p e s m args below meth c cx hr hlk hP ls hl
  have hx := cx.1.1
  have hb := cx.1.2.1
  refine lv_aload_n hx hb dX0_greatestDraw_0 rfl (lv_at hl 0 rfl) ?_
  refine w_get cx (ci := 0) rfl iX0 (hP _ _ (cX_T hi hW.t)) 3 (by decide) k_113 (v := .ref (ad (11 + 2 * i))) rfl dX0_greatestDraw_1 ?_
  refine lv_iconst (v := 0) hx hb dX0_greatestDraw_4 (by decide) ?_
  refine w_iald cx (hP _ _ (cX_D hi hW.t)) 0 (by decide) (by decide) (by decide) dX0_greatestDraw_5 ?_
  refine lv_aload_n hx hb dX0_greatestDraw_6 rfl (lv_at hl 0 rfl) ?_
  refine w_get cx (ci := 0) rfl iX0 (hP _ _ (cX_T hi hW.t)) 3 (by decide) k_113 (v := .ref (ad (11 + 2 * i))) rfl dX0_greatestDraw_7 ?_
  refine lv_iconst (v := 1) hx hb dX0_greatestDraw_10 (by decide) ?_
  refine w_iald cx (hP _ _ (cX_D hi hW.t)) 1 (by decide) (by decide) (by decide) dX0_greatestDraw_11 ?_
  refine lv_aload_n hx hb dX0_greatestDraw_12 rfl (lv_at hl 0 rfl) ?_
  refine w_get cx (ci := 0) rfl iX0 (hP _ _ (cX_T hi hW.t)) 3 (by decide) k_113 (v := .ref (ad (11 + 2 * i))) rfl dX0_greatestDraw_13 ?_
  refine lv_iconst (v := 2) hx hb dX0_greatestDraw_16 (by decide) ?_
  refine w_iald cx (hP _ _ (cX_D hi hW.t)) 2 (by decide) (by decide) (by decide) dX0_greatestDraw_17 ?_
  refine w_max cx hl.1 k_210 (Nat.le_of_ble_eq_true rfl) (Nat.le_of_ble_eq_true rfl) ⟨Nat.zero_le _, Nat.zero_le _⟩ (Nat.le_of_ble_eq_true rfl) dX0_greatestDraw_18 ?_
  refine w_max cx hl.1 k_210 (Nat.le_of_ble_eq_true rfl) (Nat.le_of_ble_eq_true rfl) ⟨Nat.zero_le _, Nat.zero_le _⟩ (Nat.le_of_ble_eq_true rfl) dX0_greatestDraw_21 ?_
  exact r_int cx hr hlk (by rw [f_X0_greatestDraw]) dX0_greatestDraw_24
def f_X0_middleDraw (S : St) (i : Nat)  : Int32 :=
  ((((fD S i 0) + (fD S i 1)) + (fD S i 2)) - (f_X0_leastDraw S i)) - (f_X0_greatestDraw S i)
set_option maxRecDepth 20000 in
theorem c_X0_middleDraw (l : Launch) (G : GG) (ad : Nat → Nat) (S : St) (E : Ex) (hW : WF S) {i : Nat} (hi : i < nt S)  : MR l yX0_middleDraw cX0_middleDraw 1 (some .int) 2 43 G ad (cX G ad S E) [.ref (ad (10 + 2 * i))] (some (.int (f_X0_middleDraw S i))) := by
  refine MR.of [(0, .ref (ad (10 + 2 * i)))] (by decide) (Nat.le_of_ble_eq_true rfl) rfl ?_
  intro p e s m args below meth c cx hr hlk hP ls hl
  have hx := cx.1.1
  have hb := cx.1.2.1
  refine lv_aload_n hx hb dX0_middleDraw_0 rfl (lv_at hl 0 rfl) ?_
  refine w_get cx (ci := 0) rfl iX0 (hP _ _ (cX_T hi hW.t)) 3 (by decide) k_113 (v := .ref (ad (11 + 2 * i))) rfl dX0_middleDraw_1 ?_
  refine lv_iconst (v := 0) hx hb dX0_middleDraw_4 (by decide) ?_
  refine w_iald cx (hP _ _ (cX_D hi hW.t)) 0 (by decide) (by decide) (by decide) dX0_middleDraw_5 ?_
  refine lv_aload_n hx hb dX0_middleDraw_6 rfl (lv_at hl 0 rfl) ?_
  refine w_get cx (ci := 0) rfl iX0 (hP _ _ (cX_T hi hW.t)) 3 (by decide) k_113 (v := .ref (ad (11 + 2 * i))) rfl dX0_middleDraw_7 ?_
  refine lv_iconst (v := 1) hx hb dX0_middleDraw_10 (by decide) ?_
  refine w_iald cx (hP _ _ (cX_D hi hW.t)) 1 (by decide) (by decide) (by decide) dX0_middleDraw_11 ?_
  refine lv_iadd hx hb dX0_middleDraw_12 ?_
  refine lv_aload_n hx hb dX0_middleDraw_13 rfl (lv_at hl 0 rfl) ?_
  refine w_get cx (ci := 0) rfl iX0 (hP _ _ (cX_T hi hW.t)) 3 (by decide) k_113 (v := .ref (ad (11 + 2 * i))) rfl dX0_middleDraw_14 ?_
  refine lv_iconst (v := 2) hx hb dX0_middleDraw_17 (by decide) ?_
  refine w_iald cx (hP _ _ (cX_D hi hW.t)) 2 (by decide) (by decide) (by decide) dX0_middleDraw_18 ?_
  refine lv_iadd hx hb dX0_middleDraw_19 ?_
  refine lv_aload_n hx hb dX0_middleDraw_20 rfl (lv_at hl 0 rfl) ?_
  refine w_callV (As := []) (rest := [.int (((fD S i 0) + (fD S i 1)) + (fD S i 2))]) (st := [.int (f_X0_leastDraw S i), .int (((fD S i 0) + (fD S i 1)) + (fD S i 2))]) cx (c_X0_leastDraw l G ad S E hW (i := i) hi) k_221 cal_yX0_leastDraw (ci := 0) rfl (hP _ _ (cX_T hi hW.t)) hP rfl ⟨Nat.le_of_ble_eq_true rfl, Nat.le_of_ble_eq_true rfl⟩ hl.1 (Nat.le_of_ble_eq_true rfl) ⟨Nat.zero_le _, Nat.zero_le _⟩ rfl rfl dX0_middleDraw_21 ?_
  refine lv_isub hx hb dX0_middleDraw_24 ?_
  refine lv_aload_n hx hb dX0_middleDraw_25 rfl (lv_at hl 0 rfl) ?_
  refine w_callV (As := []) (rest := [.int ((((fD S i 0) + (fD S i 1)) + (fD S i 2)) - (f_X0_leastDraw S i))]) (st := [.int (f_X0_greatestDraw S i), .int ((((fD S i 0) + (fD S i 1)) + (fD S i 2)) - (f_X0_leastDraw S i))]) cx (c_X0_greatestDraw l G ad S E hW (i := i) hi) k_228 cal_yX0_greatestDraw (ci := 0) rfl (hP _ _ (cX_T hi hW.t)) hP rfl ⟨Nat.le_of_ble_eq_true rfl, Nat.le_of_ble_eq_true rfl⟩ hl.1 (Nat.le_of_ble_eq_true rfl) ⟨Nat.zero_le _, Nat.zero_le _⟩ rfl rfl dX0_middleDraw_26 ?_
  refine lv_isub hx hb dX0_middleDraw_29 ?_
  exact r_int cx hr hlk (by rw [f_X0_middleDraw]) dX0_middleDraw_30
def f_X0_spreadOfDraws (S : St) (i : Nat)  : Int32 :=
  (f_X0_greatestDraw S i) - (f_X0_leastDraw S i)
set_option maxRecDepth 20000 in
theorem c_X0_spreadOfDraws (l : Launch) (G : GG) (ad : Nat → Nat) (S : St) (E : Ex) (hW : WF S) {i : Nat} (hi : i < nt S)  : MR l yX0_spreadOfDraws cX0_spreadOfDraws 1 (some .int) 2 43 G ad (cX G ad S E) [.ref (ad (10 + 2 * i))] (some (.int (f_X0_spreadOfDraws S i))) := by
  refine MR.of [(0, .ref (ad (10 + 2 * i)))] (by decide) (Nat.le_of_ble_eq_true rfl) rfl ?_
  intro p e s m args below meth c cx hr hlk hP ls hl
  have hx := cx.1.1
  have hb := cx.1.2.1
  refine lv_aload_n hx hb dX0_spreadOfDraws_0 rfl (lv_at hl 0 rfl) ?_
  refine w_callV (As := []) (rest := []) (st := [.int (f_X0_greatestDraw S i)]) cx (c_X0_greatestDraw l G ad S E hW (i := i) hi) k_228 cal_yX0_greatestDraw (ci := 0) rfl (hP _ _ (cX_T hi hW.t)) hP rfl ⟨Nat.le_of_ble_eq_true rfl, Nat.le_of_ble_eq_true rfl⟩ hl.1 (Nat.le_of_ble_eq_true rfl) ⟨Nat.zero_le _, Nat.zero_le _⟩ rfl rfl dX0_spreadOfDraws_1 ?_
  refine lv_aload_n hx hb dX0_spreadOfDraws_4 rfl (lv_at hl 0 rfl) ?_
  refine w_callV (As := []) (rest := [.int (f_X0_greatestDraw S i)]) (st := [.int (f_X0_leastDraw S i), .int (f_X0_greatestDraw S i)]) cx (c_X0_leastDraw l G ad S E hW (i := i) hi) k_221 cal_yX0_leastDraw (ci := 0) rfl (hP _ _ (cX_T hi hW.t)) hP rfl ⟨Nat.le_of_ble_eq_true rfl, Nat.le_of_ble_eq_true rfl⟩ hl.1 (Nat.le_of_ble_eq_true rfl) ⟨Nat.zero_le _, Nat.zero_le _⟩ rfl rfl dX0_spreadOfDraws_5 ?_
  refine lv_isub hx hb dX0_spreadOfDraws_8 ?_
  exact r_int cx hr hlk (by rw [f_X0_spreadOfDraws]) dX0_spreadOfDraws_9
def f_X0_isMeasured (S : St) (i : Nat)  : Int32 :=
  if ar S 0 i = 0 then 1
  else if ar S 5 i = -1000000 then 0
  else 1
theorem b_X0_isMeasured (S : St) (i : Nat)  : f_X0_isMeasured S i = 0 ∨ f_X0_isMeasured S i = 1 := by
  unfold f_X0_isMeasured
  repeat' split
  all_goals first | exact Or.inl rfl | exact Or.inr rfl
set_option maxRecDepth 20000 in
theorem c_X0_isMeasured (l : Launch) (G : GG) (ad : Nat → Nat) (S : St) (E : Ex) (hW : WF S) {i : Nat} (hi : i < nt S)  : MR l yX0_isMeasured cX0_isMeasured 1 (some .boolean) 0 0 G ad (cX G ad S E) [.ref (ad (10 + 2 * i))] (some (.int (f_X0_isMeasured S i))) := by
  refine MR.of [(0, .ref (ad (10 + 2 * i)))] (by decide) (Nat.le_of_ble_eq_true rfl) rfl ?_
  intro p e s m args below meth c cx hr hlk hP ls hl
  have hx := cx.1.1
  have hb := cx.1.2.1
  refine lv_aload_n hx hb dX0_isMeasured_0 rfl (lv_at hl 0 rfl) ?_
  refine w_get cx (ci := 0) rfl iX0 (hP _ _ (cX_T hi hW.t)) 0 (by decide) k_107 (v := .int (ar S 0 i)) rfl dX0_isMeasured_1 ?_
  refine lv_if_eq (tgt := 14) hx hb dX0_isMeasured_4 (by decide) (fun c_1 => ?_) (fun c_1 => ?_)
  · refine lv_iconst (v := 1) hx hb dX0_isMeasured_14 (by decide) ?_
    refine lv_goto (tgt := 19) hx hb dX0_isMeasured_15 (by decide) ?_
    exact r_bool cx hr hlk (by rw [f_X0_isMeasured, if_pos c_1]) (Or.inr rfl) dX0_isMeasured_19
  · refine lv_aload_n hx hb dX0_isMeasured_7 rfl (lv_at hl 0 rfl) ?_
    by_cases c_2 : ar S 5 i = -1000000
    · refine w_get cx (ci := 0) rfl iX0 (hP _ _ (cX_T hi hW.t)) 9 (by decide) k_123 (v := .null) (congrArg some (rT_null c_2)) dX0_isMeasured_8 ?_
      refine lv_ifnullN (tgt := 18) hx hb dX0_isMeasured_11 (by decide) ?_
      refine lv_iconst (v := 0) hx hb dX0_isMeasured_18 (by decide) ?_
      exact r_bool cx hr hlk (by rw [f_X0_isMeasured, if_neg c_1, if_pos c_2]) (Or.inl rfl) dX0_isMeasured_19
    · refine w_get cx (ci := 0) rfl iX0 (hP _ _ (cX_T hi hW.t)) 9 (by decide) k_123 (v := .ref (ad (100 + ix (ar S 5 i)))) (congrArg some (rT_ref c_2)) dX0_isMeasured_8 ?_
      refine lv_ifnull hx hb dX0_isMeasured_11 ?_
      refine lv_iconst (v := 1) hx hb dX0_isMeasured_14 (by decide) ?_
      refine lv_goto (tgt := 19) hx hb dX0_isMeasured_15 (by decide) ?_
      exact r_bool cx hr hlk (by rw [f_X0_isMeasured, if_neg c_1, if_neg c_2]) (Or.inr rfl) dX0_isMeasured_19
def f_X0_isSettledNow (S : St) (i : Nat)  : Int32 :=
  if ar S 0 i = 0 then 1
  else if ar S 5 i = -1000000 then 0
  else if ar S 18 (ix (ar S 5 i)) = 0 then 0
  else 1
theorem b_X0_isSettledNow (S : St) (i : Nat)  : f_X0_isSettledNow S i = 0 ∨ f_X0_isSettledNow S i = 1 := by
  unfold f_X0_isSettledNow
  repeat' split
  all_goals first | exact Or.inl rfl | exact Or.inr rfl
set_option maxRecDepth 20000 in
theorem c_X0_isSettledNow (l : Launch) (G : GG) (ad : Nat → Nat) (S : St) (E : Ex) (hW : WF S) {i : Nat} (hi : i < nt S)  : MR l yX0_isSettledNow cX0_isSettledNow 1 (some .boolean) 0 0 G ad (cX G ad S E) [.ref (ad (10 + 2 * i))] (some (.int (f_X0_isSettledNow S i))) := by
  refine MR.of [(0, .ref (ad (10 + 2 * i)))] (by decide) (Nat.le_of_ble_eq_true rfl) rfl ?_
  intro p e s m args below meth c cx hr hlk hP ls hl
  have hx := cx.1.1
  have hb := cx.1.2.1
  refine lv_aload_n hx hb dX0_isSettledNow_0 rfl (lv_at hl 0 rfl) ?_
  refine w_get cx (ci := 0) rfl iX0 (hP _ _ (cX_T hi hW.t)) 0 (by decide) k_107 (v := .int (ar S 0 i)) rfl dX0_isSettledNow_1 ?_
  refine lv_if_eq (tgt := 24) hx hb dX0_isSettledNow_4 (by decide) (fun c_1 => ?_) (fun c_1 => ?_)
  · refine lv_iconst (v := 1) hx hb dX0_isSettledNow_24 (by decide) ?_
    refine lv_goto (tgt := 29) hx hb dX0_isSettledNow_25 (by decide) ?_
    exact r_bool cx hr hlk (by rw [f_X0_isSettledNow, if_pos c_1]) (Or.inr rfl) dX0_isSettledNow_29
  · refine lv_aload_n hx hb dX0_isSettledNow_7 rfl (lv_at hl 0 rfl) ?_
    by_cases c_2 : ar S 5 i = -1000000
    · refine w_get cx (ci := 0) rfl iX0 (hP _ _ (cX_T hi hW.t)) 9 (by decide) k_123 (v := .null) (congrArg some (rT_null c_2)) dX0_isSettledNow_8 ?_
      refine lv_ifnullN (tgt := 28) hx hb dX0_isSettledNow_11 (by decide) ?_
      refine lv_iconst (v := 0) hx hb dX0_isSettledNow_28 (by decide) ?_
      exact r_bool cx hr hlk (by rw [f_X0_isSettledNow, if_neg c_1, if_pos c_2]) (Or.inl rfl) dX0_isSettledNow_29
    · refine w_get cx (ci := 0) rfl iX0 (hP _ _ (cX_T hi hW.t)) 9 (by decide) k_123 (v := .ref (ad (100 + ix (ar S 5 i)))) (congrArg some (rT_ref c_2)) dX0_isSettledNow_8 ?_
      refine lv_ifnull hx hb dX0_isSettledNow_11 ?_
      refine lv_aload_n hx hb dX0_isSettledNow_14 rfl (lv_at hl 0 rfl) ?_
      refine w_get cx (ci := 0) rfl iX0 (hP _ _ (cX_T hi hW.t)) 9 (by decide) k_123 (v := .ref (ad (100 + ix (ar S 5 i)))) (congrArg some (rT_ref c_2)) dX0_isSettledNow_15 ?_
      refine w_get cx (ci := 1) rfl iX1 (hP _ _ (cX_R (hW.la hi c_2).2)) 7 (by decide) k_264 (v := .int (ar S 18 (ix (ar S 5 i)))) rfl dX0_isSettledNow_18 ?_
      refine lv_if_eq (tgt := 28) hx hb dX0_isSettledNow_21 (by decide) (fun c_3 => ?_) (fun c_3 => ?_)
      · refine lv_iconst (v := 0) hx hb dX0_isSettledNow_28 (by decide) ?_
        exact r_bool cx hr hlk (by rw [f_X0_isSettledNow, if_neg c_1, if_neg c_2, if_pos c_3]) (Or.inl rfl) dX0_isSettledNow_29
      · refine lv_iconst (v := 1) hx hb dX0_isSettledNow_24 (by decide) ?_
        refine lv_goto (tgt := 29) hx hb dX0_isSettledNow_25 (by decide) ?_
        exact r_bool cx hr hlk (by rw [f_X0_isSettledNow, if_neg c_1, if_neg c_2, if_neg c_3]) (Or.inr rfl) dX0_isSettledNow_29
def f_X0_daysUntilDue (S : St) (i : Nat) (d : Int32) : Int32 :=
  if ar S 5 i = -1000000 then 0
  else f_max 0 ((((ar S 15 (ix (ar S 5 i))) + (ar S 2 i)) + 1) - d)
set_option maxRecDepth 20000 in
theorem c_X0_daysUntilDue (l : Launch) (G : GG) (ad : Nat → Nat) (S : St) (E : Ex) (hW : WF S) {i : Nat} (hi : i < nt S) (d : Int32) : MR l yX0_daysUntilDue cX0_daysUntilDue 2 (some .int) 1 23 G ad (cX G ad S E) [.ref (ad (10 + 2 * i)), .int d] (some (.int (f_X0_daysUntilDue S i d))) := by
  refine MR.of [(0, .ref (ad (10 + 2 * i))), (1, .int d)] (by decide) (Nat.le_of_ble_eq_true rfl) rfl ?_
  intro p e s m args below meth c cx hr hlk hP ls hl
  have hx := cx.1.1
  have hb := cx.1.2.1
  refine lv_aload_n hx hb dX0_daysUntilDue_0 rfl (lv_at hl 0 rfl) ?_
  by_cases c_1 : ar S 5 i = -1000000
  · refine w_get cx (ci := 0) rfl iX0 (hP _ _ (cX_T hi hW.t)) 9 (by decide) k_123 (v := .null) (congrArg some (rT_null c_1)) dX0_daysUntilDue_1 ?_
    refine lv_ifnonnullN hx hb dX0_daysUntilDue_4 ?_
    refine lv_iconst (v := 0) hx hb dX0_daysUntilDue_7 (by decide) ?_
    refine lv_goto (tgt := 31) hx hb dX0_daysUntilDue_8 (by decide) ?_
    exact r_int cx hr hlk (by rw [f_X0_daysUntilDue, if_pos c_1]) dX0_daysUntilDue_31
  · refine w_get cx (ci := 0) rfl iX0 (hP _ _ (cX_T hi hW.t)) 9 (by decide) k_123 (v := .ref (ad (100 + ix (ar S 5 i)))) (congrArg some (rT_ref c_1)) dX0_daysUntilDue_1 ?_
    refine lv_ifnonnull (tgt := 11) hx hb dX0_daysUntilDue_4 (by decide) ?_
    refine lv_iconst (v := 0) hx hb dX0_daysUntilDue_11 (by decide) ?_
    refine lv_aload_n hx hb dX0_daysUntilDue_12 rfl (lv_at hl 0 rfl) ?_
    refine w_get cx (ci := 0) rfl iX0 (hP _ _ (cX_T hi hW.t)) 9 (by decide) k_123 (v := .ref (ad (100 + ix (ar S 5 i)))) (congrArg some (rT_ref c_1)) dX0_daysUntilDue_13 ?_
    refine w_get cx (ci := 1) rfl iX1 (hP _ _ (cX_R (hW.la hi c_1).2)) 4 (by decide) k_255 (v := .int (ar S 15 (ix (ar S 5 i)))) rfl dX0_daysUntilDue_16 ?_
    refine lv_aload_n hx hb dX0_daysUntilDue_19 rfl (lv_at hl 0 rfl) ?_
    refine w_get cx (ci := 0) rfl iX0 (hP _ _ (cX_T hi hW.t)) 2 (by decide) k_111 (v := .int (ar S 2 i)) rfl dX0_daysUntilDue_20 ?_
    refine lv_iadd hx hb dX0_daysUntilDue_23 ?_
    refine lv_iconst (v := 1) hx hb dX0_daysUntilDue_24 (by decide) ?_
    refine lv_iadd hx hb dX0_daysUntilDue_25 ?_
    refine lv_iload_n hx hb dX0_daysUntilDue_26 rfl (lv_at hl 1 rfl) ?_
    refine lv_isub hx hb dX0_daysUntilDue_27 ?_
    refine w_max cx hl.1 k_210 (Nat.le_of_ble_eq_true rfl) (Nat.le_of_ble_eq_true rfl) ⟨Nat.zero_le _, Nat.zero_le _⟩ (Nat.le_of_ble_eq_true rfl) dX0_daysUntilDue_28 ?_
    exact r_int cx hr hlk (by rw [f_X0_daysUntilDue, if_neg c_1]) dX0_daysUntilDue_31
def f_X0_isDueOn (S : St) (i : Nat) (d : Int32) : Int32 :=
  if ar S 0 i = 0 then 0
  else if f_X0_daysUntilDue S i d = 0 then 1
  else 0
theorem b_X0_isDueOn (S : St) (i : Nat) (d : Int32) : f_X0_isDueOn S i d = 0 ∨ f_X0_isDueOn S i d = 1 := by
  unfold f_X0_isDueOn
  repeat' split
  all_goals first | exact Or.inl rfl | exact Or.inr rfl
set_option maxRecDepth 20000 in
theorem c_X0_isDueOn (l : Launch) (G : GG) (ad : Nat → Nat) (S : St) (E : Ex) (hW : WF S) {i : Nat} (hi : i < nt S) (d : Int32) : MR l yX0_isDueOn cX0_isDueOn 2 (some .boolean) 2 44 G ad (cX G ad S E) [.ref (ad (10 + 2 * i)), .int d] (some (.int (f_X0_isDueOn S i d))) := by
  refine MR.of [(0, .ref (ad (10 + 2 * i))), (1, .int d)] (by decide) (Nat.le_of_ble_eq_true rfl) rfl ?_
  intro p e s m args below meth c cx hr hlk hP ls hl
  have hx := cx.1.1
  have hb := cx.1.2.1
  refine lv_aload_n hx hb dX0_isDueOn_0 rfl (lv_at hl 0 rfl) ?_
  refine w_get cx (ci := 0) rfl iX0 (hP _ _ (cX_T hi hW.t)) 0 (by decide) k_107 (v := .int (ar S 0 i)) rfl dX0_isDueOn_1 ?_
  refine lv_if_eq (tgt := 19) hx hb dX0_isDueOn_4 (by decide) (fun c_1 => ?_) (fun c_1 => ?_)
  · refine lv_iconst (v := 0) hx hb dX0_isDueOn_19 (by decide) ?_
    exact r_bool cx hr hlk (by rw [f_X0_isDueOn, if_pos c_1]) (Or.inl rfl) dX0_isDueOn_20
  · refine lv_aload_n hx hb dX0_isDueOn_7 rfl (lv_at hl 0 rfl) ?_
    refine lv_iload_n hx hb dX0_isDueOn_8 rfl (lv_at hl 1 rfl) ?_
    refine w_callV (As := [.int d]) (rest := []) (st := [.int (f_X0_daysUntilDue S i d)]) cx (c_X0_daysUntilDue l G ad S E hW (i := i) hi d) k_206 cal_yX0_daysUntilDue (ci := 0) rfl (hP _ _ (cX_T hi hW.t)) hP rfl ⟨Nat.le_of_ble_eq_true rfl, Nat.le_of_ble_eq_true rfl⟩ hl.1 (Nat.le_of_ble_eq_true rfl) ⟨Nat.zero_le _, Nat.zero_le _⟩ rfl rfl dX0_isDueOn_9 ?_
    refine lv_if_ne (tgt := 19) hx hb dX0_isDueOn_12 (by decide) (fun c_2 => ?_) (fun c_2 => ?_)
    · refine lv_iconst (v := 0) hx hb dX0_isDueOn_19 (by decide) ?_
      exact r_bool cx hr hlk (by rw [f_X0_isDueOn, if_neg c_1, if_neg c_2]) (Or.inl rfl) dX0_isDueOn_20
    · refine lv_iconst (v := 1) hx hb dX0_isDueOn_15 (by decide) ?_
      refine lv_goto (tgt := 20) hx hb dX0_isDueOn_16 (by decide) ?_
      exact r_bool cx hr hlk (by rw [f_X0_isDueOn, if_neg c_1, if_pos c_2]) (Or.inr rfl) dX0_isDueOn_20
def f_X0_canBeTried (S : St) (i : Nat)  : Int32 :=
  if ar S 0 i = 0 then 0
  else if ar S 0 i = 3 then (if f_X0_hasAllDraws S i = 0 then 0
    else 1)
  else 1
theorem b_X0_canBeTried (S : St) (i : Nat)  : f_X0_canBeTried S i = 0 ∨ f_X0_canBeTried S i = 1 := by
  unfold f_X0_canBeTried
  repeat' split
  all_goals first | exact Or.inl rfl | exact Or.inr rfl
set_option maxRecDepth 20000 in
theorem c_X0_canBeTried (l : Launch) (G : GG) (ad : Nat → Nat) (S : St) (E : Ex) (hW : WF S) {i : Nat} (hi : i < nt S)  : MR l yX0_canBeTried cX0_canBeTried 1 (some .boolean) 1 20 G ad (cX G ad S E) [.ref (ad (10 + 2 * i))] (some (.int (f_X0_canBeTried S i))) := by
  refine MR.of [(0, .ref (ad (10 + 2 * i)))] (by decide) (Nat.le_of_ble_eq_true rfl) rfl ?_
  intro p e s m args below meth c cx hr hlk hP ls hl
  have hx := cx.1.1
  have hb := cx.1.2.1
  refine lv_aload_n hx hb dX0_canBeTried_0 rfl (lv_at hl 0 rfl) ?_
  refine w_get cx (ci := 0) rfl iX0 (hP _ _ (cX_T hi hW.t)) 0 (by decide) k_107 (v := .int (ar S 0 i)) rfl dX0_canBeTried_1 ?_
  refine lv_if_eq (tgt := 26) hx hb dX0_canBeTried_4 (by decide) (fun c_1 => ?_) (fun c_1 => ?_)
  · refine lv_iconst (v := 0) hx hb dX0_canBeTried_26 (by decide) ?_
    exact r_bool cx hr hlk (by rw [f_X0_canBeTried, if_pos c_1]) (Or.inl rfl) dX0_canBeTried_27
  · refine lv_aload_n hx hb dX0_canBeTried_7 rfl (lv_at hl 0 rfl) ?_
    refine w_get cx (ci := 0) rfl iX0 (hP _ _ (cX_T hi hW.t)) 0 (by decide) k_107 (v := .int (ar S 0 i)) rfl dX0_canBeTried_8 ?_
    refine lv_iconst (v := 3) hx hb dX0_canBeTried_11 (by decide) ?_
    refine lv_icmp_ne (tgt := 22) hx hb dX0_canBeTried_12 (by decide) (fun c_2 => ?_) (fun c_2 => ?_)
    · refine lv_iconst (v := 1) hx hb dX0_canBeTried_22 (by decide) ?_
      refine lv_goto (tgt := 27) hx hb dX0_canBeTried_23 (by decide) ?_
      exact r_bool cx hr hlk (by rw [f_X0_canBeTried, if_neg c_1, if_neg c_2]) (Or.inr rfl) dX0_canBeTried_27
    · refine lv_aload_n hx hb dX0_canBeTried_15 rfl (lv_at hl 0 rfl) ?_
      refine w_callV (As := []) (rest := []) (st := [.int (f_X0_hasAllDraws S i)]) cx (c_X0_hasAllDraws l G ad S E hW (i := i) hi) k_192 cal_yX0_hasAllDraws (ci := 0) rfl (hP _ _ (cX_T hi hW.t)) hP rfl ⟨Nat.le_of_ble_eq_true rfl, Nat.le_of_ble_eq_true rfl⟩ hl.1 (Nat.le_of_ble_eq_true rfl) ⟨Nat.zero_le _, Nat.zero_le _⟩ rfl rfl dX0_canBeTried_16 ?_
      refine lv_if_eq (tgt := 26) hx hb dX0_canBeTried_19 (by decide) (fun c_3 => ?_) (fun c_3 => ?_)
      · refine lv_iconst (v := 0) hx hb dX0_canBeTried_26 (by decide) ?_
        exact r_bool cx hr hlk (by rw [f_X0_canBeTried, if_neg c_1, if_pos c_2, if_pos c_3]) (Or.inl rfl) dX0_canBeTried_27
      · refine lv_iconst (v := 1) hx hb dX0_canBeTried_22 (by decide) ?_
        refine lv_goto (tgt := 27) hx hb dX0_canBeTried_23 (by decide) ?_
        exact r_bool cx hr hlk (by rw [f_X0_canBeTried, if_neg c_1, if_pos c_2, if_neg c_3]) (Or.inr rfl) dX0_canBeTried_27
def f_X0_canTryOthers (S : St) (i : Nat) (d : Int32) : Int32 :=
  if f_X0_isOfTrade S i = 0 then (if f_X0_isSettledNow S i = 0 then 0
    else if f_X0_isDueOn S i d = 0 then 1
    else 0)
  else 0
theorem b_X0_canTryOthers (S : St) (i : Nat) (d : Int32) : f_X0_canTryOthers S i d = 0 ∨ f_X0_canTryOthers S i d = 1 := by
  unfold f_X0_canTryOthers
  repeat' split
  all_goals first | exact Or.inl rfl | exact Or.inr rfl
set_option maxRecDepth 20000 in
theorem c_X0_canTryOthers (l : Launch) (G : GG) (ad : Nat → Nat) (S : St) (E : Ex) (hW : WF S) {i : Nat} (hi : i < nt S) (d : Int32) : MR l yX0_canTryOthers cX0_canTryOthers 2 (some .boolean) 3 65 G ad (cX G ad S E) [.ref (ad (10 + 2 * i)), .int d] (some (.int (f_X0_canTryOthers S i d))) := by
  refine MR.of [(0, .ref (ad (10 + 2 * i))), (1, .int d)] (by decide) (Nat.le_of_ble_eq_true rfl) rfl ?_
  intro p e s m args below meth c cx hr hlk hP ls hl
  have hx := cx.1.1
  have hb := cx.1.2.1
  refine lv_aload_n hx hb dX0_canTryOthers_0 rfl (lv_at hl 0 rfl) ?_
  refine w_callV (As := []) (rest := []) (st := [.int (f_X0_isOfTrade S i)]) cx (c_X0_isOfTrade l G ad S E hW (i := i) hi) k_197 cal_yX0_isOfTrade (ci := 0) rfl (hP _ _ (cX_T hi hW.t)) hP rfl ⟨Nat.le_of_ble_eq_true rfl, Nat.le_of_ble_eq_true rfl⟩ hl.1 (Nat.le_of_ble_eq_true rfl) ⟨Nat.zero_le _, Nat.zero_le _⟩ rfl rfl dX0_canTryOthers_1 ?_
  refine lv_if_ne (tgt := 26) hx hb dX0_canTryOthers_4 (by decide) (fun c_1 => ?_) (fun c_1 => ?_)
  · refine lv_iconst (v := 0) hx hb dX0_canTryOthers_26 (by decide) ?_
    exact r_bool cx hr hlk (by rw [f_X0_canTryOthers, if_neg c_1]) (Or.inl rfl) dX0_canTryOthers_27
  · refine lv_aload_n hx hb dX0_canTryOthers_7 rfl (lv_at hl 0 rfl) ?_
    refine w_callV (As := []) (rest := []) (st := [.int (f_X0_isSettledNow S i)]) cx (c_X0_isSettledNow l G ad S E hW (i := i) hi) k_198 cal_yX0_isSettledNow (ci := 0) rfl (hP _ _ (cX_T hi hW.t)) hP rfl ⟨Nat.le_of_ble_eq_true rfl, Nat.le_of_ble_eq_true rfl⟩ hl.1 (Nat.le_of_ble_eq_true rfl) ⟨Nat.zero_le _, Nat.zero_le _⟩ rfl rfl dX0_canTryOthers_8 ?_
    refine lv_if_eq (tgt := 26) hx hb dX0_canTryOthers_11 (by decide) (fun c_2 => ?_) (fun c_2 => ?_)
    · refine lv_iconst (v := 0) hx hb dX0_canTryOthers_26 (by decide) ?_
      exact r_bool cx hr hlk (by rw [f_X0_canTryOthers, if_pos c_1, if_pos c_2]) (Or.inl rfl) dX0_canTryOthers_27
    · refine lv_aload_n hx hb dX0_canTryOthers_14 rfl (lv_at hl 0 rfl) ?_
      refine lv_iload_n hx hb dX0_canTryOthers_15 rfl (lv_at hl 1 rfl) ?_
      refine w_callV (As := [.int d]) (rest := []) (st := [.int (f_X0_isDueOn S i d)]) cx (c_X0_isDueOn l G ad S E hW (i := i) hi d) k_202 cal_yX0_isDueOn (ci := 0) rfl (hP _ _ (cX_T hi hW.t)) hP rfl ⟨Nat.le_of_ble_eq_true rfl, Nat.le_of_ble_eq_true rfl⟩ hl.1 (Nat.le_of_ble_eq_true rfl) ⟨Nat.zero_le _, Nat.zero_le _⟩ rfl rfl dX0_canTryOthers_16 ?_
      refine lv_if_ne (tgt := 26) hx hb dX0_canTryOthers_19 (by decide) (fun c_3 => ?_) (fun c_3 => ?_)
      · refine lv_iconst (v := 0) hx hb dX0_canTryOthers_26 (by decide) ?_
        exact r_bool cx hr hlk (by rw [f_X0_canTryOthers, if_pos c_1, if_neg c_2, if_neg c_3]) (Or.inl rfl) dX0_canTryOthers_27
      · refine lv_iconst (v := 1) hx hb dX0_canTryOthers_22 (by decide) ?_
        refine lv_goto (tgt := 27) hx hb dX0_canTryOthers_23 (by decide) ?_
        exact r_bool cx hr hlk (by rw [f_X0_canTryOthers, if_pos c_1, if_neg c_2, if_pos c_3]) (Or.inr rfl) dX0_canTryOthers_27
def f_X0_errorHeld (S : St) (i : Nat)  : Int32 :=
  if ar S 5 i = -1000000 then 0
  else ar S 16 (ix (ar S 5 i))
set_option maxRecDepth 20000 in
theorem c_X0_errorHeld (l : Launch) (G : GG) (ad : Nat → Nat) (S : St) (E : Ex) (hW : WF S) {i : Nat} (hi : i < nt S)  : MR l yX0_errorHeld cX0_errorHeld 1 (some .int) 0 0 G ad (cX G ad S E) [.ref (ad (10 + 2 * i))] (some (.int (f_X0_errorHeld S i))) := by
  refine MR.of [(0, .ref (ad (10 + 2 * i)))] (by decide) (Nat.le_of_ble_eq_true rfl) rfl ?_
  intro p e s m args below meth c cx hr hlk hP ls hl
  have hx := cx.1.1
  have hb := cx.1.2.1
  refine lv_aload_n hx hb dX0_errorHeld_0 rfl (lv_at hl 0 rfl) ?_
  by_cases c_1 : ar S 5 i = -1000000
  · refine w_get cx (ci := 0) rfl iX0 (hP _ _ (cX_T hi hW.t)) 9 (by decide) k_123 (v := .null) (congrArg some (rT_null c_1)) dX0_errorHeld_1 ?_
    refine lv_ifnonnullN hx hb dX0_errorHeld_4 ?_
    refine lv_iconst (v := 0) hx hb dX0_errorHeld_7 (by decide) ?_
    refine lv_goto (tgt := 18) hx hb dX0_errorHeld_8 (by decide) ?_
    exact r_int cx hr hlk (by rw [f_X0_errorHeld, if_pos c_1]) dX0_errorHeld_18
  · refine w_get cx (ci := 0) rfl iX0 (hP _ _ (cX_T hi hW.t)) 9 (by decide) k_123 (v := .ref (ad (100 + ix (ar S 5 i)))) (congrArg some (rT_ref c_1)) dX0_errorHeld_1 ?_
    refine lv_ifnonnull (tgt := 11) hx hb dX0_errorHeld_4 (by decide) ?_
    refine lv_aload_n hx hb dX0_errorHeld_11 rfl (lv_at hl 0 rfl) ?_
    refine w_get cx (ci := 0) rfl iX0 (hP _ _ (cX_T hi hW.t)) 9 (by decide) k_123 (v := .ref (ad (100 + ix (ar S 5 i)))) (congrArg some (rT_ref c_1)) dX0_errorHeld_12 ?_
    refine w_get cx (ci := 1) rfl iX1 (hP _ _ (cX_R (hW.la hi c_1).2)) 5 (by decide) k_258 (v := .int (ar S 16 (ix (ar S 5 i)))) rfl dX0_errorHeld_15 ?_
    exact r_int cx hr hlk (by rw [f_X0_errorHeld, if_neg c_1]) dX0_errorHeld_18
def f_X0_errorSize (S : St) (i : Nat)  : Int32 :=
  f_abs (f_X0_errorHeld S i)
set_option maxRecDepth 20000 in
theorem c_X0_errorSize (l : Launch) (G : GG) (ad : Nat → Nat) (S : St) (E : Ex) (hW : WF S) {i : Nat} (hi : i < nt S)  : MR l yX0_errorSize cX0_errorSize 1 (some .int) 1 23 G ad (cX G ad S E) [.ref (ad (10 + 2 * i))] (some (.int (f_X0_errorSize S i))) := by
  refine MR.of [(0, .ref (ad (10 + 2 * i)))] (by decide) (Nat.le_of_ble_eq_true rfl) rfl ?_
  intro p e s m args below meth c cx hr hlk hP ls hl
  have hx := cx.1.1
  have hb := cx.1.2.1
  refine lv_aload_n hx hb dX0_errorSize_0 rfl (lv_at hl 0 rfl) ?_
  refine w_callV (As := []) (rest := []) (st := [.int (f_X0_errorHeld S i)]) cx (c_X0_errorHeld l G ad S E hW (i := i) hi) k_367 cal_yX0_errorHeld (ci := 0) rfl (hP _ _ (cX_T hi hW.t)) hP rfl ⟨Nat.le_of_ble_eq_true rfl, Nat.le_of_ble_eq_true rfl⟩ hl.1 (Nat.le_of_ble_eq_true rfl) ⟨Nat.zero_le _, Nat.zero_le _⟩ rfl rfl dX0_errorSize_1 ?_
  refine w_abs cx hl.1 k_296 (Nat.le_of_ble_eq_true rfl) (Nat.le_of_ble_eq_true rfl) ⟨Nat.zero_le _, Nat.zero_le _⟩ (Nat.le_of_ble_eq_true rfl) dX0_errorSize_4 ?_
  exact r_int cx hr hlk (by rw [f_X0_errorSize]) dX0_errorSize_7
def f_X0_spanOn (S : St) (i : Nat) (d : Int32) : Int32 :=
  if ar S 5 i = -1000000 then 0
  else (ar S 17 (ix (ar S 5 i))) + (((((ar S 1 i) * (d - (ar S 15 (ix (ar S 5 i))))) + 100) - 1) / 100)
set_option maxRecDepth 20000 in
theorem c_X0_spanOn (l : Launch) (G : GG) (ad : Nat → Nat) (S : St) (E : Ex) (hW : WF S) {i : Nat} (hi : i < nt S) (d : Int32) : MR l yX0_spanOn cX0_spanOn 3 (some .int) 0 0 G ad (cX G ad S E) [.ref (ad (10 + 2 * i)), .int d] (some (.int (f_X0_spanOn S i d))) := by
  refine MR.of [(0, .ref (ad (10 + 2 * i))), (1, .int d)] (by decide) (Nat.le_of_ble_eq_true rfl) rfl ?_
  intro p e s m args below meth c cx hr hlk hP ls hl
  have hx := cx.1.1
  have hb := cx.1.2.1
  refine lv_aload_n hx hb dX0_spanOn_0 rfl (lv_at hl 0 rfl) ?_
  by_cases c_1 : ar S 5 i = -1000000
  · refine w_get cx (ci := 0) rfl iX0 (hP _ _ (cX_T hi hW.t)) 9 (by decide) k_123 (v := .null) (congrArg some (rT_null c_1)) dX0_spanOn_1 ?_
    refine lv_ifnonnullN hx hb dX0_spanOn_4 ?_
    refine lv_iconst (v := 0) hx hb dX0_spanOn_7 (by decide) ?_
    exact r_int cx hr hlk (by rw [f_X0_spanOn, if_pos c_1]) dX0_spanOn_8
  · refine w_get cx (ci := 0) rfl iX0 (hP _ _ (cX_T hi hW.t)) 9 (by decide) k_123 (v := .ref (ad (100 + ix (ar S 5 i)))) (congrArg some (rT_ref c_1)) dX0_spanOn_1 ?_
    refine lv_ifnonnull (tgt := 9) hx hb dX0_spanOn_4 (by decide) ?_
    refine lv_aload_n hx hb dX0_spanOn_9 rfl (lv_at hl 0 rfl) ?_
    refine w_get cx (ci := 0) rfl iX0 (hP _ _ (cX_T hi hW.t)) 1 (by decide) k_109 (v := .int (ar S 1 i)) rfl dX0_spanOn_10 ?_
    refine lv_iload_n hx hb dX0_spanOn_13 rfl (lv_at hl 1 rfl) ?_
    refine lv_aload_n hx hb dX0_spanOn_14 rfl (lv_at hl 0 rfl) ?_
    refine w_get cx (ci := 0) rfl iX0 (hP _ _ (cX_T hi hW.t)) 9 (by decide) k_123 (v := .ref (ad (100 + ix (ar S 5 i)))) (congrArg some (rT_ref c_1)) dX0_spanOn_15 ?_
    refine w_get cx (ci := 1) rfl iX1 (hP _ _ (cX_R (hW.la hi c_1).2)) 4 (by decide) k_255 (v := .int (ar S 15 (ix (ar S 5 i)))) rfl dX0_spanOn_18 ?_
    refine lv_isub hx hb dX0_spanOn_21 ?_
    refine lv_imul hx hb dX0_spanOn_22 ?_
    refine lv_istore_n (lv' := [(2, .int ((ar S 1 i) * (d - (ar S 15 (ix (ar S 5 i)))))), (0, .ref (ad (10 + 2 * i))), (1, .int d)]) hx hb dX0_spanOn_23 rfl hl (by decide) rfl (fun ls hl => ?_)
    refine lv_aload_n hx hb dX0_spanOn_24 rfl (lv_at hl 1 rfl) ?_
    refine w_get cx (ci := 0) rfl iX0 (hP _ _ (cX_T hi hW.t)) 9 (by decide) k_123 (v := .ref (ad (100 + ix (ar S 5 i)))) (congrArg some (rT_ref c_1)) dX0_spanOn_25 ?_
    refine w_get cx (ci := 1) rfl iX1 (hP _ _ (cX_R (hW.la hi c_1).2)) 6 (by decide) k_261 (v := .int (ar S 17 (ix (ar S 5 i)))) rfl dX0_spanOn_28 ?_
    refine lv_iload_n hx hb dX0_spanOn_31 rfl (lv_at hl 0 rfl) ?_
    refine lv_bipush (v := 100) hx hb dX0_spanOn_32 (by decide) ?_
    refine lv_iadd hx hb dX0_spanOn_34 ?_
    refine lv_iconst (v := 1) hx hb dX0_spanOn_35 (by decide) ?_
    refine lv_isub hx hb dX0_spanOn_36 ?_
    refine lv_bipush (v := 100) hx hb dX0_spanOn_37 (by decide) ?_
    refine lv_idiv hx hb dX0_spanOn_39 (by decide) ?_
    refine lv_iadd hx hb dX0_spanOn_40 ?_
    exact r_int cx hr hlk (by rw [f_X0_spanOn, if_neg c_1]) dX0_spanOn_41
def f_X0_daysNoWiderThan (S : St) (i : Nat) (x d : Int32) : Int32 :=
  if ar S 5 i = -1000000 then 20000
  else if 0 < ar S 1 i then (f_lmin 20000 ((((((x).toInt64) - ((ar S 17 (ix (ar S 5 i))).toInt64)) * 100) / ((ar S 1 i).toInt64)) - ((d - (ar S 15 (ix (ar S 5 i)))).toInt64))).toInt32
  else 20000
set_option maxRecDepth 20000 in
theorem c_X0_daysNoWiderThan (l : Launch) (G : GG) (ad : Nat → Nat) (S : St) (E : Ex) (hW : WF S) {i : Nat} (hi : i < nt S) (x d : Int32) : MR l yX0_daysNoWiderThan cX0_daysNoWiderThan 5 (some .int) 1 23 G ad (cX G ad S E) [.ref (ad (10 + 2 * i)), .int x, .int d] (some (.int (f_X0_daysNoWiderThan S i x d))) := by
  refine MR.of [(0, .ref (ad (10 + 2 * i))), (1, .int x), (2, .int d)] (by decide) (Nat.le_of_ble_eq_true rfl) rfl ?_
  intro p e s m args below meth c cx hr hlk hP ls hl
  have hx := cx.1.1
  have hb := cx.1.2.1
  refine lv_aload_n hx hb dX0_daysNoWiderThan_0 rfl (lv_at hl 0 rfl) ?_
  by_cases c_1 : ar S 5 i = -1000000
  · refine w_get cx (ci := 0) rfl iX0 (hP _ _ (cX_T hi hW.t)) 9 (by decide) k_123 (v := .null) (congrArg some (rT_null c_1)) dX0_daysNoWiderThan_1 ?_
    refine lv_ifnullN (tgt := 14) hx hb dX0_daysNoWiderThan_4 (by decide) ?_
    refine lv_sipush (v := 20000) hx hb dX0_daysNoWiderThan_14 (by decide) ?_
    exact r_int cx hr hlk (by rw [f_X0_daysNoWiderThan, if_pos c_1]) dX0_daysNoWiderThan_17
  · refine w_get cx (ci := 0) rfl iX0 (hP _ _ (cX_T hi hW.t)) 9 (by decide) k_123 (v := .ref (ad (100 + ix (ar S 5 i)))) (congrArg some (rT_ref c_1)) dX0_daysNoWiderThan_1 ?_
    refine lv_ifnull hx hb dX0_daysNoWiderThan_4 ?_
    refine lv_aload_n hx hb dX0_daysNoWiderThan_7 rfl (lv_at hl 0 rfl) ?_
    refine w_get cx (ci := 0) rfl iX0 (hP _ _ (cX_T hi hW.t)) 1 (by decide) k_109 (v := .int (ar S 1 i)) rfl dX0_daysNoWiderThan_8 ?_
    refine lv_if_gt (tgt := 18) hx hb dX0_daysNoWiderThan_11 (by decide) (fun c_2 => ?_) (fun c_2 => ?_)
    · refine lv_iload_n hx hb dX0_daysNoWiderThan_18 rfl (lv_at hl 1 rfl) ?_
      refine lv_i2l hx hb dX0_daysNoWiderThan_19 rfl ?_
      refine lv_aload_n hx hb dX0_daysNoWiderThan_20 rfl (lv_at hl 0 rfl) ?_
      refine w_get cx (ci := 0) rfl iX0 (hP _ _ (cX_T hi hW.t)) 9 (by decide) k_123 (v := .ref (ad (100 + ix (ar S 5 i)))) (congrArg some (rT_ref c_1)) dX0_daysNoWiderThan_21 ?_
      refine w_get cx (ci := 1) rfl iX1 (hP _ _ (cX_R (hW.la hi c_1).2)) 6 (by decide) k_261 (v := .int (ar S 17 (ix (ar S 5 i)))) rfl dX0_daysNoWiderThan_24 ?_
      refine lv_i2l hx hb dX0_daysNoWiderThan_27 rfl ?_
      refine lv_lsub hx hb dX0_daysNoWiderThan_28 ?_
      refine w_ldc2 cx k_380 dX0_daysNoWiderThan_29 ?_
      refine lv_lmul hx hb dX0_daysNoWiderThan_32 ?_
      refine lv_aload_n hx hb dX0_daysNoWiderThan_33 rfl (lv_at hl 0 rfl) ?_
      refine w_get cx (ci := 0) rfl iX0 (hP _ _ (cX_T hi hW.t)) 1 (by decide) k_109 (v := .int (ar S 1 i)) rfl dX0_daysNoWiderThan_34 ?_
      refine lv_i2l hx hb dX0_daysNoWiderThan_37 rfl ?_
      refine lv_ldiv hx hb dX0_daysNoWiderThan_38 (nz64' c_2) ?_
      refine lv_lstore_n (lv' := [(3, .long (((((x).toInt64) - ((ar S 17 (ix (ar S 5 i))).toInt64)) * 100) / ((ar S 1 i).toInt64))), (0, .ref (ad (10 + 2 * i))), (1, .int x), (2, .int d)]) hx hb dX0_daysNoWiderThan_39 rfl hl (by decide) rfl (fun ls hl => ?_)
      refine w_ldc2 cx k_381 dX0_daysNoWiderThan_40 ?_
      refine lv_lload_n hx hb dX0_daysNoWiderThan_43 rfl (lv_at hl 0 rfl) ?_
      refine lv_iload_n hx hb dX0_daysNoWiderThan_44 rfl (lv_at hl 3 rfl) ?_
      refine lv_aload_n hx hb dX0_daysNoWiderThan_45 rfl (lv_at hl 1 rfl) ?_
      refine w_get cx (ci := 0) rfl iX0 (hP _ _ (cX_T hi hW.t)) 9 (by decide) k_123 (v := .ref (ad (100 + ix (ar S 5 i)))) (congrArg some (rT_ref c_1)) dX0_daysNoWiderThan_46 ?_
      refine w_get cx (ci := 1) rfl iX1 (hP _ _ (cX_R (hW.la hi c_1).2)) 4 (by decide) k_255 (v := .int (ar S 15 (ix (ar S 5 i)))) rfl dX0_daysNoWiderThan_49 ?_
      refine lv_isub hx hb dX0_daysNoWiderThan_52 ?_
      refine lv_i2l hx hb dX0_daysNoWiderThan_53 rfl ?_
      refine lv_lsub hx hb dX0_daysNoWiderThan_54 ?_
      refine w_lmin cx hl.1 k_382 (Nat.le_of_ble_eq_true rfl) (Nat.le_of_ble_eq_true rfl) ⟨Nat.zero_le _, Nat.zero_le _⟩ (Nat.le_of_ble_eq_true rfl) dX0_daysNoWiderThan_55 ?_
      refine lv_l2i hx hb dX0_daysNoWiderThan_58 rfl ?_
      exact r_int cx hr hlk (by rw [f_X0_daysNoWiderThan, if_neg c_1, if_pos c_2]) dX0_daysNoWiderThan_59
    · refine lv_sipush (v := 20000) hx hb dX0_daysNoWiderThan_14 (by decide) ?_
      exact r_int cx hr hlk (by rw [f_X0_daysNoWiderThan, if_neg c_1, if_neg c_2]) dX0_daysNoWiderThan_17
def f_X0_isWrongedBy (S : St) (i n : Nat) : Int32 :=
  if ar S 5 i = -1000000 then 0
  else if ar S 18 (ix (ar S 5 i)) = 0 then 0
  else if f_abs ((ar S 16 (ix (ar S 5 i))) - (ar S 16 n)) ≤ (f_X0_spanOn S i (ar S 15 n)) + (ar S 17 n) then 0
  else 1
theorem b_X0_isWrongedBy (S : St) (i n : Nat) : f_X0_isWrongedBy S i n = 0 ∨ f_X0_isWrongedBy S i n = 1 := by
  unfold f_X0_isWrongedBy
  repeat' split
  all_goals first | exact Or.inl rfl | exact Or.inr rfl
set_option maxRecDepth 20000 in
theorem c_X0_isWrongedBy (l : Launch) (G : GG) (ad : Nat → Nat) (S : St) (E : Ex) (hW : WF S) {i : Nat} (hi : i < nt S) {n : Nat} (hn : n < nr S) : MR l yX0_isWrongedBy cX0_isWrongedBy 3 (some .boolean) 1 23 G ad (cX G ad S E) [.ref (ad (10 + 2 * i)), .ref (ad (100 + n))] (some (.int (f_X0_isWrongedBy S i n))) := by
  refine MR.of [(0, .ref (ad (10 + 2 * i))), (1, .ref (ad (100 + n)))] (by decide) (Nat.le_of_ble_eq_true rfl) rfl ?_
  intro p e s m args below meth c cx hr hlk hP ls hl
  have hx := cx.1.1
  have hb := cx.1.2.1
  refine lv_aload_n hx hb dX0_isWrongedBy_0 rfl (lv_at hl 0 rfl) ?_
  by_cases c_1 : ar S 5 i = -1000000
  · refine w_get cx (ci := 0) rfl iX0 (hP _ _ (cX_T hi hW.t)) 9 (by decide) k_123 (v := .null) (congrArg some (rT_null c_1)) dX0_isWrongedBy_1 ?_
    refine lv_ifnullN (tgt := 17) hx hb dX0_isWrongedBy_4 (by decide) ?_
    refine lv_iconst (v := 0) hx hb dX0_isWrongedBy_17 (by decide) ?_
    exact r_bool cx hr hlk (by rw [f_X0_isWrongedBy, if_pos c_1]) (Or.inl rfl) dX0_isWrongedBy_18
  · refine w_get cx (ci := 0) rfl iX0 (hP _ _ (cX_T hi hW.t)) 9 (by decide) k_123 (v := .ref (ad (100 + ix (ar S 5 i)))) (congrArg some (rT_ref c_1)) dX0_isWrongedBy_1 ?_
    refine lv_ifnull hx hb dX0_isWrongedBy_4 ?_
    refine lv_aload_n hx hb dX0_isWrongedBy_7 rfl (lv_at hl 0 rfl) ?_
    refine w_get cx (ci := 0) rfl iX0 (hP _ _ (cX_T hi hW.t)) 9 (by decide) k_123 (v := .ref (ad (100 + ix (ar S 5 i)))) (congrArg some (rT_ref c_1)) dX0_isWrongedBy_8 ?_
    refine w_get cx (ci := 1) rfl iX1 (hP _ _ (cX_R (hW.la hi c_1).2)) 7 (by decide) k_264 (v := .int (ar S 18 (ix (ar S 5 i)))) rfl dX0_isWrongedBy_11 ?_
    refine lv_if_ne (tgt := 19) hx hb dX0_isWrongedBy_14 (by decide) (fun c_2 => ?_) (fun c_2 => ?_)
    · refine lv_aload_n hx hb dX0_isWrongedBy_19 rfl (lv_at hl 0 rfl) ?_
      refine w_get cx (ci := 0) rfl iX0 (hP _ _ (cX_T hi hW.t)) 9 (by decide) k_123 (v := .ref (ad (100 + ix (ar S 5 i)))) (congrArg some (rT_ref c_1)) dX0_isWrongedBy_20 ?_
      refine w_get cx (ci := 1) rfl iX1 (hP _ _ (cX_R (hW.la hi c_1).2)) 5 (by decide) k_258 (v := .int (ar S 16 (ix (ar S 5 i)))) rfl dX0_isWrongedBy_23 ?_
      refine lv_aload_n hx hb dX0_isWrongedBy_26 rfl (lv_at hl 1 rfl) ?_
      refine w_get cx (ci := 1) rfl iX1 (hP _ _ (cX_R hn)) 5 (by decide) k_258 (v := .int (ar S 16 n)) rfl dX0_isWrongedBy_27 ?_
      refine lv_isub hx hb dX0_isWrongedBy_30 ?_
      refine w_abs cx hl.1 k_296 (Nat.le_of_ble_eq_true rfl) (Nat.le_of_ble_eq_true rfl) ⟨Nat.zero_le _, Nat.zero_le _⟩ (Nat.le_of_ble_eq_true rfl) dX0_isWrongedBy_31 ?_
      refine lv_istore_n (lv' := [(2, .int (f_abs ((ar S 16 (ix (ar S 5 i))) - (ar S 16 n)))), (0, .ref (ad (10 + 2 * i))), (1, .ref (ad (100 + n)))]) hx hb dX0_isWrongedBy_34 rfl hl (by decide) rfl (fun ls hl => ?_)
      refine lv_iload_n hx hb dX0_isWrongedBy_35 rfl (lv_at hl 0 rfl) ?_
      refine lv_aload_n hx hb dX0_isWrongedBy_36 rfl (lv_at hl 1 rfl) ?_
      refine lv_aload_n hx hb dX0_isWrongedBy_37 rfl (lv_at hl 2 rfl) ?_
      refine w_get cx (ci := 1) rfl iX1 (hP _ _ (cX_R hn)) 4 (by decide) k_255 (v := .int (ar S 15 n)) rfl dX0_isWrongedBy_38 ?_
      refine w_callV (As := [.int (ar S 15 n)]) (rest := [.int (f_abs ((ar S 16 (ix (ar S 5 i))) - (ar S 16 n)))]) (st := [.int (f_X0_spanOn S i (ar S 15 n)), .int (f_abs ((ar S 16 (ix (ar S 5 i))) - (ar S 16 n)))]) cx (c_X0_spanOn l G ad S E hW (i := i) hi (ar S 15 n)) k_299 cal_yX0_spanOn (ci := 0) rfl (hP _ _ (cX_T hi hW.t)) hP rfl ⟨Nat.le_of_ble_eq_true rfl, Nat.le_of_ble_eq_true rfl⟩ hl.1 (Nat.le_of_ble_eq_true rfl) ⟨Nat.zero_le _, Nat.zero_le _⟩ rfl rfl dX0_isWrongedBy_41 ?_
      refine lv_aload_n hx hb dX0_isWrongedBy_44 rfl (lv_at hl 2 rfl) ?_
      refine w_get cx (ci := 1) rfl iX1 (hP _ _ (cX_R hn)) 6 (by decide) k_261 (v := .int (ar S 17 n)) rfl dX0_isWrongedBy_45 ?_
      refine lv_iadd hx hb dX0_isWrongedBy_48 ?_
      refine lv_icmp_le (tgt := 56) hx hb dX0_isWrongedBy_49 (by decide) (fun c_3 => ?_) (fun c_3 => ?_)
      · refine lv_iconst (v := 0) hx hb dX0_isWrongedBy_56 (by decide) ?_
        exact r_bool cx hr hlk (by rw [f_X0_isWrongedBy, if_neg c_1, if_neg c_2, if_pos c_3]) (Or.inl rfl) dX0_isWrongedBy_57
      · refine lv_iconst (v := 1) hx hb dX0_isWrongedBy_52 (by decide) ?_
        refine lv_goto (tgt := 57) hx hb dX0_isWrongedBy_53 (by decide) ?_
        exact r_bool cx hr hlk (by rw [f_X0_isWrongedBy, if_neg c_1, if_neg c_2, if_neg c_3]) (Or.inr rfl) dX0_isWrongedBy_57
    · refine lv_iconst (v := 0) hx hb dX0_isWrongedBy_17 (by decide) ?_
      exact r_bool cx hr hlk (by rw [f_X0_isWrongedBy, if_neg c_1, if_pos c_2]) (Or.inl rfl) dX0_isWrongedBy_18
def f_X1_isShakenBy (S : St) (n k : Nat) : Int32 :=
  if ar S 20 n = -1000000 then 0
  else if ix (ar S 20 n) = k then 1
  else if ar S 18 (ix (ar S 20 n)) = 0 then 1
  else 0
theorem b_X1_isShakenBy (S : St) (n k : Nat) : f_X1_isShakenBy S n k = 0 ∨ f_X1_isShakenBy S n k = 1 := by
  unfold f_X1_isShakenBy
  repeat' split
  all_goals first | exact Or.inl rfl | exact Or.inr rfl
set_option maxRecDepth 20000 in
theorem c_X1_isShakenBy (l : Launch) (G : GG) (ad : Nat → Nat) (S : St) (E : Ex) (hW : WF S) (hBa : WB S) (hj : ∀ a b : Nat, a < nr S → b < nr S → ad (100 + a) = ad (100 + b) → a = b) {n : Nat} (hn : n < nr S) {k : Nat} (hk : k < nr S) : MR l yX1_isShakenBy cX1_isShakenBy 2 (some .boolean) 0 0 G ad (cX G ad S E) [.ref (ad (100 + n)), .ref (ad (100 + k))] (some (.int (f_X1_isShakenBy S n k))) := by
  refine MR.of [(0, .ref (ad (100 + n))), (1, .ref (ad (100 + k)))] (by decide) (Nat.le_of_ble_eq_true rfl) rfl ?_
  intro p e s m args below meth c cx hr hlk hP ls hl
  have hx := cx.1.1
  have hb := cx.1.2.1
  refine lv_aload_n hx hb dX1_isShakenBy_0 rfl (lv_at hl 0 rfl) ?_
  by_cases c_1 : ar S 20 n = -1000000
  · refine w_get cx (ci := 1) rfl iX1 (hP _ _ (cX_R hn)) 3 (by decide) k_251 (v := .null) (congrArg some (rT_null c_1)) dX1_isShakenBy_1 ?_
    refine lv_ifnullN (tgt := 29) hx hb dX1_isShakenBy_4 (by decide) ?_
    refine lv_iconst (v := 0) hx hb dX1_isShakenBy_29 (by decide) ?_
    exact r_bool cx hr hlk (by rw [f_X1_isShakenBy, if_pos c_1]) (Or.inl rfl) dX1_isShakenBy_30
  · refine w_get cx (ci := 1) rfl iX1 (hP _ _ (cX_R hn)) 3 (by decide) k_251 (v := .ref (ad (100 + ix (ar S 20 n)))) (congrArg some (rT_ref c_1)) dX1_isShakenBy_1 ?_
    refine lv_ifnull hx hb dX1_isShakenBy_4 ?_
    refine lv_aload_n hx hb dX1_isShakenBy_7 rfl (lv_at hl 0 rfl) ?_
    refine w_get cx (ci := 1) rfl iX1 (hP _ _ (cX_R hn)) 3 (by decide) k_251 (v := .ref (ad (100 + ix (ar S 20 n)))) (congrArg some (rT_ref c_1)) dX1_isShakenBy_8 ?_
    refine lv_aload_n hx hb dX1_isShakenBy_11 rfl (lv_at hl 1 rfl) ?_
    refine lv_acmp_eq (rx := some (ad (100 + ix (ar S 20 n)))) (ry := some (ad (100 + k))) (tgt := 25) hx hb dX1_isShakenBy_12 (by decide) (fun c_2 => ?_) (fun c_2 => ?_)
    · refine lv_iconst (v := 1) hx hb dX1_isShakenBy_25 (by decide) ?_
      refine lv_goto (tgt := 30) hx hb dX1_isShakenBy_26 (by decide) ?_
      exact r_bool cx hr hlk (by rw [f_X1_isShakenBy, if_neg c_1, if_pos (hj _ _ (Nat.lt_trans (hBa.ba hn c_1).2 hn) hk (Option.some.inj c_2))]) (Or.inr rfl) dX1_isShakenBy_30
    · refine lv_aload_n hx hb dX1_isShakenBy_15 rfl (lv_at hl 0 rfl) ?_
      refine w_get cx (ci := 1) rfl iX1 (hP _ _ (cX_R hn)) 3 (by decide) k_251 (v := .ref (ad (100 + ix (ar S 20 n)))) (congrArg some (rT_ref c_1)) dX1_isShakenBy_16 ?_
      refine w_get cx (ci := 1) rfl iX1 (hP _ _ (cX_R (Nat.lt_trans (hBa.ba hn c_1).2 hn))) 7 (by decide) k_262 (v := .int (ar S 18 (ix (ar S 20 n)))) rfl dX1_isShakenBy_19 ?_
      refine lv_if_ne (tgt := 29) hx hb dX1_isShakenBy_22 (by decide) (fun c_3 => ?_) (fun c_3 => ?_)
      · refine lv_iconst (v := 0) hx hb dX1_isShakenBy_29 (by decide) ?_
        exact r_bool cx hr hlk (by rw [f_X1_isShakenBy, if_neg c_1, if_neg (fun e => c_2 (by rw [e])), if_neg c_3]) (Or.inl rfl) dX1_isShakenBy_30
      · refine lv_iconst (v := 1) hx hb dX1_isShakenBy_25 (by decide) ?_
        refine lv_goto (tgt := 30) hx hb dX1_isShakenBy_26 (by decide) ?_
        exact r_bool cx hr hlk (by rw [f_X1_isShakenBy, if_neg c_1, if_neg (fun e => c_2 (by rw [e])), if_pos c_3]) (Or.inr rfl) dX1_isShakenBy_30
end
section
set_option maxRecDepth 20000 in
theorem c_X2_thingAt_in (l : Launch) (G : GG) (ad : Nat → Nat) (S : St) (E : Ex) (hW : WF S) {j : Nat} (hj : j < nt S) : MR l yX2_thingAt cX2_thingAt 2 (some (.object "TrueWeights$Thing")) 1 22 G ad (cX G ad S E) [.ref (ad 0), .int (nI j)] (some (.ref (ad (10 + 2 * j)))) := by
  refine MR.of [(0, .ref (ad 0)), (1, .int (nI j))] (by decide) (Nat.le_of_ble_eq_true rfl) rfl ?_
  intro p e s m args below meth c cx hr hlk hP ls hl
  have hx := cx.1.1
  have hb := cx.1.2.1
  refine lv_iload_n hx hb dX2_thingAt_0 rfl (lv_at hl 1 rfl) ?_
  refine lv_iconst (v := 0) hx hb dX2_thingAt_1 (by decide) ?_
  refine lv_aload_n hx hb dX2_thingAt_2 rfl (lv_at hl 0 rfl) ?_
  refine w_get cx (ci := 2) rfl iX2 (hP _ _ (cX_lo 0 (by decide) rfl)) 10 (by decide) k_55 (v := .int (nI (nt S))) rfl dX2_thingAt_3 ?_
  refine lv_iconst (v := 1) hx hb dX2_thingAt_6 (by decide) ?_
  refine lv_isub hx hb dX2_thingAt_7 ?_
  refine w_callS (As := [.int (nI j), .int 0, .int ((nI (nt S)) - 1)]) (rest := []) (st := [.int (f_X2_isWithin (nI j) 0 ((nI (nt S)) - 1))]) cx (c_X2_isWithin l G ad _ (nI j) 0 ((nI (nt S)) - 1)) k_91 cal_yX2_isWithin hP rfl ⟨Nat.le_of_ble_eq_true rfl, Nat.le_of_ble_eq_true rfl⟩ hl.1 (Nat.le_of_ble_eq_true rfl) ⟨Nat.zero_le _, Nat.zero_le _⟩ rfl rfl dX2_thingAt_8 ?_
  refine lv_if_eq (tgt := 23) hx hb dX2_thingAt_11 (by decide) (fun c_1 => ?_) (fun c_1 => ?_)
  · exact absurd c_1 (isW_in hj (Nat.lt_of_le_of_lt hW.t (by decide)))
  · refine lv_aload_n hx hb dX2_thingAt_14 rfl (lv_at hl 0 rfl) ?_
    refine w_get cx (ci := 2) rfl iX2 (hP _ _ (cX_lo 0 (by decide) rfl)) 0 (by decide) k_45 (v := .ref (ad 1)) rfl dX2_thingAt_15 ?_
    refine lv_iload_n hx hb dX2_thingAt_18 rfl (lv_at hl 1 rfl) ?_
    refine w_aaldT (v := .ref (ad (10 + 2 * j))) cx (hP _ _ (cX_lo 1 (by decide) rfl)) j rfl (Nat.lt_of_lt_of_le hj hW.t) (by decide) (by rw [fTs, if_pos hj]; rfl) dX2_thingAt_19 ?_
    refine lv_goto (tgt := 24) hx hb dX2_thingAt_20 (by decide) ?_
    exact r_ref cx hr hlk rfl (Or.inr ⟨_, rfl⟩) dX2_thingAt_24
set_option maxRecDepth 20000 in
theorem c_X2_thingAt_out (l : Launch) (G : GG) (ad : Nat → Nat) (S : St) (E : Ex) (hW : WF S) {n : Int32} (hn : nT S n) : MR l yX2_thingAt cX2_thingAt 2 (some (.object "TrueWeights$Thing")) 1 22 G ad (cX G ad S E) [.ref (ad 0), .int n] (some (.null)) := by
  refine MR.of [(0, .ref (ad 0)), (1, .int n)] (by decide) (Nat.le_of_ble_eq_true rfl) rfl ?_
  intro p e s m args below meth c cx hr hlk hP ls hl
  have hx := cx.1.1
  have hb := cx.1.2.1
  refine lv_iload_n hx hb dX2_thingAt_0 rfl (lv_at hl 1 rfl) ?_
  refine lv_iconst (v := 0) hx hb dX2_thingAt_1 (by decide) ?_
  refine lv_aload_n hx hb dX2_thingAt_2 rfl (lv_at hl 0 rfl) ?_
  refine w_get cx (ci := 2) rfl iX2 (hP _ _ (cX_lo 0 (by decide) rfl)) 10 (by decide) k_55 (v := .int (nI (nt S))) rfl dX2_thingAt_3 ?_
  refine lv_iconst (v := 1) hx hb dX2_thingAt_6 (by decide) ?_
  refine lv_isub hx hb dX2_thingAt_7 ?_
  refine w_callS (As := [.int n, .int 0, .int ((nI (nt S)) - 1)]) (rest := []) (st := [.int (f_X2_isWithin n 0 ((nI (nt S)) - 1))]) cx (c_X2_isWithin l G ad _ n 0 ((nI (nt S)) - 1)) k_91 cal_yX2_isWithin hP rfl ⟨Nat.le_of_ble_eq_true rfl, Nat.le_of_ble_eq_true rfl⟩ hl.1 (Nat.le_of_ble_eq_true rfl) ⟨Nat.zero_le _, Nat.zero_le _⟩ rfl rfl dX2_thingAt_8 ?_
  refine lv_if_eq (tgt := 23) hx hb dX2_thingAt_11 (by decide) (fun c_1 => ?_) (fun c_1 => ?_)
  · refine lv_null hx hb dX2_thingAt_23 ?_
    exact r_ref cx hr hlk rfl (Or.inl rfl) dX2_thingAt_24
  · exact absurd (isW_out (Nat.lt_of_le_of_lt hW.t (by decide)) hn) c_1
set_option maxRecDepth 20000 in
theorem c_X2_trialAt_in (l : Launch) (G : GG) (ad : Nat → Nat) (S : St) (E : Ex) (hW : WF S) {j : Nat} (hj : j < nr S) : MR l yX2_trialAt cX2_trialAt 2 (some (.object "TrueWeights$Trial")) 1 22 G ad (cX G ad S E) [.ref (ad 0), .int (nI j)] (some (.ref (ad (100 + j)))) := by
  refine MR.of [(0, .ref (ad 0)), (1, .int (nI j))] (by decide) (Nat.le_of_ble_eq_true rfl) rfl ?_
  intro p e s m args below meth c cx hr hlk hP ls hl
  have hx := cx.1.1
  have hb := cx.1.2.1
  refine lv_iload_n hx hb dX2_trialAt_0 rfl (lv_at hl 1 rfl) ?_
  refine lv_iconst (v := 0) hx hb dX2_trialAt_1 (by decide) ?_
  refine lv_aload_n hx hb dX2_trialAt_2 rfl (lv_at hl 0 rfl) ?_
  refine w_get cx (ci := 2) rfl iX2 (hP _ _ (cX_lo 0 (by decide) rfl)) 11 (by decide) k_56 (v := .int (nI (nr S))) rfl dX2_trialAt_3 ?_
  refine lv_iconst (v := 1) hx hb dX2_trialAt_6 (by decide) ?_
  refine lv_isub hx hb dX2_trialAt_7 ?_
  refine w_callS (As := [.int (nI j), .int 0, .int ((nI (nr S)) - 1)]) (rest := []) (st := [.int (f_X2_isWithin (nI j) 0 ((nI (nr S)) - 1))]) cx (c_X2_isWithin l G ad _ (nI j) 0 ((nI (nr S)) - 1)) k_91 cal_yX2_isWithin hP rfl ⟨Nat.le_of_ble_eq_true rfl, Nat.le_of_ble_eq_true rfl⟩ hl.1 (Nat.le_of_ble_eq_true rfl) ⟨Nat.zero_le _, Nat.zero_le _⟩ rfl rfl dX2_trialAt_8 ?_
  refine lv_if_eq (tgt := 23) hx hb dX2_trialAt_11 (by decide) (fun c_1 => ?_) (fun c_1 => ?_)
  · exact absurd c_1 (isW_in hj (Nat.lt_of_le_of_lt hW.r (by decide)))
  · refine lv_aload_n hx hb dX2_trialAt_14 rfl (lv_at hl 0 rfl) ?_
    refine w_get cx (ci := 2) rfl iX2 (hP _ _ (cX_lo 0 (by decide) rfl)) 1 (by decide) k_46 (v := .ref (ad 2)) rfl dX2_trialAt_15 ?_
    refine lv_iload_n hx hb dX2_trialAt_18 rfl (lv_at hl 1 rfl) ?_
    refine w_aaldR (v := .ref (ad (100 + j))) cx (hP _ _ (cX_lo 2 (by decide) rfl)) j rfl (Nat.lt_of_lt_of_le hj hW.r) (by decide) (by rw [fRs, if_pos hj]; rfl) dX2_trialAt_19 ?_
    refine lv_goto (tgt := 24) hx hb dX2_trialAt_20 (by decide) ?_
    exact r_ref cx hr hlk rfl (Or.inr ⟨_, rfl⟩) dX2_trialAt_24
set_option maxRecDepth 20000 in
theorem c_X2_trialAt_out (l : Launch) (G : GG) (ad : Nat → Nat) (S : St) (E : Ex) (hW : WF S) {n : Int32} (hn : nR S n) : MR l yX2_trialAt cX2_trialAt 2 (some (.object "TrueWeights$Trial")) 1 22 G ad (cX G ad S E) [.ref (ad 0), .int n] (some (.null)) := by
  refine MR.of [(0, .ref (ad 0)), (1, .int n)] (by decide) (Nat.le_of_ble_eq_true rfl) rfl ?_
  intro p e s m args below meth c cx hr hlk hP ls hl
  have hx := cx.1.1
  have hb := cx.1.2.1
  refine lv_iload_n hx hb dX2_trialAt_0 rfl (lv_at hl 1 rfl) ?_
  refine lv_iconst (v := 0) hx hb dX2_trialAt_1 (by decide) ?_
  refine lv_aload_n hx hb dX2_trialAt_2 rfl (lv_at hl 0 rfl) ?_
  refine w_get cx (ci := 2) rfl iX2 (hP _ _ (cX_lo 0 (by decide) rfl)) 11 (by decide) k_56 (v := .int (nI (nr S))) rfl dX2_trialAt_3 ?_
  refine lv_iconst (v := 1) hx hb dX2_trialAt_6 (by decide) ?_
  refine lv_isub hx hb dX2_trialAt_7 ?_
  refine w_callS (As := [.int n, .int 0, .int ((nI (nr S)) - 1)]) (rest := []) (st := [.int (f_X2_isWithin n 0 ((nI (nr S)) - 1))]) cx (c_X2_isWithin l G ad _ n 0 ((nI (nr S)) - 1)) k_91 cal_yX2_isWithin hP rfl ⟨Nat.le_of_ble_eq_true rfl, Nat.le_of_ble_eq_true rfl⟩ hl.1 (Nat.le_of_ble_eq_true rfl) ⟨Nat.zero_le _, Nat.zero_le _⟩ rfl rfl dX2_trialAt_8 ?_
  refine lv_if_eq (tgt := 23) hx hb dX2_trialAt_11 (by decide) (fun c_1 => ?_) (fun c_1 => ?_)
  · refine lv_null hx hb dX2_trialAt_23 ?_
    exact r_ref cx hr hlk rfl (Or.inl rfl) dX2_trialAt_24
  · exact absurd (isW_out (Nat.lt_of_le_of_lt hW.r (by decide)) hn) c_1
set_option maxRecDepth 20000 in
theorem c_X2_numberOf_n (l : Launch) (G : GG) (ad : Nat → Nat) (S : St) (E : Ex) (hW : WF S)  : MR l yX2_numberOf cX2_numberOf 1 (some .int) 0 0 G ad (cX G ad S E) [.null] (some (.int ((-1000000)))) := by
  refine MR.of [(0, .null)] (by decide) (Nat.le_of_ble_eq_true rfl) rfl ?_
  intro p e s m args below meth c cx hr hlk hP ls hl
  have hx := cx.1.1
  have hb := cx.1.2.1
  refine lv_aload_nN hx hb dX2_numberOf_0 rfl (lv_at hl 0 rfl) ?_
  refine lv_ifnonnullN hx hb dX2_numberOf_1 ?_
  refine w_ldc cx k_156 dX2_numberOf_4 ?_
  refine lv_goto (tgt := 13) hx hb dX2_numberOf_6 (by decide) ?_
  exact r_int cx hr hlk rfl dX2_numberOf_13
set_option maxRecDepth 20000 in
theorem c_X2_numberOf_r (l : Launch) (G : GG) (ad : Nat → Nat) (S : St) (E : Ex) (hW : WF S) {n : Nat} (hn : n < nr S) : MR l yX2_numberOf cX2_numberOf 1 (some .int) 0 0 G ad (cX G ad S E) [.ref (ad (100 + n))] (some (.int (nI n))) := by
  refine MR.of [(0, .ref (ad (100 + n)))] (by decide) (Nat.le_of_ble_eq_true rfl) rfl ?_
  intro p e s m args below meth c cx hr hlk hP ls hl
  have hx := cx.1.1
  have hb := cx.1.2.1
  refine lv_aload_n hx hb dX2_numberOf_0 rfl (lv_at hl 0 rfl) ?_
  refine lv_ifnonnull (tgt := 9) hx hb dX2_numberOf_1 (by decide) ?_
  refine lv_aload_n hx hb dX2_numberOf_9 rfl (lv_at hl 0 rfl) ?_
  refine w_get cx (ci := 1) rfl iX1 (hP _ _ (cX_R hn)) 0 (by decide) k_246 (v := .int (nI n)) rfl dX2_numberOf_10 ?_
  exact r_int cx hr hlk rfl dX2_numberOf_13
def f_X2_allowanceFor (S : St) (i : Nat)  : Int32 :=
  if f_X2_isWithin (ar S 0 i) 1 3 = 0 then 0
  else if ar S 4 i = 1 then fA S 10 (ix (ar S 0 i))
  else fA S 11 (ix (ar S 0 i))
set_option maxRecDepth 20000 in
theorem c_X2_allowanceFor (l : Launch) (G : GG) (ad : Nat → Nat) (S : St) (E : Ex) (hW : WF S) {i : Nat} (hi : i < nt S)  : MR l yX2_allowanceFor cX2_allowanceFor 3 (some .int) 1 22 G ad (cX G ad S E) [.ref (ad 0), .ref (ad (10 + 2 * i))] (some (.int (f_X2_allowanceFor S i))) := by
  refine MR.of [(0, .ref (ad 0)), (1, .ref (ad (10 + 2 * i)))] (by decide) (Nat.le_of_ble_eq_true rfl) rfl ?_
  intro p e s m args below meth c cx hr hlk hP ls hl
  have hx := cx.1.1
  have hb := cx.1.2.1
  refine lv_aload_n hx hb dX2_allowanceFor_0 rfl (lv_at hl 1 rfl) ?_
  refine w_get cx (ci := 0) rfl iX0 (hP _ _ (cX_T hi hW.t)) 0 (by decide) k_108 (v := .int (ar S 0 i)) rfl dX2_allowanceFor_1 ?_
  refine lv_istore_n (lv' := [(2, .int (ar S 0 i)), (0, .ref (ad 0)), (1, .ref (ad (10 + 2 * i)))]) hx hb dX2_allowanceFor_4 rfl hl (by decide) rfl (fun ls hl => ?_)
  refine lv_iload_n hx hb dX2_allowanceFor_5 rfl (lv_at hl 0 rfl) ?_
  refine lv_iconst (v := 1) hx hb dX2_allowanceFor_6 (by decide) ?_
  refine lv_iconst (v := 3) hx hb dX2_allowanceFor_7 (by decide) ?_
  refine w_callS (As := [.int (ar S 0 i), .int 1, .int 3]) (rest := []) (st := [.int (f_X2_isWithin (ar S 0 i) 1 3)]) cx (c_X2_isWithin l G ad _ (ar S 0 i) 1 3) k_91 cal_yX2_isWithin hP rfl ⟨Nat.le_of_ble_eq_true rfl, Nat.le_of_ble_eq_true rfl⟩ hl.1 (Nat.le_of_ble_eq_true rfl) ⟨Nat.zero_le _, Nat.zero_le _⟩ rfl rfl dX2_allowanceFor_8 ?_
  refine lv_if_ne (tgt := 16) hx hb dX2_allowanceFor_11 (by decide) (fun c_1 => ?_) (fun c_1 => ?_)
  · refine lv_aload_n hx hb dX2_allowanceFor_16 rfl (lv_at hl 2 rfl) ?_
    refine w_get cx (ci := 0) rfl iX0 (hP _ _ (cX_T hi hW.t)) 6 (by decide) k_117 (v := .int (ar S 4 i)) rfl dX2_allowanceFor_17 ?_
    refine lv_iconst (v := 1) hx hb dX2_allowanceFor_20 (by decide) ?_
    refine lv_icmp_ne (tgt := 33) hx hb dX2_allowanceFor_21 (by decide) (fun c_2 => ?_) (fun c_2 => ?_)
    · refine lv_aload_n hx hb dX2_allowanceFor_33 rfl (lv_at hl 1 rfl) ?_
      refine w_get cx (ci := 2) rfl iX2 (hP _ _ (cX_lo 0 (by decide) rfl)) 3 (by decide) k_48 (v := .ref (ad 4)) rfl dX2_allowanceFor_34 ?_
      refine lv_iload_n hx hb dX2_allowanceFor_37 rfl (lv_at hl 0 rfl) ?_
      refine w_iald cx (hP _ _ (cX_lo 4 (by decide) rfl)) (ix (ar S 0 i)) (hW.kd hi).1 (hW.kd hi).2 (by decide) dX2_allowanceFor_38 ?_
      exact r_int cx hr hlk (by rw [f_X2_allowanceFor, if_neg c_1, if_neg c_2]) dX2_allowanceFor_39
    · refine lv_aload_n hx hb dX2_allowanceFor_24 rfl (lv_at hl 1 rfl) ?_
      refine w_get cx (ci := 2) rfl iX2 (hP _ _ (cX_lo 0 (by decide) rfl)) 2 (by decide) k_47 (v := .ref (ad 3)) rfl dX2_allowanceFor_25 ?_
      refine lv_iload_n hx hb dX2_allowanceFor_28 rfl (lv_at hl 0 rfl) ?_
      refine w_iald cx (hP _ _ (cX_lo 3 (by decide) rfl)) (ix (ar S 0 i)) (hW.kd hi).1 (hW.kd hi).2 (by decide) dX2_allowanceFor_29 ?_
      refine lv_goto (tgt := 39) hx hb dX2_allowanceFor_30 (by decide) ?_
      exact r_int cx hr hlk (by rw [f_X2_allowanceFor, if_neg c_1, if_pos c_2]) dX2_allowanceFor_39
  · refine lv_iconst (v := 0) hx hb dX2_allowanceFor_14 (by decide) ?_
    exact r_int cx hr hlk (by rw [f_X2_allowanceFor, if_pos c_1]) dX2_allowanceFor_15
def f_X2_judgement (S : St) (i : Nat)  : Int32 :=
  if ar S 0 i = 0 then 0
  else if f_X0_isSettledNow S i = 0 then 0
  else if f_X2_allowanceFor S i < (f_X0_errorSize S i) + (f_X0_spanOn S i (sc S 0)) then (if (f_X0_errorSize S i) - (f_X0_spanOn S i (sc S 0)) ≤ f_X2_allowanceFor S i then 2
    else 3)
  else 1
set_option maxRecDepth 20000 in
theorem c_X2_judgement (l : Launch) (G : GG) (ad : Nat → Nat) (S : St) (E : Ex) (hW : WF S) {i : Nat} (hi : i < nt S)  : MR l yX2_judgement cX2_judgement 5 (some .int) 2 44 G ad (cX G ad S E) [.ref (ad 0), .ref (ad (10 + 2 * i))] (some (.int (f_X2_judgement S i))) := by
  refine MR.of [(0, .ref (ad 0)), (1, .ref (ad (10 + 2 * i)))] (by decide) (Nat.le_of_ble_eq_true rfl) rfl ?_
  intro p e s m args below meth c cx hr hlk hP ls hl
  have hx := cx.1.1
  have hb := cx.1.2.1
  refine lv_aload_n hx hb dX2_judgement_0 rfl (lv_at hl 1 rfl) ?_
  refine w_get cx (ci := 0) rfl iX0 (hP _ _ (cX_T hi hW.t)) 0 (by decide) k_108 (v := .int (ar S 0 i)) rfl dX2_judgement_1 ?_
  refine lv_if_eq (tgt := 14) hx hb dX2_judgement_4 (by decide) (fun c_1 => ?_) (fun c_1 => ?_)
  · refine lv_iconst (v := 0) hx hb dX2_judgement_14 (by decide) ?_
    exact r_int cx hr hlk (by rw [f_X2_judgement, if_pos c_1]) dX2_judgement_15
  · refine lv_aload_n hx hb dX2_judgement_7 rfl (lv_at hl 1 rfl) ?_
    refine w_callV (As := []) (rest := []) (st := [.int (f_X0_isSettledNow S i)]) cx (c_X0_isSettledNow l G ad S E hW (i := i) hi) k_336 cal_yX0_isSettledNow (ci := 0) rfl (hP _ _ (cX_T hi hW.t)) hP rfl ⟨Nat.le_of_ble_eq_true rfl, Nat.le_of_ble_eq_true rfl⟩ hl.1 (Nat.le_of_ble_eq_true rfl) ⟨Nat.zero_le _, Nat.zero_le _⟩ rfl rfl dX2_judgement_8 ?_
    refine lv_if_ne (tgt := 16) hx hb dX2_judgement_11 (by decide) (fun c_2 => ?_) (fun c_2 => ?_)
    · refine lv_aload_n hx hb dX2_judgement_16 rfl (lv_at hl 1 rfl) ?_
      refine w_callV (As := []) (rest := []) (st := [.int (f_X0_errorSize S i)]) cx (c_X0_errorSize l G ad S E hW (i := i) hi) k_363 cal_yX0_errorSize (ci := 0) rfl (hP _ _ (cX_T hi hW.t)) hP rfl ⟨Nat.le_of_ble_eq_true rfl, Nat.le_of_ble_eq_true rfl⟩ hl.1 (Nat.le_of_ble_eq_true rfl) ⟨Nat.zero_le _, Nat.zero_le _⟩ rfl rfl dX2_judgement_17 ?_
      refine lv_istore_n (lv' := [(2, .int (f_X0_errorSize S i)), (0, .ref (ad 0)), (1, .ref (ad (10 + 2 * i)))]) hx hb dX2_judgement_20 rfl hl (by decide) rfl (fun ls hl => ?_)
      refine lv_aload_n hx hb dX2_judgement_21 rfl (lv_at hl 2 rfl) ?_
      refine lv_aload_n hx hb dX2_judgement_22 rfl (lv_at hl 1 rfl) ?_
      refine w_get cx (ci := 2) rfl iX2 (hP _ _ (cX_lo 0 (by decide) rfl)) 9 (by decide) k_54 (v := .int (sc S 0)) rfl dX2_judgement_23 ?_
      refine w_callV (As := [.int (sc S 0)]) (rest := []) (st := [.int (f_X0_spanOn S i (sc S 0))]) cx (c_X0_spanOn l G ad S E hW (i := i) hi (sc S 0)) k_213 cal_yX0_spanOn (ci := 0) rfl (hP _ _ (cX_T hi hW.t)) hP rfl ⟨Nat.le_of_ble_eq_true rfl, Nat.le_of_ble_eq_true rfl⟩ hl.1 (Nat.le_of_ble_eq_true rfl) ⟨Nat.zero_le _, Nat.zero_le _⟩ rfl rfl dX2_judgement_26 ?_
      refine lv_istore_n (lv' := [(3, .int (f_X0_spanOn S i (sc S 0))), (2, .int (f_X0_errorSize S i)), (0, .ref (ad 0)), (1, .ref (ad (10 + 2 * i)))]) hx hb dX2_judgement_29 rfl hl (by decide) rfl (fun ls hl => ?_)
      refine lv_aload_n hx hb dX2_judgement_30 rfl (lv_at hl 2 rfl) ?_
      refine lv_aload_n hx hb dX2_judgement_31 rfl (lv_at hl 3 rfl) ?_
      refine w_callV (As := [.ref (ad (10 + 2 * i))]) (rest := []) (st := [.int (f_X2_allowanceFor S i)]) cx (c_X2_allowanceFor l G ad S E hW (i := i) hi) k_368 cal_yX2_allowanceFor (ci := 2) rfl (hP _ _ (cX_lo 0 (by decide) rfl)) hP rfl ⟨Nat.le_of_ble_eq_true rfl, Nat.le_of_ble_eq_true rfl⟩ hl.1 (Nat.le_of_ble_eq_true rfl) ⟨Nat.zero_le _, Nat.zero_le _⟩ rfl rfl dX2_judgement_32 ?_
      refine lv_istore (lv' := [(4, .int (f_X2_allowanceFor S i)), (3, .int (f_X0_spanOn S i (sc S 0))), (2, .int (f_X0_errorSize S i)), (0, .ref (ad 0)), (1, .ref (ad (10 + 2 * i)))]) hx hb dX2_judgement_35 hl (by decide) rfl (fun ls hl => ?_)
      refine lv_iload_n hx hb dX2_judgement_37 rfl (lv_at hl 2 rfl) ?_
      refine lv_iload_n hx hb dX2_judgement_38 rfl (lv_at hl 1 rfl) ?_
      refine lv_iadd hx hb dX2_judgement_39 ?_
      refine lv_iload hx hb dX2_judgement_40 (lv_at hl 0 rfl) ?_
      refine lv_icmp_gt (tgt := 47) hx hb dX2_judgement_42 (by decide) (fun c_3 => ?_) (fun c_3 => ?_)
      · refine lv_iload_n hx hb dX2_judgement_47 rfl (lv_at hl 2 rfl) ?_
        refine lv_iload_n hx hb dX2_judgement_48 rfl (lv_at hl 1 rfl) ?_
        refine lv_isub hx hb dX2_judgement_49 ?_
        refine lv_iload hx hb dX2_judgement_50 (lv_at hl 0 rfl) ?_
        refine lv_icmp_le (tgt := 59) hx hb dX2_judgement_52 (by decide) (fun c_4 => ?_) (fun c_4 => ?_)
        · refine lv_iconst (v := 2) hx hb dX2_judgement_59 (by decide) ?_
          exact r_int cx hr hlk (by rw [f_X2_judgement, if_neg c_1, if_neg c_2, if_pos c_3, if_pos c_4]) dX2_judgement_60
        · refine lv_iconst (v := 3) hx hb dX2_judgement_55 (by decide) ?_
          refine lv_goto (tgt := 60) hx hb dX2_judgement_56 (by decide) ?_
          exact r_int cx hr hlk (by rw [f_X2_judgement, if_neg c_1, if_neg c_2, if_pos c_3, if_neg c_4]) dX2_judgement_60
      · refine lv_iconst (v := 1) hx hb dX2_judgement_45 (by decide) ?_
        exact r_int cx hr hlk (by rw [f_X2_judgement, if_neg c_1, if_neg c_2, if_neg c_3]) dX2_judgement_46
    · refine lv_iconst (v := 0) hx hb dX2_judgement_14 (by decide) ?_
      exact r_int cx hr hlk (by rw [f_X2_judgement, if_neg c_1, if_pos c_2]) dX2_judgement_15
def f_X2_urgencyOf (S : St) (i : Nat)  : Int64 :=
  if ar S 5 i = -1000000 then 3298534883328
  else if f_X0_isSettledNow S i = 0 then 2199023255552 + ((((f_X0_errorSize S i) + (f_X0_spanOn S i (sc S 0))) - (f_X2_allowanceFor S i)).toInt64)
  else if f_X0_isDueOn S i (sc S 0) = 0 then (((f_X0_errorSize S i) + (f_X0_spanOn S i (sc S 0))) - (f_X2_allowanceFor S i)).toInt64
  else 1099511627776 + ((((f_X0_errorSize S i) + (f_X0_spanOn S i (sc S 0))) - (f_X2_allowanceFor S i)).toInt64)
set_option maxRecDepth 20000 in
theorem c_X2_urgencyOf (l : Launch) (G : GG) (ad : Nat → Nat) (S : St) (E : Ex) (hW : WF S) {i : Nat} (hi : i < nt S)  : MR l yX2_urgencyOf cX2_urgencyOf 3 (some .long) 3 65 G ad (cX G ad S E) [.ref (ad 0), .ref (ad (10 + 2 * i))] (some (.long (f_X2_urgencyOf S i))) := by
  refine MR.of [(0, .ref (ad 0)), (1, .ref (ad (10 + 2 * i)))] (by decide) (Nat.le_of_ble_eq_true rfl) rfl ?_
  intro p e s m args below meth c cx hr hlk hP ls hl
  have hx := cx.1.1
  have hb := cx.1.2.1
  refine lv_aload_n hx hb dX2_urgencyOf_0 rfl (lv_at hl 1 rfl) ?_
  by_cases c_1 : ar S 5 i = -1000000
  · refine w_get cx (ci := 0) rfl iX0 (hP _ _ (cX_T hi hW.t)) 9 (by decide) k_122 (v := .null) (congrArg some (rT_null c_1)) dX2_urgencyOf_1 ?_
    refine lv_ifnonnullN hx hb dX2_urgencyOf_4 ?_
    refine w_ldc2 cx k_426 dX2_urgencyOf_7 ?_
    exact r_long cx hr hlk (by rw [f_X2_urgencyOf, if_pos c_1]) dX2_urgencyOf_10
  · refine w_get cx (ci := 0) rfl iX0 (hP _ _ (cX_T hi hW.t)) 9 (by decide) k_122 (v := .ref (ad (100 + ix (ar S 5 i)))) (congrArg some (rT_ref c_1)) dX2_urgencyOf_1 ?_
    refine lv_ifnonnull (tgt := 11) hx hb dX2_urgencyOf_4 (by decide) ?_
    refine lv_aload_n hx hb dX2_urgencyOf_11 rfl (lv_at hl 1 rfl) ?_
    refine w_callV (As := []) (rest := []) (st := [.int (f_X0_errorSize S i)]) cx (c_X0_errorSize l G ad S E hW (i := i) hi) k_363 cal_yX0_errorSize (ci := 0) rfl (hP _ _ (cX_T hi hW.t)) hP rfl ⟨Nat.le_of_ble_eq_true rfl, Nat.le_of_ble_eq_true rfl⟩ hl.1 (Nat.le_of_ble_eq_true rfl) ⟨Nat.zero_le _, Nat.zero_le _⟩ rfl rfl dX2_urgencyOf_12 ?_
    refine lv_aload_n hx hb dX2_urgencyOf_15 rfl (lv_at hl 1 rfl) ?_
    refine lv_aload_n hx hb dX2_urgencyOf_16 rfl (lv_at hl 0 rfl) ?_
    refine w_get cx (ci := 2) rfl iX2 (hP _ _ (cX_lo 0 (by decide) rfl)) 9 (by decide) k_54 (v := .int (sc S 0)) rfl dX2_urgencyOf_17 ?_
    refine w_callV (As := [.int (sc S 0)]) (rest := [.int (f_X0_errorSize S i)]) (st := [.int (f_X0_spanOn S i (sc S 0)), .int (f_X0_errorSize S i)]) cx (c_X0_spanOn l G ad S E hW (i := i) hi (sc S 0)) k_213 cal_yX0_spanOn (ci := 0) rfl (hP _ _ (cX_T hi hW.t)) hP rfl ⟨Nat.le_of_ble_eq_true rfl, Nat.le_of_ble_eq_true rfl⟩ hl.1 (Nat.le_of_ble_eq_true rfl) ⟨Nat.zero_le _, Nat.zero_le _⟩ rfl rfl dX2_urgencyOf_20 ?_
    refine lv_iadd hx hb dX2_urgencyOf_23 ?_
    refine lv_aload_n hx hb dX2_urgencyOf_24 rfl (lv_at hl 0 rfl) ?_
    refine lv_aload_n hx hb dX2_urgencyOf_25 rfl (lv_at hl 1 rfl) ?_
    refine w_callV (As := [.ref (ad (10 + 2 * i))]) (rest := [.int ((f_X0_errorSize S i) + (f_X0_spanOn S i (sc S 0)))]) (st := [.int (f_X2_allowanceFor S i), .int ((f_X0_errorSize S i) + (f_X0_spanOn S i (sc S 0)))]) cx (c_X2_allowanceFor l G ad S E hW (i := i) hi) k_368 cal_yX2_allowanceFor (ci := 2) rfl (hP _ _ (cX_lo 0 (by decide) rfl)) hP rfl ⟨Nat.le_of_ble_eq_true rfl, Nat.le_of_ble_eq_true rfl⟩ hl.1 (Nat.le_of_ble_eq_true rfl) ⟨Nat.zero_le _, Nat.zero_le _⟩ rfl rfl dX2_urgencyOf_26 ?_
    refine lv_isub hx hb dX2_urgencyOf_29 ?_
    refine lv_istore_n (lv' := [(2, .int (((f_X0_errorSize S i) + (f_X0_spanOn S i (sc S 0))) - (f_X2_allowanceFor S i))), (0, .ref (ad 0)), (1, .ref (ad (10 + 2 * i)))]) hx hb dX2_urgencyOf_30 rfl hl (by decide) rfl (fun ls hl => ?_)
    refine lv_aload_n hx hb dX2_urgencyOf_31 rfl (lv_at hl 2 rfl) ?_
    refine w_callV (As := []) (rest := []) (st := [.int (f_X0_isSettledNow S i)]) cx (c_X0_isSettledNow l G ad S E hW (i := i) hi) k_336 cal_yX0_isSettledNow (ci := 0) rfl (hP _ _ (cX_T hi hW.t)) hP rfl ⟨Nat.le_of_ble_eq_true rfl, Nat.le_of_ble_eq_true rfl⟩ hl.1 (Nat.le_of_ble_eq_true rfl) ⟨Nat.zero_le _, Nat.zero_le _⟩ rfl rfl dX2_urgencyOf_32 ?_
    refine lv_if_ne (tgt := 45) hx hb dX2_urgencyOf_35 (by decide) (fun c_2 => ?_) (fun c_2 => ?_)
    · refine lv_aload_n hx hb dX2_urgencyOf_45 rfl (lv_at hl 2 rfl) ?_
      refine lv_aload_n hx hb dX2_urgencyOf_46 rfl (lv_at hl 1 rfl) ?_
      refine w_get cx (ci := 2) rfl iX2 (hP _ _ (cX_lo 0 (by decide) rfl)) 9 (by decide) k_54 (v := .int (sc S 0)) rfl dX2_urgencyOf_47 ?_
      refine w_callV (As := [.int (sc S 0)]) (rest := []) (st := [.int (f_X0_isDueOn S i (sc S 0))]) cx (c_X0_isDueOn l G ad S E hW (i := i) hi (sc S 0)) k_341 cal_yX0_isDueOn (ci := 0) rfl (hP _ _ (cX_T hi hW.t)) hP rfl ⟨Nat.le_of_ble_eq_true rfl, Nat.le_of_ble_eq_true rfl⟩ hl.1 (Nat.le_of_ble_eq_true rfl) ⟨Nat.zero_le _, Nat.zero_le _⟩ rfl rfl dX2_urgencyOf_50 ?_
      refine lv_if_eq (tgt := 65) hx hb dX2_urgencyOf_53 (by decide) (fun c_3 => ?_) (fun c_3 => ?_)
      · refine lv_iload_n hx hb dX2_urgencyOf_65 rfl (lv_at hl 0 rfl) ?_
        refine lv_i2l hx hb dX2_urgencyOf_66 rfl ?_
        exact r_long cx hr hlk (by rw [f_X2_urgencyOf, if_neg c_1, if_neg c_2, if_pos c_3]) dX2_urgencyOf_67
      · refine w_ldc2 cx k_428 dX2_urgencyOf_56 ?_
        refine lv_iload_n hx hb dX2_urgencyOf_59 rfl (lv_at hl 0 rfl) ?_
        refine lv_i2l hx hb dX2_urgencyOf_60 rfl ?_
        refine lv_ladd hx hb dX2_urgencyOf_61 ?_
        refine lv_goto (tgt := 67) hx hb dX2_urgencyOf_62 (by decide) ?_
        exact r_long cx hr hlk (by rw [f_X2_urgencyOf, if_neg c_1, if_neg c_2, if_neg c_3]) dX2_urgencyOf_67
    · refine w_ldc2 cx k_427 dX2_urgencyOf_38 ?_
      refine lv_iload_n hx hb dX2_urgencyOf_41 rfl (lv_at hl 0 rfl) ?_
      refine lv_i2l hx hb dX2_urgencyOf_42 rfl ?_
      refine lv_ladd hx hb dX2_urgencyOf_43 ?_
      exact r_long cx hr hlk (by rw [f_X2_urgencyOf, if_neg c_1, if_pos c_2]) dX2_urgencyOf_44
set_option maxRecDepth 20000 in
theorem c_X2_about_out (l : Launch) (G : GG) (ad : Nat → Nat) (S : St) (E : Ex) (hW : WF S) {n : Int32} (hn : nT S n) (x : Int32) : MR l yX2_about cX2_about 4 (some .int) 2 43 G ad (cX G ad S E) [.ref (ad 0), .int n, .int x] (some (.int (-1))) := by
  refine MR.of [(0, .ref (ad 0)), (1, .int n), (2, .int x)] (by decide) (Nat.le_of_ble_eq_true rfl) rfl ?_
  intro p e s m args below meth c cx hr hlk hP ls hl
  have hx := cx.1.1
  have hb := cx.1.2.1
  refine lv_aload_n hx hb dX2_about_0 rfl (lv_at hl 0 rfl) ?_
  refine lv_iload_n hx hb dX2_about_1 rfl (lv_at hl 1 rfl) ?_
  refine w_callV (As := [.int n]) (rest := []) (st := [.null]) cx (c_X2_thingAt_out l G ad S E hW hn) k_149 cal_yX2_thingAt (ci := 2) rfl (hP _ _ (cX_lo 0 (by decide) rfl)) hP rfl ⟨Nat.le_of_ble_eq_true rfl, Nat.le_of_ble_eq_true rfl⟩ hl.1 (Nat.le_of_ble_eq_true rfl) ⟨Nat.zero_le _, Nat.zero_le _⟩ rfl rfl dX2_about_2 ?_
  refine lv_astore_nN (lv' := [(3, .null), (0, .ref (ad 0)), (1, .int n), (2, .int x)]) hx hb dX2_about_5 rfl hl (by decide) rfl (fun ls hl => ?_)
  refine lv_aload_nN hx hb dX2_about_6 rfl (lv_at hl 0 rfl) ?_
  refine lv_ifnonnullN hx hb dX2_about_7 ?_
  refine lv_iconst (v := -1) hx hb dX2_about_10 (by decide) ?_
  exact r_int cx hr hlk rfl dX2_about_11
def f_X2_about (S : St) (i : Nat) (x : Int32) : Int32 :=
  if x = 0 then ar S 0 i
  else if x = 1 then ar S 1 i
  else if x = 2 then ar S 2 i
  else if x = 3 then ar S 3 i
  else if x = 4 then ar S 4 i
  else if x = 5 then (if ar S 5 i = -1000000 then (-1000000)
    else nI (ix (ar S 5 i)))
  else if x = 6 then ar S 6 i
  else if x = 7 then ar S 7 i
  else (-2)
set_option maxRecDepth 20000 in
theorem c_X2_about (l : Launch) (G : GG) (ad : Nat → Nat) (S : St) (E : Ex) (hW : WF S) {i : Nat} (hi : i < nt S) (x : Int32) : MR l yX2_about cX2_about 4 (some .int) 2 43 G ad (cX G ad S E) [.ref (ad 0), .int (nI i), .int x] (some (.int (f_X2_about S i x))) := by
  refine MR.of [(0, .ref (ad 0)), (1, .int (nI i)), (2, .int x)] (by decide) (Nat.le_of_ble_eq_true rfl) rfl ?_
  intro p e s m args below meth c cx hr hlk hP ls hl
  have hx := cx.1.1
  have hb := cx.1.2.1
  refine lv_aload_n hx hb dX2_about_0 rfl (lv_at hl 0 rfl) ?_
  refine lv_iload_n hx hb dX2_about_1 rfl (lv_at hl 1 rfl) ?_
  refine w_callV (As := [.int (nI i)]) (rest := []) (st := [.ref (ad (10 + 2 * i))]) cx (c_X2_thingAt_in l G ad S E hW hi) k_149 cal_yX2_thingAt (ci := 2) rfl (hP _ _ (cX_lo 0 (by decide) rfl)) hP rfl ⟨Nat.le_of_ble_eq_true rfl, Nat.le_of_ble_eq_true rfl⟩ hl.1 (Nat.le_of_ble_eq_true rfl) ⟨Nat.zero_le _, Nat.zero_le _⟩ rfl rfl dX2_about_2 ?_
  refine lv_astore_n (lv' := [(3, .ref (ad (10 + 2 * i))), (0, .ref (ad 0)), (1, .int (nI i)), (2, .int x)]) hx hb dX2_about_5 rfl hl (by decide) rfl (fun ls hl => ?_)
  refine lv_aload_n hx hb dX2_about_6 rfl (lv_at hl 0 rfl) ?_
  refine lv_ifnonnull (tgt := 12) hx hb dX2_about_7 (by decide) ?_
  refine lv_iload_n hx hb dX2_about_12 rfl (lv_at hl 3 rfl) ?_
  by_cases c_1 : x = 0
  · refine lv_tableIn (off := 47) (tgt := 60) hx hb dX2_about_13 (by rw [c_1]; decide) (by rw [c_1]; decide) (by rw [c_1]; decide) (by decide) ?_
    refine lv_aload_n hx hb dX2_about_60 rfl (lv_at hl 0 rfl) ?_
    refine w_get cx (ci := 0) rfl iX0 (hP _ _ (cX_T hi hW.t)) 0 (by decide) k_108 (v := .int (ar S 0 i)) rfl dX2_about_61 ?_
    exact r_int cx hr hlk (by rw [f_X2_about, if_pos c_1]) dX2_about_64
  · by_cases c_2 : x = 1
    · refine lv_tableIn (off := 52) (tgt := 65) hx hb dX2_about_13 (by rw [c_2]; decide) (by rw [c_2]; decide) (by rw [c_2]; decide) (by decide) ?_
      refine lv_aload_n hx hb dX2_about_65 rfl (lv_at hl 0 rfl) ?_
      refine w_get cx (ci := 0) rfl iX0 (hP _ _ (cX_T hi hW.t)) 1 (by decide) k_110 (v := .int (ar S 1 i)) rfl dX2_about_66 ?_
      exact r_int cx hr hlk (by rw [f_X2_about, if_neg c_1, if_pos c_2]) dX2_about_69
    · by_cases c_3 : x = 2
      · refine lv_tableIn (off := 57) (tgt := 70) hx hb dX2_about_13 (by rw [c_3]; decide) (by rw [c_3]; decide) (by rw [c_3]; decide) (by decide) ?_
        refine lv_aload_n hx hb dX2_about_70 rfl (lv_at hl 0 rfl) ?_
        refine w_get cx (ci := 0) rfl iX0 (hP _ _ (cX_T hi hW.t)) 2 (by decide) k_112 (v := .int (ar S 2 i)) rfl dX2_about_71 ?_
        exact r_int cx hr hlk (by rw [f_X2_about, if_neg c_1, if_neg c_2, if_pos c_3]) dX2_about_74
      · by_cases c_4 : x = 3
        · refine lv_tableIn (off := 62) (tgt := 75) hx hb dX2_about_13 (by rw [c_4]; decide) (by rw [c_4]; decide) (by rw [c_4]; decide) (by decide) ?_
          refine lv_aload_n hx hb dX2_about_75 rfl (lv_at hl 0 rfl) ?_
          refine w_get cx (ci := 0) rfl iX0 (hP _ _ (cX_T hi hW.t)) 4 (by decide) k_115 (v := .int (ar S 3 i)) rfl dX2_about_76 ?_
          exact r_int cx hr hlk (by rw [f_X2_about, if_neg c_1, if_neg c_2, if_neg c_3, if_pos c_4]) dX2_about_79
        · by_cases c_5 : x = 4
          · refine lv_tableIn (off := 67) (tgt := 80) hx hb dX2_about_13 (by rw [c_5]; decide) (by rw [c_5]; decide) (by rw [c_5]; decide) (by decide) ?_
            refine lv_aload_n hx hb dX2_about_80 rfl (lv_at hl 0 rfl) ?_
            refine w_get cx (ci := 0) rfl iX0 (hP _ _ (cX_T hi hW.t)) 6 (by decide) k_117 (v := .int (ar S 4 i)) rfl dX2_about_81 ?_
            exact r_int cx hr hlk (by rw [f_X2_about, if_neg c_1, if_neg c_2, if_neg c_3, if_neg c_4, if_pos c_5]) dX2_about_84
          · by_cases c_6 : x = 5
            · refine lv_tableIn (off := 72) (tgt := 85) hx hb dX2_about_13 (by rw [c_6]; decide) (by rw [c_6]; decide) (by rw [c_6]; decide) (by decide) ?_
              refine lv_aload_n hx hb dX2_about_85 rfl (lv_at hl 0 rfl) ?_
              by_cases c_7 : ar S 5 i = -1000000
              · refine w_get cx (ci := 0) rfl iX0 (hP _ _ (cX_T hi hW.t)) 9 (by decide) k_122 (v := .null) (congrArg some (rT_null c_7)) dX2_about_86 ?_
                refine w_callS (As := [.null]) (rest := []) (st := [.int ((-1000000))]) cx (c_X2_numberOf_n l G ad S E hW) k_153 cal_yX2_numberOf hP rfl ⟨Nat.le_of_ble_eq_true rfl, Nat.le_of_ble_eq_true rfl⟩ hl.1 (Nat.le_of_ble_eq_true rfl) ⟨Nat.zero_le _, Nat.zero_le _⟩ rfl rfl dX2_about_89 ?_
                exact r_int cx hr hlk (by rw [f_X2_about, if_neg c_1, if_neg c_2, if_neg c_3, if_neg c_4, if_neg c_5, if_pos c_6, if_pos c_7]) dX2_about_92
              · refine w_get cx (ci := 0) rfl iX0 (hP _ _ (cX_T hi hW.t)) 9 (by decide) k_122 (v := .ref (ad (100 + ix (ar S 5 i)))) (congrArg some (rT_ref c_7)) dX2_about_86 ?_
                refine w_callS (As := [.ref (ad (100 + ix (ar S 5 i)))]) (rest := []) (st := [.int (nI (ix (ar S 5 i)))]) cx (c_X2_numberOf_r l G ad S E hW (n := ix (ar S 5 i)) (hW.la hi c_7).2) k_153 cal_yX2_numberOf hP rfl ⟨Nat.le_of_ble_eq_true rfl, Nat.le_of_ble_eq_true rfl⟩ hl.1 (Nat.le_of_ble_eq_true rfl) ⟨Nat.zero_le _, Nat.zero_le _⟩ rfl rfl dX2_about_89 ?_
                exact r_int cx hr hlk (by rw [f_X2_about, if_neg c_1, if_neg c_2, if_neg c_3, if_neg c_4, if_neg c_5, if_pos c_6, if_neg c_7]) dX2_about_92
            · by_cases c_8 : x = 6
              · refine lv_tableIn (off := 80) (tgt := 93) hx hb dX2_about_13 (by rw [c_8]; decide) (by rw [c_8]; decide) (by rw [c_8]; decide) (by decide) ?_
                refine lv_aload_n hx hb dX2_about_93 rfl (lv_at hl 0 rfl) ?_
                refine w_get cx (ci := 0) rfl iX0 (hP _ _ (cX_T hi hW.t)) 8 (by decide) k_121 (v := .int (ar S 6 i)) rfl dX2_about_94 ?_
                exact r_int cx hr hlk (by rw [f_X2_about, if_neg c_1, if_neg c_2, if_neg c_3, if_neg c_4, if_neg c_5, if_neg c_6, if_pos c_8]) dX2_about_97
              · by_cases c_9 : x = 7
                · refine lv_tableIn (off := 85) (tgt := 98) hx hb dX2_about_13 (by rw [c_9]; decide) (by rw [c_9]; decide) (by rw [c_9]; decide) (by decide) ?_
                  refine lv_aload_n hx hb dX2_about_98 rfl (lv_at hl 0 rfl) ?_
                  refine w_get cx (ci := 0) rfl iX0 (hP _ _ (cX_T hi hW.t)) 7 (by decide) k_119 (v := .int (ar S 7 i)) rfl dX2_about_99 ?_
                  exact r_int cx hr hlk (by rw [f_X2_about, if_neg c_1, if_neg c_2, if_neg c_3, if_neg c_4, if_neg c_5, if_neg c_6, if_neg c_8, if_pos c_9]) dX2_about_102
                · refine lv_tableOut (tgt := 103) hx hb dX2_about_13 (tab_out8 c_1 c_2 c_3 c_4 c_5 c_6 c_8 c_9) (by decide) ?_
                  refine lv_bipush (v := -2) hx hb dX2_about_103 (by decide) ?_
                  exact r_int cx hr hlk (by rw [f_X2_about, if_neg c_1, if_neg c_2, if_neg c_3, if_neg c_4, if_neg c_5, if_neg c_6, if_neg c_8, if_neg c_9]) dX2_about_105
set_option maxRecDepth 20000 in
theorem c_X2_error_out (l : Launch) (G : GG) (ad : Nat → Nat) (S : St) (E : Ex) (hW : WF S) {n : Int32} (hn : nT S n)  : MR l yX2_error cX2_error 3 (some .int) 2 43 G ad (cX G ad S E) [.ref (ad 0), .int n] (some (.int (-1))) := by
  refine MR.of [(0, .ref (ad 0)), (1, .int n)] (by decide) (Nat.le_of_ble_eq_true rfl) rfl ?_
  intro p e s m args below meth c cx hr hlk hP ls hl
  have hx := cx.1.1
  have hb := cx.1.2.1
  refine lv_aload_n hx hb dX2_error_0 rfl (lv_at hl 0 rfl) ?_
  refine lv_iload_n hx hb dX2_error_1 rfl (lv_at hl 1 rfl) ?_
  refine w_callV (As := [.int n]) (rest := []) (st := [.null]) cx (c_X2_thingAt_out l G ad S E hW hn) k_149 cal_yX2_thingAt (ci := 2) rfl (hP _ _ (cX_lo 0 (by decide) rfl)) hP rfl ⟨Nat.le_of_ble_eq_true rfl, Nat.le_of_ble_eq_true rfl⟩ hl.1 (Nat.le_of_ble_eq_true rfl) ⟨Nat.zero_le _, Nat.zero_le _⟩ rfl rfl dX2_error_2 ?_
  refine lv_astore_nN (lv' := [(2, .null), (0, .ref (ad 0)), (1, .int n)]) hx hb dX2_error_5 rfl hl (by decide) rfl (fun ls hl => ?_)
  refine lv_aload_nN hx hb dX2_error_6 rfl (lv_at hl 0 rfl) ?_
  refine lv_ifnonnullN hx hb dX2_error_7 ?_
  refine lv_iconst (v := -1) hx hb dX2_error_10 (by decide) ?_
  exact r_int cx hr hlk rfl dX2_error_11
def f_X2_error (S : St) (i : Nat)  : Int32 :=
  if f_X0_isMeasured S i = 0 then (-1000000)
  else f_X0_errorHeld S i
set_option maxRecDepth 20000 in
theorem c_X2_error (l : Launch) (G : GG) (ad : Nat → Nat) (S : St) (E : Ex) (hW : WF S) {i : Nat} (hi : i < nt S)  : MR l yX2_error cX2_error 3 (some .int) 2 43 G ad (cX G ad S E) [.ref (ad 0), .int (nI i)] (some (.int (f_X2_error S i))) := by
  refine MR.of [(0, .ref (ad 0)), (1, .int (nI i))] (by decide) (Nat.le_of_ble_eq_true rfl) rfl ?_
  intro p e s m args below meth c cx hr hlk hP ls hl
  have hx := cx.1.1
  have hb := cx.1.2.1
  refine lv_aload_n hx hb dX2_error_0 rfl (lv_at hl 0 rfl) ?_
  refine lv_iload_n hx hb dX2_error_1 rfl (lv_at hl 1 rfl) ?_
  refine w_callV (As := [.int (nI i)]) (rest := []) (st := [.ref (ad (10 + 2 * i))]) cx (c_X2_thingAt_in l G ad S E hW hi) k_149 cal_yX2_thingAt (ci := 2) rfl (hP _ _ (cX_lo 0 (by decide) rfl)) hP rfl ⟨Nat.le_of_ble_eq_true rfl, Nat.le_of_ble_eq_true rfl⟩ hl.1 (Nat.le_of_ble_eq_true rfl) ⟨Nat.zero_le _, Nat.zero_le _⟩ rfl rfl dX2_error_2 ?_
  refine lv_astore_n (lv' := [(2, .ref (ad (10 + 2 * i))), (0, .ref (ad 0)), (1, .int (nI i))]) hx hb dX2_error_5 rfl hl (by decide) rfl (fun ls hl => ?_)
  refine lv_aload_n hx hb dX2_error_6 rfl (lv_at hl 0 rfl) ?_
  refine lv_ifnonnull (tgt := 12) hx hb dX2_error_7 (by decide) ?_
  refine lv_aload_n hx hb dX2_error_12 rfl (lv_at hl 0 rfl) ?_
  refine w_callV (As := []) (rest := []) (st := [.int (f_X0_isMeasured S i)]) cx (c_X0_isMeasured l G ad S E hW (i := i) hi) k_324 cal_yX0_isMeasured (ci := 0) rfl (hP _ _ (cX_T hi hW.t)) hP rfl ⟨Nat.le_of_ble_eq_true rfl, Nat.le_of_ble_eq_true rfl⟩ hl.1 (Nat.le_of_ble_eq_true rfl) ⟨Nat.zero_le _, Nat.zero_le _⟩ rfl rfl dX2_error_13 ?_
  refine lv_if_eq (tgt := 26) hx hb dX2_error_16 (by decide) (fun c_1 => ?_) (fun c_1 => ?_)
  · refine w_ldc cx k_156 dX2_error_26 ?_
    exact r_int cx hr hlk (by rw [f_X2_error, if_pos c_1]) dX2_error_28
  · refine lv_aload_n hx hb dX2_error_19 rfl (lv_at hl 0 rfl) ?_
    refine w_callV (As := []) (rest := []) (st := [.int (f_X0_errorHeld S i)]) cx (c_X0_errorHeld l G ad S E hW (i := i) hi) k_236 cal_yX0_errorHeld (ci := 0) rfl (hP _ _ (cX_T hi hW.t)) hP rfl ⟨Nat.le_of_ble_eq_true rfl, Nat.le_of_ble_eq_true rfl⟩ hl.1 (Nat.le_of_ble_eq_true rfl) ⟨Nat.zero_le _, Nat.zero_le _⟩ rfl rfl dX2_error_20 ?_
    refine lv_goto (tgt := 28) hx hb dX2_error_23 (by decide) ?_
    exact r_int cx hr hlk (by rw [f_X2_error, if_neg c_1]) dX2_error_28
set_option maxRecDepth 20000 in
theorem c_X2_span_out (l : Launch) (G : GG) (ad : Nat → Nat) (S : St) (E : Ex) (hW : WF S) {n : Int32} (hn : nT S n)  : MR l yX2_span cX2_span 3 (some .int) 2 43 G ad (cX G ad S E) [.ref (ad 0), .int n] (some (.int (-1))) := by
  refine MR.of [(0, .ref (ad 0)), (1, .int n)] (by decide) (Nat.le_of_ble_eq_true rfl) rfl ?_
  intro p e s m args below meth c cx hr hlk hP ls hl
  have hx := cx.1.1
  have hb := cx.1.2.1
  refine lv_aload_n hx hb dX2_span_0 rfl (lv_at hl 0 rfl) ?_
  refine lv_iload_n hx hb dX2_span_1 rfl (lv_at hl 1 rfl) ?_
  refine w_callV (As := [.int n]) (rest := []) (st := [.null]) cx (c_X2_thingAt_out l G ad S E hW hn) k_149 cal_yX2_thingAt (ci := 2) rfl (hP _ _ (cX_lo 0 (by decide) rfl)) hP rfl ⟨Nat.le_of_ble_eq_true rfl, Nat.le_of_ble_eq_true rfl⟩ hl.1 (Nat.le_of_ble_eq_true rfl) ⟨Nat.zero_le _, Nat.zero_le _⟩ rfl rfl dX2_span_2 ?_
  refine lv_astore_nN (lv' := [(2, .null), (0, .ref (ad 0)), (1, .int n)]) hx hb dX2_span_5 rfl hl (by decide) rfl (fun ls hl => ?_)
  refine lv_aload_nN hx hb dX2_span_6 rfl (lv_at hl 0 rfl) ?_
  refine lv_ifnonnullN hx hb dX2_span_7 ?_
  refine lv_iconst (v := -1) hx hb dX2_span_10 (by decide) ?_
  exact r_int cx hr hlk rfl dX2_span_11
def f_X2_span (S : St) (i : Nat)  : Int32 :=
  if f_X0_isMeasured S i = 0 then (-1000000)
  else f_X0_spanOn S i (sc S 0)
set_option maxRecDepth 20000 in
theorem c_X2_span (l : Launch) (G : GG) (ad : Nat → Nat) (S : St) (E : Ex) (hW : WF S) {i : Nat} (hi : i < nt S)  : MR l yX2_span cX2_span 3 (some .int) 2 43 G ad (cX G ad S E) [.ref (ad 0), .int (nI i)] (some (.int (f_X2_span S i))) := by
  refine MR.of [(0, .ref (ad 0)), (1, .int (nI i))] (by decide) (Nat.le_of_ble_eq_true rfl) rfl ?_
  intro p e s m args below meth c cx hr hlk hP ls hl
  have hx := cx.1.1
  have hb := cx.1.2.1
  refine lv_aload_n hx hb dX2_span_0 rfl (lv_at hl 0 rfl) ?_
  refine lv_iload_n hx hb dX2_span_1 rfl (lv_at hl 1 rfl) ?_
  refine w_callV (As := [.int (nI i)]) (rest := []) (st := [.ref (ad (10 + 2 * i))]) cx (c_X2_thingAt_in l G ad S E hW hi) k_149 cal_yX2_thingAt (ci := 2) rfl (hP _ _ (cX_lo 0 (by decide) rfl)) hP rfl ⟨Nat.le_of_ble_eq_true rfl, Nat.le_of_ble_eq_true rfl⟩ hl.1 (Nat.le_of_ble_eq_true rfl) ⟨Nat.zero_le _, Nat.zero_le _⟩ rfl rfl dX2_span_2 ?_
  refine lv_astore_n (lv' := [(2, .ref (ad (10 + 2 * i))), (0, .ref (ad 0)), (1, .int (nI i))]) hx hb dX2_span_5 rfl hl (by decide) rfl (fun ls hl => ?_)
  refine lv_aload_n hx hb dX2_span_6 rfl (lv_at hl 0 rfl) ?_
  refine lv_ifnonnull (tgt := 12) hx hb dX2_span_7 (by decide) ?_
  refine lv_aload_n hx hb dX2_span_12 rfl (lv_at hl 0 rfl) ?_
  refine w_callV (As := []) (rest := []) (st := [.int (f_X0_isMeasured S i)]) cx (c_X0_isMeasured l G ad S E hW (i := i) hi) k_324 cal_yX0_isMeasured (ci := 0) rfl (hP _ _ (cX_T hi hW.t)) hP rfl ⟨Nat.le_of_ble_eq_true rfl, Nat.le_of_ble_eq_true rfl⟩ hl.1 (Nat.le_of_ble_eq_true rfl) ⟨Nat.zero_le _, Nat.zero_le _⟩ rfl rfl dX2_span_13 ?_
  refine lv_if_eq (tgt := 30) hx hb dX2_span_16 (by decide) (fun c_1 => ?_) (fun c_1 => ?_)
  · refine w_ldc cx k_156 dX2_span_30 ?_
    exact r_int cx hr hlk (by rw [f_X2_span, if_pos c_1]) dX2_span_32
  · refine lv_aload_n hx hb dX2_span_19 rfl (lv_at hl 0 rfl) ?_
    refine lv_aload_n hx hb dX2_span_20 rfl (lv_at hl 1 rfl) ?_
    refine w_get cx (ci := 2) rfl iX2 (hP _ _ (cX_lo 0 (by decide) rfl)) 9 (by decide) k_54 (v := .int (sc S 0)) rfl dX2_span_21 ?_
    refine w_callV (As := [.int (sc S 0)]) (rest := []) (st := [.int (f_X0_spanOn S i (sc S 0))]) cx (c_X0_spanOn l G ad S E hW (i := i) hi (sc S 0)) k_213 cal_yX0_spanOn (ci := 0) rfl (hP _ _ (cX_T hi hW.t)) hP rfl ⟨Nat.le_of_ble_eq_true rfl, Nat.le_of_ble_eq_true rfl⟩ hl.1 (Nat.le_of_ble_eq_true rfl) ⟨Nat.zero_le _, Nat.zero_le _⟩ rfl rfl dX2_span_24 ?_
    refine lv_goto (tgt := 32) hx hb dX2_span_27 (by decide) ?_
    exact r_int cx hr hlk (by rw [f_X2_span, if_neg c_1]) dX2_span_32
set_option maxRecDepth 20000 in
theorem c_X2_settled_out (l : Launch) (G : GG) (ad : Nat → Nat) (S : St) (E : Ex) (hW : WF S) {n : Int32} (hn : nT S n)  : MR l yX2_settled cX2_settled 3 (some .int) 2 43 G ad (cX G ad S E) [.ref (ad 0), .int n] (some (.int (-1))) := by
  refine MR.of [(0, .ref (ad 0)), (1, .int n)] (by decide) (Nat.le_of_ble_eq_true rfl) rfl ?_
  intro p e s m args below meth c cx hr hlk hP ls hl
  have hx := cx.1.1
  have hb := cx.1.2.1
  refine lv_aload_n hx hb dX2_settled_0 rfl (lv_at hl 0 rfl) ?_
  refine lv_iload_n hx hb dX2_settled_1 rfl (lv_at hl 1 rfl) ?_
  refine w_callV (As := [.int n]) (rest := []) (st := [.null]) cx (c_X2_thingAt_out l G ad S E hW hn) k_149 cal_yX2_thingAt (ci := 2) rfl (hP _ _ (cX_lo 0 (by decide) rfl)) hP rfl ⟨Nat.le_of_ble_eq_true rfl, Nat.le_of_ble_eq_true rfl⟩ hl.1 (Nat.le_of_ble_eq_true rfl) ⟨Nat.zero_le _, Nat.zero_le _⟩ rfl rfl dX2_settled_2 ?_
  refine lv_astore_nN (lv' := [(2, .null), (0, .ref (ad 0)), (1, .int n)]) hx hb dX2_settled_5 rfl hl (by decide) rfl (fun ls hl => ?_)
  refine lv_aload_nN hx hb dX2_settled_6 rfl (lv_at hl 0 rfl) ?_
  refine lv_ifnonnullN hx hb dX2_settled_7 ?_
  refine lv_iconst (v := -1) hx hb dX2_settled_10 (by decide) ?_
  exact r_int cx hr hlk rfl dX2_settled_11
def f_X2_settled (S : St) (i : Nat)  : Int32 :=
  if f_X0_isSettledNow S i = 0 then 0
  else 1
set_option maxRecDepth 20000 in
theorem c_X2_settled (l : Launch) (G : GG) (ad : Nat → Nat) (S : St) (E : Ex) (hW : WF S) {i : Nat} (hi : i < nt S)  : MR l yX2_settled cX2_settled 3 (some .int) 2 43 G ad (cX G ad S E) [.ref (ad 0), .int (nI i)] (some (.int (f_X2_settled S i))) := by
  refine MR.of [(0, .ref (ad 0)), (1, .int (nI i))] (by decide) (Nat.le_of_ble_eq_true rfl) rfl ?_
  intro p e s m args below meth c cx hr hlk hP ls hl
  have hx := cx.1.1
  have hb := cx.1.2.1
  refine lv_aload_n hx hb dX2_settled_0 rfl (lv_at hl 0 rfl) ?_
  refine lv_iload_n hx hb dX2_settled_1 rfl (lv_at hl 1 rfl) ?_
  refine w_callV (As := [.int (nI i)]) (rest := []) (st := [.ref (ad (10 + 2 * i))]) cx (c_X2_thingAt_in l G ad S E hW hi) k_149 cal_yX2_thingAt (ci := 2) rfl (hP _ _ (cX_lo 0 (by decide) rfl)) hP rfl ⟨Nat.le_of_ble_eq_true rfl, Nat.le_of_ble_eq_true rfl⟩ hl.1 (Nat.le_of_ble_eq_true rfl) ⟨Nat.zero_le _, Nat.zero_le _⟩ rfl rfl dX2_settled_2 ?_
  refine lv_astore_n (lv' := [(2, .ref (ad (10 + 2 * i))), (0, .ref (ad 0)), (1, .int (nI i))]) hx hb dX2_settled_5 rfl hl (by decide) rfl (fun ls hl => ?_)
  refine lv_aload_n hx hb dX2_settled_6 rfl (lv_at hl 0 rfl) ?_
  refine lv_ifnonnull (tgt := 12) hx hb dX2_settled_7 (by decide) ?_
  refine lv_aload_n hx hb dX2_settled_12 rfl (lv_at hl 0 rfl) ?_
  refine w_callV (As := []) (rest := []) (st := [.int (f_X0_isSettledNow S i)]) cx (c_X0_isSettledNow l G ad S E hW (i := i) hi) k_336 cal_yX0_isSettledNow (ci := 0) rfl (hP _ _ (cX_T hi hW.t)) hP rfl ⟨Nat.le_of_ble_eq_true rfl, Nat.le_of_ble_eq_true rfl⟩ hl.1 (Nat.le_of_ble_eq_true rfl) ⟨Nat.zero_le _, Nat.zero_le _⟩ rfl rfl dX2_settled_13 ?_
  refine lv_if_eq (tgt := 23) hx hb dX2_settled_16 (by decide) (fun c_1 => ?_) (fun c_1 => ?_)
  · refine lv_iconst (v := 0) hx hb dX2_settled_23 (by decide) ?_
    exact r_int cx hr hlk (by rw [f_X2_settled, if_pos c_1]) dX2_settled_24
  · refine lv_iconst (v := 1) hx hb dX2_settled_19 (by decide) ?_
    refine lv_goto (tgt := 24) hx hb dX2_settled_20 (by decide) ?_
    exact r_int cx hr hlk (by rw [f_X2_settled, if_neg c_1]) dX2_settled_24
set_option maxRecDepth 20000 in
theorem c_X2_due_out (l : Launch) (G : GG) (ad : Nat → Nat) (S : St) (E : Ex) (hW : WF S) {n : Int32} (hn : nT S n)  : MR l yX2_due cX2_due 3 (some .int) 2 43 G ad (cX G ad S E) [.ref (ad 0), .int n] (some (.int (-1))) := by
  refine MR.of [(0, .ref (ad 0)), (1, .int n)] (by decide) (Nat.le_of_ble_eq_true rfl) rfl ?_
  intro p e s m args below meth c cx hr hlk hP ls hl
  have hx := cx.1.1
  have hb := cx.1.2.1
  refine lv_aload_n hx hb dX2_due_0 rfl (lv_at hl 0 rfl) ?_
  refine lv_iload_n hx hb dX2_due_1 rfl (lv_at hl 1 rfl) ?_
  refine w_callV (As := [.int n]) (rest := []) (st := [.null]) cx (c_X2_thingAt_out l G ad S E hW hn) k_149 cal_yX2_thingAt (ci := 2) rfl (hP _ _ (cX_lo 0 (by decide) rfl)) hP rfl ⟨Nat.le_of_ble_eq_true rfl, Nat.le_of_ble_eq_true rfl⟩ hl.1 (Nat.le_of_ble_eq_true rfl) ⟨Nat.zero_le _, Nat.zero_le _⟩ rfl rfl dX2_due_2 ?_
  refine lv_astore_nN (lv' := [(2, .null), (0, .ref (ad 0)), (1, .int n)]) hx hb dX2_due_5 rfl hl (by decide) rfl (fun ls hl => ?_)
  refine lv_aload_nN hx hb dX2_due_6 rfl (lv_at hl 0 rfl) ?_
  refine lv_ifnonnullN hx hb dX2_due_7 ?_
  refine lv_iconst (v := -1) hx hb dX2_due_10 (by decide) ?_
  exact r_int cx hr hlk rfl dX2_due_11
def f_X2_due (S : St) (i : Nat)  : Int32 :=
  if f_X0_isDueOn S i (sc S 0) = 0 then 0
  else 1
set_option maxRecDepth 20000 in
theorem c_X2_due (l : Launch) (G : GG) (ad : Nat → Nat) (S : St) (E : Ex) (hW : WF S) {i : Nat} (hi : i < nt S)  : MR l yX2_due cX2_due 3 (some .int) 3 65 G ad (cX G ad S E) [.ref (ad 0), .int (nI i)] (some (.int (f_X2_due S i))) := by
  refine MR.of [(0, .ref (ad 0)), (1, .int (nI i))] (by decide) (Nat.le_of_ble_eq_true rfl) rfl ?_
  intro p e s m args below meth c cx hr hlk hP ls hl
  have hx := cx.1.1
  have hb := cx.1.2.1
  refine lv_aload_n hx hb dX2_due_0 rfl (lv_at hl 0 rfl) ?_
  refine lv_iload_n hx hb dX2_due_1 rfl (lv_at hl 1 rfl) ?_
  refine w_callV (As := [.int (nI i)]) (rest := []) (st := [.ref (ad (10 + 2 * i))]) cx (c_X2_thingAt_in l G ad S E hW hi) k_149 cal_yX2_thingAt (ci := 2) rfl (hP _ _ (cX_lo 0 (by decide) rfl)) hP rfl ⟨Nat.le_of_ble_eq_true rfl, Nat.le_of_ble_eq_true rfl⟩ hl.1 (Nat.le_of_ble_eq_true rfl) ⟨Nat.zero_le _, Nat.zero_le _⟩ rfl rfl dX2_due_2 ?_
  refine lv_astore_n (lv' := [(2, .ref (ad (10 + 2 * i))), (0, .ref (ad 0)), (1, .int (nI i))]) hx hb dX2_due_5 rfl hl (by decide) rfl (fun ls hl => ?_)
  refine lv_aload_n hx hb dX2_due_6 rfl (lv_at hl 0 rfl) ?_
  refine lv_ifnonnull (tgt := 12) hx hb dX2_due_7 (by decide) ?_
  refine lv_aload_n hx hb dX2_due_12 rfl (lv_at hl 0 rfl) ?_
  refine lv_aload_n hx hb dX2_due_13 rfl (lv_at hl 1 rfl) ?_
  refine w_get cx (ci := 2) rfl iX2 (hP _ _ (cX_lo 0 (by decide) rfl)) 9 (by decide) k_54 (v := .int (sc S 0)) rfl dX2_due_14 ?_
  refine w_callV (As := [.int (sc S 0)]) (rest := []) (st := [.int (f_X0_isDueOn S i (sc S 0))]) cx (c_X0_isDueOn l G ad S E hW (i := i) hi (sc S 0)) k_341 cal_yX0_isDueOn (ci := 0) rfl (hP _ _ (cX_T hi hW.t)) hP rfl ⟨Nat.le_of_ble_eq_true rfl, Nat.le_of_ble_eq_true rfl⟩ hl.1 (Nat.le_of_ble_eq_true rfl) ⟨Nat.zero_le _, Nat.zero_le _⟩ rfl rfl dX2_due_17 ?_
  refine lv_if_eq (tgt := 27) hx hb dX2_due_20 (by decide) (fun c_1 => ?_) (fun c_1 => ?_)
  · refine lv_iconst (v := 0) hx hb dX2_due_27 (by decide) ?_
    exact r_int cx hr hlk (by rw [f_X2_due, if_pos c_1]) dX2_due_28
  · refine lv_iconst (v := 1) hx hb dX2_due_23 (by decide) ?_
    refine lv_goto (tgt := 28) hx hb dX2_due_24 (by decide) ?_
    exact r_int cx hr hlk (by rw [f_X2_due, if_neg c_1]) dX2_due_28
set_option maxRecDepth 20000 in
theorem c_X2_left_out (l : Launch) (G : GG) (ad : Nat → Nat) (S : St) (E : Ex) (hW : WF S) {n : Int32} (hn : nT S n)  : MR l yX2_left cX2_left 3 (some .int) 2 43 G ad (cX G ad S E) [.ref (ad 0), .int n] (some (.int (-1))) := by
  refine MR.of [(0, .ref (ad 0)), (1, .int n)] (by decide) (Nat.le_of_ble_eq_true rfl) rfl ?_
  intro p e s m args below meth c cx hr hlk hP ls hl
  have hx := cx.1.1
  have hb := cx.1.2.1
  refine lv_aload_n hx hb dX2_left_0 rfl (lv_at hl 0 rfl) ?_
  refine lv_iload_n hx hb dX2_left_1 rfl (lv_at hl 1 rfl) ?_
  refine w_callV (As := [.int n]) (rest := []) (st := [.null]) cx (c_X2_thingAt_out l G ad S E hW hn) k_149 cal_yX2_thingAt (ci := 2) rfl (hP _ _ (cX_lo 0 (by decide) rfl)) hP rfl ⟨Nat.le_of_ble_eq_true rfl, Nat.le_of_ble_eq_true rfl⟩ hl.1 (Nat.le_of_ble_eq_true rfl) ⟨Nat.zero_le _, Nat.zero_le _⟩ rfl rfl dX2_left_2 ?_
  refine lv_astore_nN (lv' := [(2, .null), (0, .ref (ad 0)), (1, .int n)]) hx hb dX2_left_5 rfl hl (by decide) rfl (fun ls hl => ?_)
  refine lv_aload_nN hx hb dX2_left_6 rfl (lv_at hl 0 rfl) ?_
  refine lv_ifnonnullN hx hb dX2_left_7 ?_
  refine lv_iconst (v := -1) hx hb dX2_left_10 (by decide) ?_
  exact r_int cx hr hlk rfl dX2_left_11
def f_X2_left (S : St) (i : Nat)  : Int32 :=
  if ar S 0 i = 0 then (-1000000)
  else f_X0_daysUntilDue S i (sc S 0)
set_option maxRecDepth 20000 in
theorem c_X2_left (l : Launch) (G : GG) (ad : Nat → Nat) (S : St) (E : Ex) (hW : WF S) {i : Nat} (hi : i < nt S)  : MR l yX2_left cX2_left 3 (some .int) 2 44 G ad (cX G ad S E) [.ref (ad 0), .int (nI i)] (some (.int (f_X2_left S i))) := by
  refine MR.of [(0, .ref (ad 0)), (1, .int (nI i))] (by decide) (Nat.le_of_ble_eq_true rfl) rfl ?_
  intro p e s m args below meth c cx hr hlk hP ls hl
  have hx := cx.1.1
  have hb := cx.1.2.1
  refine lv_aload_n hx hb dX2_left_0 rfl (lv_at hl 0 rfl) ?_
  refine lv_iload_n hx hb dX2_left_1 rfl (lv_at hl 1 rfl) ?_
  refine w_callV (As := [.int (nI i)]) (rest := []) (st := [.ref (ad (10 + 2 * i))]) cx (c_X2_thingAt_in l G ad S E hW hi) k_149 cal_yX2_thingAt (ci := 2) rfl (hP _ _ (cX_lo 0 (by decide) rfl)) hP rfl ⟨Nat.le_of_ble_eq_true rfl, Nat.le_of_ble_eq_true rfl⟩ hl.1 (Nat.le_of_ble_eq_true rfl) ⟨Nat.zero_le _, Nat.zero_le _⟩ rfl rfl dX2_left_2 ?_
  refine lv_astore_n (lv' := [(2, .ref (ad (10 + 2 * i))), (0, .ref (ad 0)), (1, .int (nI i))]) hx hb dX2_left_5 rfl hl (by decide) rfl (fun ls hl => ?_)
  refine lv_aload_n hx hb dX2_left_6 rfl (lv_at hl 0 rfl) ?_
  refine lv_ifnonnull (tgt := 12) hx hb dX2_left_7 (by decide) ?_
  refine lv_aload_n hx hb dX2_left_12 rfl (lv_at hl 0 rfl) ?_
  refine w_get cx (ci := 0) rfl iX0 (hP _ _ (cX_T hi hW.t)) 0 (by decide) k_108 (v := .int (ar S 0 i)) rfl dX2_left_13 ?_
  refine lv_if_ne (tgt := 24) hx hb dX2_left_16 (by decide) (fun c_1 => ?_) (fun c_1 => ?_)
  · refine lv_aload_n hx hb dX2_left_24 rfl (lv_at hl 0 rfl) ?_
    refine lv_aload_n hx hb dX2_left_25 rfl (lv_at hl 1 rfl) ?_
    refine w_get cx (ci := 2) rfl iX2 (hP _ _ (cX_lo 0 (by decide) rfl)) 9 (by decide) k_54 (v := .int (sc S 0)) rfl dX2_left_26 ?_
    refine w_callV (As := [.int (sc S 0)]) (rest := []) (st := [.int (f_X0_daysUntilDue S i (sc S 0))]) cx (c_X0_daysUntilDue l G ad S E hW (i := i) hi (sc S 0)) k_346 cal_yX0_daysUntilDue (ci := 0) rfl (hP _ _ (cX_T hi hW.t)) hP rfl ⟨Nat.le_of_ble_eq_true rfl, Nat.le_of_ble_eq_true rfl⟩ hl.1 (Nat.le_of_ble_eq_true rfl) ⟨Nat.zero_le _, Nat.zero_le _⟩ rfl rfl dX2_left_29 ?_
    exact r_int cx hr hlk (by rw [f_X2_left, if_neg c_1]) dX2_left_32
  · refine w_ldc cx k_156 dX2_left_19 ?_
    refine lv_goto (tgt := 32) hx hb dX2_left_21 (by decide) ?_
    exact r_int cx hr hlk (by rw [f_X2_left, if_pos c_1]) dX2_left_32
set_option maxRecDepth 20000 in
theorem c_X2_judge_out (l : Launch) (G : GG) (ad : Nat → Nat) (S : St) (E : Ex) (hW : WF S) {n : Int32} (hn : nT S n)  : MR l yX2_judge cX2_judge 3 (some .int) 2 43 G ad (cX G ad S E) [.ref (ad 0), .int n] (some (.int (-1))) := by
  refine MR.of [(0, .ref (ad 0)), (1, .int n)] (by decide) (Nat.le_of_ble_eq_true rfl) rfl ?_
  intro p e s m args below meth c cx hr hlk hP ls hl
  have hx := cx.1.1
  have hb := cx.1.2.1
  refine lv_aload_n hx hb dX2_judge_0 rfl (lv_at hl 0 rfl) ?_
  refine lv_iload_n hx hb dX2_judge_1 rfl (lv_at hl 1 rfl) ?_
  refine w_callV (As := [.int n]) (rest := []) (st := [.null]) cx (c_X2_thingAt_out l G ad S E hW hn) k_149 cal_yX2_thingAt (ci := 2) rfl (hP _ _ (cX_lo 0 (by decide) rfl)) hP rfl ⟨Nat.le_of_ble_eq_true rfl, Nat.le_of_ble_eq_true rfl⟩ hl.1 (Nat.le_of_ble_eq_true rfl) ⟨Nat.zero_le _, Nat.zero_le _⟩ rfl rfl dX2_judge_2 ?_
  refine lv_astore_nN (lv' := [(2, .null), (0, .ref (ad 0)), (1, .int n)]) hx hb dX2_judge_5 rfl hl (by decide) rfl (fun ls hl => ?_)
  refine lv_aload_nN hx hb dX2_judge_6 rfl (lv_at hl 0 rfl) ?_
  refine lv_ifnonnullN hx hb dX2_judge_7 ?_
  refine lv_iconst (v := -1) hx hb dX2_judge_10 (by decide) ?_
  refine lv_goto (tgt := 19) hx hb dX2_judge_11 (by decide) ?_
  exact r_int cx hr hlk rfl dX2_judge_19
def f_X2_judge (S : St) (i : Nat)  : Int32 :=
  f_X2_judgement S i
set_option maxRecDepth 20000 in
theorem c_X2_judge (l : Launch) (G : GG) (ad : Nat → Nat) (S : St) (E : Ex) (hW : WF S) {i : Nat} (hi : i < nt S)  : MR l yX2_judge cX2_judge 3 (some .int) 3 68 G ad (cX G ad S E) [.ref (ad 0), .int (nI i)] (some (.int (f_X2_judge S i))) := by
  refine MR.of [(0, .ref (ad 0)), (1, .int (nI i))] (by decide) (Nat.le_of_ble_eq_true rfl) rfl ?_
  intro p e s m args below meth c cx hr hlk hP ls hl
  have hx := cx.1.1
  have hb := cx.1.2.1
  refine lv_aload_n hx hb dX2_judge_0 rfl (lv_at hl 0 rfl) ?_
  refine lv_iload_n hx hb dX2_judge_1 rfl (lv_at hl 1 rfl) ?_
  refine w_callV (As := [.int (nI i)]) (rest := []) (st := [.ref (ad (10 + 2 * i))]) cx (c_X2_thingAt_in l G ad S E hW hi) k_149 cal_yX2_thingAt (ci := 2) rfl (hP _ _ (cX_lo 0 (by decide) rfl)) hP rfl ⟨Nat.le_of_ble_eq_true rfl, Nat.le_of_ble_eq_true rfl⟩ hl.1 (Nat.le_of_ble_eq_true rfl) ⟨Nat.zero_le _, Nat.zero_le _⟩ rfl rfl dX2_judge_2 ?_
  refine lv_astore_n (lv' := [(2, .ref (ad (10 + 2 * i))), (0, .ref (ad 0)), (1, .int (nI i))]) hx hb dX2_judge_5 rfl hl (by decide) rfl (fun ls hl => ?_)
  refine lv_aload_n hx hb dX2_judge_6 rfl (lv_at hl 0 rfl) ?_
  refine lv_ifnonnull (tgt := 14) hx hb dX2_judge_7 (by decide) ?_
  refine lv_aload_n hx hb dX2_judge_14 rfl (lv_at hl 1 rfl) ?_
  refine lv_aload_n hx hb dX2_judge_15 rfl (lv_at hl 0 rfl) ?_
  refine w_callV (As := [.ref (ad (10 + 2 * i))]) (rest := []) (st := [.int (f_X2_judgement S i)]) cx (c_X2_judgement l G ad S E hW (i := i) hi) k_359 cal_yX2_judgement (ci := 2) rfl (hP _ _ (cX_lo 0 (by decide) rfl)) hP rfl ⟨Nat.le_of_ble_eq_true rfl, Nat.le_of_ble_eq_true rfl⟩ hl.1 (Nat.le_of_ble_eq_true rfl) ⟨Nat.zero_le _, Nat.zero_le _⟩ rfl rfl dX2_judge_16 ?_
  exact r_int cx hr hlk (by rw [f_X2_judge]) dX2_judge_19
set_option maxRecDepth 20000 in
theorem c_X2_stays_out (l : Launch) (G : GG) (ad : Nat → Nat) (S : St) (E : Ex) (hW : WF S) {n : Int32} (hn : nT S n)  : MR l yX2_stays cX2_stays 6 (some .int) 2 43 G ad (cX G ad S E) [.ref (ad 0), .int n] (some (.int (-1))) := by
  refine MR.of [(0, .ref (ad 0)), (1, .int n)] (by decide) (Nat.le_of_ble_eq_true rfl) rfl ?_
  intro p e s m args below meth c cx hr hlk hP ls hl
  have hx := cx.1.1
  have hb := cx.1.2.1
  refine lv_aload_n hx hb dX2_stays_0 rfl (lv_at hl 0 rfl) ?_
  refine lv_iload_n hx hb dX2_stays_1 rfl (lv_at hl 1 rfl) ?_
  refine w_callV (As := [.int n]) (rest := []) (st := [.null]) cx (c_X2_thingAt_out l G ad S E hW hn) k_149 cal_yX2_thingAt (ci := 2) rfl (hP _ _ (cX_lo 0 (by decide) rfl)) hP rfl ⟨Nat.le_of_ble_eq_true rfl, Nat.le_of_ble_eq_true rfl⟩ hl.1 (Nat.le_of_ble_eq_true rfl) ⟨Nat.zero_le _, Nat.zero_le _⟩ rfl rfl dX2_stays_2 ?_
  refine lv_astore_nN (lv' := [(2, .null), (0, .ref (ad 0)), (1, .int n)]) hx hb dX2_stays_5 rfl hl (by decide) rfl (fun ls hl => ?_)
  refine lv_aload_nN hx hb dX2_stays_6 rfl (lv_at hl 0 rfl) ?_
  refine lv_ifnonnullN hx hb dX2_stays_7 ?_
  refine lv_iconst (v := -1) hx hb dX2_stays_10 (by decide) ?_
  exact r_int cx hr hlk rfl dX2_stays_11
def f_X2_stays (S : St) (i : Nat)  : Int32 :=
  if f_X2_judgement S i = 1 then f_X0_daysNoWiderThan S i ((f_X2_allowanceFor S i) - (f_X0_errorSize S i)) (sc S 0)
  else if f_X2_judgement S i = 3 then f_X0_daysNoWiderThan S i (((f_X0_errorSize S i) - (f_X2_allowanceFor S i)) - 1) (sc S 0)
  else if f_X2_judgement S i = 2 then 20000
  else (-1000000)
set_option maxRecDepth 20000 in
theorem c_X2_stays (l : Launch) (G : GG) (ad : Nat → Nat) (S : St) (E : Ex) (hW : WF S) {i : Nat} (hi : i < nt S)  : MR l yX2_stays cX2_stays 6 (some .int) 3 68 G ad (cX G ad S E) [.ref (ad 0), .int (nI i)] (some (.int (f_X2_stays S i))) := by
  refine MR.of [(0, .ref (ad 0)), (1, .int (nI i))] (by decide) (Nat.le_of_ble_eq_true rfl) rfl ?_
  intro p e s m args below meth c cx hr hlk hP ls hl
  have hx := cx.1.1
  have hb := cx.1.2.1
  refine lv_aload_n hx hb dX2_stays_0 rfl (lv_at hl 0 rfl) ?_
  refine lv_iload_n hx hb dX2_stays_1 rfl (lv_at hl 1 rfl) ?_
  refine w_callV (As := [.int (nI i)]) (rest := []) (st := [.ref (ad (10 + 2 * i))]) cx (c_X2_thingAt_in l G ad S E hW hi) k_149 cal_yX2_thingAt (ci := 2) rfl (hP _ _ (cX_lo 0 (by decide) rfl)) hP rfl ⟨Nat.le_of_ble_eq_true rfl, Nat.le_of_ble_eq_true rfl⟩ hl.1 (Nat.le_of_ble_eq_true rfl) ⟨Nat.zero_le _, Nat.zero_le _⟩ rfl rfl dX2_stays_2 ?_
  refine lv_astore_n (lv' := [(2, .ref (ad (10 + 2 * i))), (0, .ref (ad 0)), (1, .int (nI i))]) hx hb dX2_stays_5 rfl hl (by decide) rfl (fun ls hl => ?_)
  refine lv_aload_n hx hb dX2_stays_6 rfl (lv_at hl 0 rfl) ?_
  refine lv_ifnonnull (tgt := 12) hx hb dX2_stays_7 (by decide) ?_
  refine lv_aload_n hx hb dX2_stays_12 rfl (lv_at hl 1 rfl) ?_
  refine lv_aload_n hx hb dX2_stays_13 rfl (lv_at hl 0 rfl) ?_
  refine w_callV (As := [.ref (ad (10 + 2 * i))]) (rest := []) (st := [.int (f_X2_judgement S i)]) cx (c_X2_judgement l G ad S E hW (i := i) hi) k_359 cal_yX2_judgement (ci := 2) rfl (hP _ _ (cX_lo 0 (by decide) rfl)) hP rfl ⟨Nat.le_of_ble_eq_true rfl, Nat.le_of_ble_eq_true rfl⟩ hl.1 (Nat.le_of_ble_eq_true rfl) ⟨Nat.zero_le _, Nat.zero_le _⟩ rfl rfl dX2_stays_14 ?_
  refine lv_istore_n (lv' := [(3, .int (f_X2_judgement S i)), (2, .ref (ad (10 + 2 * i))), (0, .ref (ad 0)), (1, .int (nI i))]) hx hb dX2_stays_17 rfl hl (by decide) rfl (fun ls hl => ?_)
  refine lv_aload_n hx hb dX2_stays_18 rfl (lv_at hl 1 rfl) ?_
  refine w_callV (As := []) (rest := []) (st := [.int (f_X0_errorSize S i)]) cx (c_X0_errorSize l G ad S E hW (i := i) hi) k_363 cal_yX0_errorSize (ci := 0) rfl (hP _ _ (cX_T hi hW.t)) hP rfl ⟨Nat.le_of_ble_eq_true rfl, Nat.le_of_ble_eq_true rfl⟩ hl.1 (Nat.le_of_ble_eq_true rfl) ⟨Nat.zero_le _, Nat.zero_le _⟩ rfl rfl dX2_stays_19 ?_
  refine lv_istore (lv' := [(4, .int (f_X0_errorSize S i)), (3, .int (f_X2_judgement S i)), (2, .ref (ad (10 + 2 * i))), (0, .ref (ad 0)), (1, .int (nI i))]) hx hb dX2_stays_22 hl (by decide) rfl (fun ls hl => ?_)
  refine lv_aload_n hx hb dX2_stays_24 rfl (lv_at hl 3 rfl) ?_
  refine lv_aload_n hx hb dX2_stays_25 rfl (lv_at hl 2 rfl) ?_
  refine w_callV (As := [.ref (ad (10 + 2 * i))]) (rest := []) (st := [.int (f_X2_allowanceFor S i)]) cx (c_X2_allowanceFor l G ad S E hW (i := i) hi) k_368 cal_yX2_allowanceFor (ci := 2) rfl (hP _ _ (cX_lo 0 (by decide) rfl)) hP rfl ⟨Nat.le_of_ble_eq_true rfl, Nat.le_of_ble_eq_true rfl⟩ hl.1 (Nat.le_of_ble_eq_true rfl) ⟨Nat.zero_le _, Nat.zero_le _⟩ rfl rfl dX2_stays_26 ?_
  refine lv_istore (lv' := [(5, .int (f_X2_allowanceFor S i)), (4, .int (f_X0_errorSize S i)), (3, .int (f_X2_judgement S i)), (2, .ref (ad (10 + 2 * i))), (0, .ref (ad 0)), (1, .int (nI i))]) hx hb dX2_stays_29 hl (by decide) rfl (fun ls hl => ?_)
  refine lv_iload_n hx hb dX2_stays_31 rfl (lv_at hl 2 rfl) ?_
  refine lv_iconst (v := 1) hx hb dX2_stays_32 (by decide) ?_
  refine lv_icmp_ne (tgt := 50) hx hb dX2_stays_33 (by decide) (fun c_1 => ?_) (fun c_1 => ?_)
  · refine lv_iload_n hx hb dX2_stays_50 rfl (lv_at hl 2 rfl) ?_
    refine lv_iconst (v := 3) hx hb dX2_stays_51 (by decide) ?_
    refine lv_icmp_ne (tgt := 71) hx hb dX2_stays_52 (by decide) (fun c_2 => ?_) (fun c_2 => ?_)
    · refine lv_iload_n hx hb dX2_stays_71 rfl (lv_at hl 2 rfl) ?_
      refine lv_iconst (v := 2) hx hb dX2_stays_72 (by decide) ?_
      refine lv_icmp_ne (tgt := 82) hx hb dX2_stays_73 (by decide) (fun c_3 => ?_) (fun c_3 => ?_)
      · refine w_ldc cx k_156 dX2_stays_82 ?_
        exact r_int cx hr hlk (by rw [f_X2_stays, if_neg c_1, if_neg c_2, if_neg c_3]) dX2_stays_84
      · refine lv_sipush (v := 20000) hx hb dX2_stays_76 (by decide) ?_
        refine lv_goto (tgt := 84) hx hb dX2_stays_79 (by decide) ?_
        exact r_int cx hr hlk (by rw [f_X2_stays, if_neg c_1, if_neg c_2, if_pos c_3]) dX2_stays_84
    · refine lv_aload_n hx hb dX2_stays_55 rfl (lv_at hl 3 rfl) ?_
      refine lv_iload hx hb dX2_stays_56 (lv_at hl 1 rfl) ?_
      refine lv_iload hx hb dX2_stays_58 (lv_at hl 0 rfl) ?_
      refine lv_isub hx hb dX2_stays_60 ?_
      refine lv_iconst (v := 1) hx hb dX2_stays_61 (by decide) ?_
      refine lv_isub hx hb dX2_stays_62 ?_
      refine lv_aload_n hx hb dX2_stays_63 rfl (lv_at hl 4 rfl) ?_
      refine w_get cx (ci := 2) rfl iX2 (hP _ _ (cX_lo 0 (by decide) rfl)) 9 (by decide) k_54 (v := .int (sc S 0)) rfl dX2_stays_64 ?_
      refine w_callV (As := [.int (((f_X0_errorSize S i) - (f_X2_allowanceFor S i)) - 1), .int (sc S 0)]) (rest := []) (st := [.int (f_X0_daysNoWiderThan S i (((f_X0_errorSize S i) - (f_X2_allowanceFor S i)) - 1) (sc S 0))]) cx (c_X0_daysNoWiderThan l G ad S E hW (i := i) hi (((f_X0_errorSize S i) - (f_X2_allowanceFor S i)) - 1) (sc S 0)) k_376 cal_yX0_daysNoWiderThan (ci := 0) rfl (hP _ _ (cX_T hi hW.t)) hP rfl ⟨Nat.le_of_ble_eq_true rfl, Nat.le_of_ble_eq_true rfl⟩ hl.1 (Nat.le_of_ble_eq_true rfl) ⟨Nat.zero_le _, Nat.zero_le _⟩ rfl rfl dX2_stays_67 ?_
      exact r_int cx hr hlk (by rw [f_X2_stays, if_neg c_1, if_pos c_2]) dX2_stays_70
  · refine lv_aload_n hx hb dX2_stays_36 rfl (lv_at hl 3 rfl) ?_
    refine lv_iload hx hb dX2_stays_37 (lv_at hl 0 rfl) ?_
    refine lv_iload hx hb dX2_stays_39 (lv_at hl 1 rfl) ?_
    refine lv_isub hx hb dX2_stays_41 ?_
    refine lv_aload_n hx hb dX2_stays_42 rfl (lv_at hl 4 rfl) ?_
    refine w_get cx (ci := 2) rfl iX2 (hP _ _ (cX_lo 0 (by decide) rfl)) 9 (by decide) k_54 (v := .int (sc S 0)) rfl dX2_stays_43 ?_
    refine w_callV (As := [.int ((f_X2_allowanceFor S i) - (f_X0_errorSize S i)), .int (sc S 0)]) (rest := []) (st := [.int (f_X0_daysNoWiderThan S i ((f_X2_allowanceFor S i) - (f_X0_errorSize S i)) (sc S 0))]) cx (c_X0_daysNoWiderThan l G ad S E hW (i := i) hi ((f_X2_allowanceFor S i) - (f_X0_errorSize S i)) (sc S 0)) k_376 cal_yX0_daysNoWiderThan (ci := 0) rfl (hP _ _ (cX_T hi hW.t)) hP rfl ⟨Nat.le_of_ble_eq_true rfl, Nat.le_of_ble_eq_true rfl⟩ hl.1 (Nat.le_of_ble_eq_true rfl) ⟨Nat.zero_le _, Nat.zero_le _⟩ rfl rfl dX2_stays_46 ?_
    exact r_int cx hr hlk (by rw [f_X2_stays, if_pos c_1]) dX2_stays_49
set_option maxRecDepth 20000 in
theorem c_X2_told_out (l : Launch) (G : GG) (ad : Nat → Nat) (S : St) (E : Ex) (hW : WF S) {n : Int32} (hn : nR S n) (x : Int32) : MR l yX2_told cX2_told 4 (some .int) 2 43 G ad (cX G ad S E) [.ref (ad 0), .int n, .int x] (some (.int (-1))) := by
  refine MR.of [(0, .ref (ad 0)), (1, .int n), (2, .int x)] (by decide) (Nat.le_of_ble_eq_true rfl) rfl ?_
  intro p e s m args below meth c cx hr hlk hP ls hl
  have hx := cx.1.1
  have hb := cx.1.2.1
  refine lv_aload_n hx hb dX2_told_0 rfl (lv_at hl 0 rfl) ?_
  refine lv_iload_n hx hb dX2_told_1 rfl (lv_at hl 1 rfl) ?_
  refine w_callV (As := [.int n]) (rest := []) (st := [.null]) cx (c_X2_trialAt_out l G ad S E hW hn) k_308 cal_yX2_trialAt (ci := 2) rfl (hP _ _ (cX_lo 0 (by decide) rfl)) hP rfl ⟨Nat.le_of_ble_eq_true rfl, Nat.le_of_ble_eq_true rfl⟩ hl.1 (Nat.le_of_ble_eq_true rfl) ⟨Nat.zero_le _, Nat.zero_le _⟩ rfl rfl dX2_told_2 ?_
  refine lv_astore_nN (lv' := [(3, .null), (0, .ref (ad 0)), (1, .int n), (2, .int x)]) hx hb dX2_told_5 rfl hl (by decide) rfl (fun ls hl => ?_)
  refine lv_aload_nN hx hb dX2_told_6 rfl (lv_at hl 0 rfl) ?_
  refine lv_ifnonnullN hx hb dX2_told_7 ?_
  refine lv_iconst (v := -1) hx hb dX2_told_10 (by decide) ?_
  exact r_int cx hr hlk rfl dX2_told_11
def f_X2_told (S : St) (n : Nat) (x : Int32) : Int32 :=
  if x = 0 then ar S 13 n
  else if x = 1 then ar S 14 n
  else if x = 2 then ar S 15 n
  else if x = 3 then ar S 16 n
  else if x = 4 then ar S 17 n
  else if x = 5 then (if ar S 18 n = 0 then 0
    else 1)
  else if x = 6 then (if ar S 19 n = 0 then 0
    else 1)
  else if x = 7 then (if ar S 20 n = -1000000 then (-1000000)
    else nI (ix (ar S 20 n)))
  else (-2)
set_option maxRecDepth 20000 in
theorem c_X2_told (l : Launch) (G : GG) (ad : Nat → Nat) (S : St) (E : Ex) (hW : WF S) (hBa : WB S) {n : Nat} (hn : n < nr S) (x : Int32) : MR l yX2_told cX2_told 4 (some .int) 2 43 G ad (cX G ad S E) [.ref (ad 0), .int (nI n), .int x] (some (.int (f_X2_told S n x))) := by
  refine MR.of [(0, .ref (ad 0)), (1, .int (nI n)), (2, .int x)] (by decide) (Nat.le_of_ble_eq_true rfl) rfl ?_
  intro p e s m args below meth c cx hr hlk hP ls hl
  have hx := cx.1.1
  have hb := cx.1.2.1
  refine lv_aload_n hx hb dX2_told_0 rfl (lv_at hl 0 rfl) ?_
  refine lv_iload_n hx hb dX2_told_1 rfl (lv_at hl 1 rfl) ?_
  refine w_callV (As := [.int (nI n)]) (rest := []) (st := [.ref (ad (100 + n))]) cx (c_X2_trialAt_in l G ad S E hW hn) k_308 cal_yX2_trialAt (ci := 2) rfl (hP _ _ (cX_lo 0 (by decide) rfl)) hP rfl ⟨Nat.le_of_ble_eq_true rfl, Nat.le_of_ble_eq_true rfl⟩ hl.1 (Nat.le_of_ble_eq_true rfl) ⟨Nat.zero_le _, Nat.zero_le _⟩ rfl rfl dX2_told_2 ?_
  refine lv_astore_n (lv' := [(3, .ref (ad (100 + n))), (0, .ref (ad 0)), (1, .int (nI n)), (2, .int x)]) hx hb dX2_told_5 rfl hl (by decide) rfl (fun ls hl => ?_)
  refine lv_aload_n hx hb dX2_told_6 rfl (lv_at hl 0 rfl) ?_
  refine lv_ifnonnull (tgt := 12) hx hb dX2_told_7 (by decide) ?_
  refine lv_iload_n hx hb dX2_told_12 rfl (lv_at hl 3 rfl) ?_
  by_cases c_1 : x = 0
  · refine lv_tableIn (off := 47) (tgt := 60) hx hb dX2_told_13 (by rw [c_1]; decide) (by rw [c_1]; decide) (by rw [c_1]; decide) (by decide) ?_
    refine lv_aload_n hx hb dX2_told_60 rfl (lv_at hl 0 rfl) ?_
    refine w_get cx (ci := 1) rfl iX1 (hP _ _ (cX_R hn)) 1 (by decide) k_248 (v := .int (ar S 13 n)) rfl dX2_told_61 ?_
    exact r_int cx hr hlk (by rw [f_X2_told, if_pos c_1]) dX2_told_64
  · by_cases c_2 : x = 1
    · refine lv_tableIn (off := 52) (tgt := 65) hx hb dX2_told_13 (by rw [c_2]; decide) (by rw [c_2]; decide) (by rw [c_2]; decide) (by decide) ?_
      refine lv_aload_n hx hb dX2_told_65 rfl (lv_at hl 0 rfl) ?_
      refine w_get cx (ci := 1) rfl iX1 (hP _ _ (cX_R hn)) 2 (by decide) k_250 (v := .int (ar S 14 n)) rfl dX2_told_66 ?_
      exact r_int cx hr hlk (by rw [f_X2_told, if_neg c_1, if_pos c_2]) dX2_told_69
    · by_cases c_3 : x = 2
      · refine lv_tableIn (off := 57) (tgt := 70) hx hb dX2_told_13 (by rw [c_3]; decide) (by rw [c_3]; decide) (by rw [c_3]; decide) (by decide) ?_
        refine lv_aload_n hx hb dX2_told_70 rfl (lv_at hl 0 rfl) ?_
        refine w_get cx (ci := 1) rfl iX1 (hP _ _ (cX_R hn)) 4 (by decide) k_254 (v := .int (ar S 15 n)) rfl dX2_told_71 ?_
        exact r_int cx hr hlk (by rw [f_X2_told, if_neg c_1, if_neg c_2, if_pos c_3]) dX2_told_74
      · by_cases c_4 : x = 3
        · refine lv_tableIn (off := 62) (tgt := 75) hx hb dX2_told_13 (by rw [c_4]; decide) (by rw [c_4]; decide) (by rw [c_4]; decide) (by decide) ?_
          refine lv_aload_n hx hb dX2_told_75 rfl (lv_at hl 0 rfl) ?_
          refine w_get cx (ci := 1) rfl iX1 (hP _ _ (cX_R hn)) 5 (by decide) k_257 (v := .int (ar S 16 n)) rfl dX2_told_76 ?_
          exact r_int cx hr hlk (by rw [f_X2_told, if_neg c_1, if_neg c_2, if_neg c_3, if_pos c_4]) dX2_told_79
        · by_cases c_5 : x = 4
          · refine lv_tableIn (off := 67) (tgt := 80) hx hb dX2_told_13 (by rw [c_5]; decide) (by rw [c_5]; decide) (by rw [c_5]; decide) (by decide) ?_
            refine lv_aload_n hx hb dX2_told_80 rfl (lv_at hl 0 rfl) ?_
            refine w_get cx (ci := 1) rfl iX1 (hP _ _ (cX_R hn)) 6 (by decide) k_260 (v := .int (ar S 17 n)) rfl dX2_told_81 ?_
            exact r_int cx hr hlk (by rw [f_X2_told, if_neg c_1, if_neg c_2, if_neg c_3, if_neg c_4, if_pos c_5]) dX2_told_84
          · by_cases c_6 : x = 5
            · refine lv_tableIn (off := 72) (tgt := 85) hx hb dX2_told_13 (by rw [c_6]; decide) (by rw [c_6]; decide) (by rw [c_6]; decide) (by decide) ?_
              refine lv_aload_n hx hb dX2_told_85 rfl (lv_at hl 0 rfl) ?_
              refine w_get cx (ci := 1) rfl iX1 (hP _ _ (cX_R hn)) 7 (by decide) k_263 (v := .int (ar S 18 n)) rfl dX2_told_86 ?_
              refine lv_if_eq (tgt := 96) hx hb dX2_told_89 (by decide) (fun c_7 => ?_) (fun c_7 => ?_)
              · refine lv_iconst (v := 0) hx hb dX2_told_96 (by decide) ?_
                exact r_int cx hr hlk (by rw [f_X2_told, if_neg c_1, if_neg c_2, if_neg c_3, if_neg c_4, if_neg c_5, if_pos c_6, if_pos c_7]) dX2_told_97
              · refine lv_iconst (v := 1) hx hb dX2_told_92 (by decide) ?_
                refine lv_goto (tgt := 97) hx hb dX2_told_93 (by decide) ?_
                exact r_int cx hr hlk (by rw [f_X2_told, if_neg c_1, if_neg c_2, if_neg c_3, if_neg c_4, if_neg c_5, if_pos c_6, if_neg c_7]) dX2_told_97
            · by_cases c_8 : x = 6
              · refine lv_tableIn (off := 85) (tgt := 98) hx hb dX2_told_13 (by rw [c_8]; decide) (by rw [c_8]; decide) (by rw [c_8]; decide) (by decide) ?_
                refine lv_aload_n hx hb dX2_told_98 rfl (lv_at hl 0 rfl) ?_
                refine w_get cx (ci := 1) rfl iX1 (hP _ _ (cX_R hn)) 8 (by decide) k_265 (v := .int (ar S 19 n)) rfl dX2_told_99 ?_
                refine lv_if_eq (tgt := 109) hx hb dX2_told_102 (by decide) (fun c_9 => ?_) (fun c_9 => ?_)
                · refine lv_iconst (v := 0) hx hb dX2_told_109 (by decide) ?_
                  exact r_int cx hr hlk (by rw [f_X2_told, if_neg c_1, if_neg c_2, if_neg c_3, if_neg c_4, if_neg c_5, if_neg c_6, if_pos c_8, if_pos c_9]) dX2_told_110
                · refine lv_iconst (v := 1) hx hb dX2_told_105 (by decide) ?_
                  refine lv_goto (tgt := 110) hx hb dX2_told_106 (by decide) ?_
                  exact r_int cx hr hlk (by rw [f_X2_told, if_neg c_1, if_neg c_2, if_neg c_3, if_neg c_4, if_neg c_5, if_neg c_6, if_pos c_8, if_neg c_9]) dX2_told_110
              · by_cases c_10 : x = 7
                · refine lv_tableIn (off := 98) (tgt := 111) hx hb dX2_told_13 (by rw [c_10]; decide) (by rw [c_10]; decide) (by rw [c_10]; decide) (by decide) ?_
                  refine lv_aload_n hx hb dX2_told_111 rfl (lv_at hl 0 rfl) ?_
                  by_cases c_11 : ar S 20 n = -1000000
                  · refine w_get cx (ci := 1) rfl iX1 (hP _ _ (cX_R hn)) 3 (by decide) k_252 (v := .null) (congrArg some (rT_null c_11)) dX2_told_112 ?_
                    refine w_callS (As := [.null]) (rest := []) (st := [.int ((-1000000))]) cx (c_X2_numberOf_n l G ad S E hW) k_153 cal_yX2_numberOf hP rfl ⟨Nat.le_of_ble_eq_true rfl, Nat.le_of_ble_eq_true rfl⟩ hl.1 (Nat.le_of_ble_eq_true rfl) ⟨Nat.zero_le _, Nat.zero_le _⟩ rfl rfl dX2_told_115 ?_
                    exact r_int cx hr hlk (by rw [f_X2_told, if_neg c_1, if_neg c_2, if_neg c_3, if_neg c_4, if_neg c_5, if_neg c_6, if_neg c_8, if_pos c_10, if_pos c_11]) dX2_told_118
                  · refine w_get cx (ci := 1) rfl iX1 (hP _ _ (cX_R hn)) 3 (by decide) k_252 (v := .ref (ad (100 + ix (ar S 20 n)))) (congrArg some (rT_ref c_11)) dX2_told_112 ?_
                    refine w_callS (As := [.ref (ad (100 + ix (ar S 20 n)))]) (rest := []) (st := [.int (nI (ix (ar S 20 n)))]) cx (c_X2_numberOf_r l G ad S E hW (n := ix (ar S 20 n)) (Nat.lt_trans (hBa.ba hn c_11).2 hn)) k_153 cal_yX2_numberOf hP rfl ⟨Nat.le_of_ble_eq_true rfl, Nat.le_of_ble_eq_true rfl⟩ hl.1 (Nat.le_of_ble_eq_true rfl) ⟨Nat.zero_le _, Nat.zero_le _⟩ rfl rfl dX2_told_115 ?_
                    exact r_int cx hr hlk (by rw [f_X2_told, if_neg c_1, if_neg c_2, if_neg c_3, if_neg c_4, if_neg c_5, if_neg c_6, if_neg c_8, if_pos c_10, if_neg c_11]) dX2_told_118
                · refine lv_tableOut (tgt := 119) hx hb dX2_told_13 (tab_out8 c_1 c_2 c_3 c_4 c_5 c_6 c_8 c_10) (by decide) ?_
                  refine lv_bipush (v := -2) hx hb dX2_told_119 (by decide) ?_
                  exact r_int cx hr hlk (by rw [f_X2_told, if_neg c_1, if_neg c_2, if_neg c_3, if_neg c_4, if_neg c_5, if_neg c_6, if_neg c_8, if_neg c_10]) dX2_told_121
set_option maxRecDepth 20000 in
theorem c_X2_charged_out (l : Launch) (G : GG) (ad : Nat → Nat) (S : St) (E : Ex) (hW : WF S) {n : Int32} (hn : f_X2_isOwner n = 0) : MR l yX2_charged cX2_charged 2 (some .long) 2 42 G ad (cX G ad S E) [.ref (ad 0), .int n] (some (.long (-1))) := by
  refine MR.of [(0, .ref (ad 0)), (1, .int n)] (by decide) (Nat.le_of_ble_eq_true rfl) rfl ?_
  intro p e s m args below meth c cx hr hlk hP ls hl
  have hx := cx.1.1
  have hb := cx.1.2.1
  refine lv_iload_n hx hb dX2_charged_0 rfl (lv_at hl 1 rfl) ?_
  refine w_callS (As := [.int n]) (rest := []) (st := [.int (f_X2_isOwner n)]) cx (c_X2_isOwner l G ad _ n) k_98 cal_yX2_isOwner hP rfl ⟨Nat.le_of_ble_eq_true rfl, Nat.le_of_ble_eq_true rfl⟩ hl.1 (Nat.le_of_ble_eq_true rfl) ⟨Nat.zero_le _, Nat.zero_le _⟩ rfl rfl dX2_charged_1 ?_
  refine lv_if_eq (tgt := 16) hx hb dX2_charged_4 (by decide) (fun c_1 => ?_) (fun c_1 => ?_)
  · refine w_ldc2 cx k_413 dX2_charged_16 ?_
    exact r_long cx hr hlk rfl dX2_charged_19
  · exact absurd hn c_1
def f_X2_charged (S : St) (o : Nat) : Int64 :=
  os S o
set_option maxRecDepth 20000 in
theorem c_X2_charged (l : Launch) (G : GG) (ad : Nat → Nat) (S : St) (E : Ex) (hW : WF S) {o : Nat} (ho : o < 10) : MR l yX2_charged cX2_charged 2 (some .long) 2 42 G ad (cX G ad S E) [.ref (ad 0), .int (nI o)] (some (.long (f_X2_charged S o))) := by
  refine MR.of [(0, .ref (ad 0)), (1, .int (nI o))] (by decide) (Nat.le_of_ble_eq_true rfl) rfl ?_
  intro p e s m args below meth c cx hr hlk hP ls hl
  have hx := cx.1.1
  have hb := cx.1.2.1
  refine lv_iload_n hx hb dX2_charged_0 rfl (lv_at hl 1 rfl) ?_
  refine w_callS (As := [.int (nI o)]) (rest := []) (st := [.int (f_X2_isOwner (nI o))]) cx (c_X2_isOwner l G ad _ (nI o)) k_98 cal_yX2_isOwner hP rfl ⟨Nat.le_of_ble_eq_true rfl, Nat.le_of_ble_eq_true rfl⟩ hl.1 (Nat.le_of_ble_eq_true rfl) ⟨Nat.zero_le _, Nat.zero_le _⟩ rfl rfl dX2_charged_1 ?_
  refine lv_if_eq (tgt := 16) hx hb dX2_charged_4 (by decide) (fun c_1 => ?_) (fun c_1 => ?_)
  · exact absurd c_1 (isO_in ho)
  · refine lv_aload_n hx hb dX2_charged_7 rfl (lv_at hl 0 rfl) ?_
    refine w_get cx (ci := 2) rfl iX2 (hP _ _ (cX_lo 0 (by decide) rfl)) 5 (by decide) k_50 (v := .ref (ad 6)) rfl dX2_charged_8 ?_
    refine lv_iload_n hx hb dX2_charged_11 rfl (lv_at hl 1 rfl) ?_
    refine w_lald cx (hP _ _ (cX_lo 6 (by decide) rfl)) o rfl ho (by decide) dX2_charged_12 ?_
    refine lv_goto (tgt := 19) hx hb dX2_charged_13 (by decide) ?_
    exact r_long cx hr hlk (by rw [f_X2_charged]) dX2_charged_19
def f_X2_wasPutOn (E : Ex) (k : Nat) : Int32 :=
  if (E.1 (k / 32)) &&& (1 <<< (((nI k) - (nI k) / 32 * 32) &&& 31)) = 0 then 0
  else 1
theorem b_X2_wasPutOn (E : Ex) (k : Nat) : f_X2_wasPutOn E k = 0 ∨ f_X2_wasPutOn E k = 1 := by
  unfold f_X2_wasPutOn
  repeat' split
  all_goals first | exact Or.inl rfl | exact Or.inr rfl
set_option maxRecDepth 20000 in
theorem c_X2_wasPutOn (l : Launch) (G : GG) (ad : Nat → Nat) (S : St) (E : Ex) (hW : WF S) {k : Nat} (h1 : 1 ≤ k) (hk : k < 10000) : MR l yX2_wasPutOn cX2_wasPutOn 2 (some .boolean) 2 42 G ad (cX G ad S E) [.ref (ad 0), .int (nI k)] (some (.int (f_X2_wasPutOn E k))) := by
  refine MR.of [(0, .ref (ad 0)), (1, .int (nI k))] (by decide) (Nat.le_of_ble_eq_true rfl) rfl ?_
  intro p e s m args below meth c cx hr hlk hP ls hl
  have hx := cx.1.1
  have hb := cx.1.2.1
  refine lv_iload_n hx hb dX2_wasPutOn_0 rfl (lv_at hl 1 rfl) ?_
  refine w_callS (As := [.int (nI k)]) (rest := []) (st := [.int (f_X2_isSealNumber (nI k))]) cx (c_X2_isSealNumber l G ad _ (nI k)) k_389 cal_yX2_isSealNumber hP rfl ⟨Nat.le_of_ble_eq_true rfl, Nat.le_of_ble_eq_true rfl⟩ hl.1 (Nat.le_of_ble_eq_true rfl) ⟨Nat.zero_le _, Nat.zero_le _⟩ rfl rfl dX2_wasPutOn_1 ?_
  refine lv_if_eq (tgt := 30) hx hb dX2_wasPutOn_4 (by decide) (fun c_1 => ?_) (fun c_1 => ?_)
  · exact absurd c_1 (isN_in h1 hk)
  · refine lv_aload_n hx hb dX2_wasPutOn_7 rfl (lv_at hl 0 rfl) ?_
    refine w_get cx (ci := 2) rfl iX2 (hP _ _ (cX_lo 0 (by decide) rfl)) 6 (by decide) k_51 (v := .ref (ad 7)) rfl dX2_wasPutOn_8 ?_
    refine lv_iload_n hx hb dX2_wasPutOn_11 rfl (lv_at hl 1 rfl) ?_
    refine lv_bipush (v := 32) hx hb dX2_wasPutOn_12 (by decide) ?_
    refine lv_idiv hx hb dX2_wasPutOn_14 (by decide) ?_
    refine w_iald cx (hP _ _ (cX_lo 7 (by decide) rfl)) (k / 32) (pk_div (Nat.lt_of_lt_of_le hk (by decide)) (by decide) (by decide)) (by omega) (by decide) dX2_wasPutOn_15 ?_
    refine lv_iconst (v := 1) hx hb dX2_wasPutOn_16 (by decide) ?_
    refine lv_iload_n hx hb dX2_wasPutOn_17 rfl (lv_at hl 1 rfl) ?_
    refine lv_bipush (v := 32) hx hb dX2_wasPutOn_18 (by decide) ?_
    refine lv_irem hx hb dX2_wasPutOn_20 (by decide) ?_
    refine lv_ishl hx hb dX2_wasPutOn_21 ?_
    refine lv_iand hx hb dX2_wasPutOn_22 ?_
    refine lv_if_eq (tgt := 30) hx hb dX2_wasPutOn_23 (by decide) (fun c_2 => ?_) (fun c_2 => ?_)
    · refine lv_iconst (v := 0) hx hb dX2_wasPutOn_30 (by decide) ?_
      exact r_bool cx hr hlk (by rw [f_X2_wasPutOn, if_pos c_2]) (Or.inl rfl) dX2_wasPutOn_31
    · refine lv_iconst (v := 1) hx hb dX2_wasPutOn_26 (by decide) ?_
      refine lv_goto (tgt := 31) hx hb dX2_wasPutOn_27 (by decide) ?_
      exact r_bool cx hr hlk (by rw [f_X2_wasPutOn, if_neg c_2]) (Or.inr rfl) dX2_wasPutOn_31
end
section
theorem ix3_0 (i : Nat) : 3 * nI i = nI (3 * i + 0) := by rw [Nat.add_zero, ← pk_mul]; rfl
theorem ix3 (i k : Nat) (x : Int32) (h : x = 3 * nI i + nI k) : x = nI (3 * i + k) := by rw [h, ← nI_add, ← pk_mul]; rfl
set_option maxRecDepth 20000 in
theorem c_X3_isThing_in (l : Launch) (G : GG) (ad : Nat → Nat) (S : St) (hW : WF S) {j : Nat} (hj : j < nt S) : MR l yX3_isThing cX3_isThing 2 (some .boolean) 1 22 G ad (cM G ad S) [.ref (ad 0), .int (nI j)] (some (.int (1))) := by
  refine MR.of [(0, .ref (ad 0)), (1, .int (nI j))] (by decide) (Nat.le_of_ble_eq_true rfl) rfl ?_
  intro p e s m args below meth c cx hr hlk hP ls hl
  have hx := cx.1.1
  have hb := cx.1.2.1
  refine lv_iload_n hx hb dX3_isThing_0 rfl (lv_at hl 1 rfl) ?_
  refine lv_iconst (v := 0) hx hb dX3_isThing_1 (by decide) ?_
  refine lv_aload_n hx hb dX3_isThing_2 rfl (lv_at hl 0 rfl) ?_
  refine w_get cx (ci := 3) rfl iX3 (hP _ _ cM_0) 1 (by decide) k_452 (v := .int (nI (nt S))) rfl dX3_isThing_3 ?_
  refine lv_iconst (v := 1) hx hb dX3_isThing_6 (by decide) ?_
  refine lv_isub hx hb dX3_isThing_7 ?_
  refine w_callS (As := [.int (nI j), .int 0, .int ((nI (nt S)) - 1)]) (rest := []) (st := [.int (f_X3_in (nI j) 0 ((nI (nt S)) - 1))]) cx (c_X3_in l G ad _ (nI j) 0 ((nI (nt S)) - 1)) k_541 cal_yX3_in hP rfl ⟨Nat.le_of_ble_eq_true rfl, Nat.le_of_ble_eq_true rfl⟩ hl.1 (Nat.le_of_ble_eq_true rfl) ⟨Nat.zero_le _, Nat.zero_le _⟩ rfl rfl dX3_isThing_8 ?_
  exact r_bool cx hr hlk ((b_X3_in _ _ _).resolve_left (in_in hj (Nat.lt_of_le_of_lt hW.t (by decide)))) (b_X3_in (nI j) 0 ((nI (nt S)) - 1)) dX3_isThing_11
set_option maxRecDepth 20000 in
theorem c_X3_isThing_out (l : Launch) (G : GG) (ad : Nat → Nat) (S : St) (hW : WF S) {n : Int32} (hn : nT S n) : MR l yX3_isThing cX3_isThing 2 (some .boolean) 1 22 G ad (cM G ad S) [.ref (ad 0), .int n] (some (.int (0))) := by
  refine MR.of [(0, .ref (ad 0)), (1, .int n)] (by decide) (Nat.le_of_ble_eq_true rfl) rfl ?_
  intro p e s m args below meth c cx hr hlk hP ls hl
  have hx := cx.1.1
  have hb := cx.1.2.1
  refine lv_iload_n hx hb dX3_isThing_0 rfl (lv_at hl 1 rfl) ?_
  refine lv_iconst (v := 0) hx hb dX3_isThing_1 (by decide) ?_
  refine lv_aload_n hx hb dX3_isThing_2 rfl (lv_at hl 0 rfl) ?_
  refine w_get cx (ci := 3) rfl iX3 (hP _ _ cM_0) 1 (by decide) k_452 (v := .int (nI (nt S))) rfl dX3_isThing_3 ?_
  refine lv_iconst (v := 1) hx hb dX3_isThing_6 (by decide) ?_
  refine lv_isub hx hb dX3_isThing_7 ?_
  refine w_callS (As := [.int n, .int 0, .int ((nI (nt S)) - 1)]) (rest := []) (st := [.int (f_X3_in n 0 ((nI (nt S)) - 1))]) cx (c_X3_in l G ad _ n 0 ((nI (nt S)) - 1)) k_541 cal_yX3_in hP rfl ⟨Nat.le_of_ble_eq_true rfl, Nat.le_of_ble_eq_true rfl⟩ hl.1 (Nat.le_of_ble_eq_true rfl) ⟨Nat.zero_le _, Nat.zero_le _⟩ rfl rfl dX3_isThing_8 ?_
  exact r_bool cx hr hlk (in_out (Nat.lt_of_le_of_lt hW.t (by decide)) hn) (b_X3_in n 0 ((nI (nt S)) - 1)) dX3_isThing_11
def f_X3_isTool (S : St) (i : Nat)  : Int32 :=
  if ar S 0 i = 2 then 1
  else if ar S 0 i = 3 then 1
  else 0
theorem b_X3_isTool (S : St) (i : Nat)  : f_X3_isTool S i = 0 ∨ f_X3_isTool S i = 1 := by
  unfold f_X3_isTool
  repeat' split
  all_goals first | exact Or.inl rfl | exact Or.inr rfl
set_option maxRecDepth 20000 in
theorem c_X3_isTool (l : Launch) (G : GG) (ad : Nat → Nat) (S : St) (hW : WF S) {i : Nat} (hi : i < nt S)  : MR l yX3_isTool cX3_isTool 2 (some .boolean) 0 0 G ad (cM G ad S) [.ref (ad 0), .int (nI i)] (some (.int (f_X3_isTool S i))) := by
  refine MR.of [(0, .ref (ad 0)), (1, .int (nI i))] (by decide) (Nat.le_of_ble_eq_true rfl) rfl ?_
  intro p e s m args below meth c cx hr hlk hP ls hl
  have hx := cx.1.1
  have hb := cx.1.2.1
  refine lv_aload_n hx hb dX3_isTool_0 rfl (lv_at hl 0 rfl) ?_
  refine w_get cx (ci := 3) rfl iX3 (hP _ _ cM_0) 2 (by decide) k_453 (v := .ref (ad 1)) rfl dX3_isTool_1 ?_
  refine lv_iload_n hx hb dX3_isTool_4 rfl (lv_at hl 1 rfl) ?_
  refine w_iald cx (hP _ _ (cM_A (n := 40) 0 (by decide) rfl rfl)) i rfl (Nat.lt_of_lt_of_le hi hW.t) (by decide) dX3_isTool_5 ?_
  refine lv_iconst (v := 2) hx hb dX3_isTool_6 (by decide) ?_
  refine lv_icmp_eq (tgt := 20) hx hb dX3_isTool_7 (by decide) (fun c_1 => ?_) (fun c_1 => ?_)
  · refine lv_iconst (v := 1) hx hb dX3_isTool_20 (by decide) ?_
    refine lv_goto (tgt := 25) hx hb dX3_isTool_21 (by decide) ?_
    exact r_bool cx hr hlk (by rw [f_X3_isTool, if_pos c_1]) (Or.inr rfl) dX3_isTool_25
  · refine lv_aload_n hx hb dX3_isTool_10 rfl (lv_at hl 0 rfl) ?_
    refine w_get cx (ci := 3) rfl iX3 (hP _ _ cM_0) 2 (by decide) k_453 (v := .ref (ad 1)) rfl dX3_isTool_11 ?_
    refine lv_iload_n hx hb dX3_isTool_14 rfl (lv_at hl 1 rfl) ?_
    refine w_iald cx (hP _ _ (cM_A (n := 40) 0 (by decide) rfl rfl)) i rfl (Nat.lt_of_lt_of_le hi hW.t) (by decide) dX3_isTool_15 ?_
    refine lv_iconst (v := 3) hx hb dX3_isTool_16 (by decide) ?_
    refine lv_icmp_ne (tgt := 24) hx hb dX3_isTool_17 (by decide) (fun c_2 => ?_) (fun c_2 => ?_)
    · refine lv_iconst (v := 0) hx hb dX3_isTool_24 (by decide) ?_
      exact r_bool cx hr hlk (by rw [f_X3_isTool, if_neg c_1, if_neg c_2]) (Or.inl rfl) dX3_isTool_25
    · refine lv_iconst (v := 1) hx hb dX3_isTool_20 (by decide) ?_
      refine lv_goto (tgt := 25) hx hb dX3_isTool_21 (by decide) ?_
      exact r_bool cx hr hlk (by rw [f_X3_isTool, if_neg c_1, if_pos c_2]) (Or.inr rfl) dX3_isTool_25
def f_X3_settledNow (S : St) (i : Nat)  : Int32 :=
  if ar S 0 i = 0 then 1
  else if ar S 5 i = -1000000 then 0
  else if ar S 18 (ix (ar S 5 i)) = 0 then 0
  else 1
theorem b_X3_settledNow (S : St) (i : Nat)  : f_X3_settledNow S i = 0 ∨ f_X3_settledNow S i = 1 := by
  unfold f_X3_settledNow
  repeat' split
  all_goals first | exact Or.inl rfl | exact Or.inr rfl
set_option maxRecDepth 20000 in
theorem c_X3_settledNow (l : Launch) (G : GG) (ad : Nat → Nat) (S : St) (hW : WF S) {i : Nat} (hi : i < nt S)  : MR l yX3_settledNow cX3_settledNow 2 (some .boolean) 0 0 G ad (cM G ad S) [.ref (ad 0), .int (nI i)] (some (.int (f_X3_settledNow S i))) := by
  refine MR.of [(0, .ref (ad 0)), (1, .int (nI i))] (by decide) (Nat.le_of_ble_eq_true rfl) rfl ?_
  intro p e s m args below meth c cx hr hlk hP ls hl
  have hx := cx.1.1
  have hb := cx.1.2.1
  refine lv_aload_n hx hb dX3_settledNow_0 rfl (lv_at hl 0 rfl) ?_
  refine w_get cx (ci := 3) rfl iX3 (hP _ _ cM_0) 2 (by decide) k_453 (v := .ref (ad 1)) rfl dX3_settledNow_1 ?_
  refine lv_iload_n hx hb dX3_settledNow_4 rfl (lv_at hl 1 rfl) ?_
  refine w_iald cx (hP _ _ (cM_A (n := 40) 0 (by decide) rfl rfl)) i rfl (Nat.lt_of_lt_of_le hi hW.t) (by decide) dX3_settledNow_5 ?_
  refine lv_if_eq (tgt := 34) hx hb dX3_settledNow_6 (by decide) (fun c_1 => ?_) (fun c_1 => ?_)
  · refine lv_iconst (v := 1) hx hb dX3_settledNow_34 (by decide) ?_
    refine lv_goto (tgt := 39) hx hb dX3_settledNow_35 (by decide) ?_
    exact r_bool cx hr hlk (by rw [f_X3_settledNow, if_pos c_1]) (Or.inr rfl) dX3_settledNow_39
  · refine lv_aload_n hx hb dX3_settledNow_9 rfl (lv_at hl 0 rfl) ?_
    refine w_get cx (ci := 3) rfl iX3 (hP _ _ cM_0) 7 (by decide) k_458 (v := .ref (ad 6)) rfl dX3_settledNow_10 ?_
    refine lv_iload_n hx hb dX3_settledNow_13 rfl (lv_at hl 1 rfl) ?_
    refine w_iald cx (hP _ _ (cM_A (n := 40) 5 (by decide) rfl rfl)) i rfl (Nat.lt_of_lt_of_le hi hW.t) (by decide) dX3_settledNow_14 ?_
    refine w_ldc cx k_548 dX3_settledNow_15 ?_
    refine lv_icmp_eq (tgt := 38) hx hb dX3_settledNow_17 (by decide) (fun c_2 => ?_) (fun c_2 => ?_)
    · refine lv_iconst (v := 0) hx hb dX3_settledNow_38 (by decide) ?_
      exact r_bool cx hr hlk (by rw [f_X3_settledNow, if_neg c_1, if_pos c_2]) (Or.inl rfl) dX3_settledNow_39
    · refine lv_aload_n hx hb dX3_settledNow_20 rfl (lv_at hl 0 rfl) ?_
      refine w_get cx (ci := 3) rfl iX3 (hP _ _ cM_0) 21 (by decide) k_472 (v := .ref (ad 19)) rfl dX3_settledNow_21 ?_
      refine lv_aload_n hx hb dX3_settledNow_24 rfl (lv_at hl 0 rfl) ?_
      refine w_get cx (ci := 3) rfl iX3 (hP _ _ cM_0) 7 (by decide) k_458 (v := .ref (ad 6)) rfl dX3_settledNow_25 ?_
      refine lv_iload_n hx hb dX3_settledNow_28 rfl (lv_at hl 1 rfl) ?_
      refine w_iald cx (hP _ _ (cM_A (n := 40) 5 (by decide) rfl rfl)) i rfl (Nat.lt_of_lt_of_le hi hW.t) (by decide) dX3_settledNow_29 ?_
      refine w_zald cx (hP _ _ (cM_A (n := 300) 18 (by decide) rfl rfl)) (ix (ar S 5 i)) (hW.la hi c_2).1 (Nat.lt_of_lt_of_le (hW.la hi c_2).2 hW.r) (by decide) dX3_settledNow_30 ?_
      refine lv_if_eq (tgt := 38) hx hb dX3_settledNow_31 (by decide) (fun c_3 => ?_) (fun c_3 => ?_)
      · refine lv_iconst (v := 0) hx hb dX3_settledNow_38 (by decide) ?_
        exact r_bool cx hr hlk (by rw [f_X3_settledNow, if_neg c_1, if_neg c_2, if_pos c_3]) (Or.inl rfl) dX3_settledNow_39
      · refine lv_iconst (v := 1) hx hb dX3_settledNow_34 (by decide) ?_
        refine lv_goto (tgt := 39) hx hb dX3_settledNow_35 (by decide) ?_
        exact r_bool cx hr hlk (by rw [f_X3_settledNow, if_neg c_1, if_neg c_2, if_neg c_3]) (Or.inr rfl) dX3_settledNow_39
def f_X3_dueNow (S : St) (i : Nat)  : Int32 :=
  if ar S 0 i = 0 then 0
  else if ar S 5 i = -1000000 then 1
  else if (sc S 0) - (ar S 15 (ix (ar S 5 i))) ≤ ar S 2 i then 0
  else 1
theorem b_X3_dueNow (S : St) (i : Nat)  : f_X3_dueNow S i = 0 ∨ f_X3_dueNow S i = 1 := by
  unfold f_X3_dueNow
  repeat' split
  all_goals first | exact Or.inl rfl | exact Or.inr rfl
set_option maxRecDepth 20000 in
theorem c_X3_dueNow (l : Launch) (G : GG) (ad : Nat → Nat) (S : St) (hW : WF S) {i : Nat} (hi : i < nt S)  : MR l yX3_dueNow cX3_dueNow 2 (some .boolean) 0 0 G ad (cM G ad S) [.ref (ad 0), .int (nI i)] (some (.int (f_X3_dueNow S i))) := by
  refine MR.of [(0, .ref (ad 0)), (1, .int (nI i))] (by decide) (Nat.le_of_ble_eq_true rfl) rfl ?_
  intro p e s m args below meth c cx hr hlk hP ls hl
  have hx := cx.1.1
  have hb := cx.1.2.1
  refine lv_aload_n hx hb dX3_dueNow_0 rfl (lv_at hl 0 rfl) ?_
  refine w_get cx (ci := 3) rfl iX3 (hP _ _ cM_0) 2 (by decide) k_453 (v := .ref (ad 1)) rfl dX3_dueNow_1 ?_
  refine lv_iload_n hx hb dX3_dueNow_4 rfl (lv_at hl 1 rfl) ?_
  refine w_iald cx (hP _ _ (cM_A (n := 40) 0 (by decide) rfl rfl)) i rfl (Nat.lt_of_lt_of_le hi hW.t) (by decide) dX3_dueNow_5 ?_
  refine lv_if_eq (tgt := 49) hx hb dX3_dueNow_6 (by decide) (fun c_1 => ?_) (fun c_1 => ?_)
  · refine lv_iconst (v := 0) hx hb dX3_dueNow_49 (by decide) ?_
    exact r_bool cx hr hlk (by rw [f_X3_dueNow, if_pos c_1]) (Or.inl rfl) dX3_dueNow_50
  · refine lv_aload_n hx hb dX3_dueNow_9 rfl (lv_at hl 0 rfl) ?_
    refine w_get cx (ci := 3) rfl iX3 (hP _ _ cM_0) 7 (by decide) k_458 (v := .ref (ad 6)) rfl dX3_dueNow_10 ?_
    refine lv_iload_n hx hb dX3_dueNow_13 rfl (lv_at hl 1 rfl) ?_
    refine w_iald cx (hP _ _ (cM_A (n := 40) 5 (by decide) rfl rfl)) i rfl (Nat.lt_of_lt_of_le hi hW.t) (by decide) dX3_dueNow_14 ?_
    refine w_ldc cx k_548 dX3_dueNow_15 ?_
    refine lv_icmp_eq (tgt := 45) hx hb dX3_dueNow_17 (by decide) (fun c_2 => ?_) (fun c_2 => ?_)
    · refine lv_iconst (v := 1) hx hb dX3_dueNow_45 (by decide) ?_
      refine lv_goto (tgt := 50) hx hb dX3_dueNow_46 (by decide) ?_
      exact r_bool cx hr hlk (by rw [f_X3_dueNow, if_neg c_1, if_pos c_2]) (Or.inr rfl) dX3_dueNow_50
    · refine lv_aload_n hx hb dX3_dueNow_20 rfl (lv_at hl 0 rfl) ?_
      refine w_get cx (ci := 3) rfl iX3 (hP _ _ cM_0) 0 (by decide) k_451 (v := .int (sc S 0)) rfl dX3_dueNow_21 ?_
      refine lv_aload_n hx hb dX3_dueNow_24 rfl (lv_at hl 0 rfl) ?_
      refine w_get cx (ci := 3) rfl iX3 (hP _ _ cM_0) 18 (by decide) k_469 (v := .ref (ad 16)) rfl dX3_dueNow_25 ?_
      refine lv_aload_n hx hb dX3_dueNow_28 rfl (lv_at hl 0 rfl) ?_
      refine w_get cx (ci := 3) rfl iX3 (hP _ _ cM_0) 7 (by decide) k_458 (v := .ref (ad 6)) rfl dX3_dueNow_29 ?_
      refine lv_iload_n hx hb dX3_dueNow_32 rfl (lv_at hl 1 rfl) ?_
      refine w_iald cx (hP _ _ (cM_A (n := 40) 5 (by decide) rfl rfl)) i rfl (Nat.lt_of_lt_of_le hi hW.t) (by decide) dX3_dueNow_33 ?_
      refine w_iald cx (hP _ _ (cM_A (n := 300) 15 (by decide) rfl rfl)) (ix (ar S 5 i)) (hW.la hi c_2).1 (Nat.lt_of_lt_of_le (hW.la hi c_2).2 hW.r) (by decide) dX3_dueNow_34 ?_
      refine lv_isub hx hb dX3_dueNow_35 ?_
      refine lv_aload_n hx hb dX3_dueNow_36 rfl (lv_at hl 0 rfl) ?_
      refine w_get cx (ci := 3) rfl iX3 (hP _ _ cM_0) 4 (by decide) k_455 (v := .ref (ad 3)) rfl dX3_dueNow_37 ?_
      refine lv_iload_n hx hb dX3_dueNow_40 rfl (lv_at hl 1 rfl) ?_
      refine w_iald cx (hP _ _ (cM_A (n := 40) 2 (by decide) rfl rfl)) i rfl (Nat.lt_of_lt_of_le hi hW.t) (by decide) dX3_dueNow_41 ?_
      refine lv_icmp_le (tgt := 49) hx hb dX3_dueNow_42 (by decide) (fun c_3 => ?_) (fun c_3 => ?_)
      · refine lv_iconst (v := 0) hx hb dX3_dueNow_49 (by decide) ?_
        exact r_bool cx hr hlk (by rw [f_X3_dueNow, if_neg c_1, if_neg c_2, if_pos c_3]) (Or.inl rfl) dX3_dueNow_50
      · refine lv_iconst (v := 1) hx hb dX3_dueNow_45 (by decide) ?_
        refine lv_goto (tgt := 50) hx hb dX3_dueNow_46 (by decide) ?_
        exact r_bool cx hr hlk (by rw [f_X3_dueNow, if_neg c_1, if_neg c_2, if_neg c_3]) (Or.inr rfl) dX3_dueNow_50
def f_X3_errorOf (S : St) (i : Nat)  : Int32 :=
  if ar S 5 i = -1000000 then 0
  else ar S 16 (ix (ar S 5 i))
set_option maxRecDepth 20000 in
theorem c_X3_errorOf (l : Launch) (G : GG) (ad : Nat → Nat) (S : St) (hW : WF S) {i : Nat} (hi : i < nt S)  : MR l yX3_errorOf cX3_errorOf 2 (some .int) 0 0 G ad (cM G ad S) [.ref (ad 0), .int (nI i)] (some (.int (f_X3_errorOf S i))) := by
  refine MR.of [(0, .ref (ad 0)), (1, .int (nI i))] (by decide) (Nat.le_of_ble_eq_true rfl) rfl ?_
  intro p e s m args below meth c cx hr hlk hP ls hl
  have hx := cx.1.1
  have hb := cx.1.2.1
  refine lv_aload_n hx hb dX3_errorOf_0 rfl (lv_at hl 0 rfl) ?_
  refine w_get cx (ci := 3) rfl iX3 (hP _ _ cM_0) 7 (by decide) k_458 (v := .ref (ad 6)) rfl dX3_errorOf_1 ?_
  refine lv_iload_n hx hb dX3_errorOf_4 rfl (lv_at hl 1 rfl) ?_
  refine w_iald cx (hP _ _ (cM_A (n := 40) 5 (by decide) rfl rfl)) i rfl (Nat.lt_of_lt_of_le hi hW.t) (by decide) dX3_errorOf_5 ?_
  refine w_ldc cx k_548 dX3_errorOf_6 ?_
  refine lv_icmp_ne (tgt := 15) hx hb dX3_errorOf_8 (by decide) (fun c_1 => ?_) (fun c_1 => ?_)
  · refine lv_aload_n hx hb dX3_errorOf_15 rfl (lv_at hl 0 rfl) ?_
    refine w_get cx (ci := 3) rfl iX3 (hP _ _ cM_0) 19 (by decide) k_470 (v := .ref (ad 17)) rfl dX3_errorOf_16 ?_
    refine lv_aload_n hx hb dX3_errorOf_19 rfl (lv_at hl 0 rfl) ?_
    refine w_get cx (ci := 3) rfl iX3 (hP _ _ cM_0) 7 (by decide) k_458 (v := .ref (ad 6)) rfl dX3_errorOf_20 ?_
    refine lv_iload_n hx hb dX3_errorOf_23 rfl (lv_at hl 1 rfl) ?_
    refine w_iald cx (hP _ _ (cM_A (n := 40) 5 (by decide) rfl rfl)) i rfl (Nat.lt_of_lt_of_le hi hW.t) (by decide) dX3_errorOf_24 ?_
    refine w_iald cx (hP _ _ (cM_A (n := 300) 16 (by decide) rfl rfl)) (ix (ar S 5 i)) (hW.la hi c_1).1 (Nat.lt_of_lt_of_le (hW.la hi c_1).2 hW.r) (by decide) dX3_errorOf_25 ?_
    exact r_int cx hr hlk (by rw [f_X3_errorOf, if_neg c_1]) dX3_errorOf_26
  · refine lv_iconst (v := 0) hx hb dX3_errorOf_11 (by decide) ?_
    refine lv_goto (tgt := 26) hx hb dX3_errorOf_12 (by decide) ?_
    exact r_int cx hr hlk (by rw [f_X3_errorOf, if_pos c_1]) dX3_errorOf_26
def f_X3_spanOn (S : St) (i : Nat) (d : Int32) : Int32 :=
  if ar S 5 i = -1000000 then 0
  else (ar S 17 (ix (ar S 5 i))) + ((((ar S 1 i) * (d - (ar S 15 (ix (ar S 5 i))))) + 99) / 100)
set_option maxRecDepth 20000 in
theorem c_X3_spanOn (l : Launch) (G : GG) (ad : Nat → Nat) (S : St) (hW : WF S) {i : Nat} (hi : i < nt S) (d : Int32) : MR l yX3_spanOn cX3_spanOn 3 (some .int) 0 0 G ad (cM G ad S) [.ref (ad 0), .int (nI i), .int d] (some (.int (f_X3_spanOn S i d))) := by
  refine MR.of [(0, .ref (ad 0)), (1, .int (nI i)), (2, .int d)] (by decide) (Nat.le_of_ble_eq_true rfl) rfl ?_
  intro p e s m args below meth c cx hr hlk hP ls hl
  have hx := cx.1.1
  have hb := cx.1.2.1
  refine lv_aload_n hx hb dX3_spanOn_0 rfl (lv_at hl 0 rfl) ?_
  refine w_get cx (ci := 3) rfl iX3 (hP _ _ cM_0) 7 (by decide) k_458 (v := .ref (ad 6)) rfl dX3_spanOn_1 ?_
  refine lv_iload_n hx hb dX3_spanOn_4 rfl (lv_at hl 1 rfl) ?_
  refine w_iald cx (hP _ _ (cM_A (n := 40) 5 (by decide) rfl rfl)) i rfl (Nat.lt_of_lt_of_le hi hW.t) (by decide) dX3_spanOn_5 ?_
  refine w_ldc cx k_548 dX3_spanOn_6 ?_
  refine lv_icmp_ne (tgt := 15) hx hb dX3_spanOn_8 (by decide) (fun c_1 => ?_) (fun c_1 => ?_)
  · refine lv_aload_n hx hb dX3_spanOn_15 rfl (lv_at hl 0 rfl) ?_
    refine w_get cx (ci := 3) rfl iX3 (hP _ _ cM_0) 20 (by decide) k_471 (v := .ref (ad 18)) rfl dX3_spanOn_16 ?_
    refine lv_aload_n hx hb dX3_spanOn_19 rfl (lv_at hl 0 rfl) ?_
    refine w_get cx (ci := 3) rfl iX3 (hP _ _ cM_0) 7 (by decide) k_458 (v := .ref (ad 6)) rfl dX3_spanOn_20 ?_
    refine lv_iload_n hx hb dX3_spanOn_23 rfl (lv_at hl 1 rfl) ?_
    refine w_iald cx (hP _ _ (cM_A (n := 40) 5 (by decide) rfl rfl)) i rfl (Nat.lt_of_lt_of_le hi hW.t) (by decide) dX3_spanOn_24 ?_
    refine w_iald cx (hP _ _ (cM_A (n := 300) 17 (by decide) rfl rfl)) (ix (ar S 5 i)) (hW.la hi c_1).1 (Nat.lt_of_lt_of_le (hW.la hi c_1).2 hW.r) (by decide) dX3_spanOn_25 ?_
    refine lv_aload_n hx hb dX3_spanOn_26 rfl (lv_at hl 0 rfl) ?_
    refine w_get cx (ci := 3) rfl iX3 (hP _ _ cM_0) 3 (by decide) k_454 (v := .ref (ad 2)) rfl dX3_spanOn_27 ?_
    refine lv_iload_n hx hb dX3_spanOn_30 rfl (lv_at hl 1 rfl) ?_
    refine w_iald cx (hP _ _ (cM_A (n := 40) 1 (by decide) rfl rfl)) i rfl (Nat.lt_of_lt_of_le hi hW.t) (by decide) dX3_spanOn_31 ?_
    refine lv_iload_n hx hb dX3_spanOn_32 rfl (lv_at hl 2 rfl) ?_
    refine lv_aload_n hx hb dX3_spanOn_33 rfl (lv_at hl 0 rfl) ?_
    refine w_get cx (ci := 3) rfl iX3 (hP _ _ cM_0) 18 (by decide) k_469 (v := .ref (ad 16)) rfl dX3_spanOn_34 ?_
    refine lv_aload_n hx hb dX3_spanOn_37 rfl (lv_at hl 0 rfl) ?_
    refine w_get cx (ci := 3) rfl iX3 (hP _ _ cM_0) 7 (by decide) k_458 (v := .ref (ad 6)) rfl dX3_spanOn_38 ?_
    refine lv_iload_n hx hb dX3_spanOn_41 rfl (lv_at hl 1 rfl) ?_
    refine w_iald cx (hP _ _ (cM_A (n := 40) 5 (by decide) rfl rfl)) i rfl (Nat.lt_of_lt_of_le hi hW.t) (by decide) dX3_spanOn_42 ?_
    refine w_iald cx (hP _ _ (cM_A (n := 300) 15 (by decide) rfl rfl)) (ix (ar S 5 i)) (hW.la hi c_1).1 (Nat.lt_of_lt_of_le (hW.la hi c_1).2 hW.r) (by decide) dX3_spanOn_43 ?_
    refine lv_isub hx hb dX3_spanOn_44 ?_
    refine lv_imul hx hb dX3_spanOn_45 ?_
    refine lv_bipush (v := 99) hx hb dX3_spanOn_46 (by decide) ?_
    refine lv_iadd hx hb dX3_spanOn_48 ?_
    refine lv_bipush (v := 100) hx hb dX3_spanOn_49 (by decide) ?_
    refine lv_idiv hx hb dX3_spanOn_51 (by decide) ?_
    refine lv_iadd hx hb dX3_spanOn_52 ?_
    exact r_int cx hr hlk (by rw [f_X3_spanOn, if_neg c_1]) dX3_spanOn_53
  · refine lv_iconst (v := 0) hx hb dX3_spanOn_11 (by decide) ?_
    refine lv_goto (tgt := 53) hx hb dX3_spanOn_12 (by decide) ?_
    exact r_int cx hr hlk (by rw [f_X3_spanOn, if_pos c_1]) dX3_spanOn_53
def f_X3_middle (S : St) (i : Nat)  : Int32 :=
  if ar S 9 (3 * i + 0) ≤ ar S 9 (3 * i + 1) then (if ar S 9 (3 * i + 2) ≤ ar S 9 (3 * i + 1) then (if ar S 9 (3 * i + 0) ≤ ar S 9 (3 * i + 2) then ar S 9 (3 * i + 2)
      else ar S 9 (3 * i + 0))
    else ar S 9 (3 * i + 1))
  else if ar S 9 (3 * i + 2) ≤ ar S 9 (3 * i + 0) then (if ar S 9 (3 * i + 1) ≤ ar S 9 (3 * i + 2) then ar S 9 (3 * i + 2)
    else ar S 9 (3 * i + 1))
  else ar S 9 (3 * i + 0)
set_option maxRecDepth 20000 in
theorem c_X3_middle (l : Launch) (G : GG) (ad : Nat → Nat) (S : St) (hW : WF S) {i : Nat} (hi : i < nt S)  : MR l yX3_middle cX3_middle 7 (some .int) 0 0 G ad (cM G ad S) [.ref (ad 0), .int (nI i)] (some (.int (f_X3_middle S i))) := by
  refine MR.of [(0, .ref (ad 0)), (1, .int (nI i))] (by decide) (Nat.le_of_ble_eq_true rfl) rfl ?_
  intro p e s m args below meth c cx hr hlk hP ls hl
  have hx := cx.1.1
  have hb := cx.1.2.1
  refine lv_aload_n hx hb dX3_middle_0 rfl (lv_at hl 0 rfl) ?_
  refine w_get cx (ci := 3) rfl iX3 (hP _ _ cM_0) 11 (by decide) k_462 (v := .ref (ad 10)) rfl dX3_middle_1 ?_
  refine lv_iconst (v := 3) hx hb dX3_middle_4 (by decide) ?_
  refine lv_iload_n hx hb dX3_middle_5 rfl (lv_at hl 1 rfl) ?_
  refine lv_imul hx hb dX3_middle_6 ?_
  refine w_iald cx (hP _ _ (cM_A (n := 120) 9 (by decide) rfl rfl)) (3 * i + 0) (ix3_0 i) (by have h40 := hW.t; omega) (by decide) dX3_middle_7 ?_
  refine lv_istore_n (lv' := [(2, .int (ar S 9 (3 * i + 0))), (0, .ref (ad 0)), (1, .int (nI i))]) hx hb dX3_middle_8 rfl hl (by decide) rfl (fun ls hl => ?_)
  refine lv_aload_n hx hb dX3_middle_9 rfl (lv_at hl 1 rfl) ?_
  refine w_get cx (ci := 3) rfl iX3 (hP _ _ cM_0) 11 (by decide) k_462 (v := .ref (ad 10)) rfl dX3_middle_10 ?_
  refine lv_iconst (v := 3) hx hb dX3_middle_13 (by decide) ?_
  refine lv_iload_n hx hb dX3_middle_14 rfl (lv_at hl 2 rfl) ?_
  refine lv_imul hx hb dX3_middle_15 ?_
  refine lv_iconst (v := 1) hx hb dX3_middle_16 (by decide) ?_
  refine lv_iadd hx hb dX3_middle_17 ?_
  refine w_iald cx (hP _ _ (cM_A (n := 120) 9 (by decide) rfl rfl)) (3 * i + 1) (ix3 i 1 _ rfl) (by have h40 := hW.t; omega) (by decide) dX3_middle_18 ?_
  refine lv_istore_n (lv' := [(3, .int (ar S 9 (3 * i + 1))), (2, .int (ar S 9 (3 * i + 0))), (0, .ref (ad 0)), (1, .int (nI i))]) hx hb dX3_middle_19 rfl hl (by decide) rfl (fun ls hl => ?_)
  refine lv_aload_n hx hb dX3_middle_20 rfl (lv_at hl 2 rfl) ?_
  refine w_get cx (ci := 3) rfl iX3 (hP _ _ cM_0) 11 (by decide) k_462 (v := .ref (ad 10)) rfl dX3_middle_21 ?_
  refine lv_iconst (v := 3) hx hb dX3_middle_24 (by decide) ?_
  refine lv_iload_n hx hb dX3_middle_25 rfl (lv_at hl 3 rfl) ?_
  refine lv_imul hx hb dX3_middle_26 ?_
  refine lv_iconst (v := 2) hx hb dX3_middle_27 (by decide) ?_
  refine lv_iadd hx hb dX3_middle_28 ?_
  refine w_iald cx (hP _ _ (cM_A (n := 120) 9 (by decide) rfl rfl)) (3 * i + 2) (ix3 i 2 _ rfl) (by have h40 := hW.t; omega) (by decide) dX3_middle_29 ?_
  refine lv_istore (lv' := [(4, .int (ar S 9 (3 * i + 2))), (3, .int (ar S 9 (3 * i + 1))), (2, .int (ar S 9 (3 * i + 0))), (0, .ref (ad 0)), (1, .int (nI i))]) hx hb dX3_middle_30 hl (by decide) rfl (fun ls hl => ?_)
  refine lv_iload_n hx hb dX3_middle_32 rfl (lv_at hl 2 rfl) ?_
  refine lv_iload_n hx hb dX3_middle_33 rfl (lv_at hl 1 rfl) ?_
  refine lv_icmp_le (tgt := 41) hx hb dX3_middle_34 (by decide) (fun c_1 => ?_) (fun c_1 => ?_)
  · refine lv_iload_n hx hb dX3_middle_41 rfl (lv_at hl 1 rfl) ?_
    refine lv_istore (lv' := [(5, .int (ar S 9 (3 * i + 1))), (4, .int (ar S 9 (3 * i + 2))), (3, .int (ar S 9 (3 * i + 1))), (2, .int (ar S 9 (3 * i + 0))), (0, .ref (ad 0)), (1, .int (nI i))]) hx hb dX3_middle_42 hl (by decide) rfl (fun ls hl => ?_)
    refine lv_iload_n hx hb dX3_middle_44 rfl (lv_at hl 3 rfl) ?_
    refine lv_iload_n hx hb dX3_middle_45 rfl (lv_at hl 2 rfl) ?_
    refine lv_icmp_le (tgt := 53) hx hb dX3_middle_46 (by decide) (fun c_2 => ?_) (fun c_2 => ?_)
    · refine lv_iload_n hx hb dX3_middle_53 rfl (lv_at hl 3 rfl) ?_
      refine lv_istore (lv' := [(6, .int (ar S 9 (3 * i + 0))), (5, .int (ar S 9 (3 * i + 1))), (4, .int (ar S 9 (3 * i + 2))), (3, .int (ar S 9 (3 * i + 1))), (2, .int (ar S 9 (3 * i + 0))), (0, .ref (ad 0)), (1, .int (nI i))]) hx hb dX3_middle_54 hl (by decide) rfl (fun ls hl => ?_)
      refine lv_iload hx hb dX3_middle_56 (lv_at hl 2 rfl) ?_
      refine lv_iload hx hb dX3_middle_58 (lv_at hl 1 rfl) ?_
      refine lv_icmp_le (tgt := 68) hx hb dX3_middle_60 (by decide) (fun c_3 => ?_) (fun c_3 => ?_)
      · refine lv_iload hx hb dX3_middle_68 (lv_at hl 2 rfl) ?_
        refine lv_iload hx hb dX3_middle_70 (lv_at hl 0 rfl) ?_
        refine lv_icmp_ge (tgt := 80) hx hb dX3_middle_72 (by decide) (fun c_4 => ?_) (fun c_4 => ?_)
        · refine lv_iload hx hb dX3_middle_80 (lv_at hl 2 rfl) ?_
          exact r_int cx hr hlk (by rw [f_X3_middle, if_pos c_1, if_pos c_3, if_pos c_4]) dX3_middle_82
        · refine lv_iload hx hb dX3_middle_75 (lv_at hl 0 rfl) ?_
          refine lv_goto (tgt := 82) hx hb dX3_middle_77 (by decide) ?_
          exact r_int cx hr hlk (by rw [f_X3_middle, if_pos c_1, if_pos c_3, if_neg c_4]) dX3_middle_82
      · refine lv_iload hx hb dX3_middle_63 (lv_at hl 1 rfl) ?_
        refine lv_goto (tgt := 82) hx hb dX3_middle_65 (by decide) ?_
        exact r_int cx hr hlk (by rw [f_X3_middle, if_pos c_1, if_neg c_3]) dX3_middle_82
    · exact absurd c_1 c_2
  · refine lv_iload_n hx hb dX3_middle_37 rfl (lv_at hl 2 rfl) ?_
    refine lv_goto (tgt := 42) hx hb dX3_middle_38 (by decide) ?_
    refine lv_istore (lv' := [(5, .int (ar S 9 (3 * i + 0))), (4, .int (ar S 9 (3 * i + 2))), (3, .int (ar S 9 (3 * i + 1))), (2, .int (ar S 9 (3 * i + 0))), (0, .ref (ad 0)), (1, .int (nI i))]) hx hb dX3_middle_42 hl (by decide) rfl (fun ls hl => ?_)
    refine lv_iload_n hx hb dX3_middle_44 rfl (lv_at hl 3 rfl) ?_
    refine lv_iload_n hx hb dX3_middle_45 rfl (lv_at hl 2 rfl) ?_
    refine lv_icmp_le (tgt := 53) hx hb dX3_middle_46 (by decide) (fun c_5 => ?_) (fun c_5 => ?_)
    · exact absurd c_5 c_1
    · refine lv_iload_n hx hb dX3_middle_49 rfl (lv_at hl 2 rfl) ?_
      refine lv_goto (tgt := 54) hx hb dX3_middle_50 (by decide) ?_
      refine lv_istore (lv' := [(6, .int (ar S 9 (3 * i + 1))), (5, .int (ar S 9 (3 * i + 0))), (4, .int (ar S 9 (3 * i + 2))), (3, .int (ar S 9 (3 * i + 1))), (2, .int (ar S 9 (3 * i + 0))), (0, .ref (ad 0)), (1, .int (nI i))]) hx hb dX3_middle_54 hl (by decide) rfl (fun ls hl => ?_)
      refine lv_iload hx hb dX3_middle_56 (lv_at hl 2 rfl) ?_
      refine lv_iload hx hb dX3_middle_58 (lv_at hl 1 rfl) ?_
      refine lv_icmp_le (tgt := 68) hx hb dX3_middle_60 (by decide) (fun c_6 => ?_) (fun c_6 => ?_)
      · refine lv_iload hx hb dX3_middle_68 (lv_at hl 2 rfl) ?_
        refine lv_iload hx hb dX3_middle_70 (lv_at hl 0 rfl) ?_
        refine lv_icmp_ge (tgt := 80) hx hb dX3_middle_72 (by decide) (fun c_7 => ?_) (fun c_7 => ?_)
        · refine lv_iload hx hb dX3_middle_80 (lv_at hl 2 rfl) ?_
          exact r_int cx hr hlk (by rw [f_X3_middle, if_neg c_1, if_pos c_6, if_pos c_7]) dX3_middle_82
        · refine lv_iload hx hb dX3_middle_75 (lv_at hl 0 rfl) ?_
          refine lv_goto (tgt := 82) hx hb dX3_middle_77 (by decide) ?_
          exact r_int cx hr hlk (by rw [f_X3_middle, if_neg c_1, if_pos c_6, if_neg c_7]) dX3_middle_82
      · refine lv_iload hx hb dX3_middle_63 (lv_at hl 1 rfl) ?_
        refine lv_goto (tgt := 82) hx hb dX3_middle_65 (by decide) ?_
        exact r_int cx hr hlk (by rw [f_X3_middle, if_neg c_1, if_neg c_6]) dX3_middle_82
def f_X3_range (S : St) (i : Nat)  : Int32 :=
  if ar S 9 (3 * i + 1) ≤ ar S 9 (3 * i + 0) then (if ar S 9 (3 * i + 0) ≤ ar S 9 (3 * i + 1) then (if ar S 9 (3 * i + 2) ≤ ar S 9 (3 * i + 0) then (if ar S 9 (3 * i + 0) ≤ ar S 9 (3 * i + 2) then (ar S 9 (3 * i + 0)) - (ar S 9 (3 * i + 0))
        else (ar S 9 (3 * i + 0)) - (ar S 9 (3 * i + 2)))
      else if ar S 9 (3 * i + 0) ≤ ar S 9 (3 * i + 2) then (ar S 9 (3 * i + 2)) - (ar S 9 (3 * i + 0))
      else (ar S 9 (3 * i + 2)) - (ar S 9 (3 * i + 2)))
    else if ar S 9 (3 * i + 2) ≤ ar S 9 (3 * i + 0) then (if ar S 9 (3 * i + 1) ≤ ar S 9 (3 * i + 2) then (ar S 9 (3 * i + 0)) - (ar S 9 (3 * i + 1))
      else (ar S 9 (3 * i + 0)) - (ar S 9 (3 * i + 2)))
    else if ar S 9 (3 * i + 1) ≤ ar S 9 (3 * i + 2) then (ar S 9 (3 * i + 2)) - (ar S 9 (3 * i + 1))
    else (ar S 9 (3 * i + 2)) - (ar S 9 (3 * i + 2)))
  else if ar S 9 (3 * i + 0) ≤ ar S 9 (3 * i + 1) then (if ar S 9 (3 * i + 2) ≤ ar S 9 (3 * i + 1) then (if ar S 9 (3 * i + 0) ≤ ar S 9 (3 * i + 2) then (ar S 9 (3 * i + 1)) - (ar S 9 (3 * i + 0))
      else (ar S 9 (3 * i + 1)) - (ar S 9 (3 * i + 2)))
    else if ar S 9 (3 * i + 0) ≤ ar S 9 (3 * i + 2) then (ar S 9 (3 * i + 2)) - (ar S 9 (3 * i + 0))
    else (ar S 9 (3 * i + 2)) - (ar S 9 (3 * i + 2)))
  else if ar S 9 (3 * i + 2) ≤ ar S 9 (3 * i + 1) then (if ar S 9 (3 * i + 1) ≤ ar S 9 (3 * i + 2) then (ar S 9 (3 * i + 1)) - (ar S 9 (3 * i + 1))
    else (ar S 9 (3 * i + 1)) - (ar S 9 (3 * i + 2)))
  else if ar S 9 (3 * i + 1) ≤ ar S 9 (3 * i + 2) then (ar S 9 (3 * i + 2)) - (ar S 9 (3 * i + 1))
  else (ar S 9 (3 * i + 2)) - (ar S 9 (3 * i + 2))
set_option maxRecDepth 20000 in
theorem c_X3_range (l : Launch) (G : GG) (ad : Nat → Nat) (S : St) (hW : WF S) {i : Nat} (hi : i < nt S)  : MR l yX3_range cX3_range 5 (some .int) 0 0 G ad (cM G ad S) [.ref (ad 0), .int (nI i)] (some (.int (f_X3_range S i))) := by
  refine MR.of [(0, .ref (ad 0)), (1, .int (nI i))] (by decide) (Nat.le_of_ble_eq_true rfl) rfl ?_
  intro p e s m args below meth c cx hr hlk hP ls hl
  have hx := cx.1.1
  have hb := cx.1.2.1
  refine lv_aload_n hx hb dX3_range_0 rfl (lv_at hl 0 rfl) ?_
  refine w_get cx (ci := 3) rfl iX3 (hP _ _ cM_0) 11 (by decide) k_462 (v := .ref (ad 10)) rfl dX3_range_1 ?_
  refine lv_iconst (v := 3) hx hb dX3_range_4 (by decide) ?_
  refine lv_iload_n hx hb dX3_range_5 rfl (lv_at hl 1 rfl) ?_
  refine lv_imul hx hb dX3_range_6 ?_
  refine w_iald cx (hP _ _ (cM_A (n := 120) 9 (by decide) rfl rfl)) (3 * i + 0) (ix3_0 i) (by have h40 := hW.t; omega) (by decide) dX3_range_7 ?_
  refine lv_istore_n (lv' := [(2, .int (ar S 9 (3 * i + 0))), (0, .ref (ad 0)), (1, .int (nI i))]) hx hb dX3_range_8 rfl hl (by decide) rfl (fun ls hl => ?_)
  refine lv_iload_n hx hb dX3_range_9 rfl (lv_at hl 0 rfl) ?_
  refine lv_istore_n (lv' := [(3, .int (ar S 9 (3 * i + 0))), (2, .int (ar S 9 (3 * i + 0))), (0, .ref (ad 0)), (1, .int (nI i))]) hx hb dX3_range_10 rfl hl (by decide) rfl (fun ls hl => ?_)
  refine lv_iconst (v := 1) hx hb dX3_range_11 (by decide) ?_
  refine lv_istore (lv' := [(4, .int 1), (3, .int (ar S 9 (3 * i + 0))), (2, .int (ar S 9 (3 * i + 0))), (0, .ref (ad 0)), (1, .int (nI i))]) hx hb dX3_range_12 hl (by decide) rfl (fun ls hl => ?_)
  refine lv_iload hx hb dX3_range_14 (lv_at hl 0 rfl) ?_
  refine lv_iconst (v := 3) hx hb dX3_range_16 (by decide) ?_
  refine lv_icmp_ge (tgt := 88) hx hb dX3_range_17 (by decide) (fun c_1 => ?_) (fun c_1 => ?_)
  · exact absurd c_1 (by decide)
  · refine lv_aload_n hx hb dX3_range_20 rfl (lv_at hl 3 rfl) ?_
    refine w_get cx (ci := 3) rfl iX3 (hP _ _ cM_0) 11 (by decide) k_462 (v := .ref (ad 10)) rfl dX3_range_21 ?_
    refine lv_iconst (v := 3) hx hb dX3_range_24 (by decide) ?_
    refine lv_iload_n hx hb dX3_range_25 rfl (lv_at hl 4 rfl) ?_
    refine lv_imul hx hb dX3_range_26 ?_
    refine lv_iload hx hb dX3_range_27 (lv_at hl 0 rfl) ?_
    refine lv_iadd hx hb dX3_range_29 ?_
    refine w_iald cx (hP _ _ (cM_A (n := 120) 9 (by decide) rfl rfl)) (3 * i + 1) (ix3 i 1 _ rfl) (by have h40 := hW.t; omega) (by decide) dX3_range_30 ?_
    refine lv_iload_n hx hb dX3_range_31 rfl (lv_at hl 2 rfl) ?_
    refine lv_icmp_le (tgt := 49) hx hb dX3_range_32 (by decide) (fun c_2 => ?_) (fun c_2 => ?_)
    · refine lv_iload_n hx hb dX3_range_49 rfl (lv_at hl 2 rfl) ?_
      refine lv_istore_n (lv' := [(2, .int (ar S 9 (3 * i + 0))), (4, .int 1), (3, .int (ar S 9 (3 * i + 0))), (0, .ref (ad 0)), (1, .int (nI i))]) hx hb dX3_range_50 rfl hl (by decide) rfl (fun ls hl => ?_)
      refine lv_aload_n hx hb dX3_range_51 rfl (lv_at hl 3 rfl) ?_
      refine w_get cx (ci := 3) rfl iX3 (hP _ _ cM_0) 11 (by decide) k_462 (v := .ref (ad 10)) rfl dX3_range_52 ?_
      refine lv_iconst (v := 3) hx hb dX3_range_55 (by decide) ?_
      refine lv_iload_n hx hb dX3_range_56 rfl (lv_at hl 4 rfl) ?_
      refine lv_imul hx hb dX3_range_57 ?_
      refine lv_iload hx hb dX3_range_58 (lv_at hl 1 rfl) ?_
      refine lv_iadd hx hb dX3_range_60 ?_
      refine w_iald cx (hP _ _ (cM_A (n := 120) 9 (by decide) rfl rfl)) (3 * i + 1) (ix3 i 1 _ rfl) (by have h40 := hW.t; omega) (by decide) dX3_range_61 ?_
      refine lv_iload_n hx hb dX3_range_62 rfl (lv_at hl 2 rfl) ?_
      refine lv_icmp_ge (tgt := 80) hx hb dX3_range_63 (by decide) (fun c_3 => ?_) (fun c_3 => ?_)
      · refine lv_iload_n hx hb dX3_range_80 rfl (lv_at hl 2 rfl) ?_
        refine lv_istore_n (lv' := [(3, .int (ar S 9 (3 * i + 0))), (2, .int (ar S 9 (3 * i + 0))), (4, .int 1), (0, .ref (ad 0)), (1, .int (nI i))]) hx hb dX3_range_81 rfl hl (by decide) rfl (fun ls hl => ?_)
        refine lv_iinc (v := 2) (lv' := [(4, .int 2), (3, .int (ar S 9 (3 * i + 0))), (2, .int (ar S 9 (3 * i + 0))), (0, .ref (ad 0)), (1, .int (nI i))]) hx hb dX3_range_82 hl (k := 2) rfl (by decide) (by decide) rfl (fun ls hl => ?_)
        refine lv_goto (tgt := 14) hx hb dX3_range_85 (by decide) ?_
        refine lv_iload hx hb dX3_range_14 (lv_at hl 0 rfl) ?_
        refine lv_iconst (v := 3) hx hb dX3_range_16 (by decide) ?_
        refine lv_icmp_ge (tgt := 88) hx hb dX3_range_17 (by decide) (fun c_4 => ?_) (fun c_4 => ?_)
        · exact absurd c_4 (by decide)
        · refine lv_aload_n hx hb dX3_range_20 rfl (lv_at hl 3 rfl) ?_
          refine w_get cx (ci := 3) rfl iX3 (hP _ _ cM_0) 11 (by decide) k_462 (v := .ref (ad 10)) rfl dX3_range_21 ?_
          refine lv_iconst (v := 3) hx hb dX3_range_24 (by decide) ?_
          refine lv_iload_n hx hb dX3_range_25 rfl (lv_at hl 4 rfl) ?_
          refine lv_imul hx hb dX3_range_26 ?_
          refine lv_iload hx hb dX3_range_27 (lv_at hl 0 rfl) ?_
          refine lv_iadd hx hb dX3_range_29 ?_
          refine w_iald cx (hP _ _ (cM_A (n := 120) 9 (by decide) rfl rfl)) (3 * i + 2) (ix3 i 2 _ rfl) (by have h40 := hW.t; omega) (by decide) dX3_range_30 ?_
          refine lv_iload_n hx hb dX3_range_31 rfl (lv_at hl 2 rfl) ?_
          refine lv_icmp_le (tgt := 49) hx hb dX3_range_32 (by decide) (fun c_5 => ?_) (fun c_5 => ?_)
          · refine lv_iload_n hx hb dX3_range_49 rfl (lv_at hl 2 rfl) ?_
            refine lv_istore_n (lv' := [(2, .int (ar S 9 (3 * i + 0))), (4, .int 2), (3, .int (ar S 9 (3 * i + 0))), (0, .ref (ad 0)), (1, .int (nI i))]) hx hb dX3_range_50 rfl hl (by decide) rfl (fun ls hl => ?_)
            refine lv_aload_n hx hb dX3_range_51 rfl (lv_at hl 3 rfl) ?_
            refine w_get cx (ci := 3) rfl iX3 (hP _ _ cM_0) 11 (by decide) k_462 (v := .ref (ad 10)) rfl dX3_range_52 ?_
            refine lv_iconst (v := 3) hx hb dX3_range_55 (by decide) ?_
            refine lv_iload_n hx hb dX3_range_56 rfl (lv_at hl 4 rfl) ?_
            refine lv_imul hx hb dX3_range_57 ?_
            refine lv_iload hx hb dX3_range_58 (lv_at hl 1 rfl) ?_
            refine lv_iadd hx hb dX3_range_60 ?_
            refine w_iald cx (hP _ _ (cM_A (n := 120) 9 (by decide) rfl rfl)) (3 * i + 2) (ix3 i 2 _ rfl) (by have h40 := hW.t; omega) (by decide) dX3_range_61 ?_
            refine lv_iload_n hx hb dX3_range_62 rfl (lv_at hl 2 rfl) ?_
            refine lv_icmp_ge (tgt := 80) hx hb dX3_range_63 (by decide) (fun c_6 => ?_) (fun c_6 => ?_)
            · refine lv_iload_n hx hb dX3_range_80 rfl (lv_at hl 2 rfl) ?_
              refine lv_istore_n (lv' := [(3, .int (ar S 9 (3 * i + 0))), (2, .int (ar S 9 (3 * i + 0))), (4, .int 2), (0, .ref (ad 0)), (1, .int (nI i))]) hx hb dX3_range_81 rfl hl (by decide) rfl (fun ls hl => ?_)
              refine lv_iinc (v := 3) (lv' := [(4, .int 3), (3, .int (ar S 9 (3 * i + 0))), (2, .int (ar S 9 (3 * i + 0))), (0, .ref (ad 0)), (1, .int (nI i))]) hx hb dX3_range_82 hl (k := 2) rfl (by decide) (by decide) rfl (fun ls hl => ?_)
              refine lv_goto (tgt := 14) hx hb dX3_range_85 (by decide) ?_
              refine lv_iload hx hb dX3_range_14 (lv_at hl 0 rfl) ?_
              refine lv_iconst (v := 3) hx hb dX3_range_16 (by decide) ?_
              refine lv_icmp_ge (tgt := 88) hx hb dX3_range_17 (by decide) (fun c_7 => ?_) (fun c_7 => ?_)
              · refine lv_iload_n hx hb dX3_range_88 rfl (lv_at hl 2 rfl) ?_
                refine lv_iload_n hx hb dX3_range_89 rfl (lv_at hl 1 rfl) ?_
                refine lv_isub hx hb dX3_range_90 ?_
                exact r_int cx hr hlk (by rw [f_X3_range, if_pos c_2, if_pos c_3, if_pos c_5, if_pos c_6]) dX3_range_91
              · exact absurd (by decide) c_7
            · refine lv_aload_n hx hb dX3_range_66 rfl (lv_at hl 3 rfl) ?_
              refine w_get cx (ci := 3) rfl iX3 (hP _ _ cM_0) 11 (by decide) k_462 (v := .ref (ad 10)) rfl dX3_range_67 ?_
              refine lv_iconst (v := 3) hx hb dX3_range_70 (by decide) ?_
              refine lv_iload_n hx hb dX3_range_71 rfl (lv_at hl 4 rfl) ?_
              refine lv_imul hx hb dX3_range_72 ?_
              refine lv_iload hx hb dX3_range_73 (lv_at hl 1 rfl) ?_
              refine lv_iadd hx hb dX3_range_75 ?_
              refine w_iald cx (hP _ _ (cM_A (n := 120) 9 (by decide) rfl rfl)) (3 * i + 2) (ix3 i 2 _ rfl) (by have h40 := hW.t; omega) (by decide) dX3_range_76 ?_
              refine lv_goto (tgt := 81) hx hb dX3_range_77 (by decide) ?_
              refine lv_istore_n (lv' := [(3, .int (ar S 9 (3 * i + 2))), (2, .int (ar S 9 (3 * i + 0))), (4, .int 2), (0, .ref (ad 0)), (1, .int (nI i))]) hx hb dX3_range_81 rfl hl (by decide) rfl (fun ls hl => ?_)
              refine lv_iinc (v := 3) (lv' := [(4, .int 3), (3, .int (ar S 9 (3 * i + 2))), (2, .int (ar S 9 (3 * i + 0))), (0, .ref (ad 0)), (1, .int (nI i))]) hx hb dX3_range_82 hl (k := 2) rfl (by decide) (by decide) rfl (fun ls hl => ?_)
              refine lv_goto (tgt := 14) hx hb dX3_range_85 (by decide) ?_
              refine lv_iload hx hb dX3_range_14 (lv_at hl 0 rfl) ?_
              refine lv_iconst (v := 3) hx hb dX3_range_16 (by decide) ?_
              refine lv_icmp_ge (tgt := 88) hx hb dX3_range_17 (by decide) (fun c_8 => ?_) (fun c_8 => ?_)
              · refine lv_iload_n hx hb dX3_range_88 rfl (lv_at hl 2 rfl) ?_
                refine lv_iload_n hx hb dX3_range_89 rfl (lv_at hl 1 rfl) ?_
                refine lv_isub hx hb dX3_range_90 ?_
                exact r_int cx hr hlk (by rw [f_X3_range, if_pos c_2, if_pos c_3, if_pos c_5, if_neg c_6]) dX3_range_91
              · exact absurd (by decide) c_8
          · refine lv_aload_n hx hb dX3_range_35 rfl (lv_at hl 3 rfl) ?_
            refine w_get cx (ci := 3) rfl iX3 (hP _ _ cM_0) 11 (by decide) k_462 (v := .ref (ad 10)) rfl dX3_range_36 ?_
            refine lv_iconst (v := 3) hx hb dX3_range_39 (by decide) ?_
            refine lv_iload_n hx hb dX3_range_40 rfl (lv_at hl 4 rfl) ?_
            refine lv_imul hx hb dX3_range_41 ?_
            refine lv_iload hx hb dX3_range_42 (lv_at hl 0 rfl) ?_
            refine lv_iadd hx hb dX3_range_44 ?_
            refine w_iald cx (hP _ _ (cM_A (n := 120) 9 (by decide) rfl rfl)) (3 * i + 2) (ix3 i 2 _ rfl) (by have h40 := hW.t; omega) (by decide) dX3_range_45 ?_
            refine lv_goto (tgt := 50) hx hb dX3_range_46 (by decide) ?_
            refine lv_istore_n (lv' := [(2, .int (ar S 9 (3 * i + 2))), (4, .int 2), (3, .int (ar S 9 (3 * i + 0))), (0, .ref (ad 0)), (1, .int (nI i))]) hx hb dX3_range_50 rfl hl (by decide) rfl (fun ls hl => ?_)
            refine lv_aload_n hx hb dX3_range_51 rfl (lv_at hl 3 rfl) ?_
            refine w_get cx (ci := 3) rfl iX3 (hP _ _ cM_0) 11 (by decide) k_462 (v := .ref (ad 10)) rfl dX3_range_52 ?_
            refine lv_iconst (v := 3) hx hb dX3_range_55 (by decide) ?_
            refine lv_iload_n hx hb dX3_range_56 rfl (lv_at hl 4 rfl) ?_
            refine lv_imul hx hb dX3_range_57 ?_
            refine lv_iload hx hb dX3_range_58 (lv_at hl 1 rfl) ?_
            refine lv_iadd hx hb dX3_range_60 ?_
            refine w_iald cx (hP _ _ (cM_A (n := 120) 9 (by decide) rfl rfl)) (3 * i + 2) (ix3 i 2 _ rfl) (by have h40 := hW.t; omega) (by decide) dX3_range_61 ?_
            refine lv_iload_n hx hb dX3_range_62 rfl (lv_at hl 2 rfl) ?_
            refine lv_icmp_ge (tgt := 80) hx hb dX3_range_63 (by decide) (fun c_9 => ?_) (fun c_9 => ?_)
            · refine lv_iload_n hx hb dX3_range_80 rfl (lv_at hl 2 rfl) ?_
              refine lv_istore_n (lv' := [(3, .int (ar S 9 (3 * i + 0))), (2, .int (ar S 9 (3 * i + 2))), (4, .int 2), (0, .ref (ad 0)), (1, .int (nI i))]) hx hb dX3_range_81 rfl hl (by decide) rfl (fun ls hl => ?_)
              refine lv_iinc (v := 3) (lv' := [(4, .int 3), (3, .int (ar S 9 (3 * i + 0))), (2, .int (ar S 9 (3 * i + 2))), (0, .ref (ad 0)), (1, .int (nI i))]) hx hb dX3_range_82 hl (k := 2) rfl (by decide) (by decide) rfl (fun ls hl => ?_)
              refine lv_goto (tgt := 14) hx hb dX3_range_85 (by decide) ?_
              refine lv_iload hx hb dX3_range_14 (lv_at hl 0 rfl) ?_
              refine lv_iconst (v := 3) hx hb dX3_range_16 (by decide) ?_
              refine lv_icmp_ge (tgt := 88) hx hb dX3_range_17 (by decide) (fun c_10 => ?_) (fun c_10 => ?_)
              · refine lv_iload_n hx hb dX3_range_88 rfl (lv_at hl 2 rfl) ?_
                refine lv_iload_n hx hb dX3_range_89 rfl (lv_at hl 1 rfl) ?_
                refine lv_isub hx hb dX3_range_90 ?_
                exact r_int cx hr hlk (by rw [f_X3_range, if_pos c_2, if_pos c_3, if_neg c_5, if_pos c_9]) dX3_range_91
              · exact absurd (by decide) c_10
            · refine lv_aload_n hx hb dX3_range_66 rfl (lv_at hl 3 rfl) ?_
              refine w_get cx (ci := 3) rfl iX3 (hP _ _ cM_0) 11 (by decide) k_462 (v := .ref (ad 10)) rfl dX3_range_67 ?_
              refine lv_iconst (v := 3) hx hb dX3_range_70 (by decide) ?_
              refine lv_iload_n hx hb dX3_range_71 rfl (lv_at hl 4 rfl) ?_
              refine lv_imul hx hb dX3_range_72 ?_
              refine lv_iload hx hb dX3_range_73 (lv_at hl 1 rfl) ?_
              refine lv_iadd hx hb dX3_range_75 ?_
              refine w_iald cx (hP _ _ (cM_A (n := 120) 9 (by decide) rfl rfl)) (3 * i + 2) (ix3 i 2 _ rfl) (by have h40 := hW.t; omega) (by decide) dX3_range_76 ?_
              refine lv_goto (tgt := 81) hx hb dX3_range_77 (by decide) ?_
              refine lv_istore_n (lv' := [(3, .int (ar S 9 (3 * i + 2))), (2, .int (ar S 9 (3 * i + 2))), (4, .int 2), (0, .ref (ad 0)), (1, .int (nI i))]) hx hb dX3_range_81 rfl hl (by decide) rfl (fun ls hl => ?_)
              refine lv_iinc (v := 3) (lv' := [(4, .int 3), (3, .int (ar S 9 (3 * i + 2))), (2, .int (ar S 9 (3 * i + 2))), (0, .ref (ad 0)), (1, .int (nI i))]) hx hb dX3_range_82 hl (k := 2) rfl (by decide) (by decide) rfl (fun ls hl => ?_)
              refine lv_goto (tgt := 14) hx hb dX3_range_85 (by decide) ?_
              refine lv_iload hx hb dX3_range_14 (lv_at hl 0 rfl) ?_
              refine lv_iconst (v := 3) hx hb dX3_range_16 (by decide) ?_
              refine lv_icmp_ge (tgt := 88) hx hb dX3_range_17 (by decide) (fun c_11 => ?_) (fun c_11 => ?_)
              · refine lv_iload_n hx hb dX3_range_88 rfl (lv_at hl 2 rfl) ?_
                refine lv_iload_n hx hb dX3_range_89 rfl (lv_at hl 1 rfl) ?_
                refine lv_isub hx hb dX3_range_90 ?_
                exact r_int cx hr hlk (by rw [f_X3_range, if_pos c_2, if_pos c_3, if_neg c_5, if_neg c_9]) dX3_range_91
              · exact absurd (by decide) c_11
      · refine lv_aload_n hx hb dX3_range_66 rfl (lv_at hl 3 rfl) ?_
        refine w_get cx (ci := 3) rfl iX3 (hP _ _ cM_0) 11 (by decide) k_462 (v := .ref (ad 10)) rfl dX3_range_67 ?_
        refine lv_iconst (v := 3) hx hb dX3_range_70 (by decide) ?_
        refine lv_iload_n hx hb dX3_range_71 rfl (lv_at hl 4 rfl) ?_
        refine lv_imul hx hb dX3_range_72 ?_
        refine lv_iload hx hb dX3_range_73 (lv_at hl 1 rfl) ?_
        refine lv_iadd hx hb dX3_range_75 ?_
        refine w_iald cx (hP _ _ (cM_A (n := 120) 9 (by decide) rfl rfl)) (3 * i + 1) (ix3 i 1 _ rfl) (by have h40 := hW.t; omega) (by decide) dX3_range_76 ?_
        refine lv_goto (tgt := 81) hx hb dX3_range_77 (by decide) ?_
        refine lv_istore_n (lv' := [(3, .int (ar S 9 (3 * i + 1))), (2, .int (ar S 9 (3 * i + 0))), (4, .int 1), (0, .ref (ad 0)), (1, .int (nI i))]) hx hb dX3_range_81 rfl hl (by decide) rfl (fun ls hl => ?_)
        refine lv_iinc (v := 2) (lv' := [(4, .int 2), (3, .int (ar S 9 (3 * i + 1))), (2, .int (ar S 9 (3 * i + 0))), (0, .ref (ad 0)), (1, .int (nI i))]) hx hb dX3_range_82 hl (k := 2) rfl (by decide) (by decide) rfl (fun ls hl => ?_)
        refine lv_goto (tgt := 14) hx hb dX3_range_85 (by decide) ?_
        refine lv_iload hx hb dX3_range_14 (lv_at hl 0 rfl) ?_
        refine lv_iconst (v := 3) hx hb dX3_range_16 (by decide) ?_
        refine lv_icmp_ge (tgt := 88) hx hb dX3_range_17 (by decide) (fun c_12 => ?_) (fun c_12 => ?_)
        · exact absurd c_12 (by decide)
        · refine lv_aload_n hx hb dX3_range_20 rfl (lv_at hl 3 rfl) ?_
          refine w_get cx (ci := 3) rfl iX3 (hP _ _ cM_0) 11 (by decide) k_462 (v := .ref (ad 10)) rfl dX3_range_21 ?_
          refine lv_iconst (v := 3) hx hb dX3_range_24 (by decide) ?_
          refine lv_iload_n hx hb dX3_range_25 rfl (lv_at hl 4 rfl) ?_
          refine lv_imul hx hb dX3_range_26 ?_
          refine lv_iload hx hb dX3_range_27 (lv_at hl 0 rfl) ?_
          refine lv_iadd hx hb dX3_range_29 ?_
          refine w_iald cx (hP _ _ (cM_A (n := 120) 9 (by decide) rfl rfl)) (3 * i + 2) (ix3 i 2 _ rfl) (by have h40 := hW.t; omega) (by decide) dX3_range_30 ?_
          refine lv_iload_n hx hb dX3_range_31 rfl (lv_at hl 2 rfl) ?_
          refine lv_icmp_le (tgt := 49) hx hb dX3_range_32 (by decide) (fun c_13 => ?_) (fun c_13 => ?_)
          · refine lv_iload_n hx hb dX3_range_49 rfl (lv_at hl 2 rfl) ?_
            refine lv_istore_n (lv' := [(2, .int (ar S 9 (3 * i + 0))), (4, .int 2), (3, .int (ar S 9 (3 * i + 1))), (0, .ref (ad 0)), (1, .int (nI i))]) hx hb dX3_range_50 rfl hl (by decide) rfl (fun ls hl => ?_)
            refine lv_aload_n hx hb dX3_range_51 rfl (lv_at hl 3 rfl) ?_
            refine w_get cx (ci := 3) rfl iX3 (hP _ _ cM_0) 11 (by decide) k_462 (v := .ref (ad 10)) rfl dX3_range_52 ?_
            refine lv_iconst (v := 3) hx hb dX3_range_55 (by decide) ?_
            refine lv_iload_n hx hb dX3_range_56 rfl (lv_at hl 4 rfl) ?_
            refine lv_imul hx hb dX3_range_57 ?_
            refine lv_iload hx hb dX3_range_58 (lv_at hl 1 rfl) ?_
            refine lv_iadd hx hb dX3_range_60 ?_
            refine w_iald cx (hP _ _ (cM_A (n := 120) 9 (by decide) rfl rfl)) (3 * i + 2) (ix3 i 2 _ rfl) (by have h40 := hW.t; omega) (by decide) dX3_range_61 ?_
            refine lv_iload_n hx hb dX3_range_62 rfl (lv_at hl 2 rfl) ?_
            refine lv_icmp_ge (tgt := 80) hx hb dX3_range_63 (by decide) (fun c_14 => ?_) (fun c_14 => ?_)
            · refine lv_iload_n hx hb dX3_range_80 rfl (lv_at hl 2 rfl) ?_
              refine lv_istore_n (lv' := [(3, .int (ar S 9 (3 * i + 1))), (2, .int (ar S 9 (3 * i + 0))), (4, .int 2), (0, .ref (ad 0)), (1, .int (nI i))]) hx hb dX3_range_81 rfl hl (by decide) rfl (fun ls hl => ?_)
              refine lv_iinc (v := 3) (lv' := [(4, .int 3), (3, .int (ar S 9 (3 * i + 1))), (2, .int (ar S 9 (3 * i + 0))), (0, .ref (ad 0)), (1, .int (nI i))]) hx hb dX3_range_82 hl (k := 2) rfl (by decide) (by decide) rfl (fun ls hl => ?_)
              refine lv_goto (tgt := 14) hx hb dX3_range_85 (by decide) ?_
              refine lv_iload hx hb dX3_range_14 (lv_at hl 0 rfl) ?_
              refine lv_iconst (v := 3) hx hb dX3_range_16 (by decide) ?_
              refine lv_icmp_ge (tgt := 88) hx hb dX3_range_17 (by decide) (fun c_15 => ?_) (fun c_15 => ?_)
              · refine lv_iload_n hx hb dX3_range_88 rfl (lv_at hl 2 rfl) ?_
                refine lv_iload_n hx hb dX3_range_89 rfl (lv_at hl 1 rfl) ?_
                refine lv_isub hx hb dX3_range_90 ?_
                exact r_int cx hr hlk (by rw [f_X3_range, if_pos c_2, if_neg c_3, if_pos c_13, if_pos c_14]) dX3_range_91
              · exact absurd (by decide) c_15
            · refine lv_aload_n hx hb dX3_range_66 rfl (lv_at hl 3 rfl) ?_
              refine w_get cx (ci := 3) rfl iX3 (hP _ _ cM_0) 11 (by decide) k_462 (v := .ref (ad 10)) rfl dX3_range_67 ?_
              refine lv_iconst (v := 3) hx hb dX3_range_70 (by decide) ?_
              refine lv_iload_n hx hb dX3_range_71 rfl (lv_at hl 4 rfl) ?_
              refine lv_imul hx hb dX3_range_72 ?_
              refine lv_iload hx hb dX3_range_73 (lv_at hl 1 rfl) ?_
              refine lv_iadd hx hb dX3_range_75 ?_
              refine w_iald cx (hP _ _ (cM_A (n := 120) 9 (by decide) rfl rfl)) (3 * i + 2) (ix3 i 2 _ rfl) (by have h40 := hW.t; omega) (by decide) dX3_range_76 ?_
              refine lv_goto (tgt := 81) hx hb dX3_range_77 (by decide) ?_
              refine lv_istore_n (lv' := [(3, .int (ar S 9 (3 * i + 2))), (2, .int (ar S 9 (3 * i + 0))), (4, .int 2), (0, .ref (ad 0)), (1, .int (nI i))]) hx hb dX3_range_81 rfl hl (by decide) rfl (fun ls hl => ?_)
              refine lv_iinc (v := 3) (lv' := [(4, .int 3), (3, .int (ar S 9 (3 * i + 2))), (2, .int (ar S 9 (3 * i + 0))), (0, .ref (ad 0)), (1, .int (nI i))]) hx hb dX3_range_82 hl (k := 2) rfl (by decide) (by decide) rfl (fun ls hl => ?_)
              refine lv_goto (tgt := 14) hx hb dX3_range_85 (by decide) ?_
              refine lv_iload hx hb dX3_range_14 (lv_at hl 0 rfl) ?_
              refine lv_iconst (v := 3) hx hb dX3_range_16 (by decide) ?_
              refine lv_icmp_ge (tgt := 88) hx hb dX3_range_17 (by decide) (fun c_16 => ?_) (fun c_16 => ?_)
              · refine lv_iload_n hx hb dX3_range_88 rfl (lv_at hl 2 rfl) ?_
                refine lv_iload_n hx hb dX3_range_89 rfl (lv_at hl 1 rfl) ?_
                refine lv_isub hx hb dX3_range_90 ?_
                exact r_int cx hr hlk (by rw [f_X3_range, if_pos c_2, if_neg c_3, if_pos c_13, if_neg c_14]) dX3_range_91
              · exact absurd (by decide) c_16
          · refine lv_aload_n hx hb dX3_range_35 rfl (lv_at hl 3 rfl) ?_
            refine w_get cx (ci := 3) rfl iX3 (hP _ _ cM_0) 11 (by decide) k_462 (v := .ref (ad 10)) rfl dX3_range_36 ?_
            refine lv_iconst (v := 3) hx hb dX3_range_39 (by decide) ?_
            refine lv_iload_n hx hb dX3_range_40 rfl (lv_at hl 4 rfl) ?_
            refine lv_imul hx hb dX3_range_41 ?_
            refine lv_iload hx hb dX3_range_42 (lv_at hl 0 rfl) ?_
            refine lv_iadd hx hb dX3_range_44 ?_
            refine w_iald cx (hP _ _ (cM_A (n := 120) 9 (by decide) rfl rfl)) (3 * i + 2) (ix3 i 2 _ rfl) (by have h40 := hW.t; omega) (by decide) dX3_range_45 ?_
            refine lv_goto (tgt := 50) hx hb dX3_range_46 (by decide) ?_
            refine lv_istore_n (lv' := [(2, .int (ar S 9 (3 * i + 2))), (4, .int 2), (3, .int (ar S 9 (3 * i + 1))), (0, .ref (ad 0)), (1, .int (nI i))]) hx hb dX3_range_50 rfl hl (by decide) rfl (fun ls hl => ?_)
            refine lv_aload_n hx hb dX3_range_51 rfl (lv_at hl 3 rfl) ?_
            refine w_get cx (ci := 3) rfl iX3 (hP _ _ cM_0) 11 (by decide) k_462 (v := .ref (ad 10)) rfl dX3_range_52 ?_
            refine lv_iconst (v := 3) hx hb dX3_range_55 (by decide) ?_
            refine lv_iload_n hx hb dX3_range_56 rfl (lv_at hl 4 rfl) ?_
            refine lv_imul hx hb dX3_range_57 ?_
            refine lv_iload hx hb dX3_range_58 (lv_at hl 1 rfl) ?_
            refine lv_iadd hx hb dX3_range_60 ?_
            refine w_iald cx (hP _ _ (cM_A (n := 120) 9 (by decide) rfl rfl)) (3 * i + 2) (ix3 i 2 _ rfl) (by have h40 := hW.t; omega) (by decide) dX3_range_61 ?_
            refine lv_iload_n hx hb dX3_range_62 rfl (lv_at hl 2 rfl) ?_
            refine lv_icmp_ge (tgt := 80) hx hb dX3_range_63 (by decide) (fun c_17 => ?_) (fun c_17 => ?_)
            · refine lv_iload_n hx hb dX3_range_80 rfl (lv_at hl 2 rfl) ?_
              refine lv_istore_n (lv' := [(3, .int (ar S 9 (3 * i + 1))), (2, .int (ar S 9 (3 * i + 2))), (4, .int 2), (0, .ref (ad 0)), (1, .int (nI i))]) hx hb dX3_range_81 rfl hl (by decide) rfl (fun ls hl => ?_)
              refine lv_iinc (v := 3) (lv' := [(4, .int 3), (3, .int (ar S 9 (3 * i + 1))), (2, .int (ar S 9 (3 * i + 2))), (0, .ref (ad 0)), (1, .int (nI i))]) hx hb dX3_range_82 hl (k := 2) rfl (by decide) (by decide) rfl (fun ls hl => ?_)
              refine lv_goto (tgt := 14) hx hb dX3_range_85 (by decide) ?_
              refine lv_iload hx hb dX3_range_14 (lv_at hl 0 rfl) ?_
              refine lv_iconst (v := 3) hx hb dX3_range_16 (by decide) ?_
              refine lv_icmp_ge (tgt := 88) hx hb dX3_range_17 (by decide) (fun c_18 => ?_) (fun c_18 => ?_)
              · refine lv_iload_n hx hb dX3_range_88 rfl (lv_at hl 2 rfl) ?_
                refine lv_iload_n hx hb dX3_range_89 rfl (lv_at hl 1 rfl) ?_
                refine lv_isub hx hb dX3_range_90 ?_
                exact r_int cx hr hlk (by rw [f_X3_range, if_pos c_2, if_neg c_3, if_neg c_13, if_pos c_17]) dX3_range_91
              · exact absurd (by decide) c_18
            · refine lv_aload_n hx hb dX3_range_66 rfl (lv_at hl 3 rfl) ?_
              refine w_get cx (ci := 3) rfl iX3 (hP _ _ cM_0) 11 (by decide) k_462 (v := .ref (ad 10)) rfl dX3_range_67 ?_
              refine lv_iconst (v := 3) hx hb dX3_range_70 (by decide) ?_
              refine lv_iload_n hx hb dX3_range_71 rfl (lv_at hl 4 rfl) ?_
              refine lv_imul hx hb dX3_range_72 ?_
              refine lv_iload hx hb dX3_range_73 (lv_at hl 1 rfl) ?_
              refine lv_iadd hx hb dX3_range_75 ?_
              refine w_iald cx (hP _ _ (cM_A (n := 120) 9 (by decide) rfl rfl)) (3 * i + 2) (ix3 i 2 _ rfl) (by have h40 := hW.t; omega) (by decide) dX3_range_76 ?_
              refine lv_goto (tgt := 81) hx hb dX3_range_77 (by decide) ?_
              refine lv_istore_n (lv' := [(3, .int (ar S 9 (3 * i + 2))), (2, .int (ar S 9 (3 * i + 2))), (4, .int 2), (0, .ref (ad 0)), (1, .int (nI i))]) hx hb dX3_range_81 rfl hl (by decide) rfl (fun ls hl => ?_)
              refine lv_iinc (v := 3) (lv' := [(4, .int 3), (3, .int (ar S 9 (3 * i + 2))), (2, .int (ar S 9 (3 * i + 2))), (0, .ref (ad 0)), (1, .int (nI i))]) hx hb dX3_range_82 hl (k := 2) rfl (by decide) (by decide) rfl (fun ls hl => ?_)
              refine lv_goto (tgt := 14) hx hb dX3_range_85 (by decide) ?_
              refine lv_iload hx hb dX3_range_14 (lv_at hl 0 rfl) ?_
              refine lv_iconst (v := 3) hx hb dX3_range_16 (by decide) ?_
              refine lv_icmp_ge (tgt := 88) hx hb dX3_range_17 (by decide) (fun c_19 => ?_) (fun c_19 => ?_)
              · refine lv_iload_n hx hb dX3_range_88 rfl (lv_at hl 2 rfl) ?_
                refine lv_iload_n hx hb dX3_range_89 rfl (lv_at hl 1 rfl) ?_
                refine lv_isub hx hb dX3_range_90 ?_
                exact r_int cx hr hlk (by rw [f_X3_range, if_pos c_2, if_neg c_3, if_neg c_13, if_neg c_17]) dX3_range_91
              · exact absurd (by decide) c_19
    · refine lv_aload_n hx hb dX3_range_35 rfl (lv_at hl 3 rfl) ?_
      refine w_get cx (ci := 3) rfl iX3 (hP _ _ cM_0) 11 (by decide) k_462 (v := .ref (ad 10)) rfl dX3_range_36 ?_
      refine lv_iconst (v := 3) hx hb dX3_range_39 (by decide) ?_
      refine lv_iload_n hx hb dX3_range_40 rfl (lv_at hl 4 rfl) ?_
      refine lv_imul hx hb dX3_range_41 ?_
      refine lv_iload hx hb dX3_range_42 (lv_at hl 0 rfl) ?_
      refine lv_iadd hx hb dX3_range_44 ?_
      refine w_iald cx (hP _ _ (cM_A (n := 120) 9 (by decide) rfl rfl)) (3 * i + 1) (ix3 i 1 _ rfl) (by have h40 := hW.t; omega) (by decide) dX3_range_45 ?_
      refine lv_goto (tgt := 50) hx hb dX3_range_46 (by decide) ?_
      refine lv_istore_n (lv' := [(2, .int (ar S 9 (3 * i + 1))), (4, .int 1), (3, .int (ar S 9 (3 * i + 0))), (0, .ref (ad 0)), (1, .int (nI i))]) hx hb dX3_range_50 rfl hl (by decide) rfl (fun ls hl => ?_)
      refine lv_aload_n hx hb dX3_range_51 rfl (lv_at hl 3 rfl) ?_
      refine w_get cx (ci := 3) rfl iX3 (hP _ _ cM_0) 11 (by decide) k_462 (v := .ref (ad 10)) rfl dX3_range_52 ?_
      refine lv_iconst (v := 3) hx hb dX3_range_55 (by decide) ?_
      refine lv_iload_n hx hb dX3_range_56 rfl (lv_at hl 4 rfl) ?_
      refine lv_imul hx hb dX3_range_57 ?_
      refine lv_iload hx hb dX3_range_58 (lv_at hl 1 rfl) ?_
      refine lv_iadd hx hb dX3_range_60 ?_
      refine w_iald cx (hP _ _ (cM_A (n := 120) 9 (by decide) rfl rfl)) (3 * i + 1) (ix3 i 1 _ rfl) (by have h40 := hW.t; omega) (by decide) dX3_range_61 ?_
      refine lv_iload_n hx hb dX3_range_62 rfl (lv_at hl 2 rfl) ?_
      refine lv_icmp_ge (tgt := 80) hx hb dX3_range_63 (by decide) (fun c_20 => ?_) (fun c_20 => ?_)
      · refine lv_iload_n hx hb dX3_range_80 rfl (lv_at hl 2 rfl) ?_
        refine lv_istore_n (lv' := [(3, .int (ar S 9 (3 * i + 0))), (2, .int (ar S 9 (3 * i + 1))), (4, .int 1), (0, .ref (ad 0)), (1, .int (nI i))]) hx hb dX3_range_81 rfl hl (by decide) rfl (fun ls hl => ?_)
        refine lv_iinc (v := 2) (lv' := [(4, .int 2), (3, .int (ar S 9 (3 * i + 0))), (2, .int (ar S 9 (3 * i + 1))), (0, .ref (ad 0)), (1, .int (nI i))]) hx hb dX3_range_82 hl (k := 2) rfl (by decide) (by decide) rfl (fun ls hl => ?_)
        refine lv_goto (tgt := 14) hx hb dX3_range_85 (by decide) ?_
        refine lv_iload hx hb dX3_range_14 (lv_at hl 0 rfl) ?_
        refine lv_iconst (v := 3) hx hb dX3_range_16 (by decide) ?_
        refine lv_icmp_ge (tgt := 88) hx hb dX3_range_17 (by decide) (fun c_21 => ?_) (fun c_21 => ?_)
        · exact absurd c_21 (by decide)
        · refine lv_aload_n hx hb dX3_range_20 rfl (lv_at hl 3 rfl) ?_
          refine w_get cx (ci := 3) rfl iX3 (hP _ _ cM_0) 11 (by decide) k_462 (v := .ref (ad 10)) rfl dX3_range_21 ?_
          refine lv_iconst (v := 3) hx hb dX3_range_24 (by decide) ?_
          refine lv_iload_n hx hb dX3_range_25 rfl (lv_at hl 4 rfl) ?_
          refine lv_imul hx hb dX3_range_26 ?_
          refine lv_iload hx hb dX3_range_27 (lv_at hl 0 rfl) ?_
          refine lv_iadd hx hb dX3_range_29 ?_
          refine w_iald cx (hP _ _ (cM_A (n := 120) 9 (by decide) rfl rfl)) (3 * i + 2) (ix3 i 2 _ rfl) (by have h40 := hW.t; omega) (by decide) dX3_range_30 ?_
          refine lv_iload_n hx hb dX3_range_31 rfl (lv_at hl 2 rfl) ?_
          refine lv_icmp_le (tgt := 49) hx hb dX3_range_32 (by decide) (fun c_22 => ?_) (fun c_22 => ?_)
          · refine lv_iload_n hx hb dX3_range_49 rfl (lv_at hl 2 rfl) ?_
            refine lv_istore_n (lv' := [(2, .int (ar S 9 (3 * i + 1))), (4, .int 2), (3, .int (ar S 9 (3 * i + 0))), (0, .ref (ad 0)), (1, .int (nI i))]) hx hb dX3_range_50 rfl hl (by decide) rfl (fun ls hl => ?_)
            refine lv_aload_n hx hb dX3_range_51 rfl (lv_at hl 3 rfl) ?_
            refine w_get cx (ci := 3) rfl iX3 (hP _ _ cM_0) 11 (by decide) k_462 (v := .ref (ad 10)) rfl dX3_range_52 ?_
            refine lv_iconst (v := 3) hx hb dX3_range_55 (by decide) ?_
            refine lv_iload_n hx hb dX3_range_56 rfl (lv_at hl 4 rfl) ?_
            refine lv_imul hx hb dX3_range_57 ?_
            refine lv_iload hx hb dX3_range_58 (lv_at hl 1 rfl) ?_
            refine lv_iadd hx hb dX3_range_60 ?_
            refine w_iald cx (hP _ _ (cM_A (n := 120) 9 (by decide) rfl rfl)) (3 * i + 2) (ix3 i 2 _ rfl) (by have h40 := hW.t; omega) (by decide) dX3_range_61 ?_
            refine lv_iload_n hx hb dX3_range_62 rfl (lv_at hl 2 rfl) ?_
            refine lv_icmp_ge (tgt := 80) hx hb dX3_range_63 (by decide) (fun c_23 => ?_) (fun c_23 => ?_)
            · refine lv_iload_n hx hb dX3_range_80 rfl (lv_at hl 2 rfl) ?_
              refine lv_istore_n (lv' := [(3, .int (ar S 9 (3 * i + 0))), (2, .int (ar S 9 (3 * i + 1))), (4, .int 2), (0, .ref (ad 0)), (1, .int (nI i))]) hx hb dX3_range_81 rfl hl (by decide) rfl (fun ls hl => ?_)
              refine lv_iinc (v := 3) (lv' := [(4, .int 3), (3, .int (ar S 9 (3 * i + 0))), (2, .int (ar S 9 (3 * i + 1))), (0, .ref (ad 0)), (1, .int (nI i))]) hx hb dX3_range_82 hl (k := 2) rfl (by decide) (by decide) rfl (fun ls hl => ?_)
              refine lv_goto (tgt := 14) hx hb dX3_range_85 (by decide) ?_
              refine lv_iload hx hb dX3_range_14 (lv_at hl 0 rfl) ?_
              refine lv_iconst (v := 3) hx hb dX3_range_16 (by decide) ?_
              refine lv_icmp_ge (tgt := 88) hx hb dX3_range_17 (by decide) (fun c_24 => ?_) (fun c_24 => ?_)
              · refine lv_iload_n hx hb dX3_range_88 rfl (lv_at hl 2 rfl) ?_
                refine lv_iload_n hx hb dX3_range_89 rfl (lv_at hl 1 rfl) ?_
                refine lv_isub hx hb dX3_range_90 ?_
                exact r_int cx hr hlk (by rw [f_X3_range, if_neg c_2, if_pos c_20, if_pos c_22, if_pos c_23]) dX3_range_91
              · exact absurd (by decide) c_24
            · refine lv_aload_n hx hb dX3_range_66 rfl (lv_at hl 3 rfl) ?_
              refine w_get cx (ci := 3) rfl iX3 (hP _ _ cM_0) 11 (by decide) k_462 (v := .ref (ad 10)) rfl dX3_range_67 ?_
              refine lv_iconst (v := 3) hx hb dX3_range_70 (by decide) ?_
              refine lv_iload_n hx hb dX3_range_71 rfl (lv_at hl 4 rfl) ?_
              refine lv_imul hx hb dX3_range_72 ?_
              refine lv_iload hx hb dX3_range_73 (lv_at hl 1 rfl) ?_
              refine lv_iadd hx hb dX3_range_75 ?_
              refine w_iald cx (hP _ _ (cM_A (n := 120) 9 (by decide) rfl rfl)) (3 * i + 2) (ix3 i 2 _ rfl) (by have h40 := hW.t; omega) (by decide) dX3_range_76 ?_
              refine lv_goto (tgt := 81) hx hb dX3_range_77 (by decide) ?_
              refine lv_istore_n (lv' := [(3, .int (ar S 9 (3 * i + 2))), (2, .int (ar S 9 (3 * i + 1))), (4, .int 2), (0, .ref (ad 0)), (1, .int (nI i))]) hx hb dX3_range_81 rfl hl (by decide) rfl (fun ls hl => ?_)
              refine lv_iinc (v := 3) (lv' := [(4, .int 3), (3, .int (ar S 9 (3 * i + 2))), (2, .int (ar S 9 (3 * i + 1))), (0, .ref (ad 0)), (1, .int (nI i))]) hx hb dX3_range_82 hl (k := 2) rfl (by decide) (by decide) rfl (fun ls hl => ?_)
              refine lv_goto (tgt := 14) hx hb dX3_range_85 (by decide) ?_
              refine lv_iload hx hb dX3_range_14 (lv_at hl 0 rfl) ?_
              refine lv_iconst (v := 3) hx hb dX3_range_16 (by decide) ?_
              refine lv_icmp_ge (tgt := 88) hx hb dX3_range_17 (by decide) (fun c_25 => ?_) (fun c_25 => ?_)
              · refine lv_iload_n hx hb dX3_range_88 rfl (lv_at hl 2 rfl) ?_
                refine lv_iload_n hx hb dX3_range_89 rfl (lv_at hl 1 rfl) ?_
                refine lv_isub hx hb dX3_range_90 ?_
                exact r_int cx hr hlk (by rw [f_X3_range, if_neg c_2, if_pos c_20, if_pos c_22, if_neg c_23]) dX3_range_91
              · exact absurd (by decide) c_25
          · refine lv_aload_n hx hb dX3_range_35 rfl (lv_at hl 3 rfl) ?_
            refine w_get cx (ci := 3) rfl iX3 (hP _ _ cM_0) 11 (by decide) k_462 (v := .ref (ad 10)) rfl dX3_range_36 ?_
            refine lv_iconst (v := 3) hx hb dX3_range_39 (by decide) ?_
            refine lv_iload_n hx hb dX3_range_40 rfl (lv_at hl 4 rfl) ?_
            refine lv_imul hx hb dX3_range_41 ?_
            refine lv_iload hx hb dX3_range_42 (lv_at hl 0 rfl) ?_
            refine lv_iadd hx hb dX3_range_44 ?_
            refine w_iald cx (hP _ _ (cM_A (n := 120) 9 (by decide) rfl rfl)) (3 * i + 2) (ix3 i 2 _ rfl) (by have h40 := hW.t; omega) (by decide) dX3_range_45 ?_
            refine lv_goto (tgt := 50) hx hb dX3_range_46 (by decide) ?_
            refine lv_istore_n (lv' := [(2, .int (ar S 9 (3 * i + 2))), (4, .int 2), (3, .int (ar S 9 (3 * i + 0))), (0, .ref (ad 0)), (1, .int (nI i))]) hx hb dX3_range_50 rfl hl (by decide) rfl (fun ls hl => ?_)
            refine lv_aload_n hx hb dX3_range_51 rfl (lv_at hl 3 rfl) ?_
            refine w_get cx (ci := 3) rfl iX3 (hP _ _ cM_0) 11 (by decide) k_462 (v := .ref (ad 10)) rfl dX3_range_52 ?_
            refine lv_iconst (v := 3) hx hb dX3_range_55 (by decide) ?_
            refine lv_iload_n hx hb dX3_range_56 rfl (lv_at hl 4 rfl) ?_
            refine lv_imul hx hb dX3_range_57 ?_
            refine lv_iload hx hb dX3_range_58 (lv_at hl 1 rfl) ?_
            refine lv_iadd hx hb dX3_range_60 ?_
            refine w_iald cx (hP _ _ (cM_A (n := 120) 9 (by decide) rfl rfl)) (3 * i + 2) (ix3 i 2 _ rfl) (by have h40 := hW.t; omega) (by decide) dX3_range_61 ?_
            refine lv_iload_n hx hb dX3_range_62 rfl (lv_at hl 2 rfl) ?_
            refine lv_icmp_ge (tgt := 80) hx hb dX3_range_63 (by decide) (fun c_26 => ?_) (fun c_26 => ?_)
            · refine lv_iload_n hx hb dX3_range_80 rfl (lv_at hl 2 rfl) ?_
              refine lv_istore_n (lv' := [(3, .int (ar S 9 (3 * i + 0))), (2, .int (ar S 9 (3 * i + 2))), (4, .int 2), (0, .ref (ad 0)), (1, .int (nI i))]) hx hb dX3_range_81 rfl hl (by decide) rfl (fun ls hl => ?_)
              refine lv_iinc (v := 3) (lv' := [(4, .int 3), (3, .int (ar S 9 (3 * i + 0))), (2, .int (ar S 9 (3 * i + 2))), (0, .ref (ad 0)), (1, .int (nI i))]) hx hb dX3_range_82 hl (k := 2) rfl (by decide) (by decide) rfl (fun ls hl => ?_)
              refine lv_goto (tgt := 14) hx hb dX3_range_85 (by decide) ?_
              refine lv_iload hx hb dX3_range_14 (lv_at hl 0 rfl) ?_
              refine lv_iconst (v := 3) hx hb dX3_range_16 (by decide) ?_
              refine lv_icmp_ge (tgt := 88) hx hb dX3_range_17 (by decide) (fun c_27 => ?_) (fun c_27 => ?_)
              · refine lv_iload_n hx hb dX3_range_88 rfl (lv_at hl 2 rfl) ?_
                refine lv_iload_n hx hb dX3_range_89 rfl (lv_at hl 1 rfl) ?_
                refine lv_isub hx hb dX3_range_90 ?_
                exact r_int cx hr hlk (by rw [f_X3_range, if_neg c_2, if_pos c_20, if_neg c_22, if_pos c_26]) dX3_range_91
              · exact absurd (by decide) c_27
            · refine lv_aload_n hx hb dX3_range_66 rfl (lv_at hl 3 rfl) ?_
              refine w_get cx (ci := 3) rfl iX3 (hP _ _ cM_0) 11 (by decide) k_462 (v := .ref (ad 10)) rfl dX3_range_67 ?_
              refine lv_iconst (v := 3) hx hb dX3_range_70 (by decide) ?_
              refine lv_iload_n hx hb dX3_range_71 rfl (lv_at hl 4 rfl) ?_
              refine lv_imul hx hb dX3_range_72 ?_
              refine lv_iload hx hb dX3_range_73 (lv_at hl 1 rfl) ?_
              refine lv_iadd hx hb dX3_range_75 ?_
              refine w_iald cx (hP _ _ (cM_A (n := 120) 9 (by decide) rfl rfl)) (3 * i + 2) (ix3 i 2 _ rfl) (by have h40 := hW.t; omega) (by decide) dX3_range_76 ?_
              refine lv_goto (tgt := 81) hx hb dX3_range_77 (by decide) ?_
              refine lv_istore_n (lv' := [(3, .int (ar S 9 (3 * i + 2))), (2, .int (ar S 9 (3 * i + 2))), (4, .int 2), (0, .ref (ad 0)), (1, .int (nI i))]) hx hb dX3_range_81 rfl hl (by decide) rfl (fun ls hl => ?_)
              refine lv_iinc (v := 3) (lv' := [(4, .int 3), (3, .int (ar S 9 (3 * i + 2))), (2, .int (ar S 9 (3 * i + 2))), (0, .ref (ad 0)), (1, .int (nI i))]) hx hb dX3_range_82 hl (k := 2) rfl (by decide) (by decide) rfl (fun ls hl => ?_)
              refine lv_goto (tgt := 14) hx hb dX3_range_85 (by decide) ?_
              refine lv_iload hx hb dX3_range_14 (lv_at hl 0 rfl) ?_
              refine lv_iconst (v := 3) hx hb dX3_range_16 (by decide) ?_
              refine lv_icmp_ge (tgt := 88) hx hb dX3_range_17 (by decide) (fun c_28 => ?_) (fun c_28 => ?_)
              · refine lv_iload_n hx hb dX3_range_88 rfl (lv_at hl 2 rfl) ?_
                refine lv_iload_n hx hb dX3_range_89 rfl (lv_at hl 1 rfl) ?_
                refine lv_isub hx hb dX3_range_90 ?_
                exact r_int cx hr hlk (by rw [f_X3_range, if_neg c_2, if_pos c_20, if_neg c_22, if_neg c_26]) dX3_range_91
              · exact absurd (by decide) c_28
      · refine lv_aload_n hx hb dX3_range_66 rfl (lv_at hl 3 rfl) ?_
        refine w_get cx (ci := 3) rfl iX3 (hP _ _ cM_0) 11 (by decide) k_462 (v := .ref (ad 10)) rfl dX3_range_67 ?_
        refine lv_iconst (v := 3) hx hb dX3_range_70 (by decide) ?_
        refine lv_iload_n hx hb dX3_range_71 rfl (lv_at hl 4 rfl) ?_
        refine lv_imul hx hb dX3_range_72 ?_
        refine lv_iload hx hb dX3_range_73 (lv_at hl 1 rfl) ?_
        refine lv_iadd hx hb dX3_range_75 ?_
        refine w_iald cx (hP _ _ (cM_A (n := 120) 9 (by decide) rfl rfl)) (3 * i + 1) (ix3 i 1 _ rfl) (by have h40 := hW.t; omega) (by decide) dX3_range_76 ?_
        refine lv_goto (tgt := 81) hx hb dX3_range_77 (by decide) ?_
        refine lv_istore_n (lv' := [(3, .int (ar S 9 (3 * i + 1))), (2, .int (ar S 9 (3 * i + 1))), (4, .int 1), (0, .ref (ad 0)), (1, .int (nI i))]) hx hb dX3_range_81 rfl hl (by decide) rfl (fun ls hl => ?_)
        refine lv_iinc (v := 2) (lv' := [(4, .int 2), (3, .int (ar S 9 (3 * i + 1))), (2, .int (ar S 9 (3 * i + 1))), (0, .ref (ad 0)), (1, .int (nI i))]) hx hb dX3_range_82 hl (k := 2) rfl (by decide) (by decide) rfl (fun ls hl => ?_)
        refine lv_goto (tgt := 14) hx hb dX3_range_85 (by decide) ?_
        refine lv_iload hx hb dX3_range_14 (lv_at hl 0 rfl) ?_
        refine lv_iconst (v := 3) hx hb dX3_range_16 (by decide) ?_
        refine lv_icmp_ge (tgt := 88) hx hb dX3_range_17 (by decide) (fun c_29 => ?_) (fun c_29 => ?_)
        · exact absurd c_29 (by decide)
        · refine lv_aload_n hx hb dX3_range_20 rfl (lv_at hl 3 rfl) ?_
          refine w_get cx (ci := 3) rfl iX3 (hP _ _ cM_0) 11 (by decide) k_462 (v := .ref (ad 10)) rfl dX3_range_21 ?_
          refine lv_iconst (v := 3) hx hb dX3_range_24 (by decide) ?_
          refine lv_iload_n hx hb dX3_range_25 rfl (lv_at hl 4 rfl) ?_
          refine lv_imul hx hb dX3_range_26 ?_
          refine lv_iload hx hb dX3_range_27 (lv_at hl 0 rfl) ?_
          refine lv_iadd hx hb dX3_range_29 ?_
          refine w_iald cx (hP _ _ (cM_A (n := 120) 9 (by decide) rfl rfl)) (3 * i + 2) (ix3 i 2 _ rfl) (by have h40 := hW.t; omega) (by decide) dX3_range_30 ?_
          refine lv_iload_n hx hb dX3_range_31 rfl (lv_at hl 2 rfl) ?_
          refine lv_icmp_le (tgt := 49) hx hb dX3_range_32 (by decide) (fun c_30 => ?_) (fun c_30 => ?_)
          · refine lv_iload_n hx hb dX3_range_49 rfl (lv_at hl 2 rfl) ?_
            refine lv_istore_n (lv' := [(2, .int (ar S 9 (3 * i + 1))), (4, .int 2), (3, .int (ar S 9 (3 * i + 1))), (0, .ref (ad 0)), (1, .int (nI i))]) hx hb dX3_range_50 rfl hl (by decide) rfl (fun ls hl => ?_)
            refine lv_aload_n hx hb dX3_range_51 rfl (lv_at hl 3 rfl) ?_
            refine w_get cx (ci := 3) rfl iX3 (hP _ _ cM_0) 11 (by decide) k_462 (v := .ref (ad 10)) rfl dX3_range_52 ?_
            refine lv_iconst (v := 3) hx hb dX3_range_55 (by decide) ?_
            refine lv_iload_n hx hb dX3_range_56 rfl (lv_at hl 4 rfl) ?_
            refine lv_imul hx hb dX3_range_57 ?_
            refine lv_iload hx hb dX3_range_58 (lv_at hl 1 rfl) ?_
            refine lv_iadd hx hb dX3_range_60 ?_
            refine w_iald cx (hP _ _ (cM_A (n := 120) 9 (by decide) rfl rfl)) (3 * i + 2) (ix3 i 2 _ rfl) (by have h40 := hW.t; omega) (by decide) dX3_range_61 ?_
            refine lv_iload_n hx hb dX3_range_62 rfl (lv_at hl 2 rfl) ?_
            refine lv_icmp_ge (tgt := 80) hx hb dX3_range_63 (by decide) (fun c_31 => ?_) (fun c_31 => ?_)
            · refine lv_iload_n hx hb dX3_range_80 rfl (lv_at hl 2 rfl) ?_
              refine lv_istore_n (lv' := [(3, .int (ar S 9 (3 * i + 1))), (2, .int (ar S 9 (3 * i + 1))), (4, .int 2), (0, .ref (ad 0)), (1, .int (nI i))]) hx hb dX3_range_81 rfl hl (by decide) rfl (fun ls hl => ?_)
              refine lv_iinc (v := 3) (lv' := [(4, .int 3), (3, .int (ar S 9 (3 * i + 1))), (2, .int (ar S 9 (3 * i + 1))), (0, .ref (ad 0)), (1, .int (nI i))]) hx hb dX3_range_82 hl (k := 2) rfl (by decide) (by decide) rfl (fun ls hl => ?_)
              refine lv_goto (tgt := 14) hx hb dX3_range_85 (by decide) ?_
              refine lv_iload hx hb dX3_range_14 (lv_at hl 0 rfl) ?_
              refine lv_iconst (v := 3) hx hb dX3_range_16 (by decide) ?_
              refine lv_icmp_ge (tgt := 88) hx hb dX3_range_17 (by decide) (fun c_32 => ?_) (fun c_32 => ?_)
              · refine lv_iload_n hx hb dX3_range_88 rfl (lv_at hl 2 rfl) ?_
                refine lv_iload_n hx hb dX3_range_89 rfl (lv_at hl 1 rfl) ?_
                refine lv_isub hx hb dX3_range_90 ?_
                exact r_int cx hr hlk (by rw [f_X3_range, if_neg c_2, if_neg c_20, if_pos c_30, if_pos c_31]) dX3_range_91
              · exact absurd (by decide) c_32
            · refine lv_aload_n hx hb dX3_range_66 rfl (lv_at hl 3 rfl) ?_
              refine w_get cx (ci := 3) rfl iX3 (hP _ _ cM_0) 11 (by decide) k_462 (v := .ref (ad 10)) rfl dX3_range_67 ?_
              refine lv_iconst (v := 3) hx hb dX3_range_70 (by decide) ?_
              refine lv_iload_n hx hb dX3_range_71 rfl (lv_at hl 4 rfl) ?_
              refine lv_imul hx hb dX3_range_72 ?_
              refine lv_iload hx hb dX3_range_73 (lv_at hl 1 rfl) ?_
              refine lv_iadd hx hb dX3_range_75 ?_
              refine w_iald cx (hP _ _ (cM_A (n := 120) 9 (by decide) rfl rfl)) (3 * i + 2) (ix3 i 2 _ rfl) (by have h40 := hW.t; omega) (by decide) dX3_range_76 ?_
              refine lv_goto (tgt := 81) hx hb dX3_range_77 (by decide) ?_
              refine lv_istore_n (lv' := [(3, .int (ar S 9 (3 * i + 2))), (2, .int (ar S 9 (3 * i + 1))), (4, .int 2), (0, .ref (ad 0)), (1, .int (nI i))]) hx hb dX3_range_81 rfl hl (by decide) rfl (fun ls hl => ?_)
              refine lv_iinc (v := 3) (lv' := [(4, .int 3), (3, .int (ar S 9 (3 * i + 2))), (2, .int (ar S 9 (3 * i + 1))), (0, .ref (ad 0)), (1, .int (nI i))]) hx hb dX3_range_82 hl (k := 2) rfl (by decide) (by decide) rfl (fun ls hl => ?_)
              refine lv_goto (tgt := 14) hx hb dX3_range_85 (by decide) ?_
              refine lv_iload hx hb dX3_range_14 (lv_at hl 0 rfl) ?_
              refine lv_iconst (v := 3) hx hb dX3_range_16 (by decide) ?_
              refine lv_icmp_ge (tgt := 88) hx hb dX3_range_17 (by decide) (fun c_33 => ?_) (fun c_33 => ?_)
              · refine lv_iload_n hx hb dX3_range_88 rfl (lv_at hl 2 rfl) ?_
                refine lv_iload_n hx hb dX3_range_89 rfl (lv_at hl 1 rfl) ?_
                refine lv_isub hx hb dX3_range_90 ?_
                exact r_int cx hr hlk (by rw [f_X3_range, if_neg c_2, if_neg c_20, if_pos c_30, if_neg c_31]) dX3_range_91
              · exact absurd (by decide) c_33
          · refine lv_aload_n hx hb dX3_range_35 rfl (lv_at hl 3 rfl) ?_
            refine w_get cx (ci := 3) rfl iX3 (hP _ _ cM_0) 11 (by decide) k_462 (v := .ref (ad 10)) rfl dX3_range_36 ?_
            refine lv_iconst (v := 3) hx hb dX3_range_39 (by decide) ?_
            refine lv_iload_n hx hb dX3_range_40 rfl (lv_at hl 4 rfl) ?_
            refine lv_imul hx hb dX3_range_41 ?_
            refine lv_iload hx hb dX3_range_42 (lv_at hl 0 rfl) ?_
            refine lv_iadd hx hb dX3_range_44 ?_
            refine w_iald cx (hP _ _ (cM_A (n := 120) 9 (by decide) rfl rfl)) (3 * i + 2) (ix3 i 2 _ rfl) (by have h40 := hW.t; omega) (by decide) dX3_range_45 ?_
            refine lv_goto (tgt := 50) hx hb dX3_range_46 (by decide) ?_
            refine lv_istore_n (lv' := [(2, .int (ar S 9 (3 * i + 2))), (4, .int 2), (3, .int (ar S 9 (3 * i + 1))), (0, .ref (ad 0)), (1, .int (nI i))]) hx hb dX3_range_50 rfl hl (by decide) rfl (fun ls hl => ?_)
            refine lv_aload_n hx hb dX3_range_51 rfl (lv_at hl 3 rfl) ?_
            refine w_get cx (ci := 3) rfl iX3 (hP _ _ cM_0) 11 (by decide) k_462 (v := .ref (ad 10)) rfl dX3_range_52 ?_
            refine lv_iconst (v := 3) hx hb dX3_range_55 (by decide) ?_
            refine lv_iload_n hx hb dX3_range_56 rfl (lv_at hl 4 rfl) ?_
            refine lv_imul hx hb dX3_range_57 ?_
            refine lv_iload hx hb dX3_range_58 (lv_at hl 1 rfl) ?_
            refine lv_iadd hx hb dX3_range_60 ?_
            refine w_iald cx (hP _ _ (cM_A (n := 120) 9 (by decide) rfl rfl)) (3 * i + 2) (ix3 i 2 _ rfl) (by have h40 := hW.t; omega) (by decide) dX3_range_61 ?_
            refine lv_iload_n hx hb dX3_range_62 rfl (lv_at hl 2 rfl) ?_
            refine lv_icmp_ge (tgt := 80) hx hb dX3_range_63 (by decide) (fun c_34 => ?_) (fun c_34 => ?_)
            · refine lv_iload_n hx hb dX3_range_80 rfl (lv_at hl 2 rfl) ?_
              refine lv_istore_n (lv' := [(3, .int (ar S 9 (3 * i + 1))), (2, .int (ar S 9 (3 * i + 2))), (4, .int 2), (0, .ref (ad 0)), (1, .int (nI i))]) hx hb dX3_range_81 rfl hl (by decide) rfl (fun ls hl => ?_)
              refine lv_iinc (v := 3) (lv' := [(4, .int 3), (3, .int (ar S 9 (3 * i + 1))), (2, .int (ar S 9 (3 * i + 2))), (0, .ref (ad 0)), (1, .int (nI i))]) hx hb dX3_range_82 hl (k := 2) rfl (by decide) (by decide) rfl (fun ls hl => ?_)
              refine lv_goto (tgt := 14) hx hb dX3_range_85 (by decide) ?_
              refine lv_iload hx hb dX3_range_14 (lv_at hl 0 rfl) ?_
              refine lv_iconst (v := 3) hx hb dX3_range_16 (by decide) ?_
              refine lv_icmp_ge (tgt := 88) hx hb dX3_range_17 (by decide) (fun c_35 => ?_) (fun c_35 => ?_)
              · refine lv_iload_n hx hb dX3_range_88 rfl (lv_at hl 2 rfl) ?_
                refine lv_iload_n hx hb dX3_range_89 rfl (lv_at hl 1 rfl) ?_
                refine lv_isub hx hb dX3_range_90 ?_
                exact r_int cx hr hlk (by rw [f_X3_range, if_neg c_2, if_neg c_20, if_neg c_30, if_pos c_34]) dX3_range_91
              · exact absurd (by decide) c_35
            · refine lv_aload_n hx hb dX3_range_66 rfl (lv_at hl 3 rfl) ?_
              refine w_get cx (ci := 3) rfl iX3 (hP _ _ cM_0) 11 (by decide) k_462 (v := .ref (ad 10)) rfl dX3_range_67 ?_
              refine lv_iconst (v := 3) hx hb dX3_range_70 (by decide) ?_
              refine lv_iload_n hx hb dX3_range_71 rfl (lv_at hl 4 rfl) ?_
              refine lv_imul hx hb dX3_range_72 ?_
              refine lv_iload hx hb dX3_range_73 (lv_at hl 1 rfl) ?_
              refine lv_iadd hx hb dX3_range_75 ?_
              refine w_iald cx (hP _ _ (cM_A (n := 120) 9 (by decide) rfl rfl)) (3 * i + 2) (ix3 i 2 _ rfl) (by have h40 := hW.t; omega) (by decide) dX3_range_76 ?_
              refine lv_goto (tgt := 81) hx hb dX3_range_77 (by decide) ?_
              refine lv_istore_n (lv' := [(3, .int (ar S 9 (3 * i + 2))), (2, .int (ar S 9 (3 * i + 2))), (4, .int 2), (0, .ref (ad 0)), (1, .int (nI i))]) hx hb dX3_range_81 rfl hl (by decide) rfl (fun ls hl => ?_)
              refine lv_iinc (v := 3) (lv' := [(4, .int 3), (3, .int (ar S 9 (3 * i + 2))), (2, .int (ar S 9 (3 * i + 2))), (0, .ref (ad 0)), (1, .int (nI i))]) hx hb dX3_range_82 hl (k := 2) rfl (by decide) (by decide) rfl (fun ls hl => ?_)
              refine lv_goto (tgt := 14) hx hb dX3_range_85 (by decide) ?_
              refine lv_iload hx hb dX3_range_14 (lv_at hl 0 rfl) ?_
              refine lv_iconst (v := 3) hx hb dX3_range_16 (by decide) ?_
              refine lv_icmp_ge (tgt := 88) hx hb dX3_range_17 (by decide) (fun c_36 => ?_) (fun c_36 => ?_)
              · refine lv_iload_n hx hb dX3_range_88 rfl (lv_at hl 2 rfl) ?_
                refine lv_iload_n hx hb dX3_range_89 rfl (lv_at hl 1 rfl) ?_
                refine lv_isub hx hb dX3_range_90 ?_
                exact r_int cx hr hlk (by rw [f_X3_range, if_neg c_2, if_neg c_20, if_neg c_30, if_neg c_34]) dX3_range_91
              · exact absurd (by decide) c_36
def f_X3_allowance (S : St) (i : Nat)  : Int32 :=
  if ar S 4 i = 1 then ar S 10 (ix (ar S 0 i))
  else ar S 11 (ix (ar S 0 i))
set_option maxRecDepth 20000 in
theorem c_X3_allowance (l : Launch) (G : GG) (ad : Nat → Nat) (S : St) (hW : WF S) {i : Nat} (hi : i < nt S)  : MR l yX3_allowance cX3_allowance 2 (some .int) 0 0 G ad (cM G ad S) [.ref (ad 0), .int (nI i)] (some (.int (f_X3_allowance S i))) := by
  refine MR.of [(0, .ref (ad 0)), (1, .int (nI i))] (by decide) (Nat.le_of_ble_eq_true rfl) rfl ?_
  intro p e s m args below meth c cx hr hlk hP ls hl
  have hx := cx.1.1
  have hb := cx.1.2.1
  refine lv_aload_n hx hb dX3_allowance_0 rfl (lv_at hl 0 rfl) ?_
  refine w_get cx (ci := 3) rfl iX3 (hP _ _ cM_0) 6 (by decide) k_457 (v := .ref (ad 5)) rfl dX3_allowance_1 ?_
  refine lv_iload_n hx hb dX3_allowance_4 rfl (lv_at hl 1 rfl) ?_
  refine w_iald cx (hP _ _ (cM_A (n := 40) 4 (by decide) rfl rfl)) i rfl (Nat.lt_of_lt_of_le hi hW.t) (by decide) dX3_allowance_5 ?_
  refine lv_iconst (v := 1) hx hb dX3_allowance_6 (by decide) ?_
  refine lv_icmp_ne (tgt := 24) hx hb dX3_allowance_7 (by decide) (fun c_1 => ?_) (fun c_1 => ?_)
  · refine lv_aload_n hx hb dX3_allowance_24 rfl (lv_at hl 0 rfl) ?_
    refine w_get cx (ci := 3) rfl iX3 (hP _ _ cM_0) 13 (by decide) k_464 (v := .ref (ad 12)) rfl dX3_allowance_25 ?_
    refine lv_aload_n hx hb dX3_allowance_28 rfl (lv_at hl 0 rfl) ?_
    refine w_get cx (ci := 3) rfl iX3 (hP _ _ cM_0) 2 (by decide) k_453 (v := .ref (ad 1)) rfl dX3_allowance_29 ?_
    refine lv_iload_n hx hb dX3_allowance_32 rfl (lv_at hl 1 rfl) ?_
    refine w_iald cx (hP _ _ (cM_A (n := 40) 0 (by decide) rfl rfl)) i rfl (Nat.lt_of_lt_of_le hi hW.t) (by decide) dX3_allowance_33 ?_
    refine w_iald cx (hP _ _ (cM_A (n := 4) 11 (by decide) rfl rfl)) (ix (ar S 0 i)) (hW.kd hi).1 (hW.kd hi).2 (by decide) dX3_allowance_34 ?_
    exact r_int cx hr hlk (by rw [f_X3_allowance, if_neg c_1]) dX3_allowance_35
  · refine lv_aload_n hx hb dX3_allowance_10 rfl (lv_at hl 0 rfl) ?_
    refine w_get cx (ci := 3) rfl iX3 (hP _ _ cM_0) 12 (by decide) k_463 (v := .ref (ad 11)) rfl dX3_allowance_11 ?_
    refine lv_aload_n hx hb dX3_allowance_14 rfl (lv_at hl 0 rfl) ?_
    refine w_get cx (ci := 3) rfl iX3 (hP _ _ cM_0) 2 (by decide) k_453 (v := .ref (ad 1)) rfl dX3_allowance_15 ?_
    refine lv_iload_n hx hb dX3_allowance_18 rfl (lv_at hl 1 rfl) ?_
    refine w_iald cx (hP _ _ (cM_A (n := 40) 0 (by decide) rfl rfl)) i rfl (Nat.lt_of_lt_of_le hi hW.t) (by decide) dX3_allowance_19 ?_
    refine w_iald cx (hP _ _ (cM_A (n := 4) 10 (by decide) rfl rfl)) (ix (ar S 0 i)) (hW.kd hi).1 (hW.kd hi).2 (by decide) dX3_allowance_20 ?_
    refine lv_goto (tgt := 35) hx hb dX3_allowance_21 (by decide) ?_
    exact r_int cx hr hlk (by rw [f_X3_allowance, if_pos c_1]) dX3_allowance_35
def f_X3_judgedOn (S : St) (i : Nat) (d : Int32) : Int32 :=
  if ar S 0 i = 0 then 0
  else if f_X3_settledNow S i = 0 then 0
  else if (f_X3_errorOf S i) - (f_X3_spanOn S i d) < -(f_X3_allowance S i) then (if f_X3_allowance S i < (f_X3_errorOf S i) - (f_X3_spanOn S i d) then 3
    else if -(f_X3_allowance S i) ≤ (f_X3_errorOf S i) + (f_X3_spanOn S i d) then 2
    else 3)
  else if f_X3_allowance S i < (f_X3_errorOf S i) + (f_X3_spanOn S i d) then (if f_X3_allowance S i < (f_X3_errorOf S i) - (f_X3_spanOn S i d) then 3
    else if -(f_X3_allowance S i) ≤ (f_X3_errorOf S i) + (f_X3_spanOn S i d) then 2
    else 3)
  else 1
set_option maxRecDepth 20000 in
theorem c_X3_judgedOn (l : Launch) (G : GG) (ad : Nat → Nat) (S : St) (hW : WF S) {i : Nat} (hi : i < nt S) (d : Int32) : MR l yX3_judgedOn cX3_judgedOn 6 (some .int) 1 22 G ad (cM G ad S) [.ref (ad 0), .int (nI i), .int d] (some (.int (f_X3_judgedOn S i d))) := by
  refine MR.of [(0, .ref (ad 0)), (1, .int (nI i)), (2, .int d)] (by decide) (Nat.le_of_ble_eq_true rfl) rfl ?_
  intro p e s m args below meth c cx hr hlk hP ls hl
  have hx := cx.1.1
  have hb := cx.1.2.1
  refine lv_aload_n hx hb dX3_judgedOn_0 rfl (lv_at hl 0 rfl) ?_
  refine w_get cx (ci := 3) rfl iX3 (hP _ _ cM_0) 2 (by decide) k_453 (v := .ref (ad 1)) rfl dX3_judgedOn_1 ?_
  refine lv_iload_n hx hb dX3_judgedOn_4 rfl (lv_at hl 1 rfl) ?_
  refine w_iald cx (hP _ _ (cM_A (n := 40) 0 (by decide) rfl rfl)) i rfl (Nat.lt_of_lt_of_le hi hW.t) (by decide) dX3_judgedOn_5 ?_
  refine lv_if_eq (tgt := 17) hx hb dX3_judgedOn_6 (by decide) (fun c_1 => ?_) (fun c_1 => ?_)
  · refine lv_iconst (v := 0) hx hb dX3_judgedOn_17 (by decide) ?_
    exact r_int cx hr hlk (by rw [f_X3_judgedOn, if_pos c_1]) dX3_judgedOn_18
  · refine lv_aload_n hx hb dX3_judgedOn_9 rfl (lv_at hl 0 rfl) ?_
    refine lv_iload_n hx hb dX3_judgedOn_10 rfl (lv_at hl 1 rfl) ?_
    refine w_callV (As := [.int (nI i)]) (rest := []) (st := [.int (f_X3_settledNow S i)]) cx (c_X3_settledNow l G ad S hW (i := i) hi) k_579 cal_yX3_settledNow (ci := 3) rfl (hP _ _ cM_0) hP rfl ⟨Nat.le_of_ble_eq_true rfl, Nat.le_of_ble_eq_true rfl⟩ hl.1 (Nat.le_of_ble_eq_true rfl) ⟨Nat.zero_le _, Nat.zero_le _⟩ rfl rfl dX3_judgedOn_11 ?_
    refine lv_if_ne (tgt := 19) hx hb dX3_judgedOn_14 (by decide) (fun c_2 => ?_) (fun c_2 => ?_)
    · refine lv_aload_n hx hb dX3_judgedOn_19 rfl (lv_at hl 0 rfl) ?_
      refine lv_iload_n hx hb dX3_judgedOn_20 rfl (lv_at hl 1 rfl) ?_
      refine w_callV (As := [.int (nI i)]) (rest := []) (st := [.int (f_X3_allowance S i)]) cx (c_X3_allowance l G ad S hW (i := i) hi) k_647 cal_yX3_allowance (ci := 3) rfl (hP _ _ cM_0) hP rfl ⟨Nat.le_of_ble_eq_true rfl, Nat.le_of_ble_eq_true rfl⟩ hl.1 (Nat.le_of_ble_eq_true rfl) ⟨Nat.zero_le _, Nat.zero_le _⟩ rfl rfl dX3_judgedOn_21 ?_
      refine lv_istore_n (lv' := [(3, .int (f_X3_allowance S i)), (0, .ref (ad 0)), (1, .int (nI i)), (2, .int d)]) hx hb dX3_judgedOn_24 rfl hl (by decide) rfl (fun ls hl => ?_)
      refine lv_aload_n hx hb dX3_judgedOn_25 rfl (lv_at hl 1 rfl) ?_
      refine lv_iload_n hx hb dX3_judgedOn_26 rfl (lv_at hl 2 rfl) ?_
      refine w_callV (As := [.int (nI i)]) (rest := []) (st := [.int (f_X3_errorOf S i)]) cx (c_X3_errorOf l G ad S hW (i := i) hi) k_587 cal_yX3_errorOf (ci := 3) rfl (hP _ _ cM_0) hP rfl ⟨Nat.le_of_ble_eq_true rfl, Nat.le_of_ble_eq_true rfl⟩ hl.1 (Nat.le_of_ble_eq_true rfl) ⟨Nat.zero_le _, Nat.zero_le _⟩ rfl rfl dX3_judgedOn_27 ?_
      refine lv_aload_n hx hb dX3_judgedOn_30 rfl (lv_at hl 1 rfl) ?_
      refine lv_iload_n hx hb dX3_judgedOn_31 rfl (lv_at hl 2 rfl) ?_
      refine lv_iload_n hx hb dX3_judgedOn_32 rfl (lv_at hl 3 rfl) ?_
      refine w_callV (As := [.int (nI i), .int d]) (rest := [.int (f_X3_errorOf S i)]) (st := [.int (f_X3_spanOn S i d), .int (f_X3_errorOf S i)]) cx (c_X3_spanOn l G ad S hW (i := i) hi d) k_595 cal_yX3_spanOn (ci := 3) rfl (hP _ _ cM_0) hP rfl ⟨Nat.le_of_ble_eq_true rfl, Nat.le_of_ble_eq_true rfl⟩ hl.1 (Nat.le_of_ble_eq_true rfl) ⟨Nat.zero_le _, Nat.zero_le _⟩ rfl rfl dX3_judgedOn_33 ?_
      refine lv_isub hx hb dX3_judgedOn_36 ?_
      refine lv_istore (lv' := [(4, .int ((f_X3_errorOf S i) - (f_X3_spanOn S i d))), (3, .int (f_X3_allowance S i)), (0, .ref (ad 0)), (1, .int (nI i)), (2, .int d)]) hx hb dX3_judgedOn_37 hl (by decide) rfl (fun ls hl => ?_)
      refine lv_aload_n hx hb dX3_judgedOn_39 rfl (lv_at hl 2 rfl) ?_
      refine lv_iload_n hx hb dX3_judgedOn_40 rfl (lv_at hl 3 rfl) ?_
      refine w_callV (As := [.int (nI i)]) (rest := []) (st := [.int (f_X3_errorOf S i)]) cx (c_X3_errorOf l G ad S hW (i := i) hi) k_587 cal_yX3_errorOf (ci := 3) rfl (hP _ _ cM_0) hP rfl ⟨Nat.le_of_ble_eq_true rfl, Nat.le_of_ble_eq_true rfl⟩ hl.1 (Nat.le_of_ble_eq_true rfl) ⟨Nat.zero_le _, Nat.zero_le _⟩ rfl rfl dX3_judgedOn_41 ?_
      refine lv_aload_n hx hb dX3_judgedOn_44 rfl (lv_at hl 2 rfl) ?_
      refine lv_iload_n hx hb dX3_judgedOn_45 rfl (lv_at hl 3 rfl) ?_
      refine lv_iload_n hx hb dX3_judgedOn_46 rfl (lv_at hl 4 rfl) ?_
      refine w_callV (As := [.int (nI i), .int d]) (rest := [.int (f_X3_errorOf S i)]) (st := [.int (f_X3_spanOn S i d), .int (f_X3_errorOf S i)]) cx (c_X3_spanOn l G ad S hW (i := i) hi d) k_595 cal_yX3_spanOn (ci := 3) rfl (hP _ _ cM_0) hP rfl ⟨Nat.le_of_ble_eq_true rfl, Nat.le_of_ble_eq_true rfl⟩ hl.1 (Nat.le_of_ble_eq_true rfl) ⟨Nat.zero_le _, Nat.zero_le _⟩ rfl rfl dX3_judgedOn_47 ?_
      refine lv_iadd hx hb dX3_judgedOn_50 ?_
      refine lv_istore (lv' := [(5, .int ((f_X3_errorOf S i) + (f_X3_spanOn S i d))), (4, .int ((f_X3_errorOf S i) - (f_X3_spanOn S i d))), (3, .int (f_X3_allowance S i)), (0, .ref (ad 0)), (1, .int (nI i)), (2, .int d)]) hx hb dX3_judgedOn_51 hl (by decide) rfl (fun ls hl => ?_)
      refine lv_iload hx hb dX3_judgedOn_53 (lv_at hl 1 rfl) ?_
      refine lv_iload_n hx hb dX3_judgedOn_55 rfl (lv_at hl 2 rfl) ?_
      refine lv_ineg hx hb dX3_judgedOn_56 ?_
      refine lv_icmp_lt (tgt := 68) hx hb dX3_judgedOn_57 (by decide) (fun c_3 => ?_) (fun c_3 => ?_)
      · refine lv_iload hx hb dX3_judgedOn_68 (lv_at hl 1 rfl) ?_
        refine lv_iload_n hx hb dX3_judgedOn_70 rfl (lv_at hl 2 rfl) ?_
        refine lv_icmp_gt (tgt := 81) hx hb dX3_judgedOn_71 (by decide) (fun c_4 => ?_) (fun c_4 => ?_)
        · refine lv_iconst (v := 3) hx hb dX3_judgedOn_81 (by decide) ?_
          refine lv_goto (tgt := 86) hx hb dX3_judgedOn_82 (by decide) ?_
          exact r_int cx hr hlk (by rw [f_X3_judgedOn, if_neg c_1, if_neg c_2, if_pos c_3, if_pos c_4]) dX3_judgedOn_86
        · refine lv_iload hx hb dX3_judgedOn_74 (lv_at hl 0 rfl) ?_
          refine lv_iload_n hx hb dX3_judgedOn_76 rfl (lv_at hl 2 rfl) ?_
          refine lv_ineg hx hb dX3_judgedOn_77 ?_
          refine lv_icmp_ge (tgt := 85) hx hb dX3_judgedOn_78 (by decide) (fun c_5 => ?_) (fun c_5 => ?_)
          · refine lv_iconst (v := 2) hx hb dX3_judgedOn_85 (by decide) ?_
            exact r_int cx hr hlk (by rw [f_X3_judgedOn, if_neg c_1, if_neg c_2, if_pos c_3, if_neg c_4, if_pos c_5]) dX3_judgedOn_86
          · refine lv_iconst (v := 3) hx hb dX3_judgedOn_81 (by decide) ?_
            refine lv_goto (tgt := 86) hx hb dX3_judgedOn_82 (by decide) ?_
            exact r_int cx hr hlk (by rw [f_X3_judgedOn, if_neg c_1, if_neg c_2, if_pos c_3, if_neg c_4, if_neg c_5]) dX3_judgedOn_86
      · refine lv_iload hx hb dX3_judgedOn_60 (lv_at hl 0 rfl) ?_
        refine lv_iload_n hx hb dX3_judgedOn_62 rfl (lv_at hl 2 rfl) ?_
        refine lv_icmp_gt (tgt := 68) hx hb dX3_judgedOn_63 (by decide) (fun c_6 => ?_) (fun c_6 => ?_)
        · refine lv_iload hx hb dX3_judgedOn_68 (lv_at hl 1 rfl) ?_
          refine lv_iload_n hx hb dX3_judgedOn_70 rfl (lv_at hl 2 rfl) ?_
          refine lv_icmp_gt (tgt := 81) hx hb dX3_judgedOn_71 (by decide) (fun c_7 => ?_) (fun c_7 => ?_)
          · refine lv_iconst (v := 3) hx hb dX3_judgedOn_81 (by decide) ?_
            refine lv_goto (tgt := 86) hx hb dX3_judgedOn_82 (by decide) ?_
            exact r_int cx hr hlk (by rw [f_X3_judgedOn, if_neg c_1, if_neg c_2, if_neg c_3, if_pos c_6, if_pos c_7]) dX3_judgedOn_86
          · refine lv_iload hx hb dX3_judgedOn_74 (lv_at hl 0 rfl) ?_
            refine lv_iload_n hx hb dX3_judgedOn_76 rfl (lv_at hl 2 rfl) ?_
            refine lv_ineg hx hb dX3_judgedOn_77 ?_
            refine lv_icmp_ge (tgt := 85) hx hb dX3_judgedOn_78 (by decide) (fun c_8 => ?_) (fun c_8 => ?_)
            · refine lv_iconst (v := 2) hx hb dX3_judgedOn_85 (by decide) ?_
              exact r_int cx hr hlk (by rw [f_X3_judgedOn, if_neg c_1, if_neg c_2, if_neg c_3, if_pos c_6, if_neg c_7, if_pos c_8]) dX3_judgedOn_86
            · refine lv_iconst (v := 3) hx hb dX3_judgedOn_81 (by decide) ?_
              refine lv_goto (tgt := 86) hx hb dX3_judgedOn_82 (by decide) ?_
              exact r_int cx hr hlk (by rw [f_X3_judgedOn, if_neg c_1, if_neg c_2, if_neg c_3, if_pos c_6, if_neg c_7, if_neg c_8]) dX3_judgedOn_86
        · refine lv_iconst (v := 1) hx hb dX3_judgedOn_66 (by decide) ?_
          exact r_int cx hr hlk (by rw [f_X3_judgedOn, if_neg c_1, if_neg c_2, if_neg c_3, if_neg c_6]) dX3_judgedOn_67
    · refine lv_iconst (v := 0) hx hb dX3_judgedOn_17 (by decide) ?_
      exact r_int cx hr hlk (by rw [f_X3_judgedOn, if_neg c_1, if_pos c_2]) dX3_judgedOn_18
def f_X3_group (S : St) (i : Nat)  : Int32 :=
  if ar S 5 i = -1000000 then 0
  else if f_X3_settledNow S i = 0 then 1
  else if f_X3_dueNow S i = 0 then 3
  else 2
set_option maxRecDepth 20000 in
theorem c_X3_group (l : Launch) (G : GG) (ad : Nat → Nat) (S : St) (hW : WF S) {i : Nat} (hi : i < nt S)  : MR l yX3_group cX3_group 2 (some .int) 1 21 G ad (cM G ad S) [.ref (ad 0), .int (nI i)] (some (.int (f_X3_group S i))) := by
  refine MR.of [(0, .ref (ad 0)), (1, .int (nI i))] (by decide) (Nat.le_of_ble_eq_true rfl) rfl ?_
  intro p e s m args below meth c cx hr hlk hP ls hl
  have hx := cx.1.1
  have hb := cx.1.2.1
  refine lv_aload_n hx hb dX3_group_0 rfl (lv_at hl 0 rfl) ?_
  refine w_get cx (ci := 3) rfl iX3 (hP _ _ cM_0) 7 (by decide) k_458 (v := .ref (ad 6)) rfl dX3_group_1 ?_
  refine lv_iload_n hx hb dX3_group_4 rfl (lv_at hl 1 rfl) ?_
  refine w_iald cx (hP _ _ (cM_A (n := 40) 5 (by decide) rfl rfl)) i rfl (Nat.lt_of_lt_of_le hi hW.t) (by decide) dX3_group_5 ?_
  refine w_ldc cx k_548 dX3_group_6 ?_
  refine lv_icmp_ne (tgt := 15) hx hb dX3_group_8 (by decide) (fun c_1 => ?_) (fun c_1 => ?_)
  · refine lv_aload_n hx hb dX3_group_15 rfl (lv_at hl 0 rfl) ?_
    refine lv_iload_n hx hb dX3_group_16 rfl (lv_at hl 1 rfl) ?_
    refine w_callV (As := [.int (nI i)]) (rest := []) (st := [.int (f_X3_settledNow S i)]) cx (c_X3_settledNow l G ad S hW (i := i) hi) k_579 cal_yX3_settledNow (ci := 3) rfl (hP _ _ cM_0) hP rfl ⟨Nat.le_of_ble_eq_true rfl, Nat.le_of_ble_eq_true rfl⟩ hl.1 (Nat.le_of_ble_eq_true rfl) ⟨Nat.zero_le _, Nat.zero_le _⟩ rfl rfl dX3_group_17 ?_
    refine lv_if_ne (tgt := 27) hx hb dX3_group_20 (by decide) (fun c_2 => ?_) (fun c_2 => ?_)
    · refine lv_aload_n hx hb dX3_group_27 rfl (lv_at hl 0 rfl) ?_
      refine lv_iload_n hx hb dX3_group_28 rfl (lv_at hl 1 rfl) ?_
      refine w_callV (As := [.int (nI i)]) (rest := []) (st := [.int (f_X3_dueNow S i)]) cx (c_X3_dueNow l G ad S hW (i := i) hi) k_583 cal_yX3_dueNow (ci := 3) rfl (hP _ _ cM_0) hP rfl ⟨Nat.le_of_ble_eq_true rfl, Nat.le_of_ble_eq_true rfl⟩ hl.1 (Nat.le_of_ble_eq_true rfl) ⟨Nat.zero_le _, Nat.zero_le _⟩ rfl rfl dX3_group_29 ?_
      refine lv_if_eq (tgt := 39) hx hb dX3_group_32 (by decide) (fun c_3 => ?_) (fun c_3 => ?_)
      · refine lv_iconst (v := 3) hx hb dX3_group_39 (by decide) ?_
        exact r_int cx hr hlk (by rw [f_X3_group, if_neg c_1, if_neg c_2, if_pos c_3]) dX3_group_40
      · refine lv_iconst (v := 2) hx hb dX3_group_35 (by decide) ?_
        refine lv_goto (tgt := 40) hx hb dX3_group_36 (by decide) ?_
        exact r_int cx hr hlk (by rw [f_X3_group, if_neg c_1, if_neg c_2, if_neg c_3]) dX3_group_40
    · refine lv_iconst (v := 1) hx hb dX3_group_23 (by decide) ?_
      refine lv_goto (tgt := 40) hx hb dX3_group_24 (by decide) ?_
      exact r_int cx hr hlk (by rw [f_X3_group, if_neg c_1, if_pos c_2]) dX3_group_40
  · refine lv_iconst (v := 0) hx hb dX3_group_11 (by decide) ?_
    refine lv_goto (tgt := 40) hx hb dX3_group_12 (by decide) ?_
    exact r_int cx hr hlk (by rw [f_X3_group, if_pos c_1]) dX3_group_40
def f_X3_weight (S : St) (i : Nat)  : Int32 :=
  if 0 ≤ f_X3_errorOf S i then (if ar S 5 i = -1000000 then 0
    else ((f_X3_errorOf S i) + (f_X3_spanOn S i (sc S 0))) - (f_X3_allowance S i))
  else if ar S 5 i = -1000000 then 0
  else ((-(f_X3_errorOf S i)) + (f_X3_spanOn S i (sc S 0))) - (f_X3_allowance S i)
set_option maxRecDepth 20000 in
theorem c_X3_weight (l : Launch) (G : GG) (ad : Nat → Nat) (S : St) (hW : WF S) {i : Nat} (hi : i < nt S)  : MR l yX3_weight cX3_weight 3 (some .int) 1 22 G ad (cM G ad S) [.ref (ad 0), .int (nI i)] (some (.int (f_X3_weight S i))) := by
  refine MR.of [(0, .ref (ad 0)), (1, .int (nI i))] (by decide) (Nat.le_of_ble_eq_true rfl) rfl ?_
  intro p e s m args below meth c cx hr hlk hP ls hl
  have hx := cx.1.1
  have hb := cx.1.2.1
  refine lv_aload_n hx hb dX3_weight_0 rfl (lv_at hl 0 rfl) ?_
  refine lv_iload_n hx hb dX3_weight_1 rfl (lv_at hl 1 rfl) ?_
  refine w_callV (As := [.int (nI i)]) (rest := []) (st := [.int (f_X3_errorOf S i)]) cx (c_X3_errorOf l G ad S hW (i := i) hi) k_587 cal_yX3_errorOf (ci := 3) rfl (hP _ _ cM_0) hP rfl ⟨Nat.le_of_ble_eq_true rfl, Nat.le_of_ble_eq_true rfl⟩ hl.1 (Nat.le_of_ble_eq_true rfl) ⟨Nat.zero_le _, Nat.zero_le _⟩ rfl rfl dX3_weight_2 ?_
  refine lv_if_ge (tgt := 17) hx hb dX3_weight_5 (by decide) (fun c_1 => ?_) (fun c_1 => ?_)
  · refine lv_aload_n hx hb dX3_weight_17 rfl (lv_at hl 0 rfl) ?_
    refine lv_iload_n hx hb dX3_weight_18 rfl (lv_at hl 1 rfl) ?_
    refine w_callV (As := [.int (nI i)]) (rest := []) (st := [.int (f_X3_errorOf S i)]) cx (c_X3_errorOf l G ad S hW (i := i) hi) k_587 cal_yX3_errorOf (ci := 3) rfl (hP _ _ cM_0) hP rfl ⟨Nat.le_of_ble_eq_true rfl, Nat.le_of_ble_eq_true rfl⟩ hl.1 (Nat.le_of_ble_eq_true rfl) ⟨Nat.zero_le _, Nat.zero_le _⟩ rfl rfl dX3_weight_19 ?_
    refine lv_istore_n (lv' := [(2, .int (f_X3_errorOf S i)), (0, .ref (ad 0)), (1, .int (nI i))]) hx hb dX3_weight_22 rfl hl (by decide) rfl (fun ls hl => ?_)
    refine lv_aload_n hx hb dX3_weight_23 rfl (lv_at hl 1 rfl) ?_
    refine w_get cx (ci := 3) rfl iX3 (hP _ _ cM_0) 7 (by decide) k_458 (v := .ref (ad 6)) rfl dX3_weight_24 ?_
    refine lv_iload_n hx hb dX3_weight_27 rfl (lv_at hl 2 rfl) ?_
    refine w_iald cx (hP _ _ (cM_A (n := 40) 5 (by decide) rfl rfl)) i rfl (Nat.lt_of_lt_of_le hi hW.t) (by decide) dX3_weight_28 ?_
    refine w_ldc cx k_548 dX3_weight_29 ?_
    refine lv_icmp_ne (tgt := 38) hx hb dX3_weight_31 (by decide) (fun c_2 => ?_) (fun c_2 => ?_)
    · refine lv_iload_n hx hb dX3_weight_38 rfl (lv_at hl 0 rfl) ?_
      refine lv_aload_n hx hb dX3_weight_39 rfl (lv_at hl 1 rfl) ?_
      refine lv_iload_n hx hb dX3_weight_40 rfl (lv_at hl 2 rfl) ?_
      refine lv_aload_n hx hb dX3_weight_41 rfl (lv_at hl 1 rfl) ?_
      refine w_get cx (ci := 3) rfl iX3 (hP _ _ cM_0) 0 (by decide) k_451 (v := .int (sc S 0)) rfl dX3_weight_42 ?_
      refine w_callV (As := [.int (nI i), .int (sc S 0)]) (rest := [.int (f_X3_errorOf S i)]) (st := [.int (f_X3_spanOn S i (sc S 0)), .int (f_X3_errorOf S i)]) cx (c_X3_spanOn l G ad S hW (i := i) hi (sc S 0)) k_595 cal_yX3_spanOn (ci := 3) rfl (hP _ _ cM_0) hP rfl ⟨Nat.le_of_ble_eq_true rfl, Nat.le_of_ble_eq_true rfl⟩ hl.1 (Nat.le_of_ble_eq_true rfl) ⟨Nat.zero_le _, Nat.zero_le _⟩ rfl rfl dX3_weight_45 ?_
      refine lv_iadd hx hb dX3_weight_48 ?_
      refine lv_aload_n hx hb dX3_weight_49 rfl (lv_at hl 1 rfl) ?_
      refine lv_iload_n hx hb dX3_weight_50 rfl (lv_at hl 2 rfl) ?_
      refine w_callV (As := [.int (nI i)]) (rest := [.int ((f_X3_errorOf S i) + (f_X3_spanOn S i (sc S 0)))]) (st := [.int (f_X3_allowance S i), .int ((f_X3_errorOf S i) + (f_X3_spanOn S i (sc S 0)))]) cx (c_X3_allowance l G ad S hW (i := i) hi) k_647 cal_yX3_allowance (ci := 3) rfl (hP _ _ cM_0) hP rfl ⟨Nat.le_of_ble_eq_true rfl, Nat.le_of_ble_eq_true rfl⟩ hl.1 (Nat.le_of_ble_eq_true rfl) ⟨Nat.zero_le _, Nat.zero_le _⟩ rfl rfl dX3_weight_51 ?_
      refine lv_isub hx hb dX3_weight_54 ?_
      exact r_int cx hr hlk (by rw [f_X3_weight, if_pos c_1, if_neg c_2]) dX3_weight_55
    · refine lv_iconst (v := 0) hx hb dX3_weight_34 (by decide) ?_
      refine lv_goto (tgt := 55) hx hb dX3_weight_35 (by decide) ?_
      exact r_int cx hr hlk (by rw [f_X3_weight, if_pos c_1, if_pos c_2]) dX3_weight_55
  · refine lv_aload_n hx hb dX3_weight_8 rfl (lv_at hl 0 rfl) ?_
    refine lv_iload_n hx hb dX3_weight_9 rfl (lv_at hl 1 rfl) ?_
    refine w_callV (As := [.int (nI i)]) (rest := []) (st := [.int (f_X3_errorOf S i)]) cx (c_X3_errorOf l G ad S hW (i := i) hi) k_587 cal_yX3_errorOf (ci := 3) rfl (hP _ _ cM_0) hP rfl ⟨Nat.le_of_ble_eq_true rfl, Nat.le_of_ble_eq_true rfl⟩ hl.1 (Nat.le_of_ble_eq_true rfl) ⟨Nat.zero_le _, Nat.zero_le _⟩ rfl rfl dX3_weight_10 ?_
    refine lv_ineg hx hb dX3_weight_13 ?_
    refine lv_goto (tgt := 22) hx hb dX3_weight_14 (by decide) ?_
    refine lv_istore_n (lv' := [(2, .int (-(f_X3_errorOf S i))), (0, .ref (ad 0)), (1, .int (nI i))]) hx hb dX3_weight_22 rfl hl (by decide) rfl (fun ls hl => ?_)
    refine lv_aload_n hx hb dX3_weight_23 rfl (lv_at hl 1 rfl) ?_
    refine w_get cx (ci := 3) rfl iX3 (hP _ _ cM_0) 7 (by decide) k_458 (v := .ref (ad 6)) rfl dX3_weight_24 ?_
    refine lv_iload_n hx hb dX3_weight_27 rfl (lv_at hl 2 rfl) ?_
    refine w_iald cx (hP _ _ (cM_A (n := 40) 5 (by decide) rfl rfl)) i rfl (Nat.lt_of_lt_of_le hi hW.t) (by decide) dX3_weight_28 ?_
    refine w_ldc cx k_548 dX3_weight_29 ?_
    refine lv_icmp_ne (tgt := 38) hx hb dX3_weight_31 (by decide) (fun c_3 => ?_) (fun c_3 => ?_)
    · refine lv_iload_n hx hb dX3_weight_38 rfl (lv_at hl 0 rfl) ?_
      refine lv_aload_n hx hb dX3_weight_39 rfl (lv_at hl 1 rfl) ?_
      refine lv_iload_n hx hb dX3_weight_40 rfl (lv_at hl 2 rfl) ?_
      refine lv_aload_n hx hb dX3_weight_41 rfl (lv_at hl 1 rfl) ?_
      refine w_get cx (ci := 3) rfl iX3 (hP _ _ cM_0) 0 (by decide) k_451 (v := .int (sc S 0)) rfl dX3_weight_42 ?_
      refine w_callV (As := [.int (nI i), .int (sc S 0)]) (rest := [.int (-(f_X3_errorOf S i))]) (st := [.int (f_X3_spanOn S i (sc S 0)), .int (-(f_X3_errorOf S i))]) cx (c_X3_spanOn l G ad S hW (i := i) hi (sc S 0)) k_595 cal_yX3_spanOn (ci := 3) rfl (hP _ _ cM_0) hP rfl ⟨Nat.le_of_ble_eq_true rfl, Nat.le_of_ble_eq_true rfl⟩ hl.1 (Nat.le_of_ble_eq_true rfl) ⟨Nat.zero_le _, Nat.zero_le _⟩ rfl rfl dX3_weight_45 ?_
      refine lv_iadd hx hb dX3_weight_48 ?_
      refine lv_aload_n hx hb dX3_weight_49 rfl (lv_at hl 1 rfl) ?_
      refine lv_iload_n hx hb dX3_weight_50 rfl (lv_at hl 2 rfl) ?_
      refine w_callV (As := [.int (nI i)]) (rest := [.int ((-(f_X3_errorOf S i)) + (f_X3_spanOn S i (sc S 0)))]) (st := [.int (f_X3_allowance S i), .int ((-(f_X3_errorOf S i)) + (f_X3_spanOn S i (sc S 0)))]) cx (c_X3_allowance l G ad S hW (i := i) hi) k_647 cal_yX3_allowance (ci := 3) rfl (hP _ _ cM_0) hP rfl ⟨Nat.le_of_ble_eq_true rfl, Nat.le_of_ble_eq_true rfl⟩ hl.1 (Nat.le_of_ble_eq_true rfl) ⟨Nat.zero_le _, Nat.zero_le _⟩ rfl rfl dX3_weight_51 ?_
      refine lv_isub hx hb dX3_weight_54 ?_
      exact r_int cx hr hlk (by rw [f_X3_weight, if_neg c_1, if_neg c_3]) dX3_weight_55
    · refine lv_iconst (v := 0) hx hb dX3_weight_34 (by decide) ?_
      refine lv_goto (tgt := 55) hx hb dX3_weight_35 (by decide) ?_
      exact r_int cx hr hlk (by rw [f_X3_weight, if_neg c_1, if_pos c_3]) dX3_weight_55
def f_X3_isAhead (S : St) (i k : Nat) : Int32 :=
  if f_X3_group S i = f_X3_group S k then (if f_X3_weight S i = f_X3_weight S k then (if nI k ≤ nI i then 0
      else 1)
    else if f_X3_weight S i ≤ f_X3_weight S k then 0
    else 1)
  else if f_X3_group S k ≤ f_X3_group S i then 0
  else 1
theorem b_X3_isAhead (S : St) (i k : Nat) : f_X3_isAhead S i k = 0 ∨ f_X3_isAhead S i k = 1 := by
  unfold f_X3_isAhead
  repeat' split
  all_goals first | exact Or.inl rfl | exact Or.inr rfl
set_option maxRecDepth 20000 in
theorem c_X3_isAhead (l : Launch) (G : GG) (ad : Nat → Nat) (S : St) (hW : WF S) {i : Nat} (hi : i < nt S) {k : Nat} (hk : k < nt S) : MR l yX3_isAhead cX3_isAhead 3 (some .boolean) 2 44 G ad (cM G ad S) [.ref (ad 0), .int (nI i), .int (nI k)] (some (.int (f_X3_isAhead S i k))) := by
  refine MR.of [(0, .ref (ad 0)), (1, .int (nI i)), (2, .int (nI k))] (by decide) (Nat.le_of_ble_eq_true rfl) rfl ?_
  intro p e s m args below meth c cx hr hlk hP ls hl
  have hx := cx.1.1
  have hb := cx.1.2.1
  refine lv_aload_n hx hb dX3_isAhead_0 rfl (lv_at hl 0 rfl) ?_
  refine lv_iload_n hx hb dX3_isAhead_1 rfl (lv_at hl 1 rfl) ?_
  refine w_callV (As := [.int (nI i)]) (rest := []) (st := [.int (f_X3_group S i)]) cx (c_X3_group l G ad S hW (i := i) hi) k_680 cal_yX3_group (ci := 3) rfl (hP _ _ cM_0) hP rfl ⟨Nat.le_of_ble_eq_true rfl, Nat.le_of_ble_eq_true rfl⟩ hl.1 (Nat.le_of_ble_eq_true rfl) ⟨Nat.zero_le _, Nat.zero_le _⟩ rfl rfl dX3_isAhead_2 ?_
  refine lv_aload_n hx hb dX3_isAhead_5 rfl (lv_at hl 0 rfl) ?_
  refine lv_iload_n hx hb dX3_isAhead_6 rfl (lv_at hl 2 rfl) ?_
  refine w_callV (As := [.int (nI k)]) (rest := [.int (f_X3_group S i)]) (st := [.int (f_X3_group S k), .int (f_X3_group S i)]) cx (c_X3_group l G ad S hW (i := k) hk) k_680 cal_yX3_group (ci := 3) rfl (hP _ _ cM_0) hP rfl ⟨Nat.le_of_ble_eq_true rfl, Nat.le_of_ble_eq_true rfl⟩ hl.1 (Nat.le_of_ble_eq_true rfl) ⟨Nat.zero_le _, Nat.zero_le _⟩ rfl rfl dX3_isAhead_7 ?_
  refine lv_icmp_eq (tgt := 32) hx hb dX3_isAhead_10 (by decide) (fun c_1 => ?_) (fun c_1 => ?_)
  · refine lv_aload_n hx hb dX3_isAhead_32 rfl (lv_at hl 0 rfl) ?_
    refine lv_iload_n hx hb dX3_isAhead_33 rfl (lv_at hl 1 rfl) ?_
    refine w_callV (As := [.int (nI i)]) (rest := []) (st := [.int (f_X3_weight S i)]) cx (c_X3_weight l G ad S hW (i := i) hi) k_684 cal_yX3_weight (ci := 3) rfl (hP _ _ cM_0) hP rfl ⟨Nat.le_of_ble_eq_true rfl, Nat.le_of_ble_eq_true rfl⟩ hl.1 (Nat.le_of_ble_eq_true rfl) ⟨Nat.zero_le _, Nat.zero_le _⟩ rfl rfl dX3_isAhead_34 ?_
    refine lv_aload_n hx hb dX3_isAhead_37 rfl (lv_at hl 0 rfl) ?_
    refine lv_iload_n hx hb dX3_isAhead_38 rfl (lv_at hl 2 rfl) ?_
    refine w_callV (As := [.int (nI k)]) (rest := [.int (f_X3_weight S i)]) (st := [.int (f_X3_weight S k), .int (f_X3_weight S i)]) cx (c_X3_weight l G ad S hW (i := k) hk) k_684 cal_yX3_weight (ci := 3) rfl (hP _ _ cM_0) hP rfl ⟨Nat.le_of_ble_eq_true rfl, Nat.le_of_ble_eq_true rfl⟩ hl.1 (Nat.le_of_ble_eq_true rfl) ⟨Nat.zero_le _, Nat.zero_le _⟩ rfl rfl dX3_isAhead_39 ?_
    refine lv_icmp_eq (tgt := 66) hx hb dX3_isAhead_42 (by decide) (fun c_2 => ?_) (fun c_2 => ?_)
    · refine lv_iload_n hx hb dX3_isAhead_66 rfl (lv_at hl 1 rfl) ?_
      refine lv_iload_n hx hb dX3_isAhead_67 rfl (lv_at hl 2 rfl) ?_
      refine lv_icmp_ge (tgt := 75) hx hb dX3_isAhead_68 (by decide) (fun c_3 => ?_) (fun c_3 => ?_)
      · refine lv_iconst (v := 0) hx hb dX3_isAhead_75 (by decide) ?_
        exact r_bool cx hr hlk (by rw [f_X3_isAhead, if_pos c_1, if_pos c_2, if_pos c_3]) (Or.inl rfl) dX3_isAhead_76
      · refine lv_iconst (v := 1) hx hb dX3_isAhead_71 (by decide) ?_
        refine lv_goto (tgt := 76) hx hb dX3_isAhead_72 (by decide) ?_
        exact r_bool cx hr hlk (by rw [f_X3_isAhead, if_pos c_1, if_pos c_2, if_neg c_3]) (Or.inr rfl) dX3_isAhead_76
    · refine lv_aload_n hx hb dX3_isAhead_45 rfl (lv_at hl 0 rfl) ?_
      refine lv_iload_n hx hb dX3_isAhead_46 rfl (lv_at hl 1 rfl) ?_
      refine w_callV (As := [.int (nI i)]) (rest := []) (st := [.int (f_X3_weight S i)]) cx (c_X3_weight l G ad S hW (i := i) hi) k_684 cal_yX3_weight (ci := 3) rfl (hP _ _ cM_0) hP rfl ⟨Nat.le_of_ble_eq_true rfl, Nat.le_of_ble_eq_true rfl⟩ hl.1 (Nat.le_of_ble_eq_true rfl) ⟨Nat.zero_le _, Nat.zero_le _⟩ rfl rfl dX3_isAhead_47 ?_
      refine lv_aload_n hx hb dX3_isAhead_50 rfl (lv_at hl 0 rfl) ?_
      refine lv_iload_n hx hb dX3_isAhead_51 rfl (lv_at hl 2 rfl) ?_
      refine w_callV (As := [.int (nI k)]) (rest := [.int (f_X3_weight S i)]) (st := [.int (f_X3_weight S k), .int (f_X3_weight S i)]) cx (c_X3_weight l G ad S hW (i := k) hk) k_684 cal_yX3_weight (ci := 3) rfl (hP _ _ cM_0) hP rfl ⟨Nat.le_of_ble_eq_true rfl, Nat.le_of_ble_eq_true rfl⟩ hl.1 (Nat.le_of_ble_eq_true rfl) ⟨Nat.zero_le _, Nat.zero_le _⟩ rfl rfl dX3_isAhead_52 ?_
      refine lv_icmp_le (tgt := 62) hx hb dX3_isAhead_55 (by decide) (fun c_4 => ?_) (fun c_4 => ?_)
      · refine lv_iconst (v := 0) hx hb dX3_isAhead_62 (by decide) ?_
        refine lv_goto (tgt := 76) hx hb dX3_isAhead_63 (by decide) ?_
        exact r_bool cx hr hlk (by rw [f_X3_isAhead, if_pos c_1, if_neg c_2, if_pos c_4]) (Or.inl rfl) dX3_isAhead_76
      · refine lv_iconst (v := 1) hx hb dX3_isAhead_58 (by decide) ?_
        refine lv_goto (tgt := 76) hx hb dX3_isAhead_59 (by decide) ?_
        exact r_bool cx hr hlk (by rw [f_X3_isAhead, if_pos c_1, if_neg c_2, if_neg c_4]) (Or.inr rfl) dX3_isAhead_76
  · refine lv_aload_n hx hb dX3_isAhead_13 rfl (lv_at hl 0 rfl) ?_
    refine lv_iload_n hx hb dX3_isAhead_14 rfl (lv_at hl 1 rfl) ?_
    refine w_callV (As := [.int (nI i)]) (rest := []) (st := [.int (f_X3_group S i)]) cx (c_X3_group l G ad S hW (i := i) hi) k_680 cal_yX3_group (ci := 3) rfl (hP _ _ cM_0) hP rfl ⟨Nat.le_of_ble_eq_true rfl, Nat.le_of_ble_eq_true rfl⟩ hl.1 (Nat.le_of_ble_eq_true rfl) ⟨Nat.zero_le _, Nat.zero_le _⟩ rfl rfl dX3_isAhead_15 ?_
    refine lv_aload_n hx hb dX3_isAhead_18 rfl (lv_at hl 0 rfl) ?_
    refine lv_iload_n hx hb dX3_isAhead_19 rfl (lv_at hl 2 rfl) ?_
    refine w_callV (As := [.int (nI k)]) (rest := [.int (f_X3_group S i)]) (st := [.int (f_X3_group S k), .int (f_X3_group S i)]) cx (c_X3_group l G ad S hW (i := k) hk) k_680 cal_yX3_group (ci := 3) rfl (hP _ _ cM_0) hP rfl ⟨Nat.le_of_ble_eq_true rfl, Nat.le_of_ble_eq_true rfl⟩ hl.1 (Nat.le_of_ble_eq_true rfl) ⟨Nat.zero_le _, Nat.zero_le _⟩ rfl rfl dX3_isAhead_20 ?_
    refine lv_icmp_ge (tgt := 30) hx hb dX3_isAhead_23 (by decide) (fun c_5 => ?_) (fun c_5 => ?_)
    · refine lv_iconst (v := 0) hx hb dX3_isAhead_30 (by decide) ?_
      exact r_bool cx hr hlk (by rw [f_X3_isAhead, if_neg c_1, if_pos c_5]) (Or.inl rfl) dX3_isAhead_31
    · refine lv_iconst (v := 1) hx hb dX3_isAhead_26 (by decide) ?_
      refine lv_goto (tgt := 31) hx hb dX3_isAhead_27 (by decide) ?_
      exact r_bool cx hr hlk (by rw [f_X3_isAhead, if_neg c_1, if_neg c_5]) (Or.inr rfl) dX3_isAhead_31
set_option maxRecDepth 20000 in
theorem c_X3_about_out (l : Launch) (G : GG) (ad : Nat → Nat) (S : St) (hW : WF S) {n : Int32} (hn : nT S n) (x : Int32) : MR l yX3_about cX3_about 3 (some .int) 2 43 G ad (cM G ad S) [.ref (ad 0), .int n, .int x] (some (.int (-1))) := by
  refine MR.of [(0, .ref (ad 0)), (1, .int n), (2, .int x)] (by decide) (Nat.le_of_ble_eq_true rfl) rfl ?_
  intro p e s m args below meth c cx hr hlk hP ls hl
  have hx := cx.1.1
  have hb := cx.1.2.1
  refine lv_aload_n hx hb dX3_about_0 rfl (lv_at hl 0 rfl) ?_
  refine lv_iload_n hx hb dX3_about_1 rfl (lv_at hl 1 rfl) ?_
  refine w_callV (As := [.int n]) (rest := []) (st := [.int 0]) cx (c_X3_isThing_out l G ad S hW hn) k_553 cal_yX3_isThing (ci := 3) rfl (hP _ _ cM_0) hP rfl ⟨Nat.le_of_ble_eq_true rfl, Nat.le_of_ble_eq_true rfl⟩ hl.1 (Nat.le_of_ble_eq_true rfl) ⟨Nat.zero_le _, Nat.zero_le _⟩ rfl rfl dX3_about_2 ?_
  refine lv_if_ne (tgt := 10) hx hb dX3_about_5 (by decide) (fun c_1 => ?_) (fun c_1 => ?_)
  · exact absurd (by decide) c_1
  · refine lv_iconst (v := -1) hx hb dX3_about_8 (by decide) ?_
    exact r_int cx hr hlk rfl dX3_about_9
def f_X3_about (S : St) (i : Nat) (x : Int32) : Int32 :=
  if x = 0 then ar S 0 i
  else if x = 1 then ar S 1 i
  else if x = 2 then ar S 2 i
  else if x = 3 then ar S 3 i
  else if x = 4 then ar S 4 i
  else if x = 5 then ar S 5 i
  else if x = 6 then ar S 6 i
  else if x = 7 then ar S 7 i
  else (-2)
set_option maxRecDepth 20000 in
theorem c_X3_about (l : Launch) (G : GG) (ad : Nat → Nat) (S : St) (hW : WF S) {i : Nat} (hi : i < nt S) (x : Int32) : MR l yX3_about cX3_about 3 (some .int) 2 43 G ad (cM G ad S) [.ref (ad 0), .int (nI i), .int x] (some (.int (f_X3_about S i x))) := by
  refine MR.of [(0, .ref (ad 0)), (1, .int (nI i)), (2, .int x)] (by decide) (Nat.le_of_ble_eq_true rfl) rfl ?_
  intro p e s m args below meth c cx hr hlk hP ls hl
  have hx := cx.1.1
  have hb := cx.1.2.1
  refine lv_aload_n hx hb dX3_about_0 rfl (lv_at hl 0 rfl) ?_
  refine lv_iload_n hx hb dX3_about_1 rfl (lv_at hl 1 rfl) ?_
  refine w_callV (As := [.int (nI i)]) (rest := []) (st := [.int 1]) cx (c_X3_isThing_in l G ad S hW hi) k_553 cal_yX3_isThing (ci := 3) rfl (hP _ _ cM_0) hP rfl ⟨Nat.le_of_ble_eq_true rfl, Nat.le_of_ble_eq_true rfl⟩ hl.1 (Nat.le_of_ble_eq_true rfl) ⟨Nat.zero_le _, Nat.zero_le _⟩ rfl rfl dX3_about_2 ?_
  refine lv_if_ne (tgt := 10) hx hb dX3_about_5 (by decide) (fun c_1 => ?_) (fun c_1 => ?_)
  · refine lv_iload_n hx hb dX3_about_10 rfl (lv_at hl 2 rfl) ?_
    by_cases c_2 : x = 0
    · refine lv_tableIn (off := 45) (tgt := 56) hx hb dX3_about_11 (by rw [c_2]; decide) (by rw [c_2]; decide) (by rw [c_2]; decide) (by decide) ?_
      refine lv_aload_n hx hb dX3_about_56 rfl (lv_at hl 0 rfl) ?_
      refine w_get cx (ci := 3) rfl iX3 (hP _ _ cM_0) 2 (by decide) k_453 (v := .ref (ad 1)) rfl dX3_about_57 ?_
      refine lv_iload_n hx hb dX3_about_60 rfl (lv_at hl 1 rfl) ?_
      refine w_iald cx (hP _ _ (cM_A (n := 40) 0 (by decide) rfl rfl)) i rfl (Nat.lt_of_lt_of_le hi hW.t) (by decide) dX3_about_61 ?_
      exact r_int cx hr hlk (by rw [f_X3_about, if_pos c_2]) dX3_about_62
    · by_cases c_3 : x = 1
      · refine lv_tableIn (off := 52) (tgt := 63) hx hb dX3_about_11 (by rw [c_3]; decide) (by rw [c_3]; decide) (by rw [c_3]; decide) (by decide) ?_
        refine lv_aload_n hx hb dX3_about_63 rfl (lv_at hl 0 rfl) ?_
        refine w_get cx (ci := 3) rfl iX3 (hP _ _ cM_0) 3 (by decide) k_454 (v := .ref (ad 2)) rfl dX3_about_64 ?_
        refine lv_iload_n hx hb dX3_about_67 rfl (lv_at hl 1 rfl) ?_
        refine w_iald cx (hP _ _ (cM_A (n := 40) 1 (by decide) rfl rfl)) i rfl (Nat.lt_of_lt_of_le hi hW.t) (by decide) dX3_about_68 ?_
        exact r_int cx hr hlk (by rw [f_X3_about, if_neg c_2, if_pos c_3]) dX3_about_69
      · by_cases c_4 : x = 2
        · refine lv_tableIn (off := 59) (tgt := 70) hx hb dX3_about_11 (by rw [c_4]; decide) (by rw [c_4]; decide) (by rw [c_4]; decide) (by decide) ?_
          refine lv_aload_n hx hb dX3_about_70 rfl (lv_at hl 0 rfl) ?_
          refine w_get cx (ci := 3) rfl iX3 (hP _ _ cM_0) 4 (by decide) k_455 (v := .ref (ad 3)) rfl dX3_about_71 ?_
          refine lv_iload_n hx hb dX3_about_74 rfl (lv_at hl 1 rfl) ?_
          refine w_iald cx (hP _ _ (cM_A (n := 40) 2 (by decide) rfl rfl)) i rfl (Nat.lt_of_lt_of_le hi hW.t) (by decide) dX3_about_75 ?_
          exact r_int cx hr hlk (by rw [f_X3_about, if_neg c_2, if_neg c_3, if_pos c_4]) dX3_about_76
        · by_cases c_5 : x = 3
          · refine lv_tableIn (off := 66) (tgt := 77) hx hb dX3_about_11 (by rw [c_5]; decide) (by rw [c_5]; decide) (by rw [c_5]; decide) (by decide) ?_
            refine lv_aload_n hx hb dX3_about_77 rfl (lv_at hl 0 rfl) ?_
            refine w_get cx (ci := 3) rfl iX3 (hP _ _ cM_0) 5 (by decide) k_456 (v := .ref (ad 4)) rfl dX3_about_78 ?_
            refine lv_iload_n hx hb dX3_about_81 rfl (lv_at hl 1 rfl) ?_
            refine w_iald cx (hP _ _ (cM_A (n := 40) 3 (by decide) rfl rfl)) i rfl (Nat.lt_of_lt_of_le hi hW.t) (by decide) dX3_about_82 ?_
            exact r_int cx hr hlk (by rw [f_X3_about, if_neg c_2, if_neg c_3, if_neg c_4, if_pos c_5]) dX3_about_83
          · by_cases c_6 : x = 4
            · refine lv_tableIn (off := 73) (tgt := 84) hx hb dX3_about_11 (by rw [c_6]; decide) (by rw [c_6]; decide) (by rw [c_6]; decide) (by decide) ?_
              refine lv_aload_n hx hb dX3_about_84 rfl (lv_at hl 0 rfl) ?_
              refine w_get cx (ci := 3) rfl iX3 (hP _ _ cM_0) 6 (by decide) k_457 (v := .ref (ad 5)) rfl dX3_about_85 ?_
              refine lv_iload_n hx hb dX3_about_88 rfl (lv_at hl 1 rfl) ?_
              refine w_iald cx (hP _ _ (cM_A (n := 40) 4 (by decide) rfl rfl)) i rfl (Nat.lt_of_lt_of_le hi hW.t) (by decide) dX3_about_89 ?_
              exact r_int cx hr hlk (by rw [f_X3_about, if_neg c_2, if_neg c_3, if_neg c_4, if_neg c_5, if_pos c_6]) dX3_about_90
            · by_cases c_7 : x = 5
              · refine lv_tableIn (off := 80) (tgt := 91) hx hb dX3_about_11 (by rw [c_7]; decide) (by rw [c_7]; decide) (by rw [c_7]; decide) (by decide) ?_
                refine lv_aload_n hx hb dX3_about_91 rfl (lv_at hl 0 rfl) ?_
                refine w_get cx (ci := 3) rfl iX3 (hP _ _ cM_0) 7 (by decide) k_458 (v := .ref (ad 6)) rfl dX3_about_92 ?_
                refine lv_iload_n hx hb dX3_about_95 rfl (lv_at hl 1 rfl) ?_
                refine w_iald cx (hP _ _ (cM_A (n := 40) 5 (by decide) rfl rfl)) i rfl (Nat.lt_of_lt_of_le hi hW.t) (by decide) dX3_about_96 ?_
                exact r_int cx hr hlk (by rw [f_X3_about, if_neg c_2, if_neg c_3, if_neg c_4, if_neg c_5, if_neg c_6, if_pos c_7]) dX3_about_97
              · by_cases c_8 : x = 6
                · refine lv_tableIn (off := 87) (tgt := 98) hx hb dX3_about_11 (by rw [c_8]; decide) (by rw [c_8]; decide) (by rw [c_8]; decide) (by decide) ?_
                  refine lv_aload_n hx hb dX3_about_98 rfl (lv_at hl 0 rfl) ?_
                  refine w_get cx (ci := 3) rfl iX3 (hP _ _ cM_0) 8 (by decide) k_459 (v := .ref (ad 7)) rfl dX3_about_99 ?_
                  refine lv_iload_n hx hb dX3_about_102 rfl (lv_at hl 1 rfl) ?_
                  refine w_iald cx (hP _ _ (cM_A (n := 40) 6 (by decide) rfl rfl)) i rfl (Nat.lt_of_lt_of_le hi hW.t) (by decide) dX3_about_103 ?_
                  exact r_int cx hr hlk (by rw [f_X3_about, if_neg c_2, if_neg c_3, if_neg c_4, if_neg c_5, if_neg c_6, if_neg c_7, if_pos c_8]) dX3_about_104
                · by_cases c_9 : x = 7
                  · refine lv_tableIn (off := 94) (tgt := 105) hx hb dX3_about_11 (by rw [c_9]; decide) (by rw [c_9]; decide) (by rw [c_9]; decide) (by decide) ?_
                    refine lv_aload_n hx hb dX3_about_105 rfl (lv_at hl 0 rfl) ?_
                    refine w_get cx (ci := 3) rfl iX3 (hP _ _ cM_0) 9 (by decide) k_460 (v := .ref (ad 8)) rfl dX3_about_106 ?_
                    refine lv_iload_n hx hb dX3_about_109 rfl (lv_at hl 1 rfl) ?_
                    refine w_iald cx (hP _ _ (cM_A (n := 40) 7 (by decide) rfl rfl)) i rfl (Nat.lt_of_lt_of_le hi hW.t) (by decide) dX3_about_110 ?_
                    exact r_int cx hr hlk (by rw [f_X3_about, if_neg c_2, if_neg c_3, if_neg c_4, if_neg c_5, if_neg c_6, if_neg c_7, if_neg c_8, if_pos c_9]) dX3_about_111
                  · refine lv_tableOut (tgt := 112) hx hb dX3_about_11 (tab_out8 c_2 c_3 c_4 c_5 c_6 c_7 c_8 c_9) (by decide) ?_
                    refine lv_bipush (v := -2) hx hb dX3_about_112 (by decide) ?_
                    exact r_int cx hr hlk (by rw [f_X3_about, if_neg c_2, if_neg c_3, if_neg c_4, if_neg c_5, if_neg c_6, if_neg c_7, if_neg c_8, if_neg c_9]) dX3_about_114
  · exact absurd c_1 (by decide)
set_option maxRecDepth 20000 in
theorem c_X3_error_out (l : Launch) (G : GG) (ad : Nat → Nat) (S : St) (hW : WF S) {n : Int32} (hn : nT S n)  : MR l yX3_error cX3_error 2 (some .int) 2 43 G ad (cM G ad S) [.ref (ad 0), .int n] (some (.int (-1))) := by
  refine MR.of [(0, .ref (ad 0)), (1, .int n)] (by decide) (Nat.le_of_ble_eq_true rfl) rfl ?_
  intro p e s m args below meth c cx hr hlk hP ls hl
  have hx := cx.1.1
  have hb := cx.1.2.1
  refine lv_aload_n hx hb dX3_error_0 rfl (lv_at hl 0 rfl) ?_
  refine lv_iload_n hx hb dX3_error_1 rfl (lv_at hl 1 rfl) ?_
  refine w_callV (As := [.int n]) (rest := []) (st := [.int 0]) cx (c_X3_isThing_out l G ad S hW hn) k_553 cal_yX3_isThing (ci := 3) rfl (hP _ _ cM_0) hP rfl ⟨Nat.le_of_ble_eq_true rfl, Nat.le_of_ble_eq_true rfl⟩ hl.1 (Nat.le_of_ble_eq_true rfl) ⟨Nat.zero_le _, Nat.zero_le _⟩ rfl rfl dX3_error_2 ?_
  refine lv_if_ne (tgt := 10) hx hb dX3_error_5 (by decide) (fun c_1 => ?_) (fun c_1 => ?_)
  · exact absurd (by decide) c_1
  · refine lv_iconst (v := -1) hx hb dX3_error_8 (by decide) ?_
    exact r_int cx hr hlk rfl dX3_error_9
def f_X3_error (S : St) (i : Nat)  : Int32 :=
  if ar S 0 i = 0 then 0
  else if ar S 5 i = -1000000 then (-1000000)
  else ar S 16 (ix (ar S 5 i))
set_option maxRecDepth 20000 in
theorem c_X3_error (l : Launch) (G : GG) (ad : Nat → Nat) (S : St) (hW : WF S) {i : Nat} (hi : i < nt S)  : MR l yX3_error cX3_error 2 (some .int) 2 43 G ad (cM G ad S) [.ref (ad 0), .int (nI i)] (some (.int (f_X3_error S i))) := by
  refine MR.of [(0, .ref (ad 0)), (1, .int (nI i))] (by decide) (Nat.le_of_ble_eq_true rfl) rfl ?_
  intro p e s m args below meth c cx hr hlk hP ls hl
  have hx := cx.1.1
  have hb := cx.1.2.1
  refine lv_aload_n hx hb dX3_error_0 rfl (lv_at hl 0 rfl) ?_
  refine lv_iload_n hx hb dX3_error_1 rfl (lv_at hl 1 rfl) ?_
  refine w_callV (As := [.int (nI i)]) (rest := []) (st := [.int 1]) cx (c_X3_isThing_in l G ad S hW hi) k_553 cal_yX3_isThing (ci := 3) rfl (hP _ _ cM_0) hP rfl ⟨Nat.le_of_ble_eq_true rfl, Nat.le_of_ble_eq_true rfl⟩ hl.1 (Nat.le_of_ble_eq_true rfl) ⟨Nat.zero_le _, Nat.zero_le _⟩ rfl rfl dX3_error_2 ?_
  refine lv_if_ne (tgt := 10) hx hb dX3_error_5 (by decide) (fun c_1 => ?_) (fun c_1 => ?_)
  · refine lv_aload_n hx hb dX3_error_10 rfl (lv_at hl 0 rfl) ?_
    refine w_get cx (ci := 3) rfl iX3 (hP _ _ cM_0) 2 (by decide) k_453 (v := .ref (ad 1)) rfl dX3_error_11 ?_
    refine lv_iload_n hx hb dX3_error_14 rfl (lv_at hl 1 rfl) ?_
    refine w_iald cx (hP _ _ (cM_A (n := 40) 0 (by decide) rfl rfl)) i rfl (Nat.lt_of_lt_of_le hi hW.t) (by decide) dX3_error_15 ?_
    refine lv_if_ne (tgt := 23) hx hb dX3_error_16 (by decide) (fun c_2 => ?_) (fun c_2 => ?_)
    · refine lv_aload_n hx hb dX3_error_23 rfl (lv_at hl 0 rfl) ?_
      refine w_get cx (ci := 3) rfl iX3 (hP _ _ cM_0) 7 (by decide) k_458 (v := .ref (ad 6)) rfl dX3_error_24 ?_
      refine lv_iload_n hx hb dX3_error_27 rfl (lv_at hl 1 rfl) ?_
      refine w_iald cx (hP _ _ (cM_A (n := 40) 5 (by decide) rfl rfl)) i rfl (Nat.lt_of_lt_of_le hi hW.t) (by decide) dX3_error_28 ?_
      refine w_ldc cx k_548 dX3_error_29 ?_
      refine lv_icmp_ne (tgt := 39) hx hb dX3_error_31 (by decide) (fun c_3 => ?_) (fun c_3 => ?_)
      · refine lv_aload_n hx hb dX3_error_39 rfl (lv_at hl 0 rfl) ?_
        refine w_get cx (ci := 3) rfl iX3 (hP _ _ cM_0) 19 (by decide) k_470 (v := .ref (ad 17)) rfl dX3_error_40 ?_
        refine lv_aload_n hx hb dX3_error_43 rfl (lv_at hl 0 rfl) ?_
        refine w_get cx (ci := 3) rfl iX3 (hP _ _ cM_0) 7 (by decide) k_458 (v := .ref (ad 6)) rfl dX3_error_44 ?_
        refine lv_iload_n hx hb dX3_error_47 rfl (lv_at hl 1 rfl) ?_
        refine w_iald cx (hP _ _ (cM_A (n := 40) 5 (by decide) rfl rfl)) i rfl (Nat.lt_of_lt_of_le hi hW.t) (by decide) dX3_error_48 ?_
        refine w_iald cx (hP _ _ (cM_A (n := 300) 16 (by decide) rfl rfl)) (ix (ar S 5 i)) (hW.la hi c_3).1 (Nat.lt_of_lt_of_le (hW.la hi c_3).2 hW.r) (by decide) dX3_error_49 ?_
        exact r_int cx hr hlk (by rw [f_X3_error, if_neg c_2, if_neg c_3]) dX3_error_50
      · refine w_ldc cx k_548 dX3_error_34 ?_
        refine lv_goto (tgt := 50) hx hb dX3_error_36 (by decide) ?_
        exact r_int cx hr hlk (by rw [f_X3_error, if_neg c_2, if_pos c_3]) dX3_error_50
    · refine lv_iconst (v := 0) hx hb dX3_error_19 (by decide) ?_
      refine lv_goto (tgt := 50) hx hb dX3_error_20 (by decide) ?_
      exact r_int cx hr hlk (by rw [f_X3_error, if_pos c_2]) dX3_error_50
  · exact absurd c_1 (by decide)
set_option maxRecDepth 20000 in
theorem c_X3_span_out (l : Launch) (G : GG) (ad : Nat → Nat) (S : St) (hW : WF S) {n : Int32} (hn : nT S n)  : MR l yX3_span cX3_span 2 (some .int) 2 43 G ad (cM G ad S) [.ref (ad 0), .int n] (some (.int (-1))) := by
  refine MR.of [(0, .ref (ad 0)), (1, .int n)] (by decide) (Nat.le_of_ble_eq_true rfl) rfl ?_
  intro p e s m args below meth c cx hr hlk hP ls hl
  have hx := cx.1.1
  have hb := cx.1.2.1
  refine lv_aload_n hx hb dX3_span_0 rfl (lv_at hl 0 rfl) ?_
  refine lv_iload_n hx hb dX3_span_1 rfl (lv_at hl 1 rfl) ?_
  refine w_callV (As := [.int n]) (rest := []) (st := [.int 0]) cx (c_X3_isThing_out l G ad S hW hn) k_553 cal_yX3_isThing (ci := 3) rfl (hP _ _ cM_0) hP rfl ⟨Nat.le_of_ble_eq_true rfl, Nat.le_of_ble_eq_true rfl⟩ hl.1 (Nat.le_of_ble_eq_true rfl) ⟨Nat.zero_le _, Nat.zero_le _⟩ rfl rfl dX3_span_2 ?_
  refine lv_if_ne (tgt := 10) hx hb dX3_span_5 (by decide) (fun c_1 => ?_) (fun c_1 => ?_)
  · exact absurd (by decide) c_1
  · refine lv_iconst (v := -1) hx hb dX3_span_8 (by decide) ?_
    exact r_int cx hr hlk rfl dX3_span_9
def f_X3_span (S : St) (i : Nat)  : Int32 :=
  if ar S 0 i = 0 then 0
  else if ar S 5 i = -1000000 then (-1000000)
  else f_X3_spanOn S i (sc S 0)
set_option maxRecDepth 20000 in
theorem c_X3_span (l : Launch) (G : GG) (ad : Nat → Nat) (S : St) (hW : WF S) {i : Nat} (hi : i < nt S)  : MR l yX3_span cX3_span 2 (some .int) 2 43 G ad (cM G ad S) [.ref (ad 0), .int (nI i)] (some (.int (f_X3_span S i))) := by
  refine MR.of [(0, .ref (ad 0)), (1, .int (nI i))] (by decide) (Nat.le_of_ble_eq_true rfl) rfl ?_
  intro p e s m args below meth c cx hr hlk hP ls hl
  have hx := cx.1.1
  have hb := cx.1.2.1
  refine lv_aload_n hx hb dX3_span_0 rfl (lv_at hl 0 rfl) ?_
  refine lv_iload_n hx hb dX3_span_1 rfl (lv_at hl 1 rfl) ?_
  refine w_callV (As := [.int (nI i)]) (rest := []) (st := [.int 1]) cx (c_X3_isThing_in l G ad S hW hi) k_553 cal_yX3_isThing (ci := 3) rfl (hP _ _ cM_0) hP rfl ⟨Nat.le_of_ble_eq_true rfl, Nat.le_of_ble_eq_true rfl⟩ hl.1 (Nat.le_of_ble_eq_true rfl) ⟨Nat.zero_le _, Nat.zero_le _⟩ rfl rfl dX3_span_2 ?_
  refine lv_if_ne (tgt := 10) hx hb dX3_span_5 (by decide) (fun c_1 => ?_) (fun c_1 => ?_)
  · refine lv_aload_n hx hb dX3_span_10 rfl (lv_at hl 0 rfl) ?_
    refine w_get cx (ci := 3) rfl iX3 (hP _ _ cM_0) 2 (by decide) k_453 (v := .ref (ad 1)) rfl dX3_span_11 ?_
    refine lv_iload_n hx hb dX3_span_14 rfl (lv_at hl 1 rfl) ?_
    refine w_iald cx (hP _ _ (cM_A (n := 40) 0 (by decide) rfl rfl)) i rfl (Nat.lt_of_lt_of_le hi hW.t) (by decide) dX3_span_15 ?_
    refine lv_if_ne (tgt := 23) hx hb dX3_span_16 (by decide) (fun c_2 => ?_) (fun c_2 => ?_)
    · refine lv_aload_n hx hb dX3_span_23 rfl (lv_at hl 0 rfl) ?_
      refine w_get cx (ci := 3) rfl iX3 (hP _ _ cM_0) 7 (by decide) k_458 (v := .ref (ad 6)) rfl dX3_span_24 ?_
      refine lv_iload_n hx hb dX3_span_27 rfl (lv_at hl 1 rfl) ?_
      refine w_iald cx (hP _ _ (cM_A (n := 40) 5 (by decide) rfl rfl)) i rfl (Nat.lt_of_lt_of_le hi hW.t) (by decide) dX3_span_28 ?_
      refine w_ldc cx k_548 dX3_span_29 ?_
      refine lv_icmp_ne (tgt := 39) hx hb dX3_span_31 (by decide) (fun c_3 => ?_) (fun c_3 => ?_)
      · refine lv_aload_n hx hb dX3_span_39 rfl (lv_at hl 0 rfl) ?_
        refine lv_iload_n hx hb dX3_span_40 rfl (lv_at hl 1 rfl) ?_
        refine lv_aload_n hx hb dX3_span_41 rfl (lv_at hl 0 rfl) ?_
        refine w_get cx (ci := 3) rfl iX3 (hP _ _ cM_0) 0 (by decide) k_451 (v := .int (sc S 0)) rfl dX3_span_42 ?_
        refine w_callV (As := [.int (nI i), .int (sc S 0)]) (rest := []) (st := [.int (f_X3_spanOn S i (sc S 0))]) cx (c_X3_spanOn l G ad S hW (i := i) hi (sc S 0)) k_595 cal_yX3_spanOn (ci := 3) rfl (hP _ _ cM_0) hP rfl ⟨Nat.le_of_ble_eq_true rfl, Nat.le_of_ble_eq_true rfl⟩ hl.1 (Nat.le_of_ble_eq_true rfl) ⟨Nat.zero_le _, Nat.zero_le _⟩ rfl rfl dX3_span_45 ?_
        exact r_int cx hr hlk (by rw [f_X3_span, if_neg c_2, if_neg c_3]) dX3_span_48
      · refine w_ldc cx k_548 dX3_span_34 ?_
        refine lv_goto (tgt := 48) hx hb dX3_span_36 (by decide) ?_
        exact r_int cx hr hlk (by rw [f_X3_span, if_neg c_2, if_pos c_3]) dX3_span_48
    · refine lv_iconst (v := 0) hx hb dX3_span_19 (by decide) ?_
      refine lv_goto (tgt := 48) hx hb dX3_span_20 (by decide) ?_
      exact r_int cx hr hlk (by rw [f_X3_span, if_pos c_2]) dX3_span_48
  · exact absurd c_1 (by decide)
set_option maxRecDepth 20000 in
theorem c_X3_settled_out (l : Launch) (G : GG) (ad : Nat → Nat) (S : St) (hW : WF S) {n : Int32} (hn : nT S n)  : MR l yX3_settled cX3_settled 2 (some .int) 2 43 G ad (cM G ad S) [.ref (ad 0), .int n] (some (.int (-1))) := by
  refine MR.of [(0, .ref (ad 0)), (1, .int n)] (by decide) (Nat.le_of_ble_eq_true rfl) rfl ?_
  intro p e s m args below meth c cx hr hlk hP ls hl
  have hx := cx.1.1
  have hb := cx.1.2.1
  refine lv_aload_n hx hb dX3_settled_0 rfl (lv_at hl 0 rfl) ?_
  refine lv_iload_n hx hb dX3_settled_1 rfl (lv_at hl 1 rfl) ?_
  refine w_callV (As := [.int n]) (rest := []) (st := [.int 0]) cx (c_X3_isThing_out l G ad S hW hn) k_553 cal_yX3_isThing (ci := 3) rfl (hP _ _ cM_0) hP rfl ⟨Nat.le_of_ble_eq_true rfl, Nat.le_of_ble_eq_true rfl⟩ hl.1 (Nat.le_of_ble_eq_true rfl) ⟨Nat.zero_le _, Nat.zero_le _⟩ rfl rfl dX3_settled_2 ?_
  refine lv_if_ne (tgt := 12) hx hb dX3_settled_5 (by decide) (fun c_1 => ?_) (fun c_1 => ?_)
  · exact absurd (by decide) c_1
  · refine lv_iconst (v := -1) hx hb dX3_settled_8 (by decide) ?_
    refine lv_goto (tgt := 25) hx hb dX3_settled_9 (by decide) ?_
    exact r_int cx hr hlk rfl dX3_settled_25
def f_X3_settled (S : St) (i : Nat)  : Int32 :=
  if f_X3_settledNow S i = 0 then 0
  else 1
set_option maxRecDepth 20000 in
theorem c_X3_settled (l : Launch) (G : GG) (ad : Nat → Nat) (S : St) (hW : WF S) {i : Nat} (hi : i < nt S)  : MR l yX3_settled cX3_settled 2 (some .int) 2 43 G ad (cM G ad S) [.ref (ad 0), .int (nI i)] (some (.int (f_X3_settled S i))) := by
  refine MR.of [(0, .ref (ad 0)), (1, .int (nI i))] (by decide) (Nat.le_of_ble_eq_true rfl) rfl ?_
  intro p e s m args below meth c cx hr hlk hP ls hl
  have hx := cx.1.1
  have hb := cx.1.2.1
  refine lv_aload_n hx hb dX3_settled_0 rfl (lv_at hl 0 rfl) ?_
  refine lv_iload_n hx hb dX3_settled_1 rfl (lv_at hl 1 rfl) ?_
  refine w_callV (As := [.int (nI i)]) (rest := []) (st := [.int 1]) cx (c_X3_isThing_in l G ad S hW hi) k_553 cal_yX3_isThing (ci := 3) rfl (hP _ _ cM_0) hP rfl ⟨Nat.le_of_ble_eq_true rfl, Nat.le_of_ble_eq_true rfl⟩ hl.1 (Nat.le_of_ble_eq_true rfl) ⟨Nat.zero_le _, Nat.zero_le _⟩ rfl rfl dX3_settled_2 ?_
  refine lv_if_ne (tgt := 12) hx hb dX3_settled_5 (by decide) (fun c_1 => ?_) (fun c_1 => ?_)
  · refine lv_aload_n hx hb dX3_settled_12 rfl (lv_at hl 0 rfl) ?_
    refine lv_iload_n hx hb dX3_settled_13 rfl (lv_at hl 1 rfl) ?_
    refine w_callV (As := [.int (nI i)]) (rest := []) (st := [.int (f_X3_settledNow S i)]) cx (c_X3_settledNow l G ad S hW (i := i) hi) k_579 cal_yX3_settledNow (ci := 3) rfl (hP _ _ cM_0) hP rfl ⟨Nat.le_of_ble_eq_true rfl, Nat.le_of_ble_eq_true rfl⟩ hl.1 (Nat.le_of_ble_eq_true rfl) ⟨Nat.zero_le _, Nat.zero_le _⟩ rfl rfl dX3_settled_14 ?_
    refine lv_if_eq (tgt := 24) hx hb dX3_settled_17 (by decide) (fun c_2 => ?_) (fun c_2 => ?_)
    · refine lv_iconst (v := 0) hx hb dX3_settled_24 (by decide) ?_
      exact r_int cx hr hlk (by rw [f_X3_settled, if_pos c_2]) dX3_settled_25
    · refine lv_iconst (v := 1) hx hb dX3_settled_20 (by decide) ?_
      refine lv_goto (tgt := 25) hx hb dX3_settled_21 (by decide) ?_
      exact r_int cx hr hlk (by rw [f_X3_settled, if_neg c_2]) dX3_settled_25
  · exact absurd c_1 (by decide)
set_option maxRecDepth 20000 in
theorem c_X3_due_out (l : Launch) (G : GG) (ad : Nat → Nat) (S : St) (hW : WF S) {n : Int32} (hn : nT S n)  : MR l yX3_due cX3_due 2 (some .int) 2 43 G ad (cM G ad S) [.ref (ad 0), .int n] (some (.int (-1))) := by
  refine MR.of [(0, .ref (ad 0)), (1, .int n)] (by decide) (Nat.le_of_ble_eq_true rfl) rfl ?_
  intro p e s m args below meth c cx hr hlk hP ls hl
  have hx := cx.1.1
  have hb := cx.1.2.1
  refine lv_aload_n hx hb dX3_due_0 rfl (lv_at hl 0 rfl) ?_
  refine lv_iload_n hx hb dX3_due_1 rfl (lv_at hl 1 rfl) ?_
  refine w_callV (As := [.int n]) (rest := []) (st := [.int 0]) cx (c_X3_isThing_out l G ad S hW hn) k_553 cal_yX3_isThing (ci := 3) rfl (hP _ _ cM_0) hP rfl ⟨Nat.le_of_ble_eq_true rfl, Nat.le_of_ble_eq_true rfl⟩ hl.1 (Nat.le_of_ble_eq_true rfl) ⟨Nat.zero_le _, Nat.zero_le _⟩ rfl rfl dX3_due_2 ?_
  refine lv_if_ne (tgt := 12) hx hb dX3_due_5 (by decide) (fun c_1 => ?_) (fun c_1 => ?_)
  · exact absurd (by decide) c_1
  · refine lv_iconst (v := -1) hx hb dX3_due_8 (by decide) ?_
    refine lv_goto (tgt := 25) hx hb dX3_due_9 (by decide) ?_
    exact r_int cx hr hlk rfl dX3_due_25
def f_X3_due (S : St) (i : Nat)  : Int32 :=
  if f_X3_dueNow S i = 0 then 0
  else 1
set_option maxRecDepth 20000 in
theorem c_X3_due (l : Launch) (G : GG) (ad : Nat → Nat) (S : St) (hW : WF S) {i : Nat} (hi : i < nt S)  : MR l yX3_due cX3_due 2 (some .int) 2 43 G ad (cM G ad S) [.ref (ad 0), .int (nI i)] (some (.int (f_X3_due S i))) := by
  refine MR.of [(0, .ref (ad 0)), (1, .int (nI i))] (by decide) (Nat.le_of_ble_eq_true rfl) rfl ?_
  intro p e s m args below meth c cx hr hlk hP ls hl
  have hx := cx.1.1
  have hb := cx.1.2.1
  refine lv_aload_n hx hb dX3_due_0 rfl (lv_at hl 0 rfl) ?_
  refine lv_iload_n hx hb dX3_due_1 rfl (lv_at hl 1 rfl) ?_
  refine w_callV (As := [.int (nI i)]) (rest := []) (st := [.int 1]) cx (c_X3_isThing_in l G ad S hW hi) k_553 cal_yX3_isThing (ci := 3) rfl (hP _ _ cM_0) hP rfl ⟨Nat.le_of_ble_eq_true rfl, Nat.le_of_ble_eq_true rfl⟩ hl.1 (Nat.le_of_ble_eq_true rfl) ⟨Nat.zero_le _, Nat.zero_le _⟩ rfl rfl dX3_due_2 ?_
  refine lv_if_ne (tgt := 12) hx hb dX3_due_5 (by decide) (fun c_1 => ?_) (fun c_1 => ?_)
  · refine lv_aload_n hx hb dX3_due_12 rfl (lv_at hl 0 rfl) ?_
    refine lv_iload_n hx hb dX3_due_13 rfl (lv_at hl 1 rfl) ?_
    refine w_callV (As := [.int (nI i)]) (rest := []) (st := [.int (f_X3_dueNow S i)]) cx (c_X3_dueNow l G ad S hW (i := i) hi) k_583 cal_yX3_dueNow (ci := 3) rfl (hP _ _ cM_0) hP rfl ⟨Nat.le_of_ble_eq_true rfl, Nat.le_of_ble_eq_true rfl⟩ hl.1 (Nat.le_of_ble_eq_true rfl) ⟨Nat.zero_le _, Nat.zero_le _⟩ rfl rfl dX3_due_14 ?_
    refine lv_if_eq (tgt := 24) hx hb dX3_due_17 (by decide) (fun c_2 => ?_) (fun c_2 => ?_)
    · refine lv_iconst (v := 0) hx hb dX3_due_24 (by decide) ?_
      exact r_int cx hr hlk (by rw [f_X3_due, if_pos c_2]) dX3_due_25
    · refine lv_iconst (v := 1) hx hb dX3_due_20 (by decide) ?_
      refine lv_goto (tgt := 25) hx hb dX3_due_21 (by decide) ?_
      exact r_int cx hr hlk (by rw [f_X3_due, if_neg c_2]) dX3_due_25
  · exact absurd c_1 (by decide)
set_option maxRecDepth 20000 in
theorem c_X3_judge_out (l : Launch) (G : GG) (ad : Nat → Nat) (S : St) (hW : WF S) {n : Int32} (hn : nT S n)  : MR l yX3_judge cX3_judge 2 (some .int) 2 43 G ad (cM G ad S) [.ref (ad 0), .int n] (some (.int (-1))) := by
  refine MR.of [(0, .ref (ad 0)), (1, .int n)] (by decide) (Nat.le_of_ble_eq_true rfl) rfl ?_
  intro p e s m args below meth c cx hr hlk hP ls hl
  have hx := cx.1.1
  have hb := cx.1.2.1
  refine lv_aload_n hx hb dX3_judge_0 rfl (lv_at hl 0 rfl) ?_
  refine lv_iload_n hx hb dX3_judge_1 rfl (lv_at hl 1 rfl) ?_
  refine w_callV (As := [.int n]) (rest := []) (st := [.int 0]) cx (c_X3_isThing_out l G ad S hW hn) k_553 cal_yX3_isThing (ci := 3) rfl (hP _ _ cM_0) hP rfl ⟨Nat.le_of_ble_eq_true rfl, Nat.le_of_ble_eq_true rfl⟩ hl.1 (Nat.le_of_ble_eq_true rfl) ⟨Nat.zero_le _, Nat.zero_le _⟩ rfl rfl dX3_judge_2 ?_
  refine lv_if_eq (tgt := 20) hx hb dX3_judge_5 (by decide) (fun c_1 => ?_) (fun c_1 => ?_)
  · refine lv_iconst (v := -1) hx hb dX3_judge_20 (by decide) ?_
    exact r_int cx hr hlk rfl dX3_judge_21
  · exact absurd (by decide) c_1
def f_X3_judge (S : St) (i : Nat)  : Int32 :=
  f_X3_judgedOn S i (sc S 0)
set_option maxRecDepth 20000 in
theorem c_X3_judge (l : Launch) (G : GG) (ad : Nat → Nat) (S : St) (hW : WF S) {i : Nat} (hi : i < nt S)  : MR l yX3_judge cX3_judge 2 (some .int) 2 47 G ad (cM G ad S) [.ref (ad 0), .int (nI i)] (some (.int (f_X3_judge S i))) := by
  refine MR.of [(0, .ref (ad 0)), (1, .int (nI i))] (by decide) (Nat.le_of_ble_eq_true rfl) rfl ?_
  intro p e s m args below meth c cx hr hlk hP ls hl
  have hx := cx.1.1
  have hb := cx.1.2.1
  refine lv_aload_n hx hb dX3_judge_0 rfl (lv_at hl 0 rfl) ?_
  refine lv_iload_n hx hb dX3_judge_1 rfl (lv_at hl 1 rfl) ?_
  refine w_callV (As := [.int (nI i)]) (rest := []) (st := [.int 1]) cx (c_X3_isThing_in l G ad S hW hi) k_553 cal_yX3_isThing (ci := 3) rfl (hP _ _ cM_0) hP rfl ⟨Nat.le_of_ble_eq_true rfl, Nat.le_of_ble_eq_true rfl⟩ hl.1 (Nat.le_of_ble_eq_true rfl) ⟨Nat.zero_le _, Nat.zero_le _⟩ rfl rfl dX3_judge_2 ?_
  refine lv_if_eq (tgt := 20) hx hb dX3_judge_5 (by decide) (fun c_1 => ?_) (fun c_1 => ?_)
  · exact absurd c_1 (by decide)
  · refine lv_aload_n hx hb dX3_judge_8 rfl (lv_at hl 0 rfl) ?_
    refine lv_iload_n hx hb dX3_judge_9 rfl (lv_at hl 1 rfl) ?_
    refine lv_aload_n hx hb dX3_judge_10 rfl (lv_at hl 0 rfl) ?_
    refine w_get cx (ci := 3) rfl iX3 (hP _ _ cM_0) 0 (by decide) k_451 (v := .int (sc S 0)) rfl dX3_judge_11 ?_
    refine w_callV (As := [.int (nI i), .int (sc S 0)]) (rest := []) (st := [.int (f_X3_judgedOn S i (sc S 0))]) cx (c_X3_judgedOn l G ad S hW (i := i) hi (sc S 0)) k_643 cal_yX3_judgedOn (ci := 3) rfl (hP _ _ cM_0) hP rfl ⟨Nat.le_of_ble_eq_true rfl, Nat.le_of_ble_eq_true rfl⟩ hl.1 (Nat.le_of_ble_eq_true rfl) ⟨Nat.zero_le _, Nat.zero_le _⟩ rfl rfl dX3_judge_14 ?_
    refine lv_goto (tgt := 21) hx hb dX3_judge_17 (by decide) ?_
    exact r_int cx hr hlk (by rw [f_X3_judge]) dX3_judge_21
theorem dueNow_la {S : St} {i : Nat} (h0 : ¬ ar S 0 i = 0) (h : f_X3_dueNow S i = 0) : ¬ ar S 5 i = -1000000 := by
  intro e
  rw [f_X3_dueNow, if_neg h0, if_pos e] at h
  exact absurd h (by decide)
set_option maxRecDepth 20000 in
theorem c_X3_left_out (l : Launch) (G : GG) (ad : Nat → Nat) (S : St) (hW : WF S) {n : Int32} (hn : nT S n)  : MR l yX3_left cX3_left 2 (some .int) 2 43 G ad (cM G ad S) [.ref (ad 0), .int n] (some (.int (-1))) := by
  refine MR.of [(0, .ref (ad 0)), (1, .int n)] (by decide) (Nat.le_of_ble_eq_true rfl) rfl ?_
  intro p e s m args below meth c cx hr hlk hP ls hl
  have hx := cx.1.1
  have hb := cx.1.2.1
  refine lv_aload_n hx hb dX3_left_0 rfl (lv_at hl 0 rfl) ?_
  refine lv_iload_n hx hb dX3_left_1 rfl (lv_at hl 1 rfl) ?_
  refine w_callV (As := [.int n]) (rest := []) (st := [.int 0]) cx (c_X3_isThing_out l G ad S hW hn) k_553 cal_yX3_isThing (ci := 3) rfl (hP _ _ cM_0) hP rfl ⟨Nat.le_of_ble_eq_true rfl, Nat.le_of_ble_eq_true rfl⟩ hl.1 (Nat.le_of_ble_eq_true rfl) ⟨Nat.zero_le _, Nat.zero_le _⟩ rfl rfl dX3_left_2 ?_
  refine lv_if_ne (tgt := 10) hx hb dX3_left_5 (by decide) (fun c_1 => ?_) (fun c_1 => ?_)
  · exact absurd (by decide) c_1
  · refine lv_iconst (v := -1) hx hb dX3_left_8 (by decide) ?_
    exact r_int cx hr hlk rfl dX3_left_9
def f_X3_left (S : St) (i : Nat)  : Int32 :=
  if ar S 0 i = 0 then (-1000000)
  else if f_X3_dueNow S i = 0 then (((ar S 15 (ix (ar S 5 i))) + (ar S 2 i)) + 1) - (sc S 0)
  else 0
set_option maxRecDepth 20000 in
theorem c_X3_left (l : Launch) (G : GG) (ad : Nat → Nat) (S : St) (hW : WF S) {i : Nat} (hi : i < nt S)  : MR l yX3_left cX3_left 2 (some .int) 2 43 G ad (cM G ad S) [.ref (ad 0), .int (nI i)] (some (.int (f_X3_left S i))) := by
  refine MR.of [(0, .ref (ad 0)), (1, .int (nI i))] (by decide) (Nat.le_of_ble_eq_true rfl) rfl ?_
  intro p e s m args below meth c cx hr hlk hP ls hl
  have hx := cx.1.1
  have hb := cx.1.2.1
  refine lv_aload_n hx hb dX3_left_0 rfl (lv_at hl 0 rfl) ?_
  refine lv_iload_n hx hb dX3_left_1 rfl (lv_at hl 1 rfl) ?_
  refine w_callV (As := [.int (nI i)]) (rest := []) (st := [.int 1]) cx (c_X3_isThing_in l G ad S hW hi) k_553 cal_yX3_isThing (ci := 3) rfl (hP _ _ cM_0) hP rfl ⟨Nat.le_of_ble_eq_true rfl, Nat.le_of_ble_eq_true rfl⟩ hl.1 (Nat.le_of_ble_eq_true rfl) ⟨Nat.zero_le _, Nat.zero_le _⟩ rfl rfl dX3_left_2 ?_
  refine lv_if_ne (tgt := 10) hx hb dX3_left_5 (by decide) (fun c_1 => ?_) (fun c_1 => ?_)
  · refine lv_aload_n hx hb dX3_left_10 rfl (lv_at hl 0 rfl) ?_
    refine w_get cx (ci := 3) rfl iX3 (hP _ _ cM_0) 2 (by decide) k_453 (v := .ref (ad 1)) rfl dX3_left_11 ?_
    refine lv_iload_n hx hb dX3_left_14 rfl (lv_at hl 1 rfl) ?_
    refine w_iald cx (hP _ _ (cM_A (n := 40) 0 (by decide) rfl rfl)) i rfl (Nat.lt_of_lt_of_le hi hW.t) (by decide) dX3_left_15 ?_
    refine lv_if_ne (tgt := 24) hx hb dX3_left_16 (by decide) (fun c_2 => ?_) (fun c_2 => ?_)
    · refine lv_aload_n hx hb dX3_left_24 rfl (lv_at hl 0 rfl) ?_
      refine lv_iload_n hx hb dX3_left_25 rfl (lv_at hl 1 rfl) ?_
      refine w_callV (As := [.int (nI i)]) (rest := []) (st := [.int (f_X3_dueNow S i)]) cx (c_X3_dueNow l G ad S hW (i := i) hi) k_583 cal_yX3_dueNow (ci := 3) rfl (hP _ _ cM_0) hP rfl ⟨Nat.le_of_ble_eq_true rfl, Nat.le_of_ble_eq_true rfl⟩ hl.1 (Nat.le_of_ble_eq_true rfl) ⟨Nat.zero_le _, Nat.zero_le _⟩ rfl rfl dX3_left_26 ?_
      refine lv_if_eq (tgt := 36) hx hb dX3_left_29 (by decide) (fun c_3 => ?_) (fun c_3 => ?_)
      · refine lv_aload_n hx hb dX3_left_36 rfl (lv_at hl 0 rfl) ?_
        refine w_get cx (ci := 3) rfl iX3 (hP _ _ cM_0) 18 (by decide) k_469 (v := .ref (ad 16)) rfl dX3_left_37 ?_
        refine lv_aload_n hx hb dX3_left_40 rfl (lv_at hl 0 rfl) ?_
        refine w_get cx (ci := 3) rfl iX3 (hP _ _ cM_0) 7 (by decide) k_458 (v := .ref (ad 6)) rfl dX3_left_41 ?_
        refine lv_iload_n hx hb dX3_left_44 rfl (lv_at hl 1 rfl) ?_
        refine w_iald cx (hP _ _ (cM_A (n := 40) 5 (by decide) rfl rfl)) i rfl (Nat.lt_of_lt_of_le hi hW.t) (by decide) dX3_left_45 ?_
        refine w_iald cx (hP _ _ (cM_A (n := 300) 15 (by decide) rfl rfl)) (ix (ar S 5 i)) (hW.la hi (dueNow_la c_2 c_3)).1 (Nat.lt_of_lt_of_le (hW.la hi (dueNow_la c_2 c_3)).2 hW.r) (by decide) dX3_left_46 ?_
        refine lv_aload_n hx hb dX3_left_47 rfl (lv_at hl 0 rfl) ?_
        refine w_get cx (ci := 3) rfl iX3 (hP _ _ cM_0) 4 (by decide) k_455 (v := .ref (ad 3)) rfl dX3_left_48 ?_
        refine lv_iload_n hx hb dX3_left_51 rfl (lv_at hl 1 rfl) ?_
        refine w_iald cx (hP _ _ (cM_A (n := 40) 2 (by decide) rfl rfl)) i rfl (Nat.lt_of_lt_of_le hi hW.t) (by decide) dX3_left_52 ?_
        refine lv_iadd hx hb dX3_left_53 ?_
        refine lv_iconst (v := 1) hx hb dX3_left_54 (by decide) ?_
        refine lv_iadd hx hb dX3_left_55 ?_
        refine lv_aload_n hx hb dX3_left_56 rfl (lv_at hl 0 rfl) ?_
        refine w_get cx (ci := 3) rfl iX3 (hP _ _ cM_0) 0 (by decide) k_451 (v := .int (sc S 0)) rfl dX3_left_57 ?_
        refine lv_isub hx hb dX3_left_60 ?_
        exact r_int cx hr hlk (by rw [f_X3_left, if_neg c_2, if_pos c_3]) dX3_left_61
      · refine lv_iconst (v := 0) hx hb dX3_left_32 (by decide) ?_
        refine lv_goto (tgt := 61) hx hb dX3_left_33 (by decide) ?_
        exact r_int cx hr hlk (by rw [f_X3_left, if_neg c_2, if_neg c_3]) dX3_left_61
    · refine w_ldc cx k_548 dX3_left_19 ?_
      refine lv_goto (tgt := 61) hx hb dX3_left_21 (by decide) ?_
      exact r_int cx hr hlk (by rw [f_X3_left, if_pos c_2]) dX3_left_61
  · exact absurd c_1 (by decide)
set_option maxRecDepth 20000 in
theorem c_X3_told_out (l : Launch) (G : GG) (ad : Nat → Nat) (S : St) (hW : WF S) {n : Int32} (hn : nR S n) (x : Int32) : MR l yX3_told cX3_told 3 (some .int) 1 22 G ad (cM G ad S) [.ref (ad 0), .int n, .int x] (some (.int (-1))) := by
  refine MR.of [(0, .ref (ad 0)), (1, .int n), (2, .int x)] (by decide) (Nat.le_of_ble_eq_true rfl) rfl ?_
  intro p e s m args below meth c cx hr hlk hP ls hl
  have hx := cx.1.1
  have hb := cx.1.2.1
  refine lv_iload_n hx hb dX3_told_0 rfl (lv_at hl 1 rfl) ?_
  refine lv_iconst (v := 0) hx hb dX3_told_1 (by decide) ?_
  refine lv_aload_n hx hb dX3_told_2 rfl (lv_at hl 0 rfl) ?_
  refine w_get cx (ci := 3) rfl iX3 (hP _ _ cM_0) 15 (by decide) k_466 (v := .int (nI (nr S))) rfl dX3_told_3 ?_
  refine lv_iconst (v := 1) hx hb dX3_told_6 (by decide) ?_
  refine lv_isub hx hb dX3_told_7 ?_
  refine w_callS (As := [.int n, .int 0, .int ((nI (nr S)) - 1)]) (rest := []) (st := [.int (f_X3_in n 0 ((nI (nr S)) - 1))]) cx (c_X3_in l G ad _ n 0 ((nI (nr S)) - 1)) k_541 cal_yX3_in hP rfl ⟨Nat.le_of_ble_eq_true rfl, Nat.le_of_ble_eq_true rfl⟩ hl.1 (Nat.le_of_ble_eq_true rfl) ⟨Nat.zero_le _, Nat.zero_le _⟩ rfl rfl dX3_told_8 ?_
  refine lv_if_ne (tgt := 16) hx hb dX3_told_11 (by decide) (fun c_1 => ?_) (fun c_1 => ?_)
  · exact absurd (in_out (Nat.lt_of_le_of_lt hW.r (by decide)) hn) c_1
  · refine lv_iconst (v := -1) hx hb dX3_told_14 (by decide) ?_
    exact r_int cx hr hlk rfl dX3_told_15
def f_X3_told (S : St) (n : Nat) (x : Int32) : Int32 :=
  if x = 0 then ar S 13 n
  else if x = 1 then ar S 14 n
  else if x = 2 then ar S 15 n
  else if x = 3 then ar S 16 n
  else if x = 4 then ar S 17 n
  else if x = 5 then (if ar S 18 n = 0 then 0
    else 1)
  else if x = 6 then (if ar S 19 n = 0 then 0
    else 1)
  else if x = 7 then ar S 20 n
  else (-2)
set_option maxRecDepth 20000 in
theorem c_X3_told (l : Launch) (G : GG) (ad : Nat → Nat) (S : St) (hW : WF S) {n : Nat} (hn : n < nr S) (x : Int32) : MR l yX3_told cX3_told 3 (some .int) 1 22 G ad (cM G ad S) [.ref (ad 0), .int (nI n), .int x] (some (.int (f_X3_told S n x))) := by
  refine MR.of [(0, .ref (ad 0)), (1, .int (nI n)), (2, .int x)] (by decide) (Nat.le_of_ble_eq_true rfl) rfl ?_
  intro p e s m args below meth c cx hr hlk hP ls hl
  have hx := cx.1.1
  have hb := cx.1.2.1
  refine lv_iload_n hx hb dX3_told_0 rfl (lv_at hl 1 rfl) ?_
  refine lv_iconst (v := 0) hx hb dX3_told_1 (by decide) ?_
  refine lv_aload_n hx hb dX3_told_2 rfl (lv_at hl 0 rfl) ?_
  refine w_get cx (ci := 3) rfl iX3 (hP _ _ cM_0) 15 (by decide) k_466 (v := .int (nI (nr S))) rfl dX3_told_3 ?_
  refine lv_iconst (v := 1) hx hb dX3_told_6 (by decide) ?_
  refine lv_isub hx hb dX3_told_7 ?_
  refine w_callS (As := [.int (nI n), .int 0, .int ((nI (nr S)) - 1)]) (rest := []) (st := [.int (f_X3_in (nI n) 0 ((nI (nr S)) - 1))]) cx (c_X3_in l G ad _ (nI n) 0 ((nI (nr S)) - 1)) k_541 cal_yX3_in hP rfl ⟨Nat.le_of_ble_eq_true rfl, Nat.le_of_ble_eq_true rfl⟩ hl.1 (Nat.le_of_ble_eq_true rfl) ⟨Nat.zero_le _, Nat.zero_le _⟩ rfl rfl dX3_told_8 ?_
  refine lv_if_ne (tgt := 16) hx hb dX3_told_11 (by decide) (fun c_1 => ?_) (fun c_1 => ?_)
  · refine lv_iload_n hx hb dX3_told_16 rfl (lv_at hl 2 rfl) ?_
    by_cases c_2 : x = 0
    · refine lv_tableIn (off := 47) (tgt := 64) hx hb dX3_told_17 (by rw [c_2]; decide) (by rw [c_2]; decide) (by rw [c_2]; decide) (by decide) ?_
      refine lv_aload_n hx hb dX3_told_64 rfl (lv_at hl 0 rfl) ?_
      refine w_get cx (ci := 3) rfl iX3 (hP _ _ cM_0) 16 (by decide) k_467 (v := .ref (ad 14)) rfl dX3_told_65 ?_
      refine lv_iload_n hx hb dX3_told_68 rfl (lv_at hl 1 rfl) ?_
      refine w_iald cx (hP _ _ (cM_A (n := 300) 13 (by decide) rfl rfl)) n rfl (Nat.lt_of_lt_of_le hn hW.r) (by decide) dX3_told_69 ?_
      exact r_int cx hr hlk (by rw [f_X3_told, if_pos c_2]) dX3_told_70
    · by_cases c_3 : x = 1
      · refine lv_tableIn (off := 54) (tgt := 71) hx hb dX3_told_17 (by rw [c_3]; decide) (by rw [c_3]; decide) (by rw [c_3]; decide) (by decide) ?_
        refine lv_aload_n hx hb dX3_told_71 rfl (lv_at hl 0 rfl) ?_
        refine w_get cx (ci := 3) rfl iX3 (hP _ _ cM_0) 17 (by decide) k_468 (v := .ref (ad 15)) rfl dX3_told_72 ?_
        refine lv_iload_n hx hb dX3_told_75 rfl (lv_at hl 1 rfl) ?_
        refine w_iald cx (hP _ _ (cM_A (n := 300) 14 (by decide) rfl rfl)) n rfl (Nat.lt_of_lt_of_le hn hW.r) (by decide) dX3_told_76 ?_
        exact r_int cx hr hlk (by rw [f_X3_told, if_neg c_2, if_pos c_3]) dX3_told_77
      · by_cases c_4 : x = 2
        · refine lv_tableIn (off := 61) (tgt := 78) hx hb dX3_told_17 (by rw [c_4]; decide) (by rw [c_4]; decide) (by rw [c_4]; decide) (by decide) ?_
          refine lv_aload_n hx hb dX3_told_78 rfl (lv_at hl 0 rfl) ?_
          refine w_get cx (ci := 3) rfl iX3 (hP _ _ cM_0) 18 (by decide) k_469 (v := .ref (ad 16)) rfl dX3_told_79 ?_
          refine lv_iload_n hx hb dX3_told_82 rfl (lv_at hl 1 rfl) ?_
          refine w_iald cx (hP _ _ (cM_A (n := 300) 15 (by decide) rfl rfl)) n rfl (Nat.lt_of_lt_of_le hn hW.r) (by decide) dX3_told_83 ?_
          exact r_int cx hr hlk (by rw [f_X3_told, if_neg c_2, if_neg c_3, if_pos c_4]) dX3_told_84
        · by_cases c_5 : x = 3
          · refine lv_tableIn (off := 68) (tgt := 85) hx hb dX3_told_17 (by rw [c_5]; decide) (by rw [c_5]; decide) (by rw [c_5]; decide) (by decide) ?_
            refine lv_aload_n hx hb dX3_told_85 rfl (lv_at hl 0 rfl) ?_
            refine w_get cx (ci := 3) rfl iX3 (hP _ _ cM_0) 19 (by decide) k_470 (v := .ref (ad 17)) rfl dX3_told_86 ?_
            refine lv_iload_n hx hb dX3_told_89 rfl (lv_at hl 1 rfl) ?_
            refine w_iald cx (hP _ _ (cM_A (n := 300) 16 (by decide) rfl rfl)) n rfl (Nat.lt_of_lt_of_le hn hW.r) (by decide) dX3_told_90 ?_
            exact r_int cx hr hlk (by rw [f_X3_told, if_neg c_2, if_neg c_3, if_neg c_4, if_pos c_5]) dX3_told_91
          · by_cases c_6 : x = 4
            · refine lv_tableIn (off := 75) (tgt := 92) hx hb dX3_told_17 (by rw [c_6]; decide) (by rw [c_6]; decide) (by rw [c_6]; decide) (by decide) ?_
              refine lv_aload_n hx hb dX3_told_92 rfl (lv_at hl 0 rfl) ?_
              refine w_get cx (ci := 3) rfl iX3 (hP _ _ cM_0) 20 (by decide) k_471 (v := .ref (ad 18)) rfl dX3_told_93 ?_
              refine lv_iload_n hx hb dX3_told_96 rfl (lv_at hl 1 rfl) ?_
              refine w_iald cx (hP _ _ (cM_A (n := 300) 17 (by decide) rfl rfl)) n rfl (Nat.lt_of_lt_of_le hn hW.r) (by decide) dX3_told_97 ?_
              exact r_int cx hr hlk (by rw [f_X3_told, if_neg c_2, if_neg c_3, if_neg c_4, if_neg c_5, if_pos c_6]) dX3_told_98
            · by_cases c_7 : x = 5
              · refine lv_tableIn (off := 82) (tgt := 99) hx hb dX3_told_17 (by rw [c_7]; decide) (by rw [c_7]; decide) (by rw [c_7]; decide) (by decide) ?_
                refine lv_aload_n hx hb dX3_told_99 rfl (lv_at hl 0 rfl) ?_
                refine w_get cx (ci := 3) rfl iX3 (hP _ _ cM_0) 21 (by decide) k_472 (v := .ref (ad 19)) rfl dX3_told_100 ?_
                refine lv_iload_n hx hb dX3_told_103 rfl (lv_at hl 1 rfl) ?_
                refine w_zald cx (hP _ _ (cM_A (n := 300) 18 (by decide) rfl rfl)) n rfl (Nat.lt_of_lt_of_le hn hW.r) (by decide) dX3_told_104 ?_
                refine lv_if_eq (tgt := 112) hx hb dX3_told_105 (by decide) (fun c_8 => ?_) (fun c_8 => ?_)
                · refine lv_iconst (v := 0) hx hb dX3_told_112 (by decide) ?_
                  exact r_int cx hr hlk (by rw [f_X3_told, if_neg c_2, if_neg c_3, if_neg c_4, if_neg c_5, if_neg c_6, if_pos c_7, if_pos c_8]) dX3_told_113
                · refine lv_iconst (v := 1) hx hb dX3_told_108 (by decide) ?_
                  refine lv_goto (tgt := 113) hx hb dX3_told_109 (by decide) ?_
                  exact r_int cx hr hlk (by rw [f_X3_told, if_neg c_2, if_neg c_3, if_neg c_4, if_neg c_5, if_neg c_6, if_pos c_7, if_neg c_8]) dX3_told_113
              · by_cases c_9 : x = 6
                · refine lv_tableIn (off := 97) (tgt := 114) hx hb dX3_told_17 (by rw [c_9]; decide) (by rw [c_9]; decide) (by rw [c_9]; decide) (by decide) ?_
                  refine lv_aload_n hx hb dX3_told_114 rfl (lv_at hl 0 rfl) ?_
                  refine w_get cx (ci := 3) rfl iX3 (hP _ _ cM_0) 22 (by decide) k_473 (v := .ref (ad 20)) rfl dX3_told_115 ?_
                  refine lv_iload_n hx hb dX3_told_118 rfl (lv_at hl 1 rfl) ?_
                  refine w_zald cx (hP _ _ (cM_A (n := 300) 19 (by decide) rfl rfl)) n rfl (Nat.lt_of_lt_of_le hn hW.r) (by decide) dX3_told_119 ?_
                  refine lv_if_eq (tgt := 127) hx hb dX3_told_120 (by decide) (fun c_10 => ?_) (fun c_10 => ?_)
                  · refine lv_iconst (v := 0) hx hb dX3_told_127 (by decide) ?_
                    exact r_int cx hr hlk (by rw [f_X3_told, if_neg c_2, if_neg c_3, if_neg c_4, if_neg c_5, if_neg c_6, if_neg c_7, if_pos c_9, if_pos c_10]) dX3_told_128
                  · refine lv_iconst (v := 1) hx hb dX3_told_123 (by decide) ?_
                    refine lv_goto (tgt := 128) hx hb dX3_told_124 (by decide) ?_
                    exact r_int cx hr hlk (by rw [f_X3_told, if_neg c_2, if_neg c_3, if_neg c_4, if_neg c_5, if_neg c_6, if_neg c_7, if_pos c_9, if_neg c_10]) dX3_told_128
                · by_cases c_11 : x = 7
                  · refine lv_tableIn (off := 112) (tgt := 129) hx hb dX3_told_17 (by rw [c_11]; decide) (by rw [c_11]; decide) (by rw [c_11]; decide) (by decide) ?_
                    refine lv_aload_n hx hb dX3_told_129 rfl (lv_at hl 0 rfl) ?_
                    refine w_get cx (ci := 3) rfl iX3 (hP _ _ cM_0) 23 (by decide) k_474 (v := .ref (ad 21)) rfl dX3_told_130 ?_
                    refine lv_iload_n hx hb dX3_told_133 rfl (lv_at hl 1 rfl) ?_
                    refine w_iald cx (hP _ _ (cM_A (n := 300) 20 (by decide) rfl rfl)) n rfl (Nat.lt_of_lt_of_le hn hW.r) (by decide) dX3_told_134 ?_
                    exact r_int cx hr hlk (by rw [f_X3_told, if_neg c_2, if_neg c_3, if_neg c_4, if_neg c_5, if_neg c_6, if_neg c_7, if_neg c_9, if_pos c_11]) dX3_told_135
                  · refine lv_tableOut (tgt := 136) hx hb dX3_told_17 (tab_out8 c_2 c_3 c_4 c_5 c_6 c_7 c_9 c_11) (by decide) ?_
                    refine lv_bipush (v := -2) hx hb dX3_told_136 (by decide) ?_
                    exact r_int cx hr hlk (by rw [f_X3_told, if_neg c_2, if_neg c_3, if_neg c_4, if_neg c_5, if_neg c_6, if_neg c_7, if_neg c_9, if_neg c_11]) dX3_told_138
  · exact absurd c_1 (in_in hn (Nat.lt_of_le_of_lt hW.r (by decide)))
set_option maxRecDepth 20000 in
theorem c_X3_charged_out (l : Launch) (G : GG) (ad : Nat → Nat) (S : St) (hW : WF S) {n : Int32} (hn : f_X3_in n 0 9 = 0) : MR l yX3_charged cX3_charged 2 (some .long) 1 22 G ad (cM G ad S) [.ref (ad 0), .int n] (some (.long (-1))) := by
  refine MR.of [(0, .ref (ad 0)), (1, .int n)] (by decide) (Nat.le_of_ble_eq_true rfl) rfl ?_
  intro p e s m args below meth c cx hr hlk hP ls hl
  have hx := cx.1.1
  have hb := cx.1.2.1
  refine lv_iload_n hx hb dX3_charged_0 rfl (lv_at hl 1 rfl) ?_
  refine lv_iconst (v := 0) hx hb dX3_charged_1 (by decide) ?_
  refine lv_bipush (v := 9) hx hb dX3_charged_2 (by decide) ?_
  refine w_callS (As := [.int n, .int 0, .int 9]) (rest := []) (st := [.int (f_X3_in n 0 9)]) cx (c_X3_in l G ad _ n 0 9) k_541 cal_yX3_in hP rfl ⟨Nat.le_of_ble_eq_true rfl, Nat.le_of_ble_eq_true rfl⟩ hl.1 (Nat.le_of_ble_eq_true rfl) ⟨Nat.zero_le _, Nat.zero_le _⟩ rfl rfl dX3_charged_4 ?_
  refine lv_if_eq (tgt := 19) hx hb dX3_charged_7 (by decide) (fun c_1 => ?_) (fun c_1 => ?_)
  · refine w_ldc2 cx k_671 dX3_charged_19 ?_
    exact r_long cx hr hlk rfl dX3_charged_22
  · exact absurd hn c_1
def f_X3_charged (S : St) (o : Nat) : Int64 :=
  os S o
set_option maxRecDepth 20000 in
theorem c_X3_charged (l : Launch) (G : GG) (ad : Nat → Nat) (S : St) (hW : WF S) {o : Nat} (ho : o < 10) : MR l yX3_charged cX3_charged 2 (some .long) 1 22 G ad (cM G ad S) [.ref (ad 0), .int (nI o)] (some (.long (f_X3_charged S o))) := by
  refine MR.of [(0, .ref (ad 0)), (1, .int (nI o))] (by decide) (Nat.le_of_ble_eq_true rfl) rfl ?_
  intro p e s m args below meth c cx hr hlk hP ls hl
  have hx := cx.1.1
  have hb := cx.1.2.1
  refine lv_iload_n hx hb dX3_charged_0 rfl (lv_at hl 1 rfl) ?_
  refine lv_iconst (v := 0) hx hb dX3_charged_1 (by decide) ?_
  refine lv_bipush (v := 9) hx hb dX3_charged_2 (by decide) ?_
  refine w_callS (As := [.int (nI o), .int 0, .int 9]) (rest := []) (st := [.int (f_X3_in (nI o) 0 9)]) cx (c_X3_in l G ad _ (nI o) 0 9) k_541 cal_yX3_in hP rfl ⟨Nat.le_of_ble_eq_true rfl, Nat.le_of_ble_eq_true rfl⟩ hl.1 (Nat.le_of_ble_eq_true rfl) ⟨Nat.zero_le _, Nat.zero_le _⟩ rfl rfl dX3_charged_4 ?_
  refine lv_if_eq (tgt := 19) hx hb dX3_charged_7 (by decide) (fun c_1 => ?_) (fun c_1 => ?_)
  · exact absurd c_1 (isO_in ho)
  · refine lv_aload_n hx hb dX3_charged_10 rfl (lv_at hl 0 rfl) ?_
    refine w_get cx (ci := 3) rfl iX3 (hP _ _ cM_0) 27 (by decide) k_478 (v := .ref (ad 24)) rfl dX3_charged_11 ?_
    refine lv_iload_n hx hb dX3_charged_14 rfl (lv_at hl 1 rfl) ?_
    refine w_lald cx (hP _ _ cM_L) o rfl ho (by decide) dX3_charged_15 ?_
    refine lv_goto (tgt := 22) hx hb dX3_charged_16 (by decide) ?_
    exact r_long cx hr hlk (by rw [f_X3_charged]) dX3_charged_22
end
section
theorem i_neg_le {x : Int32} (h : x < 0) : x ≤ 0 := by rw [i_lt] at h; rw [i_le]; omega
theorem i_neg_nle {x : Int32} (h : x < 0) : ¬ 0 ≤ x := by rw [i_lt] at h; rw [i_le]; omega
def r_X2_unsettled (S : St) : Nat → Nat → Int32 → Int32
  | 0, k, z => z
  | q + 1, k, z => if ar S 18 k = 0 then r_X2_unsettled S q (k + 1) (z + 1)
    else r_X2_unsettled S q (k + 1) z
def f_X2_unsettled (S : St) : Int32 :=
  r_X2_unsettled S (nr S) 0 0
set_option maxRecDepth 20000 in
theorem c_X2_unsettled (l : Launch) (G : GG) (ad : Nat → Nat) (S : St) (E : Ex) (hW : WF S)  : MR l yX2_unsettled cX2_unsettled 4 (some .int) 2 43 G ad (cX G ad S E) [.ref (ad 0)] (some (.int (f_X2_unsettled S))) := by
  refine MR.of [(0, .ref (ad 0))] (by decide) (Nat.le_of_ble_eq_true rfl) rfl ?_
  intro p e s m args below meth c cx hr hlk hP ls hl
  have hx := cx.1.1
  have hb := cx.1.2.1
  refine lv_iconst (v := 0) hx hb dX2_unsettled_0 (by decide) ?_
  refine lv_istore_n (lv' := [(1, .int 0), (0, .ref (ad 0))]) hx hb dX2_unsettled_1 rfl hl (by decide) rfl (fun ls hl => ?_)
  refine lv_iconst (v := 0) hx hb dX2_unsettled_2 (by decide) ?_
  refine lv_istore_n (lv' := [(2, .int 0), (1, .int 0), (0, .ref (ad 0))]) hx hb dX2_unsettled_3 rfl hl (by decide) rfl (fun ls hl => ?_)
  rw [show f_X2_unsettled S = r_X2_unsettled S (nr S) 0 0 from by rw [f_X2_unsettled]]
  have lp : ∀ (q k : Nat) (z : Int32), k + q = nr S → ∀ ls : Array Slot, lv_has ls 4 [(2, .int (nI k)), (1, .int z), (0, .ref (ad 0))] → W p l e (rmM 2 43 0 0) s m args below meth c s.heap [] 0 0 (MQ below (Rd (some (.int (r_X2_unsettled S q k z)))) args s 0 0 (fun _ => False)) (F0 m 4 ls []) := by
    intro q
    induction q with
    | zero =>
      intro k z hk ls hl
      have hk2 : k = nr S := by omega
      subst hk2
      refine lv_iload_n hx hb dX2_unsettled_4 rfl (lv_at hl 0 rfl) ?_
      refine lv_aload_n hx hb dX2_unsettled_5 rfl (lv_at hl 2 rfl) ?_
      refine w_get cx (ci := 2) rfl iX2 (hP _ _ (cX_lo 0 (by decide) rfl)) 11 (by decide) k_56 (v := .int (nI (nr S))) rfl dX2_unsettled_6 ?_
      refine lv_icmp_ge (tgt := 38) hx hb dX2_unsettled_9 (by decide) (fun c_1 => ?_) (fun c_1 => ?_)
      · refine lv_iload_n hx hb dX2_unsettled_38 rfl (lv_at hl 1 rfl) ?_
        exact r_int cx hr hlk (by rw [r_X2_unsettled]) dX2_unsettled_39
      · exact absurd (Int32.le_refl _) c_1
    | succ q ih =>
      intro k z hk1 ls hl
      have hk : k < nr S := by omega
      refine lv_iload_n hx hb dX2_unsettled_4 rfl (lv_at hl 0 rfl) ?_
      refine lv_aload_n hx hb dX2_unsettled_5 rfl (lv_at hl 2 rfl) ?_
      refine w_get cx (ci := 2) rfl iX2 (hP _ _ (cX_lo 0 (by decide) rfl)) 11 (by decide) k_56 (v := .int (nI (nr S))) rfl dX2_unsettled_6 ?_
      refine lv_icmp_ge (tgt := 38) hx hb dX2_unsettled_9 (by decide) (fun c_2 => ?_) (fun c_2 => ?_)
      · exact absurd c_2 (nI_ge (b := nr S) hk (Nat.lt_of_le_of_lt hW.r (by decide)))
      · refine lv_aload_n hx hb dX2_unsettled_12 rfl (lv_at hl 2 rfl) ?_
        refine lv_iload_n hx hb dX2_unsettled_13 rfl (lv_at hl 0 rfl) ?_
        refine w_callV (As := [.int (nI k)]) (rest := []) (st := [.ref (ad (100 + k))]) cx (c_X2_trialAt_in l G ad S E hW hk) k_308 cal_yX2_trialAt (ci := 2) rfl (hP _ _ (cX_lo 0 (by decide) rfl)) hP rfl ⟨Nat.le_of_ble_eq_true rfl, Nat.le_of_ble_eq_true rfl⟩ hl.1 (Nat.le_of_ble_eq_true rfl) ⟨Nat.zero_le _, Nat.zero_le _⟩ rfl rfl dX2_unsettled_14 ?_
        refine lv_astore_n (lv' := [(3, .ref (ad (100 + k))), (2, .int (nI k)), (1, .int z), (0, .ref (ad 0))]) hx hb dX2_unsettled_17 rfl hl (by decide) rfl (fun ls hl => ?_)
        refine lv_aload_n hx hb dX2_unsettled_18 rfl (lv_at hl 0 rfl) ?_
        refine lv_ifnull hx hb dX2_unsettled_19 ?_
        refine lv_aload_n hx hb dX2_unsettled_22 rfl (lv_at hl 0 rfl) ?_
        refine w_get cx (ci := 1) rfl iX1 (hP _ _ (cX_R hk)) 7 (by decide) k_263 (v := .int (ar S 18 k)) rfl dX2_unsettled_23 ?_
        refine lv_if_ne (tgt := 32) hx hb dX2_unsettled_26 (by decide) (fun c_3 => ?_) (fun c_3 => ?_)
        · refine lv_iinc (v := nI (k + 1)) (lv' := [(2, .int (nI (k + 1))), (3, .ref (ad (100 + k))), (1, .int z), (0, .ref (ad 0))]) hx hb dX2_unsettled_32 hl (k := 1) rfl (by rw [nI_succ]; rfl) (by decide) rfl (fun ls hl => ?_)
          refine lv_goto (tgt := 4) hx hb dX2_unsettled_35 (by decide) ?_
          rw [show r_X2_unsettled S (q + 1) k z = r_X2_unsettled S q (k + 1) z from by rw [r_X2_unsettled, if_neg c_3]]
          exact ih (k + 1) z (by omega) ls (lv_sub hl [0, 2, 3] rfl)
        · refine lv_iinc (v := z + 1) (lv' := [(1, .int (z + 1)), (3, .ref (ad (100 + k))), (2, .int (nI k)), (0, .ref (ad 0))]) hx hb dX2_unsettled_29 hl (k := 2) rfl rfl (by decide) rfl (fun ls hl => ?_)
          refine lv_iinc (v := nI (k + 1)) (lv' := [(2, .int (nI (k + 1))), (1, .int (z + 1)), (3, .ref (ad (100 + k))), (0, .ref (ad 0))]) hx hb dX2_unsettled_32 hl (k := 2) rfl (by rw [nI_succ]; rfl) (by decide) rfl (fun ls hl => ?_)
          refine lv_goto (tgt := 4) hx hb dX2_unsettled_35 (by decide) ?_
          rw [show r_X2_unsettled S (q + 1) k z = r_X2_unsettled S q (k + 1) (z + 1) from by rw [r_X2_unsettled, if_pos c_3]]
          exact ih (k + 1) (z + 1) (by omega) ls (lv_sub hl [0, 1, 3] rfl)
  exact lp (nr S) 0 0 (Nat.zero_add _) ls hl
set_option maxRecDepth 20000 in
theorem c_X2_sealed_out (l : Launch) (G : GG) (ad : Nat → Nat) (S : St) (E : Ex) (hW : WF S) {n : Int32} (hn : f_X2_isSealNumber n = 0) : MR l yX2_sealed cX2_sealed 4 (some .int) 2 42 G ad (cX G ad S E) [.ref (ad 0), .int n] (some (.int (-2))) := by
  refine MR.of [(0, .ref (ad 0)), (1, .int n)] (by decide) (Nat.le_of_ble_eq_true rfl) rfl ?_
  intro p e s m args below meth c cx hr hlk hP ls hl
  have hx := cx.1.1
  have hb := cx.1.2.1
  refine lv_iload_n hx hb dX2_sealed_0 rfl (lv_at hl 1 rfl) ?_
  refine w_callS (As := [.int n]) (rest := []) (st := [.int (f_X2_isSealNumber n)]) cx (c_X2_isSealNumber l G ad _ n) k_389 cal_yX2_isSealNumber hP rfl ⟨Nat.le_of_ble_eq_true rfl, Nat.le_of_ble_eq_true rfl⟩ hl.1 (Nat.le_of_ble_eq_true rfl) ⟨Nat.zero_le _, Nat.zero_le _⟩ rfl rfl dX2_sealed_1 ?_
  refine lv_if_ne (tgt := 10) hx hb dX2_sealed_4 (by decide) (fun c_1 => ?_) (fun c_1 => ?_)
  · exact absurd hn c_1
  · refine lv_bipush (v := -2) hx hb dX2_sealed_7 (by decide) ?_
    exact r_int cx hr hlk rfl dX2_sealed_9
def r_X2_sealed (S : St) (x : Int32) : Nat → Nat → Int32
  | 0, k => (-1000000)
  | q + 1, k => if ar S 6 k = x then nI k
    else r_X2_sealed S x q (k + 1)
def f_X2_sealed (S : St) (x : Int32) : Int32 :=
  r_X2_sealed S x (nt S) 0
set_option maxRecDepth 20000 in
theorem c_X2_sealed (l : Launch) (G : GG) (ad : Nat → Nat) (S : St) (E : Ex) (hW : WF S) {x : Int32} (hn : ¬ f_X2_isSealNumber x = 0) : MR l yX2_sealed cX2_sealed 4 (some .int) 2 43 G ad (cX G ad S E) [.ref (ad 0), .int x] (some (.int (f_X2_sealed S x))) := by
  refine MR.of [(0, .ref (ad 0)), (1, .int x)] (by decide) (Nat.le_of_ble_eq_true rfl) rfl ?_
  intro p e s m args below meth c cx hr hlk hP ls hl
  have hx := cx.1.1
  have hb := cx.1.2.1
  refine lv_iload_n hx hb dX2_sealed_0 rfl (lv_at hl 1 rfl) ?_
  refine w_callS (As := [.int x]) (rest := []) (st := [.int (f_X2_isSealNumber x)]) cx (c_X2_isSealNumber l G ad _ x) k_389 cal_yX2_isSealNumber hP rfl ⟨Nat.le_of_ble_eq_true rfl, Nat.le_of_ble_eq_true rfl⟩ hl.1 (Nat.le_of_ble_eq_true rfl) ⟨Nat.zero_le _, Nat.zero_le _⟩ rfl rfl dX2_sealed_1 ?_
  refine lv_if_ne (tgt := 10) hx hb dX2_sealed_4 (by decide) (fun c_1 => ?_) (fun c_1 => ?_)
  · refine lv_iconst (v := 0) hx hb dX2_sealed_10 (by decide) ?_
    refine lv_istore_n (lv' := [(2, .int 0), (0, .ref (ad 0)), (1, .int x)]) hx hb dX2_sealed_11 rfl hl (by decide) rfl (fun ls hl => ?_)
    rw [show f_X2_sealed S x = r_X2_sealed S x (nt S) 0 from by rw [f_X2_sealed]]
    have lp : ∀ (q k : Nat), k + q = nt S → ∀ ls : Array Slot, lv_has ls 4 [(2, .int (nI k)), (0, .ref (ad 0)), (1, .int x)] → W p l e (rmM 2 43 0 0) s m args below meth c s.heap [] 0 0 (MQ below (Rd (some (.int (r_X2_sealed S x q k)))) args s 0 0 (fun _ => False)) (F0 m 12 ls []) := by
      intro q
      induction q with
      | zero =>
        intro k hk ls hl
        have hk2 : k = nt S := by omega
        subst hk2
        refine lv_iload_n hx hb dX2_sealed_12 rfl (lv_at hl 0 rfl) ?_
        refine lv_aload_n hx hb dX2_sealed_13 rfl (lv_at hl 1 rfl) ?_
        refine w_get cx (ci := 2) rfl iX2 (hP _ _ (cX_lo 0 (by decide) rfl)) 10 (by decide) k_55 (v := .int (nI (nt S))) rfl dX2_sealed_14 ?_
        refine lv_icmp_ge (tgt := 46) hx hb dX2_sealed_17 (by decide) (fun c_2 => ?_) (fun c_2 => ?_)
        · refine w_ldc cx k_156 dX2_sealed_46 ?_
          exact r_int cx hr hlk (by rw [r_X2_sealed]) dX2_sealed_48
        · exact absurd (Int32.le_refl _) c_2
      | succ q ih =>
        intro k hk1 ls hl
        have hk : k < nt S := by omega
        refine lv_iload_n hx hb dX2_sealed_12 rfl (lv_at hl 0 rfl) ?_
        refine lv_aload_n hx hb dX2_sealed_13 rfl (lv_at hl 1 rfl) ?_
        refine w_get cx (ci := 2) rfl iX2 (hP _ _ (cX_lo 0 (by decide) rfl)) 10 (by decide) k_55 (v := .int (nI (nt S))) rfl dX2_sealed_14 ?_
        refine lv_icmp_ge (tgt := 46) hx hb dX2_sealed_17 (by decide) (fun c_3 => ?_) (fun c_3 => ?_)
        · exact absurd c_3 (nI_ge (b := nt S) hk (Nat.lt_of_le_of_lt hW.t (by decide)))
        · refine lv_aload_n hx hb dX2_sealed_20 rfl (lv_at hl 1 rfl) ?_
          refine lv_iload_n hx hb dX2_sealed_21 rfl (lv_at hl 0 rfl) ?_
          refine w_callV (As := [.int (nI k)]) (rest := []) (st := [.ref (ad (10 + 2 * k))]) cx (c_X2_thingAt_in l G ad S E hW hk) k_149 cal_yX2_thingAt (ci := 2) rfl (hP _ _ (cX_lo 0 (by decide) rfl)) hP rfl ⟨Nat.le_of_ble_eq_true rfl, Nat.le_of_ble_eq_true rfl⟩ hl.1 (Nat.le_of_ble_eq_true rfl) ⟨Nat.zero_le _, Nat.zero_le _⟩ rfl rfl dX2_sealed_22 ?_
          refine lv_astore_n (lv' := [(3, .ref (ad (10 + 2 * k))), (2, .int (nI k)), (0, .ref (ad 0)), (1, .int x)]) hx hb dX2_sealed_25 rfl hl (by decide) rfl (fun ls hl => ?_)
          refine lv_aload_n hx hb dX2_sealed_26 rfl (lv_at hl 0 rfl) ?_
          refine lv_ifnull hx hb dX2_sealed_27 ?_
          refine lv_aload_n hx hb dX2_sealed_30 rfl (lv_at hl 0 rfl) ?_
          refine w_get cx (ci := 0) rfl iX0 (hP _ _ (cX_T hk hW.t)) 8 (by decide) k_121 (v := .int (ar S 6 k)) rfl dX2_sealed_31 ?_
          refine lv_iload_n hx hb dX2_sealed_34 rfl (lv_at hl 3 rfl) ?_
          refine lv_icmp_ne (tgt := 40) hx hb dX2_sealed_35 (by decide) (fun c_4 => ?_) (fun c_4 => ?_)
          · refine lv_iinc (v := nI (k + 1)) (lv' := [(2, .int (nI (k + 1))), (3, .ref (ad (10 + 2 * k))), (0, .ref (ad 0)), (1, .int x)]) hx hb dX2_sealed_40 hl (k := 1) rfl (by rw [nI_succ]; rfl) (by decide) rfl (fun ls hl => ?_)
            refine lv_goto (tgt := 12) hx hb dX2_sealed_43 (by decide) ?_
            rw [show r_X2_sealed S x (q + 1) k = r_X2_sealed S x q (k + 1) from by rw [r_X2_sealed, if_neg c_4]]
            exact ih (k + 1) (by omega) ls (lv_sub hl [0, 2, 3] rfl)
          · refine lv_iload_n hx hb dX2_sealed_38 rfl (lv_at hl 1 rfl) ?_
            exact r_int cx hr hlk (by rw [r_X2_sealed, if_pos c_4]) dX2_sealed_39
    exact lp (nt S) 0 (Nat.zero_add _) ls hl
  · exact absurd c_1 hn
def r_X2_howManyDue (S : St) : Nat → Nat → Int32 → Int32
  | 0, k, z => z
  | q + 1, k, z => if f_X0_isDueOn S k (sc S 0) = 0 then r_X2_howManyDue S q (k + 1) z
    else r_X2_howManyDue S q (k + 1) (z + 1)
def f_X2_howManyDue (S : St) : Int32 :=
  r_X2_howManyDue S (nt S) 0 0
set_option maxRecDepth 20000 in
theorem c_X2_howManyDue (l : Launch) (G : GG) (ad : Nat → Nat) (S : St) (E : Ex) (hW : WF S)  : MR l yX2_howManyDue cX2_howManyDue 4 (some .int) 3 65 G ad (cX G ad S E) [.ref (ad 0)] (some (.int (f_X2_howManyDue S))) := by
  refine MR.of [(0, .ref (ad 0))] (by decide) (Nat.le_of_ble_eq_true rfl) rfl ?_
  intro p e s m args below meth c cx hr hlk hP ls hl
  have hx := cx.1.1
  have hb := cx.1.2.1
  refine lv_iconst (v := 0) hx hb dX2_howManyDue_0 (by decide) ?_
  refine lv_istore_n (lv' := [(1, .int 0), (0, .ref (ad 0))]) hx hb dX2_howManyDue_1 rfl hl (by decide) rfl (fun ls hl => ?_)
  refine lv_iconst (v := 0) hx hb dX2_howManyDue_2 (by decide) ?_
  refine lv_istore_n (lv' := [(2, .int 0), (1, .int 0), (0, .ref (ad 0))]) hx hb dX2_howManyDue_3 rfl hl (by decide) rfl (fun ls hl => ?_)
  rw [show f_X2_howManyDue S = r_X2_howManyDue S (nt S) 0 0 from by rw [f_X2_howManyDue]]
  have lp : ∀ (q k : Nat) (z : Int32), k + q = nt S → ∀ ls : Array Slot, lv_has ls 4 [(2, .int (nI k)), (1, .int z), (0, .ref (ad 0))] → W p l e (rmM 3 65 0 0) s m args below meth c s.heap [] 0 0 (MQ below (Rd (some (.int (r_X2_howManyDue S q k z)))) args s 0 0 (fun _ => False)) (F0 m 4 ls []) := by
    intro q
    induction q with
    | zero =>
      intro k z hk ls hl
      have hk2 : k = nt S := by omega
      subst hk2
      refine lv_iload_n hx hb dX2_howManyDue_4 rfl (lv_at hl 0 rfl) ?_
      refine lv_aload_n hx hb dX2_howManyDue_5 rfl (lv_at hl 2 rfl) ?_
      refine w_get cx (ci := 2) rfl iX2 (hP _ _ (cX_lo 0 (by decide) rfl)) 10 (by decide) k_55 (v := .int (nI (nt S))) rfl dX2_howManyDue_6 ?_
      refine lv_icmp_ge (tgt := 42) hx hb dX2_howManyDue_9 (by decide) (fun c_1 => ?_) (fun c_1 => ?_)
      · refine lv_iload_n hx hb dX2_howManyDue_42 rfl (lv_at hl 1 rfl) ?_
        exact r_int cx hr hlk (by rw [r_X2_howManyDue]) dX2_howManyDue_43
      · exact absurd (Int32.le_refl _) c_1
    | succ q ih =>
      intro k z hk1 ls hl
      have hk : k < nt S := by omega
      refine lv_iload_n hx hb dX2_howManyDue_4 rfl (lv_at hl 0 rfl) ?_
      refine lv_aload_n hx hb dX2_howManyDue_5 rfl (lv_at hl 2 rfl) ?_
      refine w_get cx (ci := 2) rfl iX2 (hP _ _ (cX_lo 0 (by decide) rfl)) 10 (by decide) k_55 (v := .int (nI (nt S))) rfl dX2_howManyDue_6 ?_
      refine lv_icmp_ge (tgt := 42) hx hb dX2_howManyDue_9 (by decide) (fun c_2 => ?_) (fun c_2 => ?_)
      · exact absurd c_2 (nI_ge (b := nt S) hk (Nat.lt_of_le_of_lt hW.t (by decide)))
      · refine lv_aload_n hx hb dX2_howManyDue_12 rfl (lv_at hl 2 rfl) ?_
        refine lv_iload_n hx hb dX2_howManyDue_13 rfl (lv_at hl 0 rfl) ?_
        refine w_callV (As := [.int (nI k)]) (rest := []) (st := [.ref (ad (10 + 2 * k))]) cx (c_X2_thingAt_in l G ad S E hW hk) k_149 cal_yX2_thingAt (ci := 2) rfl (hP _ _ (cX_lo 0 (by decide) rfl)) hP rfl ⟨Nat.le_of_ble_eq_true rfl, Nat.le_of_ble_eq_true rfl⟩ hl.1 (Nat.le_of_ble_eq_true rfl) ⟨Nat.zero_le _, Nat.zero_le _⟩ rfl rfl dX2_howManyDue_14 ?_
        refine lv_astore_n (lv' := [(3, .ref (ad (10 + 2 * k))), (2, .int (nI k)), (1, .int z), (0, .ref (ad 0))]) hx hb dX2_howManyDue_17 rfl hl (by decide) rfl (fun ls hl => ?_)
        refine lv_aload_n hx hb dX2_howManyDue_18 rfl (lv_at hl 0 rfl) ?_
        refine lv_ifnull hx hb dX2_howManyDue_19 ?_
        refine lv_aload_n hx hb dX2_howManyDue_22 rfl (lv_at hl 0 rfl) ?_
        refine lv_aload_n hx hb dX2_howManyDue_23 rfl (lv_at hl 3 rfl) ?_
        refine w_get cx (ci := 2) rfl iX2 (hP _ _ (cX_lo 0 (by decide) rfl)) 9 (by decide) k_54 (v := .int (sc S 0)) rfl dX2_howManyDue_24 ?_
        refine w_callV (As := [.int (sc S 0)]) (rest := []) (st := [.int (f_X0_isDueOn S k (sc S 0))]) cx (c_X0_isDueOn l G ad S E hW (i := k) hk (sc S 0)) k_341 cal_yX0_isDueOn (ci := 0) rfl (hP _ _ (cX_T hk hW.t)) hP rfl ⟨Nat.le_of_ble_eq_true rfl, Nat.le_of_ble_eq_true rfl⟩ hl.1 (Nat.le_of_ble_eq_true rfl) ⟨Nat.zero_le _, Nat.zero_le _⟩ rfl rfl dX2_howManyDue_27 ?_
        refine lv_if_eq (tgt := 36) hx hb dX2_howManyDue_30 (by decide) (fun c_3 => ?_) (fun c_3 => ?_)
        · refine lv_iinc (v := nI (k + 1)) (lv' := [(2, .int (nI (k + 1))), (3, .ref (ad (10 + 2 * k))), (1, .int z), (0, .ref (ad 0))]) hx hb dX2_howManyDue_36 hl (k := 1) rfl (by rw [nI_succ]; rfl) (by decide) rfl (fun ls hl => ?_)
          refine lv_goto (tgt := 4) hx hb dX2_howManyDue_39 (by decide) ?_
          rw [show r_X2_howManyDue S (q + 1) k z = r_X2_howManyDue S q (k + 1) z from by rw [r_X2_howManyDue, if_pos c_3]]
          exact ih (k + 1) z (by omega) ls (lv_sub hl [0, 2, 3] rfl)
        · refine lv_iinc (v := z + 1) (lv' := [(1, .int (z + 1)), (3, .ref (ad (10 + 2 * k))), (2, .int (nI k)), (0, .ref (ad 0))]) hx hb dX2_howManyDue_33 hl (k := 2) rfl rfl (by decide) rfl (fun ls hl => ?_)
          refine lv_iinc (v := nI (k + 1)) (lv' := [(2, .int (nI (k + 1))), (1, .int (z + 1)), (3, .ref (ad (10 + 2 * k))), (0, .ref (ad 0))]) hx hb dX2_howManyDue_36 hl (k := 2) rfl (by rw [nI_succ]; rfl) (by decide) rfl (fun ls hl => ?_)
          refine lv_goto (tgt := 4) hx hb dX2_howManyDue_39 (by decide) ?_
          rw [show r_X2_howManyDue S (q + 1) k z = r_X2_howManyDue S q (k + 1) (z + 1) from by rw [r_X2_howManyDue, if_neg c_3]]
          exact ih (k + 1) (z + 1) (by omega) ls (lv_sub hl [0, 1, 3] rfl)
  exact lp (nt S) 0 0 (Nat.zero_add _) ls hl
def r_X2_howManyJudged (S : St) (x : Int32) : Nat → Nat → Int32 → Int32
  | 0, k, z => z
  | q + 1, k, z => if f_X0_isOfTrade S k = 0 then r_X2_howManyJudged S x q (k + 1) z
    else if f_X2_judgement S k = x then r_X2_howManyJudged S x q (k + 1) (z + 1)
    else r_X2_howManyJudged S x q (k + 1) z
def f_X2_howManyJudged (S : St) (x : Int32) : Int32 :=
  r_X2_howManyJudged S x (nt S) 0 0
set_option maxRecDepth 20000 in
theorem c_X2_howManyJudged (l : Launch) (G : GG) (ad : Nat → Nat) (S : St) (E : Ex) (hW : WF S) (x : Int32) : MR l yX2_howManyJudged cX2_howManyJudged 5 (some .int) 3 68 G ad (cX G ad S E) [.ref (ad 0), .int x] (some (.int (f_X2_howManyJudged S x))) := by
  refine MR.of [(0, .ref (ad 0)), (1, .int x)] (by decide) (Nat.le_of_ble_eq_true rfl) rfl ?_
  intro p e s m args below meth c cx hr hlk hP ls hl
  have hx := cx.1.1
  have hb := cx.1.2.1
  refine lv_iconst (v := 0) hx hb dX2_howManyJudged_0 (by decide) ?_
  refine lv_istore_n (lv' := [(2, .int 0), (0, .ref (ad 0)), (1, .int x)]) hx hb dX2_howManyJudged_1 rfl hl (by decide) rfl (fun ls hl => ?_)
  refine lv_iconst (v := 0) hx hb dX2_howManyJudged_2 (by decide) ?_
  refine lv_istore_n (lv' := [(3, .int 0), (2, .int 0), (0, .ref (ad 0)), (1, .int x)]) hx hb dX2_howManyJudged_3 rfl hl (by decide) rfl (fun ls hl => ?_)
  rw [show f_X2_howManyJudged S x = r_X2_howManyJudged S x (nt S) 0 0 from by rw [f_X2_howManyJudged]]
  have lp : ∀ (q k : Nat) (z : Int32), k + q = nt S → ∀ ls : Array Slot, lv_has ls 5 [(3, .int (nI k)), (2, .int z), (0, .ref (ad 0)), (1, .int x)] → W p l e (rmM 3 68 0 0) s m args below meth c s.heap [] 0 0 (MQ below (Rd (some (.int (r_X2_howManyJudged S x q k z)))) args s 0 0 (fun _ => False)) (F0 m 4 ls []) := by
    intro q
    induction q with
    | zero =>
      intro k z hk ls hl
      have hk2 : k = nt S := by omega
      subst hk2
      refine lv_iload_n hx hb dX2_howManyJudged_4 rfl (lv_at hl 0 rfl) ?_
      refine lv_aload_n hx hb dX2_howManyJudged_5 rfl (lv_at hl 2 rfl) ?_
      refine w_get cx (ci := 2) rfl iX2 (hP _ _ (cX_lo 0 (by decide) rfl)) 10 (by decide) k_55 (v := .int (nI (nt S))) rfl dX2_howManyJudged_6 ?_
      refine lv_icmp_ge (tgt := 51) hx hb dX2_howManyJudged_9 (by decide) (fun c_1 => ?_) (fun c_1 => ?_)
      · refine lv_iload_n hx hb dX2_howManyJudged_51 rfl (lv_at hl 1 rfl) ?_
        exact r_int cx hr hlk (by rw [r_X2_howManyJudged]) dX2_howManyJudged_52
      · exact absurd (Int32.le_refl _) c_1
    | succ q ih =>
      intro k z hk1 ls hl
      have hk : k < nt S := by omega
      refine lv_iload_n hx hb dX2_howManyJudged_4 rfl (lv_at hl 0 rfl) ?_
      refine lv_aload_n hx hb dX2_howManyJudged_5 rfl (lv_at hl 2 rfl) ?_
      refine w_get cx (ci := 2) rfl iX2 (hP _ _ (cX_lo 0 (by decide) rfl)) 10 (by decide) k_55 (v := .int (nI (nt S))) rfl dX2_howManyJudged_6 ?_
      refine lv_icmp_ge (tgt := 51) hx hb dX2_howManyJudged_9 (by decide) (fun c_2 => ?_) (fun c_2 => ?_)
      · exact absurd c_2 (nI_ge (b := nt S) hk (Nat.lt_of_le_of_lt hW.t (by decide)))
      · refine lv_aload_n hx hb dX2_howManyJudged_12 rfl (lv_at hl 2 rfl) ?_
        refine lv_iload_n hx hb dX2_howManyJudged_13 rfl (lv_at hl 0 rfl) ?_
        refine w_callV (As := [.int (nI k)]) (rest := []) (st := [.ref (ad (10 + 2 * k))]) cx (c_X2_thingAt_in l G ad S E hW hk) k_149 cal_yX2_thingAt (ci := 2) rfl (hP _ _ (cX_lo 0 (by decide) rfl)) hP rfl ⟨Nat.le_of_ble_eq_true rfl, Nat.le_of_ble_eq_true rfl⟩ hl.1 (Nat.le_of_ble_eq_true rfl) ⟨Nat.zero_le _, Nat.zero_le _⟩ rfl rfl dX2_howManyJudged_14 ?_
        refine lv_astore (lv' := [(4, .ref (ad (10 + 2 * k))), (3, .int (nI k)), (2, .int z), (0, .ref (ad 0)), (1, .int x)]) hx hb dX2_howManyJudged_17 hl (by decide) rfl (fun ls hl => ?_)
        refine lv_aload hx hb dX2_howManyJudged_19 (lv_at hl 0 rfl) ?_
        refine lv_ifnull hx hb dX2_howManyJudged_21 ?_
        refine lv_aload hx hb dX2_howManyJudged_24 (lv_at hl 0 rfl) ?_
        refine w_callV (As := []) (rest := []) (st := [.int (f_X0_isOfTrade S k)]) cx (c_X0_isOfTrade l G ad S E hW (i := k) hk) k_180 cal_yX0_isOfTrade (ci := 0) rfl (hP _ _ (cX_T hk hW.t)) hP rfl ⟨Nat.le_of_ble_eq_true rfl, Nat.le_of_ble_eq_true rfl⟩ hl.1 (Nat.le_of_ble_eq_true rfl) ⟨Nat.zero_le _, Nat.zero_le _⟩ rfl rfl dX2_howManyJudged_26 ?_
        refine lv_if_eq (tgt := 45) hx hb dX2_howManyJudged_29 (by decide) (fun c_3 => ?_) (fun c_3 => ?_)
        · refine lv_iinc (v := nI (k + 1)) (lv' := [(3, .int (nI (k + 1))), (4, .ref (ad (10 + 2 * k))), (2, .int z), (0, .ref (ad 0)), (1, .int x)]) hx hb dX2_howManyJudged_45 hl (k := 1) rfl (by rw [nI_succ]; rfl) (by decide) rfl (fun ls hl => ?_)
          refine lv_goto (tgt := 4) hx hb dX2_howManyJudged_48 (by decide) ?_
          rw [show r_X2_howManyJudged S x (q + 1) k z = r_X2_howManyJudged S x q (k + 1) z from by rw [r_X2_howManyJudged, if_pos c_3]]
          exact ih (k + 1) z (by omega) ls (lv_sub hl [0, 2, 3, 4] rfl)
        · refine lv_aload_n hx hb dX2_howManyJudged_32 rfl (lv_at hl 3 rfl) ?_
          refine lv_aload hx hb dX2_howManyJudged_33 (lv_at hl 0 rfl) ?_
          refine w_callV (As := [.ref (ad (10 + 2 * k))]) (rest := []) (st := [.int (f_X2_judgement S k)]) cx (c_X2_judgement l G ad S E hW (i := k) hk) k_359 cal_yX2_judgement (ci := 2) rfl (hP _ _ (cX_lo 0 (by decide) rfl)) hP rfl ⟨Nat.le_of_ble_eq_true rfl, Nat.le_of_ble_eq_true rfl⟩ hl.1 (Nat.le_of_ble_eq_true rfl) ⟨Nat.zero_le _, Nat.zero_le _⟩ rfl rfl dX2_howManyJudged_35 ?_
          refine lv_iload_n hx hb dX2_howManyJudged_38 rfl (lv_at hl 4 rfl) ?_
          refine lv_icmp_ne (tgt := 45) hx hb dX2_howManyJudged_39 (by decide) (fun c_4 => ?_) (fun c_4 => ?_)
          · refine lv_iinc (v := nI (k + 1)) (lv' := [(3, .int (nI (k + 1))), (4, .ref (ad (10 + 2 * k))), (2, .int z), (0, .ref (ad 0)), (1, .int x)]) hx hb dX2_howManyJudged_45 hl (k := 1) rfl (by rw [nI_succ]; rfl) (by decide) rfl (fun ls hl => ?_)
            refine lv_goto (tgt := 4) hx hb dX2_howManyJudged_48 (by decide) ?_
            rw [show r_X2_howManyJudged S x (q + 1) k z = r_X2_howManyJudged S x q (k + 1) z from by rw [r_X2_howManyJudged, if_neg c_3, if_neg c_4]]
            exact ih (k + 1) z (by omega) ls (lv_sub hl [0, 2, 3, 4] rfl)
          · refine lv_iinc (v := z + 1) (lv' := [(2, .int (z + 1)), (4, .ref (ad (10 + 2 * k))), (3, .int (nI k)), (0, .ref (ad 0)), (1, .int x)]) hx hb dX2_howManyJudged_42 hl (k := 2) rfl rfl (by decide) rfl (fun ls hl => ?_)
            refine lv_iinc (v := nI (k + 1)) (lv' := [(3, .int (nI (k + 1))), (2, .int (z + 1)), (4, .ref (ad (10 + 2 * k))), (0, .ref (ad 0)), (1, .int x)]) hx hb dX2_howManyJudged_45 hl (k := 2) rfl (by rw [nI_succ]; rfl) (by decide) rfl (fun ls hl => ?_)
            refine lv_goto (tgt := 4) hx hb dX2_howManyJudged_48 (by decide) ?_
            rw [show r_X2_howManyJudged S x (q + 1) k z = r_X2_howManyJudged S x q (k + 1) (z + 1) from by rw [r_X2_howManyJudged, if_neg c_3, if_pos c_4]]
            exact ih (k + 1) (z + 1) (by omega) ls (lv_sub hl [0, 1, 3, 4] rfl)
  exact lp (nt S) 0 0 (Nat.zero_add _) ls hl
def f_X2_count (S : St) (x : Int32) : Int32 :=
  if x = 0 then sc S 0
  else if x = 1 then nI (nt S)
  else if x = 2 then nI (nr S)
  else if x = 3 then f_X2_howManyDue S
  else if x = 4 then f_X2_howManyJudged S 1
  else if x = 5 then f_X2_howManyJudged S 2
  else if x = 6 then f_X2_howManyJudged S 3
  else if x = 7 then sc S 1
  else (-2)
set_option maxRecDepth 20000 in
theorem c_X2_count (l : Launch) (G : GG) (ad : Nat → Nat) (S : St) (E : Ex) (hW : WF S) (x : Int32) : MR l yX2_count cX2_count 2 (some .int) 4 92 G ad (cX G ad S E) [.ref (ad 0), .int x] (some (.int (f_X2_count S x))) := by
  refine MR.of [(0, .ref (ad 0)), (1, .int x)] (by decide) (Nat.le_of_ble_eq_true rfl) rfl ?_
  intro p e s m args below meth c cx hr hlk hP ls hl
  have hx := cx.1.1
  have hb := cx.1.2.1
  refine lv_iload_n hx hb dX2_count_0 rfl (lv_at hl 1 rfl) ?_
  by_cases c_1 : x = 0
  · refine lv_tableIn (off := 47) (tgt := 48) hx hb dX2_count_1 (by rw [c_1]; decide) (by rw [c_1]; decide) (by rw [c_1]; decide) (by decide) ?_
    refine lv_aload_n hx hb dX2_count_48 rfl (lv_at hl 0 rfl) ?_
    refine w_get cx (ci := 2) rfl iX2 (hP _ _ (cX_lo 0 (by decide) rfl)) 9 (by decide) k_54 (v := .int (sc S 0)) rfl dX2_count_49 ?_
    exact r_int cx hr hlk (by rw [f_X2_count, if_pos c_1]) dX2_count_52
  · by_cases c_2 : x = 1
    · refine lv_tableIn (off := 52) (tgt := 53) hx hb dX2_count_1 (by rw [c_2]; decide) (by rw [c_2]; decide) (by rw [c_2]; decide) (by decide) ?_
      refine lv_aload_n hx hb dX2_count_53 rfl (lv_at hl 0 rfl) ?_
      refine w_get cx (ci := 2) rfl iX2 (hP _ _ (cX_lo 0 (by decide) rfl)) 10 (by decide) k_55 (v := .int (nI (nt S))) rfl dX2_count_54 ?_
      exact r_int cx hr hlk (by rw [f_X2_count, if_neg c_1, if_pos c_2]) dX2_count_57
    · by_cases c_3 : x = 2
      · refine lv_tableIn (off := 57) (tgt := 58) hx hb dX2_count_1 (by rw [c_3]; decide) (by rw [c_3]; decide) (by rw [c_3]; decide) (by decide) ?_
        refine lv_aload_n hx hb dX2_count_58 rfl (lv_at hl 0 rfl) ?_
        refine w_get cx (ci := 2) rfl iX2 (hP _ _ (cX_lo 0 (by decide) rfl)) 11 (by decide) k_56 (v := .int (nI (nr S))) rfl dX2_count_59 ?_
        exact r_int cx hr hlk (by rw [f_X2_count, if_neg c_1, if_neg c_2, if_pos c_3]) dX2_count_62
      · by_cases c_4 : x = 3
        · refine lv_tableIn (off := 62) (tgt := 63) hx hb dX2_count_1 (by rw [c_4]; decide) (by rw [c_4]; decide) (by rw [c_4]; decide) (by decide) ?_
          refine lv_aload_n hx hb dX2_count_63 rfl (lv_at hl 0 rfl) ?_
          refine w_callV (As := []) (rest := []) (st := [.int (f_X2_howManyDue S)]) cx (c_X2_howManyDue l G ad S E hW ) k_437 cal_yX2_howManyDue (ci := 2) rfl (hP _ _ (cX_lo 0 (by decide) rfl)) hP rfl ⟨Nat.le_of_ble_eq_true rfl, Nat.le_of_ble_eq_true rfl⟩ hl.1 (Nat.le_of_ble_eq_true rfl) ⟨Nat.zero_le _, Nat.zero_le _⟩ rfl rfl dX2_count_64 ?_
          exact r_int cx hr hlk (by rw [f_X2_count, if_neg c_1, if_neg c_2, if_neg c_3, if_pos c_4]) dX2_count_67
        · by_cases c_5 : x = 4
          · refine lv_tableIn (off := 67) (tgt := 68) hx hb dX2_count_1 (by rw [c_5]; decide) (by rw [c_5]; decide) (by rw [c_5]; decide) (by decide) ?_
            refine lv_aload_n hx hb dX2_count_68 rfl (lv_at hl 0 rfl) ?_
            refine lv_iconst (v := 1) hx hb dX2_count_69 (by decide) ?_
            refine w_callV (As := [.int 1]) (rest := []) (st := [.int (f_X2_howManyJudged S 1)]) cx (c_X2_howManyJudged l G ad S E hW 1) k_441 cal_yX2_howManyJudged (ci := 2) rfl (hP _ _ (cX_lo 0 (by decide) rfl)) hP rfl ⟨Nat.le_of_ble_eq_true rfl, Nat.le_of_ble_eq_true rfl⟩ hl.1 (Nat.le_of_ble_eq_true rfl) ⟨Nat.zero_le _, Nat.zero_le _⟩ rfl rfl dX2_count_70 ?_
            exact r_int cx hr hlk (by rw [f_X2_count, if_neg c_1, if_neg c_2, if_neg c_3, if_neg c_4, if_pos c_5]) dX2_count_73
          · by_cases c_6 : x = 5
            · refine lv_tableIn (off := 73) (tgt := 74) hx hb dX2_count_1 (by rw [c_6]; decide) (by rw [c_6]; decide) (by rw [c_6]; decide) (by decide) ?_
              refine lv_aload_n hx hb dX2_count_74 rfl (lv_at hl 0 rfl) ?_
              refine lv_iconst (v := 2) hx hb dX2_count_75 (by decide) ?_
              refine w_callV (As := [.int 2]) (rest := []) (st := [.int (f_X2_howManyJudged S 2)]) cx (c_X2_howManyJudged l G ad S E hW 2) k_441 cal_yX2_howManyJudged (ci := 2) rfl (hP _ _ (cX_lo 0 (by decide) rfl)) hP rfl ⟨Nat.le_of_ble_eq_true rfl, Nat.le_of_ble_eq_true rfl⟩ hl.1 (Nat.le_of_ble_eq_true rfl) ⟨Nat.zero_le _, Nat.zero_le _⟩ rfl rfl dX2_count_76 ?_
              exact r_int cx hr hlk (by rw [f_X2_count, if_neg c_1, if_neg c_2, if_neg c_3, if_neg c_4, if_neg c_5, if_pos c_6]) dX2_count_79
            · by_cases c_7 : x = 6
              · refine lv_tableIn (off := 79) (tgt := 80) hx hb dX2_count_1 (by rw [c_7]; decide) (by rw [c_7]; decide) (by rw [c_7]; decide) (by decide) ?_
                refine lv_aload_n hx hb dX2_count_80 rfl (lv_at hl 0 rfl) ?_
                refine lv_iconst (v := 3) hx hb dX2_count_81 (by decide) ?_
                refine w_callV (As := [.int 3]) (rest := []) (st := [.int (f_X2_howManyJudged S 3)]) cx (c_X2_howManyJudged l G ad S E hW 3) k_441 cal_yX2_howManyJudged (ci := 2) rfl (hP _ _ (cX_lo 0 (by decide) rfl)) hP rfl ⟨Nat.le_of_ble_eq_true rfl, Nat.le_of_ble_eq_true rfl⟩ hl.1 (Nat.le_of_ble_eq_true rfl) ⟨Nat.zero_le _, Nat.zero_le _⟩ rfl rfl dX2_count_82 ?_
                exact r_int cx hr hlk (by rw [f_X2_count, if_neg c_1, if_neg c_2, if_neg c_3, if_neg c_4, if_neg c_5, if_neg c_6, if_pos c_7]) dX2_count_85
              · by_cases c_8 : x = 7
                · refine lv_tableIn (off := 85) (tgt := 86) hx hb dX2_count_1 (by rw [c_8]; decide) (by rw [c_8]; decide) (by rw [c_8]; decide) (by decide) ?_
                  refine lv_aload_n hx hb dX2_count_86 rfl (lv_at hl 0 rfl) ?_
                  refine w_get cx (ci := 2) rfl iX2 (hP _ _ (cX_lo 0 (by decide) rfl)) 12 (by decide) k_57 (v := .int (sc S 1)) rfl dX2_count_87 ?_
                  exact r_int cx hr hlk (by rw [f_X2_count, if_neg c_1, if_neg c_2, if_neg c_3, if_neg c_4, if_neg c_5, if_neg c_6, if_neg c_7, if_pos c_8]) dX2_count_90
                · refine lv_tableOut (tgt := 91) hx hb dX2_count_1 (tab_out8 c_1 c_2 c_3 c_4 c_5 c_6 c_7 c_8) (by decide) ?_
                  refine lv_bipush (v := -2) hx hb dX2_count_91 (by decide) ?_
                  exact r_int cx hr hlk (by rw [f_X2_count, if_neg c_1, if_neg c_2, if_neg c_3, if_neg c_4, if_neg c_5, if_neg c_6, if_neg c_7, if_neg c_8]) dX2_count_93
def r_X3_unsettled (S : St) : Nat → Nat → Int32 → Int32
  | 0, k, z => z
  | q + 1, k, z => if ar S 18 k = 0 then r_X3_unsettled S q (k + 1) (z + 1)
    else r_X3_unsettled S q (k + 1) (z + 0)
def f_X3_unsettled (S : St) : Int32 :=
  r_X3_unsettled S (nr S) 0 0
set_option maxRecDepth 20000 in
theorem c_X3_unsettled (l : Launch) (G : GG) (ad : Nat → Nat) (S : St) (hW : WF S)  : MR l yX3_unsettled cX3_unsettled 3 (some .int) 0 0 G ad (cM G ad S) [.ref (ad 0)] (some (.int (f_X3_unsettled S))) := by
  refine MR.of [(0, .ref (ad 0))] (by decide) (Nat.le_of_ble_eq_true rfl) rfl ?_
  intro p e s m args below meth c cx hr hlk hP ls hl
  have hx := cx.1.1
  have hb := cx.1.2.1
  refine lv_iconst (v := 0) hx hb dX3_unsettled_0 (by decide) ?_
  refine lv_istore_n (lv' := [(1, .int 0), (0, .ref (ad 0))]) hx hb dX3_unsettled_1 rfl hl (by decide) rfl (fun ls hl => ?_)
  refine lv_iconst (v := 0) hx hb dX3_unsettled_2 (by decide) ?_
  refine lv_istore_n (lv' := [(2, .int 0), (1, .int 0), (0, .ref (ad 0))]) hx hb dX3_unsettled_3 rfl hl (by decide) rfl (fun ls hl => ?_)
  rw [show f_X3_unsettled S = r_X3_unsettled S (nr S) 0 0 from by rw [f_X3_unsettled]]
  have lp : ∀ (q k : Nat) (z : Int32), k + q = nr S → ∀ ls : Array Slot, lv_has ls 3 [(2, .int (nI k)), (1, .int z), (0, .ref (ad 0))] → W p l e (rmM 0 0 0 0) s m args below meth c s.heap [] 0 0 (MQ below (Rd (some (.int (r_X3_unsettled S q k z)))) args s 0 0 (fun _ => False)) (F0 m 4 ls []) := by
    intro q
    induction q with
    | zero =>
      intro k z hk ls hl
      have hk2 : k = nr S := by omega
      subst hk2
      refine lv_iload_n hx hb dX3_unsettled_4 rfl (lv_at hl 0 rfl) ?_
      refine lv_aload_n hx hb dX3_unsettled_5 rfl (lv_at hl 2 rfl) ?_
      refine w_get cx (ci := 3) rfl iX3 (hP _ _ cM_0) 15 (by decide) k_466 (v := .int (nI (nr S))) rfl dX3_unsettled_6 ?_
      refine lv_icmp_ge (tgt := 35) hx hb dX3_unsettled_9 (by decide) (fun c_1 => ?_) (fun c_1 => ?_)
      · refine lv_iload_n hx hb dX3_unsettled_35 rfl (lv_at hl 1 rfl) ?_
        exact r_int cx hr hlk (by rw [r_X3_unsettled]) dX3_unsettled_36
      · exact absurd (Int32.le_refl _) c_1
    | succ q ih =>
      intro k z hk1 ls hl
      have hk : k < nr S := by omega
      refine lv_iload_n hx hb dX3_unsettled_4 rfl (lv_at hl 0 rfl) ?_
      refine lv_aload_n hx hb dX3_unsettled_5 rfl (lv_at hl 2 rfl) ?_
      refine w_get cx (ci := 3) rfl iX3 (hP _ _ cM_0) 15 (by decide) k_466 (v := .int (nI (nr S))) rfl dX3_unsettled_6 ?_
      refine lv_icmp_ge (tgt := 35) hx hb dX3_unsettled_9 (by decide) (fun c_2 => ?_) (fun c_2 => ?_)
      · exact absurd c_2 (nI_ge (b := nr S) hk (Nat.lt_of_le_of_lt hW.r (by decide)))
      · refine lv_iload_n hx hb dX3_unsettled_12 rfl (lv_at hl 1 rfl) ?_
        refine lv_aload_n hx hb dX3_unsettled_13 rfl (lv_at hl 2 rfl) ?_
        refine w_get cx (ci := 3) rfl iX3 (hP _ _ cM_0) 21 (by decide) k_472 (v := .ref (ad 19)) rfl dX3_unsettled_14 ?_
        refine lv_iload_n hx hb dX3_unsettled_17 rfl (lv_at hl 0 rfl) ?_
        refine w_zald cx (hP _ _ (cM_A (n := 300) 18 (by decide) rfl rfl)) k rfl (Nat.lt_of_lt_of_le hk hW.r) (by decide) dX3_unsettled_18 ?_
        refine lv_if_eq (tgt := 26) hx hb dX3_unsettled_19 (by decide) (fun c_3 => ?_) (fun c_3 => ?_)
        · refine lv_iconst (v := 1) hx hb dX3_unsettled_26 (by decide) ?_
          refine lv_iadd hx hb dX3_unsettled_27 ?_
          refine lv_istore_n (lv' := [(1, .int (z + 1)), (2, .int (nI k)), (0, .ref (ad 0))]) hx hb dX3_unsettled_28 rfl hl (by decide) rfl (fun ls hl => ?_)
          refine lv_iinc (v := nI (k + 1)) (lv' := [(2, .int (nI (k + 1))), (1, .int (z + 1)), (0, .ref (ad 0))]) hx hb dX3_unsettled_29 hl (k := 1) rfl (by rw [nI_succ]; rfl) (by decide) rfl (fun ls hl => ?_)
          refine lv_goto (tgt := 4) hx hb dX3_unsettled_32 (by decide) ?_
          rw [show r_X3_unsettled S (q + 1) k z = r_X3_unsettled S q (k + 1) (z + 1) from by rw [r_X3_unsettled, if_pos c_3]]
          exact ih (k + 1) (z + 1) (by omega) ls (lv_sub hl [0, 1, 2] rfl)
        · refine lv_iconst (v := 0) hx hb dX3_unsettled_22 (by decide) ?_
          refine lv_goto (tgt := 27) hx hb dX3_unsettled_23 (by decide) ?_
          refine lv_iadd hx hb dX3_unsettled_27 ?_
          refine lv_istore_n (lv' := [(1, .int (z + 0)), (2, .int (nI k)), (0, .ref (ad 0))]) hx hb dX3_unsettled_28 rfl hl (by decide) rfl (fun ls hl => ?_)
          refine lv_iinc (v := nI (k + 1)) (lv' := [(2, .int (nI (k + 1))), (1, .int (z + 0)), (0, .ref (ad 0))]) hx hb dX3_unsettled_29 hl (k := 1) rfl (by rw [nI_succ]; rfl) (by decide) rfl (fun ls hl => ?_)
          refine lv_goto (tgt := 4) hx hb dX3_unsettled_32 (by decide) ?_
          rw [show r_X3_unsettled S (q + 1) k z = r_X3_unsettled S q (k + 1) (z + 0) from by rw [r_X3_unsettled, if_neg c_3]]
          exact ih (k + 1) (z + 0) (by omega) ls (lv_sub hl [0, 1, 2] rfl)
  exact lp (nr S) 0 0 (Nat.zero_add _) ls hl
set_option maxRecDepth 20000 in
theorem c_X2_chain_out (l : Launch) (G : GG) (ad : Nat → Nat) (S : St) (E : Ex) (hW : WF S) {n : Int32} (hn : nT S n) (x : Int32) : MR l yX2_chain cX2_chain 6 (some .int) 2 43 G ad (cX G ad S E) [.ref (ad 0), .int n, .int x] (some (.int (-1))) := by
  refine MR.of [(0, .ref (ad 0)), (1, .int n), (2, .int x)] (by decide) (Nat.le_of_ble_eq_true rfl) rfl ?_
  intro p e s m args below meth c cx hr hlk hP ls hl
  have hx := cx.1.1
  have hb := cx.1.2.1
  refine lv_aload_n hx hb dX2_chain_0 rfl (lv_at hl 0 rfl) ?_
  refine lv_iload_n hx hb dX2_chain_1 rfl (lv_at hl 1 rfl) ?_
  refine w_callV (As := [.int n]) (rest := []) (st := [.null]) cx (c_X2_thingAt_out l G ad S E hW hn) k_149 cal_yX2_thingAt (ci := 2) rfl (hP _ _ (cX_lo 0 (by decide) rfl)) hP rfl ⟨Nat.le_of_ble_eq_true rfl, Nat.le_of_ble_eq_true rfl⟩ hl.1 (Nat.le_of_ble_eq_true rfl) ⟨Nat.zero_le _, Nat.zero_le _⟩ rfl rfl dX2_chain_2 ?_
  refine lv_astore_nN (lv' := [(3, .null), (0, .ref (ad 0)), (1, .int n), (2, .int x)]) hx hb dX2_chain_5 rfl hl (by decide) rfl (fun ls hl => ?_)
  refine lv_aload_nN hx hb dX2_chain_6 rfl (lv_at hl 0 rfl) ?_
  refine lv_ifnonnullN hx hb dX2_chain_7 ?_
  refine lv_iconst (v := -1) hx hb dX2_chain_10 (by decide) ?_
  exact r_int cx hr hlk rfl dX2_chain_11
set_option maxRecDepth 20000 in
theorem c_X2_chain_far (l : Launch) (G : GG) (ad : Nat → Nat) (S : St) (E : Ex) (hW : WF S) {i : Nat} (hi : i < nt S) {x : Int32} (hx0 : f_X2_isWithin x 0 299 = 0) : MR l yX2_chain cX2_chain 6 (some .int) 2 43 G ad (cX G ad S E) [.ref (ad 0), .int (nI i), .int x] (some (.int (-1000000))) := by
  refine MR.of [(0, .ref (ad 0)), (1, .int (nI i)), (2, .int x)] (by decide) (Nat.le_of_ble_eq_true rfl) rfl ?_
  intro p e s m args below meth c cx hr hlk hP ls hl
  have hx := cx.1.1
  have hb := cx.1.2.1
  refine lv_aload_n hx hb dX2_chain_0 rfl (lv_at hl 0 rfl) ?_
  refine lv_iload_n hx hb dX2_chain_1 rfl (lv_at hl 1 rfl) ?_
  refine w_callV (As := [.int (nI i)]) (rest := []) (st := [.ref (ad (10 + 2 * i))]) cx (c_X2_thingAt_in l G ad S E hW hi) k_149 cal_yX2_thingAt (ci := 2) rfl (hP _ _ (cX_lo 0 (by decide) rfl)) hP rfl ⟨Nat.le_of_ble_eq_true rfl, Nat.le_of_ble_eq_true rfl⟩ hl.1 (Nat.le_of_ble_eq_true rfl) ⟨Nat.zero_le _, Nat.zero_le _⟩ rfl rfl dX2_chain_2 ?_
  refine lv_astore_n (lv' := [(3, .ref (ad (10 + 2 * i))), (0, .ref (ad 0)), (1, .int (nI i)), (2, .int x)]) hx hb dX2_chain_5 rfl hl (by decide) rfl (fun ls hl => ?_)
  refine lv_aload_n hx hb dX2_chain_6 rfl (lv_at hl 0 rfl) ?_
  refine lv_ifnonnull (tgt := 12) hx hb dX2_chain_7 (by decide) ?_
  refine lv_iload_n hx hb dX2_chain_12 rfl (lv_at hl 3 rfl) ?_
  refine lv_iconst (v := 0) hx hb dX2_chain_13 (by decide) ?_
  refine lv_sipush (v := 299) hx hb dX2_chain_14 (by decide) ?_
  refine w_callS (As := [.int x, .int 0, .int 299]) (rest := []) (st := [.int (f_X2_isWithin x 0 299)]) cx (c_X2_isWithin l G ad _ x 0 299) k_91 cal_yX2_isWithin hP rfl ⟨Nat.le_of_ble_eq_true rfl, Nat.le_of_ble_eq_true rfl⟩ hl.1 (Nat.le_of_ble_eq_true rfl) ⟨Nat.zero_le _, Nat.zero_le _⟩ rfl rfl dX2_chain_17 ?_
  refine lv_if_ne (tgt := 26) hx hb dX2_chain_20 (by decide) (fun c_1 => ?_) (fun c_1 => ?_)
  · exact absurd hx0 c_1
  · refine w_ldc cx k_156 dX2_chain_23 ?_
    exact r_int cx hr hlk rfl dX2_chain_25
def r_X2_chain (S : St) : Nat → Nat → Int32 → Int32
  | 0, k, z => if z = -1000000 then (-1000000)
    else nI (ix z)
  | q + 1, k, z => if z = -1000000 then (-1000000)
    else if ar S 20 (ix z) = -1000000 then r_X2_chain S q (k + 1) (ar S 20 (ix z))
    else r_X2_chain S q (k + 1) (ar S 20 (ix z))
def f_X2_chain (S : St) (i cn : Nat) : Int32 :=
  if ar S 5 i = -1000000 then r_X2_chain S (cn) 0 (ar S 5 i)
  else r_X2_chain S (cn) 0 (ar S 5 i)
set_option maxRecDepth 20000 in
theorem c_X2_chain (l : Launch) (G : GG) (ad : Nat → Nat) (S : St) (E : Ex) (hW : WF S) (hBa : WB S) {i : Nat} (hi : i < nt S) {cn : Nat} (hc : cn < 300) : MR l yX2_chain cX2_chain 6 (some .int) 2 43 G ad (cX G ad S E) [.ref (ad 0), .int (nI i), .int (nI cn)] (some (.int (f_X2_chain S i cn))) := by
  refine MR.of [(0, .ref (ad 0)), (1, .int (nI i)), (2, .int (nI cn))] (by decide) (Nat.le_of_ble_eq_true rfl) rfl ?_
  intro p e s m args below meth c cx hr hlk hP ls hl
  have hx := cx.1.1
  have hb := cx.1.2.1
  refine lv_aload_n hx hb dX2_chain_0 rfl (lv_at hl 0 rfl) ?_
  refine lv_iload_n hx hb dX2_chain_1 rfl (lv_at hl 1 rfl) ?_
  refine w_callV (As := [.int (nI i)]) (rest := []) (st := [.ref (ad (10 + 2 * i))]) cx (c_X2_thingAt_in l G ad S E hW hi) k_149 cal_yX2_thingAt (ci := 2) rfl (hP _ _ (cX_lo 0 (by decide) rfl)) hP rfl ⟨Nat.le_of_ble_eq_true rfl, Nat.le_of_ble_eq_true rfl⟩ hl.1 (Nat.le_of_ble_eq_true rfl) ⟨Nat.zero_le _, Nat.zero_le _⟩ rfl rfl dX2_chain_2 ?_
  refine lv_astore_n (lv' := [(3, .ref (ad (10 + 2 * i))), (0, .ref (ad 0)), (1, .int (nI i)), (2, .int (nI cn))]) hx hb dX2_chain_5 rfl hl (by decide) rfl (fun ls hl => ?_)
  refine lv_aload_n hx hb dX2_chain_6 rfl (lv_at hl 0 rfl) ?_
  refine lv_ifnonnull (tgt := 12) hx hb dX2_chain_7 (by decide) ?_
  refine lv_iload_n hx hb dX2_chain_12 rfl (lv_at hl 3 rfl) ?_
  refine lv_iconst (v := 0) hx hb dX2_chain_13 (by decide) ?_
  refine lv_sipush (v := 299) hx hb dX2_chain_14 (by decide) ?_
  refine w_callS (As := [.int (nI cn), .int 0, .int 299]) (rest := []) (st := [.int (f_X2_isWithin (nI cn) 0 299)]) cx (c_X2_isWithin l G ad _ (nI cn) 0 299) k_91 cal_yX2_isWithin hP rfl ⟨Nat.le_of_ble_eq_true rfl, Nat.le_of_ble_eq_true rfl⟩ hl.1 (Nat.le_of_ble_eq_true rfl) ⟨Nat.zero_le _, Nat.zero_le _⟩ rfl rfl dX2_chain_17 ?_
  refine lv_if_ne (tgt := 26) hx hb dX2_chain_20 (by decide) (fun c_1 => ?_) (fun c_1 => ?_)
  · refine lv_aload_n hx hb dX2_chain_26 rfl (lv_at hl 0 rfl) ?_
    by_cases c_2 : ar S 5 i = -1000000
    · refine w_get cx (ci := 0) rfl iX0 (hP _ _ (cX_T hi hW.t)) 9 (by decide) k_122 (v := .null) (congrArg some (rT_null c_2)) dX2_chain_27 ?_
      refine lv_astoreN (lv' := [(4, .null), (3, .ref (ad (10 + 2 * i))), (0, .ref (ad 0)), (1, .int (nI i)), (2, .int (nI cn))]) hx hb dX2_chain_30 hl (by decide) rfl (fun ls hl => ?_)
      refine lv_iconst (v := 0) hx hb dX2_chain_32 (by decide) ?_
      refine lv_istore (lv' := [(5, .int 0), (4, .null), (3, .ref (ad (10 + 2 * i))), (0, .ref (ad 0)), (1, .int (nI i)), (2, .int (nI cn))]) hx hb dX2_chain_33 hl (by decide) rfl (fun ls hl => ?_)
      rw [show f_X2_chain S i cn = r_X2_chain S (cn) 0 (ar S 5 i) from by rw [f_X2_chain, if_pos c_2]]
      have lp : ∀ (q k : Nat) (z : Int32), (¬ z = -1000000 → okx z (nr S)) → k + q = cn → ∀ ls : Array Slot, lv_has ls 6 [(5, .int (nI k)), (4, rT ad z), (3, .ref (ad (10 + 2 * i))), (0, .ref (ad 0)), (1, .int (nI i)), (2, .int (nI cn))] → W p l e (rmM 2 43 0 0) s m args below meth c s.heap [] 0 0 (MQ below (Rd (some (.int (r_X2_chain S q k z)))) args s 0 0 (fun _ => False)) (F0 m 35 ls []) := by
        intro q
        induction q with
        | zero =>
          intro k z hz hk ls hl
          have hk2 : k = cn := by omega
          subst hk2
          refine lv_iload hx hb dX2_chain_35 (lv_at hl 0 rfl) ?_
          refine lv_iload_n hx hb dX2_chain_37 rfl (lv_at hl 5 rfl) ?_
          refine lv_icmp_ge (tgt := 59) hx hb dX2_chain_38 (by decide) (fun c_3 => ?_) (fun c_3 => ?_)
          · by_cases c_4 : z = -1000000
            · rw [rT_null c_4] at hl
              refine lv_aloadN hx hb dX2_chain_59 (lv_at hl 1 rfl) ?_
              refine w_callS (As := [.null]) (rest := []) (st := [.int ((-1000000))]) cx (c_X2_numberOf_n l G ad S E hW) k_153 cal_yX2_numberOf hP rfl ⟨Nat.le_of_ble_eq_true rfl, Nat.le_of_ble_eq_true rfl⟩ hl.1 (Nat.le_of_ble_eq_true rfl) ⟨Nat.zero_le _, Nat.zero_le _⟩ rfl rfl dX2_chain_61 ?_
              exact r_int cx hr hlk (by rw [r_X2_chain, if_pos c_4]) dX2_chain_64
            · rw [rT_ref c_4] at hl
              refine lv_aload hx hb dX2_chain_59 (lv_at hl 1 rfl) ?_
              refine w_callS (As := [.ref (ad (100 + ix z))]) (rest := []) (st := [.int (nI (ix z))]) cx (c_X2_numberOf_r l G ad S E hW (n := ix z) (hz c_4).2) k_153 cal_yX2_numberOf hP rfl ⟨Nat.le_of_ble_eq_true rfl, Nat.le_of_ble_eq_true rfl⟩ hl.1 (Nat.le_of_ble_eq_true rfl) ⟨Nat.zero_le _, Nat.zero_le _⟩ rfl rfl dX2_chain_61 ?_
              exact r_int cx hr hlk (by rw [r_X2_chain, if_neg c_4]) dX2_chain_64
          · exact absurd (Int32.le_refl _) c_3
        | succ q ih =>
          intro k z hz hk1 ls hl
          have hk : k < cn := by omega
          refine lv_iload hx hb dX2_chain_35 (lv_at hl 0 rfl) ?_
          refine lv_iload_n hx hb dX2_chain_37 rfl (lv_at hl 5 rfl) ?_
          refine lv_icmp_ge (tgt := 59) hx hb dX2_chain_38 (by decide) (fun c_5 => ?_) (fun c_5 => ?_)
          · exact absurd c_5 (nI_ge (b := cn) hk (by omega))
          · by_cases c_6 : z = -1000000
            · rw [rT_null c_6] at hl
              refine lv_aloadN hx hb dX2_chain_41 (lv_at hl 1 rfl) ?_
              refine lv_ifnullN (tgt := 59) hx hb dX2_chain_43 (by decide) ?_
              refine lv_aloadN hx hb dX2_chain_59 (lv_at hl 1 rfl) ?_
              refine w_callS (As := [.null]) (rest := []) (st := [.int ((-1000000))]) cx (c_X2_numberOf_n l G ad S E hW) k_153 cal_yX2_numberOf hP rfl ⟨Nat.le_of_ble_eq_true rfl, Nat.le_of_ble_eq_true rfl⟩ hl.1 (Nat.le_of_ble_eq_true rfl) ⟨Nat.zero_le _, Nat.zero_le _⟩ rfl rfl dX2_chain_61 ?_
              exact r_int cx hr hlk (by rw [r_X2_chain, if_pos c_6]) dX2_chain_64
            · rw [rT_ref c_6] at hl
              refine lv_aload hx hb dX2_chain_41 (lv_at hl 1 rfl) ?_
              refine lv_ifnull hx hb dX2_chain_43 ?_
              refine lv_aload hx hb dX2_chain_46 (lv_at hl 1 rfl) ?_
              by_cases c_7 : ar S 20 (ix z) = -1000000
              · refine w_get cx (ci := 1) rfl iX1 (hP _ _ (cX_R (hz c_6).2)) 3 (by decide) k_252 (v := .null) (congrArg some (rT_null c_7)) dX2_chain_48 ?_
                refine lv_astoreN (lv' := [(4, .null), (5, .int (nI k)), (3, .ref (ad (10 + 2 * i))), (0, .ref (ad 0)), (1, .int (nI i)), (2, .int (nI cn))]) hx hb dX2_chain_51 hl (by decide) rfl (fun ls hl => ?_)
                refine lv_iinc (v := nI (k + 1)) (lv' := [(5, .int (nI (k + 1))), (4, .null), (3, .ref (ad (10 + 2 * i))), (0, .ref (ad 0)), (1, .int (nI i)), (2, .int (nI cn))]) hx hb dX2_chain_53 hl (k := 1) rfl (by rw [nI_succ]; rfl) (by decide) rfl (fun ls hl => ?_)
                refine lv_goto (tgt := 35) hx hb dX2_chain_56 (by decide) ?_
                rw [show r_X2_chain S (q + 1) k z = r_X2_chain S q (k + 1) (ar S 20 (ix z)) from by rw [r_X2_chain, if_neg c_6, if_pos c_7]]
                exact ih (k + 1) (ar S 20 (ix z)) (fun h' => ⟨(hBa.ba (hz c_6).2 h').1, Nat.lt_trans (hBa.ba (hz c_6).2 h').2 (hz c_6).2⟩) (by omega) ls (by rw [rT_null c_7]; exact lv_sub hl [0, 1, 2, 3, 4, 5] rfl)
              · refine w_get cx (ci := 1) rfl iX1 (hP _ _ (cX_R (hz c_6).2)) 3 (by decide) k_252 (v := .ref (ad (100 + ix (ar S 20 (ix z))))) (congrArg some (rT_ref c_7)) dX2_chain_48 ?_
                refine lv_astore (lv' := [(4, .ref (ad (100 + ix (ar S 20 (ix z))))), (5, .int (nI k)), (3, .ref (ad (10 + 2 * i))), (0, .ref (ad 0)), (1, .int (nI i)), (2, .int (nI cn))]) hx hb dX2_chain_51 hl (by decide) rfl (fun ls hl => ?_)
                refine lv_iinc (v := nI (k + 1)) (lv' := [(5, .int (nI (k + 1))), (4, .ref (ad (100 + ix (ar S 20 (ix z))))), (3, .ref (ad (10 + 2 * i))), (0, .ref (ad 0)), (1, .int (nI i)), (2, .int (nI cn))]) hx hb dX2_chain_53 hl (k := 1) rfl (by rw [nI_succ]; rfl) (by decide) rfl (fun ls hl => ?_)
                refine lv_goto (tgt := 35) hx hb dX2_chain_56 (by decide) ?_
                rw [show r_X2_chain S (q + 1) k z = r_X2_chain S q (k + 1) (ar S 20 (ix z)) from by rw [r_X2_chain, if_neg c_6, if_neg c_7]]
                exact ih (k + 1) (ar S 20 (ix z)) (fun h' => ⟨(hBa.ba (hz c_6).2 h').1, Nat.lt_trans (hBa.ba (hz c_6).2 h').2 (hz c_6).2⟩) (by omega) ls (by rw [rT_ref c_7]; exact lv_sub hl [0, 1, 2, 3, 4, 5] rfl)
      exact lp (cn) 0 (ar S 5 i) (hW.la hi) (Nat.zero_add _) ls (by rw [rT_null c_2]; exact hl)
    · refine w_get cx (ci := 0) rfl iX0 (hP _ _ (cX_T hi hW.t)) 9 (by decide) k_122 (v := .ref (ad (100 + ix (ar S 5 i)))) (congrArg some (rT_ref c_2)) dX2_chain_27 ?_
      refine lv_astore (lv' := [(4, .ref (ad (100 + ix (ar S 5 i)))), (3, .ref (ad (10 + 2 * i))), (0, .ref (ad 0)), (1, .int (nI i)), (2, .int (nI cn))]) hx hb dX2_chain_30 hl (by decide) rfl (fun ls hl => ?_)
      refine lv_iconst (v := 0) hx hb dX2_chain_32 (by decide) ?_
      refine lv_istore (lv' := [(5, .int 0), (4, .ref (ad (100 + ix (ar S 5 i)))), (3, .ref (ad (10 + 2 * i))), (0, .ref (ad 0)), (1, .int (nI i)), (2, .int (nI cn))]) hx hb dX2_chain_33 hl (by decide) rfl (fun ls hl => ?_)
      rw [show f_X2_chain S i cn = r_X2_chain S (cn) 0 (ar S 5 i) from by rw [f_X2_chain, if_neg c_2]]
      have lp : ∀ (q k : Nat) (z : Int32), (¬ z = -1000000 → okx z (nr S)) → k + q = cn → ∀ ls : Array Slot, lv_has ls 6 [(5, .int (nI k)), (4, rT ad z), (3, .ref (ad (10 + 2 * i))), (0, .ref (ad 0)), (1, .int (nI i)), (2, .int (nI cn))] → W p l e (rmM 2 43 0 0) s m args below meth c s.heap [] 0 0 (MQ below (Rd (some (.int (r_X2_chain S q k z)))) args s 0 0 (fun _ => False)) (F0 m 35 ls []) := by
        intro q
        induction q with
        | zero =>
          intro k z hz hk ls hl
          have hk2 : k = cn := by omega
          subst hk2
          refine lv_iload hx hb dX2_chain_35 (lv_at hl 0 rfl) ?_
          refine lv_iload_n hx hb dX2_chain_37 rfl (lv_at hl 5 rfl) ?_
          refine lv_icmp_ge (tgt := 59) hx hb dX2_chain_38 (by decide) (fun c_8 => ?_) (fun c_8 => ?_)
          · by_cases c_9 : z = -1000000
            · rw [rT_null c_9] at hl
              refine lv_aloadN hx hb dX2_chain_59 (lv_at hl 1 rfl) ?_
              refine w_callS (As := [.null]) (rest := []) (st := [.int ((-1000000))]) cx (c_X2_numberOf_n l G ad S E hW) k_153 cal_yX2_numberOf hP rfl ⟨Nat.le_of_ble_eq_true rfl, Nat.le_of_ble_eq_true rfl⟩ hl.1 (Nat.le_of_ble_eq_true rfl) ⟨Nat.zero_le _, Nat.zero_le _⟩ rfl rfl dX2_chain_61 ?_
              exact r_int cx hr hlk (by rw [r_X2_chain, if_pos c_9]) dX2_chain_64
            · rw [rT_ref c_9] at hl
              refine lv_aload hx hb dX2_chain_59 (lv_at hl 1 rfl) ?_
              refine w_callS (As := [.ref (ad (100 + ix z))]) (rest := []) (st := [.int (nI (ix z))]) cx (c_X2_numberOf_r l G ad S E hW (n := ix z) (hz c_9).2) k_153 cal_yX2_numberOf hP rfl ⟨Nat.le_of_ble_eq_true rfl, Nat.le_of_ble_eq_true rfl⟩ hl.1 (Nat.le_of_ble_eq_true rfl) ⟨Nat.zero_le _, Nat.zero_le _⟩ rfl rfl dX2_chain_61 ?_
              exact r_int cx hr hlk (by rw [r_X2_chain, if_neg c_9]) dX2_chain_64
          · exact absurd (Int32.le_refl _) c_8
        | succ q ih =>
          intro k z hz hk1 ls hl
          have hk : k < cn := by omega
          refine lv_iload hx hb dX2_chain_35 (lv_at hl 0 rfl) ?_
          refine lv_iload_n hx hb dX2_chain_37 rfl (lv_at hl 5 rfl) ?_
          refine lv_icmp_ge (tgt := 59) hx hb dX2_chain_38 (by decide) (fun c_10 => ?_) (fun c_10 => ?_)
          · exact absurd c_10 (nI_ge (b := cn) hk (by omega))
          · by_cases c_11 : z = -1000000
            · rw [rT_null c_11] at hl
              refine lv_aloadN hx hb dX2_chain_41 (lv_at hl 1 rfl) ?_
              refine lv_ifnullN (tgt := 59) hx hb dX2_chain_43 (by decide) ?_
              refine lv_aloadN hx hb dX2_chain_59 (lv_at hl 1 rfl) ?_
              refine w_callS (As := [.null]) (rest := []) (st := [.int ((-1000000))]) cx (c_X2_numberOf_n l G ad S E hW) k_153 cal_yX2_numberOf hP rfl ⟨Nat.le_of_ble_eq_true rfl, Nat.le_of_ble_eq_true rfl⟩ hl.1 (Nat.le_of_ble_eq_true rfl) ⟨Nat.zero_le _, Nat.zero_le _⟩ rfl rfl dX2_chain_61 ?_
              exact r_int cx hr hlk (by rw [r_X2_chain, if_pos c_11]) dX2_chain_64
            · rw [rT_ref c_11] at hl
              refine lv_aload hx hb dX2_chain_41 (lv_at hl 1 rfl) ?_
              refine lv_ifnull hx hb dX2_chain_43 ?_
              refine lv_aload hx hb dX2_chain_46 (lv_at hl 1 rfl) ?_
              by_cases c_12 : ar S 20 (ix z) = -1000000
              · refine w_get cx (ci := 1) rfl iX1 (hP _ _ (cX_R (hz c_11).2)) 3 (by decide) k_252 (v := .null) (congrArg some (rT_null c_12)) dX2_chain_48 ?_
                refine lv_astoreN (lv' := [(4, .null), (5, .int (nI k)), (3, .ref (ad (10 + 2 * i))), (0, .ref (ad 0)), (1, .int (nI i)), (2, .int (nI cn))]) hx hb dX2_chain_51 hl (by decide) rfl (fun ls hl => ?_)
                refine lv_iinc (v := nI (k + 1)) (lv' := [(5, .int (nI (k + 1))), (4, .null), (3, .ref (ad (10 + 2 * i))), (0, .ref (ad 0)), (1, .int (nI i)), (2, .int (nI cn))]) hx hb dX2_chain_53 hl (k := 1) rfl (by rw [nI_succ]; rfl) (by decide) rfl (fun ls hl => ?_)
                refine lv_goto (tgt := 35) hx hb dX2_chain_56 (by decide) ?_
                rw [show r_X2_chain S (q + 1) k z = r_X2_chain S q (k + 1) (ar S 20 (ix z)) from by rw [r_X2_chain, if_neg c_11, if_pos c_12]]
                exact ih (k + 1) (ar S 20 (ix z)) (fun h' => ⟨(hBa.ba (hz c_11).2 h').1, Nat.lt_trans (hBa.ba (hz c_11).2 h').2 (hz c_11).2⟩) (by omega) ls (by rw [rT_null c_12]; exact lv_sub hl [0, 1, 2, 3, 4, 5] rfl)
              · refine w_get cx (ci := 1) rfl iX1 (hP _ _ (cX_R (hz c_11).2)) 3 (by decide) k_252 (v := .ref (ad (100 + ix (ar S 20 (ix z))))) (congrArg some (rT_ref c_12)) dX2_chain_48 ?_
                refine lv_astore (lv' := [(4, .ref (ad (100 + ix (ar S 20 (ix z))))), (5, .int (nI k)), (3, .ref (ad (10 + 2 * i))), (0, .ref (ad 0)), (1, .int (nI i)), (2, .int (nI cn))]) hx hb dX2_chain_51 hl (by decide) rfl (fun ls hl => ?_)
                refine lv_iinc (v := nI (k + 1)) (lv' := [(5, .int (nI (k + 1))), (4, .ref (ad (100 + ix (ar S 20 (ix z))))), (3, .ref (ad (10 + 2 * i))), (0, .ref (ad 0)), (1, .int (nI i)), (2, .int (nI cn))]) hx hb dX2_chain_53 hl (k := 1) rfl (by rw [nI_succ]; rfl) (by decide) rfl (fun ls hl => ?_)
                refine lv_goto (tgt := 35) hx hb dX2_chain_56 (by decide) ?_
                rw [show r_X2_chain S (q + 1) k z = r_X2_chain S q (k + 1) (ar S 20 (ix z)) from by rw [r_X2_chain, if_neg c_11, if_neg c_12]]
                exact ih (k + 1) (ar S 20 (ix z)) (fun h' => ⟨(hBa.ba (hz c_11).2 h').1, Nat.lt_trans (hBa.ba (hz c_11).2 h').2 (hz c_11).2⟩) (by omega) ls (by rw [rT_ref c_12]; exact lv_sub hl [0, 1, 2, 3, 4, 5] rfl)
      exact lp (cn) 0 (ar S 5 i) (hW.la hi) (Nat.zero_add _) ls (by rw [rT_ref c_2]; exact hl)
  · exact absurd c_1 (nI_within (a := 0) (b := 299) (Nat.zero_le _) (by omega) (by decide))
set_option maxRecDepth 20000 in
theorem c_X3_chain_out (l : Launch) (G : GG) (ad : Nat → Nat) (S : St) (hW : WF S) {n : Int32} (hn : nT S n) (x : Int32) : MR l yX3_chain cX3_chain 5 (some .int) 2 43 G ad (cM G ad S) [.ref (ad 0), .int n, .int x] (some (.int (-1))) := by
  refine MR.of [(0, .ref (ad 0)), (1, .int n), (2, .int x)] (by decide) (Nat.le_of_ble_eq_true rfl) rfl ?_
  intro p e s m args below meth c cx hr hlk hP ls hl
  have hx := cx.1.1
  have hb := cx.1.2.1
  refine lv_aload_n hx hb dX3_chain_0 rfl (lv_at hl 0 rfl) ?_
  refine lv_iload_n hx hb dX3_chain_1 rfl (lv_at hl 1 rfl) ?_
  refine w_callV (As := [.int n]) (rest := []) (st := [.int 0]) cx (c_X3_isThing_out l G ad S hW hn) k_553 cal_yX3_isThing (ci := 3) rfl (hP _ _ cM_0) hP rfl ⟨Nat.le_of_ble_eq_true rfl, Nat.le_of_ble_eq_true rfl⟩ hl.1 (Nat.le_of_ble_eq_true rfl) ⟨Nat.zero_le _, Nat.zero_le _⟩ rfl rfl dX3_chain_2 ?_
  refine lv_if_ne (tgt := 10) hx hb dX3_chain_5 (by decide) (fun c_1 => ?_) (fun c_1 => ?_)
  · exact absurd (by decide) c_1
  · refine lv_iconst (v := -1) hx hb dX3_chain_8 (by decide) ?_
    exact r_int cx hr hlk rfl dX3_chain_9
set_option maxRecDepth 20000 in
theorem c_X3_chain_neg (l : Launch) (G : GG) (ad : Nat → Nat) (S : St) (hW : WF S) {i : Nat} (hi : i < nt S) {x : Int32} (hx0 : x < 0) : MR l yX3_chain cX3_chain 5 (some .int) 2 43 G ad (cM G ad S) [.ref (ad 0), .int (nI i), .int x] (some (.int (-1000000))) := by
  refine MR.of [(0, .ref (ad 0)), (1, .int (nI i)), (2, .int x)] (by decide) (Nat.le_of_ble_eq_true rfl) rfl ?_
  intro p e s m args below meth c cx hr hlk hP ls hl
  have hx := cx.1.1
  have hb := cx.1.2.1
  refine lv_aload_n hx hb dX3_chain_0 rfl (lv_at hl 0 rfl) ?_
  refine lv_iload_n hx hb dX3_chain_1 rfl (lv_at hl 1 rfl) ?_
  refine w_callV (As := [.int (nI i)]) (rest := []) (st := [.int 1]) cx (c_X3_isThing_in l G ad S hW hi) k_553 cal_yX3_isThing (ci := 3) rfl (hP _ _ cM_0) hP rfl ⟨Nat.le_of_ble_eq_true rfl, Nat.le_of_ble_eq_true rfl⟩ hl.1 (Nat.le_of_ble_eq_true rfl) ⟨Nat.zero_le _, Nat.zero_le _⟩ rfl rfl dX3_chain_2 ?_
  refine lv_if_ne (tgt := 10) hx hb dX3_chain_5 (by decide) (fun c_1 => ?_) (fun c_1 => ?_)
  · refine lv_aload_n hx hb dX3_chain_10 rfl (lv_at hl 0 rfl) ?_
    refine w_get cx (ci := 3) rfl iX3 (hP _ _ cM_0) 7 (by decide) k_458 (v := .ref (ad 6)) rfl dX3_chain_11 ?_
    refine lv_iload_n hx hb dX3_chain_14 rfl (lv_at hl 1 rfl) ?_
    refine w_iald cx (hP _ _ (cM_A (n := 40) 5 (by decide) rfl rfl)) i rfl (Nat.lt_of_lt_of_le hi hW.t) (by decide) dX3_chain_15 ?_
    refine lv_istore_n (lv' := [(3, .int (ar S 5 i)), (0, .ref (ad 0)), (1, .int (nI i)), (2, .int x)]) hx hb dX3_chain_16 rfl hl (by decide) rfl (fun ls hl => ?_)
    refine lv_iconst (v := 0) hx hb dX3_chain_17 (by decide) ?_
    refine lv_istore (lv' := [(4, .int 0), (3, .int (ar S 5 i)), (0, .ref (ad 0)), (1, .int (nI i)), (2, .int x)]) hx hb dX3_chain_18 hl (by decide) rfl (fun ls hl => ?_)
    refine lv_iload hx hb dX3_chain_20 (lv_at hl 0 rfl) ?_
    refine lv_iload_n hx hb dX3_chain_22 rfl (lv_at hl 4 rfl) ?_
    refine lv_icmp_ge (tgt := 45) hx hb dX3_chain_23 (by decide) (fun c_2 => ?_) (fun c_2 => ?_)
    · refine lv_iload_n hx hb dX3_chain_45 rfl (lv_at hl 4 rfl) ?_
      refine lv_if_ge (tgt := 54) hx hb dX3_chain_46 (by decide) (fun c_3 => ?_) (fun c_3 => ?_)
      · exact absurd c_3 (i_neg_nle hx0)
      · refine w_ldc cx k_548 dX3_chain_49 ?_
        refine lv_goto (tgt := 55) hx hb dX3_chain_51 (by decide) ?_
        exact r_int cx hr hlk rfl dX3_chain_55
    · exact absurd (i_neg_le hx0) c_2
  · exact absurd c_1 (by decide)
def r_X3_chain (S : St) : Nat → Nat → Int32 → Int32
  | 0, k, z => z
  | q + 1, k, z => if z = -1000000 then z
    else r_X3_chain S q (k + 1) (ar S 20 (ix z))
def f_X3_chain (S : St) (i cn : Nat) : Int32 :=
  r_X3_chain S (cn) 0 (ar S 5 i)
set_option maxRecDepth 20000 in
theorem c_X3_chain (l : Launch) (G : GG) (ad : Nat → Nat) (S : St) (hW : WF S) (hBa : WB S) {i : Nat} (hi : i < nt S) {cn : Nat} (hc : cn < 2 ^ 31) : MR l yX3_chain cX3_chain 5 (some .int) 2 43 G ad (cM G ad S) [.ref (ad 0), .int (nI i), .int (nI cn)] (some (.int (f_X3_chain S i cn))) := by
  refine MR.of [(0, .ref (ad 0)), (1, .int (nI i)), (2, .int (nI cn))] (by decide) (Nat.le_of_ble_eq_true rfl) rfl ?_
  intro p e s m args below meth c cx hr hlk hP ls hl
  have hx := cx.1.1
  have hb := cx.1.2.1
  refine lv_aload_n hx hb dX3_chain_0 rfl (lv_at hl 0 rfl) ?_
  refine lv_iload_n hx hb dX3_chain_1 rfl (lv_at hl 1 rfl) ?_
  refine w_callV (As := [.int (nI i)]) (rest := []) (st := [.int 1]) cx (c_X3_isThing_in l G ad S hW hi) k_553 cal_yX3_isThing (ci := 3) rfl (hP _ _ cM_0) hP rfl ⟨Nat.le_of_ble_eq_true rfl, Nat.le_of_ble_eq_true rfl⟩ hl.1 (Nat.le_of_ble_eq_true rfl) ⟨Nat.zero_le _, Nat.zero_le _⟩ rfl rfl dX3_chain_2 ?_
  refine lv_if_ne (tgt := 10) hx hb dX3_chain_5 (by decide) (fun c_1 => ?_) (fun c_1 => ?_)
  · refine lv_aload_n hx hb dX3_chain_10 rfl (lv_at hl 0 rfl) ?_
    refine w_get cx (ci := 3) rfl iX3 (hP _ _ cM_0) 7 (by decide) k_458 (v := .ref (ad 6)) rfl dX3_chain_11 ?_
    refine lv_iload_n hx hb dX3_chain_14 rfl (lv_at hl 1 rfl) ?_
    refine w_iald cx (hP _ _ (cM_A (n := 40) 5 (by decide) rfl rfl)) i rfl (Nat.lt_of_lt_of_le hi hW.t) (by decide) dX3_chain_15 ?_
    refine lv_istore_n (lv' := [(3, .int (ar S 5 i)), (0, .ref (ad 0)), (1, .int (nI i)), (2, .int (nI cn))]) hx hb dX3_chain_16 rfl hl (by decide) rfl (fun ls hl => ?_)
    refine lv_iconst (v := 0) hx hb dX3_chain_17 (by decide) ?_
    refine lv_istore (lv' := [(4, .int 0), (3, .int (ar S 5 i)), (0, .ref (ad 0)), (1, .int (nI i)), (2, .int (nI cn))]) hx hb dX3_chain_18 hl (by decide) rfl (fun ls hl => ?_)
    rw [show f_X3_chain S i cn = r_X3_chain S (cn) 0 (ar S 5 i) from by rw [f_X3_chain]]
    have lp : ∀ (q k : Nat) (z : Int32), (¬ z = -1000000 → okx z (nr S)) → k + q = cn → ∀ ls : Array Slot, lv_has ls 5 [(4, .int (nI k)), (3, .int z), (0, .ref (ad 0)), (1, .int (nI i)), (2, .int (nI cn))] → W p l e (rmM 2 43 0 0) s m args below meth c s.heap [] 0 0 (MQ below (Rd (some (.int (r_X3_chain S q k z)))) args s 0 0 (fun _ => False)) (F0 m 20 ls []) := by
      intro q
      induction q with
      | zero =>
        intro k z hz hk ls hl
        have hk2 : k = cn := by omega
        subst hk2
        refine lv_iload hx hb dX3_chain_20 (lv_at hl 0 rfl) ?_
        refine lv_iload_n hx hb dX3_chain_22 rfl (lv_at hl 4 rfl) ?_
        refine lv_icmp_ge (tgt := 45) hx hb dX3_chain_23 (by decide) (fun c_2 => ?_) (fun c_2 => ?_)
        · refine lv_iload_n hx hb dX3_chain_45 rfl (lv_at hl 4 rfl) ?_
          refine lv_if_ge (tgt := 54) hx hb dX3_chain_46 (by decide) (fun c_3 => ?_) (fun c_3 => ?_)
          · refine lv_iload_n hx hb dX3_chain_54 rfl (lv_at hl 1 rfl) ?_
            exact r_int cx hr hlk (by rw [r_X3_chain]) dX3_chain_55
          · exact absurd (nI_pos' hc) c_3
        · exact absurd (Int32.le_refl _) c_2
      | succ q ih =>
        intro k z hz hk1 ls hl
        have hk : k < cn := by omega
        refine lv_iload hx hb dX3_chain_20 (lv_at hl 0 rfl) ?_
        refine lv_iload_n hx hb dX3_chain_22 rfl (lv_at hl 4 rfl) ?_
        refine lv_icmp_ge (tgt := 45) hx hb dX3_chain_23 (by decide) (fun c_4 => ?_) (fun c_4 => ?_)
        · exact absurd c_4 (nI_ge (b := cn) hk hc)
        · refine lv_iload_n hx hb dX3_chain_26 rfl (lv_at hl 1 rfl) ?_
          refine w_ldc cx k_548 dX3_chain_27 ?_
          refine lv_icmp_eq (tgt := 45) hx hb dX3_chain_29 (by decide) (fun c_5 => ?_) (fun c_5 => ?_)
          · refine lv_iload_n hx hb dX3_chain_45 rfl (lv_at hl 4 rfl) ?_
            refine lv_if_ge (tgt := 54) hx hb dX3_chain_46 (by decide) (fun c_6 => ?_) (fun c_6 => ?_)
            · refine lv_iload_n hx hb dX3_chain_54 rfl (lv_at hl 1 rfl) ?_
              exact r_int cx hr hlk (by rw [r_X3_chain, if_pos c_5]) dX3_chain_55
            · exact absurd (nI_pos' hc) c_6
          · refine lv_aload_n hx hb dX3_chain_32 rfl (lv_at hl 2 rfl) ?_
            refine w_get cx (ci := 3) rfl iX3 (hP _ _ cM_0) 23 (by decide) k_474 (v := .ref (ad 21)) rfl dX3_chain_33 ?_
            refine lv_iload_n hx hb dX3_chain_36 rfl (lv_at hl 1 rfl) ?_
            refine w_iald cx (hP _ _ (cM_A (n := 300) 20 (by decide) rfl rfl)) (ix z) (hz c_5).1 (Nat.lt_of_lt_of_le (hz c_5).2 hW.r) (by decide) dX3_chain_37 ?_
            refine lv_istore_n (lv' := [(3, .int (ar S 20 (ix z))), (4, .int (nI k)), (0, .ref (ad 0)), (1, .int (nI i)), (2, .int (nI cn))]) hx hb dX3_chain_38 rfl hl (by decide) rfl (fun ls hl => ?_)
            refine lv_iinc (v := nI (k + 1)) (lv' := [(4, .int (nI (k + 1))), (3, .int (ar S 20 (ix z))), (0, .ref (ad 0)), (1, .int (nI i)), (2, .int (nI cn))]) hx hb dX3_chain_39 hl (k := 1) rfl (by rw [nI_succ]; rfl) (by decide) rfl (fun ls hl => ?_)
            refine lv_goto (tgt := 20) hx hb dX3_chain_42 (by decide) ?_
            rw [show r_X3_chain S (q + 1) k z = r_X3_chain S q (k + 1) (ar S 20 (ix z)) from by rw [r_X3_chain, if_neg c_5]]
            exact ih (k + 1) (ar S 20 (ix z)) (fun h' => ⟨(hBa.ba (hz c_5).2 h').1, Nat.lt_trans (hBa.ba (hz c_5).2 h').2 (hz c_5).2⟩) (by omega) ls (lv_sub hl [0, 1, 2, 3, 4] rfl)
    exact lp (cn) 0 (ar S 5 i) (hW.la hi) (Nat.zero_add _) ls hl
  · exact absurd c_1 (by decide)
set_option maxRecDepth 20000 in
theorem c_X3_sealed_out (l : Launch) (G : GG) (ad : Nat → Nat) (S : St) (hW : WF S) {n : Int32} (hn : f_X3_in n 1 9999 = 0) : MR l yX3_sealed cX3_sealed 3 (some .int) 1 22 G ad (cM G ad S) [.ref (ad 0), .int n] (some (.int (-2))) := by
  refine MR.of [(0, .ref (ad 0)), (1, .int n)] (by decide) (Nat.le_of_ble_eq_true rfl) rfl ?_
  intro p e s m args below meth c cx hr hlk hP ls hl
  have hx := cx.1.1
  have hb := cx.1.2.1
  refine lv_iload_n hx hb dX3_sealed_0 rfl (lv_at hl 1 rfl) ?_
  refine lv_iconst (v := 1) hx hb dX3_sealed_1 (by decide) ?_
  refine lv_sipush (v := 9999) hx hb dX3_sealed_2 (by decide) ?_
  refine w_callS (As := [.int n, .int 1, .int 9999]) (rest := []) (st := [.int (f_X3_in n 1 9999)]) cx (c_X3_in l G ad _ n 1 9999) k_541 cal_yX3_in hP rfl ⟨Nat.le_of_ble_eq_true rfl, Nat.le_of_ble_eq_true rfl⟩ hl.1 (Nat.le_of_ble_eq_true rfl) ⟨Nat.zero_le _, Nat.zero_le _⟩ rfl rfl dX3_sealed_5 ?_
  refine lv_if_ne (tgt := 14) hx hb dX3_sealed_8 (by decide) (fun c_1 => ?_) (fun c_1 => ?_)
  · exact absurd hn c_1
  · refine lv_bipush (v := -2) hx hb dX3_sealed_11 (by decide) ?_
    exact r_int cx hr hlk rfl dX3_sealed_13
def r_X3_sealed (S : St) (x : Int32) : Nat → Nat → Int32
  | 0, k => (-1000000)
  | q + 1, k => if ar S 6 k = x then nI k
    else r_X3_sealed S x q (k + 1)
def f_X3_sealed (S : St) (x : Int32) : Int32 :=
  r_X3_sealed S x (nt S) 0
set_option maxRecDepth 20000 in
theorem c_X3_sealed (l : Launch) (G : GG) (ad : Nat → Nat) (S : St) (hW : WF S) {x : Int32} (hn : ¬ f_X3_in x 1 9999 = 0) : MR l yX3_sealed cX3_sealed 3 (some .int) 1 22 G ad (cM G ad S) [.ref (ad 0), .int x] (some (.int (f_X3_sealed S x))) := by
  refine MR.of [(0, .ref (ad 0)), (1, .int x)] (by decide) (Nat.le_of_ble_eq_true rfl) rfl ?_
  intro p e s m args below meth c cx hr hlk hP ls hl
  have hx := cx.1.1
  have hb := cx.1.2.1
  refine lv_iload_n hx hb dX3_sealed_0 rfl (lv_at hl 1 rfl) ?_
  refine lv_iconst (v := 1) hx hb dX3_sealed_1 (by decide) ?_
  refine lv_sipush (v := 9999) hx hb dX3_sealed_2 (by decide) ?_
  refine w_callS (As := [.int x, .int 1, .int 9999]) (rest := []) (st := [.int (f_X3_in x 1 9999)]) cx (c_X3_in l G ad _ x 1 9999) k_541 cal_yX3_in hP rfl ⟨Nat.le_of_ble_eq_true rfl, Nat.le_of_ble_eq_true rfl⟩ hl.1 (Nat.le_of_ble_eq_true rfl) ⟨Nat.zero_le _, Nat.zero_le _⟩ rfl rfl dX3_sealed_5 ?_
  refine lv_if_ne (tgt := 14) hx hb dX3_sealed_8 (by decide) (fun c_1 => ?_) (fun c_1 => ?_)
  · refine lv_iconst (v := 0) hx hb dX3_sealed_14 (by decide) ?_
    refine lv_istore_n (lv' := [(2, .int 0), (0, .ref (ad 0)), (1, .int x)]) hx hb dX3_sealed_15 rfl hl (by decide) rfl (fun ls hl => ?_)
    rw [show f_X3_sealed S x = r_X3_sealed S x (nt S) 0 from by rw [f_X3_sealed]]
    have lp : ∀ (q k : Nat), k + q = nt S → ∀ ls : Array Slot, lv_has ls 3 [(2, .int (nI k)), (0, .ref (ad 0)), (1, .int x)] → W p l e (rmM 1 22 0 0) s m args below meth c s.heap [] 0 0 (MQ below (Rd (some (.int (r_X3_sealed S x q k)))) args s 0 0 (fun _ => False)) (F0 m 16 ls []) := by
      intro q
      induction q with
      | zero =>
        intro k hk ls hl
        have hk2 : k = nt S := by omega
        subst hk2
        refine lv_iload_n hx hb dX3_sealed_16 rfl (lv_at hl 0 rfl) ?_
        refine lv_aload_n hx hb dX3_sealed_17 rfl (lv_at hl 1 rfl) ?_
        refine w_get cx (ci := 3) rfl iX3 (hP _ _ cM_0) 1 (by decide) k_452 (v := .int (nI (nt S))) rfl dX3_sealed_18 ?_
        refine lv_icmp_ge (tgt := 42) hx hb dX3_sealed_21 (by decide) (fun c_2 => ?_) (fun c_2 => ?_)
        · refine w_ldc cx k_548 dX3_sealed_42 ?_
          exact r_int cx hr hlk (by rw [r_X3_sealed]) dX3_sealed_44
        · exact absurd (Int32.le_refl _) c_2
      | succ q ih =>
        intro k hk1 ls hl
        have hk : k < nt S := by omega
        refine lv_iload_n hx hb dX3_sealed_16 rfl (lv_at hl 0 rfl) ?_
        refine lv_aload_n hx hb dX3_sealed_17 rfl (lv_at hl 1 rfl) ?_
        refine w_get cx (ci := 3) rfl iX3 (hP _ _ cM_0) 1 (by decide) k_452 (v := .int (nI (nt S))) rfl dX3_sealed_18 ?_
        refine lv_icmp_ge (tgt := 42) hx hb dX3_sealed_21 (by decide) (fun c_3 => ?_) (fun c_3 => ?_)
        · exact absurd c_3 (nI_ge (b := nt S) hk (Nat.lt_of_le_of_lt hW.t (by decide)))
        · refine lv_aload_n hx hb dX3_sealed_24 rfl (lv_at hl 1 rfl) ?_
          refine w_get cx (ci := 3) rfl iX3 (hP _ _ cM_0) 8 (by decide) k_459 (v := .ref (ad 7)) rfl dX3_sealed_25 ?_
          refine lv_iload_n hx hb dX3_sealed_28 rfl (lv_at hl 0 rfl) ?_
          refine w_iald cx (hP _ _ (cM_A (n := 40) 6 (by decide) rfl rfl)) k rfl (Nat.lt_of_lt_of_le hk hW.t) (by decide) dX3_sealed_29 ?_
          refine lv_iload_n hx hb dX3_sealed_30 rfl (lv_at hl 2 rfl) ?_
          refine lv_icmp_ne (tgt := 36) hx hb dX3_sealed_31 (by decide) (fun c_4 => ?_) (fun c_4 => ?_)
          · refine lv_iinc (v := nI (k + 1)) (lv' := [(2, .int (nI (k + 1))), (0, .ref (ad 0)), (1, .int x)]) hx hb dX3_sealed_36 hl (k := 0) rfl (by rw [nI_succ]; rfl) (by decide) rfl (fun ls hl => ?_)
            refine lv_goto (tgt := 16) hx hb dX3_sealed_39 (by decide) ?_
            rw [show r_X3_sealed S x (q + 1) k = r_X3_sealed S x q (k + 1) from by rw [r_X3_sealed, if_neg c_4]]
            exact ih (k + 1) (by omega) ls (lv_sub hl [0, 1, 2] rfl)
          · refine lv_iload_n hx hb dX3_sealed_34 rfl (lv_at hl 0 rfl) ?_
            exact r_int cx hr hlk (by rw [r_X3_sealed, if_pos c_4]) dX3_sealed_35
    exact lp (nt S) 0 (Nat.zero_add _) ls hl
  · exact absurd c_1 hn
set_option maxRecDepth 20000 in
theorem c_X3_stays_out (l : Launch) (G : GG) (ad : Nat → Nat) (S : St) (hW : WF S) {n : Int32} (hn : nT S n) : MR l yX3_stays cX3_stays 4 (some .int) 2 43 G ad (cM G ad S) [.ref (ad 0), .int n] (some (.int (-1))) := by
  refine MR.of [(0, .ref (ad 0)), (1, .int n)] (by decide) (Nat.le_of_ble_eq_true rfl) rfl ?_
  intro p e s m args below meth c cx hr hlk hP ls hl
  have hx := cx.1.1
  have hb := cx.1.2.1
  refine lv_aload_n hx hb dX3_stays_0 rfl (lv_at hl 0 rfl) ?_
  refine lv_iload_n hx hb dX3_stays_1 rfl (lv_at hl 1 rfl) ?_
  refine w_callV (As := [.int n]) (rest := []) (st := [.int 0]) cx (c_X3_isThing_out l G ad S hW hn) k_553 cal_yX3_isThing (ci := 3) rfl (hP _ _ cM_0) hP rfl ⟨Nat.le_of_ble_eq_true rfl, Nat.le_of_ble_eq_true rfl⟩ hl.1 (Nat.le_of_ble_eq_true rfl) ⟨Nat.zero_le _, Nat.zero_le _⟩ rfl rfl dX3_stays_2 ?_
  refine lv_if_ne (tgt := 10) hx hb dX3_stays_5 (by decide) (fun c_1 => ?_) (fun c_1 => ?_)
  · exact absurd (by decide) c_1
  · refine lv_iconst (v := -1) hx hb dX3_stays_8 (by decide) ?_
    exact r_int cx hr hlk rfl dX3_stays_9
def r_X3_stays (S : St) (i : Nat) : Nat → Nat → Int32
  | 0, k => nI 20000
  | q + 1, k => if f_X3_judgedOn S i (((sc S 0) + (nI k)) + 1) = f_X3_judgedOn S i (sc S 0) then r_X3_stays S i q (k + 1)
    else nI k
def f_X3_stays (S : St) (i : Nat) : Int32 :=
  if f_X3_judgedOn S i (sc S 0) = 0 then (-1000000)
  else r_X3_stays S i (20000) 0
set_option maxRecDepth 20000 in
theorem c_X3_stays (l : Launch) (G : GG) (ad : Nat → Nat) (S : St) (hW : WF S) {i : Nat} (hi : i < nt S) : MR l yX3_stays cX3_stays 4 (some .int) 2 47 G ad (cM G ad S) [.ref (ad 0), .int (nI i)] (some (.int (f_X3_stays S i))) := by
  refine MR.of [(0, .ref (ad 0)), (1, .int (nI i))] (by decide) (Nat.le_of_ble_eq_true rfl) rfl ?_
  intro p e s m args below meth c cx hr hlk hP ls hl
  have hx := cx.1.1
  have hb := cx.1.2.1
  refine lv_aload_n hx hb dX3_stays_0 rfl (lv_at hl 0 rfl) ?_
  refine lv_iload_n hx hb dX3_stays_1 rfl (lv_at hl 1 rfl) ?_
  refine w_callV (As := [.int (nI i)]) (rest := []) (st := [.int 1]) cx (c_X3_isThing_in l G ad S hW hi) k_553 cal_yX3_isThing (ci := 3) rfl (hP _ _ cM_0) hP rfl ⟨Nat.le_of_ble_eq_true rfl, Nat.le_of_ble_eq_true rfl⟩ hl.1 (Nat.le_of_ble_eq_true rfl) ⟨Nat.zero_le _, Nat.zero_le _⟩ rfl rfl dX3_stays_2 ?_
  refine lv_if_ne (tgt := 10) hx hb dX3_stays_5 (by decide) (fun c_1 => ?_) (fun c_1 => ?_)
  · refine lv_aload_n hx hb dX3_stays_10 rfl (lv_at hl 0 rfl) ?_
    refine lv_iload_n hx hb dX3_stays_11 rfl (lv_at hl 1 rfl) ?_
    refine lv_aload_n hx hb dX3_stays_12 rfl (lv_at hl 0 rfl) ?_
    refine w_get cx (ci := 3) rfl iX3 (hP _ _ cM_0) 0 (by decide) k_451 (v := .int (sc S 0)) rfl dX3_stays_13 ?_
    refine w_callV (As := [.int (nI i), .int (sc S 0)]) (rest := []) (st := [.int (f_X3_judgedOn S i (sc S 0))]) cx (c_X3_judgedOn l G ad S hW (i := i) hi (sc S 0)) k_643 cal_yX3_judgedOn (ci := 3) rfl (hP _ _ cM_0) hP rfl ⟨Nat.le_of_ble_eq_true rfl, Nat.le_of_ble_eq_true rfl⟩ hl.1 (Nat.le_of_ble_eq_true rfl) ⟨Nat.zero_le _, Nat.zero_le _⟩ rfl rfl dX3_stays_16 ?_
    refine lv_istore_n (lv' := [(2, .int (f_X3_judgedOn S i (sc S 0))), (0, .ref (ad 0)), (1, .int (nI i))]) hx hb dX3_stays_19 rfl hl (by decide) rfl (fun ls hl => ?_)
    refine lv_iload_n hx hb dX3_stays_20 rfl (lv_at hl 0 rfl) ?_
    refine lv_if_ne (tgt := 27) hx hb dX3_stays_21 (by decide) (fun c_2 => ?_) (fun c_2 => ?_)
    · refine lv_iconst (v := 0) hx hb dX3_stays_27 (by decide) ?_
      refine lv_istore_n (lv' := [(3, .int 0), (2, .int (f_X3_judgedOn S i (sc S 0))), (0, .ref (ad 0)), (1, .int (nI i))]) hx hb dX3_stays_28 rfl hl (by decide) rfl (fun ls hl => ?_)
      rw [show f_X3_stays S i = r_X3_stays S i (20000) 0 from by rw [f_X3_stays, if_neg c_2]]
      have lp : ∀ (q k : Nat), k + q = 20000 → ∀ ls : Array Slot, lv_has ls 4 [(3, .int (nI k)), (2, .int (f_X3_judgedOn S i (sc S 0))), (0, .ref (ad 0)), (1, .int (nI i))] → W p l e (rmM 2 47 0 0) s m args below meth c s.heap [] 0 0 (MQ below (Rd (some (.int (r_X3_stays S i q k)))) args s 0 0 (fun _ => False)) (F0 m 29 ls []) := by
        intro q
        induction q with
        | zero =>
          intro k hk ls hl
          have hk2 : k = 20000 := by omega
          subst hk2
          refine lv_iload_n hx hb dX3_stays_29 rfl (lv_at hl 0 rfl) ?_
          refine lv_sipush (v := 20000) hx hb dX3_stays_30 (by decide) ?_
          refine lv_icmp_ge (tgt := 59) hx hb dX3_stays_33 (by decide) (fun c_3 => ?_) (fun c_3 => ?_)
          · refine lv_iload_n hx hb dX3_stays_59 rfl (lv_at hl 0 rfl) ?_
            exact r_int cx hr hlk (by rw [r_X3_stays]) dX3_stays_60
          · exact absurd (by decide) c_3
        | succ q ih =>
          intro k hk1 ls hl
          have hk : k < 20000 := by omega
          refine lv_iload_n hx hb dX3_stays_29 rfl (lv_at hl 0 rfl) ?_
          refine lv_sipush (v := 20000) hx hb dX3_stays_30 (by decide) ?_
          refine lv_icmp_ge (tgt := 59) hx hb dX3_stays_33 (by decide) (fun c_4 => ?_) (fun c_4 => ?_)
          · exact absurd c_4 (nI_ge (b := 20000) hk (by decide))
          · refine lv_aload_n hx hb dX3_stays_36 rfl (lv_at hl 2 rfl) ?_
            refine lv_iload_n hx hb dX3_stays_37 rfl (lv_at hl 3 rfl) ?_
            refine lv_aload_n hx hb dX3_stays_38 rfl (lv_at hl 2 rfl) ?_
            refine w_get cx (ci := 3) rfl iX3 (hP _ _ cM_0) 0 (by decide) k_451 (v := .int (sc S 0)) rfl dX3_stays_39 ?_
            refine lv_iload_n hx hb dX3_stays_42 rfl (lv_at hl 0 rfl) ?_
            refine lv_iadd hx hb dX3_stays_43 ?_
            refine lv_iconst (v := 1) hx hb dX3_stays_44 (by decide) ?_
            refine lv_iadd hx hb dX3_stays_45 ?_
            refine w_callV (As := [.int (nI i), .int (((sc S 0) + (nI k)) + 1)]) (rest := []) (st := [.int (f_X3_judgedOn S i (((sc S 0) + (nI k)) + 1))]) cx (c_X3_judgedOn l G ad S hW (i := i) hi (((sc S 0) + (nI k)) + 1)) k_643 cal_yX3_judgedOn (ci := 3) rfl (hP _ _ cM_0) hP rfl ⟨Nat.le_of_ble_eq_true rfl, Nat.le_of_ble_eq_true rfl⟩ hl.1 (Nat.le_of_ble_eq_true rfl) ⟨Nat.zero_le _, Nat.zero_le _⟩ rfl rfl dX3_stays_46 ?_
            refine lv_iload_n hx hb dX3_stays_49 rfl (lv_at hl 1 rfl) ?_
            refine lv_icmp_ne (tgt := 59) hx hb dX3_stays_50 (by decide) (fun c_5 => ?_) (fun c_5 => ?_)
            · refine lv_iload_n hx hb dX3_stays_59 rfl (lv_at hl 0 rfl) ?_
              exact r_int cx hr hlk (by rw [r_X3_stays, if_neg c_5]) dX3_stays_60
            · refine lv_iinc (v := nI (k + 1)) (lv' := [(3, .int (nI (k + 1))), (2, .int (f_X3_judgedOn S i (sc S 0))), (0, .ref (ad 0)), (1, .int (nI i))]) hx hb dX3_stays_53 hl (k := 0) rfl (by rw [nI_succ]; rfl) (by decide) rfl (fun ls hl => ?_)
              refine lv_goto (tgt := 29) hx hb dX3_stays_56 (by decide) ?_
              rw [show r_X3_stays S i (q + 1) k = r_X3_stays S i q (k + 1) from by rw [r_X3_stays, if_pos c_5]]
              exact ih (k + 1) (by omega) ls (lv_sub hl [0, 1, 2, 3] rfl)
      exact lp (20000) 0 (Nat.zero_add _) ls hl
    · refine w_ldc cx k_548 dX3_stays_24 ?_
      exact r_int cx hr hlk (by rw [f_X3_stays, if_pos c_2]) dX3_stays_26
  · exact absurd c_1 (by decide)
def r_X3_count (S : St) (x : Int32) : Nat → Nat → Int32 → Int32
  | 0, k, z => if x = 0 then sc S 0
    else if x = 1 then nI (nt S)
    else if x = 2 then nI (nr S)
    else if x = 7 then sc S 1
    else z
  | q + 1, k, z => if x = 3 then (if f_X3_dueNow S k = 0 then r_X3_count S x q (k + 1) (z + 0)
      else r_X3_count S x q (k + 1) (z + 1))
    else if x ≤ 3 then r_X3_count S x q (k + 1) (z + 0)
    else if f_X3_isTool S k = 0 then r_X3_count S x q (k + 1) (z + 0)
    else if f_X3_judgedOn S k (sc S 0) = x - 3 then r_X3_count S x q (k + 1) (z + 1)
    else r_X3_count S x q (k + 1) (z + 0)
def f_X3_count (S : St) (x : Int32) : Int32 :=
  if f_X3_in x 0 7 = 0 then (-2)
  else r_X3_count S x (nt S) 0 0
set_option maxRecDepth 20000 in
theorem c_X3_count (l : Launch) (G : GG) (ad : Nat → Nat) (S : St) (hW : WF S) (x : Int32) : MR l yX3_count cX3_count 5 (some .int) 2 47 G ad (cM G ad S) [.ref (ad 0), .int x] (some (.int (f_X3_count S x))) := by
  refine MR.of [(0, .ref (ad 0)), (1, .int x)] (by decide) (Nat.le_of_ble_eq_true rfl) rfl ?_
  intro p e s m args below meth c cx hr hlk hP ls hl
  have hx := cx.1.1
  have hb := cx.1.2.1
  refine lv_iload_n hx hb dX3_count_0 rfl (lv_at hl 1 rfl) ?_
  refine lv_iconst (v := 0) hx hb dX3_count_1 (by decide) ?_
  refine lv_bipush (v := 7) hx hb dX3_count_2 (by decide) ?_
  refine w_callS (As := [.int x, .int 0, .int 7]) (rest := []) (st := [.int (f_X3_in x 0 7)]) cx (c_X3_in l G ad _ x 0 7) k_541 cal_yX3_in hP rfl ⟨Nat.le_of_ble_eq_true rfl, Nat.le_of_ble_eq_true rfl⟩ hl.1 (Nat.le_of_ble_eq_true rfl) ⟨Nat.zero_le _, Nat.zero_le _⟩ rfl rfl dX3_count_4 ?_
  refine lv_if_ne (tgt := 13) hx hb dX3_count_7 (by decide) (fun c_1 => ?_) (fun c_1 => ?_)
  · refine lv_iconst (v := 0) hx hb dX3_count_13 (by decide) ?_
    refine lv_istore_n (lv' := [(2, .int 0), (0, .ref (ad 0)), (1, .int x)]) hx hb dX3_count_14 rfl hl (by decide) rfl (fun ls hl => ?_)
    refine lv_iconst (v := 0) hx hb dX3_count_15 (by decide) ?_
    refine lv_istore_n (lv' := [(3, .int 0), (2, .int 0), (0, .ref (ad 0)), (1, .int x)]) hx hb dX3_count_16 rfl hl (by decide) rfl (fun ls hl => ?_)
    rw [show f_X3_count S x = r_X3_count S x (nt S) 0 0 from by rw [f_X3_count, if_neg c_1]]
    have lp : ∀ (q k : Nat) (z : Int32), k + q = nt S → ∀ ls : Array Slot, lv_has ls 5 [(3, .int (nI k)), (2, .int z), (0, .ref (ad 0)), (1, .int x)] → W p l e (rmM 2 47 0 0) s m args below meth c s.heap [] 0 0 (MQ below (Rd (some (.int (r_X3_count S x q k z)))) args s 0 0 (fun _ => False)) (F0 m 17 ls []) := by
      intro q
      induction q with
      | zero =>
        intro k z hk ls hl
        have hk2 : k = nt S := by omega
        subst hk2
        refine lv_iload_n hx hb dX3_count_17 rfl (lv_at hl 0 rfl) ?_
        refine lv_aload_n hx hb dX3_count_18 rfl (lv_at hl 2 rfl) ?_
        refine w_get cx (ci := 3) rfl iX3 (hP _ _ cM_0) 1 (by decide) k_452 (v := .int (nI (nt S))) rfl dX3_count_19 ?_
        refine lv_icmp_ge (tgt := 92) hx hb dX3_count_22 (by decide) (fun c_2 => ?_) (fun c_2 => ?_)
        · refine lv_iload_n hx hb dX3_count_92 rfl (lv_at hl 3 rfl) ?_
          refine lv_if_ne (tgt := 103) hx hb dX3_count_93 (by decide) (fun c_3 => ?_) (fun c_3 => ?_)
          · refine lv_iload_n hx hb dX3_count_103 rfl (lv_at hl 3 rfl) ?_
            refine lv_iconst (v := 1) hx hb dX3_count_104 (by decide) ?_
            refine lv_icmp_ne (tgt := 115) hx hb dX3_count_105 (by decide) (fun c_4 => ?_) (fun c_4 => ?_)
            · refine lv_iload_n hx hb dX3_count_115 rfl (lv_at hl 3 rfl) ?_
              refine lv_iconst (v := 2) hx hb dX3_count_116 (by decide) ?_
              refine lv_icmp_ne (tgt := 127) hx hb dX3_count_117 (by decide) (fun c_5 => ?_) (fun c_5 => ?_)
              · refine lv_iload_n hx hb dX3_count_127 rfl (lv_at hl 3 rfl) ?_
                refine lv_bipush (v := 7) hx hb dX3_count_128 (by decide) ?_
                refine lv_icmp_ne (tgt := 140) hx hb dX3_count_130 (by decide) (fun c_6 => ?_) (fun c_6 => ?_)
                · refine lv_iload_n hx hb dX3_count_140 rfl (lv_at hl 1 rfl) ?_
                  exact r_int cx hr hlk (by rw [r_X3_count, if_neg c_3, if_neg c_4, if_neg c_5, if_neg c_6]) dX3_count_141
                · refine lv_aload_n hx hb dX3_count_133 rfl (lv_at hl 2 rfl) ?_
                  refine w_get cx (ci := 3) rfl iX3 (hP _ _ cM_0) 25 (by decide) k_476 (v := .int (sc S 1)) rfl dX3_count_134 ?_
                  refine lv_goto (tgt := 141) hx hb dX3_count_137 (by decide) ?_
                  exact r_int cx hr hlk (by rw [r_X3_count, if_neg c_3, if_neg c_4, if_neg c_5, if_pos c_6]) dX3_count_141
              · refine lv_aload_n hx hb dX3_count_120 rfl (lv_at hl 2 rfl) ?_
                refine w_get cx (ci := 3) rfl iX3 (hP _ _ cM_0) 15 (by decide) k_466 (v := .int (nI (nr S))) rfl dX3_count_121 ?_
                refine lv_goto (tgt := 141) hx hb dX3_count_124 (by decide) ?_
                exact r_int cx hr hlk (by rw [r_X3_count, if_neg c_3, if_neg c_4, if_pos c_5]) dX3_count_141
            · refine lv_aload_n hx hb dX3_count_108 rfl (lv_at hl 2 rfl) ?_
              refine w_get cx (ci := 3) rfl iX3 (hP _ _ cM_0) 1 (by decide) k_452 (v := .int (nI (nt S))) rfl dX3_count_109 ?_
              refine lv_goto (tgt := 141) hx hb dX3_count_112 (by decide) ?_
              exact r_int cx hr hlk (by rw [r_X3_count, if_neg c_3, if_pos c_4]) dX3_count_141
          · refine lv_aload_n hx hb dX3_count_96 rfl (lv_at hl 2 rfl) ?_
            refine w_get cx (ci := 3) rfl iX3 (hP _ _ cM_0) 0 (by decide) k_451 (v := .int (sc S 0)) rfl dX3_count_97 ?_
            refine lv_goto (tgt := 141) hx hb dX3_count_100 (by decide) ?_
            exact r_int cx hr hlk (by rw [r_X3_count, if_pos c_3]) dX3_count_141
        · exact absurd (Int32.le_refl _) c_2
      | succ q ih =>
        intro k z hk1 ls hl
        have hk : k < nt S := by omega
        refine lv_iload_n hx hb dX3_count_17 rfl (lv_at hl 0 rfl) ?_
        refine lv_aload_n hx hb dX3_count_18 rfl (lv_at hl 2 rfl) ?_
        refine w_get cx (ci := 3) rfl iX3 (hP _ _ cM_0) 1 (by decide) k_452 (v := .int (nI (nt S))) rfl dX3_count_19 ?_
        refine lv_icmp_ge (tgt := 92) hx hb dX3_count_22 (by decide) (fun c_7 => ?_) (fun c_7 => ?_)
        · exact absurd c_7 (nI_ge (b := nt S) hk (Nat.lt_of_le_of_lt hW.t (by decide)))
        · refine lv_iload_n hx hb dX3_count_25 rfl (lv_at hl 3 rfl) ?_
          refine lv_iconst (v := 3) hx hb dX3_count_26 (by decide) ?_
          refine lv_icmp_ne (tgt := 38) hx hb dX3_count_27 (by decide) (fun c_8 => ?_) (fun c_8 => ?_)
          · refine lv_iload_n hx hb dX3_count_38 rfl (lv_at hl 3 rfl) ?_
            refine lv_iconst (v := 3) hx hb dX3_count_39 (by decide) ?_
            refine lv_icmp_le (tgt := 70) hx hb dX3_count_40 (by decide) (fun c_9 => ?_) (fun c_9 => ?_)
            · refine lv_iconst (v := 0) hx hb dX3_count_70 (by decide) ?_
              refine lv_istore (lv' := [(4, .int 0), (3, .int (nI k)), (2, .int z), (0, .ref (ad 0)), (1, .int x)]) hx hb dX3_count_71 hl (by decide) rfl (fun ls hl => ?_)
              refine lv_iload_n hx hb dX3_count_73 rfl (lv_at hl 2 rfl) ?_
              refine lv_iload hx hb dX3_count_74 (lv_at hl 0 rfl) ?_
              refine lv_if_eq (tgt := 83) hx hb dX3_count_76 (by decide) (fun c_10 => ?_) (fun c_10 => ?_)
              · refine lv_iconst (v := 0) hx hb dX3_count_83 (by decide) ?_
                refine lv_iadd hx hb dX3_count_84 ?_
                refine lv_istore_n (lv' := [(2, .int (z + 0)), (4, .int 0), (3, .int (nI k)), (0, .ref (ad 0)), (1, .int x)]) hx hb dX3_count_85 rfl hl (by decide) rfl (fun ls hl => ?_)
                refine lv_iinc (v := nI (k + 1)) (lv' := [(3, .int (nI (k + 1))), (2, .int (z + 0)), (4, .int 0), (0, .ref (ad 0)), (1, .int x)]) hx hb dX3_count_86 hl (k := 2) rfl (by rw [nI_succ]; rfl) (by decide) rfl (fun ls hl => ?_)
                refine lv_goto (tgt := 17) hx hb dX3_count_89 (by decide) ?_
                rw [show r_X3_count S x (q + 1) k z = r_X3_count S x q (k + 1) (z + 0) from by rw [r_X3_count, if_neg c_8, if_pos c_9]]
                exact ih (k + 1) (z + 0) (by omega) ls (lv_sub hl [0, 1, 3, 4] rfl)
              · exact absurd (by decide) c_10
            · refine lv_aload_n hx hb dX3_count_43 rfl (lv_at hl 2 rfl) ?_
              refine lv_iload_n hx hb dX3_count_44 rfl (lv_at hl 0 rfl) ?_
              refine w_callV (As := [.int (nI k)]) (rest := []) (st := [.int (f_X3_isTool S k)]) cx (c_X3_isTool l G ad S hW (i := k) hk) k_571 cal_yX3_isTool (ci := 3) rfl (hP _ _ cM_0) hP rfl ⟨Nat.le_of_ble_eq_true rfl, Nat.le_of_ble_eq_true rfl⟩ hl.1 (Nat.le_of_ble_eq_true rfl) ⟨Nat.zero_le _, Nat.zero_le _⟩ rfl rfl dX3_count_45 ?_
              refine lv_if_eq (tgt := 70) hx hb dX3_count_48 (by decide) (fun c_11 => ?_) (fun c_11 => ?_)
              · refine lv_iconst (v := 0) hx hb dX3_count_70 (by decide) ?_
                refine lv_istore (lv' := [(4, .int 0), (3, .int (nI k)), (2, .int z), (0, .ref (ad 0)), (1, .int x)]) hx hb dX3_count_71 hl (by decide) rfl (fun ls hl => ?_)
                refine lv_iload_n hx hb dX3_count_73 rfl (lv_at hl 2 rfl) ?_
                refine lv_iload hx hb dX3_count_74 (lv_at hl 0 rfl) ?_
                refine lv_if_eq (tgt := 83) hx hb dX3_count_76 (by decide) (fun c_12 => ?_) (fun c_12 => ?_)
                · refine lv_iconst (v := 0) hx hb dX3_count_83 (by decide) ?_
                  refine lv_iadd hx hb dX3_count_84 ?_
                  refine lv_istore_n (lv' := [(2, .int (z + 0)), (4, .int 0), (3, .int (nI k)), (0, .ref (ad 0)), (1, .int x)]) hx hb dX3_count_85 rfl hl (by decide) rfl (fun ls hl => ?_)
                  refine lv_iinc (v := nI (k + 1)) (lv' := [(3, .int (nI (k + 1))), (2, .int (z + 0)), (4, .int 0), (0, .ref (ad 0)), (1, .int x)]) hx hb dX3_count_86 hl (k := 2) rfl (by rw [nI_succ]; rfl) (by decide) rfl (fun ls hl => ?_)
                  refine lv_goto (tgt := 17) hx hb dX3_count_89 (by decide) ?_
                  rw [show r_X3_count S x (q + 1) k z = r_X3_count S x q (k + 1) (z + 0) from by rw [r_X3_count, if_neg c_8, if_neg c_9, if_pos c_11]]
                  exact ih (k + 1) (z + 0) (by omega) ls (lv_sub hl [0, 1, 3, 4] rfl)
                · exact absurd (by decide) c_12
              · refine lv_aload_n hx hb dX3_count_51 rfl (lv_at hl 2 rfl) ?_
                refine lv_iload_n hx hb dX3_count_52 rfl (lv_at hl 0 rfl) ?_
                refine lv_aload_n hx hb dX3_count_53 rfl (lv_at hl 2 rfl) ?_
                refine w_get cx (ci := 3) rfl iX3 (hP _ _ cM_0) 0 (by decide) k_451 (v := .int (sc S 0)) rfl dX3_count_54 ?_
                refine w_callV (As := [.int (nI k), .int (sc S 0)]) (rest := []) (st := [.int (f_X3_judgedOn S k (sc S 0))]) cx (c_X3_judgedOn l G ad S hW (i := k) hk (sc S 0)) k_643 cal_yX3_judgedOn (ci := 3) rfl (hP _ _ cM_0) hP rfl ⟨Nat.le_of_ble_eq_true rfl, Nat.le_of_ble_eq_true rfl⟩ hl.1 (Nat.le_of_ble_eq_true rfl) ⟨Nat.zero_le _, Nat.zero_le _⟩ rfl rfl dX3_count_57 ?_
                refine lv_iload_n hx hb dX3_count_60 rfl (lv_at hl 3 rfl) ?_
                refine lv_iconst (v := 3) hx hb dX3_count_61 (by decide) ?_
                refine lv_isub hx hb dX3_count_62 ?_
                refine lv_icmp_ne (tgt := 70) hx hb dX3_count_63 (by decide) (fun c_13 => ?_) (fun c_13 => ?_)
                · refine lv_iconst (v := 0) hx hb dX3_count_70 (by decide) ?_
                  refine lv_istore (lv' := [(4, .int 0), (3, .int (nI k)), (2, .int z), (0, .ref (ad 0)), (1, .int x)]) hx hb dX3_count_71 hl (by decide) rfl (fun ls hl => ?_)
                  refine lv_iload_n hx hb dX3_count_73 rfl (lv_at hl 2 rfl) ?_
                  refine lv_iload hx hb dX3_count_74 (lv_at hl 0 rfl) ?_
                  refine lv_if_eq (tgt := 83) hx hb dX3_count_76 (by decide) (fun c_14 => ?_) (fun c_14 => ?_)
                  · refine lv_iconst (v := 0) hx hb dX3_count_83 (by decide) ?_
                    refine lv_iadd hx hb dX3_count_84 ?_
                    refine lv_istore_n (lv' := [(2, .int (z + 0)), (4, .int 0), (3, .int (nI k)), (0, .ref (ad 0)), (1, .int x)]) hx hb dX3_count_85 rfl hl (by decide) rfl (fun ls hl => ?_)
                    refine lv_iinc (v := nI (k + 1)) (lv' := [(3, .int (nI (k + 1))), (2, .int (z + 0)), (4, .int 0), (0, .ref (ad 0)), (1, .int x)]) hx hb dX3_count_86 hl (k := 2) rfl (by rw [nI_succ]; rfl) (by decide) rfl (fun ls hl => ?_)
                    refine lv_goto (tgt := 17) hx hb dX3_count_89 (by decide) ?_
                    rw [show r_X3_count S x (q + 1) k z = r_X3_count S x q (k + 1) (z + 0) from by rw [r_X3_count, if_neg c_8, if_neg c_9, if_neg c_11, if_neg c_13]]
                    exact ih (k + 1) (z + 0) (by omega) ls (lv_sub hl [0, 1, 3, 4] rfl)
                  · exact absurd (by decide) c_14
                · refine lv_iconst (v := 1) hx hb dX3_count_66 (by decide) ?_
                  refine lv_goto (tgt := 71) hx hb dX3_count_67 (by decide) ?_
                  refine lv_istore (lv' := [(4, .int 1), (3, .int (nI k)), (2, .int z), (0, .ref (ad 0)), (1, .int x)]) hx hb dX3_count_71 hl (by decide) rfl (fun ls hl => ?_)
                  refine lv_iload_n hx hb dX3_count_73 rfl (lv_at hl 2 rfl) ?_
                  refine lv_iload hx hb dX3_count_74 (lv_at hl 0 rfl) ?_
                  refine lv_if_eq (tgt := 83) hx hb dX3_count_76 (by decide) (fun c_15 => ?_) (fun c_15 => ?_)
                  · exact absurd c_15 (by decide)
                  · refine lv_iconst (v := 1) hx hb dX3_count_79 (by decide) ?_
                    refine lv_goto (tgt := 84) hx hb dX3_count_80 (by decide) ?_
                    refine lv_iadd hx hb dX3_count_84 ?_
                    refine lv_istore_n (lv' := [(2, .int (z + 1)), (4, .int 1), (3, .int (nI k)), (0, .ref (ad 0)), (1, .int x)]) hx hb dX3_count_85 rfl hl (by decide) rfl (fun ls hl => ?_)
                    refine lv_iinc (v := nI (k + 1)) (lv' := [(3, .int (nI (k + 1))), (2, .int (z + 1)), (4, .int 1), (0, .ref (ad 0)), (1, .int x)]) hx hb dX3_count_86 hl (k := 2) rfl (by rw [nI_succ]; rfl) (by decide) rfl (fun ls hl => ?_)
                    refine lv_goto (tgt := 17) hx hb dX3_count_89 (by decide) ?_
                    rw [show r_X3_count S x (q + 1) k z = r_X3_count S x q (k + 1) (z + 1) from by rw [r_X3_count, if_neg c_8, if_neg c_9, if_neg c_11, if_pos c_13]]
                    exact ih (k + 1) (z + 1) (by omega) ls (lv_sub hl [0, 1, 3, 4] rfl)
          · refine lv_aload_n hx hb dX3_count_30 rfl (lv_at hl 2 rfl) ?_
            refine lv_iload_n hx hb dX3_count_31 rfl (lv_at hl 0 rfl) ?_
            refine w_callV (As := [.int (nI k)]) (rest := []) (st := [.int (f_X3_dueNow S k)]) cx (c_X3_dueNow l G ad S hW (i := k) hk) k_583 cal_yX3_dueNow (ci := 3) rfl (hP _ _ cM_0) hP rfl ⟨Nat.le_of_ble_eq_true rfl, Nat.le_of_ble_eq_true rfl⟩ hl.1 (Nat.le_of_ble_eq_true rfl) ⟨Nat.zero_le _, Nat.zero_le _⟩ rfl rfl dX3_count_32 ?_
            refine lv_goto (tgt := 71) hx hb dX3_count_35 (by decide) ?_
            refine lv_istore (lv' := [(4, .int (f_X3_dueNow S k)), (3, .int (nI k)), (2, .int z), (0, .ref (ad 0)), (1, .int x)]) hx hb dX3_count_71 hl (by decide) rfl (fun ls hl => ?_)
            refine lv_iload_n hx hb dX3_count_73 rfl (lv_at hl 2 rfl) ?_
            refine lv_iload hx hb dX3_count_74 (lv_at hl 0 rfl) ?_
            refine lv_if_eq (tgt := 83) hx hb dX3_count_76 (by decide) (fun c_16 => ?_) (fun c_16 => ?_)
            · refine lv_iconst (v := 0) hx hb dX3_count_83 (by decide) ?_
              refine lv_iadd hx hb dX3_count_84 ?_
              refine lv_istore_n (lv' := [(2, .int (z + 0)), (4, .int (f_X3_dueNow S k)), (3, .int (nI k)), (0, .ref (ad 0)), (1, .int x)]) hx hb dX3_count_85 rfl hl (by decide) rfl (fun ls hl => ?_)
              refine lv_iinc (v := nI (k + 1)) (lv' := [(3, .int (nI (k + 1))), (2, .int (z + 0)), (4, .int (f_X3_dueNow S k)), (0, .ref (ad 0)), (1, .int x)]) hx hb dX3_count_86 hl (k := 2) rfl (by rw [nI_succ]; rfl) (by decide) rfl (fun ls hl => ?_)
              refine lv_goto (tgt := 17) hx hb dX3_count_89 (by decide) ?_
              rw [show r_X3_count S x (q + 1) k z = r_X3_count S x q (k + 1) (z + 0) from by rw [r_X3_count, if_pos c_8, if_pos c_16]]
              exact ih (k + 1) (z + 0) (by omega) ls (lv_sub hl [0, 1, 3, 4] rfl)
            · refine lv_iconst (v := 1) hx hb dX3_count_79 (by decide) ?_
              refine lv_goto (tgt := 84) hx hb dX3_count_80 (by decide) ?_
              refine lv_iadd hx hb dX3_count_84 ?_
              refine lv_istore_n (lv' := [(2, .int (z + 1)), (4, .int (f_X3_dueNow S k)), (3, .int (nI k)), (0, .ref (ad 0)), (1, .int x)]) hx hb dX3_count_85 rfl hl (by decide) rfl (fun ls hl => ?_)
              refine lv_iinc (v := nI (k + 1)) (lv' := [(3, .int (nI (k + 1))), (2, .int (z + 1)), (4, .int (f_X3_dueNow S k)), (0, .ref (ad 0)), (1, .int x)]) hx hb dX3_count_86 hl (k := 2) rfl (by rw [nI_succ]; rfl) (by decide) rfl (fun ls hl => ?_)
              refine lv_goto (tgt := 17) hx hb dX3_count_89 (by decide) ?_
              rw [show r_X3_count S x (q + 1) k z = r_X3_count S x q (k + 1) (z + 1) from by rw [r_X3_count, if_pos c_8, if_neg c_16]]
              exact ih (k + 1) (z + 1) (by omega) ls (lv_sub hl [0, 1, 3, 4] rfl)
    exact lp (nt S) 0 0 (Nat.zero_add _) ls hl
  · refine lv_bipush (v := -2) hx hb dX3_count_10 (by decide) ?_
    exact r_int cx hr hlk (by rw [f_X3_count, if_pos c_1]) dX3_count_12
def a_X3_first (S : St) (k : Nat) : Nat → Int32
  | 0 => 0
  | j + 1 => if f_X3_isTool S j = 0 then (a_X3_first S k j) + 0
    else if f_X3_isTool S k = 0 then (a_X3_first S k j) + 0
    else if nI j = nI k then (a_X3_first S k j) + 0
    else if f_X3_isAhead S j k = 0 then (a_X3_first S k j) + 0
    else (a_X3_first S k j) + 1
def r_X3_first (S : St) (x : Int32) : Nat → Nat → Int32
  | 0, k => (-1000000)
  | q + 1, k => if f_X3_isTool S k = 0 then r_X3_first S x q (k + 1)
    else if a_X3_first S k (nt S) = x then nI k
    else r_X3_first S x q (k + 1)
def f_X3_first (S : St) (x : Int32) : Int32 :=
  r_X3_first S x (nt S) 0
set_option maxRecDepth 20000 in
theorem c_X3_first (l : Launch) (G : GG) (ad : Nat → Nat) (S : St) (hW : WF S) (x : Int32) : MR l yX3_first cX3_first 5 (some .int) 3 66 G ad (cM G ad S) [.ref (ad 0), .int x] (some (.int (f_X3_first S x))) := by
  refine MR.of [(0, .ref (ad 0)), (1, .int x)] (by decide) (Nat.le_of_ble_eq_true rfl) rfl ?_
  intro p e s m args below meth c cx hr hlk hP ls hl
  have hx := cx.1.1
  have hb := cx.1.2.1
  refine lv_iconst (v := 0) hx hb dX3_first_0 (by decide) ?_
  refine lv_istore_n (lv' := [(2, .int 0), (0, .ref (ad 0)), (1, .int x)]) hx hb dX3_first_1 rfl hl (by decide) rfl (fun ls hl => ?_)
  rw [show f_X3_first S x = r_X3_first S x (nt S) 0 from by rw [f_X3_first]]
  have lp : ∀ (q k : Nat), k + q = nt S → ∀ ls : Array Slot, lv_has ls 5 [(2, .int (nI k)), (0, .ref (ad 0)), (1, .int x)] → W p l e (rmM 3 66 0 0) s m args below meth c s.heap [] 0 0 (MQ below (Rd (some (.int (r_X3_first S x q k)))) args s 0 0 (fun _ => False)) (F0 m 2 ls []) := by
    intro q
    induction q with
    | zero =>
      intro k hk ls hl
      have hk2 : k = nt S := by omega
      subst hk2
      refine lv_iload_n hx hb dX3_first_2 rfl (lv_at hl 0 rfl) ?_
      refine lv_aload_n hx hb dX3_first_3 rfl (lv_at hl 1 rfl) ?_
      refine w_get cx (ci := 3) rfl iX3 (hP _ _ cM_0) 1 (by decide) k_452 (v := .int (nI (nt S))) rfl dX3_first_4 ?_
      refine lv_icmp_ge (tgt := 92) hx hb dX3_first_7 (by decide) (fun c_1 => ?_) (fun c_1 => ?_)
      · refine w_ldc cx k_548 dX3_first_92 ?_
        exact r_int cx hr hlk (by rw [r_X3_first]) dX3_first_94
      · exact absurd (Int32.le_refl _) c_1
    | succ q ih =>
      intro k hk1 ls hl
      have hk : k < nt S := by omega
      refine lv_iload_n hx hb dX3_first_2 rfl (lv_at hl 0 rfl) ?_
      refine lv_aload_n hx hb dX3_first_3 rfl (lv_at hl 1 rfl) ?_
      refine w_get cx (ci := 3) rfl iX3 (hP _ _ cM_0) 1 (by decide) k_452 (v := .int (nI (nt S))) rfl dX3_first_4 ?_
      refine lv_icmp_ge (tgt := 92) hx hb dX3_first_7 (by decide) (fun c_2 => ?_) (fun c_2 => ?_)
      · exact absurd c_2 (nI_ge (b := nt S) hk (Nat.lt_of_le_of_lt hW.t (by decide)))
      · refine lv_iconst (v := 0) hx hb dX3_first_10 (by decide) ?_
        refine lv_istore_n (lv' := [(3, .int 0), (2, .int (nI k)), (0, .ref (ad 0)), (1, .int x)]) hx hb dX3_first_11 rfl hl (by decide) rfl (fun ls hl => ?_)
        refine lv_iconst (v := 0) hx hb dX3_first_12 (by decide) ?_
        refine lv_istore (lv' := [(4, .int 0), (3, .int 0), (2, .int (nI k)), (0, .ref (ad 0)), (1, .int x)]) hx hb dX3_first_13 hl (by decide) rfl (fun ls hl => ?_)
        have lp2 : ∀ (u j : Nat), j + u = nt S → ∀ ls : Array Slot, lv_has ls 5 [(4, .int (nI j)), (3, .int (a_X3_first S k j)), (2, .int (nI k)), (0, .ref (ad 0)), (1, .int x)] → W p l e (rmM 3 66 0 0) s m args below meth c s.heap [] 0 0 (MQ below (Rd (some (.int (r_X3_first S x (q + 1) k)))) args s 0 0 (fun _ => False)) (F0 m 15 ls []) := by
          intro u
          induction u with
          | zero =>
            intro j hj ls hl
            have hj2 : j = nt S := by omega
            subst hj2
            refine lv_iload hx hb dX3_first_15 (lv_at hl 0 rfl) ?_
            refine lv_aload_n hx hb dX3_first_17 rfl (lv_at hl 3 rfl) ?_
            refine w_get cx (ci := 3) rfl iX3 (hP _ _ cM_0) 1 (by decide) k_452 (v := .int (nI (nt S))) rfl dX3_first_18 ?_
            refine lv_icmp_ge (tgt := 71) hx hb dX3_first_21 (by decide) (fun c_3 => ?_) (fun c_3 => ?_)
            · refine lv_aload_n hx hb dX3_first_71 rfl (lv_at hl 3 rfl) ?_
              refine lv_iload_n hx hb dX3_first_72 rfl (lv_at hl 2 rfl) ?_
              refine w_callV (As := [.int (nI k)]) (rest := []) (st := [.int (f_X3_isTool S k)]) cx (c_X3_isTool l G ad S hW (i := k) hk) k_571 cal_yX3_isTool (ci := 3) rfl (hP _ _ cM_0) hP rfl ⟨Nat.le_of_ble_eq_true rfl, Nat.le_of_ble_eq_true rfl⟩ hl.1 (Nat.le_of_ble_eq_true rfl) ⟨Nat.zero_le _, Nat.zero_le _⟩ rfl rfl dX3_first_73 ?_
              refine lv_if_eq (tgt := 86) hx hb dX3_first_76 (by decide) (fun c_4 => ?_) (fun c_4 => ?_)
              · refine lv_iinc (v := nI (k + 1)) (lv' := [(2, .int (nI (k + 1))), (4, .int (nI (nt S))), (3, .int (a_X3_first S k (nt S))), (0, .ref (ad 0)), (1, .int x)]) hx hb dX3_first_86 hl (k := 2) rfl (by rw [nI_succ]; rfl) (by decide) rfl (fun ls hl => ?_)
                refine lv_goto (tgt := 2) hx hb dX3_first_89 (by decide) ?_
                rw [show r_X3_first S x (q + 1) k = r_X3_first S x q (k + 1) from by rw [r_X3_first, if_pos c_4]]
                exact ih (k + 1) (by omega) ls (lv_sub hl [0, 3, 4] rfl)
              · refine lv_iload_n hx hb dX3_first_79 rfl (lv_at hl 1 rfl) ?_
                refine lv_iload_n hx hb dX3_first_80 rfl (lv_at hl 4 rfl) ?_
                refine lv_icmp_ne (tgt := 86) hx hb dX3_first_81 (by decide) (fun c_5 => ?_) (fun c_5 => ?_)
                · refine lv_iinc (v := nI (k + 1)) (lv' := [(2, .int (nI (k + 1))), (4, .int (nI (nt S))), (3, .int (a_X3_first S k (nt S))), (0, .ref (ad 0)), (1, .int x)]) hx hb dX3_first_86 hl (k := 2) rfl (by rw [nI_succ]; rfl) (by decide) rfl (fun ls hl => ?_)
                  refine lv_goto (tgt := 2) hx hb dX3_first_89 (by decide) ?_
                  rw [show r_X3_first S x (q + 1) k = r_X3_first S x q (k + 1) from by rw [r_X3_first, if_neg c_4, if_neg c_5]]
                  exact ih (k + 1) (by omega) ls (lv_sub hl [0, 3, 4] rfl)
                · refine lv_iload_n hx hb dX3_first_84 rfl (lv_at hl 2 rfl) ?_
                  exact r_int cx hr hlk (by rw [r_X3_first, if_neg c_4, if_pos c_5]) dX3_first_85
            · exact absurd (Int32.le_refl _) c_3
          | succ u ih2 =>
            intro j hj1 ls hl
            have hj : j < nt S := by omega
            refine lv_iload hx hb dX3_first_15 (lv_at hl 0 rfl) ?_
            refine lv_aload_n hx hb dX3_first_17 rfl (lv_at hl 3 rfl) ?_
            refine w_get cx (ci := 3) rfl iX3 (hP _ _ cM_0) 1 (by decide) k_452 (v := .int (nI (nt S))) rfl dX3_first_18 ?_
            refine lv_icmp_ge (tgt := 71) hx hb dX3_first_21 (by decide) (fun c_6 => ?_) (fun c_6 => ?_)
            · exact absurd c_6 (nI_ge (b := nt S) hj (Nat.lt_of_le_of_lt hW.t (by decide)))
            · refine lv_iload_n hx hb dX3_first_24 rfl (lv_at hl 1 rfl) ?_
              refine lv_aload_n hx hb dX3_first_25 rfl (lv_at hl 3 rfl) ?_
              refine lv_iload hx hb dX3_first_26 (lv_at hl 0 rfl) ?_
              refine w_callV (As := [.int (nI j)]) (rest := [.int (a_X3_first S k j)]) (st := [.int (f_X3_isTool S j), .int (a_X3_first S k j)]) cx (c_X3_isTool l G ad S hW (i := j) hj) k_571 cal_yX3_isTool (ci := 3) rfl (hP _ _ cM_0) hP rfl ⟨Nat.le_of_ble_eq_true rfl, Nat.le_of_ble_eq_true rfl⟩ hl.1 (Nat.le_of_ble_eq_true rfl) ⟨Nat.zero_le _, Nat.zero_le _⟩ rfl rfl dX3_first_28 ?_
              refine lv_if_eq (tgt := 62) hx hb dX3_first_31 (by decide) (fun c_7 => ?_) (fun c_7 => ?_)
              · refine lv_iconst (v := 0) hx hb dX3_first_62 (by decide) ?_
                refine lv_iadd hx hb dX3_first_63 ?_
                refine lv_istore_n (lv' := [(3, .int ((a_X3_first S k j) + 0)), (4, .int (nI j)), (2, .int (nI k)), (0, .ref (ad 0)), (1, .int x)]) hx hb dX3_first_64 rfl hl (by decide) rfl (fun ls hl => ?_)
                refine lv_iinc (v := nI (j + 1)) (lv' := [(4, .int (nI (j + 1))), (3, .int ((a_X3_first S k j) + 0)), (2, .int (nI k)), (0, .ref (ad 0)), (1, .int x)]) hx hb dX3_first_65 hl (k := 1) rfl (by rw [nI_succ]; rfl) (by decide) rfl (fun ls hl => ?_)
                refine lv_goto (tgt := 15) hx hb dX3_first_68 (by decide) ?_
                exact ih2 (j + 1) (by omega) ls (by rw [show a_X3_first S k (j + 1) = (a_X3_first S k j) + 0 from by rw [a_X3_first, if_pos c_7]]; exact lv_sub hl [0, 1, 2, 3, 4] rfl)
              · refine lv_aload_n hx hb dX3_first_34 rfl (lv_at hl 3 rfl) ?_
                refine lv_iload_n hx hb dX3_first_35 rfl (lv_at hl 2 rfl) ?_
                refine w_callV (As := [.int (nI k)]) (rest := [.int (a_X3_first S k j)]) (st := [.int (f_X3_isTool S k), .int (a_X3_first S k j)]) cx (c_X3_isTool l G ad S hW (i := k) hk) k_571 cal_yX3_isTool (ci := 3) rfl (hP _ _ cM_0) hP rfl ⟨Nat.le_of_ble_eq_true rfl, Nat.le_of_ble_eq_true rfl⟩ hl.1 (Nat.le_of_ble_eq_true rfl) ⟨Nat.zero_le _, Nat.zero_le _⟩ rfl rfl dX3_first_36 ?_
                refine lv_if_eq (tgt := 62) hx hb dX3_first_39 (by decide) (fun c_8 => ?_) (fun c_8 => ?_)
                · refine lv_iconst (v := 0) hx hb dX3_first_62 (by decide) ?_
                  refine lv_iadd hx hb dX3_first_63 ?_
                  refine lv_istore_n (lv' := [(3, .int ((a_X3_first S k j) + 0)), (4, .int (nI j)), (2, .int (nI k)), (0, .ref (ad 0)), (1, .int x)]) hx hb dX3_first_64 rfl hl (by decide) rfl (fun ls hl => ?_)
                  refine lv_iinc (v := nI (j + 1)) (lv' := [(4, .int (nI (j + 1))), (3, .int ((a_X3_first S k j) + 0)), (2, .int (nI k)), (0, .ref (ad 0)), (1, .int x)]) hx hb dX3_first_65 hl (k := 1) rfl (by rw [nI_succ]; rfl) (by decide) rfl (fun ls hl => ?_)
                  refine lv_goto (tgt := 15) hx hb dX3_first_68 (by decide) ?_
                  exact ih2 (j + 1) (by omega) ls (by rw [show a_X3_first S k (j + 1) = (a_X3_first S k j) + 0 from by rw [a_X3_first, if_neg c_7, if_pos c_8]]; exact lv_sub hl [0, 1, 2, 3, 4] rfl)
                · refine lv_iload hx hb dX3_first_42 (lv_at hl 0 rfl) ?_
                  refine lv_iload_n hx hb dX3_first_44 rfl (lv_at hl 2 rfl) ?_
                  refine lv_icmp_eq (tgt := 62) hx hb dX3_first_45 (by decide) (fun c_9 => ?_) (fun c_9 => ?_)
                  · refine lv_iconst (v := 0) hx hb dX3_first_62 (by decide) ?_
                    refine lv_iadd hx hb dX3_first_63 ?_
                    refine lv_istore_n (lv' := [(3, .int ((a_X3_first S k j) + 0)), (4, .int (nI j)), (2, .int (nI k)), (0, .ref (ad 0)), (1, .int x)]) hx hb dX3_first_64 rfl hl (by decide) rfl (fun ls hl => ?_)
                    refine lv_iinc (v := nI (j + 1)) (lv' := [(4, .int (nI (j + 1))), (3, .int ((a_X3_first S k j) + 0)), (2, .int (nI k)), (0, .ref (ad 0)), (1, .int x)]) hx hb dX3_first_65 hl (k := 1) rfl (by rw [nI_succ]; rfl) (by decide) rfl (fun ls hl => ?_)
                    refine lv_goto (tgt := 15) hx hb dX3_first_68 (by decide) ?_
                    exact ih2 (j + 1) (by omega) ls (by rw [show a_X3_first S k (j + 1) = (a_X3_first S k j) + 0 from by rw [a_X3_first, if_neg c_7, if_neg c_8, if_pos c_9]]; exact lv_sub hl [0, 1, 2, 3, 4] rfl)
                  · refine lv_aload_n hx hb dX3_first_48 rfl (lv_at hl 3 rfl) ?_
                    refine lv_iload hx hb dX3_first_49 (lv_at hl 0 rfl) ?_
                    refine lv_iload_n hx hb dX3_first_51 rfl (lv_at hl 2 rfl) ?_
                    refine w_callV (As := [.int (nI j), .int (nI k)]) (rest := [.int (a_X3_first S k j)]) (st := [.int (f_X3_isAhead S j k), .int (a_X3_first S k j)]) cx (c_X3_isAhead l G ad S hW (i := j) hj (k := k) hk) k_676 cal_yX3_isAhead (ci := 3) rfl (hP _ _ cM_0) hP rfl ⟨Nat.le_of_ble_eq_true rfl, Nat.le_of_ble_eq_true rfl⟩ hl.1 (Nat.le_of_ble_eq_true rfl) ⟨Nat.zero_le _, Nat.zero_le _⟩ rfl rfl dX3_first_52 ?_
                    refine lv_if_eq (tgt := 62) hx hb dX3_first_55 (by decide) (fun c_10 => ?_) (fun c_10 => ?_)
                    · refine lv_iconst (v := 0) hx hb dX3_first_62 (by decide) ?_
                      refine lv_iadd hx hb dX3_first_63 ?_
                      refine lv_istore_n (lv' := [(3, .int ((a_X3_first S k j) + 0)), (4, .int (nI j)), (2, .int (nI k)), (0, .ref (ad 0)), (1, .int x)]) hx hb dX3_first_64 rfl hl (by decide) rfl (fun ls hl => ?_)
                      refine lv_iinc (v := nI (j + 1)) (lv' := [(4, .int (nI (j + 1))), (3, .int ((a_X3_first S k j) + 0)), (2, .int (nI k)), (0, .ref (ad 0)), (1, .int x)]) hx hb dX3_first_65 hl (k := 1) rfl (by rw [nI_succ]; rfl) (by decide) rfl (fun ls hl => ?_)
                      refine lv_goto (tgt := 15) hx hb dX3_first_68 (by decide) ?_
                      exact ih2 (j + 1) (by omega) ls (by rw [show a_X3_first S k (j + 1) = (a_X3_first S k j) + 0 from by rw [a_X3_first, if_neg c_7, if_neg c_8, if_neg c_9, if_pos c_10]]; exact lv_sub hl [0, 1, 2, 3, 4] rfl)
                    · refine lv_iconst (v := 1) hx hb dX3_first_58 (by decide) ?_
                      refine lv_goto (tgt := 63) hx hb dX3_first_59 (by decide) ?_
                      refine lv_iadd hx hb dX3_first_63 ?_
                      refine lv_istore_n (lv' := [(3, .int ((a_X3_first S k j) + 1)), (4, .int (nI j)), (2, .int (nI k)), (0, .ref (ad 0)), (1, .int x)]) hx hb dX3_first_64 rfl hl (by decide) rfl (fun ls hl => ?_)
                      refine lv_iinc (v := nI (j + 1)) (lv' := [(4, .int (nI (j + 1))), (3, .int ((a_X3_first S k j) + 1)), (2, .int (nI k)), (0, .ref (ad 0)), (1, .int x)]) hx hb dX3_first_65 hl (k := 1) rfl (by rw [nI_succ]; rfl) (by decide) rfl (fun ls hl => ?_)
                      refine lv_goto (tgt := 15) hx hb dX3_first_68 (by decide) ?_
                      exact ih2 (j + 1) (by omega) ls (by rw [show a_X3_first S k (j + 1) = (a_X3_first S k j) + 1 from by rw [a_X3_first, if_neg c_7, if_neg c_8, if_neg c_9, if_neg c_10]]; exact lv_sub hl [0, 1, 2, 3, 4] rfl)
        exact lp2 (nt S) 0 (Nat.zero_add _) ls (by rw [show a_X3_first S k 0 = 0 from by rw [a_X3_first]]; exact hl)
  exact lp (nt S) 0 (Nat.zero_add _) ls hl
end
section
-- worlds that change: the cells of a picture and no others
def pw (G : GG) (A : Nat → Prop) (ad : Nat → Nat) (C : Nat → Option va_E) (H : Heap) : Prop :=
  ∃ ws : va_W, va_P G.1 classes ws H ∧ va_D A ws ∧ (∀ (i : Nat) (e : va_E), C i = some e → ∃ k : Nat, ws[k]? = some (ad i, e)) ∧ (∀ (k : Nat) (q : Nat × va_E), ws[k]? = some q → ∃ i : Nat, C i = some q.2 ∧ ad i = q.1) ∧ ∀ (i j : Nat) (e f : va_E), C i = some e → C j = some f → ad i = ad j → i = j
def adom (ad : Nat → Nat) (C : Nat → Option va_E) (sz : Nat) : Nat → Prop := fun q => (∃ (i : Nat) (e : va_E), C i = some e ∧ q = ad i) ∨ sz ≤ q
theorem pw.pa {G : GG} {A : Nat → Prop} {ad : Nat → Nat} {C : Nat → Option va_E} {H : Heap} (h : pw G A ad C H) : pa G ad C H := by
  obtain ⟨ws, hP, -, h1, -⟩ := h
  intro i e he
  obtain ⟨k, hk⟩ := h1 i e he
  exact hP k _ hk
theorem pw.inj {G : GG} {A : Nat → Prop} {ad : Nat → Nat} {C : Nat → Option va_E} {H : Heap} (h : pw G A ad C H) : ∀ (i j : Nat) (e f : va_E), C i = some e → C j = some f → ad i = ad j → i = j := by
  obtain ⟨ws, -, -, -, -, h3⟩ := h
  exact h3
theorem pw.inA {G : GG} {A : Nat → Prop} {ad : Nat → Nat} {C : Nat → Option va_E} {H : Heap} (h : pw G A ad C H) {i : Nat} {e : va_E} (he : C i = some e) : A (ad i) := by
  obtain ⟨ws, hP, hD, h1, -⟩ := h
  obtain ⟨k, hk⟩ := h1 i e he
  exact hD.2 k _ hk
theorem pw.weaken {G : GG} {A B : Nat → Prop} {ad : Nat → Nat} {C : Nat → Option va_E} {H : Heap} (h : pw G A ad C H) (hB : ∀ (i : Nat) (e : va_E), C i = some e → B (ad i)) : pw G B ad C H := by
  obtain ⟨ws, hP, hD, h1, h2, h3⟩ := h
  refine ⟨ws, hP, hD.weaken (fun k q hk _ => ?_), h1, h2, h3⟩
  obtain ⟨i, hi, e⟩ := h2 k q hk
  rw [← e]; exact hB i _ hi
theorem pw.self {G : GG} {A : Nat → Prop} {ad : Nat → Nat} {C : Nat → Option va_E} {H : Heap} {sz : Nat} (h : pw G A ad C H) : pw G (adom ad C sz) ad C H := h.weaken (fun i e he => Or.inl ⟨i, e, he, rfl⟩)
theorem pw.eq {G : GG} {A : Nat → Prop} {ad : Nat → Nat} {C C' : Nat → Option va_E} {H : Heap} (h : pw G A ad C H) (e : ∀ i, C i = C' i) : pw G A ad C' H := (funext e : C = C') ▸ h
theorem pw.lt {G : GG} {A : Nat → Prop} {ad : Nat → Nat} {C : Nat → Option va_E} {H : Heap} (h : pw G A ad C H) {i : Nat} {e : va_E} (he : C i = some e) : ad i < H.size := (h.pa i e he).lt
/-- other cells unchanged: the picture stays -/
theorem pw.kept {G : GG} {A : Nat → Prop} {ad : Nat → Nat} {C : Nat → Option va_E} {H H1 : Heap} (h : pw G A ad C H) (hq : ∀ (i : Nat) (e : va_E), C i = some e → H1[ad i]? = H[ad i]?) : pw G A ad C H1 := by
  obtain ⟨ws, hP, hD, h1, h2, h3⟩ := h
  refine ⟨ws, hP.kept (fun k q hk => ?_), hD, h1, h2, h3⟩
  obtain ⟨i, hi, e⟩ := h2 k q hk
  rw [← e]; exact hq i _ hi
theorem pw_set {G : GG} {A : Nat → Prop} {ad : Nat → Nat} {C : Nat → Option va_E} {H1 : Heap} {ws : va_W} {k i : Nat} {e0 e1 : va_E} (hD : va_D A ws) (h1 : ∀ (i : Nat) (e : va_E), C i = some e → ∃ k : Nat, ws[k]? = some (ad i, e)) (h2 : ∀ (k : Nat) (q : Nat × va_E), ws[k]? = some q → ∃ i : Nat, C i = some q.2 ∧ ad i = q.1) (h3 : ∀ (i j : Nat) (e f : va_E), C i = some e → C j = some f → ad i = ad j → i = j)
    (hi : C i = some e0) (hk : ws[k]? = some (ad i, e0)) (hP' : va_P G.1 classes (ws.set k (ad i, e1)) H1) (hD' : va_D A (ws.set k (ad i, e1))) : pw G A ad (va_up C i (some e1)) H1 := by
  have hkl : k < ws.length := (List.getElem?_eq_some_iff.mp hk).1
  refine ⟨_, hP', hD', fun j e he => ?_, fun k' q hq => ?_, fun a b e f ha hb hab => ?_⟩
  · by_cases hj : j = i
    · subst hj
      rw [va_up_self] at he
      cases he
      exact ⟨k, by rw [List.getElem?_set_self hkl]⟩
    · rw [va_up_ne _ _ hj] at he
      obtain ⟨k', hk'⟩ := h1 j e he
      refine ⟨k', ?_⟩
      rw [List.getElem?_set_ne (fun h => ?_)]
      · exact hk'
      · subst h
        rw [hk] at hk'
        exact hj (h3 j i _ _ he hi (congrArg Prod.fst (Option.some.inj hk')).symm)
  · by_cases hkk : k = k'
    · subst hkk
      rw [List.getElem?_set_self hkl] at hq
      cases hq
      exact ⟨i, by rw [va_up_self], rfl⟩
    · rw [List.getElem?_set_ne hkk] at hq
      obtain ⟨j, hj, ej⟩ := h2 k' q hq
      refine ⟨j, ?_, ej⟩
      rw [va_up_ne]
      · exact hj
      · intro h
        subst h
        exact hkk (hD.1 k k' _ q hk hq ej)
  · have aux : ∀ (x : Nat) (g : va_E), va_up C i (some e1) x = some g → ∃ g', C x = some g' := fun x g hx => by
      by_cases h : x = i
      · subst h; exact ⟨_, hi⟩
      · rw [va_up_ne _ _ h] at hx; exact ⟨_, hx⟩
    obtain ⟨e', he'⟩ := aux a e ha
    obtain ⟨f', hf'⟩ := aux b f hb
    exact h3 a b _ _ he' hf' hab
theorem pw_add {G : GG} {A : Nat → Prop} {ad : Nat → Nat} {C : Nat → Option va_E} {H H1 : Heap} {ws : va_W} {i q : Nat} {e1 : va_E} (h1 : ∀ (i : Nat) (e : va_E), C i = some e → ∃ k : Nat, ws[k]? = some (ad i, e)) (h2 : ∀ (k : Nat) (q : Nat × va_E), ws[k]? = some q → ∃ i : Nat, C i = some q.2 ∧ ad i = q.1) (h3 : ∀ (i j : Nat) (e f : va_E), C i = some e → C j = some f → ad i = ad j → i = j)
    (hi : C i = none) (hP' : va_P G.1 classes (ws ++ [(q, e1)]) H1) (hD' : va_D A (ws ++ [(q, e1)])) : pw G A (va_up ad i q) (va_up C i (some e1)) H1 := by
  have old : ∀ (j : Nat) (e : va_E), C j = some e → j ≠ i := fun j e he h => by subst h; rw [hi] at he; cases he
  have ne : ∀ (j : Nat) (e : va_E), C j = some e → ad j ≠ q := fun j e he h => by
    obtain ⟨k, hk⟩ := h1 j e he
    have hkl : k < ws.length := (List.getElem?_eq_some_iff.mp hk).1
    have ea : (ws ++ [(q, e1)])[k]? = some (ad j, e) := by rw [List.getElem?_append_left hkl]; exact hk
    have eb : (ws ++ [(q, e1)])[ws.length]? = some (q, e1) := by rw [List.getElem?_append_right (Nat.le_refl _), Nat.sub_self]; rfl
    have := hD'.1 k ws.length _ _ ea eb h
    omega
  refine ⟨_, hP', hD', fun j e he => ?_, fun k' p hp => ?_, fun a b e f ha hb hab => ?_⟩
  · by_cases hj : j = i
    · subst hj
      rw [va_up_self] at he ⊢
      cases he
      exact ⟨ws.length, by rw [List.getElem?_append_right (Nat.le_refl _), Nat.sub_self]; rfl⟩
    · rw [va_up_ne _ _ hj] at he ⊢
      obtain ⟨k', hk'⟩ := h1 j e he
      exact ⟨k', by rw [List.getElem?_append_left (List.getElem?_eq_some_iff.mp hk').1]; exact hk'⟩
  · by_cases hl : k' < ws.length
    · rw [List.getElem?_append_left hl] at hp
      obtain ⟨j, hj, ej⟩ := h2 k' p hp
      exact ⟨j, by rw [va_up_ne _ _ (old j _ hj)]; exact hj, by rw [va_up_ne _ _ (old j _ hj)]; exact ej⟩
    · rw [List.getElem?_append_right (by omega)] at hp
      have hz : k' - ws.length = 0 := by
        rcases Nat.eq_zero_or_pos (k' - ws.length) with h | h
        · exact h
        · rw [List.getElem?_eq_none (by simp; omega)] at hp; cases hp
      rw [hz] at hp
      cases hp
      exact ⟨i, by rw [va_up_self], by rw [va_up_self]⟩
  · by_cases hai : a = i
    · by_cases hbi : b = i
      · rw [hai, hbi]
      · rw [va_up_ne _ _ hbi] at hb
        rw [hai, va_up_self, va_up_ne _ _ hbi] at hab
        exact absurd hab.symm (ne b _ hb)
    · rw [va_up_ne _ _ hai] at ha
      by_cases hbi : b = i
      · rw [hbi, va_up_self, va_up_ne _ _ hai] at hab
        exact absurd hab (ne a _ ha)
      · rw [va_up_ne _ _ hbi] at hb
        rw [va_up_ne _ _ hai, va_up_ne _ _ hbi] at hab
        exact h3 a b _ _ ha hb hab
-- contracts of what changes
def Qw (v : Option Value) (G : GG) (A : Nat → Prop) (B : (Nat → Nat) → Heap → Prop) : Array Value → State → Outcome → State → Prop := fun _ st o t => o = .returned v ∧ (∃ ad' : Nat → Nat, B ad' t.heap) ∧ va_F A st t
def MW (l : Launch) (y : MethodName) (b : ByteArray) (n : Nat) (r : Option FieldType) (f lo mc ms : Nat) (G : GG) (ad : Nat → Nat) (C : Nat → Option va_E) (av : List Value) (v : Option Value) (C' : (Nat → Nat) → (Nat → Option va_E)) (X : (Nat → Nat) → Prop) : Prop :=
  ∀ sz : Nat, Met l y (wsM y b n r) (rmM f lo mc ms) (va_Pc av (fun U => U.heap.size = sz ∧ pw G (fun _ => True) ad C U.heap ∧ kx G U)) (Qw v G (adom ad C sz) (fun ad' H => X ad' ∧ pw G (adom ad C sz) ad' (C' ad') H)) mc ms (adom ad C sz)
theorem MW.of {l : Launch} {y : MethodName} {b : ByteArray} {n : Nat} {r : Option FieldType} {f lo mc ms : Nat} {G : GG} {ad : Nat → Nat} {C : Nat → Option va_E} {av : List Value} {v : Option Value} {C' : (Nat → Nat) → (Nat → Option va_E)} {X : (Nat → Nat) → Prop} (lv : List (Nat × Value)) (hy : plainName y.cls = true) (hn : (lg_sl av).length ≤ n) (hlv : lv_args 0 av = lv)
    (body : ∀ (p : Program) (e : Env) (s : State) (m : MethodId) (args : Array Value) (below : List Frame) (meth : Method) (c : Code) (A : Nat → Prop), Cx p s m args c b n y.cls G → meth.sig.returnType = r → meth.locks = false → meth.name = y.name → (∀ q, s.heap.size ≤ q → A q) → pw G A ad C s.heap → ∀ ls : Array Slot, lv_has ls n lv →
      W p l e (rmM f lo mc ms) s m args below meth c s.heap [] 0 0 (MQ below (Qw v G A (fun ad' H => X ad' ∧ pw G A ad' (C' ad') H)) args s mc ms A) (F0 m 0 ls [])) : MW l y b n r f lo mc ms G ad C av v C' X := by
  intro sz
  refine Met.ofW (cc := b) (maxL := n) (ret := r) hy rfl ?_
  intro p e s m args below meth c s₁ B hml hv
  obtain ⟨rfl, hsz, hP, hK⟩ := hv
  subst hsz
  have hts : ∀ w ∈ lw_use, w.before av.toArray s = true := fun w hw => atoms_spec (ws := wsM y b n r) B.pre w (List.mem_cons_of_mem _ hw)
  rw [lg_entry_eq]
  exact body p e s m av.toArray below meth c _ ⟨⟨B.exec, B.bytes, hml, findClass_of_methodNamed B.named, hts⟩, hK⟩ B.returns B.notSynchronized (name_of_methodNamed B.named B.method).1 (fun q h => Or.inr h) hP.self _ (lv_entry0 av hn hlv)
section MB
variable {p : Program} {l : Launch} {e : Env} {R : Room} {s : State} {m : MethodId} {args : Array Value} {below : List Frame} {meth : Method} {c : Code} {H H0 : Heap} {locs : List Loc} {cells slots : Nat} {Q : State → Prop}
variable {cc : ByteArray} {pc nL idx : Nat} {ls : Array Slot} {rest : List Value} {own : String} {G : GG} {A : Nat → Prop} {ad : Nat → Nat} {C : Nat → Option va_E}
theorem w_nrm {x y : Int32} (h : x = y) (k : W p l e R s m args below meth c H locs cells slots Q (F0 m pc ls (.int y :: rest))) : W p l e R s m args below meth c H locs cells slots Q (F0 m pc ls (.int x :: rest)) := h ▸ k
theorem w_wr {v : Option Value} {st0 : List Value} {aa : Array Value} {mc ms : Nat} {B : (Nat → Nat) → Heap → Prop} {A1 : Nat → Prop} (hr : va_Run p l e R s m args below meth c H locs cells slots mc ms (F0 m pc ls st0) rest (Qw v G A1 B aa) A1) (hS : va_S A H0 H locs) (hA : ∀ q, A1 q → A q) {st : List Value} (hst : v.toList ++ rest = st)
    (kk : ∀ (ad' : Nat → Nat) (H1 : Heap) (locs1 : List Loc), B ad' H1 → H.size ≤ H1.size → (∀ q : Nat, q < H.size → ¬ A1 q → H1[q]? = H[q]?) → va_S A H0 H1 locs1 → W p l e R s m args below meth c H1 locs1 (cells + mc) (slots + ms) Q (F0 m (pc + 3) ls st)) : W p l e R s m args below meth c H locs cells slots Q (F0 m pc ls st0) := by
  subst hst
  intro T hT X
  obtain ⟨v', st₀, t, T', L, h0, X', hL, e1, e2, ⟨hv, ⟨ad', hB⟩, hz, hk⟩, st⟩ := hr T hT X
  cases hv
  rw [h0] at hz hk
  obtain ⟨t2, a1, b1⟩ := kk ad' T'.heap (locs ++ L) (by rw [e1]; exact hB) (by rw [e1]; exact hz) (fun q h1 h2 => by rw [e1]; exact hk q h1 h2)
    ⟨Nat.le_trans hS.1 (by rw [e1]; exact hz), fun q h1 h2 => by rw [e1, hk q (Nat.lt_of_lt_of_le h1 hS.1) (fun z => h2 (hA q z))]; exact hS.2.1 q h1 h2, fun q hq => by
      rcases List.mem_append.mp hq with h | h
      · exact hS.2.2 q h
      · exact hA _ (hL q h)⟩ T' rfl X'
  exact ⟨t2, st t2 a1, b1⟩
theorem adom_in {H0 : Heap} (hP : pw G A ad C H) (hS : va_S A H0 H locs) (hA : ∀ q, H0.size ≤ q → A q) : ∀ q, adom ad C H.size q → A q := fun q h => by
  rcases h with ⟨i, e, he, rfl⟩ | h
  · exact hP.inA he
  · exact hA q (Nat.le_trans hS.1 h)
theorem w_callVW {y : MethodName} {b : ByteArray} {n : Nat} {r : Option FieldType} {f lo mc ms : Nat} {As : List Value} {v : Option Value} {C' : (Nat → Nat) → (Nat → Option va_E)} {X : (Nat → Nat) → Prop} {Cn : String} {k ci N a : Nat} {T : u_T} {fs : List Value} (cx : Cx p s m args c cc nL own G) (hM : MW l y b n r f lo mc ms G ad C (.ref a :: As) v C' X) (lk : (.methodLink own idx y : Cond) ∈ lw_use) (cal : CalV y b n r Cn k) (hc : classes[ci]? = some (Cn, T, N)) (ha : va_at G.1 classes (a, .inr (ci, fs)) H) (hP : pw G A ad C H) (hS : va_S A H0 H locs) (hA : ∀ q, H0.size ≤ q → A q) (hk : As.length = k)
    (hR : f + 1 ≤ R.frames ∧ 8 + (n + 11) + lo ≤ R.locals) (hls : ls.size = nL) (hro : (rest.map fun v => v.category).sum ≤ 8) (hf : cells + mc ≤ R.cells ∧ slots + ms ≤ R.slots) {st0 st : List Value} (hst0 : st0 = As.reverse ++ .ref a :: rest) (hst : v.toList ++ rest = st) (hdg : decode cc pc = .ok (.invokevirtual idx, 3))
    (kk : ∀ (ad' : Nat → Nat) (H1 : Heap) (locs1 : List Loc), X ad' → pw G A ad' (C' ad') H1 → H.size ≤ H1.size → (∀ q : Nat, q < H.size → ¬ adom ad C H.size q → H1[q]? = H[q]?) → va_S A H0 H1 locs1 → W p l e R s m args below meth c H1 locs1 (cells + mc) (slots + ms) Q (F0 m (pc + 3) ls st)) : W p l e R s m args below meth c H locs cells slots Q (F0 m pc ls st0) := by
  obtain ⟨h1, h2, h3, h4, h5⟩ := cal
  refine w_wr (va_runV (C := Cn) (b := a) (As := As) (rest := rest) (n := k) (bytes := b) (maxL := n) (ret := r) cx.1 (hM H.size) (cwV k cx.1.2.2.2.2 (good_cons lk (good_cons h1 (good_cons h2 (good_cons h3 (lw_use_cons h4))))) rfl rfl rfl h5 hR) ⟨fun _ _ _ _ q => ⟨q.1, q.2.1, q.2.2.1, q.2.2.2.calling⟩, va_recv (ws := [(a, .inr (ci, fs))]) (q0 := 0) cx.2.1 (w_one ha) hc rfl, fun U hU hW => ⟨rfl, by rw [hU], by rw [hU]; exact hP.weaken (fun _ _ _ => trivial), cx.2.warm hW⟩⟩ rfl hk hls hst0 (lv_room hro) hdg hf) hS (adom_in hP hS hA) hst (fun ad' H1 locs1 hB hz hq hS1 => kk ad' H1 locs1 hB.1 (hB.2.weaken (fun i e he => adom_in hP hS hA _ (hB.2.inA he))) hz hq hS1)
theorem w_callI {y : MethodName} {b : ByteArray} {n : Nat} {f lo mc ms : Nat} {As : List Value} {C' : (Nat → Nat) → (Nat → Option va_E)} {X : (Nat → Nat) → Prop} {k a : Nat} (cx : Cx p s m args c cc nL own G) (hM : MW l y b n none f lo mc ms G ad C (.ref a :: As) none C' X) (lk : (.methodLink own idx y : Cond) ∈ lw_use) (cal : CalI y b n k) (hP : pw G A ad C H) (hS : va_S A H0 H locs) (hA : ∀ q, H0.size ≤ q → A q) (hk : As.length = k)
    (hR : f + 1 ≤ R.frames ∧ 8 + (n + 11) + lo ≤ R.locals) (hls : ls.size = nL) (hro : (rest.map fun v => v.category).sum ≤ 8) (hf : cells + mc ≤ R.cells ∧ slots + ms ≤ R.slots) {st0 : List Value} (hst0 : st0 = As.reverse ++ .ref a :: rest) (hdg : decode cc pc = .ok (.invokespecial idx, 3))
    (kk : ∀ (ad' : Nat → Nat) (H1 : Heap) (locs1 : List Loc), X ad' → pw G A ad' (C' ad') H1 → H.size ≤ H1.size → (∀ q : Nat, q < H.size → ¬ adom ad C H.size q → H1[q]? = H[q]?) → va_S A H0 H1 locs1 → W p l e R s m args below meth c H1 locs1 (cells + mc) (slots + ms) Q (F0 m (pc + 3) ls rest)) : W p l e R s m args below meth c H locs cells slots Q (F0 m pc ls st0) := by
  obtain ⟨h1, h2, h3, h4, h5⟩ := cal
  exact w_wr (va_runI (b := a) (As := As) (rest := rest) (n := k) (bytes := b) (maxL := n) cx.1 (hM H.size) (cwI k cx.1.2.2.2.2 (lw_use_cons h3) rfl rfl rfl (cx.1.2.2.2.2 _ h2) (cx.1.2.2.2.2 _ lk) (cx.1.2.2.2.2 _ h1) h4 h5 hR) ⟨fun _ _ _ _ q => ⟨q.1, q.2.1, q.2.2.1, q.2.2.2.calling⟩, fun U hU hW => ⟨rfl, by rw [hU], by rw [hU]; exact hP.weaken (fun _ _ _ => trivial), cx.2.warm hW⟩⟩ rfl hk hls hst0 (lv_room hro) hdg hf) hS (adom_in hP hS hA) rfl (fun ad' H1 locs1 hB hz hq hS1 => kk ad' H1 locs1 hB.1 (hB.2.weaken (fun i e he => adom_in hP hS hA _ (hB.2.inA he))) hz hq hS1)
theorem w_put {ci N i : Nat} {Cn : String} {T : u_T} {fs : List Value} {v : Value} {ty : FieldType} {ty0 : Nat → FieldType} (cx : Cx p s m args c cc nL own G) (hc : classes[ci]? = some (Cn, T, N)) (hin : ∀ w ∈ u_ws Cn T N, w ∈ lw_use) (hty : ∀ k, k < N → parseFieldDescriptor (T k).2.2.1 = some (ty0 k)) (hnm : ∀ a, a < N → ∀ b, b < N → a ≠ b → (T a).2.1 ≠ (T b).2.1) (hP : pw G A ad C H) (hS : va_S A H0 H locs) (hCi : C i = some (.inr (ci, fs))) (k : Nat) (hk : k < N) (lk : (.fieldLink own idx (T k).1 (T k).2.1 (T k).2.2.1 : Cond) ∈ lw_use) (hfin : (T k).2.2.2 = false) (hd : ty0 k = ty) (hn : narrow ty v = v) (hfit : fits ty v = true) (hl : k < fs.length) (hdg : decode cc pc = .ok (.putfield idx, 3))
    (kk : ∀ (H1 : Heap) (locs1 : List Loc), pw G A ad (va_up C i (some (.inr (ci, fs.set k v)))) H1 → va_S A H0 H1 locs1 → W p l e R s m args below meth c H1 locs1 cells slots Q (F0 m (pc + 3) ls rest)) : W p l e R s m args below meth c H locs cells slots Q (F0 m pc ls (v :: .ref (ad i) :: rest)) := by
  obtain ⟨ws, hP, hD, h1, h2, h3⟩ := hP
  obtain ⟨q0, hq0⟩ := h1 i _ hCi
  exact va_put cx.1.1 cx.1.2.1 cx.1.2.2.2.2 hin ty0 hty hnm cx.1.2.2.2.1 cx.2.1 hP hD hS q0 hq0 hc k hk (cx.1.2.2.2.2 _ lk) (fun _ h => h) hfin (by rw [hty k hk, hd]) hn hfit hl hdg (fun H1 locs1 hP' hD' hS' => kk H1 locs1 (pw_set hD h1 h2 h3 hCi hq0 hP' hD') hS')
theorem w_putF {ci N i : Nat} {Cn : String} {T : u_T} {fs : List Value} {v : Value} {ty : FieldType} {ty0 : Nat → FieldType} (cx : Cx p s m args c cc nL own G) (hc : classes[ci]? = some (Cn, T, N)) (hin : ∀ w ∈ u_ws Cn T N, w ∈ lw_use) (hty : ∀ k, k < N → parseFieldDescriptor (T k).2.2.1 = some (ty0 k)) (hnm : ∀ a, a < N → ∀ b, b < N → a ≠ b → (T a).2.1 ≠ (T b).2.1) (hP : pw G A ad C H) (hS : va_S A H0 H locs) (hCi : C i = some (.inr (ci, fs))) (k : Nat) (hk : k < N) (lk : (.fieldLink own idx (T k).1 (T k).2.1 (T k).2.2.1 : Cond) ∈ lw_use) (hfin : (T k).2.2.2 = true) (hin2 : meth.name = "<init>") (hdecl : (T k).1 = own) (hd : ty0 k = ty) (hn : narrow ty v = v) (hfit : fits ty v = true) (hl : k < fs.length) (hdg : decode cc pc = .ok (.putfield idx, 3))
    (kk : ∀ (H1 : Heap) (locs1 : List Loc), pw G A ad (va_up C i (some (.inr (ci, fs.set k v)))) H1 → va_S A H0 H1 locs1 → W p l e R s m args below meth c H1 locs1 cells slots Q (F0 m (pc + 3) ls rest)) : W p l e R s m args below meth c H locs cells slots Q (F0 m pc ls (v :: .ref (ad i) :: rest)) := by
  obtain ⟨ws, hP, hD, h1, h2, h3⟩ := hP
  obtain ⟨q0, hq0⟩ := h1 i _ hCi
  exact va_putF cx.1.1 cx.1.2.1 cx.1.2.2.2.2 hin ty0 hty hnm cx.1.2.2.2.1 cx.2.1 hP hD hS q0 hq0 hc k hk (cx.1.2.2.2.2 _ lk) (fun _ h => h) hfin hin2 hdecl (by rw [hty k hk, hd]) hn hfit hl hdg (fun H1 locs1 hP' hD' hS' => kk H1 locs1 (pw_set hD h1 h2 h3 hCi hq0 hP' hD') hS')
theorem w_iast {n i : Nat} {f : Nat → Int32} {x v : Int32} (cx : Cx p s m args c cc nL own G) (hP : pw G A ad C H) (hS : va_S A H0 H locs) (hCi : C i = some (.inl (gI G, n, .inl f))) (j : Nat) (hx : x = nI j) (hj : j < n) (hn : n < 2 ^ 31) (hdg : decode cc pc = .ok (.iastore, 1))
    (kk : ∀ (H1 : Heap) (locs1 : List Loc), pw G A ad (va_up C i (some (.inl (gI G, n, .inl (upd f j v))))) H1 → va_S A H0 H1 locs1 → W p l e R s m args below meth c H1 locs1 cells slots Q (F0 m (pc + 1) ls rest)) : W p l e R s m args below meth c H locs cells slots Q (F0 m pc ls (.int v :: .int x :: .ref (ad i) :: rest)) := by
  obtain ⟨ws, hP, hD, h1, h2, h3⟩ := hP
  obtain ⟨q0, hq0⟩ := h1 i _ hCi
  refine va_iast cx.1.1 cx.1.2.1 cx.2.1 hP hD hS q0 0 hq0 rfl (by rw [hx]; exact vp_in_nI hj hn) hdg (fun H1 locs1 hP' hD' hS' => kk H1 locs1 (pw_set hD h1 h2 h3 hCi hq0 (e1 := .inl (gI G, n, .inl (upd f j v))) ?_ ?_) hS')
  · rw [hx, nI_clamp (Nat.lt_trans hj hn)] at hP'; exact hP'
  · rw [hx, nI_clamp (Nat.lt_trans hj hn)] at hD'; exact hD'
theorem w_zast {n i : Nat} {f : Nat → Int32} {x v : Int32} (cx : Cx p s m args c cc nL own G) (hP : pw G A ad C H) (hS : va_S A H0 H locs) (hCi : C i = some (.inl (gZ G, n, .inl f))) (j : Nat) (hx : x = nI j) (hj : j < n) (hn : n < 2 ^ 31) (hv : v = 0 ∨ v = 1) (hdg : decode cc pc = .ok (.bastore, 1))
    (kk : ∀ (H1 : Heap) (locs1 : List Loc), pw G A ad (va_up C i (some (.inl (gZ G, n, .inl (upd f j v))))) H1 → va_S A H0 H1 locs1 → W p l e R s m args below meth c H1 locs1 cells slots Q (F0 m (pc + 1) ls rest)) : W p l e R s m args below meth c H locs cells slots Q (F0 m pc ls (.int v :: .int x :: .ref (ad i) :: rest)) := by
  obtain ⟨ws, hP, hD, h1, h2, h3⟩ := hP
  obtain ⟨q0, hq0⟩ := h1 i _ hCi
  have hv2 : vp_nar .boolean v = v := by rcases hv with h | h <;> subst h <;> decide
  refine va_zast cx.1.1 cx.1.2.1 cx.2.1 hP hD hS q0 2 hq0 rfl (by rw [hx]; exact vp_in_nI hj hn) hdg (fun H1 locs1 hP' hD' hS' => kk H1 locs1 (pw_set hD h1 h2 h3 hCi hq0 (e1 := .inl (gZ G, n, .inl (upd f j v))) ?_ ?_) hS')
  · rw [hx, nI_clamp (Nat.lt_trans hj hn), hv2] at hP'; exact hP'
  · rw [hx, nI_clamp (Nat.lt_trans hj hn), hv2] at hD'; exact hD'
theorem w_last {n i : Nat} {f : Nat → Int64} {x : Int32} {v : Int64} (cx : Cx p s m args c cc nL own G) (hP : pw G A ad C H) (hS : va_S A H0 H locs) (hCi : C i = some (.inl (gJ G, n, .inr (.inl f)))) (j : Nat) (hx : x = nI j) (hj : j < n) (hn : n < 2 ^ 31) (hdg : decode cc pc = .ok (.lastore, 1))
    (kk : ∀ (H1 : Heap) (locs1 : List Loc), pw G A ad (va_up C i (some (.inl (gJ G, n, .inr (.inl (vp_updL f j v)))))) H1 → va_S A H0 H1 locs1 → W p l e R s m args below meth c H1 locs1 cells slots Q (F0 m (pc + 1) ls rest)) : W p l e R s m args below meth c H locs cells slots Q (F0 m pc ls (.long v :: .int x :: .ref (ad i) :: rest)) := by
  obtain ⟨ws, hP, hD, h1, h2, h3⟩ := hP
  obtain ⟨q0, hq0⟩ := h1 i _ hCi
  refine va_last cx.1.1 cx.1.2.1 cx.2.1 hP hD hS q0 1 hq0 rfl (by rw [hx]; exact vp_in_nI hj hn) hdg (fun H1 locs1 hP' hD' hS' => kk H1 locs1 (pw_set hD h1 h2 h3 hCi hq0 (e1 := .inl (gJ G, n, .inr (.inl (vp_updL f j v)))) ?_ ?_) hS')
  · rw [hx, nI_clamp (Nat.lt_trans hj hn)] at hP'; exact hP'
  · rw [hx, nI_clamp (Nat.lt_trans hj hn)] at hD'; exact hD'
theorem x_int {v : Int32} {B : (Nat → Nat) → Heap → Prop} {ad' : Nat → Nat} (cx : Cx p s m args c cc nL own G) (hr : meth.sig.returnType = some .int) (hlocks : meth.locks = false) (hB : B ad' H) (hS : va_S A s.heap H locs) (hdg : decode cc pc = .ok (.ireturn, 1)) : W p l e R s m args below meth c H locs cells slots (MQ below (Qw (some (.int v)) G A B) args s cells slots A) (F0 m pc ls [.int v]) :=
  W.iret cx.1.1 cx.1.2.1 hr (fun t ht hW => ⟨rfl, ⟨ad', by rw [ht]; exact hB⟩, hS.F ht⟩) hS.2.2 hdg hlocks
theorem x_void {B : (Nat → Nat) → Heap → Prop} {ad' : Nat → Nat} (cx : Cx p s m args c cc nL own G) (hr : meth.sig.returnType = none) (hlocks : meth.locks = false) (hB : B ad' H) (hS : va_S A s.heap H locs) (hdg : decode cc pc = .ok (.return_, 1)) : W p l e R s m args below meth c H locs cells slots (MQ below (Qw none G A B) args s cells slots A) (F0 m pc ls []) :=
  W.vret cx.1.1 cx.1.2.1 hr (fun t ht hW => ⟨rfl, ⟨ad', by rw [ht]; exact hB⟩, hS.F ht⟩) hS.2.2 hdg hlocks
end MB
end
section
-- setters of the abstract state
def setS (S : St) (k : Nat) (v : Int32) : St := (S.1, S.2.1, upd S.2.2.1 k v, S.2.2.2.1, S.2.2.2.2)
def setA (S : St) (k i : Nat) (v : Int32) : St := (S.1, S.2.1, S.2.2.1, (fun a j => if a = k then upd (S.2.2.2.1 k) i v j else S.2.2.2.1 a j), S.2.2.2.2)
def setL (S : St) (i : Nat) (v : Int64) : St := (S.1, S.2.1, S.2.2.1, S.2.2.2.1, vp_updL S.2.2.2.2 i v)
def setT (S : St) (n : Nat) : St := (n, S.2.1, S.2.2.1, S.2.2.2.1, S.2.2.2.2)
def setR (S : St) (n : Nat) : St := (S.1, n, S.2.2.1, S.2.2.2.1, S.2.2.2.2)
theorem ar_setA (S : St) (k i : Nat) (v : Int32) (a j : Nat) : ar (setA S k i v) a j = if a = k then (if j = i then v else ar S a j) else ar S a j := by
  show (if a = k then upd (S.2.2.2.1 k) i v j else S.2.2.2.1 a j) = _
  by_cases h : a = k
  · subst h; rw [if_pos rfl, if_pos rfl]; rfl
  · rw [if_neg h, if_neg h]; rfl
theorem ar_same (S : St) (k i : Nat) (v : Int32) : ar (setA S k i v) k i = v := by rw [ar_setA, if_pos rfl, if_pos rfl]
theorem ar_diff (S : St) (k i : Nat) (v : Int32) {a : Nat} (h : a ≠ k) : ar (setA S k i v) a = ar S a := by funext j; rw [ar_setA, if_neg h]
theorem ar_upd (S : St) (k i : Nat) (v : Int32) : ar (setA S k i v) k = upd (ar S k) i v := by funext j; rw [ar_setA, if_pos rfl]; rfl
theorem WF.setA {S : St} (h : WF S) {k : Nat} (i : Nat) (v : Int32) (h0 : k ≠ 0) (h3 : k ≠ 3) (h5 : k ≠ 5) (h8 : k ≠ 8) : WF (setA S k i v) := by
  obtain ⟨a1, a2, a3, a5, a6, a7⟩ := h
  refine ⟨a1, a2, fun j hj hn => ?_, fun j hj => ?_, fun j hj => ?_, fun j hj => ?_⟩
  · rw [ar_diff S k i v (Ne.symm h5)] at hn ⊢; exact a3 j hj hn
  · rw [ar_diff S k i v (Ne.symm h0)]; exact a5 j hj
  · rw [ar_diff S k i v (Ne.symm h3)]; exact a6 j hj
  · rw [ar_diff S k i v (Ne.symm h8)]; exact a7 j hj
theorem WF.inc {S : St} (h : WF S) (hn : nr S < 300) : WF (setR S (nr S + 1)) := by
  obtain ⟨a1, a2, a3, a5, a6, a7⟩ := h
  exact ⟨a1, hn, fun j hj hx => ⟨(a3 j hj hx).1, Nat.lt_succ_of_lt (a3 j hj hx).2⟩, a5, a6, a7⟩
theorem WB.setA {S : St} (h : WB S) {k : Nat} (i : Nat) (v : Int32) (h20 : k ≠ 20) : WB (setA S k i v) := fun n hn hx => by
  rw [ar_diff S k i v (Ne.symm h20)] at hx ⊢; exact h n hn hx
theorem WF.same {S S' : St} (h : WF S) (h1 : nt S' = nt S) (h2 : nr S' = nr S) (h0 : ar S' 0 = ar S 0) (h3 : ar S' 3 = ar S 3) (h5 : ar S' 5 = ar S 5) (h8 : ar S' 8 = ar S 8) : WF S' := by
  unfold WF at *
  rw [h1, h2, h0, h3, h5, h8]; exact h
section MS
variable {p : Program} {l : Launch} {e : Env} {R : Room} {s : State} {m : MethodId} {args : Array Value} {below : List Frame} {meth : Method} {c : Code} {H H0 : Heap} {locs : List Loc} {cells slots : Nat} {Q : State → Prop}
variable {cc : ByteArray} {pc nL idx : Nat} {ls : Array Slot} {rest : List Value} {own : String} {G : GG} {A : Nat → Prop} {ad : Nat → Nat} {S : St}
theorem cM_setA (k j : Nat) (hk : k < 23) {n : Nat} {cl : ClassId} (hn : mlen k = n) (hc : mcls G k = cl) (v : Int32) : ∀ i, va_up (cM G ad S) (k + 1) (some (.inl (cl, n, .inl (upd (ar S k) j v)))) i = cM G ad (setA S k j v) i := by
  intro i
  by_cases hi : i = k + 1
  · subst hi
    rw [va_up_self, cM_A k hk hn hc, ar_upd]
  · rw [va_up_ne _ _ hi]
    unfold cM
    by_cases h0 : i = 0
    · rw [if_pos h0, if_pos h0]; rfl
    · rw [if_neg h0, if_neg h0, ar_diff S k j v (show i - 1 ≠ k by omega)]; rfl
theorem m_iast {n : Nat} {x v : Int32} (cx : Cx p s m args c cc nL own G) (hP : pw G A ad (cM G ad S) H) (hS : va_S A H0 H locs) (k : Nat) (hk : k < 23) (hm : mlen k = n) (hc : mcls G k = gI G) (j : Nat) (hx : x = nI j) (hj : j < n) (hn : n < 2 ^ 31) (hdg : decode cc pc = .ok (.iastore, 1))
    (kk : ∀ (H1 : Heap) (locs1 : List Loc), pw G A ad (cM G ad (setA S k j v)) H1 → va_S A H0 H1 locs1 → W p l e R s m args below meth c H1 locs1 cells slots Q (F0 m (pc + 1) ls rest)) : W p l e R s m args below meth c H locs cells slots Q (F0 m pc ls (.int v :: .int x :: .ref (ad (k + 1)) :: rest)) :=
  w_iast cx hP hS (cM_A k hk hm hc) j hx hj hn hdg (fun H1 locs1 h1 h2 => kk H1 locs1 (h1.eq (cM_setA k j hk hm hc v)) h2)
theorem m_zast {n : Nat} {x v : Int32} (cx : Cx p s m args c cc nL own G) (hP : pw G A ad (cM G ad S) H) (hS : va_S A H0 H locs) (k : Nat) (hk : k < 23) (hm : mlen k = n) (hc : mcls G k = gZ G) (j : Nat) (hx : x = nI j) (hj : j < n) (hn : n < 2 ^ 31) (hv : v = 0 ∨ v = 1) (hdg : decode cc pc = .ok (.bastore, 1))
    (kk : ∀ (H1 : Heap) (locs1 : List Loc), pw G A ad (cM G ad (setA S k j v)) H1 → va_S A H0 H1 locs1 → W p l e R s m args below meth c H1 locs1 cells slots Q (F0 m (pc + 1) ls rest)) : W p l e R s m args below meth c H locs cells slots Q (F0 m pc ls (.int v :: .int x :: .ref (ad (k + 1)) :: rest)) :=
  w_zast cx hP hS (cM_A k hk hm hc) j hx hj hn hv hdg (fun H1 locs1 h1 h2 => kk H1 locs1 (h1.eq (cM_setA k j hk hm hc v)) h2)
theorem m_last {x : Int32} {v : Int64} (cx : Cx p s m args c cc nL own G) (hP : pw G A ad (cM G ad S) H) (hS : va_S A H0 H locs) (j : Nat) (hx : x = nI j) (hj : j < 10) (hdg : decode cc pc = .ok (.lastore, 1))
    (kk : ∀ (H1 : Heap) (locs1 : List Loc), pw G A ad (cM G ad (setL S j v)) H1 → va_S A H0 H1 locs1 → W p l e R s m args below meth c H1 locs1 cells slots Q (F0 m (pc + 1) ls rest)) : W p l e R s m args below meth c H locs cells slots Q (F0 m pc ls (.long v :: .int x :: .ref (ad 24) :: rest)) := by
  refine w_last cx hP hS cM_L j hx hj (by decide) hdg (fun H1 locs1 h1 h2 => kk H1 locs1 (h1.eq (fun i => ?_)) h2)
  by_cases hi : i = 24
  · subst hi; rw [va_up_self]; rfl
  · rw [va_up_ne _ _ hi]
    unfold cM
    by_cases h0 : i = 0
    · rw [if_pos h0, if_pos h0]; rfl
    · rw [if_neg h0, if_neg h0, if_neg hi, if_neg hi]; rfl
theorem m_put (cx : Cx p s m args c cc nL own G) (S' : St) (hP : pw G A ad (cM G ad S) H) (hS : va_S A H0 H locs) (k : Nat) (hk : k < 28) {x : Int32} (lk : (.fieldLink own idx (TX3 k).1 (TX3 k).2.1 (TX3 k).2.2.1 : Cond) ∈ lw_use) (hfin : (TX3 k).2.2.2 = false) (hd : tyX3 k = .int) (hl : k < 28) (he : (Sum.inr (3, ([.int (sc S 0), .int (nI (nt S)), .ref (ad 1), .ref (ad 2), .ref (ad 3), .ref (ad 4), .ref (ad 5), .ref (ad 6), .ref (ad 7), .ref (ad 8), .ref (ad 9), .ref (ad 10), .ref (ad 11), .ref (ad 12), .ref (ad 13), .int (nI (nr S)), .ref (ad 14), .ref (ad 15), .ref (ad 16), .ref (ad 17), .ref (ad 18), .ref (ad 19), .ref (ad 20), .ref (ad 21), .ref (ad 22), .int (sc S 1), .ref (ad 23), .ref (ad 24)] : List Value).set k (.int x)) : va_E) = eM ad S') (ha : ∀ k, ar S' k = ar S k) (ho : os S' = os S) (hdg : decode cc pc = .ok (.putfield idx, 3))
    (kk : ∀ (H1 : Heap) (locs1 : List Loc), pw G A ad (cM G ad S') H1 → va_S A H0 H1 locs1 → W p l e R s m args below meth c H1 locs1 cells slots Q (F0 m (pc + 3) ls rest)) : W p l e R s m args below meth c H locs cells slots Q (F0 m pc ls (.int x :: .ref (ad 0) :: rest)) := by
  refine w_put cx (ci := 3) rfl iX3 tyX3_ok nmX3 hP hS cM_0 k hk lk hfin hd rfl rfl hl hdg (fun H1 locs1 h1 h2 => kk H1 locs1 (h1.eq (fun i => ?_)) h2)
  by_cases hi : i = 0
  · subst hi; rw [va_up_self, he]; rfl
  · rw [va_up_ne _ _ hi]
    unfold cM
    rw [if_neg hi, if_neg hi, ha, ho]
end MS
end
section
theorem ntlt {n : Nat} (h : n ≤ 40) (h2 : ¬ nI n = 40) : n < 40 := by
  rcases Nat.lt_or_ge n 40 with q | q
  · exact q
  · exact absurd (by rw [show n = 40 by omega]; decide) h2
theorem ix3d {i : Nat} {x : Int32} (h : x = nI (ix x)) : 3 * nI i + x = nI (3 * i + ix x) := by
  rw [← nI_add, ← pk_mul, ← h]; rfl
theorem ix3b {i n : Nat} {x : Int32} (hi : i < n) (h40 : n ≤ 40) (h : okx x 4) (h3 : ¬ x = 3) : 3 * i + ix x < 120 := by
  have : ix x ≠ 3 := fun e => h3 (by rw [h.1, e]; decide)
  have := h.2
  omega
def f_X3_pass (S : St) (x : Int32) : Int32 × St :=
  if f_X3_in x 1 5000 = 0 then ((-2), S)
  else if (sc S 0) + x ≤ 20000 then ((sc S 0) + x, (setS S 0 ((sc S 0) + x)))
  else ((-4), S)
set_option maxRecDepth 20000 in
theorem c_X3_pass (l : Launch) (G : GG) (ad : Nat → Nat) (S : St) (hW : WF S) (x : Int32) : MW l yX3_pass cX3_pass 2 (some .int) 1 22 0 0 G ad (cM G ad S) [.ref (ad 0), .int x] (some (.int (f_X3_pass S x).1)) (fun ad' => cM G ad' (f_X3_pass S x).2) (fun ad' => ad' = ad) := by
  refine MW.of [(0, .ref (ad 0)), (1, .int x)] (by decide) (Nat.le_of_ble_eq_true rfl) rfl ?_
  intro p e s m args below meth c A cx hr hlk hnm hA hP ls hl
  have hx := cx.1.1
  have hb := cx.1.2.1
  have hS : va_S A s.heap s.heap [] := va_S.rf
  refine lv_iload_n hx hb dX3_pass_0 rfl (lv_at hl 1 rfl) ?_
  refine lv_iconst (v := 1) hx hb dX3_pass_1 (by decide) ?_
  refine lv_sipush (v := 5000) hx hb dX3_pass_2 (by decide) ?_
  refine w_callS (As := [.int x, .int 1, .int 5000]) (rest := []) (st := [.int (f_X3_in x 1 5000)]) cx (c_X3_in l G ad _ x 1 5000) k_541 cal_yX3_in hP.pa rfl ⟨Nat.le_of_ble_eq_true rfl, Nat.le_of_ble_eq_true rfl⟩ hl.1 (Nat.le_of_ble_eq_true rfl) ⟨Nat.zero_le _, Nat.zero_le _⟩ rfl rfl dX3_pass_5 ?_
  refine lv_if_ne (tgt := 14) hx hb dX3_pass_8 (by decide) (fun c_1 => ?_) (fun c_1 => ?_)
  · refine lv_aload_n hx hb dX3_pass_14 rfl (lv_at hl 0 rfl) ?_
    refine w_get cx (ci := 3) rfl iX3 (hP.pa _ _ cM_0) 0 (by decide) k_451 (v := .int (sc S 0)) rfl dX3_pass_15 ?_
    refine lv_iload_n hx hb dX3_pass_18 rfl (lv_at hl 1 rfl) ?_
    refine lv_iadd hx hb dX3_pass_19 ?_
    refine lv_sipush (v := 20000) hx hb dX3_pass_20 (by decide) ?_
    refine lv_icmp_le (tgt := 29) hx hb dX3_pass_23 (by decide) (fun c_2 => ?_) (fun c_2 => ?_)
    · refine lv_aload_n hx hb dX3_pass_29 rfl (lv_at hl 0 rfl) ?_
      refine lv_dup hx hb dX3_pass_30 rfl ?_
      refine w_get cx (ci := 3) rfl iX3 (hP.pa _ _ cM_0) 0 (by decide) k_451 (v := .int (sc S 0)) rfl dX3_pass_31 ?_
      refine lv_iload_n hx hb dX3_pass_34 rfl (lv_at hl 1 rfl) ?_
      refine lv_iadd hx hb dX3_pass_35 ?_
      refine m_put cx (setS S 0 ((sc S 0) + x)) hP hS 0 (by decide) k_451 rfl rfl (by decide) rfl (fun _ => rfl) rfl dX3_pass_36 (fun H locs hP hS => ?_)
      refine lv_aload_n hx hb dX3_pass_39 rfl (lv_at hl 0 rfl) ?_
      refine w_get cx (ci := 3) rfl iX3 (hP.pa _ _ cM_0) 0 (by decide) k_451 (v := .int ((sc S 0) + x)) rfl dX3_pass_40 ?_
      rw [show f_X3_pass S x = ((sc S 0) + x, (setS S 0 ((sc S 0) + x))) from by rw [f_X3_pass, if_neg c_1, if_pos c_2]]
      exact x_int cx hr hlk (ad' := ad) ⟨rfl, hP⟩ hS dX3_pass_43
    · refine lv_bipush (v := -4) hx hb dX3_pass_26 (by decide) ?_
      rw [show f_X3_pass S x = ((-4), S) from by rw [f_X3_pass, if_neg c_1, if_neg c_2]]
      exact x_int cx hr hlk (ad' := ad) ⟨rfl, hP⟩ hS dX3_pass_28
  · refine lv_bipush (v := -2) hx hb dX3_pass_11 (by decide) ?_
    rw [show f_X3_pass S x = ((-2), S) from by rw [f_X3_pass, if_pos c_1]]
    exact x_int cx hr hlk (ad' := ad) ⟨rfl, hP⟩ hS dX3_pass_13
def f_X3_thing (S : St) (x y z u : Int32) : Int32 × St :=
  if f_X3_in x 0 3 = 0 then ((-2), S)
  else if f_X3_in y 0 100 = 0 then ((-2), S)
  else if f_X3_in z 1 4000 = 0 then ((-2), S)
  else if f_X3_in u 0 9 = 0 then ((-1), S)
  else if nI (nt S) = 40 then ((-4), S)
  else ((nI (nt S + 1)) - 1, (setT (setA (setA (setA (setA (setA (setA S 0 (nt S) x) 1 (nt S) y) 2 (nt S) z) 3 (nt S) u) 5 (nt S) ((-1000000))) 6 (nt S) ((-1000000))) (nt S + 1)))
set_option maxRecDepth 20000 in
theorem c_X3_thing (l : Launch) (G : GG) (ad : Nat → Nat) (S : St) (hW : WF S) (x y z u : Int32) : MW l yX3_thing cX3_thing 5 (some .int) 1 22 0 0 G ad (cM G ad S) [.ref (ad 0), .int x, .int y, .int z, .int u] (some (.int (f_X3_thing S x y z u).1)) (fun ad' => cM G ad' (f_X3_thing S x y z u).2) (fun ad' => ad' = ad) := by
  refine MW.of [(0, .ref (ad 0)), (1, .int x), (2, .int y), (3, .int z), (4, .int u)] (by decide) (Nat.le_of_ble_eq_true rfl) rfl ?_
  intro p e s m args below meth c A cx hr hlk hnm hA hP ls hl
  have hx := cx.1.1
  have hb := cx.1.2.1
  have hS : va_S A s.heap s.heap [] := va_S.rf
  refine lv_iload_n hx hb dX3_thing_0 rfl (lv_at hl 1 rfl) ?_
  refine lv_iconst (v := 0) hx hb dX3_thing_1 (by decide) ?_
  refine lv_iconst (v := 3) hx hb dX3_thing_2 (by decide) ?_
  refine w_callS (As := [.int x, .int 0, .int 3]) (rest := []) (st := [.int (f_X3_in x 0 3)]) cx (c_X3_in l G ad _ x 0 3) k_541 cal_yX3_in hP.pa rfl ⟨Nat.le_of_ble_eq_true rfl, Nat.le_of_ble_eq_true rfl⟩ hl.1 (Nat.le_of_ble_eq_true rfl) ⟨Nat.zero_le _, Nat.zero_le _⟩ rfl rfl dX3_thing_3 ?_
  refine lv_if_eq (tgt := 30) hx hb dX3_thing_6 (by decide) (fun c_1 => ?_) (fun c_1 => ?_)
  · refine lv_bipush (v := -2) hx hb dX3_thing_30 (by decide) ?_
    rw [show f_X3_thing S x y z u = ((-2), S) from by rw [f_X3_thing, if_pos c_1]]
    exact x_int cx hr hlk (ad' := ad) ⟨rfl, hP⟩ hS dX3_thing_32
  · refine lv_iload_n hx hb dX3_thing_9 rfl (lv_at hl 2 rfl) ?_
    refine lv_iconst (v := 0) hx hb dX3_thing_10 (by decide) ?_
    refine lv_bipush (v := 100) hx hb dX3_thing_11 (by decide) ?_
    refine w_callS (As := [.int y, .int 0, .int 100]) (rest := []) (st := [.int (f_X3_in y 0 100)]) cx (c_X3_in l G ad _ y 0 100) k_541 cal_yX3_in hP.pa rfl ⟨Nat.le_of_ble_eq_true rfl, Nat.le_of_ble_eq_true rfl⟩ hl.1 (Nat.le_of_ble_eq_true rfl) ⟨Nat.zero_le _, Nat.zero_le _⟩ rfl rfl dX3_thing_13 ?_
    refine lv_if_eq (tgt := 30) hx hb dX3_thing_16 (by decide) (fun c_2 => ?_) (fun c_2 => ?_)
    · refine lv_bipush (v := -2) hx hb dX3_thing_30 (by decide) ?_
      rw [show f_X3_thing S x y z u = ((-2), S) from by rw [f_X3_thing, if_neg c_1, if_pos c_2]]
      exact x_int cx hr hlk (ad' := ad) ⟨rfl, hP⟩ hS dX3_thing_32
    · refine lv_iload_n hx hb dX3_thing_19 rfl (lv_at hl 3 rfl) ?_
      refine lv_iconst (v := 1) hx hb dX3_thing_20 (by decide) ?_
      refine lv_sipush (v := 4000) hx hb dX3_thing_21 (by decide) ?_
      refine w_callS (As := [.int z, .int 1, .int 4000]) (rest := []) (st := [.int (f_X3_in z 1 4000)]) cx (c_X3_in l G ad _ z 1 4000) k_541 cal_yX3_in hP.pa rfl ⟨Nat.le_of_ble_eq_true rfl, Nat.le_of_ble_eq_true rfl⟩ hl.1 (Nat.le_of_ble_eq_true rfl) ⟨Nat.zero_le _, Nat.zero_le _⟩ rfl rfl dX3_thing_24 ?_
      refine lv_if_ne (tgt := 33) hx hb dX3_thing_27 (by decide) (fun c_3 => ?_) (fun c_3 => ?_)
      · refine lv_iload hx hb dX3_thing_33 (lv_at hl 4 rfl) ?_
        refine lv_iconst (v := 0) hx hb dX3_thing_35 (by decide) ?_
        refine lv_bipush (v := 9) hx hb dX3_thing_36 (by decide) ?_
        refine w_callS (As := [.int u, .int 0, .int 9]) (rest := []) (st := [.int (f_X3_in u 0 9)]) cx (c_X3_in l G ad _ u 0 9) k_541 cal_yX3_in hP.pa rfl ⟨Nat.le_of_ble_eq_true rfl, Nat.le_of_ble_eq_true rfl⟩ hl.1 (Nat.le_of_ble_eq_true rfl) ⟨Nat.zero_le _, Nat.zero_le _⟩ rfl rfl dX3_thing_38 ?_
        refine lv_if_ne (tgt := 46) hx hb dX3_thing_41 (by decide) (fun c_4 => ?_) (fun c_4 => ?_)
        · refine lv_aload_n hx hb dX3_thing_46 rfl (lv_at hl 0 rfl) ?_
          refine w_get cx (ci := 3) rfl iX3 (hP.pa _ _ cM_0) 1 (by decide) k_452 (v := .int (nI (nt S))) rfl dX3_thing_47 ?_
          refine lv_bipush (v := 40) hx hb dX3_thing_50 (by decide) ?_
          refine lv_icmp_ne (tgt := 58) hx hb dX3_thing_52 (by decide) (fun c_5 => ?_) (fun c_5 => ?_)
          · refine lv_aload_n hx hb dX3_thing_58 rfl (lv_at hl 0 rfl) ?_
            refine w_get cx (ci := 3) rfl iX3 (hP.pa _ _ cM_0) 2 (by decide) k_453 (v := .ref (ad 1)) rfl dX3_thing_59 ?_
            refine lv_aload_n hx hb dX3_thing_62 rfl (lv_at hl 0 rfl) ?_
            refine w_get cx (ci := 3) rfl iX3 (hP.pa _ _ cM_0) 1 (by decide) k_452 (v := .int (nI (nt S))) rfl dX3_thing_63 ?_
            refine lv_iload_n hx hb dX3_thing_66 rfl (lv_at hl 1 rfl) ?_
            refine m_iast (n := 40) cx hP hS 0 (by decide) rfl rfl (nt S) rfl (ntlt hW.t c_5) (by decide) dX3_thing_67 (fun H locs hP hS => ?_)
            refine lv_aload_n hx hb dX3_thing_68 rfl (lv_at hl 0 rfl) ?_
            refine w_get cx (ci := 3) rfl iX3 (hP.pa _ _ cM_0) 3 (by decide) k_454 (v := .ref (ad 2)) rfl dX3_thing_69 ?_
            refine lv_aload_n hx hb dX3_thing_72 rfl (lv_at hl 0 rfl) ?_
            refine w_get cx (ci := 3) rfl iX3 (hP.pa _ _ cM_0) 1 (by decide) k_452 (v := .int (nI (nt S))) rfl dX3_thing_73 ?_
            refine lv_iload_n hx hb dX3_thing_76 rfl (lv_at hl 2 rfl) ?_
            refine m_iast (n := 40) cx hP hS 1 (by decide) rfl rfl (nt S) rfl (ntlt hW.t c_5) (by decide) dX3_thing_77 (fun H locs hP hS => ?_)
            refine lv_aload_n hx hb dX3_thing_78 rfl (lv_at hl 0 rfl) ?_
            refine w_get cx (ci := 3) rfl iX3 (hP.pa _ _ cM_0) 4 (by decide) k_455 (v := .ref (ad 3)) rfl dX3_thing_79 ?_
            refine lv_aload_n hx hb dX3_thing_82 rfl (lv_at hl 0 rfl) ?_
            refine w_get cx (ci := 3) rfl iX3 (hP.pa _ _ cM_0) 1 (by decide) k_452 (v := .int (nI (nt S))) rfl dX3_thing_83 ?_
            refine lv_iload_n hx hb dX3_thing_86 rfl (lv_at hl 3 rfl) ?_
            refine m_iast (n := 40) cx hP hS 2 (by decide) rfl rfl (nt S) rfl (ntlt hW.t c_5) (by decide) dX3_thing_87 (fun H locs hP hS => ?_)
            refine lv_aload_n hx hb dX3_thing_88 rfl (lv_at hl 0 rfl) ?_
            refine w_get cx (ci := 3) rfl iX3 (hP.pa _ _ cM_0) 5 (by decide) k_456 (v := .ref (ad 4)) rfl dX3_thing_89 ?_
            refine lv_aload_n hx hb dX3_thing_92 rfl (lv_at hl 0 rfl) ?_
            refine w_get cx (ci := 3) rfl iX3 (hP.pa _ _ cM_0) 1 (by decide) k_452 (v := .int (nI (nt S))) rfl dX3_thing_93 ?_
            refine lv_iload hx hb dX3_thing_96 (lv_at hl 4 rfl) ?_
            refine m_iast (n := 40) cx hP hS 3 (by decide) rfl rfl (nt S) rfl (ntlt hW.t c_5) (by decide) dX3_thing_98 (fun H locs hP hS => ?_)
            refine lv_aload_n hx hb dX3_thing_99 rfl (lv_at hl 0 rfl) ?_
            refine w_get cx (ci := 3) rfl iX3 (hP.pa _ _ cM_0) 7 (by decide) k_458 (v := .ref (ad 6)) rfl dX3_thing_100 ?_
            refine lv_aload_n hx hb dX3_thing_103 rfl (lv_at hl 0 rfl) ?_
            refine w_get cx (ci := 3) rfl iX3 (hP.pa _ _ cM_0) 1 (by decide) k_452 (v := .int (nI (nt S))) rfl dX3_thing_104 ?_
            refine w_ldc cx k_548 dX3_thing_107 ?_
            refine m_iast (n := 40) cx hP hS 5 (by decide) rfl rfl (nt S) rfl (ntlt hW.t c_5) (by decide) dX3_thing_109 (fun H locs hP hS => ?_)
            refine lv_aload_n hx hb dX3_thing_110 rfl (lv_at hl 0 rfl) ?_
            refine w_get cx (ci := 3) rfl iX3 (hP.pa _ _ cM_0) 8 (by decide) k_459 (v := .ref (ad 7)) rfl dX3_thing_111 ?_
            refine lv_aload_n hx hb dX3_thing_114 rfl (lv_at hl 0 rfl) ?_
            refine w_get cx (ci := 3) rfl iX3 (hP.pa _ _ cM_0) 1 (by decide) k_452 (v := .int (nI (nt S))) rfl dX3_thing_115 ?_
            refine w_ldc cx k_548 dX3_thing_118 ?_
            refine m_iast (n := 40) cx hP hS 6 (by decide) rfl rfl (nt S) rfl (ntlt hW.t c_5) (by decide) dX3_thing_120 (fun H locs hP hS => ?_)
            refine lv_aload_n hx hb dX3_thing_121 rfl (lv_at hl 0 rfl) ?_
            refine lv_dup hx hb dX3_thing_122 rfl ?_
            refine w_get cx (ci := 3) rfl iX3 (hP.pa _ _ cM_0) 1 (by decide) k_452 (v := .int (nI (nt S))) rfl dX3_thing_123 ?_
            refine lv_iconst (v := 1) hx hb dX3_thing_126 (by decide) ?_
            refine lv_iadd hx hb dX3_thing_127 ?_
            refine w_nrm (y := nI (nt S + 1)) (nI_1 _) ?_
            refine m_put cx (setT (setA (setA (setA (setA (setA (setA S 0 (nt S) x) 1 (nt S) y) 2 (nt S) z) 3 (nt S) u) 5 (nt S) ((-1000000))) 6 (nt S) ((-1000000))) (nt S + 1)) hP hS 1 (by decide) k_452 rfl rfl (by decide) rfl (fun _ => rfl) rfl dX3_thing_128 (fun H locs hP hS => ?_)
            refine lv_aload_n hx hb dX3_thing_131 rfl (lv_at hl 0 rfl) ?_
            refine w_get cx (ci := 3) rfl iX3 (hP.pa _ _ cM_0) 1 (by decide) k_452 (v := .int (nI (nt S + 1))) rfl dX3_thing_132 ?_
            refine lv_iconst (v := 1) hx hb dX3_thing_135 (by decide) ?_
            refine lv_isub hx hb dX3_thing_136 ?_
            rw [show f_X3_thing S x y z u = ((nI (nt S + 1)) - 1, (setT (setA (setA (setA (setA (setA (setA S 0 (nt S) x) 1 (nt S) y) 2 (nt S) z) 3 (nt S) u) 5 (nt S) ((-1000000))) 6 (nt S) ((-1000000))) (nt S + 1))) from by rw [f_X3_thing, if_neg c_1, if_neg c_2, if_neg c_3, if_neg c_4, if_neg c_5]]
            exact x_int cx hr hlk (ad' := ad) ⟨rfl, hP⟩ hS dX3_thing_137
          · refine lv_bipush (v := -4) hx hb dX3_thing_55 (by decide) ?_
            rw [show f_X3_thing S x y z u = ((-4), S) from by rw [f_X3_thing, if_neg c_1, if_neg c_2, if_neg c_3, if_neg c_4, if_pos c_5]]
            exact x_int cx hr hlk (ad' := ad) ⟨rfl, hP⟩ hS dX3_thing_57
        · refine lv_iconst (v := -1) hx hb dX3_thing_44 (by decide) ?_
          rw [show f_X3_thing S x y z u = ((-1), S) from by rw [f_X3_thing, if_neg c_1, if_neg c_2, if_neg c_3, if_pos c_4]]
          exact x_int cx hr hlk (ad' := ad) ⟨rfl, hP⟩ hS dX3_thing_45
      · refine lv_bipush (v := -2) hx hb dX3_thing_30 (by decide) ?_
        rw [show f_X3_thing S x y z u = ((-2), S) from by rw [f_X3_thing, if_neg c_1, if_neg c_2, if_pos c_3]]
        exact x_int cx hr hlk (ad' := ad) ⟨rfl, hP⟩ hS dX3_thing_32
set_option maxRecDepth 20000 in
theorem c_X3_draw_out (l : Launch) (G : GG) (ad : Nat → Nat) (S : St) (hW : WF S) {n : Int32} (hn : nT S n) (x : Int32) : MW l yX3_draw cX3_draw 3 (some .int) 2 43 0 0 G ad (cM G ad S) [.ref (ad 0), .int n, .int x] (some (.int (((-1, S) : Int32 × St)).1)) (fun ad' => cM G ad' (((-1, S) : Int32 × St)).2) (fun ad' => ad' = ad) := by
  refine MW.of [(0, .ref (ad 0)), (1, .int n), (2, .int x)] (by decide) (Nat.le_of_ble_eq_true rfl) rfl ?_
  intro p e s m args below meth c A cx hr hlk hnm hA hP ls hl
  have hx := cx.1.1
  have hb := cx.1.2.1
  have hS : va_S A s.heap s.heap [] := va_S.rf
  refine lv_aload_n hx hb dX3_draw_0 rfl (lv_at hl 0 rfl) ?_
  refine lv_iload_n hx hb dX3_draw_1 rfl (lv_at hl 1 rfl) ?_
  refine w_callV (As := [.int n]) (rest := []) (st := [.int 0]) cx (c_X3_isThing_out l G ad S hW hn) k_553 cal_yX3_isThing (ci := 3) rfl (hP.pa _ _ cM_0) hP.pa rfl ⟨Nat.le_of_ble_eq_true rfl, Nat.le_of_ble_eq_true rfl⟩ hl.1 (Nat.le_of_ble_eq_true rfl) ⟨Nat.zero_le _, Nat.zero_le _⟩ rfl rfl dX3_draw_2 ?_
  refine lv_if_ne (tgt := 10) hx hb dX3_draw_5 (by decide) (fun c_1 => ?_) (fun c_1 => ?_)
  · exact absurd (by decide) c_1
  · refine lv_iconst (v := -1) hx hb dX3_draw_8 (by decide) ?_
    exact x_int cx hr hlk (ad' := ad) ⟨rfl, hP⟩ hS dX3_draw_9
def f_X3_draw (S : St) (i : Nat) (x : Int32) : Int32 × St :=
  if f_X3_in x ((-100000)) 100000 = 0 then ((-2), S)
  else if ar S 0 i = 3 then (if ar S 8 i = 3 then ((-4), S)
    else ((ar S 8 i) + 1, (setA (setA S 9 (3 * i + ix (ar S 8 i)) x) 8 i ((ar S 8 i) + 1))))
  else ((-3), S)
set_option maxRecDepth 20000 in
theorem c_X3_draw (l : Launch) (G : GG) (ad : Nat → Nat) (S : St) (hW : WF S) {i : Nat} (hi : i < nt S) (x : Int32) : MW l yX3_draw cX3_draw 3 (some .int) 2 43 0 0 G ad (cM G ad S) [.ref (ad 0), .int (nI i), .int x] (some (.int (f_X3_draw S i x).1)) (fun ad' => cM G ad' (f_X3_draw S i x).2) (fun ad' => ad' = ad) := by
  refine MW.of [(0, .ref (ad 0)), (1, .int (nI i)), (2, .int x)] (by decide) (Nat.le_of_ble_eq_true rfl) rfl ?_
  intro p e s m args below meth c A cx hr hlk hnm hA hP ls hl
  have hx := cx.1.1
  have hb := cx.1.2.1
  have hS : va_S A s.heap s.heap [] := va_S.rf
  refine lv_aload_n hx hb dX3_draw_0 rfl (lv_at hl 0 rfl) ?_
  refine lv_iload_n hx hb dX3_draw_1 rfl (lv_at hl 1 rfl) ?_
  refine w_callV (As := [.int (nI i)]) (rest := []) (st := [.int 1]) cx (c_X3_isThing_in l G ad S hW hi) k_553 cal_yX3_isThing (ci := 3) rfl (hP.pa _ _ cM_0) hP.pa rfl ⟨Nat.le_of_ble_eq_true rfl, Nat.le_of_ble_eq_true rfl⟩ hl.1 (Nat.le_of_ble_eq_true rfl) ⟨Nat.zero_le _, Nat.zero_le _⟩ rfl rfl dX3_draw_2 ?_
  refine lv_if_ne (tgt := 10) hx hb dX3_draw_5 (by decide) (fun c_1 => ?_) (fun c_1 => ?_)
  · refine lv_iload_n hx hb dX3_draw_10 rfl (lv_at hl 2 rfl) ?_
    refine w_ldc cx k_561 dX3_draw_11 ?_
    refine w_ldc cx k_562 dX3_draw_13 ?_
    refine w_callS (As := [.int x, .int ((-100000)), .int 100000]) (rest := []) (st := [.int (f_X3_in x ((-100000)) 100000)]) cx (c_X3_in l G ad _ x ((-100000)) 100000) k_541 cal_yX3_in hP.pa rfl ⟨Nat.le_of_ble_eq_true rfl, Nat.le_of_ble_eq_true rfl⟩ hl.1 (Nat.le_of_ble_eq_true rfl) ⟨Nat.zero_le _, Nat.zero_le _⟩ rfl rfl dX3_draw_15 ?_
    refine lv_if_ne (tgt := 24) hx hb dX3_draw_18 (by decide) (fun c_2 => ?_) (fun c_2 => ?_)
    · refine lv_aload_n hx hb dX3_draw_24 rfl (lv_at hl 0 rfl) ?_
      refine w_get cx (ci := 3) rfl iX3 (hP.pa _ _ cM_0) 2 (by decide) k_453 (v := .ref (ad 1)) rfl dX3_draw_25 ?_
      refine lv_iload_n hx hb dX3_draw_28 rfl (lv_at hl 1 rfl) ?_
      refine w_iald cx (hP.pa _ _ (cM_A (n := 40) 0 (by decide) rfl rfl)) i rfl (Nat.lt_of_lt_of_le hi hW.t) (by decide) dX3_draw_29 ?_
      refine lv_iconst (v := 3) hx hb dX3_draw_30 (by decide) ?_
      refine lv_icmp_eq (tgt := 37) hx hb dX3_draw_31 (by decide) (fun c_3 => ?_) (fun c_3 => ?_)
      · refine lv_aload_n hx hb dX3_draw_37 rfl (lv_at hl 0 rfl) ?_
        refine w_get cx (ci := 3) rfl iX3 (hP.pa _ _ cM_0) 10 (by decide) k_461 (v := .ref (ad 9)) rfl dX3_draw_38 ?_
        refine lv_iload_n hx hb dX3_draw_41 rfl (lv_at hl 1 rfl) ?_
        refine w_iald cx (hP.pa _ _ (cM_A (n := 40) 8 (by decide) rfl rfl)) i rfl (Nat.lt_of_lt_of_le hi hW.t) (by decide) dX3_draw_42 ?_
        refine lv_iconst (v := 3) hx hb dX3_draw_43 (by decide) ?_
        refine lv_icmp_ne (tgt := 50) hx hb dX3_draw_44 (by decide) (fun c_4 => ?_) (fun c_4 => ?_)
        · refine lv_aload_n hx hb dX3_draw_50 rfl (lv_at hl 0 rfl) ?_
          refine w_get cx (ci := 3) rfl iX3 (hP.pa _ _ cM_0) 11 (by decide) k_462 (v := .ref (ad 10)) rfl dX3_draw_51 ?_
          refine lv_iconst (v := 3) hx hb dX3_draw_54 (by decide) ?_
          refine lv_iload_n hx hb dX3_draw_55 rfl (lv_at hl 1 rfl) ?_
          refine lv_imul hx hb dX3_draw_56 ?_
          refine lv_aload_n hx hb dX3_draw_57 rfl (lv_at hl 0 rfl) ?_
          refine w_get cx (ci := 3) rfl iX3 (hP.pa _ _ cM_0) 10 (by decide) k_461 (v := .ref (ad 9)) rfl dX3_draw_58 ?_
          refine lv_iload_n hx hb dX3_draw_61 rfl (lv_at hl 1 rfl) ?_
          refine w_iald cx (hP.pa _ _ (cM_A (n := 40) 8 (by decide) rfl rfl)) i rfl (Nat.lt_of_lt_of_le hi hW.t) (by decide) dX3_draw_62 ?_
          refine lv_iadd hx hb dX3_draw_63 ?_
          refine lv_iload_n hx hb dX3_draw_64 rfl (lv_at hl 2 rfl) ?_
          refine m_iast (n := 120) cx hP hS 9 (by decide) rfl rfl (3 * i + ix (ar S 8 i)) (ix3d (hW.dc hi).1) (ix3b hi hW.t (hW.dc hi) c_4) (by decide) dX3_draw_65 (fun H locs hP hS => ?_)
          refine lv_aload_n hx hb dX3_draw_66 rfl (lv_at hl 0 rfl) ?_
          refine w_get cx (ci := 3) rfl iX3 (hP.pa _ _ cM_0) 10 (by decide) k_461 (v := .ref (ad 9)) rfl dX3_draw_67 ?_
          refine lv_iload_n hx hb dX3_draw_70 rfl (lv_at hl 1 rfl) ?_
          refine lv_dup2_11 hx hb dX3_draw_71 rfl rfl ?_
          refine w_iald cx (hP.pa _ _ (cM_A (n := 40) 8 (by decide) rfl rfl)) i rfl (Nat.lt_of_lt_of_le hi hW.t) (by decide) dX3_draw_72 ?_
          refine w_nrm (y := ar S 8 i) rfl ?_
          refine lv_iconst (v := 1) hx hb dX3_draw_73 (by decide) ?_
          refine lv_iadd hx hb dX3_draw_74 ?_
          refine m_iast (n := 40) cx hP hS 8 (by decide) rfl rfl i rfl (Nat.lt_of_lt_of_le hi hW.t) (by decide) dX3_draw_75 (fun H locs hP hS => ?_)
          refine lv_aload_n hx hb dX3_draw_76 rfl (lv_at hl 0 rfl) ?_
          refine w_get cx (ci := 3) rfl iX3 (hP.pa _ _ cM_0) 10 (by decide) k_461 (v := .ref (ad 9)) rfl dX3_draw_77 ?_
          refine lv_iload_n hx hb dX3_draw_80 rfl (lv_at hl 1 rfl) ?_
          refine w_iald cx (hP.pa _ _ (cM_A (n := 40) 8 (by decide) rfl rfl)) i rfl (Nat.lt_of_lt_of_le hi hW.t) (by decide) dX3_draw_81 ?_
          refine w_nrm (y := (ar S 8 i) + 1) (ar_same _ _ _ _) ?_
          rw [show f_X3_draw S i x = ((ar S 8 i) + 1, (setA (setA S 9 (3 * i + ix (ar S 8 i)) x) 8 i ((ar S 8 i) + 1))) from by rw [f_X3_draw, if_neg c_2, if_pos c_3, if_neg c_4]]
          exact x_int cx hr hlk (ad' := ad) ⟨rfl, hP⟩ hS dX3_draw_82
        · refine lv_bipush (v := -4) hx hb dX3_draw_47 (by decide) ?_
          rw [show f_X3_draw S i x = ((-4), S) from by rw [f_X3_draw, if_neg c_2, if_pos c_3, if_pos c_4]]
          exact x_int cx hr hlk (ad' := ad) ⟨rfl, hP⟩ hS dX3_draw_49
      · refine lv_bipush (v := -3) hx hb dX3_draw_34 (by decide) ?_
        rw [show f_X3_draw S i x = ((-3), S) from by rw [f_X3_draw, if_neg c_2, if_neg c_3]]
        exact x_int cx hr hlk (ad' := ad) ⟨rfl, hP⟩ hS dX3_draw_36
    · refine lv_bipush (v := -2) hx hb dX3_draw_21 (by decide) ?_
      rw [show f_X3_draw S i x = ((-2), S) from by rw [f_X3_draw, if_pos c_2]]
      exact x_int cx hr hlk (ad' := ad) ⟨rfl, hP⟩ hS dX3_draw_23
  · exact absurd c_1 (by decide)
set_option maxRecDepth 20000 in
theorem c_X3_allow_out (l : Launch) (G : GG) (ad : Nat → Nat) (S : St) (hW : WF S) {n : Int32} (hn : f_X3_in n 1 3 = 0) (b x : Int32) : MW l yX3_allow cX3_allow 5 (some .int) 1 22 0 0 G ad (cM G ad S) [.ref (ad 0), .int n, .int b, .int x] (some (.int (((-2, S) : Int32 × St)).1)) (fun ad' => cM G ad' (((-2, S) : Int32 × St)).2) (fun ad' => ad' = ad) := by
  refine MW.of [(0, .ref (ad 0)), (1, .int n), (2, .int b), (3, .int x)] (by decide) (Nat.le_of_ble_eq_true rfl) rfl ?_
  intro p e s m args below meth c A cx hr hlk hnm hA hP ls hl
  have hx := cx.1.1
  have hb := cx.1.2.1
  have hS : va_S A s.heap s.heap [] := va_S.rf
  refine lv_iload_n hx hb dX3_allow_0 rfl (lv_at hl 1 rfl) ?_
  refine lv_iconst (v := 1) hx hb dX3_allow_1 (by decide) ?_
  refine lv_iconst (v := 3) hx hb dX3_allow_2 (by decide) ?_
  refine w_callS (As := [.int n, .int 1, .int 3]) (rest := []) (st := [.int (f_X3_in n 1 3)]) cx (c_X3_in l G ad _ n 1 3) k_541 cal_yX3_in hP.pa rfl ⟨Nat.le_of_ble_eq_true rfl, Nat.le_of_ble_eq_true rfl⟩ hl.1 (Nat.le_of_ble_eq_true rfl) ⟨Nat.zero_le _, Nat.zero_le _⟩ rfl rfl dX3_allow_3 ?_
  refine lv_if_eq (tgt := 19) hx hb dX3_allow_6 (by decide) (fun c_1 => ?_) (fun c_1 => ?_)
  · refine lv_bipush (v := -2) hx hb dX3_allow_19 (by decide) ?_
    exact x_int cx hr hlk (ad' := ad) ⟨rfl, hP⟩ hS dX3_allow_21
  · exact absurd hn c_1
def f_X3_allow (S : St) (k : Nat) (b x : Int32) : Int32 × St :=
  if f_X3_in x 0 100000 = 0 then ((-2), S)
  else if b = 0 then (ar S 11 k, (setA S 11 k x))
  else (ar S 10 k, (setA S 10 k x))
set_option maxRecDepth 20000 in
theorem c_X3_allow (l : Launch) (G : GG) (ad : Nat → Nat) (S : St) (hW : WF S) {k : Nat} (h1 : 1 ≤ k) (h3 : k ≤ 3) (b x : Int32) : MW l yX3_allow cX3_allow 5 (some .int) 1 22 0 0 G ad (cM G ad S) [.ref (ad 0), .int (nI k), .int b, .int x] (some (.int (f_X3_allow S k b x).1)) (fun ad' => cM G ad' (f_X3_allow S k b x).2) (fun ad' => ad' = ad) := by
  refine MW.of [(0, .ref (ad 0)), (1, .int (nI k)), (2, .int b), (3, .int x)] (by decide) (Nat.le_of_ble_eq_true rfl) rfl ?_
  intro p e s m args below meth c A cx hr hlk hnm hA hP ls hl
  have hx := cx.1.1
  have hb := cx.1.2.1
  have hS : va_S A s.heap s.heap [] := va_S.rf
  refine lv_iload_n hx hb dX3_allow_0 rfl (lv_at hl 1 rfl) ?_
  refine lv_iconst (v := 1) hx hb dX3_allow_1 (by decide) ?_
  refine lv_iconst (v := 3) hx hb dX3_allow_2 (by decide) ?_
  refine w_callS (As := [.int (nI k), .int 1, .int 3]) (rest := []) (st := [.int (f_X3_in (nI k) 1 3)]) cx (c_X3_in l G ad _ (nI k) 1 3) k_541 cal_yX3_in hP.pa rfl ⟨Nat.le_of_ble_eq_true rfl, Nat.le_of_ble_eq_true rfl⟩ hl.1 (Nat.le_of_ble_eq_true rfl) ⟨Nat.zero_le _, Nat.zero_le _⟩ rfl rfl dX3_allow_3 ?_
  refine lv_if_eq (tgt := 19) hx hb dX3_allow_6 (by decide) (fun c_1 => ?_) (fun c_1 => ?_)
  · exact absurd c_1 (nI_within (a := 1) (b := 3) h1 h3 (by decide))
  · refine lv_iload_n hx hb dX3_allow_9 rfl (lv_at hl 3 rfl) ?_
    refine lv_iconst (v := 0) hx hb dX3_allow_10 (by decide) ?_
    refine w_ldc cx k_562 dX3_allow_11 ?_
    refine w_callS (As := [.int x, .int 0, .int 100000]) (rest := []) (st := [.int (f_X3_in x 0 100000)]) cx (c_X3_in l G ad _ x 0 100000) k_541 cal_yX3_in hP.pa rfl ⟨Nat.le_of_ble_eq_true rfl, Nat.le_of_ble_eq_true rfl⟩ hl.1 (Nat.le_of_ble_eq_true rfl) ⟨Nat.zero_le _, Nat.zero_le _⟩ rfl rfl dX3_allow_13 ?_
    refine lv_if_ne (tgt := 22) hx hb dX3_allow_16 (by decide) (fun c_2 => ?_) (fun c_2 => ?_)
    · refine lv_iload_n hx hb dX3_allow_22 rfl (lv_at hl 2 rfl) ?_
      refine lv_if_eq (tgt := 35) hx hb dX3_allow_23 (by decide) (fun c_3 => ?_) (fun c_3 => ?_)
      · refine lv_aload_n hx hb dX3_allow_35 rfl (lv_at hl 0 rfl) ?_
        refine w_get cx (ci := 3) rfl iX3 (hP.pa _ _ cM_0) 13 (by decide) k_464 (v := .ref (ad 12)) rfl dX3_allow_36 ?_
        refine lv_iload_n hx hb dX3_allow_39 rfl (lv_at hl 1 rfl) ?_
        refine w_iald cx (hP.pa _ _ (cM_A (n := 4) 11 (by decide) rfl rfl)) k rfl (Nat.lt_succ_of_le h3) (by decide) dX3_allow_40 ?_
        refine lv_istore (lv' := [(4, .int (ar S 11 k)), (0, .ref (ad 0)), (1, .int (nI k)), (2, .int b), (3, .int x)]) hx hb dX3_allow_41 hl (by decide) rfl (fun ls hl => ?_)
        refine lv_iload_n hx hb dX3_allow_43 rfl (lv_at hl 3 rfl) ?_
        refine lv_if_eq (tgt := 57) hx hb dX3_allow_44 (by decide) (fun c_4 => ?_) (fun c_4 => ?_)
        · refine lv_aload_n hx hb dX3_allow_57 rfl (lv_at hl 1 rfl) ?_
          refine w_get cx (ci := 3) rfl iX3 (hP.pa _ _ cM_0) 13 (by decide) k_464 (v := .ref (ad 12)) rfl dX3_allow_58 ?_
          refine lv_iload_n hx hb dX3_allow_61 rfl (lv_at hl 2 rfl) ?_
          refine lv_iload_n hx hb dX3_allow_62 rfl (lv_at hl 4 rfl) ?_
          refine m_iast (n := 4) cx hP hS 11 (by decide) rfl rfl k rfl (Nat.lt_succ_of_le h3) (by decide) dX3_allow_63 (fun H locs hP hS => ?_)
          refine lv_iload hx hb dX3_allow_64 (lv_at hl 0 rfl) ?_
          rw [show f_X3_allow S k b x = (ar S 11 k, (setA S 11 k x)) from by rw [f_X3_allow, if_neg c_2, if_pos c_3]]
          exact x_int cx hr hlk (ad' := ad) ⟨rfl, hP⟩ hS dX3_allow_66
        · exact absurd c_3 c_4
      · refine lv_aload_n hx hb dX3_allow_26 rfl (lv_at hl 0 rfl) ?_
        refine w_get cx (ci := 3) rfl iX3 (hP.pa _ _ cM_0) 12 (by decide) k_463 (v := .ref (ad 11)) rfl dX3_allow_27 ?_
        refine lv_iload_n hx hb dX3_allow_30 rfl (lv_at hl 1 rfl) ?_
        refine w_iald cx (hP.pa _ _ (cM_A (n := 4) 10 (by decide) rfl rfl)) k rfl (Nat.lt_succ_of_le h3) (by decide) dX3_allow_31 ?_
        refine lv_goto (tgt := 41) hx hb dX3_allow_32 (by decide) ?_
        refine lv_istore (lv' := [(4, .int (ar S 10 k)), (0, .ref (ad 0)), (1, .int (nI k)), (2, .int b), (3, .int x)]) hx hb dX3_allow_41 hl (by decide) rfl (fun ls hl => ?_)
        refine lv_iload_n hx hb dX3_allow_43 rfl (lv_at hl 3 rfl) ?_
        refine lv_if_eq (tgt := 57) hx hb dX3_allow_44 (by decide) (fun c_5 => ?_) (fun c_5 => ?_)
        · exact absurd c_5 c_3
        · refine lv_aload_n hx hb dX3_allow_47 rfl (lv_at hl 1 rfl) ?_
          refine w_get cx (ci := 3) rfl iX3 (hP.pa _ _ cM_0) 12 (by decide) k_463 (v := .ref (ad 11)) rfl dX3_allow_48 ?_
          refine lv_iload_n hx hb dX3_allow_51 rfl (lv_at hl 2 rfl) ?_
          refine lv_iload_n hx hb dX3_allow_52 rfl (lv_at hl 4 rfl) ?_
          refine m_iast (n := 4) cx hP hS 10 (by decide) rfl rfl k rfl (Nat.lt_succ_of_le h3) (by decide) dX3_allow_53 (fun H locs hP hS => ?_)
          refine lv_goto (tgt := 64) hx hb dX3_allow_54 (by decide) ?_
          refine lv_iload hx hb dX3_allow_64 (lv_at hl 0 rfl) ?_
          rw [show f_X3_allow S k b x = (ar S 10 k, (setA S 10 k x)) from by rw [f_X3_allow, if_neg c_2, if_neg c_3]]
          exact x_int cx hr hlk (ad' := ad) ⟨rfl, hP⟩ hS dX3_allow_66
    · refine lv_bipush (v := -2) hx hb dX3_allow_19 (by decide) ?_
      rw [show f_X3_allow S k b x = ((-2), S) from by rw [f_X3_allow, if_pos c_2]]
      exact x_int cx hr hlk (ad' := ad) ⟨rfl, hP⟩ hS dX3_allow_21
set_option maxRecDepth 20000 in
theorem c_X3_move_out (l : Launch) (G : GG) (ad : Nat → Nat) (S : St) (hW : WF S) {n : Int32} (hn : nT S n) (x : Int32) : MW l yX3_move cX3_move 4 (some .int) 2 43 0 0 G ad (cM G ad S) [.ref (ad 0), .int n, .int x] (some (.int (((-1, S) : Int32 × St)).1)) (fun ad' => cM G ad' (((-1, S) : Int32 × St)).2) (fun ad' => ad' = ad) := by
  refine MW.of [(0, .ref (ad 0)), (1, .int n), (2, .int x)] (by decide) (Nat.le_of_ble_eq_true rfl) rfl ?_
  intro p e s m args below meth c A cx hr hlk hnm hA hP ls hl
  have hx := cx.1.1
  have hb := cx.1.2.1
  have hS : va_S A s.heap s.heap [] := va_S.rf
  refine lv_aload_n hx hb dX3_move_0 rfl (lv_at hl 0 rfl) ?_
  refine lv_iload_n hx hb dX3_move_1 rfl (lv_at hl 1 rfl) ?_
  refine w_callV (As := [.int n]) (rest := []) (st := [.int 0]) cx (c_X3_isThing_out l G ad S hW hn) k_553 cal_yX3_isThing (ci := 3) rfl (hP.pa _ _ cM_0) hP.pa rfl ⟨Nat.le_of_ble_eq_true rfl, Nat.le_of_ble_eq_true rfl⟩ hl.1 (Nat.le_of_ble_eq_true rfl) ⟨Nat.zero_le _, Nat.zero_le _⟩ rfl rfl dX3_move_2 ?_
  refine lv_if_eq (tgt := 18) hx hb dX3_move_5 (by decide) (fun c_1 => ?_) (fun c_1 => ?_)
  · refine lv_iconst (v := -1) hx hb dX3_move_18 (by decide) ?_
    exact x_int cx hr hlk (ad' := ad) ⟨rfl, hP⟩ hS dX3_move_19
  · exact absurd (by decide) c_1
def f_X3_move (S : St) (i : Nat) (x : Int32) : Int32 × St :=
  if f_X3_in x 0 9 = 0 then ((-1), S)
  else if f_X3_isTool S i = 0 then ((-3), S)
  else (ar S 3 i, (setA (setA S 3 i x) 6 i ((-1000000))))
set_option maxRecDepth 20000 in
theorem c_X3_move (l : Launch) (G : GG) (ad : Nat → Nat) (S : St) (hW : WF S) {i : Nat} (hi : i < nt S) (x : Int32) : MW l yX3_move cX3_move 4 (some .int) 2 43 0 0 G ad (cM G ad S) [.ref (ad 0), .int (nI i), .int x] (some (.int (f_X3_move S i x).1)) (fun ad' => cM G ad' (f_X3_move S i x).2) (fun ad' => ad' = ad) := by
  refine MW.of [(0, .ref (ad 0)), (1, .int (nI i)), (2, .int x)] (by decide) (Nat.le_of_ble_eq_true rfl) rfl ?_
  intro p e s m args below meth c A cx hr hlk hnm hA hP ls hl
  have hx := cx.1.1
  have hb := cx.1.2.1
  have hS : va_S A s.heap s.heap [] := va_S.rf
  refine lv_aload_n hx hb dX3_move_0 rfl (lv_at hl 0 rfl) ?_
  refine lv_iload_n hx hb dX3_move_1 rfl (lv_at hl 1 rfl) ?_
  refine w_callV (As := [.int (nI i)]) (rest := []) (st := [.int 1]) cx (c_X3_isThing_in l G ad S hW hi) k_553 cal_yX3_isThing (ci := 3) rfl (hP.pa _ _ cM_0) hP.pa rfl ⟨Nat.le_of_ble_eq_true rfl, Nat.le_of_ble_eq_true rfl⟩ hl.1 (Nat.le_of_ble_eq_true rfl) ⟨Nat.zero_le _, Nat.zero_le _⟩ rfl rfl dX3_move_2 ?_
  refine lv_if_eq (tgt := 18) hx hb dX3_move_5 (by decide) (fun c_1 => ?_) (fun c_1 => ?_)
  · exact absurd c_1 (by decide)
  · refine lv_iload_n hx hb dX3_move_8 rfl (lv_at hl 2 rfl) ?_
    refine lv_iconst (v := 0) hx hb dX3_move_9 (by decide) ?_
    refine lv_bipush (v := 9) hx hb dX3_move_10 (by decide) ?_
    refine w_callS (As := [.int x, .int 0, .int 9]) (rest := []) (st := [.int (f_X3_in x 0 9)]) cx (c_X3_in l G ad _ x 0 9) k_541 cal_yX3_in hP.pa rfl ⟨Nat.le_of_ble_eq_true rfl, Nat.le_of_ble_eq_true rfl⟩ hl.1 (Nat.le_of_ble_eq_true rfl) ⟨Nat.zero_le _, Nat.zero_le _⟩ rfl rfl dX3_move_12 ?_
    refine lv_if_ne (tgt := 20) hx hb dX3_move_15 (by decide) (fun c_2 => ?_) (fun c_2 => ?_)
    · refine lv_aload_n hx hb dX3_move_20 rfl (lv_at hl 0 rfl) ?_
      refine lv_iload_n hx hb dX3_move_21 rfl (lv_at hl 1 rfl) ?_
      refine w_callV (As := [.int (nI i)]) (rest := []) (st := [.int (f_X3_isTool S i)]) cx (c_X3_isTool l G ad S hW (i := i) hi) k_571 cal_yX3_isTool (ci := 3) rfl (hP.pa _ _ cM_0) hP.pa rfl ⟨Nat.le_of_ble_eq_true rfl, Nat.le_of_ble_eq_true rfl⟩ hl.1 (Nat.le_of_ble_eq_true rfl) ⟨Nat.zero_le _, Nat.zero_le _⟩ rfl rfl dX3_move_22 ?_
      refine lv_if_ne (tgt := 31) hx hb dX3_move_25 (by decide) (fun c_3 => ?_) (fun c_3 => ?_)
      · refine lv_aload_n hx hb dX3_move_31 rfl (lv_at hl 0 rfl) ?_
        refine w_get cx (ci := 3) rfl iX3 (hP.pa _ _ cM_0) 5 (by decide) k_456 (v := .ref (ad 4)) rfl dX3_move_32 ?_
        refine lv_iload_n hx hb dX3_move_35 rfl (lv_at hl 1 rfl) ?_
        refine w_iald cx (hP.pa _ _ (cM_A (n := 40) 3 (by decide) rfl rfl)) i rfl (Nat.lt_of_lt_of_le hi hW.t) (by decide) dX3_move_36 ?_
        refine lv_istore_n (lv' := [(3, .int (ar S 3 i)), (0, .ref (ad 0)), (1, .int (nI i)), (2, .int x)]) hx hb dX3_move_37 rfl hl (by decide) rfl (fun ls hl => ?_)
        refine lv_aload_n hx hb dX3_move_38 rfl (lv_at hl 1 rfl) ?_
        refine w_get cx (ci := 3) rfl iX3 (hP.pa _ _ cM_0) 5 (by decide) k_456 (v := .ref (ad 4)) rfl dX3_move_39 ?_
        refine lv_iload_n hx hb dX3_move_42 rfl (lv_at hl 2 rfl) ?_
        refine lv_iload_n hx hb dX3_move_43 rfl (lv_at hl 3 rfl) ?_
        refine m_iast (n := 40) cx hP hS 3 (by decide) rfl rfl i rfl (Nat.lt_of_lt_of_le hi hW.t) (by decide) dX3_move_44 (fun H locs hP hS => ?_)
        refine lv_aload_n hx hb dX3_move_45 rfl (lv_at hl 1 rfl) ?_
        refine w_get cx (ci := 3) rfl iX3 (hP.pa _ _ cM_0) 8 (by decide) k_459 (v := .ref (ad 7)) rfl dX3_move_46 ?_
        refine lv_iload_n hx hb dX3_move_49 rfl (lv_at hl 2 rfl) ?_
        refine w_ldc cx k_548 dX3_move_50 ?_
        refine m_iast (n := 40) cx hP hS 6 (by decide) rfl rfl i rfl (Nat.lt_of_lt_of_le hi hW.t) (by decide) dX3_move_52 (fun H locs hP hS => ?_)
        refine lv_iload_n hx hb dX3_move_53 rfl (lv_at hl 0 rfl) ?_
        rw [show f_X3_move S i x = (ar S 3 i, (setA (setA S 3 i x) 6 i ((-1000000)))) from by rw [f_X3_move, if_neg c_2, if_neg c_3]]
        exact x_int cx hr hlk (ad' := ad) ⟨rfl, hP⟩ hS dX3_move_54
      · refine lv_bipush (v := -3) hx hb dX3_move_28 (by decide) ?_
        rw [show f_X3_move S i x = ((-3), S) from by rw [f_X3_move, if_neg c_2, if_pos c_3]]
        exact x_int cx hr hlk (ad' := ad) ⟨rfl, hP⟩ hS dX3_move_30
    · refine lv_iconst (v := -1) hx hb dX3_move_18 (by decide) ?_
      rw [show f_X3_move S i x = ((-1), S) from by rw [f_X3_move, if_pos c_2]]
      exact x_int cx hr hlk (ad' := ad) ⟨rfl, hP⟩ hS dX3_move_19
set_option maxRecDepth 20000 in
theorem c_X3_seal_out (l : Launch) (G : GG) (ad : Nat → Nat) (S : St) (hW : WF S) {n : Int32} (hn : nT S n) (x : Int32) : MW l yX3_seal cX3_seal 3 (some .int) 2 43 0 0 G ad (cM G ad S) [.ref (ad 0), .int n, .int x] (some (.int (((-1, S) : Int32 × St)).1)) (fun ad' => cM G ad' (((-1, S) : Int32 × St)).2) (fun ad' => ad' = ad) := by
  refine MW.of [(0, .ref (ad 0)), (1, .int n), (2, .int x)] (by decide) (Nat.le_of_ble_eq_true rfl) rfl ?_
  intro p e s m args below meth c A cx hr hlk hnm hA hP ls hl
  have hx := cx.1.1
  have hb := cx.1.2.1
  have hS : va_S A s.heap s.heap [] := va_S.rf
  refine lv_aload_n hx hb dX3_seal_0 rfl (lv_at hl 0 rfl) ?_
  refine lv_iload_n hx hb dX3_seal_1 rfl (lv_at hl 1 rfl) ?_
  refine w_callV (As := [.int n]) (rest := []) (st := [.int 0]) cx (c_X3_isThing_out l G ad S hW hn) k_553 cal_yX3_isThing (ci := 3) rfl (hP.pa _ _ cM_0) hP.pa rfl ⟨Nat.le_of_ble_eq_true rfl, Nat.le_of_ble_eq_true rfl⟩ hl.1 (Nat.le_of_ble_eq_true rfl) ⟨Nat.zero_le _, Nat.zero_le _⟩ rfl rfl dX3_seal_2 ?_
  refine lv_if_ne (tgt := 10) hx hb dX3_seal_5 (by decide) (fun c_1 => ?_) (fun c_1 => ?_)
  · exact absurd (by decide) c_1
  · refine lv_iconst (v := -1) hx hb dX3_seal_8 (by decide) ?_
    exact x_int cx hr hlk (ad' := ad) ⟨rfl, hP⟩ hS dX3_seal_9
set_option maxRecDepth 20000 in
theorem c_X3_seal_far (l : Launch) (G : GG) (ad : Nat → Nat) (S : St) (hW : WF S) {i : Nat} (hi : i < nt S) {n : Int32} (hn : f_X3_in n 1 9999 = 0) : MW l yX3_seal cX3_seal 3 (some .int) 2 43 0 0 G ad (cM G ad S) [.ref (ad 0), .int (nI i), .int n] (some (.int (((-2, S) : Int32 × St)).1)) (fun ad' => cM G ad' (((-2, S) : Int32 × St)).2) (fun ad' => ad' = ad) := by
  refine MW.of [(0, .ref (ad 0)), (1, .int (nI i)), (2, .int n)] (by decide) (Nat.le_of_ble_eq_true rfl) rfl ?_
  intro p e s m args below meth c A cx hr hlk hnm hA hP ls hl
  have hx := cx.1.1
  have hb := cx.1.2.1
  have hS : va_S A s.heap s.heap [] := va_S.rf
  refine lv_aload_n hx hb dX3_seal_0 rfl (lv_at hl 0 rfl) ?_
  refine lv_iload_n hx hb dX3_seal_1 rfl (lv_at hl 1 rfl) ?_
  refine w_callV (As := [.int (nI i)]) (rest := []) (st := [.int 1]) cx (c_X3_isThing_in l G ad S hW hi) k_553 cal_yX3_isThing (ci := 3) rfl (hP.pa _ _ cM_0) hP.pa rfl ⟨Nat.le_of_ble_eq_true rfl, Nat.le_of_ble_eq_true rfl⟩ hl.1 (Nat.le_of_ble_eq_true rfl) ⟨Nat.zero_le _, Nat.zero_le _⟩ rfl rfl dX3_seal_2 ?_
  refine lv_if_ne (tgt := 10) hx hb dX3_seal_5 (by decide) (fun c_1 => ?_) (fun c_1 => ?_)
  · refine lv_iload_n hx hb dX3_seal_10 rfl (lv_at hl 2 rfl) ?_
    refine lv_iconst (v := 1) hx hb dX3_seal_11 (by decide) ?_
    refine lv_sipush (v := 9999) hx hb dX3_seal_12 (by decide) ?_
    refine w_callS (As := [.int n, .int 1, .int 9999]) (rest := []) (st := [.int (f_X3_in n 1 9999)]) cx (c_X3_in l G ad _ n 1 9999) k_541 cal_yX3_in hP.pa rfl ⟨Nat.le_of_ble_eq_true rfl, Nat.le_of_ble_eq_true rfl⟩ hl.1 (Nat.le_of_ble_eq_true rfl) ⟨Nat.zero_le _, Nat.zero_le _⟩ rfl rfl dX3_seal_15 ?_
    refine lv_if_ne (tgt := 24) hx hb dX3_seal_18 (by decide) (fun c_2 => ?_) (fun c_2 => ?_)
    · exact absurd hn c_2
    · refine lv_bipush (v := -2) hx hb dX3_seal_21 (by decide) ?_
      exact x_int cx hr hlk (ad' := ad) ⟨rfl, hP⟩ hS dX3_seal_23
  · exact absurd c_1 (by decide)
def f_X3_seal (S : St) (i k : Nat) : Int32 × St :=
  if f_X3_isTool S i = 0 then ((-3), S)
  else if f_X3_judgedOn S i (sc S 0) = 1 then (if ar S 12 k = 0 then (1, (setA (setA S 12 k 1) 6 i (nI k)))
    else ((-3), S))
  else ((-3), S)
set_option maxRecDepth 20000 in
theorem c_X3_seal (l : Launch) (G : GG) (ad : Nat → Nat) (S : St) (hW : WF S) {i : Nat} (hi : i < nt S) {k : Nat} (h1 : 1 ≤ k) (hk : k < 10000) : MW l yX3_seal cX3_seal 3 (some .int) 2 47 0 0 G ad (cM G ad S) [.ref (ad 0), .int (nI i), .int (nI k)] (some (.int (f_X3_seal S i k).1)) (fun ad' => cM G ad' (f_X3_seal S i k).2) (fun ad' => ad' = ad) := by
  refine MW.of [(0, .ref (ad 0)), (1, .int (nI i)), (2, .int (nI k))] (by decide) (Nat.le_of_ble_eq_true rfl) rfl ?_
  intro p e s m args below meth c A cx hr hlk hnm hA hP ls hl
  have hx := cx.1.1
  have hb := cx.1.2.1
  have hS : va_S A s.heap s.heap [] := va_S.rf
  refine lv_aload_n hx hb dX3_seal_0 rfl (lv_at hl 0 rfl) ?_
  refine lv_iload_n hx hb dX3_seal_1 rfl (lv_at hl 1 rfl) ?_
  refine w_callV (As := [.int (nI i)]) (rest := []) (st := [.int 1]) cx (c_X3_isThing_in l G ad S hW hi) k_553 cal_yX3_isThing (ci := 3) rfl (hP.pa _ _ cM_0) hP.pa rfl ⟨Nat.le_of_ble_eq_true rfl, Nat.le_of_ble_eq_true rfl⟩ hl.1 (Nat.le_of_ble_eq_true rfl) ⟨Nat.zero_le _, Nat.zero_le _⟩ rfl rfl dX3_seal_2 ?_
  refine lv_if_ne (tgt := 10) hx hb dX3_seal_5 (by decide) (fun c_1 => ?_) (fun c_1 => ?_)
  · refine lv_iload_n hx hb dX3_seal_10 rfl (lv_at hl 2 rfl) ?_
    refine lv_iconst (v := 1) hx hb dX3_seal_11 (by decide) ?_
    refine lv_sipush (v := 9999) hx hb dX3_seal_12 (by decide) ?_
    refine w_callS (As := [.int (nI k), .int 1, .int 9999]) (rest := []) (st := [.int (f_X3_in (nI k) 1 9999)]) cx (c_X3_in l G ad _ (nI k) 1 9999) k_541 cal_yX3_in hP.pa rfl ⟨Nat.le_of_ble_eq_true rfl, Nat.le_of_ble_eq_true rfl⟩ hl.1 (Nat.le_of_ble_eq_true rfl) ⟨Nat.zero_le _, Nat.zero_le _⟩ rfl rfl dX3_seal_15 ?_
    refine lv_if_ne (tgt := 24) hx hb dX3_seal_18 (by decide) (fun c_2 => ?_) (fun c_2 => ?_)
    · refine lv_aload_n hx hb dX3_seal_24 rfl (lv_at hl 0 rfl) ?_
      refine lv_iload_n hx hb dX3_seal_25 rfl (lv_at hl 1 rfl) ?_
      refine w_callV (As := [.int (nI i)]) (rest := []) (st := [.int (f_X3_isTool S i)]) cx (c_X3_isTool l G ad S hW (i := i) hi) k_571 cal_yX3_isTool (ci := 3) rfl (hP.pa _ _ cM_0) hP.pa rfl ⟨Nat.le_of_ble_eq_true rfl, Nat.le_of_ble_eq_true rfl⟩ hl.1 (Nat.le_of_ble_eq_true rfl) ⟨Nat.zero_le _, Nat.zero_le _⟩ rfl rfl dX3_seal_26 ?_
      refine lv_if_eq (tgt := 54) hx hb dX3_seal_29 (by decide) (fun c_3 => ?_) (fun c_3 => ?_)
      · refine lv_bipush (v := -3) hx hb dX3_seal_54 (by decide) ?_
        rw [show f_X3_seal S i k = ((-3), S) from by rw [f_X3_seal, if_pos c_3]]
        exact x_int cx hr hlk (ad' := ad) ⟨rfl, hP⟩ hS dX3_seal_56
      · refine lv_aload_n hx hb dX3_seal_32 rfl (lv_at hl 0 rfl) ?_
        refine lv_iload_n hx hb dX3_seal_33 rfl (lv_at hl 1 rfl) ?_
        refine lv_aload_n hx hb dX3_seal_34 rfl (lv_at hl 0 rfl) ?_
        refine w_get cx (ci := 3) rfl iX3 (hP.pa _ _ cM_0) 0 (by decide) k_451 (v := .int (sc S 0)) rfl dX3_seal_35 ?_
        refine w_callV (As := [.int (nI i), .int (sc S 0)]) (rest := []) (st := [.int (f_X3_judgedOn S i (sc S 0))]) cx (c_X3_judgedOn l G ad S hW (i := i) hi (sc S 0)) k_643 cal_yX3_judgedOn (ci := 3) rfl (hP.pa _ _ cM_0) hP.pa rfl ⟨Nat.le_of_ble_eq_true rfl, Nat.le_of_ble_eq_true rfl⟩ hl.1 (Nat.le_of_ble_eq_true rfl) ⟨Nat.zero_le _, Nat.zero_le _⟩ rfl rfl dX3_seal_38 ?_
        refine lv_iconst (v := 1) hx hb dX3_seal_41 (by decide) ?_
        refine lv_icmp_ne (tgt := 54) hx hb dX3_seal_42 (by decide) (fun c_4 => ?_) (fun c_4 => ?_)
        · refine lv_bipush (v := -3) hx hb dX3_seal_54 (by decide) ?_
          rw [show f_X3_seal S i k = ((-3), S) from by rw [f_X3_seal, if_neg c_3, if_neg c_4]]
          exact x_int cx hr hlk (ad' := ad) ⟨rfl, hP⟩ hS dX3_seal_56
        · refine lv_aload_n hx hb dX3_seal_45 rfl (lv_at hl 0 rfl) ?_
          refine w_get cx (ci := 3) rfl iX3 (hP.pa _ _ cM_0) 14 (by decide) k_465 (v := .ref (ad 13)) rfl dX3_seal_46 ?_
          refine lv_iload_n hx hb dX3_seal_49 rfl (lv_at hl 2 rfl) ?_
          refine w_zald cx (hP.pa _ _ (cM_A (n := 10000) 12 (by decide) rfl rfl)) k rfl hk (by decide) dX3_seal_50 ?_
          refine lv_if_eq (tgt := 57) hx hb dX3_seal_51 (by decide) (fun c_5 => ?_) (fun c_5 => ?_)
          · refine lv_aload_n hx hb dX3_seal_57 rfl (lv_at hl 0 rfl) ?_
            refine w_get cx (ci := 3) rfl iX3 (hP.pa _ _ cM_0) 14 (by decide) k_465 (v := .ref (ad 13)) rfl dX3_seal_58 ?_
            refine lv_iload_n hx hb dX3_seal_61 rfl (lv_at hl 2 rfl) ?_
            refine lv_iconst (v := 1) hx hb dX3_seal_62 (by decide) ?_
            refine m_zast (n := 10000) cx hP hS 12 (by decide) rfl rfl k rfl hk (by decide) (Or.inr rfl) dX3_seal_63 (fun H locs hP hS => ?_)
            refine lv_aload_n hx hb dX3_seal_64 rfl (lv_at hl 0 rfl) ?_
            refine w_get cx (ci := 3) rfl iX3 (hP.pa _ _ cM_0) 8 (by decide) k_459 (v := .ref (ad 7)) rfl dX3_seal_65 ?_
            refine lv_iload_n hx hb dX3_seal_68 rfl (lv_at hl 1 rfl) ?_
            refine lv_iload_n hx hb dX3_seal_69 rfl (lv_at hl 2 rfl) ?_
            refine m_iast (n := 40) cx hP hS 6 (by decide) rfl rfl i rfl (Nat.lt_of_lt_of_le hi hW.t) (by decide) dX3_seal_70 (fun H locs hP hS => ?_)
            refine lv_iconst (v := 1) hx hb dX3_seal_71 (by decide) ?_
            rw [show f_X3_seal S i k = (1, (setA (setA S 12 k 1) 6 i (nI k))) from by rw [f_X3_seal, if_neg c_3, if_pos c_4, if_pos c_5]]
            exact x_int cx hr hlk (ad' := ad) ⟨rfl, hP⟩ hS dX3_seal_72
          · refine lv_bipush (v := -3) hx hb dX3_seal_54 (by decide) ?_
            rw [show f_X3_seal S i k = ((-3), S) from by rw [f_X3_seal, if_neg c_3, if_pos c_4, if_neg c_5]]
            exact x_int cx hr hlk (ad' := ad) ⟨rfl, hP⟩ hS dX3_seal_56
    · exact absurd c_2 (isN_in h1 hk)
  · exact absurd c_1 (by decide)
end
