theorem cal_yX0_init : CalI yX0_init cX0_init 5 4 := ⟨k_103, k_30, k_104, rfl, by decide +kernel⟩
theorem cal_yX0_isOfTrade : CalV yX0_isOfTrade cX0_isOfTrade 1 (some .boolean) RX0 0 := ⟨k_181, k_182, k_30, k_183, by decide +kernel⟩
theorem cal_yX0_hasAllDraws : CalV yX0_hasAllDraws cX0_hasAllDraws 1 (some .boolean) RX0 0 := ⟨k_164, k_165, k_30, k_166, by decide +kernel⟩
theorem cal_yX0_addDraw : CalV yX0_addDraw cX0_addDraw 2 (some .int) RX0 1 := ⟨k_168, k_169, k_30, k_170, by decide +kernel⟩
theorem cal_yX0_leastDraw : CalV yX0_leastDraw cX0_leastDraw 1 (some .int) RX0 0 := ⟨k_222, k_223, k_30, k_224, by decide +kernel⟩
theorem cal_yX0_greatestDraw : CalV yX0_greatestDraw cX0_greatestDraw 1 (some .int) RX0 0 := ⟨k_229, k_230, k_30, k_231, by decide +kernel⟩
theorem cal_yX0_middleDraw : CalV yX0_middleDraw cX0_middleDraw 1 (some .int) RX0 0 := ⟨k_218, k_219, k_30, k_220, by decide +kernel⟩
theorem cal_yX0_spreadOfDraws : CalV yX0_spreadOfDraws cX0_spreadOfDraws 1 (some .int) RX0 0 := ⟨k_233, k_234, k_30, k_235, by decide +kernel⟩
theorem cal_yX0_isMeasured : CalV yX0_isMeasured cX0_isMeasured 1 (some .boolean) RX0 0 := ⟨k_325, k_326, k_30, k_327, by decide +kernel⟩
theorem cal_yX0_isSettledNow : CalV yX0_isSettledNow cX0_isSettledNow 1 (some .boolean) RX0 0 := ⟨k_199, k_200, k_30, k_201, by decide +kernel⟩
theorem cal_yX0_isDueOn : CalV yX0_isDueOn cX0_isDueOn 2 (some .boolean) RX0 1 := ⟨k_203, k_204, k_30, k_205, by decide +kernel⟩
theorem cal_yX0_daysUntilDue : CalV yX0_daysUntilDue cX0_daysUntilDue 2 (some .int) RX0 1 := ⟨k_207, k_208, k_30, k_209, by decide +kernel⟩
theorem cal_yX0_canBeTried : CalV yX0_canBeTried cX0_canBeTried 1 (some .boolean) RX0 0 := ⟨k_189, k_190, k_30, k_191, by decide +kernel⟩
theorem cal_yX0_canTryOthers : CalV yX0_canTryOthers cX0_canTryOthers 2 (some .boolean) RX0 1 := ⟨k_194, k_195, k_30, k_196, by decide +kernel⟩
theorem cal_yX0_errorHeld : CalV yX0_errorHeld cX0_errorHeld 1 (some .int) RX0 0 := ⟨k_237, k_238, k_30, k_239, by decide +kernel⟩
theorem cal_yX0_errorSize : CalV yX0_errorSize cX0_errorSize 1 (some .int) RX0 0 := ⟨k_364, k_365, k_30, k_366, by decide +kernel⟩
theorem cal_yX0_spanOn : CalV yX0_spanOn cX0_spanOn 3 (some .int) RX0 1 := ⟨k_214, k_215, k_30, k_216, by decide +kernel⟩
theorem cal_yX0_daysNoWiderThan : CalV yX0_daysNoWiderThan cX0_daysNoWiderThan 5 (some .int) RX0 2 := ⟨k_377, k_378, k_30, k_379, by decide +kernel⟩
theorem cal_yX0_isWrongedBy : CalV yX0_isWrongedBy cX0_isWrongedBy 3 (some .boolean) RX0 1 := ⟨k_293, k_294, k_30, k_295, by decide +kernel⟩
theorem cal_yX0_take : CalV yX0_take cX0_take 2 none RX0 1 := ⟨k_301, k_302, k_30, k_303, by decide +kernel⟩
theorem cal_yX1_init : CalI yX1_init cX1_init 8 7 := ⟨k_242, k_32, k_243, rfl, by decide +kernel⟩
theorem cal_yX1_isShakenBy : CalV yX1_isShakenBy cX1_isShakenBy 2 (some .boolean) RX1 1 := ⟨k_313, k_314, k_32, k_315, by decide +kernel⟩
theorem cal_yX2_init : CalI yX2_init cX2_init 2 0 := ⟨k_36, k_28, k_37, rfl, by decide +kernel⟩
theorem cal_yX2_pass : CalV yX2_pass cX2_pass 2 (some .int) RX2 1 := ⟨k_88, k_89, k_28, k_90, by decide +kernel⟩
theorem cal_yX2_thing : CalV yX2_thing cX2_thing 6 (some .int) RX2 4 := ⟨k_95, k_96, k_28, k_97, by decide +kernel⟩
theorem cal_yX2_about : CalV yX2_about cX2_about 4 (some .int) RX2 2 := ⟨k_146, k_147, k_28, k_148, by decide +kernel⟩
theorem cal_yX2_draw : CalV yX2_draw cX2_draw 4 (some .int) RX2 2 := ⟨k_158, k_159, k_28, k_160, by decide +kernel⟩
theorem cal_yX2_allow : CalV yX2_allow cX2_allow 6 (some .int) RX2 3 := ⟨k_173, k_174, k_28, k_175, by decide +kernel⟩
theorem cal_yX2_move : CalV yX2_move cX2_move 5 (some .int) RX2 2 := ⟨k_177, k_178, k_28, k_179, by decide +kernel⟩
theorem cal_yX2_trial : CalV yX2_trial cX2_trial 11 (some .int) RX2 4 := ⟨k_185, k_186, k_28, k_187, by decide +kernel⟩
theorem cal_yX2_told : CalV yX2_told cX2_told 4 (some .int) RX2 2 := ⟨k_317, k_318, k_28, k_319, by decide +kernel⟩
theorem cal_yX2_error : CalV yX2_error cX2_error 3 (some .int) RX2 1 := ⟨k_321, k_322, k_28, k_323, by decide +kernel⟩
theorem cal_yX2_span : CalV yX2_span cX2_span 3 (some .int) RX2 1 := ⟨k_329, k_330, k_28, k_331, by decide +kernel⟩
theorem cal_yX2_settled : CalV yX2_settled cX2_settled 3 (some .int) RX2 1 := ⟨k_333, k_334, k_28, k_335, by decide +kernel⟩
theorem cal_yX2_due : CalV yX2_due cX2_due 3 (some .int) RX2 1 := ⟨k_338, k_339, k_28, k_340, by decide +kernel⟩
theorem cal_yX2_left : CalV yX2_left cX2_left 3 (some .int) RX2 1 := ⟨k_343, k_344, k_28, k_345, by decide +kernel⟩
theorem cal_yX2_chain : CalV yX2_chain cX2_chain 6 (some .int) RX2 2 := ⟨k_348, k_349, k_28, k_350, by decide +kernel⟩
theorem cal_yX2_unsettled : CalV yX2_unsettled cX2_unsettled 4 (some .int) RX2 0 := ⟨k_352, k_353, k_28, k_354, by decide +kernel⟩
theorem cal_yX2_judge : CalV yX2_judge cX2_judge 3 (some .int) RX2 1 := ⟨k_356, k_357, k_28, k_358, by decide +kernel⟩
theorem cal_yX2_stays : CalV yX2_stays cX2_stays 6 (some .int) RX2 1 := ⟨k_373, k_374, k_28, k_375, by decide +kernel⟩
theorem cal_yX2_seal : CalV yX2_seal cX2_seal 4 (some .int) RX2 2 := ⟨k_386, k_387, k_28, k_388, by decide +kernel⟩
theorem cal_yX2_sealed : CalV yX2_sealed cX2_sealed 4 (some .int) RX2 1 := ⟨k_401, k_402, k_28, k_403, by decide +kernel⟩
theorem cal_yX2_charge : CalV yX2_charge cX2_charge 7 (some .int) RX2 1 := ⟨k_405, k_406, k_28, k_407, by decide +kernel⟩
theorem cal_yX2_charged : CalV yX2_charged cX2_charged 2 (some .long) RX2 1 := ⟨k_410, k_411, k_28, k_412, by decide +kernel⟩
theorem cal_yX2_first : CalV yX2_first cX2_first 3 (some .int) RX2 1 := ⟨k_415, k_416, k_28, k_417, by decide +kernel⟩
theorem cal_yX2_count : CalV yX2_count cX2_count 2 (some .int) RX2 1 := ⟨k_434, k_435, k_28, k_436, by decide +kernel⟩
theorem cal_yX2_isWithin : CalS yX2_isWithin cX2_isWithin 3 (some .boolean) 3 := ⟨k_92, k_28, k_93, by decide +kernel⟩
theorem cal_yX2_isOwner : CalS yX2_isOwner cX2_isOwner 1 (some .boolean) 1 := ⟨k_99, k_28, k_100, by decide +kernel⟩
theorem cal_yX2_isSealNumber : CalS yX2_isSealNumber cX2_isSealNumber 1 (some .boolean) 1 := ⟨k_390, k_28, k_391, by decide +kernel⟩
theorem cal_yX2_numberOf : CalS yX2_numberOf cX2_numberOf 1 (some .int) 1 := ⟨k_154, k_28, k_155, by decide +kernel⟩
theorem cal_yX2_thingAt : CalV yX2_thingAt cX2_thingAt 2 (some (.object "TrueWeights$Thing")) RX2 1 := ⟨k_151, k_0, k_28, k_152, by decide +kernel⟩
theorem cal_yX2_trialAt : CalV yX2_trialAt cX2_trialAt 2 (some (.object "TrueWeights$Trial")) RX2 1 := ⟨k_310, k_3, k_28, k_311, by decide +kernel⟩
theorem cal_yX2_takeTrial : CalV yX2_takeTrial cX2_takeTrial 4 none RX2 2 := ⟨k_290, k_1, k_28, k_291, by decide +kernel⟩
theorem cal_yX2_unsettleAllBasedOn : CalV yX2_unsettleAllBasedOn cX2_unsettleAllBasedOn 4 none RX2 1 := ⟨k_306, k_2, k_28, k_307, by decide +kernel⟩
theorem cal_yX2_allowanceFor : CalV yX2_allowanceFor cX2_allowanceFor 3 (some .int) RX2 1 := ⟨k_370, k_5, k_28, k_371, by decide +kernel⟩
theorem cal_yX2_judgement : CalV yX2_judgement cX2_judgement 5 (some .int) RX2 1 := ⟨k_361, k_4, k_28, k_362, by decide +kernel⟩
theorem cal_yX2_wasPutOn : CalV yX2_wasPutOn cX2_wasPutOn 2 (some .boolean) RX2 1 := ⟨k_394, k_6, k_28, k_395, by decide +kernel⟩
theorem cal_yX2_markPutOn : CalV yX2_markPutOn cX2_markPutOn 2 none RX2 1 := ⟨k_398, k_7, k_28, k_399, by decide +kernel⟩
theorem cal_yX2_rankThings : CalV yX2_rankThings cX2_rankThings 4 (some .int) RX2 0 := ⟨k_420, k_8, k_28, k_421, by decide +kernel⟩
theorem cal_yX2_rankBehind : CalV yX2_rankBehind cX2_rankBehind 6 none RX2 3 := ⟨k_431, k_10, k_28, k_432, by decide +kernel⟩
theorem cal_yX2_urgencyOf : CalV yX2_urgencyOf cX2_urgencyOf 3 (some .long) RX2 1 := ⟨k_424, k_9, k_28, k_425, by decide +kernel⟩
theorem cal_yX2_howManyDue : CalV yX2_howManyDue cX2_howManyDue 4 (some .int) RX2 0 := ⟨k_439, k_11, k_28, k_440, by decide +kernel⟩
theorem cal_yX2_howManyJudged : CalV yX2_howManyJudged cX2_howManyJudged 5 (some .int) RX2 1 := ⟨k_443, k_12, k_28, k_444, by decide +kernel⟩
theorem cal_yX3_init : CalI yX3_init cX3_init 2 0 := ⟨k_448, k_29, k_449, rfl, by decide +kernel⟩
theorem cal_yX3_in : CalS yX3_in cX3_in 3 (some .boolean) 3 := ⟨k_542, k_29, k_543, by decide +kernel⟩
theorem cal_yX3_isThing : CalV yX3_isThing cX3_isThing 2 (some .boolean) RX3 1 := ⟨k_555, k_13, k_29, k_556, by decide +kernel⟩
theorem cal_yX3_pass : CalV yX3_pass cX3_pass 2 (some .int) RX3 1 := ⟨k_538, k_539, k_29, k_540, by decide +kernel⟩
theorem cal_yX3_thing : CalV yX3_thing cX3_thing 5 (some .int) RX3 4 := ⟨k_545, k_546, k_29, k_547, by decide +kernel⟩
theorem cal_yX3_about : CalV yX3_about cX3_about 3 (some .int) RX3 2 := ⟨k_550, k_551, k_29, k_552, by decide +kernel⟩
theorem cal_yX3_draw : CalV yX3_draw cX3_draw 3 (some .int) RX3 2 := ⟨k_558, k_559, k_29, k_560, by decide +kernel⟩
theorem cal_yX3_allow : CalV yX3_allow cX3_allow 5 (some .int) RX3 3 := ⟨k_564, k_565, k_29, k_566, by decide +kernel⟩
theorem cal_yX3_isTool : CalV yX3_isTool cX3_isTool 2 (some .boolean) RX3 1 := ⟨k_573, k_14, k_29, k_574, by decide +kernel⟩
theorem cal_yX3_move : CalV yX3_move cX3_move 4 (some .int) RX3 2 := ⟨k_568, k_569, k_29, k_570, by decide +kernel⟩
theorem cal_yX3_settledNow : CalV yX3_settledNow cX3_settledNow 2 (some .boolean) RX3 1 := ⟨k_581, k_15, k_29, k_582, by decide +kernel⟩
theorem cal_yX3_dueNow : CalV yX3_dueNow cX3_dueNow 2 (some .boolean) RX3 1 := ⟨k_585, k_16, k_29, k_586, by decide +kernel⟩
theorem cal_yX3_errorOf : CalV yX3_errorOf cX3_errorOf 2 (some .int) RX3 1 := ⟨k_589, k_17, k_29, k_590, by decide +kernel⟩
theorem cal_yX3_spanOn : CalV yX3_spanOn cX3_spanOn 3 (some .int) RX3 2 := ⟨k_597, k_19, k_29, k_598, by decide +kernel⟩
theorem cal_yX3_middle : CalV yX3_middle cX3_middle 7 (some .int) RX3 1 := ⟨k_593, k_18, k_29, k_594, by decide +kernel⟩
theorem cal_yX3_range : CalV yX3_range cX3_range 5 (some .int) RX3 1 := ⟨k_601, k_20, k_29, k_602, by decide +kernel⟩
theorem cal_yX3_trial : CalV yX3_trial cX3_trial 10 (some .int) RX3 4 := ⟨k_576, k_577, k_29, k_578, by decide +kernel⟩
theorem cal_yX3_unsettle : CalV yX3_unsettle cX3_unsettle 3 none RX3 1 := ⟨k_605, k_21, k_29, k_606, by decide +kernel⟩
theorem cal_yX3_told : CalV yX3_told cX3_told 3 (some .int) RX3 2 := ⟨k_608, k_609, k_29, k_610, by decide +kernel⟩
theorem cal_yX3_error : CalV yX3_error cX3_error 2 (some .int) RX3 1 := ⟨k_612, k_613, k_29, k_614, by decide +kernel⟩
theorem cal_yX3_span : CalV yX3_span cX3_span 2 (some .int) RX3 1 := ⟨k_616, k_617, k_29, k_618, by decide +kernel⟩
theorem cal_yX3_settled : CalV yX3_settled cX3_settled 2 (some .int) RX3 1 := ⟨k_620, k_621, k_29, k_622, by decide +kernel⟩
theorem cal_yX3_due : CalV yX3_due cX3_due 2 (some .int) RX3 1 := ⟨k_624, k_625, k_29, k_626, by decide +kernel⟩
theorem cal_yX3_left : CalV yX3_left cX3_left 2 (some .int) RX3 1 := ⟨k_628, k_629, k_29, k_630, by decide +kernel⟩
theorem cal_yX3_chain : CalV yX3_chain cX3_chain 5 (some .int) RX3 2 := ⟨k_632, k_633, k_29, k_634, by decide +kernel⟩
theorem cal_yX3_unsettled : CalV yX3_unsettled cX3_unsettled 3 (some .int) RX3 0 := ⟨k_636, k_637, k_29, k_638, by decide +kernel⟩
theorem cal_yX3_allowance : CalV yX3_allowance cX3_allowance 2 (some .int) RX3 1 := ⟨k_649, k_23, k_29, k_650, by decide +kernel⟩
theorem cal_yX3_judgedOn : CalV yX3_judgedOn cX3_judgedOn 6 (some .int) RX3 2 := ⟨k_645, k_22, k_29, k_646, by decide +kernel⟩
theorem cal_yX3_judge : CalV yX3_judge cX3_judge 2 (some .int) RX3 1 := ⟨k_640, k_641, k_29, k_642, by decide +kernel⟩
theorem cal_yX3_stays : CalV yX3_stays cX3_stays 4 (some .int) RX3 1 := ⟨k_652, k_653, k_29, k_654, by decide +kernel⟩
theorem cal_yX3_seal : CalV yX3_seal cX3_seal 3 (some .int) RX3 2 := ⟨k_656, k_657, k_29, k_658, by decide +kernel⟩
theorem cal_yX3_sealed : CalV yX3_sealed cX3_sealed 3 (some .int) RX3 1 := ⟨k_660, k_661, k_29, k_662, by decide +kernel⟩
theorem cal_yX3_charge : CalV yX3_charge cX3_charge 6 (some .int) RX3 1 := ⟨k_664, k_665, k_29, k_666, by decide +kernel⟩
theorem cal_yX3_charged : CalV yX3_charged cX3_charged 2 (some .long) RX3 1 := ⟨k_668, k_669, k_29, k_670, by decide +kernel⟩
theorem cal_yX3_group : CalV yX3_group cX3_group 2 (some .int) RX3 1 := ⟨k_682, k_25, k_29, k_683, by decide +kernel⟩
theorem cal_yX3_weight : CalV yX3_weight cX3_weight 3 (some .int) RX3 1 := ⟨k_686, k_26, k_29, k_687, by decide +kernel⟩
theorem cal_yX3_isAhead : CalV yX3_isAhead cX3_isAhead 3 (some .boolean) RX3 2 := ⟨k_678, k_24, k_29, k_679, by decide +kernel⟩
theorem cal_yX3_first : CalV yX3_first cX3_first 5 (some .int) RX3 1 := ⟨k_673, k_674, k_29, k_675, by decide +kernel⟩
theorem cal_yX3_count : CalV yX3_count cX3_count 5 (some .int) RX3 1 := ⟨k_689, k_690, k_29, k_691, by decide +kernel⟩
def f_abs (x : Int32) : Int32 := if 0 ≤ x then x else 0 - x
def f_max (x y : Int32) : Int32 := if x < y then y else x
def f_min (x y : Int32) : Int32 := if y < x then y else x
def f_lmin (x y : Int64) : Int64 := if y < x then y else x
section MA
variable {p : Program} {l : Launch} {e : Env} {R : Room} {s : State} {m : MethodId} {args : Array Value} {below : List Frame} {meth : Method} {c : Code} {H : Heap} {locs : List Loc} {cells slots : Nat} {Q : State → Prop}
variable {cc : ByteArray} {pc nL idx : Nat} {ls : Array Slot} {rest : List Value} {own : String} {G : GG} {x y : Int32} {u v : Int64}
theorem w_abs (cx : Cx p s m args c cc nL own G) (hls : ls.size = nL) (lk : (.methodLink own idx Lib.Math.abs.name : Cond) ∈ lw_use) (hfr : 1 ≤ R.frames) (hlo : 23 ≤ R.locals) (hf : cells ≤ R.cells ∧ slots ≤ R.slots) (hro : (rest.map fun v => v.category).sum ≤ 8) (hdg : decode cc pc = .ok (.invokestatic idx, 3))
    (kk : W p l e R s m args below meth c H locs cells slots Q (F0 m (pc + 3) ls (.int (f_abs x) :: rest))) : W p l e R s m args below meth c H locs cells slots Q (F0 m pc ls (.int x :: rest)) :=
  va_mabs cx.1.1 cx.1.2.1 (cx.1.2.2.1.trans hls.symm) cx.1.2.2.2.1 (cx.1.2.2.2.2 _ lk) (cx.1.2.2.2.2 _ k_297) (cx.1.2.2.2.2 _ k_31) (cx.1.2.2.2.2 (.code Lib.Math.abs.name Lib.Math.abs.code 1 (some .int)) k_298) hfr (by omega) hf.1 hf.2 hdg kk
theorem w_max (cx : Cx p s m args c cc nL own G) (hls : ls.size = nL) (lk : (.methodLink own idx Lib.Math.max.name : Cond) ∈ lw_use) (hfr : 1 ≤ R.frames) (hlo : 23 ≤ R.locals) (hf : cells ≤ R.cells ∧ slots ≤ R.slots) (hro : (rest.map fun v => v.category).sum ≤ 8) (hdg : decode cc pc = .ok (.invokestatic idx, 3))
    (kk : W p l e R s m args below meth c H locs cells slots Q (F0 m (pc + 3) ls (.int (f_max x y) :: rest))) : W p l e R s m args below meth c H locs cells slots Q (F0 m pc ls (.int y :: .int x :: rest)) :=
  va_mmax cx.1.1 cx.1.2.1 (cx.1.2.2.1.trans hls.symm) cx.1.2.2.2.1 (cx.1.2.2.2.2 _ lk) (cx.1.2.2.2.2 _ k_211) (cx.1.2.2.2.2 _ k_31) (cx.1.2.2.2.2 (.code Lib.Math.max.name Lib.Math.max.code 2 (some .int)) k_212) hfr (by omega) hf.1 hf.2 hdg kk
theorem w_min (cx : Cx p s m args c cc nL own G) (hls : ls.size = nL) (lk : (.methodLink own idx Lib.Math.min.name : Cond) ∈ lw_use) (hfr : 1 ≤ R.frames) (hlo : 23 ≤ R.locals) (hf : cells ≤ R.cells ∧ slots ≤ R.slots) (hro : (rest.map fun v => v.category).sum ≤ 8) (hdg : decode cc pc = .ok (.invokestatic idx, 3))
    (kk : W p l e R s m args below meth c H locs cells slots Q (F0 m (pc + 3) ls (.int (f_min x y) :: rest))) : W p l e R s m args below meth c H locs cells slots Q (F0 m pc ls (.int y :: .int x :: rest)) :=
  va_mmin cx.1.1 cx.1.2.1 (cx.1.2.2.1.trans hls.symm) cx.1.2.2.2.1 (cx.1.2.2.2.2 _ lk) (cx.1.2.2.2.2 _ k_226) (cx.1.2.2.2.2 _ k_31) (cx.1.2.2.2.2 (.code Lib.Math.min.name Lib.Math.min.code 2 (some .int)) k_227) hfr (by omega) hf.1 hf.2 hdg kk
theorem w_lmin (cx : Cx p s m args c cc nL own G) (hls : ls.size = nL) (lk : (.methodLink own idx Lib.MathLoose.min_long.x : Cond) ∈ lw_use) (hfr : 1 ≤ R.frames) (hlo : 23 ≤ R.locals) (hf : cells ≤ R.cells ∧ slots ≤ R.slots) (hro : (rest.map fun v => v.category).sum ≤ 8) (hdg : decode cc pc = .ok (.invokestatic idx, 3))
    (kk : W p l e R s m args below meth c H locs cells slots Q (F0 m (pc + 3) ls (.long (f_lmin u v) :: rest))) : W p l e R s m args below meth c H locs cells slots Q (F0 m pc ls (.long v :: .long u :: rest)) :=
  va_mmin_long cx.1.1 cx.1.2.1 (cx.1.2.2.1.trans hls.symm) cx.1.2.2.2.1 (cx.1.2.2.2.2 _ lk) (cx.1.2.2.2.2 _ k_383) (cx.1.2.2.2.2 _ k_31) (cx.1.2.2.2.2 (.code Lib.MathLoose.min_long.x Lib.MathLoose.min_long.code 4 (some .long)) k_384) hfr (by omega) hf.1 hf.2 hdg kk
end MA
