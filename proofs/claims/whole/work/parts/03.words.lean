-- set_option maxRecDepth 20000
set_option maxRecDepth 20000 in
theorem k_0 : (.selects RX2 yX2_thingAt yX2_thingAt : Cond) ∈ lw_use := lw_use_at 0 rfl rfl
set_option maxRecDepth 20000 in
theorem k_1 : (.selects RX2 yX2_takeTrial yX2_takeTrial : Cond) ∈ lw_use := lw_use_at 1 rfl rfl
set_option maxRecDepth 20000 in
theorem k_2 : (.selects RX2 yX2_unsettleAllBasedOn yX2_unsettleAllBasedOn : Cond) ∈ lw_use := lw_use_at 2 rfl rfl
set_option maxRecDepth 20000 in
theorem k_3 : (.selects RX2 yX2_trialAt yX2_trialAt : Cond) ∈ lw_use := lw_use_at 3 rfl rfl
set_option maxRecDepth 20000 in
theorem k_4 : (.selects RX2 yX2_judgement yX2_judgement : Cond) ∈ lw_use := lw_use_at 4 rfl rfl
set_option maxRecDepth 20000 in
theorem k_5 : (.selects RX2 yX2_allowanceFor yX2_allowanceFor : Cond) ∈ lw_use := lw_use_at 5 rfl rfl
set_option maxRecDepth 20000 in
theorem k_6 : (.selects RX2 yX2_wasPutOn yX2_wasPutOn : Cond) ∈ lw_use := lw_use_at 6 rfl rfl
set_option maxRecDepth 20000 in
theorem k_7 : (.selects RX2 yX2_markPutOn yX2_markPutOn : Cond) ∈ lw_use := lw_use_at 7 rfl rfl
set_option maxRecDepth 20000 in
theorem k_8 : (.selects RX2 yX2_rankThings yX2_rankThings : Cond) ∈ lw_use := lw_use_at 8 rfl rfl
set_option maxRecDepth 20000 in
theorem k_9 : (.selects RX2 yX2_urgencyOf yX2_urgencyOf : Cond) ∈ lw_use := lw_use_at 9 rfl rfl
set_option maxRecDepth 20000 in
theorem k_10 : (.selects RX2 yX2_rankBehind yX2_rankBehind : Cond) ∈ lw_use := lw_use_at 10 rfl rfl
set_option maxRecDepth 20000 in
theorem k_11 : (.selects RX2 yX2_howManyDue yX2_howManyDue : Cond) ∈ lw_use := lw_use_at 11 rfl rfl
set_option maxRecDepth 20000 in
theorem k_12 : (.selects RX2 yX2_howManyJudged yX2_howManyJudged : Cond) ∈ lw_use := lw_use_at 12 rfl rfl
set_option maxRecDepth 20000 in
theorem k_13 : (.selects RX3 yX3_isThing yX3_isThing : Cond) ∈ lw_use := lw_use_at 13 rfl rfl
set_option maxRecDepth 20000 in
theorem k_14 : (.selects RX3 yX3_isTool yX3_isTool : Cond) ∈ lw_use := lw_use_at 14 rfl rfl
set_option maxRecDepth 20000 in
theorem k_15 : (.selects RX3 yX3_settledNow yX3_settledNow : Cond) ∈ lw_use := lw_use_at 15 rfl rfl
set_option maxRecDepth 20000 in
theorem k_16 : (.selects RX3 yX3_dueNow yX3_dueNow : Cond) ∈ lw_use := lw_use_at 16 rfl rfl
set_option maxRecDepth 20000 in
theorem k_17 : (.selects RX3 yX3_errorOf yX3_errorOf : Cond) ∈ lw_use := lw_use_at 17 rfl rfl
set_option maxRecDepth 20000 in
theorem k_18 : (.selects RX3 yX3_middle yX3_middle : Cond) ∈ lw_use := lw_use_at 18 rfl rfl
set_option maxRecDepth 20000 in
theorem k_19 : (.selects RX3 yX3_spanOn yX3_spanOn : Cond) ∈ lw_use := lw_use_at 19 rfl rfl
set_option maxRecDepth 20000 in
theorem k_20 : (.selects RX3 yX3_range yX3_range : Cond) ∈ lw_use := lw_use_at 20 rfl rfl
set_option maxRecDepth 20000 in
theorem k_21 : (.selects RX3 yX3_unsettle yX3_unsettle : Cond) ∈ lw_use := lw_use_at 21 rfl rfl
set_option maxRecDepth 20000 in
theorem k_22 : (.selects RX3 yX3_judgedOn yX3_judgedOn : Cond) ∈ lw_use := lw_use_at 22 rfl rfl
set_option maxRecDepth 20000 in
theorem k_23 : (.selects RX3 yX3_allowance yX3_allowance : Cond) ∈ lw_use := lw_use_at 23 rfl rfl
set_option maxRecDepth 20000 in
theorem k_24 : (.selects RX3 yX3_isAhead yX3_isAhead : Cond) ∈ lw_use := lw_use_at 24 rfl rfl
set_option maxRecDepth 20000 in
theorem k_25 : (.selects RX3 yX3_group yX3_group : Cond) ∈ lw_use := lw_use_at 25 rfl rfl
set_option maxRecDepth 20000 in
theorem k_26 : (.selects RX3 yX3_weight yX3_weight : Cond) ∈ lw_use := lw_use_at 26 rfl rfl
set_option maxRecDepth 20000 in
theorem k_27 : (.initialized RL : Cond) ∈ lw_use := lw_use_at 27 rfl rfl
set_option maxRecDepth 20000 in
theorem k_28 : (.initialized RX2 : Cond) ∈ lw_use := lw_use_at 28 rfl rfl
set_option maxRecDepth 20000 in
theorem k_29 : (.initialized RX3 : Cond) ∈ lw_use := lw_use_at 29 rfl rfl
set_option maxRecDepth 20000 in
theorem k_30 : (.initialized RX0 : Cond) ∈ lw_use := lw_use_at 30 rfl rfl
set_option maxRecDepth 20000 in
theorem k_31 : (.initialized RJ9 : Cond) ∈ lw_use := lw_use_at 31 rfl rfl
set_option maxRecDepth 20000 in
theorem k_32 : (.initialized RX1 : Cond) ∈ lw_use := lw_use_at 32 rfl rfl
set_option maxRecDepth 20000 in
theorem k_33 : (.classLink RL 7 RX2 : Cond) ∈ lw_use := lw_use_at 33 rfl rfl
set_option maxRecDepth 20000 in
theorem k_34 : (.instantiable RX2 13 : Cond) ∈ lw_use := lw_use_at 34 rfl rfl
set_option maxRecDepth 20000 in
theorem k_35 : (.methodLink RL 9 yX2_init : Cond) ∈ lw_use := lw_use_at 35 rfl rfl
set_option maxRecDepth 20000 in
theorem k_36 : (.instanceMethod yX2_init : Cond) ∈ lw_use := lw_use_at 36 rfl rfl
set_option maxRecDepth 20000 in
theorem k_37 : (.code yX2_init cX2_init 2 none : Cond) ∈ lw_use := lw_use_at 37 rfl rfl
set_option maxRecDepth 20000 in
theorem k_41 : (.classLink RX2 9 RX0 : Cond) ∈ lw_use := lw_use_at 41 rfl rfl
set_option maxRecDepth 20000 in
theorem k_over0 : (.arrayOver (.object "TrueWeights$Thing") : Cond) ∈ lw_tbl := List.mem_of_getElem? (i := 42) rfl
set_option maxRecDepth 20000 in
theorem k_43 : (.classLink RX2 15 RX1 : Cond) ∈ lw_use := lw_use_at 43 rfl rfl
set_option maxRecDepth 20000 in
theorem k_over1 : (.arrayOver (.object "TrueWeights$Trial") : Cond) ∈ lw_tbl := List.mem_of_getElem? (i := 44) rfl
set_option maxRecDepth 20000 in
theorem k_45 : (.fieldLink RX2 11 "TrueWeights" "things" "[LTrueWeights$Thing;" : Cond) ∈ lw_use := lw_use_at 45 rfl rfl
set_option maxRecDepth 20000 in
theorem k_46 : (.fieldLink RX2 17 "TrueWeights" "trials" "[LTrueWeights$Trial;" : Cond) ∈ lw_use := lw_use_at 46 rfl rfl
set_option maxRecDepth 20000 in
theorem k_47 : (.fieldLink RX2 21 "TrueWeights" "allowancesNew" "[I" : Cond) ∈ lw_use := lw_use_at 47 rfl rfl
set_option maxRecDepth 20000 in
theorem k_48 : (.fieldLink RX2 25 "TrueWeights" "allowancesInUse" "[I" : Cond) ∈ lw_use := lw_use_at 48 rfl rfl
set_option maxRecDepth 20000 in
theorem k_49 : (.fieldLink RX2 28 "TrueWeights" "chargesOfOwner" "[I" : Cond) ∈ lw_use := lw_use_at 49 rfl rfl
set_option maxRecDepth 20000 in
theorem k_50 : (.fieldLink RX2 31 "TrueWeights" "sumOfOwner" "[J" : Cond) ∈ lw_use := lw_use_at 50 rfl rfl
set_option maxRecDepth 20000 in
theorem k_51 : (.fieldLink RX2 35 "TrueWeights" "sealsPutOn" "[I" : Cond) ∈ lw_use := lw_use_at 51 rfl rfl
set_option maxRecDepth 20000 in
theorem k_52 : (.fieldLink RX2 38 "TrueWeights" "ranking" "[I" : Cond) ∈ lw_use := lw_use_at 52 rfl rfl
set_option maxRecDepth 20000 in
theorem k_53 : (.fieldLink RX2 41 "TrueWeights" "urgencies" "[J" : Cond) ∈ lw_use := lw_use_at 53 rfl rfl
set_option maxRecDepth 20000 in
theorem k_54 : (.fieldLink RX2 48 "TrueWeights" "today" "I" : Cond) ∈ lw_use := lw_use_at 54 rfl rfl
set_option maxRecDepth 20000 in
theorem k_55 : (.fieldLink RX2 56 "TrueWeights" "thingCount" "I" : Cond) ∈ lw_use := lw_use_at 55 rfl rfl
set_option maxRecDepth 20000 in
theorem k_56 : (.fieldLink RX2 115 "TrueWeights" "trialCount" "I" : Cond) ∈ lw_use := lw_use_at 56 rfl rfl
set_option maxRecDepth 20000 in
theorem k_57 : (.fieldLink RX2 209 "TrueWeights" "chargeCount" "I" : Cond) ∈ lw_use := lw_use_at 57 rfl rfl
set_option maxRecDepth 20000 in
theorem k_85 : (.arrayClass .int : Cond) ∈ lw_use := lw_use_at 85 rfl rfl
set_option maxRecDepth 20000 in
theorem k_86 : (.arrayClass .long : Cond) ∈ lw_use := lw_use_at 86 rfl rfl
set_option maxRecDepth 20000 in
theorem k_87 : (.methodLink RL 13 yX2_pass : Cond) ∈ lw_use := lw_use_at 87 rfl rfl
set_option maxRecDepth 20000 in
theorem k_88 : (.instanceMethod yX2_pass : Cond) ∈ lw_use := lw_use_at 88 rfl rfl
set_option maxRecDepth 20000 in
theorem k_89 : (.selects RX2 yX2_pass yX2_pass : Cond) ∈ lw_use := lw_use_at 89 rfl rfl
set_option maxRecDepth 20000 in
theorem k_90 : (.code yX2_pass cX2_pass 2 (some .int) : Cond) ∈ lw_use := lw_use_at 90 rfl rfl
set_option maxRecDepth 20000 in
theorem k_91 : (.methodLink RX2 44 yX2_isWithin : Cond) ∈ lw_use := lw_use_at 91 rfl rfl
set_option maxRecDepth 20000 in
theorem k_92 : (.static yX2_isWithin : Cond) ∈ lw_use := lw_use_at 92 rfl rfl
set_option maxRecDepth 20000 in
theorem k_93 : (.code yX2_isWithin cX2_isWithin 3 (some .boolean) : Cond) ∈ lw_use := lw_use_at 93 rfl rfl
set_option maxRecDepth 20000 in
theorem k_94 : (.methodLink RL 18 yX2_thing : Cond) ∈ lw_use := lw_use_at 94 rfl rfl
set_option maxRecDepth 20000 in
theorem k_95 : (.instanceMethod yX2_thing : Cond) ∈ lw_use := lw_use_at 95 rfl rfl
set_option maxRecDepth 20000 in
theorem k_96 : (.selects RX2 yX2_thing yX2_thing : Cond) ∈ lw_use := lw_use_at 96 rfl rfl
set_option maxRecDepth 20000 in
theorem k_97 : (.code yX2_thing cX2_thing 6 (some .int) : Cond) ∈ lw_use := lw_use_at 97 rfl rfl
set_option maxRecDepth 20000 in
theorem k_98 : (.methodLink RX2 52 yX2_isOwner : Cond) ∈ lw_use := lw_use_at 98 rfl rfl
set_option maxRecDepth 20000 in
theorem k_99 : (.static yX2_isOwner : Cond) ∈ lw_use := lw_use_at 99 rfl rfl
set_option maxRecDepth 20000 in
theorem k_100 : (.code yX2_isOwner cX2_isOwner 1 (some .boolean) : Cond) ∈ lw_use := lw_use_at 100 rfl rfl
set_option maxRecDepth 20000 in
theorem k_101 : (.instantiable RX0 10 : Cond) ∈ lw_use := lw_use_at 101 rfl rfl
set_option maxRecDepth 20000 in
theorem k_102 : (.methodLink RX2 59 yX0_init : Cond) ∈ lw_use := lw_use_at 102 rfl rfl
set_option maxRecDepth 20000 in
theorem k_103 : (.instanceMethod yX0_init : Cond) ∈ lw_use := lw_use_at 103 rfl rfl
set_option maxRecDepth 20000 in
theorem k_104 : (.code yX0_init cX0_init 5 none : Cond) ∈ lw_use := lw_use_at 104 rfl rfl
set_option maxRecDepth 20000 in
theorem k_106 : (.constant RX0 15 (-1000000) : Cond) ∈ lw_use := lw_use_at 106 rfl rfl
set_option maxRecDepth 20000 in
theorem k_107 : (.fieldLink RX0 20 "TrueWeights$Thing" "kind" "I" : Cond) ∈ lw_use := lw_use_at 107 rfl rfl
set_option maxRecDepth 20000 in
theorem k_108 : (.fieldLink RX2 66 "TrueWeights$Thing" "kind" "I" : Cond) ∈ lw_use := lw_use_at 108 rfl rfl
set_option maxRecDepth 20000 in
theorem k_109 : (.fieldLink RX0 23 "TrueWeights$Thing" "drift" "I" : Cond) ∈ lw_use := lw_use_at 109 rfl rfl
set_option maxRecDepth 20000 in
theorem k_110 : (.fieldLink RX2 69 "TrueWeights$Thing" "drift" "I" : Cond) ∈ lw_use := lw_use_at 110 rfl rfl
set_option maxRecDepth 20000 in
theorem k_111 : (.fieldLink RX0 26 "TrueWeights$Thing" "period" "I" : Cond) ∈ lw_use := lw_use_at 111 rfl rfl
set_option maxRecDepth 20000 in
theorem k_112 : (.fieldLink RX2 72 "TrueWeights$Thing" "period" "I" : Cond) ∈ lw_use := lw_use_at 112 rfl rfl
set_option maxRecDepth 20000 in
theorem k_113 : (.fieldLink RX0 9 "TrueWeights$Thing" "draws" "[I" : Cond) ∈ lw_use := lw_use_at 113 rfl rfl
set_option maxRecDepth 20000 in
theorem k_114 : (.fieldLink RX0 29 "TrueWeights$Thing" "owner" "I" : Cond) ∈ lw_use := lw_use_at 114 rfl rfl
set_option maxRecDepth 20000 in
theorem k_115 : (.fieldLink RX2 75 "TrueWeights$Thing" "owner" "I" : Cond) ∈ lw_use := lw_use_at 115 rfl rfl
set_option maxRecDepth 20000 in
theorem k_116 : (.fieldLink RX0 32 "TrueWeights$Thing" "drawCount" "I" : Cond) ∈ lw_use := lw_use_at 116 rfl rfl
set_option maxRecDepth 20000 in
theorem k_117 : (.fieldLink RX2 78 "TrueWeights$Thing" "trialsMade" "I" : Cond) ∈ lw_use := lw_use_at 117 rfl rfl
set_option maxRecDepth 20000 in
theorem k_118 : (.fieldLink RX0 108 "TrueWeights$Thing" "trialsMade" "I" : Cond) ∈ lw_use := lw_use_at 118 rfl rfl
set_option maxRecDepth 20000 in
theorem k_119 : (.fieldLink RX2 92 "TrueWeights$Thing" "chargesMade" "I" : Cond) ∈ lw_use := lw_use_at 119 rfl rfl
set_option maxRecDepth 20000 in
theorem k_120 : (.fieldLink RX0 16 "TrueWeights$Thing" "sealNumber" "I" : Cond) ∈ lw_use := lw_use_at 120 rfl rfl
set_option maxRecDepth 20000 in
theorem k_121 : (.fieldLink RX2 89 "TrueWeights$Thing" "sealNumber" "I" : Cond) ∈ lw_use := lw_use_at 121 rfl rfl
set_option maxRecDepth 20000 in
theorem k_122 : (.fieldLink RX2 81 "TrueWeights$Thing" "latest" "LTrueWeights$Trial;" : Cond) ∈ lw_use := lw_use_at 122 rfl rfl
set_option maxRecDepth 20000 in
theorem k_123 : (.fieldLink RX0 55 "TrueWeights$Thing" "latest" "LTrueWeights$Trial;" : Cond) ∈ lw_use := lw_use_at 123 rfl rfl
set_option maxRecDepth 20000 in
theorem k_145 : (.methodLink RL 23 yX2_about : Cond) ∈ lw_use := lw_use_at 145 rfl rfl
set_option maxRecDepth 20000 in
theorem k_146 : (.instanceMethod yX2_about : Cond) ∈ lw_use := lw_use_at 146 rfl rfl
set_option maxRecDepth 20000 in
theorem k_147 : (.selects RX2 yX2_about yX2_about : Cond) ∈ lw_use := lw_use_at 147 rfl rfl
set_option maxRecDepth 20000 in
theorem k_148 : (.code yX2_about cX2_about 4 (some .int) : Cond) ∈ lw_use := lw_use_at 148 rfl rfl
set_option maxRecDepth 20000 in
theorem k_149 : (.methodLink RX2 62 yX2_thingAt : Cond) ∈ lw_use := lw_use_at 149 rfl rfl
set_option maxRecDepth 20000 in
theorem k_151 : (.instanceMethod yX2_thingAt : Cond) ∈ lw_use := lw_use_at 151 rfl rfl
set_option maxRecDepth 20000 in
theorem k_152 : (.code yX2_thingAt cX2_thingAt 2 (some (.object "TrueWeights$Thing")) : Cond) ∈ lw_use := lw_use_at 152 rfl rfl
set_option maxRecDepth 20000 in
theorem k_153 : (.methodLink RX2 85 yX2_numberOf : Cond) ∈ lw_use := lw_use_at 153 rfl rfl
set_option maxRecDepth 20000 in
theorem k_154 : (.static yX2_numberOf : Cond) ∈ lw_use := lw_use_at 154 rfl rfl
set_option maxRecDepth 20000 in
theorem k_155 : (.code yX2_numberOf cX2_numberOf 1 (some .int) : Cond) ∈ lw_use := lw_use_at 155 rfl rfl
set_option maxRecDepth 20000 in
theorem k_156 : (.constant RX2 108 (-1000000) : Cond) ∈ lw_use := lw_use_at 156 rfl rfl
set_option maxRecDepth 20000 in
theorem k_157 : (.methodLink RL 28 yX2_draw : Cond) ∈ lw_use := lw_use_at 157 rfl rfl
set_option maxRecDepth 20000 in
theorem k_158 : (.instanceMethod yX2_draw : Cond) ∈ lw_use := lw_use_at 158 rfl rfl
set_option maxRecDepth 20000 in
theorem k_159 : (.selects RX2 yX2_draw yX2_draw : Cond) ∈ lw_use := lw_use_at 159 rfl rfl
set_option maxRecDepth 20000 in
theorem k_160 : (.code yX2_draw cX2_draw 4 (some .int) : Cond) ∈ lw_use := lw_use_at 160 rfl rfl
set_option maxRecDepth 20000 in
theorem k_161 : (.constant RX2 95 (-100000) : Cond) ∈ lw_use := lw_use_at 161 rfl rfl
set_option maxRecDepth 20000 in
theorem k_162 : (.constant RX2 96 (100000) : Cond) ∈ lw_use := lw_use_at 162 rfl rfl
set_option maxRecDepth 20000 in
theorem k_163 : (.methodLink RX2 97 yX0_hasAllDraws : Cond) ∈ lw_use := lw_use_at 163 rfl rfl
set_option maxRecDepth 20000 in
theorem k_164 : (.instanceMethod yX0_hasAllDraws : Cond) ∈ lw_use := lw_use_at 164 rfl rfl
set_option maxRecDepth 20000 in
theorem k_165 : (.selects RX0 yX0_hasAllDraws yX0_hasAllDraws : Cond) ∈ lw_use := lw_use_at 165 rfl rfl
set_option maxRecDepth 20000 in
theorem k_166 : (.code yX0_hasAllDraws cX0_hasAllDraws 1 (some .boolean) : Cond) ∈ lw_use := lw_use_at 166 rfl rfl
set_option maxRecDepth 20000 in
theorem k_167 : (.methodLink RX2 101 yX0_addDraw : Cond) ∈ lw_use := lw_use_at 167 rfl rfl
set_option maxRecDepth 20000 in
theorem k_168 : (.instanceMethod yX0_addDraw : Cond) ∈ lw_use := lw_use_at 168 rfl rfl
set_option maxRecDepth 20000 in
theorem k_169 : (.selects RX0 yX0_addDraw yX0_addDraw : Cond) ∈ lw_use := lw_use_at 169 rfl rfl
set_option maxRecDepth 20000 in
theorem k_170 : (.code yX0_addDraw cX0_addDraw 2 (some .int) : Cond) ∈ lw_use := lw_use_at 170 rfl rfl
set_option maxRecDepth 20000 in
theorem k_172 : (.methodLink RL 32 yX2_allow : Cond) ∈ lw_use := lw_use_at 172 rfl rfl
set_option maxRecDepth 20000 in
theorem k_173 : (.instanceMethod yX2_allow : Cond) ∈ lw_use := lw_use_at 173 rfl rfl
set_option maxRecDepth 20000 in
theorem k_174 : (.selects RX2 yX2_allow yX2_allow : Cond) ∈ lw_use := lw_use_at 174 rfl rfl
set_option maxRecDepth 20000 in
theorem k_175 : (.code yX2_allow cX2_allow 6 (some .int) : Cond) ∈ lw_use := lw_use_at 175 rfl rfl
set_option maxRecDepth 20000 in
theorem k_176 : (.methodLink RL 37 yX2_move : Cond) ∈ lw_use := lw_use_at 176 rfl rfl
set_option maxRecDepth 20000 in
theorem k_177 : (.instanceMethod yX2_move : Cond) ∈ lw_use := lw_use_at 177 rfl rfl
set_option maxRecDepth 20000 in
theorem k_178 : (.selects RX2 yX2_move yX2_move : Cond) ∈ lw_use := lw_use_at 178 rfl rfl
set_option maxRecDepth 20000 in
theorem k_179 : (.code yX2_move cX2_move 5 (some .int) : Cond) ∈ lw_use := lw_use_at 179 rfl rfl
set_option maxRecDepth 20000 in
theorem k_180 : (.methodLink RX2 105 yX0_isOfTrade : Cond) ∈ lw_use := lw_use_at 180 rfl rfl
set_option maxRecDepth 20000 in
theorem k_181 : (.instanceMethod yX0_isOfTrade : Cond) ∈ lw_use := lw_use_at 181 rfl rfl
set_option maxRecDepth 20000 in
theorem k_182 : (.selects RX0 yX0_isOfTrade yX0_isOfTrade : Cond) ∈ lw_use := lw_use_at 182 rfl rfl
set_option maxRecDepth 20000 in
theorem k_183 : (.code yX0_isOfTrade cX0_isOfTrade 1 (some .boolean) : Cond) ∈ lw_use := lw_use_at 183 rfl rfl
set_option maxRecDepth 20000 in
theorem k_184 : (.methodLink RL 41 yX2_trial : Cond) ∈ lw_use := lw_use_at 184 rfl rfl
set_option maxRecDepth 20000 in
theorem k_185 : (.instanceMethod yX2_trial : Cond) ∈ lw_use := lw_use_at 185 rfl rfl
set_option maxRecDepth 20000 in
theorem k_186 : (.selects RX2 yX2_trial yX2_trial : Cond) ∈ lw_use := lw_use_at 186 rfl rfl
set_option maxRecDepth 20000 in
theorem k_187 : (.code yX2_trial cX2_trial 11 (some .int) : Cond) ∈ lw_use := lw_use_at 187 rfl rfl
set_option maxRecDepth 20000 in
theorem k_188 : (.methodLink RX2 109 yX0_canBeTried : Cond) ∈ lw_use := lw_use_at 188 rfl rfl
set_option maxRecDepth 20000 in
theorem k_189 : (.instanceMethod yX0_canBeTried : Cond) ∈ lw_use := lw_use_at 189 rfl rfl
set_option maxRecDepth 20000 in
theorem k_190 : (.selects RX0 yX0_canBeTried yX0_canBeTried : Cond) ∈ lw_use := lw_use_at 190 rfl rfl
set_option maxRecDepth 20000 in
theorem k_191 : (.code yX0_canBeTried cX0_canBeTried 1 (some .boolean) : Cond) ∈ lw_use := lw_use_at 191 rfl rfl
set_option maxRecDepth 20000 in
theorem k_192 : (.methodLink RX0 72 yX0_hasAllDraws : Cond) ∈ lw_use := lw_use_at 192 rfl rfl
set_option maxRecDepth 20000 in
theorem k_193 : (.methodLink RX2 112 yX0_canTryOthers : Cond) ∈ lw_use := lw_use_at 193 rfl rfl
set_option maxRecDepth 20000 in
theorem k_194 : (.instanceMethod yX0_canTryOthers : Cond) ∈ lw_use := lw_use_at 194 rfl rfl
set_option maxRecDepth 20000 in
theorem k_195 : (.selects RX0 yX0_canTryOthers yX0_canTryOthers : Cond) ∈ lw_use := lw_use_at 195 rfl rfl
set_option maxRecDepth 20000 in
theorem k_196 : (.code yX0_canTryOthers cX0_canTryOthers 2 (some .boolean) : Cond) ∈ lw_use := lw_use_at 196 rfl rfl
set_option maxRecDepth 20000 in
theorem k_197 : (.methodLink RX0 76 yX0_isOfTrade : Cond) ∈ lw_use := lw_use_at 197 rfl rfl
set_option maxRecDepth 20000 in
theorem k_198 : (.methodLink RX0 79 yX0_isSettledNow : Cond) ∈ lw_use := lw_use_at 198 rfl rfl
set_option maxRecDepth 20000 in
theorem k_199 : (.instanceMethod yX0_isSettledNow : Cond) ∈ lw_use := lw_use_at 199 rfl rfl
set_option maxRecDepth 20000 in
theorem k_200 : (.selects RX0 yX0_isSettledNow yX0_isSettledNow : Cond) ∈ lw_use := lw_use_at 200 rfl rfl
set_option maxRecDepth 20000 in
theorem k_201 : (.code yX0_isSettledNow cX0_isSettledNow 1 (some .boolean) : Cond) ∈ lw_use := lw_use_at 201 rfl rfl
set_option maxRecDepth 20000 in
theorem k_202 : (.methodLink RX0 82 yX0_isDueOn : Cond) ∈ lw_use := lw_use_at 202 rfl rfl
set_option maxRecDepth 20000 in
theorem k_203 : (.instanceMethod yX0_isDueOn : Cond) ∈ lw_use := lw_use_at 203 rfl rfl
set_option maxRecDepth 20000 in
theorem k_204 : (.selects RX0 yX0_isDueOn yX0_isDueOn : Cond) ∈ lw_use := lw_use_at 204 rfl rfl
set_option maxRecDepth 20000 in
theorem k_205 : (.code yX0_isDueOn cX0_isDueOn 2 (some .boolean) : Cond) ∈ lw_use := lw_use_at 205 rfl rfl
set_option maxRecDepth 20000 in
theorem k_206 : (.methodLink RX0 65 yX0_daysUntilDue : Cond) ∈ lw_use := lw_use_at 206 rfl rfl
set_option maxRecDepth 20000 in
theorem k_207 : (.instanceMethod yX0_daysUntilDue : Cond) ∈ lw_use := lw_use_at 207 rfl rfl
set_option maxRecDepth 20000 in
theorem k_208 : (.selects RX0 yX0_daysUntilDue yX0_daysUntilDue : Cond) ∈ lw_use := lw_use_at 208 rfl rfl
set_option maxRecDepth 20000 in
theorem k_209 : (.code yX0_daysUntilDue cX0_daysUntilDue 2 (some .int) : Cond) ∈ lw_use := lw_use_at 209 rfl rfl
set_option maxRecDepth 20000 in
theorem k_210 : (.methodLink RX0 45 yJ9_max_7cf53 : Cond) ∈ lw_use := lw_use_at 210 rfl rfl
set_option maxRecDepth 20000 in
theorem k_211 : (.static yJ9_max_7cf53 : Cond) ∈ lw_use := lw_use_at 211 rfl rfl
set_option maxRecDepth 20000 in
theorem k_212 : (.code yJ9_max_7cf53 cJ9_max_7cf53 2 (some .int) : Cond) ∈ lw_use := lw_use_at 212 rfl rfl
set_option maxRecDepth 20000 in
theorem k_213 : (.methodLink RX2 118 yX0_spanOn : Cond) ∈ lw_use := lw_use_at 213 rfl rfl
set_option maxRecDepth 20000 in
theorem k_214 : (.instanceMethod yX0_spanOn : Cond) ∈ lw_use := lw_use_at 214 rfl rfl
set_option maxRecDepth 20000 in
theorem k_215 : (.selects RX0 yX0_spanOn yX0_spanOn : Cond) ∈ lw_use := lw_use_at 215 rfl rfl
set_option maxRecDepth 20000 in
theorem k_216 : (.code yX0_spanOn cX0_spanOn 3 (some .int) : Cond) ∈ lw_use := lw_use_at 216 rfl rfl
set_option maxRecDepth 20000 in
theorem k_217 : (.methodLink RX2 121 yX0_middleDraw : Cond) ∈ lw_use := lw_use_at 217 rfl rfl
set_option maxRecDepth 20000 in
theorem k_218 : (.instanceMethod yX0_middleDraw : Cond) ∈ lw_use := lw_use_at 218 rfl rfl
set_option maxRecDepth 20000 in
theorem k_219 : (.selects RX0 yX0_middleDraw yX0_middleDraw : Cond) ∈ lw_use := lw_use_at 219 rfl rfl
set_option maxRecDepth 20000 in
theorem k_220 : (.code yX0_middleDraw cX0_middleDraw 1 (some .int) : Cond) ∈ lw_use := lw_use_at 220 rfl rfl
set_option maxRecDepth 20000 in
theorem k_221 : (.methodLink RX0 48 yX0_leastDraw : Cond) ∈ lw_use := lw_use_at 221 rfl rfl
set_option maxRecDepth 20000 in
theorem k_222 : (.instanceMethod yX0_leastDraw : Cond) ∈ lw_use := lw_use_at 222 rfl rfl
set_option maxRecDepth 20000 in
theorem k_223 : (.selects RX0 yX0_leastDraw yX0_leastDraw : Cond) ∈ lw_use := lw_use_at 223 rfl rfl
set_option maxRecDepth 20000 in
theorem k_224 : (.code yX0_leastDraw cX0_leastDraw 1 (some .int) : Cond) ∈ lw_use := lw_use_at 224 rfl rfl
set_option maxRecDepth 20000 in
theorem k_225 : (.methodLink RX0 39 yJ9_min_7cf53 : Cond) ∈ lw_use := lw_use_at 225 rfl rfl
set_option maxRecDepth 20000 in
theorem k_226 : (.static yJ9_min_7cf53 : Cond) ∈ lw_use := lw_use_at 226 rfl rfl
set_option maxRecDepth 20000 in
theorem k_227 : (.code yJ9_min_7cf53 cJ9_min_7cf53 2 (some .int) : Cond) ∈ lw_use := lw_use_at 227 rfl rfl
set_option maxRecDepth 20000 in
theorem k_228 : (.methodLink RX0 52 yX0_greatestDraw : Cond) ∈ lw_use := lw_use_at 228 rfl rfl
set_option maxRecDepth 20000 in
theorem k_229 : (.instanceMethod yX0_greatestDraw : Cond) ∈ lw_use := lw_use_at 229 rfl rfl
set_option maxRecDepth 20000 in
theorem k_230 : (.selects RX0 yX0_greatestDraw yX0_greatestDraw : Cond) ∈ lw_use := lw_use_at 230 rfl rfl
set_option maxRecDepth 20000 in
theorem k_231 : (.code yX0_greatestDraw cX0_greatestDraw 1 (some .int) : Cond) ∈ lw_use := lw_use_at 231 rfl rfl
set_option maxRecDepth 20000 in
theorem k_232 : (.methodLink RX2 125 yX0_spreadOfDraws : Cond) ∈ lw_use := lw_use_at 232 rfl rfl
set_option maxRecDepth 20000 in
theorem k_233 : (.instanceMethod yX0_spreadOfDraws : Cond) ∈ lw_use := lw_use_at 233 rfl rfl
set_option maxRecDepth 20000 in
theorem k_234 : (.selects RX0 yX0_spreadOfDraws yX0_spreadOfDraws : Cond) ∈ lw_use := lw_use_at 234 rfl rfl
set_option maxRecDepth 20000 in
theorem k_235 : (.code yX0_spreadOfDraws cX0_spreadOfDraws 1 (some .int) : Cond) ∈ lw_use := lw_use_at 235 rfl rfl
set_option maxRecDepth 20000 in
theorem k_236 : (.methodLink RX2 128 yX0_errorHeld : Cond) ∈ lw_use := lw_use_at 236 rfl rfl
set_option maxRecDepth 20000 in
theorem k_237 : (.instanceMethod yX0_errorHeld : Cond) ∈ lw_use := lw_use_at 237 rfl rfl
set_option maxRecDepth 20000 in
theorem k_238 : (.selects RX0 yX0_errorHeld yX0_errorHeld : Cond) ∈ lw_use := lw_use_at 238 rfl rfl
set_option maxRecDepth 20000 in
theorem k_239 : (.code yX0_errorHeld cX0_errorHeld 1 (some .int) : Cond) ∈ lw_use := lw_use_at 239 rfl rfl
set_option maxRecDepth 20000 in
theorem k_240 : (.instantiable RX1 10 : Cond) ∈ lw_use := lw_use_at 240 rfl rfl
set_option maxRecDepth 20000 in
theorem k_241 : (.methodLink RX2 131 yX1_init : Cond) ∈ lw_use := lw_use_at 241 rfl rfl
set_option maxRecDepth 20000 in
theorem k_242 : (.instanceMethod yX1_init : Cond) ∈ lw_use := lw_use_at 242 rfl rfl
set_option maxRecDepth 20000 in
theorem k_243 : (.code yX1_init cX1_init 8 none : Cond) ∈ lw_use := lw_use_at 243 rfl rfl
set_option maxRecDepth 20000 in
theorem k_245 : (.fieldLink RX1 13 "TrueWeights$Trial" "number" "I" : Cond) ∈ lw_use := lw_use_at 245 rfl rfl
set_option maxRecDepth 20000 in
theorem k_246 : (.fieldLink RX2 138 "TrueWeights$Trial" "number" "I" : Cond) ∈ lw_use := lw_use_at 246 rfl rfl
set_option maxRecDepth 20000 in
theorem k_247 : (.fieldLink RX1 17 "TrueWeights$Trial" "tried" "I" : Cond) ∈ lw_use := lw_use_at 247 rfl rfl
set_option maxRecDepth 20000 in
theorem k_248 : (.fieldLink RX2 145 "TrueWeights$Trial" "tried" "I" : Cond) ∈ lw_use := lw_use_at 248 rfl rfl
set_option maxRecDepth 20000 in
theorem k_249 : (.fieldLink RX1 20 "TrueWeights$Trial" "master" "I" : Cond) ∈ lw_use := lw_use_at 249 rfl rfl
set_option maxRecDepth 20000 in
theorem k_250 : (.fieldLink RX2 148 "TrueWeights$Trial" "master" "I" : Cond) ∈ lw_use := lw_use_at 250 rfl rfl
set_option maxRecDepth 20000 in
theorem k_251 : (.fieldLink RX1 23 "TrueWeights$Trial" "base" "LTrueWeights$Trial;" : Cond) ∈ lw_use := lw_use_at 251 rfl rfl
set_option maxRecDepth 20000 in
theorem k_252 : (.fieldLink RX2 167 "TrueWeights$Trial" "base" "LTrueWeights$Trial;" : Cond) ∈ lw_use := lw_use_at 252 rfl rfl
set_option maxRecDepth 20000 in
theorem k_253 : (.fieldLink RX1 27 "TrueWeights$Trial" "dayMade" "I" : Cond) ∈ lw_use := lw_use_at 253 rfl rfl
set_option maxRecDepth 20000 in
theorem k_254 : (.fieldLink RX2 151 "TrueWeights$Trial" "dayMade" "I" : Cond) ∈ lw_use := lw_use_at 254 rfl rfl
set_option maxRecDepth 20000 in
theorem k_255 : (.fieldLink RX0 69 "TrueWeights$Trial" "dayMade" "I" : Cond) ∈ lw_use := lw_use_at 255 rfl rfl
set_option maxRecDepth 20000 in
theorem k_256 : (.fieldLink RX1 30 "TrueWeights$Trial" "errorTold" "I" : Cond) ∈ lw_use := lw_use_at 256 rfl rfl
set_option maxRecDepth 20000 in
theorem k_257 : (.fieldLink RX2 154 "TrueWeights$Trial" "errorTold" "I" : Cond) ∈ lw_use := lw_use_at 257 rfl rfl
set_option maxRecDepth 20000 in
theorem k_258 : (.fieldLink RX0 86 "TrueWeights$Trial" "errorTold" "I" : Cond) ∈ lw_use := lw_use_at 258 rfl rfl
set_option maxRecDepth 20000 in
theorem k_259 : (.fieldLink RX1 33 "TrueWeights$Trial" "spanThen" "I" : Cond) ∈ lw_use := lw_use_at 259 rfl rfl
set_option maxRecDepth 20000 in
theorem k_260 : (.fieldLink RX2 157 "TrueWeights$Trial" "spanThen" "I" : Cond) ∈ lw_use := lw_use_at 260 rfl rfl
set_option maxRecDepth 20000 in
theorem k_261 : (.fieldLink RX0 95 "TrueWeights$Trial" "spanThen" "I" : Cond) ∈ lw_use := lw_use_at 261 rfl rfl
set_option maxRecDepth 20000 in
theorem k_262 : (.fieldLink RX1 7 "TrueWeights$Trial" "isSettled" "Z" : Cond) ∈ lw_use := lw_use_at 262 rfl rfl
set_option maxRecDepth 20000 in
theorem k_263 : (.fieldLink RX2 160 "TrueWeights$Trial" "isSettled" "Z" : Cond) ∈ lw_use := lw_use_at 263 rfl rfl
set_option maxRecDepth 20000 in
theorem k_264 : (.fieldLink RX0 59 "TrueWeights$Trial" "isSettled" "Z" : Cond) ∈ lw_use := lw_use_at 264 rfl rfl
set_option maxRecDepth 20000 in
theorem k_265 : (.fieldLink RX2 164 "TrueWeights$Trial" "foundWronged" "Z" : Cond) ∈ lw_use := lw_use_at 265 rfl rfl
set_option maxRecDepth 20000 in
theorem k_266 : (.fieldLink RX2 206 "TrueWeights$Trial" "isCharged" "Z" : Cond) ∈ lw_use := lw_use_at 266 rfl rfl
set_option maxRecDepth 20000 in
theorem k_288 : (.methodLink RX2 134 yX2_takeTrial : Cond) ∈ lw_use := lw_use_at 288 rfl rfl
set_option maxRecDepth 20000 in
theorem k_290 : (.instanceMethod yX2_takeTrial : Cond) ∈ lw_use := lw_use_at 290 rfl rfl
set_option maxRecDepth 20000 in
theorem k_291 : (.code yX2_takeTrial cX2_takeTrial 4 none : Cond) ∈ lw_use := lw_use_at 291 rfl rfl
set_option maxRecDepth 20000 in
theorem k_292 : (.methodLink RX2 228 yX0_isWrongedBy : Cond) ∈ lw_use := lw_use_at 292 rfl rfl
set_option maxRecDepth 20000 in
theorem k_293 : (.instanceMethod yX0_isWrongedBy : Cond) ∈ lw_use := lw_use_at 293 rfl rfl
set_option maxRecDepth 20000 in
theorem k_294 : (.selects RX0 yX0_isWrongedBy yX0_isWrongedBy : Cond) ∈ lw_use := lw_use_at 294 rfl rfl
set_option maxRecDepth 20000 in
theorem k_295 : (.code yX0_isWrongedBy cX0_isWrongedBy 3 (some .boolean) : Cond) ∈ lw_use := lw_use_at 295 rfl rfl
set_option maxRecDepth 20000 in
theorem k_296 : (.methodLink RX0 92 yJ9_abs_0f7a4 : Cond) ∈ lw_use := lw_use_at 296 rfl rfl
set_option maxRecDepth 20000 in
theorem k_297 : (.static yJ9_abs_0f7a4 : Cond) ∈ lw_use := lw_use_at 297 rfl rfl
set_option maxRecDepth 20000 in
theorem k_298 : (.code yJ9_abs_0f7a4 cJ9_abs_0f7a4 1 (some .int) : Cond) ∈ lw_use := lw_use_at 298 rfl rfl
set_option maxRecDepth 20000 in
theorem k_299 : (.methodLink RX0 105 yX0_spanOn : Cond) ∈ lw_use := lw_use_at 299 rfl rfl
set_option maxRecDepth 20000 in
theorem k_300 : (.methodLink RX2 232 yX0_take : Cond) ∈ lw_use := lw_use_at 300 rfl rfl
set_option maxRecDepth 20000 in
theorem k_301 : (.instanceMethod yX0_take : Cond) ∈ lw_use := lw_use_at 301 rfl rfl
set_option maxRecDepth 20000 in
theorem k_302 : (.selects RX0 yX0_take yX0_take : Cond) ∈ lw_use := lw_use_at 302 rfl rfl
set_option maxRecDepth 20000 in
theorem k_303 : (.code yX0_take cX0_take 2 none : Cond) ∈ lw_use := lw_use_at 303 rfl rfl
set_option maxRecDepth 20000 in
theorem k_304 : (.methodLink RX2 236 yX2_unsettleAllBasedOn : Cond) ∈ lw_use := lw_use_at 304 rfl rfl
set_option maxRecDepth 20000 in
theorem k_306 : (.instanceMethod yX2_unsettleAllBasedOn : Cond) ∈ lw_use := lw_use_at 306 rfl rfl
set_option maxRecDepth 20000 in
theorem k_307 : (.code yX2_unsettleAllBasedOn cX2_unsettleAllBasedOn 4 none : Cond) ∈ lw_use := lw_use_at 307 rfl rfl
set_option maxRecDepth 20000 in
theorem k_308 : (.methodLink RX2 141 yX2_trialAt : Cond) ∈ lw_use := lw_use_at 308 rfl rfl
set_option maxRecDepth 20000 in
theorem k_310 : (.instanceMethod yX2_trialAt : Cond) ∈ lw_use := lw_use_at 310 rfl rfl
set_option maxRecDepth 20000 in
theorem k_311 : (.code yX2_trialAt cX2_trialAt 2 (some (.object "TrueWeights$Trial")) : Cond) ∈ lw_use := lw_use_at 311 rfl rfl
set_option maxRecDepth 20000 in
theorem k_312 : (.methodLink RX2 239 yX1_isShakenBy : Cond) ∈ lw_use := lw_use_at 312 rfl rfl
set_option maxRecDepth 20000 in
theorem k_313 : (.instanceMethod yX1_isShakenBy : Cond) ∈ lw_use := lw_use_at 313 rfl rfl
set_option maxRecDepth 20000 in
theorem k_314 : (.selects RX1 yX1_isShakenBy yX1_isShakenBy : Cond) ∈ lw_use := lw_use_at 314 rfl rfl
set_option maxRecDepth 20000 in
theorem k_315 : (.code yX1_isShakenBy cX1_isShakenBy 2 (some .boolean) : Cond) ∈ lw_use := lw_use_at 315 rfl rfl
set_option maxRecDepth 20000 in
theorem k_316 : (.methodLink RL 45 yX2_told : Cond) ∈ lw_use := lw_use_at 316 rfl rfl
set_option maxRecDepth 20000 in
theorem k_317 : (.instanceMethod yX2_told : Cond) ∈ lw_use := lw_use_at 317 rfl rfl
set_option maxRecDepth 20000 in
theorem k_318 : (.selects RX2 yX2_told yX2_told : Cond) ∈ lw_use := lw_use_at 318 rfl rfl
set_option maxRecDepth 20000 in
theorem k_319 : (.code yX2_told cX2_told 4 (some .int) : Cond) ∈ lw_use := lw_use_at 319 rfl rfl
set_option maxRecDepth 20000 in
theorem k_320 : (.methodLink RL 49 yX2_error : Cond) ∈ lw_use := lw_use_at 320 rfl rfl
set_option maxRecDepth 20000 in
theorem k_321 : (.instanceMethod yX2_error : Cond) ∈ lw_use := lw_use_at 321 rfl rfl
set_option maxRecDepth 20000 in
theorem k_322 : (.selects RX2 yX2_error yX2_error : Cond) ∈ lw_use := lw_use_at 322 rfl rfl
set_option maxRecDepth 20000 in
theorem k_323 : (.code yX2_error cX2_error 3 (some .int) : Cond) ∈ lw_use := lw_use_at 323 rfl rfl
set_option maxRecDepth 20000 in
theorem k_324 : (.methodLink RX2 170 yX0_isMeasured : Cond) ∈ lw_use := lw_use_at 324 rfl rfl
set_option maxRecDepth 20000 in
theorem k_325 : (.instanceMethod yX0_isMeasured : Cond) ∈ lw_use := lw_use_at 325 rfl rfl
set_option maxRecDepth 20000 in
theorem k_326 : (.selects RX0 yX0_isMeasured yX0_isMeasured : Cond) ∈ lw_use := lw_use_at 326 rfl rfl
set_option maxRecDepth 20000 in
theorem k_327 : (.code yX0_isMeasured cX0_isMeasured 1 (some .boolean) : Cond) ∈ lw_use := lw_use_at 327 rfl rfl
set_option maxRecDepth 20000 in
theorem k_328 : (.methodLink RL 53 yX2_span : Cond) ∈ lw_use := lw_use_at 328 rfl rfl
set_option maxRecDepth 20000 in
theorem k_329 : (.instanceMethod yX2_span : Cond) ∈ lw_use := lw_use_at 329 rfl rfl
set_option maxRecDepth 20000 in
theorem k_330 : (.selects RX2 yX2_span yX2_span : Cond) ∈ lw_use := lw_use_at 330 rfl rfl
set_option maxRecDepth 20000 in
theorem k_331 : (.code yX2_span cX2_span 3 (some .int) : Cond) ∈ lw_use := lw_use_at 331 rfl rfl
set_option maxRecDepth 20000 in
theorem k_332 : (.methodLink RL 57 yX2_settled : Cond) ∈ lw_use := lw_use_at 332 rfl rfl
set_option maxRecDepth 20000 in
theorem k_333 : (.instanceMethod yX2_settled : Cond) ∈ lw_use := lw_use_at 333 rfl rfl
set_option maxRecDepth 20000 in
theorem k_334 : (.selects RX2 yX2_settled yX2_settled : Cond) ∈ lw_use := lw_use_at 334 rfl rfl
set_option maxRecDepth 20000 in
theorem k_335 : (.code yX2_settled cX2_settled 3 (some .int) : Cond) ∈ lw_use := lw_use_at 335 rfl rfl
set_option maxRecDepth 20000 in
theorem k_336 : (.methodLink RX2 173 yX0_isSettledNow : Cond) ∈ lw_use := lw_use_at 336 rfl rfl
set_option maxRecDepth 20000 in
theorem k_337 : (.methodLink RL 61 yX2_due : Cond) ∈ lw_use := lw_use_at 337 rfl rfl
set_option maxRecDepth 20000 in
theorem k_338 : (.instanceMethod yX2_due : Cond) ∈ lw_use := lw_use_at 338 rfl rfl
set_option maxRecDepth 20000 in
theorem k_339 : (.selects RX2 yX2_due yX2_due : Cond) ∈ lw_use := lw_use_at 339 rfl rfl
set_option maxRecDepth 20000 in
theorem k_340 : (.code yX2_due cX2_due 3 (some .int) : Cond) ∈ lw_use := lw_use_at 340 rfl rfl
set_option maxRecDepth 20000 in
theorem k_341 : (.methodLink RX2 176 yX0_isDueOn : Cond) ∈ lw_use := lw_use_at 341 rfl rfl
set_option maxRecDepth 20000 in
theorem k_342 : (.methodLink RL 65 yX2_left : Cond) ∈ lw_use := lw_use_at 342 rfl rfl
set_option maxRecDepth 20000 in
theorem k_343 : (.instanceMethod yX2_left : Cond) ∈ lw_use := lw_use_at 343 rfl rfl
set_option maxRecDepth 20000 in
theorem k_344 : (.selects RX2 yX2_left yX2_left : Cond) ∈ lw_use := lw_use_at 344 rfl rfl
set_option maxRecDepth 20000 in
theorem k_345 : (.code yX2_left cX2_left 3 (some .int) : Cond) ∈ lw_use := lw_use_at 345 rfl rfl
set_option maxRecDepth 20000 in
theorem k_346 : (.methodLink RX2 179 yX0_daysUntilDue : Cond) ∈ lw_use := lw_use_at 346 rfl rfl
set_option maxRecDepth 20000 in
theorem k_347 : (.methodLink RL 69 yX2_chain : Cond) ∈ lw_use := lw_use_at 347 rfl rfl
set_option maxRecDepth 20000 in
theorem k_348 : (.instanceMethod yX2_chain : Cond) ∈ lw_use := lw_use_at 348 rfl rfl
set_option maxRecDepth 20000 in
theorem k_349 : (.selects RX2 yX2_chain yX2_chain : Cond) ∈ lw_use := lw_use_at 349 rfl rfl
set_option maxRecDepth 20000 in
theorem k_350 : (.code yX2_chain cX2_chain 6 (some .int) : Cond) ∈ lw_use := lw_use_at 350 rfl rfl
set_option maxRecDepth 20000 in
theorem k_351 : (.methodLink RL 73 yX2_unsettled : Cond) ∈ lw_use := lw_use_at 351 rfl rfl
set_option maxRecDepth 20000 in
theorem k_352 : (.instanceMethod yX2_unsettled : Cond) ∈ lw_use := lw_use_at 352 rfl rfl
set_option maxRecDepth 20000 in
theorem k_353 : (.selects RX2 yX2_unsettled yX2_unsettled : Cond) ∈ lw_use := lw_use_at 353 rfl rfl
set_option maxRecDepth 20000 in
theorem k_354 : (.code yX2_unsettled cX2_unsettled 4 (some .int) : Cond) ∈ lw_use := lw_use_at 354 rfl rfl
set_option maxRecDepth 20000 in
theorem k_355 : (.methodLink RL 78 yX2_judge : Cond) ∈ lw_use := lw_use_at 355 rfl rfl
set_option maxRecDepth 20000 in
theorem k_356 : (.instanceMethod yX2_judge : Cond) ∈ lw_use := lw_use_at 356 rfl rfl
set_option maxRecDepth 20000 in
theorem k_357 : (.selects RX2 yX2_judge yX2_judge : Cond) ∈ lw_use := lw_use_at 357 rfl rfl
set_option maxRecDepth 20000 in
theorem k_358 : (.code yX2_judge cX2_judge 3 (some .int) : Cond) ∈ lw_use := lw_use_at 358 rfl rfl
set_option maxRecDepth 20000 in
theorem k_359 : (.methodLink RX2 182 yX2_judgement : Cond) ∈ lw_use := lw_use_at 359 rfl rfl
set_option maxRecDepth 20000 in
theorem k_361 : (.instanceMethod yX2_judgement : Cond) ∈ lw_use := lw_use_at 361 rfl rfl
set_option maxRecDepth 20000 in
theorem k_362 : (.code yX2_judgement cX2_judgement 5 (some .int) : Cond) ∈ lw_use := lw_use_at 362 rfl rfl
set_option maxRecDepth 20000 in
theorem k_363 : (.methodLink RX2 186 yX0_errorSize : Cond) ∈ lw_use := lw_use_at 363 rfl rfl
set_option maxRecDepth 20000 in
theorem k_364 : (.instanceMethod yX0_errorSize : Cond) ∈ lw_use := lw_use_at 364 rfl rfl
set_option maxRecDepth 20000 in
theorem k_365 : (.selects RX0 yX0_errorSize yX0_errorSize : Cond) ∈ lw_use := lw_use_at 365 rfl rfl
set_option maxRecDepth 20000 in
theorem k_366 : (.code yX0_errorSize cX0_errorSize 1 (some .int) : Cond) ∈ lw_use := lw_use_at 366 rfl rfl
set_option maxRecDepth 20000 in
theorem k_367 : (.methodLink RX0 89 yX0_errorHeld : Cond) ∈ lw_use := lw_use_at 367 rfl rfl
set_option maxRecDepth 20000 in
theorem k_368 : (.methodLink RX2 189 yX2_allowanceFor : Cond) ∈ lw_use := lw_use_at 368 rfl rfl
set_option maxRecDepth 20000 in
theorem k_370 : (.instanceMethod yX2_allowanceFor : Cond) ∈ lw_use := lw_use_at 370 rfl rfl
set_option maxRecDepth 20000 in
theorem k_371 : (.code yX2_allowanceFor cX2_allowanceFor 3 (some .int) : Cond) ∈ lw_use := lw_use_at 371 rfl rfl
set_option maxRecDepth 20000 in
theorem k_372 : (.methodLink RL 82 yX2_stays : Cond) ∈ lw_use := lw_use_at 372 rfl rfl
set_option maxRecDepth 20000 in
theorem k_373 : (.instanceMethod yX2_stays : Cond) ∈ lw_use := lw_use_at 373 rfl rfl
set_option maxRecDepth 20000 in
theorem k_374 : (.selects RX2 yX2_stays yX2_stays : Cond) ∈ lw_use := lw_use_at 374 rfl rfl
set_option maxRecDepth 20000 in
theorem k_375 : (.code yX2_stays cX2_stays 6 (some .int) : Cond) ∈ lw_use := lw_use_at 375 rfl rfl
set_option maxRecDepth 20000 in
theorem k_376 : (.methodLink RX2 192 yX0_daysNoWiderThan : Cond) ∈ lw_use := lw_use_at 376 rfl rfl
set_option maxRecDepth 20000 in
theorem k_377 : (.instanceMethod yX0_daysNoWiderThan : Cond) ∈ lw_use := lw_use_at 377 rfl rfl
set_option maxRecDepth 20000 in
theorem k_378 : (.selects RX0 yX0_daysNoWiderThan yX0_daysNoWiderThan : Cond) ∈ lw_use := lw_use_at 378 rfl rfl
set_option maxRecDepth 20000 in
theorem k_379 : (.code yX0_daysNoWiderThan cX0_daysNoWiderThan 5 (some .int) : Cond) ∈ lw_use := lw_use_at 379 rfl rfl
set_option maxRecDepth 20000 in
theorem k_380 : (.constantLong RX0 98 (100) : Cond) ∈ lw_use := lw_use_at 380 rfl rfl
set_option maxRecDepth 20000 in
theorem k_381 : (.constantLong RX0 100 (20000) : Cond) ∈ lw_use := lw_use_at 381 rfl rfl
set_option maxRecDepth 20000 in
theorem k_382 : (.methodLink RX0 102 yJ9_min_f86c9 : Cond) ∈ lw_use := lw_use_at 382 rfl rfl
set_option maxRecDepth 20000 in
theorem k_383 : (.static yJ9_min_f86c9 : Cond) ∈ lw_use := lw_use_at 383 rfl rfl
set_option maxRecDepth 20000 in
theorem k_384 : (.code yJ9_min_f86c9 cJ9_min_f86c9 4 (some .long) : Cond) ∈ lw_use := lw_use_at 384 rfl rfl
set_option maxRecDepth 20000 in
theorem k_385 : (.methodLink RL 86 yX2_seal : Cond) ∈ lw_use := lw_use_at 385 rfl rfl
set_option maxRecDepth 20000 in
theorem k_386 : (.instanceMethod yX2_seal : Cond) ∈ lw_use := lw_use_at 386 rfl rfl
set_option maxRecDepth 20000 in
theorem k_387 : (.selects RX2 yX2_seal yX2_seal : Cond) ∈ lw_use := lw_use_at 387 rfl rfl
set_option maxRecDepth 20000 in
theorem k_388 : (.code yX2_seal cX2_seal 4 (some .int) : Cond) ∈ lw_use := lw_use_at 388 rfl rfl
set_option maxRecDepth 20000 in
theorem k_389 : (.methodLink RX2 196 yX2_isSealNumber : Cond) ∈ lw_use := lw_use_at 389 rfl rfl
set_option maxRecDepth 20000 in
theorem k_390 : (.static yX2_isSealNumber : Cond) ∈ lw_use := lw_use_at 390 rfl rfl
set_option maxRecDepth 20000 in
theorem k_391 : (.code yX2_isSealNumber cX2_isSealNumber 1 (some .boolean) : Cond) ∈ lw_use := lw_use_at 391 rfl rfl
set_option maxRecDepth 20000 in
theorem k_392 : (.methodLink RX2 199 yX2_wasPutOn : Cond) ∈ lw_use := lw_use_at 392 rfl rfl
set_option maxRecDepth 20000 in
theorem k_394 : (.instanceMethod yX2_wasPutOn : Cond) ∈ lw_use := lw_use_at 394 rfl rfl
set_option maxRecDepth 20000 in
theorem k_395 : (.code yX2_wasPutOn cX2_wasPutOn 2 (some .boolean) : Cond) ∈ lw_use := lw_use_at 395 rfl rfl
set_option maxRecDepth 20000 in
theorem k_396 : (.methodLink RX2 202 yX2_markPutOn : Cond) ∈ lw_use := lw_use_at 396 rfl rfl
set_option maxRecDepth 20000 in
theorem k_398 : (.instanceMethod yX2_markPutOn : Cond) ∈ lw_use := lw_use_at 398 rfl rfl
set_option maxRecDepth 20000 in
theorem k_399 : (.code yX2_markPutOn cX2_markPutOn 2 none : Cond) ∈ lw_use := lw_use_at 399 rfl rfl
set_option maxRecDepth 20000 in
theorem k_400 : (.methodLink RL 90 yX2_sealed : Cond) ∈ lw_use := lw_use_at 400 rfl rfl
set_option maxRecDepth 20000 in
theorem k_401 : (.instanceMethod yX2_sealed : Cond) ∈ lw_use := lw_use_at 401 rfl rfl
set_option maxRecDepth 20000 in
theorem k_402 : (.selects RX2 yX2_sealed yX2_sealed : Cond) ∈ lw_use := lw_use_at 402 rfl rfl
set_option maxRecDepth 20000 in
theorem k_403 : (.code yX2_sealed cX2_sealed 4 (some .int) : Cond) ∈ lw_use := lw_use_at 403 rfl rfl
set_option maxRecDepth 20000 in
theorem k_404 : (.methodLink RL 94 yX2_charge : Cond) ∈ lw_use := lw_use_at 404 rfl rfl
set_option maxRecDepth 20000 in
theorem k_405 : (.instanceMethod yX2_charge : Cond) ∈ lw_use := lw_use_at 405 rfl rfl
set_option maxRecDepth 20000 in
theorem k_406 : (.selects RX2 yX2_charge yX2_charge : Cond) ∈ lw_use := lw_use_at 406 rfl rfl
set_option maxRecDepth 20000 in
theorem k_407 : (.code yX2_charge cX2_charge 7 (some .int) : Cond) ∈ lw_use := lw_use_at 407 rfl rfl
set_option maxRecDepth 20000 in
theorem k_408 : (.methodLink RX2 212 yJ9_min_7cf53 : Cond) ∈ lw_use := lw_use_at 408 rfl rfl
set_option maxRecDepth 20000 in
theorem k_409 : (.methodLink RL 98 yX2_charged : Cond) ∈ lw_use := lw_use_at 409 rfl rfl
set_option maxRecDepth 20000 in
theorem k_410 : (.instanceMethod yX2_charged : Cond) ∈ lw_use := lw_use_at 410 rfl rfl
set_option maxRecDepth 20000 in
theorem k_411 : (.selects RX2 yX2_charged yX2_charged : Cond) ∈ lw_use := lw_use_at 411 rfl rfl
set_option maxRecDepth 20000 in
theorem k_412 : (.code yX2_charged cX2_charged 2 (some .long) : Cond) ∈ lw_use := lw_use_at 412 rfl rfl
set_option maxRecDepth 20000 in
theorem k_413 : (.constantLong RX2 217 (-1) : Cond) ∈ lw_use := lw_use_at 413 rfl rfl
set_option maxRecDepth 20000 in
theorem k_414 : (.methodLink RL 103 yX2_first : Cond) ∈ lw_use := lw_use_at 414 rfl rfl
set_option maxRecDepth 20000 in
theorem k_415 : (.instanceMethod yX2_first : Cond) ∈ lw_use := lw_use_at 415 rfl rfl
set_option maxRecDepth 20000 in
theorem k_416 : (.selects RX2 yX2_first yX2_first : Cond) ∈ lw_use := lw_use_at 416 rfl rfl
set_option maxRecDepth 20000 in
theorem k_417 : (.code yX2_first cX2_first 3 (some .int) : Cond) ∈ lw_use := lw_use_at 417 rfl rfl
set_option maxRecDepth 20000 in
theorem k_418 : (.methodLink RX2 219 yX2_rankThings : Cond) ∈ lw_use := lw_use_at 418 rfl rfl
set_option maxRecDepth 20000 in
theorem k_420 : (.instanceMethod yX2_rankThings : Cond) ∈ lw_use := lw_use_at 420 rfl rfl
set_option maxRecDepth 20000 in
theorem k_421 : (.code yX2_rankThings cX2_rankThings 4 (some .int) : Cond) ∈ lw_use := lw_use_at 421 rfl rfl
set_option maxRecDepth 20000 in
theorem k_422 : (.methodLink RX2 242 yX2_urgencyOf : Cond) ∈ lw_use := lw_use_at 422 rfl rfl
set_option maxRecDepth 20000 in
theorem k_424 : (.instanceMethod yX2_urgencyOf : Cond) ∈ lw_use := lw_use_at 424 rfl rfl
set_option maxRecDepth 20000 in
theorem k_425 : (.code yX2_urgencyOf cX2_urgencyOf 3 (some .long) : Cond) ∈ lw_use := lw_use_at 425 rfl rfl
set_option maxRecDepth 20000 in
theorem k_426 : (.constantLong RX2 250 (3298534883328) : Cond) ∈ lw_use := lw_use_at 426 rfl rfl
set_option maxRecDepth 20000 in
theorem k_427 : (.constantLong RX2 252 (2199023255552) : Cond) ∈ lw_use := lw_use_at 427 rfl rfl
set_option maxRecDepth 20000 in
theorem k_428 : (.constantLong RX2 254 (1099511627776) : Cond) ∈ lw_use := lw_use_at 428 rfl rfl
set_option maxRecDepth 20000 in
theorem k_429 : (.methodLink RX2 246 yX2_rankBehind : Cond) ∈ lw_use := lw_use_at 429 rfl rfl
set_option maxRecDepth 20000 in
theorem k_431 : (.instanceMethod yX2_rankBehind : Cond) ∈ lw_use := lw_use_at 431 rfl rfl
set_option maxRecDepth 20000 in
theorem k_432 : (.code yX2_rankBehind cX2_rankBehind 6 none : Cond) ∈ lw_use := lw_use_at 432 rfl rfl
set_option maxRecDepth 20000 in
theorem k_433 : (.methodLink RL 107 yX2_count : Cond) ∈ lw_use := lw_use_at 433 rfl rfl
set_option maxRecDepth 20000 in
theorem k_434 : (.instanceMethod yX2_count : Cond) ∈ lw_use := lw_use_at 434 rfl rfl
set_option maxRecDepth 20000 in
theorem k_435 : (.selects RX2 yX2_count yX2_count : Cond) ∈ lw_use := lw_use_at 435 rfl rfl
set_option maxRecDepth 20000 in
theorem k_436 : (.code yX2_count cX2_count 2 (some .int) : Cond) ∈ lw_use := lw_use_at 436 rfl rfl
set_option maxRecDepth 20000 in
theorem k_437 : (.methodLink RX2 222 yX2_howManyDue : Cond) ∈ lw_use := lw_use_at 437 rfl rfl
set_option maxRecDepth 20000 in
theorem k_439 : (.instanceMethod yX2_howManyDue : Cond) ∈ lw_use := lw_use_at 439 rfl rfl
set_option maxRecDepth 20000 in
theorem k_440 : (.code yX2_howManyDue cX2_howManyDue 4 (some .int) : Cond) ∈ lw_use := lw_use_at 440 rfl rfl
set_option maxRecDepth 20000 in
theorem k_441 : (.methodLink RX2 225 yX2_howManyJudged : Cond) ∈ lw_use := lw_use_at 441 rfl rfl
set_option maxRecDepth 20000 in
theorem k_443 : (.instanceMethod yX2_howManyJudged : Cond) ∈ lw_use := lw_use_at 443 rfl rfl
set_option maxRecDepth 20000 in
theorem k_444 : (.code yX2_howManyJudged cX2_howManyJudged 5 (some .int) : Cond) ∈ lw_use := lw_use_at 444 rfl rfl
set_option maxRecDepth 20000 in
theorem k_445 : (.classLink RL 10 RX3 : Cond) ∈ lw_use := lw_use_at 445 rfl rfl
set_option maxRecDepth 20000 in
theorem k_446 : (.instantiable RX3 28 : Cond) ∈ lw_use := lw_use_at 446 rfl rfl
set_option maxRecDepth 20000 in
theorem k_447 : (.methodLink RL 12 yX3_init : Cond) ∈ lw_use := lw_use_at 447 rfl rfl
set_option maxRecDepth 20000 in
theorem k_448 : (.instanceMethod yX3_init : Cond) ∈ lw_use := lw_use_at 448 rfl rfl
set_option maxRecDepth 20000 in
theorem k_449 : (.code yX3_init cX3_init 2 none : Cond) ∈ lw_use := lw_use_at 449 rfl rfl
set_option maxRecDepth 20000 in
theorem k_451 : (.fieldLink RX3 92 "TrueWeightsModel" "day" "I" : Cond) ∈ lw_use := lw_use_at 451 rfl rfl
set_option maxRecDepth 20000 in
theorem k_452 : (.fieldLink RX3 84 "TrueWeightsModel" "things" "I" : Cond) ∈ lw_use := lw_use_at 452 rfl rfl
set_option maxRecDepth 20000 in
theorem k_453 : (.fieldLink RX3 7 "TrueWeightsModel" "kind" "[I" : Cond) ∈ lw_use := lw_use_at 453 rfl rfl
set_option maxRecDepth 20000 in
theorem k_454 : (.fieldLink RX3 13 "TrueWeightsModel" "drift" "[I" : Cond) ∈ lw_use := lw_use_at 454 rfl rfl
set_option maxRecDepth 20000 in
theorem k_455 : (.fieldLink RX3 16 "TrueWeightsModel" "period" "[I" : Cond) ∈ lw_use := lw_use_at 455 rfl rfl
set_option maxRecDepth 20000 in
theorem k_456 : (.fieldLink RX3 19 "TrueWeightsModel" "owner" "[I" : Cond) ∈ lw_use := lw_use_at 456 rfl rfl
set_option maxRecDepth 20000 in
theorem k_457 : (.fieldLink RX3 22 "TrueWeightsModel" "many" "[I" : Cond) ∈ lw_use := lw_use_at 457 rfl rfl
set_option maxRecDepth 20000 in
theorem k_458 : (.fieldLink RX3 25 "TrueWeightsModel" "latest" "[I" : Cond) ∈ lw_use := lw_use_at 458 rfl rfl
set_option maxRecDepth 20000 in
theorem k_459 : (.fieldLink RX3 28 "TrueWeightsModel" "seal" "[I" : Cond) ∈ lw_use := lw_use_at 459 rfl rfl
set_option maxRecDepth 20000 in
theorem k_460 : (.fieldLink RX3 31 "TrueWeightsModel" "charges" "[I" : Cond) ∈ lw_use := lw_use_at 460 rfl rfl
set_option maxRecDepth 20000 in
theorem k_461 : (.fieldLink RX3 34 "TrueWeightsModel" "draws" "[I" : Cond) ∈ lw_use := lw_use_at 461 rfl rfl
set_option maxRecDepth 20000 in
theorem k_462 : (.fieldLink RX3 37 "TrueWeightsModel" "draw" "[I" : Cond) ∈ lw_use := lw_use_at 462 rfl rfl
set_option maxRecDepth 20000 in
theorem k_463 : (.fieldLink RX3 40 "TrueWeightsModel" "allowNew" "[I" : Cond) ∈ lw_use := lw_use_at 463 rfl rfl
set_option maxRecDepth 20000 in
theorem k_464 : (.fieldLink RX3 43 "TrueWeightsModel" "allowUse" "[I" : Cond) ∈ lw_use := lw_use_at 464 rfl rfl
set_option maxRecDepth 20000 in
theorem k_465 : (.fieldLink RX3 46 "TrueWeightsModel" "isUsed" "[Z" : Cond) ∈ lw_use := lw_use_at 465 rfl rfl
set_option maxRecDepth 20000 in
theorem k_466 : (.fieldLink RX3 111 "TrueWeightsModel" "trials" "I" : Cond) ∈ lw_use := lw_use_at 466 rfl rfl
set_option maxRecDepth 20000 in
theorem k_467 : (.fieldLink RX3 50 "TrueWeightsModel" "ofThing" "[I" : Cond) ∈ lw_use := lw_use_at 467 rfl rfl
set_option maxRecDepth 20000 in
theorem k_468 : (.fieldLink RX3 53 "TrueWeightsModel" "byThing" "[I" : Cond) ∈ lw_use := lw_use_at 468 rfl rfl
set_option maxRecDepth 20000 in
theorem k_469 : (.fieldLink RX3 56 "TrueWeightsModel" "onDay" "[I" : Cond) ∈ lw_use := lw_use_at 469 rfl rfl
set_option maxRecDepth 20000 in
theorem k_470 : (.fieldLink RX3 59 "TrueWeightsModel" "error" "[I" : Cond) ∈ lw_use := lw_use_at 470 rfl rfl
set_option maxRecDepth 20000 in
theorem k_471 : (.fieldLink RX3 62 "TrueWeightsModel" "span" "[I" : Cond) ∈ lw_use := lw_use_at 471 rfl rfl
set_option maxRecDepth 20000 in
theorem k_472 : (.fieldLink RX3 65 "TrueWeightsModel" "isSettled" "[Z" : Cond) ∈ lw_use := lw_use_at 472 rfl rfl
set_option maxRecDepth 20000 in
theorem k_473 : (.fieldLink RX3 68 "TrueWeightsModel" "found" "[Z" : Cond) ∈ lw_use := lw_use_at 473 rfl rfl
set_option maxRecDepth 20000 in
theorem k_474 : (.fieldLink RX3 71 "TrueWeightsModel" "base" "[I" : Cond) ∈ lw_use := lw_use_at 474 rfl rfl
set_option maxRecDepth 20000 in
theorem k_475 : (.fieldLink RX3 74 "TrueWeightsModel" "isCharged" "[Z" : Cond) ∈ lw_use := lw_use_at 475 rfl rfl
set_option maxRecDepth 20000 in
theorem k_476 : (.fieldLink RX3 138 "TrueWeightsModel" "allCharges" "I" : Cond) ∈ lw_use := lw_use_at 476 rfl rfl
set_option maxRecDepth 20000 in
theorem k_477 : (.fieldLink RX3 77 "TrueWeightsModel" "ownerCharges" "[I" : Cond) ∈ lw_use := lw_use_at 477 rfl rfl
set_option maxRecDepth 20000 in
theorem k_478 : (.fieldLink RX3 80 "TrueWeightsModel" "ownerSum" "[J" : Cond) ∈ lw_use := lw_use_at 478 rfl rfl
set_option maxRecDepth 20000 in
theorem k_536 : (.arrayClass .boolean : Cond) ∈ lw_use := lw_use_at 536 rfl rfl
set_option maxRecDepth 20000 in
theorem k_537 : (.methodLink RL 17 yX3_pass : Cond) ∈ lw_use := lw_use_at 537 rfl rfl
set_option maxRecDepth 20000 in
theorem k_538 : (.instanceMethod yX3_pass : Cond) ∈ lw_use := lw_use_at 538 rfl rfl
set_option maxRecDepth 20000 in
theorem k_539 : (.selects RX3 yX3_pass yX3_pass : Cond) ∈ lw_use := lw_use_at 539 rfl rfl
set_option maxRecDepth 20000 in
theorem k_540 : (.code yX3_pass cX3_pass 2 (some .int) : Cond) ∈ lw_use := lw_use_at 540 rfl rfl
set_option maxRecDepth 20000 in
theorem k_541 : (.methodLink RX3 88 yX3_in : Cond) ∈ lw_use := lw_use_at 541 rfl rfl
set_option maxRecDepth 20000 in
theorem k_542 : (.static yX3_in : Cond) ∈ lw_use := lw_use_at 542 rfl rfl
set_option maxRecDepth 20000 in
theorem k_543 : (.code yX3_in cX3_in 3 (some .boolean) : Cond) ∈ lw_use := lw_use_at 543 rfl rfl
set_option maxRecDepth 20000 in
theorem k_544 : (.methodLink RL 22 yX3_thing : Cond) ∈ lw_use := lw_use_at 544 rfl rfl
set_option maxRecDepth 20000 in
theorem k_545 : (.instanceMethod yX3_thing : Cond) ∈ lw_use := lw_use_at 545 rfl rfl
set_option maxRecDepth 20000 in
theorem k_546 : (.selects RX3 yX3_thing yX3_thing : Cond) ∈ lw_use := lw_use_at 546 rfl rfl
set_option maxRecDepth 20000 in
theorem k_547 : (.code yX3_thing cX3_thing 5 (some .int) : Cond) ∈ lw_use := lw_use_at 547 rfl rfl
set_option maxRecDepth 20000 in
theorem k_548 : (.constant RX3 95 (-1000000) : Cond) ∈ lw_use := lw_use_at 548 rfl rfl
set_option maxRecDepth 20000 in
theorem k_549 : (.methodLink RL 27 yX3_about : Cond) ∈ lw_use := lw_use_at 549 rfl rfl
set_option maxRecDepth 20000 in
theorem k_550 : (.instanceMethod yX3_about : Cond) ∈ lw_use := lw_use_at 550 rfl rfl
set_option maxRecDepth 20000 in
theorem k_551 : (.selects RX3 yX3_about yX3_about : Cond) ∈ lw_use := lw_use_at 551 rfl rfl
set_option maxRecDepth 20000 in
theorem k_552 : (.code yX3_about cX3_about 3 (some .int) : Cond) ∈ lw_use := lw_use_at 552 rfl rfl
set_option maxRecDepth 20000 in
theorem k_553 : (.methodLink RX3 96 yX3_isThing : Cond) ∈ lw_use := lw_use_at 553 rfl rfl
set_option maxRecDepth 20000 in
theorem k_555 : (.instanceMethod yX3_isThing : Cond) ∈ lw_use := lw_use_at 555 rfl rfl
set_option maxRecDepth 20000 in
theorem k_556 : (.code yX3_isThing cX3_isThing 2 (some .boolean) : Cond) ∈ lw_use := lw_use_at 556 rfl rfl
set_option maxRecDepth 20000 in
theorem k_557 : (.methodLink RL 31 yX3_draw : Cond) ∈ lw_use := lw_use_at 557 rfl rfl
set_option maxRecDepth 20000 in
theorem k_558 : (.instanceMethod yX3_draw : Cond) ∈ lw_use := lw_use_at 558 rfl rfl
set_option maxRecDepth 20000 in
theorem k_559 : (.selects RX3 yX3_draw yX3_draw : Cond) ∈ lw_use := lw_use_at 559 rfl rfl
set_option maxRecDepth 20000 in
theorem k_560 : (.code yX3_draw cX3_draw 3 (some .int) : Cond) ∈ lw_use := lw_use_at 560 rfl rfl
set_option maxRecDepth 20000 in
theorem k_561 : (.constant RX3 100 (-100000) : Cond) ∈ lw_use := lw_use_at 561 rfl rfl
set_option maxRecDepth 20000 in
theorem k_562 : (.constant RX3 101 (100000) : Cond) ∈ lw_use := lw_use_at 562 rfl rfl
set_option maxRecDepth 20000 in
theorem k_563 : (.methodLink RL 36 yX3_allow : Cond) ∈ lw_use := lw_use_at 563 rfl rfl
set_option maxRecDepth 20000 in
theorem k_564 : (.instanceMethod yX3_allow : Cond) ∈ lw_use := lw_use_at 564 rfl rfl
set_option maxRecDepth 20000 in
theorem k_565 : (.selects RX3 yX3_allow yX3_allow : Cond) ∈ lw_use := lw_use_at 565 rfl rfl
set_option maxRecDepth 20000 in
theorem k_566 : (.code yX3_allow cX3_allow 5 (some .int) : Cond) ∈ lw_use := lw_use_at 566 rfl rfl
set_option maxRecDepth 20000 in
theorem k_567 : (.methodLink RL 40 yX3_move : Cond) ∈ lw_use := lw_use_at 567 rfl rfl
set_option maxRecDepth 20000 in
theorem k_568 : (.instanceMethod yX3_move : Cond) ∈ lw_use := lw_use_at 568 rfl rfl
set_option maxRecDepth 20000 in
theorem k_569 : (.selects RX3 yX3_move yX3_move : Cond) ∈ lw_use := lw_use_at 569 rfl rfl
set_option maxRecDepth 20000 in
theorem k_570 : (.code yX3_move cX3_move 4 (some .int) : Cond) ∈ lw_use := lw_use_at 570 rfl rfl
set_option maxRecDepth 20000 in
theorem k_571 : (.methodLink RX3 102 yX3_isTool : Cond) ∈ lw_use := lw_use_at 571 rfl rfl
set_option maxRecDepth 20000 in
theorem k_573 : (.instanceMethod yX3_isTool : Cond) ∈ lw_use := lw_use_at 573 rfl rfl
set_option maxRecDepth 20000 in
theorem k_574 : (.code yX3_isTool cX3_isTool 2 (some .boolean) : Cond) ∈ lw_use := lw_use_at 574 rfl rfl
set_option maxRecDepth 20000 in
theorem k_575 : (.methodLink RL 44 yX3_trial : Cond) ∈ lw_use := lw_use_at 575 rfl rfl
set_option maxRecDepth 20000 in
theorem k_576 : (.instanceMethod yX3_trial : Cond) ∈ lw_use := lw_use_at 576 rfl rfl
set_option maxRecDepth 20000 in
theorem k_577 : (.selects RX3 yX3_trial yX3_trial : Cond) ∈ lw_use := lw_use_at 577 rfl rfl
set_option maxRecDepth 20000 in
theorem k_578 : (.code yX3_trial cX3_trial 10 (some .int) : Cond) ∈ lw_use := lw_use_at 578 rfl rfl
set_option maxRecDepth 20000 in
theorem k_579 : (.methodLink RX3 105 yX3_settledNow : Cond) ∈ lw_use := lw_use_at 579 rfl rfl
set_option maxRecDepth 20000 in
theorem k_581 : (.instanceMethod yX3_settledNow : Cond) ∈ lw_use := lw_use_at 581 rfl rfl
set_option maxRecDepth 20000 in
theorem k_582 : (.code yX3_settledNow cX3_settledNow 2 (some .boolean) : Cond) ∈ lw_use := lw_use_at 582 rfl rfl
set_option maxRecDepth 20000 in
theorem k_583 : (.methodLink RX3 108 yX3_dueNow : Cond) ∈ lw_use := lw_use_at 583 rfl rfl
set_option maxRecDepth 20000 in
theorem k_585 : (.instanceMethod yX3_dueNow : Cond) ∈ lw_use := lw_use_at 585 rfl rfl
set_option maxRecDepth 20000 in
theorem k_586 : (.code yX3_dueNow cX3_dueNow 2 (some .boolean) : Cond) ∈ lw_use := lw_use_at 586 rfl rfl
set_option maxRecDepth 20000 in
theorem k_587 : (.methodLink RX3 114 yX3_errorOf : Cond) ∈ lw_use := lw_use_at 587 rfl rfl
set_option maxRecDepth 20000 in
theorem k_589 : (.instanceMethod yX3_errorOf : Cond) ∈ lw_use := lw_use_at 589 rfl rfl
set_option maxRecDepth 20000 in
theorem k_590 : (.code yX3_errorOf cX3_errorOf 2 (some .int) : Cond) ∈ lw_use := lw_use_at 590 rfl rfl
set_option maxRecDepth 20000 in
theorem k_591 : (.methodLink RX3 118 yX3_middle : Cond) ∈ lw_use := lw_use_at 591 rfl rfl
set_option maxRecDepth 20000 in
theorem k_593 : (.instanceMethod yX3_middle : Cond) ∈ lw_use := lw_use_at 593 rfl rfl
set_option maxRecDepth 20000 in
theorem k_594 : (.code yX3_middle cX3_middle 7 (some .int) : Cond) ∈ lw_use := lw_use_at 594 rfl rfl
set_option maxRecDepth 20000 in
theorem k_595 : (.methodLink RX3 121 yX3_spanOn : Cond) ∈ lw_use := lw_use_at 595 rfl rfl
set_option maxRecDepth 20000 in
theorem k_597 : (.instanceMethod yX3_spanOn : Cond) ∈ lw_use := lw_use_at 597 rfl rfl
set_option maxRecDepth 20000 in
theorem k_598 : (.code yX3_spanOn cX3_spanOn 3 (some .int) : Cond) ∈ lw_use := lw_use_at 598 rfl rfl
set_option maxRecDepth 20000 in
theorem k_599 : (.methodLink RX3 125 yX3_range : Cond) ∈ lw_use := lw_use_at 599 rfl rfl
set_option maxRecDepth 20000 in
theorem k_601 : (.instanceMethod yX3_range : Cond) ∈ lw_use := lw_use_at 601 rfl rfl
set_option maxRecDepth 20000 in
theorem k_602 : (.code yX3_range cX3_range 5 (some .int) : Cond) ∈ lw_use := lw_use_at 602 rfl rfl
set_option maxRecDepth 20000 in
theorem k_603 : (.methodLink RX3 128 yX3_unsettle : Cond) ∈ lw_use := lw_use_at 603 rfl rfl
set_option maxRecDepth 20000 in
theorem k_605 : (.instanceMethod yX3_unsettle : Cond) ∈ lw_use := lw_use_at 605 rfl rfl
set_option maxRecDepth 20000 in
theorem k_606 : (.code yX3_unsettle cX3_unsettle 3 none : Cond) ∈ lw_use := lw_use_at 606 rfl rfl
set_option maxRecDepth 20000 in
theorem k_607 : (.methodLink RL 48 yX3_told : Cond) ∈ lw_use := lw_use_at 607 rfl rfl
set_option maxRecDepth 20000 in
theorem k_608 : (.instanceMethod yX3_told : Cond) ∈ lw_use := lw_use_at 608 rfl rfl
set_option maxRecDepth 20000 in
theorem k_609 : (.selects RX3 yX3_told yX3_told : Cond) ∈ lw_use := lw_use_at 609 rfl rfl
set_option maxRecDepth 20000 in
theorem k_610 : (.code yX3_told cX3_told 3 (some .int) : Cond) ∈ lw_use := lw_use_at 610 rfl rfl
set_option maxRecDepth 20000 in
theorem k_611 : (.methodLink RL 52 yX3_error : Cond) ∈ lw_use := lw_use_at 611 rfl rfl
set_option maxRecDepth 20000 in
theorem k_612 : (.instanceMethod yX3_error : Cond) ∈ lw_use := lw_use_at 612 rfl rfl
set_option maxRecDepth 20000 in
theorem k_613 : (.selects RX3 yX3_error yX3_error : Cond) ∈ lw_use := lw_use_at 613 rfl rfl
set_option maxRecDepth 20000 in
theorem k_614 : (.code yX3_error cX3_error 2 (some .int) : Cond) ∈ lw_use := lw_use_at 614 rfl rfl
set_option maxRecDepth 20000 in
theorem k_615 : (.methodLink RL 56 yX3_span : Cond) ∈ lw_use := lw_use_at 615 rfl rfl
set_option maxRecDepth 20000 in
theorem k_616 : (.instanceMethod yX3_span : Cond) ∈ lw_use := lw_use_at 616 rfl rfl
set_option maxRecDepth 20000 in
theorem k_617 : (.selects RX3 yX3_span yX3_span : Cond) ∈ lw_use := lw_use_at 617 rfl rfl
set_option maxRecDepth 20000 in
theorem k_618 : (.code yX3_span cX3_span 2 (some .int) : Cond) ∈ lw_use := lw_use_at 618 rfl rfl
set_option maxRecDepth 20000 in
theorem k_619 : (.methodLink RL 60 yX3_settled : Cond) ∈ lw_use := lw_use_at 619 rfl rfl
set_option maxRecDepth 20000 in
theorem k_620 : (.instanceMethod yX3_settled : Cond) ∈ lw_use := lw_use_at 620 rfl rfl
set_option maxRecDepth 20000 in
theorem k_621 : (.selects RX3 yX3_settled yX3_settled : Cond) ∈ lw_use := lw_use_at 621 rfl rfl
set_option maxRecDepth 20000 in
theorem k_622 : (.code yX3_settled cX3_settled 2 (some .int) : Cond) ∈ lw_use := lw_use_at 622 rfl rfl
set_option maxRecDepth 20000 in
theorem k_623 : (.methodLink RL 64 yX3_due : Cond) ∈ lw_use := lw_use_at 623 rfl rfl
set_option maxRecDepth 20000 in
theorem k_624 : (.instanceMethod yX3_due : Cond) ∈ lw_use := lw_use_at 624 rfl rfl
set_option maxRecDepth 20000 in
theorem k_625 : (.selects RX3 yX3_due yX3_due : Cond) ∈ lw_use := lw_use_at 625 rfl rfl
set_option maxRecDepth 20000 in
theorem k_626 : (.code yX3_due cX3_due 2 (some .int) : Cond) ∈ lw_use := lw_use_at 626 rfl rfl
set_option maxRecDepth 20000 in
theorem k_627 : (.methodLink RL 68 yX3_left : Cond) ∈ lw_use := lw_use_at 627 rfl rfl
set_option maxRecDepth 20000 in
theorem k_628 : (.instanceMethod yX3_left : Cond) ∈ lw_use := lw_use_at 628 rfl rfl
set_option maxRecDepth 20000 in
theorem k_629 : (.selects RX3 yX3_left yX3_left : Cond) ∈ lw_use := lw_use_at 629 rfl rfl
set_option maxRecDepth 20000 in
theorem k_630 : (.code yX3_left cX3_left 2 (some .int) : Cond) ∈ lw_use := lw_use_at 630 rfl rfl
set_option maxRecDepth 20000 in
theorem k_631 : (.methodLink RL 72 yX3_chain : Cond) ∈ lw_use := lw_use_at 631 rfl rfl
set_option maxRecDepth 20000 in
theorem k_632 : (.instanceMethod yX3_chain : Cond) ∈ lw_use := lw_use_at 632 rfl rfl
set_option maxRecDepth 20000 in
theorem k_633 : (.selects RX3 yX3_chain yX3_chain : Cond) ∈ lw_use := lw_use_at 633 rfl rfl
set_option maxRecDepth 20000 in
theorem k_634 : (.code yX3_chain cX3_chain 5 (some .int) : Cond) ∈ lw_use := lw_use_at 634 rfl rfl
set_option maxRecDepth 20000 in
theorem k_635 : (.methodLink RL 77 yX3_unsettled : Cond) ∈ lw_use := lw_use_at 635 rfl rfl
set_option maxRecDepth 20000 in
theorem k_636 : (.instanceMethod yX3_unsettled : Cond) ∈ lw_use := lw_use_at 636 rfl rfl
set_option maxRecDepth 20000 in
theorem k_637 : (.selects RX3 yX3_unsettled yX3_unsettled : Cond) ∈ lw_use := lw_use_at 637 rfl rfl
set_option maxRecDepth 20000 in
theorem k_638 : (.code yX3_unsettled cX3_unsettled 3 (some .int) : Cond) ∈ lw_use := lw_use_at 638 rfl rfl
set_option maxRecDepth 20000 in
theorem k_639 : (.methodLink RL 81 yX3_judge : Cond) ∈ lw_use := lw_use_at 639 rfl rfl
set_option maxRecDepth 20000 in
theorem k_640 : (.instanceMethod yX3_judge : Cond) ∈ lw_use := lw_use_at 640 rfl rfl
set_option maxRecDepth 20000 in
theorem k_641 : (.selects RX3 yX3_judge yX3_judge : Cond) ∈ lw_use := lw_use_at 641 rfl rfl
set_option maxRecDepth 20000 in
theorem k_642 : (.code yX3_judge cX3_judge 2 (some .int) : Cond) ∈ lw_use := lw_use_at 642 rfl rfl
set_option maxRecDepth 20000 in
theorem k_643 : (.methodLink RX3 135 yX3_judgedOn : Cond) ∈ lw_use := lw_use_at 643 rfl rfl
set_option maxRecDepth 20000 in
theorem k_645 : (.instanceMethod yX3_judgedOn : Cond) ∈ lw_use := lw_use_at 645 rfl rfl
set_option maxRecDepth 20000 in
theorem k_646 : (.code yX3_judgedOn cX3_judgedOn 6 (some .int) : Cond) ∈ lw_use := lw_use_at 646 rfl rfl
set_option maxRecDepth 20000 in
theorem k_647 : (.methodLink RX3 132 yX3_allowance : Cond) ∈ lw_use := lw_use_at 647 rfl rfl
set_option maxRecDepth 20000 in
theorem k_649 : (.instanceMethod yX3_allowance : Cond) ∈ lw_use := lw_use_at 649 rfl rfl
set_option maxRecDepth 20000 in
theorem k_650 : (.code yX3_allowance cX3_allowance 2 (some .int) : Cond) ∈ lw_use := lw_use_at 650 rfl rfl
set_option maxRecDepth 20000 in
theorem k_651 : (.methodLink RL 85 yX3_stays : Cond) ∈ lw_use := lw_use_at 651 rfl rfl
set_option maxRecDepth 20000 in
theorem k_652 : (.instanceMethod yX3_stays : Cond) ∈ lw_use := lw_use_at 652 rfl rfl
set_option maxRecDepth 20000 in
theorem k_653 : (.selects RX3 yX3_stays yX3_stays : Cond) ∈ lw_use := lw_use_at 653 rfl rfl
set_option maxRecDepth 20000 in
theorem k_654 : (.code yX3_stays cX3_stays 4 (some .int) : Cond) ∈ lw_use := lw_use_at 654 rfl rfl
set_option maxRecDepth 20000 in
theorem k_655 : (.methodLink RL 89 yX3_seal : Cond) ∈ lw_use := lw_use_at 655 rfl rfl
set_option maxRecDepth 20000 in
theorem k_656 : (.instanceMethod yX3_seal : Cond) ∈ lw_use := lw_use_at 656 rfl rfl
set_option maxRecDepth 20000 in
theorem k_657 : (.selects RX3 yX3_seal yX3_seal : Cond) ∈ lw_use := lw_use_at 657 rfl rfl
set_option maxRecDepth 20000 in
theorem k_658 : (.code yX3_seal cX3_seal 3 (some .int) : Cond) ∈ lw_use := lw_use_at 658 rfl rfl
set_option maxRecDepth 20000 in
theorem k_659 : (.methodLink RL 93 yX3_sealed : Cond) ∈ lw_use := lw_use_at 659 rfl rfl
set_option maxRecDepth 20000 in
theorem k_660 : (.instanceMethod yX3_sealed : Cond) ∈ lw_use := lw_use_at 660 rfl rfl
set_option maxRecDepth 20000 in
theorem k_661 : (.selects RX3 yX3_sealed yX3_sealed : Cond) ∈ lw_use := lw_use_at 661 rfl rfl
set_option maxRecDepth 20000 in
theorem k_662 : (.code yX3_sealed cX3_sealed 3 (some .int) : Cond) ∈ lw_use := lw_use_at 662 rfl rfl
set_option maxRecDepth 20000 in
theorem k_663 : (.methodLink RL 97 yX3_charge : Cond) ∈ lw_use := lw_use_at 663 rfl rfl
set_option maxRecDepth 20000 in
theorem k_664 : (.instanceMethod yX3_charge : Cond) ∈ lw_use := lw_use_at 664 rfl rfl
set_option maxRecDepth 20000 in
theorem k_665 : (.selects RX3 yX3_charge yX3_charge : Cond) ∈ lw_use := lw_use_at 665 rfl rfl
set_option maxRecDepth 20000 in
theorem k_666 : (.code yX3_charge cX3_charge 6 (some .int) : Cond) ∈ lw_use := lw_use_at 666 rfl rfl
set_option maxRecDepth 20000 in
theorem k_667 : (.methodLink RL 102 yX3_charged : Cond) ∈ lw_use := lw_use_at 667 rfl rfl
set_option maxRecDepth 20000 in
theorem k_668 : (.instanceMethod yX3_charged : Cond) ∈ lw_use := lw_use_at 668 rfl rfl
set_option maxRecDepth 20000 in
theorem k_669 : (.selects RX3 yX3_charged yX3_charged : Cond) ∈ lw_use := lw_use_at 669 rfl rfl
set_option maxRecDepth 20000 in
theorem k_670 : (.code yX3_charged cX3_charged 2 (some .long) : Cond) ∈ lw_use := lw_use_at 670 rfl rfl
set_option maxRecDepth 20000 in
theorem k_671 : (.constantLong RX3 141 (-1) : Cond) ∈ lw_use := lw_use_at 671 rfl rfl
set_option maxRecDepth 20000 in
theorem k_672 : (.methodLink RL 106 yX3_first : Cond) ∈ lw_use := lw_use_at 672 rfl rfl
set_option maxRecDepth 20000 in
theorem k_673 : (.instanceMethod yX3_first : Cond) ∈ lw_use := lw_use_at 673 rfl rfl
set_option maxRecDepth 20000 in
theorem k_674 : (.selects RX3 yX3_first yX3_first : Cond) ∈ lw_use := lw_use_at 674 rfl rfl
set_option maxRecDepth 20000 in
theorem k_675 : (.code yX3_first cX3_first 5 (some .int) : Cond) ∈ lw_use := lw_use_at 675 rfl rfl
set_option maxRecDepth 20000 in
theorem k_676 : (.methodLink RX3 149 yX3_isAhead : Cond) ∈ lw_use := lw_use_at 676 rfl rfl
set_option maxRecDepth 20000 in
theorem k_678 : (.instanceMethod yX3_isAhead : Cond) ∈ lw_use := lw_use_at 678 rfl rfl
set_option maxRecDepth 20000 in
theorem k_679 : (.code yX3_isAhead cX3_isAhead 3 (some .boolean) : Cond) ∈ lw_use := lw_use_at 679 rfl rfl
set_option maxRecDepth 20000 in
theorem k_680 : (.methodLink RX3 143 yX3_group : Cond) ∈ lw_use := lw_use_at 680 rfl rfl
set_option maxRecDepth 20000 in
theorem k_682 : (.instanceMethod yX3_group : Cond) ∈ lw_use := lw_use_at 682 rfl rfl
set_option maxRecDepth 20000 in
theorem k_683 : (.code yX3_group cX3_group 2 (some .int) : Cond) ∈ lw_use := lw_use_at 683 rfl rfl
set_option maxRecDepth 20000 in
theorem k_684 : (.methodLink RX3 146 yX3_weight : Cond) ∈ lw_use := lw_use_at 684 rfl rfl
set_option maxRecDepth 20000 in
theorem k_686 : (.instanceMethod yX3_weight : Cond) ∈ lw_use := lw_use_at 686 rfl rfl
set_option maxRecDepth 20000 in
theorem k_687 : (.code yX3_weight cX3_weight 3 (some .int) : Cond) ∈ lw_use := lw_use_at 687 rfl rfl
set_option maxRecDepth 20000 in
theorem k_688 : (.methodLink RL 110 yX3_count : Cond) ∈ lw_use := lw_use_at 688 rfl rfl
set_option maxRecDepth 20000 in
theorem k_689 : (.instanceMethod yX3_count : Cond) ∈ lw_use := lw_use_at 689 rfl rfl
set_option maxRecDepth 20000 in
theorem k_690 : (.selects RX3 yX3_count yX3_count : Cond) ∈ lw_use := lw_use_at 690 rfl rfl
set_option maxRecDepth 20000 in
theorem k_691 : (.code yX3_count cX3_count 5 (some .int) : Cond) ∈ lw_use := lw_use_at 691 rfl rfl
set_option maxRecDepth 20000 in
theorem k_38 : (.methodLink RX2 1 objectInit : Cond) ∈ lw_use := lw_use_at 38 rfl rfl
set_option maxRecDepth 20000 in
theorem k_105 : (.methodLink RX0 3 objectInit : Cond) ∈ lw_use := lw_use_at 105 rfl rfl
set_option maxRecDepth 20000 in
theorem k_244 : (.methodLink RX1 1 objectInit : Cond) ∈ lw_use := lw_use_at 244 rfl rfl
set_option maxRecDepth 20000 in
theorem k_450 : (.methodLink RX3 1 objectInit : Cond) ∈ lw_use := lw_use_at 450 rfl rfl
set_option maxRecDepth 20000 in
theorem k_39 : (.instanceMethod objectInit : Cond) ∈ lw_use := lw_use_at 39 rfl rfl
set_option maxRecDepth 20000 in
theorem k_40 : (.code objectInit ⟨#[0xb1]⟩ 1 none : Cond) ∈ lw_use := lw_use_at 40 rfl rfl
set_option maxRecDepth 20000 in
theorem k_nest : (.methodLinkNest RX0 35 yX2_isWithin RX2 : Cond) ∈ lw_tbl := List.mem_of_getElem? (i := 171) rfl
set_option maxRecDepth 20000 in
theorem iX0 : ∀ w ∈ u_ws RX0 TX0 10, w ∈ lw_use := by decide +kernel
set_option maxRecDepth 20000 in
theorem iX1 : ∀ w ∈ u_ws RX1 TX1 10, w ∈ lw_use := by decide +kernel
set_option maxRecDepth 20000 in
theorem iX2 : ∀ w ∈ u_ws RX2 TX2 13, w ∈ lw_use := by decide +kernel
set_option maxRecDepth 20000 in
theorem iX3 : ∀ w ∈ u_ws RX3 TX3 28, w ∈ lw_use := by decide +kernel
