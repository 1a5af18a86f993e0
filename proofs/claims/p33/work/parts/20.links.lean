theorem w_1 : (.selects RX8 yX8_succeeds yX8_succeeds : Cond) ∈ TB := TB_mem 1 (by decide +kernel) (by decide +kernel)
theorem w_2 : (.selects RX8 yX8_runIn yX8_runIn : Cond) ∈ TB := TB_mem 2 (by decide +kernel) (by decide +kernel)
theorem w_3 : (.selects RX8 yX8_regretIn yX8_regretIn : Cond) ∈ TB := TB_mem 3 (by decide +kernel) (by decide +kernel)
theorem w_4 : (.selects RX3 yX3_rowsJoined yX3_rowsJoined : Cond) ∈ TB := TB_mem 4 (by decide +kernel) (by decide +kernel)
theorem w_5 : (.selects RX3 yX3_sizeOf yX3_sizeOf : Cond) ∈ TB := TB_mem 5 (by decide +kernel) (by decide +kernel)
theorem w_6 : (.selects RX3 yX3_findNext yX3_findNext : Cond) ∈ TB := TB_mem 6 (by decide +kernel) (by decide +kernel)
theorem w_7 : (.selects RX3 yX3_cheaperWay yX3_cheaperWay : Cond) ∈ TB := TB_mem 7 (by decide +kernel) (by decide +kernel)
theorem w_8 : (.selects RX3 yX3_stepCost yX3_stepCost : Cond) ∈ TB := TB_mem 8 (by decide +kernel) (by decide +kernel)
theorem w_9 : (.selects RX3 yX3_restOf yX3_restOf : Cond) ∈ TB := TB_mem 9 (by decide +kernel) (by decide +kernel)
theorem w_10 : (.selects RX3 yX3_followNext yX3_followNext : Cond) ∈ TB := TB_mem 10 (by decide +kernel) (by decide +kernel)
theorem w_11 : (.selects RX7 yX7_learnPair yX7_learnPair : Cond) ∈ TB := TB_mem 11 (by decide +kernel) (by decide +kernel)
theorem w_12 : (.selects RX7 yX7_differenceOf yX7_differenceOf : Cond) ∈ TB := TB_mem 12 (by decide +kernel) (by decide +kernel)
theorem w_13 : (.selects RX7 yX7_noteSurprise yX7_noteSurprise : Cond) ∈ TB := TB_mem 13 (by decide +kernel) (by decide +kernel)
theorem w_14 : (.selects RX7 yX7_makeOlder yX7_makeOlder : Cond) ∈ TB := TB_mem 14 (by decide +kernel) (by decide +kernel)
theorem w_15 : (.selects RX8 yX8_scriptDrifts yX8_scriptDrifts : Cond) ∈ TB := TB_mem 15 (by decide +kernel) (by decide +kernel)
theorem w_16 : (.selects RX8 yX8_scriptSets yX8_scriptSets : Cond) ∈ TB := TB_mem 16 (by decide +kernel) (by decide +kernel)
theorem w_17 : (.selects RX8 yX8_scriptLinks yX8_scriptLinks : Cond) ∈ TB := TB_mem 17 (by decide +kernel) (by decide +kernel)
theorem w_18 : (.selects RX7 yX7_linkCount yX7_linkCount : Cond) ∈ TB := TB_mem 18 (by decide +kernel) (by decide +kernel)
theorem w_19 : (.selects RX8 yX8_chosenTableIs yX8_chosenTableIs : Cond) ∈ TB := TB_mem 19 (by decide +kernel) (by decide +kernel)
theorem w_20 : (.selects RX8 yX8_takeTurn yX8_takeTurn : Cond) ∈ TB := TB_mem 20 (by decide +kernel) (by decide +kernel)
theorem w_21 : (.selects RX0 yX0_expect yX0_expect : Cond) ∈ TB := TB_mem 21 (by decide +kernel) (by decide +kernel)
theorem w_22 : (.selects RX0 yX0_takesEntry yX0_takesEntry : Cond) ∈ TB := TB_mem 22 (by decide +kernel) (by decide +kernel)
theorem w_23 : (.selects RX0 yX0_takesDigit yX0_takesDigit : Cond) ∈ TB := TB_mem 23 (by decide +kernel) (by decide +kernel)
theorem w_24 : (.selects RX0 yX0_takesEnd yX0_takesEnd : Cond) ∈ TB := TB_mem 24 (by decide +kernel) (by decide +kernel)
theorem w_25 : (.selects RX0 yX0_takesComma yX0_takesComma : Cond) ∈ TB := TB_mem 25 (by decide +kernel) (by decide +kernel)
theorem w_26 : (.selects RX8 yX8_readEntries yX8_readEntries : Cond) ∈ TB := TB_mem 26 (by decide +kernel) (by decide +kernel)
theorem w_27 : (.selects RX8 yX8_doEntry yX8_doEntry : Cond) ∈ TB := TB_mem 27 (by decide +kernel) (by decide +kernel)
theorem w_28 : (.selects RX8 yX8_needTable yX8_needTable : Cond) ∈ TB := TB_mem 28 (by decide +kernel) (by decide +kernel)
theorem w_29 : (.selects RX8 yX8_needTwoTables yX8_needTwoTables : Cond) ∈ TB := TB_mem 29 (by decide +kernel) (by decide +kernel)
theorem w_30 : (.selects RX1 yX1_stateAt yX1_stateAt : Cond) ∈ TB := TB_mem 30 (by decide +kernel) (by decide +kernel)
theorem w_31 : (.selects RX8 yX8_needTables yX8_needTables : Cond) ∈ TB := TB_mem 31 (by decide +kernel) (by decide +kernel)
theorem w_32 : (.initialized RL : Cond) ∈ TB := TB_mem 32 (by decide +kernel) (by decide +kernel)
theorem w_33 : (.initialized RX8 : Cond) ∈ TB := TB_mem 33 (by decide +kernel) (by decide +kernel)
theorem w_34 : (.initialized RX6 : Cond) ∈ TB := TB_mem 34 (by decide +kernel) (by decide +kernel)
theorem w_35 : (.initialized RX4 : Cond) ∈ TB := TB_mem 35 (by decide +kernel) (by decide +kernel)
theorem w_36 : (.initialized RX0 : Cond) ∈ TB := TB_mem 36 (by decide +kernel) (by decide +kernel)
theorem w_37 : (.initialized RX2 : Cond) ∈ TB := TB_mem 37 (by decide +kernel) (by decide +kernel)
theorem w_38 : (.initialized RX7 : Cond) ∈ TB := TB_mem 38 (by decide +kernel) (by decide +kernel)
theorem w_39 : (.initialized RX1 : Cond) ∈ TB := TB_mem 39 (by decide +kernel) (by decide +kernel)
theorem w_40 : (.initialized RX5 : Cond) ∈ TB := TB_mem 40 (by decide +kernel) (by decide +kernel)
theorem w_41 : (.initialized RX3 : Cond) ∈ TB := TB_mem 41 (by decide +kernel) (by decide +kernel)
theorem w_47 : (.initialized "java/lang/System" : Cond) ∈ TB := TB_mem 47 (by decide +kernel) (by decide +kernel)
theorem w_48 : (.initialized "java/lang/Math" : Cond) ∈ TB := TB_mem 48 (by decide +kernel) (by decide +kernel)
theorem w_55 : (.methodLink RX8 1 objectInit : Cond) ∈ TB := TB_mem 55 (by decide +kernel) (by decide +kernel)
theorem w_56 : (.instanceMethod objectInit : Cond) ∈ TB := TB_mem 56 (by decide +kernel) (by decide +kernel)
theorem w_57 : (.code objectInit ⟨#[0xb1]⟩ 1 none : Cond) ∈ TB := TB_mem 57 (by decide +kernel) (by decide +kernel)
theorem w_58 : (.classLink RX8 7 RX6 : Cond) ∈ TB := TB_mem 58 (by decide +kernel) (by decide +kernel)
theorem w_59 : (.instantiable RX6 2 : Cond) ∈ TB := TB_mem 59 (by decide +kernel) (by decide +kernel)
theorem w_61 : (.instanceMethod yX6_init : Cond) ∈ TB := TB_mem 61 (by decide +kernel) (by decide +kernel)
theorem w_62 : (.code yX6_init cX6_init 1 none : Cond) ∈ TB := TB_mem 62 (by decide +kernel) (by decide +kernel)
theorem w_63 : (.methodLink RX6 3 objectInit : Cond) ∈ TB := TB_mem 63 (by decide +kernel) (by decide +kernel)
theorem w_64 : (.fieldLink RX6 15 "SurprisedPlans$Text" "length" "I" : Cond) ∈ TB := TB_mem 64 (by decide +kernel) (by decide +kernel)
theorem w_65 : (.fieldLink RX8 305 "SurprisedPlans$Text" "length" "I" : Cond) ∈ TB := TB_mem 65 (by decide +kernel) (by decide +kernel)
theorem w_66 : (.fieldLink RX6 9 "SurprisedPlans$Text" "signs" "[C" : Cond) ∈ TB := TB_mem 66 (by decide +kernel) (by decide +kernel)
theorem w_72 : (.arrayClass .char : Cond) ∈ TB := TB_mem 72 (by decide +kernel) (by decide +kernel)
theorem w_73 : (.classLink RX8 16 RX0 : Cond) ∈ TB := TB_mem 73 (by decide +kernel) (by decide +kernel)
theorem w_74 : (.instantiable RX0 5 : Cond) ∈ TB := TB_mem 74 (by decide +kernel) (by decide +kernel)
theorem w_76 : (.instanceMethod yX0_init : Cond) ∈ TB := TB_mem 76 (by decide +kernel) (by decide +kernel)
theorem w_77 : (.code yX0_init cX0_init 1 none : Cond) ∈ TB := TB_mem 77 (by decide +kernel) (by decide +kernel)
theorem w_79 : (.instanceMethod yX4_init : Cond) ∈ TB := TB_mem 79 (by decide +kernel) (by decide +kernel)
theorem w_80 : (.code yX4_init cX4_init 1 none : Cond) ∈ TB := TB_mem 80 (by decide +kernel) (by decide +kernel)
theorem w_81 : (.methodLink RX4 1 objectInit : Cond) ∈ TB := TB_mem 81 (by decide +kernel) (by decide +kernel)
theorem w_82 : (.fieldLink RX0 19 "SurprisedPlans$EntryReader" "place" "I" : Cond) ∈ TB := TB_mem 82 (by decide +kernel) (by decide +kernel)
theorem w_83 : (.fieldLink RX0 25 "SurprisedPlans$EntryReader" "first" "I" : Cond) ∈ TB := TB_mem 83 (by decide +kernel) (by decide +kernel)
theorem w_84 : (.fieldLink RX8 323 "SurprisedPlans$EntryReader" "first" "I" : Cond) ∈ TB := TB_mem 84 (by decide +kernel) (by decide +kernel)
theorem w_85 : (.fieldLink RX0 32 "SurprisedPlans$EntryReader" "second" "I" : Cond) ∈ TB := TB_mem 85 (by decide +kernel) (by decide +kernel)
theorem w_86 : (.fieldLink RX8 326 "SurprisedPlans$EntryReader" "second" "I" : Cond) ∈ TB := TB_mem 86 (by decide +kernel) (by decide +kernel)
theorem w_87 : (.fieldLink RX0 49 "SurprisedPlans$EntryReader" "guess" "I" : Cond) ∈ TB := TB_mem 87 (by decide +kernel) (by decide +kernel)
theorem w_88 : (.fieldLink RX8 332 "SurprisedPlans$EntryReader" "guess" "I" : Cond) ∈ TB := TB_mem 88 (by decide +kernel) (by decide +kernel)
theorem w_89 : (.fieldLink RX0 15 "SurprisedPlans$EntryReader" "number" "I" : Cond) ∈ TB := TB_mem 89 (by decide +kernel) (by decide +kernel)
theorem w_90 : (.fieldLink RX8 320 "SurprisedPlans$EntryReader" "number" "I" : Cond) ∈ TB := TB_mem 90 (by decide +kernel) (by decide +kernel)
theorem w_102 : (.classLink RX8 23 RX2 : Cond) ∈ TB := TB_mem 102 (by decide +kernel) (by decide +kernel)
theorem w_103 : (.instantiable RX2 4 : Cond) ∈ TB := TB_mem 103 (by decide +kernel) (by decide +kernel)
theorem w_105 : (.instanceMethod yX2_init : Cond) ∈ TB := TB_mem 105 (by decide +kernel) (by decide +kernel)
theorem w_106 : (.code yX2_init cX2_init 1 none : Cond) ∈ TB := TB_mem 106 (by decide +kernel) (by decide +kernel)
theorem w_108 : (.fieldLink RX2 15 "SurprisedPlans$PlanReader" "count" "I" : Cond) ∈ TB := TB_mem 108 (by decide +kernel) (by decide +kernel)
theorem w_109 : (.fieldLink RX3 95 "SurprisedPlans$PlanReader" "count" "I" : Cond) ∈ TB := TB_mem 109 (by decide +kernel) (by decide +kernel)
theorem w_110 : (.fieldLink RX2 19 "SurprisedPlans$PlanReader" "seen" "I" : Cond) ∈ TB := TB_mem 110 (by decide +kernel) (by decide +kernel)
theorem w_111 : (.fieldLink RX2 22 "SurprisedPlans$PlanReader" "expectsTable" "Z" : Cond) ∈ TB := TB_mem 111 (by decide +kernel) (by decide +kernel)
theorem w_112 : (.fieldLink RX2 9 "SurprisedPlans$PlanReader" "order" "[I" : Cond) ∈ TB := TB_mem 112 (by decide +kernel) (by decide +kernel)
theorem w_122 : (.arrayClass .int : Cond) ∈ TB := TB_mem 122 (by decide +kernel) (by decide +kernel)
theorem w_123 : (.classLink RX8 30 RX7 : Cond) ∈ TB := TB_mem 123 (by decide +kernel) (by decide +kernel)
theorem w_124 : (.instantiable RX7 13 : Cond) ∈ TB := TB_mem 124 (by decide +kernel) (by decide +kernel)
theorem w_126 : (.instanceMethod yX7_init : Cond) ∈ TB := TB_mem 126 (by decide +kernel) (by decide +kernel)
theorem w_127 : (.code yX7_init cX7_init 1 none : Cond) ∈ TB := TB_mem 127 (by decide +kernel) (by decide +kernel)
theorem w_128 : (.methodLink RX7 3 objectInit : Cond) ∈ TB := TB_mem 128 (by decide +kernel) (by decide +kernel)
theorem w_131 : (.methodLink RX7 19 ⟨"[I", "clone", "()Ljava/lang/Object;"⟩ : Cond) ∈ TB := TB_mem 131 (by decide +kernel) (by decide +kernel)
theorem w_132 : (.sameMethod "[I" "java/lang/Object" "clone" "()Ljava/lang/Object;" : Cond) ∈ TB := TB_mem 132 (by decide +kernel) (by decide +kernel)
theorem w_133 : (.native ⟨"java/lang/Object", "clone", "()Ljava/lang/Object;"⟩ : Cond) ∈ TB := TB_mem 133 (by decide +kernel) (by decide +kernel)
theorem w_134 : (.instanceMethod ⟨"java/lang/Object", "clone", "()Ljava/lang/Object;"⟩ : Cond) ∈ TB := TB_mem 134 (by decide +kernel) (by decide +kernel)
theorem w_135 : (.selects "[I" ⟨"[I", "clone", "()Ljava/lang/Object;"⟩ ⟨"java/lang/Object", "clone", "()Ljava/lang/Object;"⟩ : Cond) ∈ TB := TB_mem 135 (by decide +kernel) (by decide +kernel)
theorem w_137 : (.classLink RX7 20 "[I" : Cond) ∈ TB := TB_mem 137 (by decide +kernel) (by decide +kernel)
theorem w_138 : (.fieldLink RX7 48 "SurprisedPlans$World" "tables" "I" : Cond) ∈ TB := TB_mem 138 (by decide +kernel) (by decide +kernel)
theorem w_139 : (.fieldLink RX8 359 "SurprisedPlans$World" "tables" "I" : Cond) ∈ TB := TB_mem 139 (by decide +kernel) (by decide +kernel)
theorem w_140 : (.fieldLink RX7 52 "SurprisedPlans$World" "weeks" "I" : Cond) ∈ TB := TB_mem 140 (by decide +kernel) (by decide +kernel)
theorem w_141 : (.fieldLink RX8 291 "SurprisedPlans$World" "weeks" "I" : Cond) ∈ TB := TB_mem 141 (by decide +kernel) (by decide +kernel)
theorem w_142 : (.fieldLink RX7 55 "SurprisedPlans$World" "runs" "I" : Cond) ∈ TB := TB_mem 142 (by decide +kernel) (by decide +kernel)
theorem w_143 : (.fieldLink RX7 58 "SurprisedPlans$World" "surprises" "I" : Cond) ∈ TB := TB_mem 143 (by decide +kernel) (by decide +kernel)
theorem w_144 : (.fieldLink RX8 278 "SurprisedPlans$World" "surprises" "I" : Cond) ∈ TB := TB_mem 144 (by decide +kernel) (by decide +kernel)
theorem w_145 : (.fieldLink RX7 9 "SurprisedPlans$World" "sums" "[J" : Cond) ∈ TB := TB_mem 145 (by decide +kernel) (by decide +kernel)
theorem w_146 : (.fieldLink RX7 24 "SurprisedPlans$World" "settings" "[I" : Cond) ∈ TB := TB_mem 146 (by decide +kernel) (by decide +kernel)
theorem w_147 : (.fieldLink RX7 27 "SurprisedPlans$World" "sizes" "[I" : Cond) ∈ TB := TB_mem 147 (by decide +kernel) (by decide +kernel)
theorem w_148 : (.fieldLink RX7 30 "SurprisedPlans$World" "guesses" "[I" : Cond) ∈ TB := TB_mem 148 (by decide +kernel) (by decide +kernel)
theorem w_149 : (.fieldLink RX7 33 "SurprisedPlans$World" "shares" "[I" : Cond) ∈ TB := TB_mem 149 (by decide +kernel) (by decide +kernel)
theorem w_150 : (.fieldLink RX7 36 "SurprisedPlans$World" "memories" "[I" : Cond) ∈ TB := TB_mem 150 (by decide +kernel) (by decide +kernel)
theorem w_151 : (.fieldLink RX7 39 "SurprisedPlans$World" "ages" "[I" : Cond) ∈ TB := TB_mem 151 (by decide +kernel) (by decide +kernel)
theorem w_152 : (.fieldLink RX7 42 "SurprisedPlans$World" "surprisesOf" "[I" : Cond) ∈ TB := TB_mem 152 (by decide +kernel) (by decide +kernel)
theorem w_153 : (.fieldLink RX7 45 "SurprisedPlans$World" "told" "[I" : Cond) ∈ TB := TB_mem 153 (by decide +kernel) (by decide +kernel)
theorem w_181 : (.arrayClass .long : Cond) ∈ TB := TB_mem 181 (by decide +kernel) (by decide +kernel)
theorem w_182 : (.classLink RX8 40 RX1 : Cond) ∈ TB := TB_mem 182 (by decide +kernel) (by decide +kernel)
theorem w_183 : (.instantiable RX1 3 : Cond) ∈ TB := TB_mem 183 (by decide +kernel) (by decide +kernel)
theorem w_184 : (.methodLink RX8 42 yX1_init : Cond) ∈ TB := TB_mem 184 (by decide +kernel) (by decide +kernel)
theorem w_185 : (.instanceMethod yX1_init : Cond) ∈ TB := TB_mem 185 (by decide +kernel) (by decide +kernel)
theorem w_186 : (.code yX1_init cX1_init 2 none : Cond) ∈ TB := TB_mem 186 (by decide +kernel) (by decide +kernel)
theorem w_187 : (.methodLink RX1 3 objectInit : Cond) ∈ TB := TB_mem 187 (by decide +kernel) (by decide +kernel)
theorem w_188 : (.classLink RX1 9 RX7 : Cond) ∈ TB := TB_mem 188 (by decide +kernel) (by decide +kernel)
theorem w_191 : (.fieldLink RX1 11 "SurprisedPlans$History" "states" "[LSurprisedPlans$World;" : Cond) ∈ TB := TB_mem 191 (by decide +kernel) (by decide +kernel)
theorem w_192 : (.fieldLink RX1 18 "SurprisedPlans$History" "count" "I" : Cond) ∈ TB := TB_mem 192 (by decide +kernel) (by decide +kernel)
theorem w_193 : (.fieldLink RX1 22 "SurprisedPlans$History" "next" "I" : Cond) ∈ TB := TB_mem 193 (by decide +kernel) (by decide +kernel)
theorem w_201 : (.classLink RX8 47 RX5 : Cond) ∈ TB := TB_mem 201 (by decide +kernel) (by decide +kernel)
theorem w_202 : (.instantiable RX5 2 : Cond) ∈ TB := TB_mem 202 (by decide +kernel) (by decide +kernel)
theorem w_203 : (.methodLink RX8 49 yX5_init : Cond) ∈ TB := TB_mem 203 (by decide +kernel) (by decide +kernel)
theorem w_204 : (.instanceMethod yX5_init : Cond) ∈ TB := TB_mem 204 (by decide +kernel) (by decide +kernel)
theorem w_205 : (.code yX5_init cX5_init 2 none : Cond) ∈ TB := TB_mem 205 (by decide +kernel) (by decide +kernel)
theorem w_206 : (.methodLink RX5 3 objectInit : Cond) ∈ TB := TB_mem 206 (by decide +kernel) (by decide +kernel)
theorem w_207 : (.classLink RX5 9 RX7 : Cond) ∈ TB := TB_mem 207 (by decide +kernel) (by decide +kernel)
theorem w_209 : (.fieldLink RX5 11 "SurprisedPlans$Slots" "states" "[LSurprisedPlans$World;" : Cond) ∈ TB := TB_mem 209 (by decide +kernel) (by decide +kernel)
theorem w_210 : (.fieldLink RX5 17 "SurprisedPlans$Slots" "filled" "[Z" : Cond) ∈ TB := TB_mem 210 (by decide +kernel) (by decide +kernel)
theorem w_216 : (.arrayClass .boolean : Cond) ∈ TB := TB_mem 216 (by decide +kernel) (by decide +kernel)
theorem w_217 : (.classLink RX8 54 RX3 : Cond) ∈ TB := TB_mem 217 (by decide +kernel) (by decide +kernel)
theorem w_218 : (.instantiable RX3 9 : Cond) ∈ TB := TB_mem 218 (by decide +kernel) (by decide +kernel)
theorem w_220 : (.instanceMethod yX3_init : Cond) ∈ TB := TB_mem 220 (by decide +kernel) (by decide +kernel)
theorem w_221 : (.code yX3_init cX3_init 1 none : Cond) ∈ TB := TB_mem 221 (by decide +kernel) (by decide +kernel)
theorem w_222 : (.methodLink RX3 3 objectInit : Cond) ∈ TB := TB_mem 222 (by decide +kernel) (by decide +kernel)
theorem w_223 : (.fieldLink RX3 9 "SurprisedPlans$Planner" "sizes" "[I" : Cond) ∈ TB := TB_mem 223 (by decide +kernel) (by decide +kernel)
theorem w_224 : (.fieldLink RX3 15 "SurprisedPlans$Planner" "shares" "[I" : Cond) ∈ TB := TB_mem 224 (by decide +kernel) (by decide +kernel)
theorem w_225 : (.fieldLink RX3 18 "SurprisedPlans$Planner" "rowsOf" "[J" : Cond) ∈ TB := TB_mem 225 (by decide +kernel) (by decide +kernel)
theorem w_226 : (.fieldLink RX3 22 "SurprisedPlans$Planner" "restOf" "[J" : Cond) ∈ TB := TB_mem 226 (by decide +kernel) (by decide +kernel)
theorem w_227 : (.fieldLink RX3 25 "SurprisedPlans$Planner" "nextOf" "[I" : Cond) ∈ TB := TB_mem 227 (by decide +kernel) (by decide +kernel)
theorem w_228 : (.fieldLink RX3 28 "SurprisedPlans$Planner" "tableAt" "[I" : Cond) ∈ TB := TB_mem 228 (by decide +kernel) (by decide +kernel)
theorem w_229 : (.fieldLink RX3 31 "SurprisedPlans$Planner" "wayAt" "[I" : Cond) ∈ TB := TB_mem 229 (by decide +kernel) (by decide +kernel)
theorem w_230 : (.fieldLink RX3 34 "SurprisedPlans$Planner" "whole" "I" : Cond) ∈ TB := TB_mem 230 (by decide +kernel) (by decide +kernel)
theorem w_231 : (.fieldLink RX3 38 "SurprisedPlans$Planner" "count" "I" : Cond) ∈ TB := TB_mem 231 (by decide +kernel) (by decide +kernel)
theorem w_251 : (.fieldLink RX8 10 "SurprisedPlans" "text" "LSurprisedPlans$Text;" : Cond) ∈ TB := TB_mem 251 (by decide +kernel) (by decide +kernel)
theorem w_252 : (.fieldLink RX8 19 "SurprisedPlans" "entryReader" "LSurprisedPlans$EntryReader;" : Cond) ∈ TB := TB_mem 252 (by decide +kernel) (by decide +kernel)
theorem w_253 : (.fieldLink RX8 26 "SurprisedPlans" "planReader" "LSurprisedPlans$PlanReader;" : Cond) ∈ TB := TB_mem 253 (by decide +kernel) (by decide +kernel)
theorem w_254 : (.fieldLink RX8 33 "SurprisedPlans" "world" "LSurprisedPlans$World;" : Cond) ∈ TB := TB_mem 254 (by decide +kernel) (by decide +kernel)
theorem w_255 : (.fieldLink RX8 37 "SurprisedPlans" "copy" "LSurprisedPlans$World;" : Cond) ∈ TB := TB_mem 255 (by decide +kernel) (by decide +kernel)
theorem w_256 : (.fieldLink RX8 43 "SurprisedPlans" "history" "LSurprisedPlans$History;" : Cond) ∈ TB := TB_mem 256 (by decide +kernel) (by decide +kernel)
theorem w_257 : (.fieldLink RX8 50 "SurprisedPlans" "slots" "LSurprisedPlans$Slots;" : Cond) ∈ TB := TB_mem 257 (by decide +kernel) (by decide +kernel)
theorem w_258 : (.fieldLink RX8 57 "SurprisedPlans" "chosen" "LSurprisedPlans$Planner;" : Cond) ∈ TB := TB_mem 258 (by decide +kernel) (by decide +kernel)
theorem w_259 : (.fieldLink RX8 61 "SurprisedPlans" "other" "LSurprisedPlans$Planner;" : Cond) ∈ TB := TB_mem 259 (by decide +kernel) (by decide +kernel)
theorem w_279 : (.methodLink RL 203 yL_tryScript : Cond) ∈ TB := TB_mem 279 (by decide +kernel) (by decide +kernel)
theorem w_280 : (.static yL_tryScript : Cond) ∈ TB := TB_mem 280 (by decide +kernel) (by decide +kernel)
theorem w_281 : (.codeWith yL_tryScript cL_tryScript 5 (some .int) [(0, 6, 7, 16)] : Cond) ∈ TB := TB_mem 281 (by decide +kernel) (by decide +kernel)
theorem w_282 : (.classLink RL 16 "java/lang/IllegalArgumentException" : Cond) ∈ TB := TB_mem 282 (by decide +kernel) (by decide +kernel)
theorem w_283 : (.methodLink RL 41 yX8_runScript : Cond) ∈ TB := TB_mem 283 (by decide +kernel) (by decide +kernel)
theorem w_284 : (.instanceMethod yX8_runScript : Cond) ∈ TB := TB_mem 284 (by decide +kernel) (by decide +kernel)
theorem w_285 : (.selects RX8 yX8_runScript yX8_runScript : Cond) ∈ TB := TB_mem 285 (by decide +kernel) (by decide +kernel)
theorem w_286 : (.code yX8_runScript cX8_runScript 7 (some .int) : Cond) ∈ TB := TB_mem 286 (by decide +kernel) (by decide +kernel)
theorem w_287 : (.methodLink RX8 64 yX8_needRange : Cond) ∈ TB := TB_mem 287 (by decide +kernel) (by decide +kernel)
theorem w_288 : (.static yX8_needRange : Cond) ∈ TB := TB_mem 288 (by decide +kernel) (by decide +kernel)
theorem w_289 : (.code yX8_needRange cX8_needRange 3 none : Cond) ∈ TB := TB_mem 289 (by decide +kernel) (by decide +kernel)
theorem w_290 : (.methodLink RX8 340 yX8_isIn : Cond) ∈ TB := TB_mem 290 (by decide +kernel) (by decide +kernel)
theorem w_291 : (.static yX8_isIn : Cond) ∈ TB := TB_mem 291 (by decide +kernel) (by decide +kernel)
theorem w_292 : (.code yX8_isIn cX8_isIn 3 (some .boolean) : Cond) ∈ TB := TB_mem 292 (by decide +kernel) (by decide +kernel)
theorem w_361 : (.constantLong RX8 264 (1000000) : Cond) ∈ TB := TB_mem 361 (by decide +kernel) (by decide +kernel)
theorem w_363 : (.methodLink RX8 248 yX7_takeFrom : Cond) ∈ TB := TB_mem 363 (by decide +kernel) (by decide +kernel)
theorem w_364 : (.instanceMethod yX7_takeFrom : Cond) ∈ TB := TB_mem 364 (by decide +kernel) (by decide +kernel)
theorem w_365 : (.selects RX7 yX7_takeFrom yX7_takeFrom : Cond) ∈ TB := TB_mem 365 (by decide +kernel) (by decide +kernel)
theorem w_366 : (.code yX7_takeFrom cX7_takeFrom 2 none : Cond) ∈ TB := TB_mem 366 (by decide +kernel) (by decide +kernel)
theorem w_367 : (.methodLink RX7 61 arraycopyName : Cond) ∈ TB := TB_mem 367 (by decide +kernel) (by decide +kernel)
theorem w_368 : (.static arraycopyName : Cond) ∈ TB := TB_mem 368 (by decide +kernel) (by decide +kernel)
theorem w_369 : (.native arraycopyName : Cond) ∈ TB := TB_mem 369 (by decide +kernel) (by decide +kernel)
theorem w_370 : (.methodLink RX8 268 yX8_succeeds : Cond) ∈ TB := TB_mem 370 (by decide +kernel) (by decide +kernel)
theorem w_372 : (.instanceMethod yX8_succeeds : Cond) ∈ TB := TB_mem 372 (by decide +kernel) (by decide +kernel)
theorem w_373 : (.code yX8_succeeds cX8_succeeds 6 (some .boolean) : Cond) ∈ TB := TB_mem 373 (by decide +kernel) (by decide +kernel)
theorem w_374 : (.constant RX8 339 (100000) : Cond) ∈ TB := TB_mem 374 (by decide +kernel) (by decide +kernel)
theorem w_375 : (.methodLink RX8 234 yX7_hasTables : Cond) ∈ TB := TB_mem 375 (by decide +kernel) (by decide +kernel)
theorem w_376 : (.instanceMethod yX7_hasTables : Cond) ∈ TB := TB_mem 376 (by decide +kernel) (by decide +kernel)
theorem w_377 : (.selects RX7 yX7_hasTables yX7_hasTables : Cond) ∈ TB := TB_mem 377 (by decide +kernel) (by decide +kernel)
theorem w_378 : (.code yX7_hasTables cX7_hasTables 2 (some .boolean) : Cond) ∈ TB := TB_mem 378 (by decide +kernel) (by decide +kernel)
theorem w_379 : (.methodLink RX8 169 yX8_runIn : Cond) ∈ TB := TB_mem 379 (by decide +kernel) (by decide +kernel)
theorem w_381 : (.instanceMethod yX8_runIn : Cond) ∈ TB := TB_mem 381 (by decide +kernel) (by decide +kernel)
theorem w_382 : (.code yX8_runIn cX8_runIn 5 (some .int) : Cond) ∈ TB := TB_mem 382 (by decide +kernel) (by decide +kernel)
theorem w_383 : (.methodLink RX8 219 yX8_regretIn : Cond) ∈ TB := TB_mem 383 (by decide +kernel) (by decide +kernel)
theorem w_385 : (.instanceMethod yX8_regretIn : Cond) ∈ TB := TB_mem 385 (by decide +kernel) (by decide +kernel)
theorem w_386 : (.code yX8_regretIn cX8_regretIn 3 (some .long) : Cond) ∈ TB := TB_mem 386 (by decide +kernel) (by decide +kernel)
theorem w_387 : (.methodLink RX8 210 yX3_choose : Cond) ∈ TB := TB_mem 387 (by decide +kernel) (by decide +kernel)
theorem w_388 : (.instanceMethod yX3_choose : Cond) ∈ TB := TB_mem 388 (by decide +kernel) (by decide +kernel)
theorem w_389 : (.selects RX3 yX3_choose yX3_choose : Cond) ∈ TB := TB_mem 389 (by decide +kernel) (by decide +kernel)
theorem w_390 : (.code yX3_choose cX3_choose 5 none : Cond) ∈ TB := TB_mem 390 (by decide +kernel) (by decide +kernel)
theorem w_391 : (.methodLink RX3 63 yX3_weigh : Cond) ∈ TB := TB_mem 391 (by decide +kernel) (by decide +kernel)
theorem w_392 : (.instanceMethod yX3_weigh : Cond) ∈ TB := TB_mem 392 (by decide +kernel) (by decide +kernel)
theorem w_393 : (.selects RX3 yX3_weigh yX3_weigh : Cond) ∈ TB := TB_mem 393 (by decide +kernel) (by decide +kernel)
theorem w_394 : (.code yX3_weigh cX3_weigh 6 none : Cond) ∈ TB := TB_mem 394 (by decide +kernel) (by decide +kernel)
theorem w_395 : (.methodLink RX3 41 yX7_sizeOf : Cond) ∈ TB := TB_mem 395 (by decide +kernel) (by decide +kernel)
theorem w_396 : (.instanceMethod yX7_sizeOf : Cond) ∈ TB := TB_mem 396 (by decide +kernel) (by decide +kernel)
theorem w_397 : (.selects RX7 yX7_sizeOf yX7_sizeOf : Cond) ∈ TB := TB_mem 397 (by decide +kernel) (by decide +kernel)
theorem w_398 : (.code yX7_sizeOf cX7_sizeOf 2 (some .int) : Cond) ∈ TB := TB_mem 398 (by decide +kernel) (by decide +kernel)
theorem w_400 : (.methodLink RX3 47 yX7_shareOf : Cond) ∈ TB := TB_mem 400 (by decide +kernel) (by decide +kernel)
theorem w_401 : (.instanceMethod yX7_shareOf : Cond) ∈ TB := TB_mem 401 (by decide +kernel) (by decide +kernel)
theorem w_402 : (.selects RX7 yX7_shareOf yX7_shareOf : Cond) ∈ TB := TB_mem 402 (by decide +kernel) (by decide +kernel)
theorem w_403 : (.code yX7_shareOf cX7_shareOf 3 (some .int) : Cond) ∈ TB := TB_mem 403 (by decide +kernel) (by decide +kernel)
theorem w_404 : (.methodLink RX3 51 yX3_rowsJoined : Cond) ∈ TB := TB_mem 404 (by decide +kernel) (by decide +kernel)
theorem w_406 : (.instanceMethod yX3_rowsJoined : Cond) ∈ TB := TB_mem 406 (by decide +kernel) (by decide +kernel)
theorem w_407 : (.code yX3_rowsJoined cX3_rowsJoined 8 (some .long) : Cond) ∈ TB := TB_mem 407 (by decide +kernel) (by decide +kernel)
theorem w_408 : (.methodLink RX3 55 yX3_rowsOf : Cond) ∈ TB := TB_mem 408 (by decide +kernel) (by decide +kernel)
theorem w_409 : (.instanceMethod yX3_rowsOf : Cond) ∈ TB := TB_mem 409 (by decide +kernel) (by decide +kernel)
theorem w_410 : (.selects RX3 yX3_rowsOf yX3_rowsOf : Cond) ∈ TB := TB_mem 410 (by decide +kernel) (by decide +kernel)
theorem w_411 : (.code yX3_rowsOf cX3_rowsOf 2 (some .long) : Cond) ∈ TB := TB_mem 411 (by decide +kernel) (by decide +kernel)
theorem w_412 : (.methodLink RX3 58 yX3_sizeOf : Cond) ∈ TB := TB_mem 412 (by decide +kernel) (by decide +kernel)
theorem w_414 : (.instanceMethod yX3_sizeOf : Cond) ∈ TB := TB_mem 414 (by decide +kernel) (by decide +kernel)
theorem w_415 : (.code yX3_sizeOf cX3_sizeOf 2 (some .int) : Cond) ∈ TB := TB_mem 415 (by decide +kernel) (by decide +kernel)
theorem w_416 : (.constantLong RX3 59 (1000000000000) : Cond) ∈ TB := TB_mem 416 (by decide +kernel) (by decide +kernel)
theorem w_417 : (.constantLong RX3 61 (1000) : Cond) ∈ TB := TB_mem 417 (by decide +kernel) (by decide +kernel)
theorem w_418 : (.methodLink RX3 67 yX3_findNext : Cond) ∈ TB := TB_mem 418 (by decide +kernel) (by decide +kernel)
theorem w_420 : (.instanceMethod yX3_findNext : Cond) ∈ TB := TB_mem 420 (by decide +kernel) (by decide +kernel)
theorem w_421 : (.code yX3_findNext cX3_findNext 9 none : Cond) ∈ TB := TB_mem 421 (by decide +kernel) (by decide +kernel)
theorem w_422 : (.methodLink RX3 74 yX3_cheaperWay : Cond) ∈ TB := TB_mem 422 (by decide +kernel) (by decide +kernel)
theorem w_424 : (.instanceMethod yX3_cheaperWay : Cond) ∈ TB := TB_mem 424 (by decide +kernel) (by decide +kernel)
theorem w_425 : (.code yX3_cheaperWay cX3_cheaperWay 6 (some .int) : Cond) ∈ TB := TB_mem 425 (by decide +kernel) (by decide +kernel)
theorem w_426 : (.constantLong RX3 87 (3) : Cond) ∈ TB := TB_mem 426 (by decide +kernel) (by decide +kernel)
theorem w_427 : (.methodLink RX3 77 yX3_stepCost : Cond) ∈ TB := TB_mem 427 (by decide +kernel) (by decide +kernel)
theorem w_429 : (.instanceMethod yX3_stepCost : Cond) ∈ TB := TB_mem 429 (by decide +kernel) (by decide +kernel)
theorem w_430 : (.code yX3_stepCost cX3_stepCost 9 (some .long) : Cond) ∈ TB := TB_mem 430 (by decide +kernel) (by decide +kernel)
theorem w_431 : (.constantLong RX3 89 (1000000000000000) : Cond) ∈ TB := TB_mem 431 (by decide +kernel) (by decide +kernel)
theorem w_432 : (.methodLink RX3 81 yX3_restOf : Cond) ∈ TB := TB_mem 432 (by decide +kernel) (by decide +kernel)
theorem w_434 : (.instanceMethod yX3_restOf : Cond) ∈ TB := TB_mem 434 (by decide +kernel) (by decide +kernel)
theorem w_435 : (.code yX3_restOf cX3_restOf 2 (some .long) : Cond) ∈ TB := TB_mem 435 (by decide +kernel) (by decide +kernel)
theorem w_436 : (.methodLink RX3 71 yX3_followNext : Cond) ∈ TB := TB_mem 436 (by decide +kernel) (by decide +kernel)
theorem w_438 : (.instanceMethod yX3_followNext : Cond) ∈ TB := TB_mem 438 (by decide +kernel) (by decide +kernel)
theorem w_439 : (.code yX3_followNext cX3_followNext 4 none : Cond) ∈ TB := TB_mem 439 (by decide +kernel) (by decide +kernel)
theorem w_441 : (.methodLink RX8 227 yX3_costAsPlannedBy : Cond) ∈ TB := TB_mem 441 (by decide +kernel) (by decide +kernel)
theorem w_442 : (.instanceMethod yX3_costAsPlannedBy : Cond) ∈ TB := TB_mem 442 (by decide +kernel) (by decide +kernel)
theorem w_443 : (.selects RX3 yX3_costAsPlannedBy yX3_costAsPlannedBy : Cond) ∈ TB := TB_mem 443 (by decide +kernel) (by decide +kernel)
theorem w_444 : (.code yX3_costAsPlannedBy cX3_costAsPlannedBy 7 (some .long) : Cond) ∈ TB := TB_mem 444 (by decide +kernel) (by decide +kernel)
theorem w_445 : (.methodLink RX3 91 yX3_tableAt : Cond) ∈ TB := TB_mem 445 (by decide +kernel) (by decide +kernel)
theorem w_446 : (.instanceMethod yX3_tableAt : Cond) ∈ TB := TB_mem 446 (by decide +kernel) (by decide +kernel)
theorem w_447 : (.selects RX3 yX3_tableAt yX3_tableAt : Cond) ∈ TB := TB_mem 447 (by decide +kernel) (by decide +kernel)
theorem w_448 : (.code yX3_tableAt cX3_tableAt 2 (some .int) : Cond) ∈ TB := TB_mem 448 (by decide +kernel) (by decide +kernel)
theorem w_449 : (.methodLink RX3 93 yX3_wayAt : Cond) ∈ TB := TB_mem 449 (by decide +kernel) (by decide +kernel)
theorem w_450 : (.instanceMethod yX3_wayAt : Cond) ∈ TB := TB_mem 450 (by decide +kernel) (by decide +kernel)
theorem w_451 : (.selects RX3 yX3_wayAt yX3_wayAt : Cond) ∈ TB := TB_mem 451 (by decide +kernel) (by decide +kernel)
theorem w_452 : (.code yX3_wayAt cX3_wayAt 2 (some .int) : Cond) ∈ TB := TB_mem 452 (by decide +kernel) (by decide +kernel)
theorem w_453 : (.methodLink RX8 223 yX3_leastCost : Cond) ∈ TB := TB_mem 453 (by decide +kernel) (by decide +kernel)
theorem w_454 : (.instanceMethod yX3_leastCost : Cond) ∈ TB := TB_mem 454 (by decide +kernel) (by decide +kernel)
theorem w_455 : (.selects RX3 yX3_leastCost yX3_leastCost : Cond) ∈ TB := TB_mem 455 (by decide +kernel) (by decide +kernel)
theorem w_456 : (.code yX3_leastCost cX3_leastCost 1 (some .long) : Cond) ∈ TB := TB_mem 456 (by decide +kernel) (by decide +kernel)
theorem w_457 : (.methodLink RX8 335 yX7_noteRun : Cond) ∈ TB := TB_mem 457 (by decide +kernel) (by decide +kernel)
theorem w_458 : (.instanceMethod yX7_noteRun : Cond) ∈ TB := TB_mem 458 (by decide +kernel) (by decide +kernel)
theorem w_459 : (.selects RX7 yX7_noteRun yX7_noteRun : Cond) ∈ TB := TB_mem 459 (by decide +kernel) (by decide +kernel)
theorem w_460 : (.code yX7_noteRun cX7_noteRun 5 none : Cond) ∈ TB := TB_mem 460 (by decide +kernel) (by decide +kernel)
theorem w_461 : (.methodLink RX8 261 yX7_learn : Cond) ∈ TB := TB_mem 461 (by decide +kernel) (by decide +kernel)
theorem w_462 : (.instanceMethod yX7_learn : Cond) ∈ TB := TB_mem 462 (by decide +kernel) (by decide +kernel)
theorem w_463 : (.selects RX7 yX7_learn yX7_learn : Cond) ∈ TB := TB_mem 463 (by decide +kernel) (by decide +kernel)
theorem w_464 : (.code yX7_learn cX7_learn 5 (some .int) : Cond) ∈ TB := TB_mem 464 (by decide +kernel) (by decide +kernel)
theorem w_466 : (.static yX8_holds : Cond) ∈ TB := TB_mem 466 (by decide +kernel) (by decide +kernel)
theorem w_467 : (.code yX8_holds cX8_holds 2 (some .boolean) : Cond) ∈ TB := TB_mem 467 (by decide +kernel) (by decide +kernel)
theorem w_468 : (.methodLink RX7 110 yX7_learnPair : Cond) ∈ TB := TB_mem 468 (by decide +kernel) (by decide +kernel)
theorem w_470 : (.instanceMethod yX7_learnPair : Cond) ∈ TB := TB_mem 470 (by decide +kernel) (by decide +kernel)
theorem w_471 : (.code yX7_learnPair cX7_learnPair 7 none : Cond) ∈ TB := TB_mem 471 (by decide +kernel) (by decide +kernel)
theorem w_473 : (.static yX8_pairIndex : Cond) ∈ TB := TB_mem 473 (by decide +kernel) (by decide +kernel)
theorem w_474 : (.code yX8_pairIndex cX8_pairIndex 4 (some .int) : Cond) ∈ TB := TB_mem 474 (by decide +kernel) (by decide +kernel)
theorem w_475 : (.methodLink RX8 386 Lib.Math.min.name : Cond) ∈ TB := TB_mem 475 (by decide +kernel) (by decide +kernel)
theorem w_476 : (.static Lib.Math.min.name : Cond) ∈ TB := TB_mem 476 (by decide +kernel) (by decide +kernel)
theorem w_477 : (.code Lib.Math.min.name Lib.Math.min.code 2 (some .int) : Cond) ∈ TB := TB_mem 477 (by decide +kernel) (by decide +kernel)
theorem w_478 : (.methodLink RX8 391 Lib.Math.max.name : Cond) ∈ TB := TB_mem 478 (by decide +kernel) (by decide +kernel)
theorem w_479 : (.static Lib.Math.max.name : Cond) ∈ TB := TB_mem 479 (by decide +kernel) (by decide +kernel)
theorem w_480 : (.code Lib.Math.max.name Lib.Math.max.code 2 (some .int) : Cond) ∈ TB := TB_mem 480 (by decide +kernel) (by decide +kernel)
theorem w_481 : (.methodLink RX7 85 yX7_isLinked : Cond) ∈ TB := TB_mem 481 (by decide +kernel) (by decide +kernel)
theorem w_482 : (.instanceMethod yX7_isLinked : Cond) ∈ TB := TB_mem 482 (by decide +kernel) (by decide +kernel)
theorem w_483 : (.selects RX7 yX7_isLinked yX7_isLinked : Cond) ∈ TB := TB_mem 483 (by decide +kernel) (by decide +kernel)
theorem w_484 : (.code yX7_isLinked cX7_isLinked 2 (some .boolean) : Cond) ∈ TB := TB_mem 484 (by decide +kernel) (by decide +kernel)
theorem w_485 : (.methodLink RX7 117 yX7_differenceOf : Cond) ∈ TB := TB_mem 485 (by decide +kernel) (by decide +kernel)
theorem w_487 : (.instanceMethod yX7_differenceOf : Cond) ∈ TB := TB_mem 487 (by decide +kernel) (by decide +kernel)
theorem w_488 : (.code yX7_differenceOf cX7_differenceOf 2 (some .int) : Cond) ∈ TB := TB_mem 488 (by decide +kernel) (by decide +kernel)
theorem w_489 : (.methodLink RX7 88 yX7_shareOf : Cond) ∈ TB := TB_mem 489 (by decide +kernel) (by decide +kernel)
theorem w_490 : (.methodLink RX7 129 Lib.Math.abs.name : Cond) ∈ TB := TB_mem 490 (by decide +kernel) (by decide +kernel)
theorem w_491 : (.static Lib.Math.abs.name : Cond) ∈ TB := TB_mem 491 (by decide +kernel) (by decide +kernel)
theorem w_492 : (.code Lib.Math.abs.name Lib.Math.abs.code 1 (some .int) : Cond) ∈ TB := TB_mem 492 (by decide +kernel) (by decide +kernel)
theorem w_493 : (.methodLink RX7 120 yX7_noteSurprise : Cond) ∈ TB := TB_mem 493 (by decide +kernel) (by decide +kernel)
theorem w_495 : (.instanceMethod yX7_noteSurprise : Cond) ∈ TB := TB_mem 495 (by decide +kernel) (by decide +kernel)
theorem w_496 : (.code yX7_noteSurprise cX7_noteSurprise 5 none : Cond) ∈ TB := TB_mem 496 (by decide +kernel) (by decide +kernel)
theorem w_497 : (.methodLink RX7 124 Lib.Math.max.name : Cond) ∈ TB := TB_mem 497 (by decide +kernel) (by decide +kernel)
theorem w_498 : (.methodLink RX8 173 yX7_passWeeks : Cond) ∈ TB := TB_mem 498 (by decide +kernel) (by decide +kernel)
theorem w_499 : (.instanceMethod yX7_passWeeks : Cond) ∈ TB := TB_mem 499 (by decide +kernel) (by decide +kernel)
theorem w_500 : (.selects RX7 yX7_passWeeks yX7_passWeeks : Cond) ∈ TB := TB_mem 500 (by decide +kernel) (by decide +kernel)
theorem w_501 : (.code yX7_passWeeks cX7_passWeeks 4 (some .int) : Cond) ∈ TB := TB_mem 501 (by decide +kernel) (by decide +kernel)
theorem w_502 : (.methodLink RX7 103 yX7_makeOlder : Cond) ∈ TB := TB_mem 502 (by decide +kernel) (by decide +kernel)
theorem w_504 : (.instanceMethod yX7_makeOlder : Cond) ∈ TB := TB_mem 504 (by decide +kernel) (by decide +kernel)
theorem w_505 : (.code yX7_makeOlder cX7_makeOlder 2 none : Cond) ∈ TB := TB_mem 505 (by decide +kernel) (by decide +kernel)
theorem w_506 : (.methodLink RX7 75 yX7_hasMemory : Cond) ∈ TB := TB_mem 506 (by decide +kernel) (by decide +kernel)
theorem w_507 : (.instanceMethod yX7_hasMemory : Cond) ∈ TB := TB_mem 507 (by decide +kernel) (by decide +kernel)
theorem w_508 : (.selects RX7 yX7_hasMemory yX7_hasMemory : Cond) ∈ TB := TB_mem 508 (by decide +kernel) (by decide +kernel)
theorem w_509 : (.code yX7_hasMemory cX7_hasMemory 2 (some .boolean) : Cond) ∈ TB := TB_mem 509 (by decide +kernel) (by decide +kernel)
theorem w_510 : (.methodLink RX7 96 yX7_forget : Cond) ∈ TB := TB_mem 510 (by decide +kernel) (by decide +kernel)
theorem w_511 : (.instanceMethod yX7_forget : Cond) ∈ TB := TB_mem 511 (by decide +kernel) (by decide +kernel)
theorem w_512 : (.selects RX7 yX7_forget yX7_forget : Cond) ∈ TB := TB_mem 512 (by decide +kernel) (by decide +kernel)
theorem w_513 : (.code yX7_forget cX7_forget 2 none : Cond) ∈ TB := TB_mem 513 (by decide +kernel) (by decide +kernel)
theorem w_514 : (.methodLink RX7 82 yX7_memoryCount : Cond) ∈ TB := TB_mem 514 (by decide +kernel) (by decide +kernel)
theorem w_515 : (.instanceMethod yX7_memoryCount : Cond) ∈ TB := TB_mem 515 (by decide +kernel) (by decide +kernel)
theorem w_516 : (.selects RX7 yX7_memoryCount yX7_memoryCount : Cond) ∈ TB := TB_mem 516 (by decide +kernel) (by decide +kernel)
theorem w_517 : (.code yX7_memoryCount cX7_memoryCount 3 (some .int) : Cond) ∈ TB := TB_mem 517 (by decide +kernel) (by decide +kernel)
theorem w_518 : (.methodLink RX8 344 yX8_scriptDrifts : Cond) ∈ TB := TB_mem 518 (by decide +kernel) (by decide +kernel)
theorem w_520 : (.instanceMethod yX8_scriptDrifts : Cond) ∈ TB := TB_mem 520 (by decide +kernel) (by decide +kernel)
theorem w_521 : (.code yX8_scriptDrifts cX8_scriptDrifts 4 (some .boolean) : Cond) ∈ TB := TB_mem 521 (by decide +kernel) (by decide +kernel)
theorem w_522 : (.methodLink RX8 329 yX7_hasTwoTables : Cond) ∈ TB := TB_mem 522 (by decide +kernel) (by decide +kernel)
theorem w_523 : (.instanceMethod yX7_hasTwoTables : Cond) ∈ TB := TB_mem 523 (by decide +kernel) (by decide +kernel)
theorem w_524 : (.selects RX7 yX7_hasTwoTables yX7_hasTwoTables : Cond) ∈ TB := TB_mem 524 (by decide +kernel) (by decide +kernel)
theorem w_525 : (.code yX7_hasTwoTables cX7_hasTwoTables 3 (some .boolean) : Cond) ∈ TB := TB_mem 525 (by decide +kernel) (by decide +kernel)
theorem w_526 : (.methodLink RX7 67 yX7_hasTable : Cond) ∈ TB := TB_mem 526 (by decide +kernel) (by decide +kernel)
theorem w_527 : (.instanceMethod yX7_hasTable : Cond) ∈ TB := TB_mem 527 (by decide +kernel) (by decide +kernel)
theorem w_528 : (.selects RX7 yX7_hasTable yX7_hasTable : Cond) ∈ TB := TB_mem 528 (by decide +kernel) (by decide +kernel)
theorem w_529 : (.code yX7_hasTable cX7_hasTable 2 (some .boolean) : Cond) ∈ TB := TB_mem 529 (by decide +kernel) (by decide +kernel)
theorem w_530 : (.methodLink RX8 124 yX8_pairIndex : Cond) ∈ TB := TB_mem 530 (by decide +kernel) (by decide +kernel)
theorem w_531 : (.methodLink RX8 154 yX7_isLinked : Cond) ∈ TB := TB_mem 531 (by decide +kernel) (by decide +kernel)
theorem w_532 : (.methodLink RX8 160 yX7_changeShare : Cond) ∈ TB := TB_mem 532 (by decide +kernel) (by decide +kernel)
theorem w_533 : (.instanceMethod yX7_changeShare : Cond) ∈ TB := TB_mem 533 (by decide +kernel) (by decide +kernel)
theorem w_534 : (.selects RX7 yX7_changeShare yX7_changeShare : Cond) ∈ TB := TB_mem 534 (by decide +kernel) (by decide +kernel)
theorem w_535 : (.code yX7_changeShare cX7_changeShare 4 (some .int) : Cond) ∈ TB := TB_mem 535 (by decide +kernel) (by decide +kernel)
theorem w_536 : (.methodLink RX8 347 yX8_scriptSets : Cond) ∈ TB := TB_mem 536 (by decide +kernel) (by decide +kernel)
theorem w_538 : (.instanceMethod yX8_scriptSets : Cond) ∈ TB := TB_mem 538 (by decide +kernel) (by decide +kernel)
theorem w_539 : (.code yX8_scriptSets cX8_scriptSets 3 (some .boolean) : Cond) ∈ TB := TB_mem 539 (by decide +kernel) (by decide +kernel)
theorem w_540 : (.methodLink RX8 176 yX8_settingTakes : Cond) ∈ TB := TB_mem 540 (by decide +kernel) (by decide +kernel)
theorem w_541 : (.static yX8_settingTakes : Cond) ∈ TB := TB_mem 541 (by decide +kernel) (by decide +kernel)
theorem w_542 : (.code yX8_settingTakes cX8_settingTakes 2 (some .boolean) : Cond) ∈ TB := TB_mem 542 (by decide +kernel) (by decide +kernel)
theorem w_543 : (.fieldLink RX8 379 "SurprisedPlans" "LEAST_SETTING" "[I" : Cond) ∈ TB := TB_mem 543 (by decide +kernel) (by decide +kernel)
theorem w_545 : (.fieldLink RX8 383 "SurprisedPlans" "MOST_SETTING" "[I" : Cond) ∈ TB := TB_mem 545 (by decide +kernel) (by decide +kernel)
theorem w_547 : (.methodLink RX8 185 yX7_changeSetting : Cond) ∈ TB := TB_mem 547 (by decide +kernel) (by decide +kernel)
theorem w_548 : (.instanceMethod yX7_changeSetting : Cond) ∈ TB := TB_mem 548 (by decide +kernel) (by decide +kernel)
theorem w_549 : (.selects RX7 yX7_changeSetting yX7_changeSetting : Cond) ∈ TB := TB_mem 549 (by decide +kernel) (by decide +kernel)
theorem w_550 : (.code yX7_changeSetting cX7_changeSetting 4 (some .int) : Cond) ∈ TB := TB_mem 550 (by decide +kernel) (by decide +kernel)
theorem w_551 : (.methodLink RX7 100 yX7_settingOf : Cond) ∈ TB := TB_mem 551 (by decide +kernel) (by decide +kernel)
theorem w_552 : (.instanceMethod yX7_settingOf : Cond) ∈ TB := TB_mem 552 (by decide +kernel) (by decide +kernel)
theorem w_553 : (.selects RX7 yX7_settingOf yX7_settingOf : Cond) ∈ TB := TB_mem 553 (by decide +kernel) (by decide +kernel)
theorem w_554 : (.code yX7_settingOf cX7_settingOf 2 (some .int) : Cond) ∈ TB := TB_mem 554 (by decide +kernel) (by decide +kernel)
theorem w_555 : (.methodLink RX8 350 yX8_scriptLinks : Cond) ∈ TB := TB_mem 555 (by decide +kernel) (by decide +kernel)
theorem w_557 : (.instanceMethod yX8_scriptLinks : Cond) ∈ TB := TB_mem 557 (by decide +kernel) (by decide +kernel)
theorem w_558 : (.code yX8_scriptLinks cX8_scriptLinks 4 (some .boolean) : Cond) ∈ TB := TB_mem 558 (by decide +kernel) (by decide +kernel)
theorem w_559 : (.methodLink RX8 150 yX7_linkPair : Cond) ∈ TB := TB_mem 559 (by decide +kernel) (by decide +kernel)
theorem w_560 : (.instanceMethod yX7_linkPair : Cond) ∈ TB := TB_mem 560 (by decide +kernel) (by decide +kernel)
theorem w_561 : (.selects RX7 yX7_linkPair yX7_linkPair : Cond) ∈ TB := TB_mem 561 (by decide +kernel) (by decide +kernel)
theorem w_562 : (.code yX7_linkPair cX7_linkPair 4 (some .int) : Cond) ∈ TB := TB_mem 562 (by decide +kernel) (by decide +kernel)
theorem w_563 : (.methodLink RX7 78 yX7_linkCount : Cond) ∈ TB := TB_mem 563 (by decide +kernel) (by decide +kernel)
theorem w_565 : (.instanceMethod yX7_linkCount : Cond) ∈ TB := TB_mem 565 (by decide +kernel) (by decide +kernel)
theorem w_566 : (.code yX7_linkCount cX7_linkCount 3 (some .int) : Cond) ∈ TB := TB_mem 566 (by decide +kernel) (by decide +kernel)
theorem w_567 : (.methodLink RX8 353 yX8_chosenTableIs : Cond) ∈ TB := TB_mem 567 (by decide +kernel) (by decide +kernel)
theorem w_569 : (.instanceMethod yX8_chosenTableIs : Cond) ∈ TB := TB_mem 569 (by decide +kernel) (by decide +kernel)
theorem w_570 : (.code yX8_chosenTableIs cX8_chosenTableIs 4 (some .boolean) : Cond) ∈ TB := TB_mem 570 (by decide +kernel) (by decide +kernel)
theorem w_571 : (.methodLink RX8 213 yX3_tableAt : Cond) ∈ TB := TB_mem 571 (by decide +kernel) (by decide +kernel)
theorem w_572 : (.methodLink RX8 356 yX7_remembersSince : Cond) ∈ TB := TB_mem 572 (by decide +kernel) (by decide +kernel)
theorem w_573 : (.instanceMethod yX7_remembersSince : Cond) ∈ TB := TB_mem 573 (by decide +kernel) (by decide +kernel)
theorem w_574 : (.selects RX7 yX7_remembersSince yX7_remembersSince : Cond) ∈ TB := TB_mem 574 (by decide +kernel) (by decide +kernel)
theorem w_575 : (.code yX7_remembersSince cX7_remembersSince 3 (some .boolean) : Cond) ∈ TB := TB_mem 575 (by decide +kernel) (by decide +kernel)
theorem w_576 : (.constant RL 18 (-9999002) : Cond) ∈ TB := TB_mem 576 (by decide +kernel) (by decide +kernel)
theorem w_577 : (.methodLink RL 211 yL_trySimulate : Cond) ∈ TB := TB_mem 577 (by decide +kernel) (by decide +kernel)
theorem w_578 : (.static yL_trySimulate : Cond) ∈ TB := TB_mem 578 (by decide +kernel) (by decide +kernel)
theorem w_579 : (.codeWith yL_trySimulate cL_trySimulate 5 (some .int) [(0, 6, 7, 16)] : Cond) ∈ TB := TB_mem 579 (by decide +kernel) (by decide +kernel)
theorem w_580 : (.methodLink RL 45 yX8_simulate : Cond) ∈ TB := TB_mem 580 (by decide +kernel) (by decide +kernel)
theorem w_581 : (.instanceMethod yX8_simulate : Cond) ∈ TB := TB_mem 581 (by decide +kernel) (by decide +kernel)
theorem w_582 : (.selects RX8 yX8_simulate yX8_simulate : Cond) ∈ TB := TB_mem 582 (by decide +kernel) (by decide +kernel)
theorem w_583 : (.code yX8_simulate cX8_simulate 7 (some .int) : Cond) ∈ TB := TB_mem 583 (by decide +kernel) (by decide +kernel)
theorem w_584 : (.constantLong RX8 271 (6364136223846793005) : Cond) ∈ TB := TB_mem 584 (by decide +kernel) (by decide +kernel)
theorem w_585 : (.constantLong RX8 273 (1442695040888963407) : Cond) ∈ TB := TB_mem 585 (by decide +kernel) (by decide +kernel)
theorem w_586 : (.methodLink RX8 275 yX8_takeTurn : Cond) ∈ TB := TB_mem 586 (by decide +kernel) (by decide +kernel)
theorem w_588 : (.instanceMethod yX8_takeTurn : Cond) ∈ TB := TB_mem 588 (by decide +kernel) (by decide +kernel)
theorem w_589 : (.code yX8_takeTurn cX8_takeTurn 4 none : Cond) ∈ TB := TB_mem 589 (by decide +kernel) (by decide +kernel)
theorem w_590 : (.methodLink RX8 282 yX7_memoryCount : Cond) ∈ TB := TB_mem 590 (by decide +kernel) (by decide +kernel)
theorem w_591 : (.methodLink RL 226 yL_cell : Cond) ∈ TB := TB_mem 591 (by decide +kernel) (by decide +kernel)
theorem w_592 : (.static yL_cell : Cond) ∈ TB := TB_mem 592 (by decide +kernel) (by decide +kernel)
theorem w_593 : (.code yL_cell cL_cell 2 (some .int) : Cond) ∈ TB := TB_mem 593 (by decide +kernel) (by decide +kernel)
theorem w_594 : (.constant RL 180 (15518357) : Cond) ∈ TB := TB_mem 594 (by decide +kernel) (by decide +kernel)
theorem w_595 : (.constant RL 181 (2147483647) : Cond) ∈ TB := TB_mem 595 (by decide +kernel) (by decide +kernel)
theorem w_596 : (.methodLink RL 230 yL_refuses : Cond) ∈ TB := TB_mem 596 (by decide +kernel) (by decide +kernel)
theorem w_597 : (.static yL_refuses : Cond) ∈ TB := TB_mem 597 (by decide +kernel) (by decide +kernel)
theorem w_599 : (.methodLink RL 182 yL_call : Cond) ∈ TB := TB_mem 599 (by decide +kernel) (by decide +kernel)
theorem w_600 : (.static yL_call : Cond) ∈ TB := TB_mem 600 (by decide +kernel) (by decide +kernel)
theorem w_601 : (.code yL_call cL_call 5 (some .int) : Cond) ∈ TB := TB_mem 601 (by decide +kernel) (by decide +kernel)
theorem w_602 : (.methodLink RL 114 yL_tryAppend : Cond) ∈ TB := TB_mem 602 (by decide +kernel) (by decide +kernel)
theorem w_603 : (.static yL_tryAppend : Cond) ∈ TB := TB_mem 603 (by decide +kernel) (by decide +kernel)
theorem w_604 : (.codeWith yL_tryAppend cL_tryAppend 3 (some .int) [(0, 5, 6, 16), (0, 5, 10, 37)] : Cond) ∈ TB := TB_mem 604 (by decide +kernel) (by decide +kernel)
theorem w_605 : (.classLink RL 37 "java/lang/IllegalStateException" : Cond) ∈ TB := TB_mem 605 (by decide +kernel) (by decide +kernel)
theorem w_606 : (.methodLink RL 49 yX8_append : Cond) ∈ TB := TB_mem 606 (by decide +kernel) (by decide +kernel)
theorem w_607 : (.instanceMethod yX8_append : Cond) ∈ TB := TB_mem 607 (by decide +kernel) (by decide +kernel)
theorem w_608 : (.selects RX8 yX8_append yX8_append : Cond) ∈ TB := TB_mem 608 (by decide +kernel) (by decide +kernel)
theorem w_609 : (.code yX8_append cX8_append 2 (some .int) : Cond) ∈ TB := TB_mem 609 (by decide +kernel) (by decide +kernel)
theorem w_610 : (.methodLink RX8 68 yX6_isFull : Cond) ∈ TB := TB_mem 610 (by decide +kernel) (by decide +kernel)
theorem w_611 : (.instanceMethod yX6_isFull : Cond) ∈ TB := TB_mem 611 (by decide +kernel) (by decide +kernel)
theorem w_612 : (.selects RX6 yX6_isFull yX6_isFull : Cond) ∈ TB := TB_mem 612 (by decide +kernel) (by decide +kernel)
theorem w_613 : (.code yX6_isFull cX6_isFull 1 (some .boolean) : Cond) ∈ TB := TB_mem 613 (by decide +kernel) (by decide +kernel)
theorem w_630 : (.methodLink RX8 79 yX6_put : Cond) ∈ TB := TB_mem 630 (by decide +kernel) (by decide +kernel)
theorem w_631 : (.instanceMethod yX6_put : Cond) ∈ TB := TB_mem 631 (by decide +kernel) (by decide +kernel)
theorem w_632 : (.selects RX6 yX6_put yX6_put : Cond) ∈ TB := TB_mem 632 (by decide +kernel) (by decide +kernel)
theorem w_633 : (.code yX6_put cX6_put 2 (some .int) : Cond) ∈ TB := TB_mem 633 (by decide +kernel) (by decide +kernel)
theorem w_635 : (.constant RL 53 (-9999003) : Cond) ∈ TB := TB_mem 635 (by decide +kernel) (by decide +kernel)
theorem w_636 : (.methodLink RL 120 yL_tryLoad : Cond) ∈ TB := TB_mem 636 (by decide +kernel) (by decide +kernel)
theorem w_637 : (.static yL_tryLoad : Cond) ∈ TB := TB_mem 637 (by decide +kernel) (by decide +kernel)
theorem w_638 : (.codeWith yL_tryLoad cL_tryLoad 2 (some .int) [(0, 4, 5, 37)] : Cond) ∈ TB := TB_mem 638 (by decide +kernel) (by decide +kernel)
theorem w_639 : (.methodLink RL 54 yX8_load : Cond) ∈ TB := TB_mem 639 (by decide +kernel) (by decide +kernel)
theorem w_640 : (.instanceMethod yX8_load : Cond) ∈ TB := TB_mem 640 (by decide +kernel) (by decide +kernel)
theorem w_641 : (.selects RX8 yX8_load yX8_load : Cond) ∈ TB := TB_mem 641 (by decide +kernel) (by decide +kernel)
theorem w_642 : (.code yX8_load cX8_load 1 (some .int) : Cond) ∈ TB := TB_mem 642 (by decide +kernel) (by decide +kernel)
theorem w_643 : (.methodLink RX8 87 yX6_firstErrorFor : Cond) ∈ TB := TB_mem 643 (by decide +kernel) (by decide +kernel)
theorem w_644 : (.instanceMethod yX6_firstErrorFor : Cond) ∈ TB := TB_mem 644 (by decide +kernel) (by decide +kernel)
theorem w_645 : (.selects RX6 yX6_firstErrorFor yX6_firstErrorFor : Cond) ∈ TB := TB_mem 645 (by decide +kernel) (by decide +kernel)
theorem w_646 : (.code yX6_firstErrorFor cX6_firstErrorFor 3 (some .int) : Cond) ∈ TB := TB_mem 646 (by decide +kernel) (by decide +kernel)
theorem w_647 : (.methodLink RX6 23 ⟨RX4, "begin", "()V"⟩ : Cond) ∈ TB := TB_mem 647 (by decide +kernel) (by decide +kernel)
theorem w_649 : (.sameMethod RX4 RX4 "begin" "()V" : Cond) ∈ TB := TB_mem 649 (by decide +kernel) (by decide +kernel)
theorem w_650 : (.selects RX0 ⟨RX4, "begin", "()V"⟩ yX0_begin : Cond) ∈ TB := TB_mem 650 (by decide +kernel) (by decide +kernel)
theorem w_651 : (.instanceMethod yX0_begin : Cond) ∈ TB := TB_mem 651 (by decide +kernel) (by decide +kernel)
theorem w_652 : (.code yX0_begin cX0_begin 1 none : Cond) ∈ TB := TB_mem 652 (by decide +kernel) (by decide +kernel)
theorem w_653 : (.methodLink RX0 11 yX0_expect : Cond) ∈ TB := TB_mem 653 (by decide +kernel) (by decide +kernel)
theorem w_655 : (.instanceMethod yX0_expect : Cond) ∈ TB := TB_mem 655 (by decide +kernel) (by decide +kernel)
theorem w_656 : (.code yX0_expect cX0_expect 2 (some .boolean) : Cond) ∈ TB := TB_mem 656 (by decide +kernel) (by decide +kernel)
theorem w_657 : (.selects RX2 ⟨RX4, "begin", "()V"⟩ yX2_begin : Cond) ∈ TB := TB_mem 657 (by decide +kernel) (by decide +kernel)
theorem w_658 : (.instanceMethod yX2_begin : Cond) ∈ TB := TB_mem 658 (by decide +kernel) (by decide +kernel)
theorem w_659 : (.code yX2_begin cX2_begin 1 none : Cond) ∈ TB := TB_mem 659 (by decide +kernel) (by decide +kernel)
theorem w_660 : (.methodLink RX6 28 yX6_signAt : Cond) ∈ TB := TB_mem 660 (by decide +kernel) (by decide +kernel)
theorem w_661 : (.instanceMethod yX6_signAt : Cond) ∈ TB := TB_mem 661 (by decide +kernel) (by decide +kernel)
theorem w_662 : (.selects RX6 yX6_signAt yX6_signAt : Cond) ∈ TB := TB_mem 662 (by decide +kernel) (by decide +kernel)
theorem w_663 : (.code yX6_signAt cX6_signAt 2 (some .int) : Cond) ∈ TB := TB_mem 663 (by decide +kernel) (by decide +kernel)
theorem w_664 : (.methodLink RX6 32 ⟨RX4, "takes", "(I)Z"⟩ : Cond) ∈ TB := TB_mem 664 (by decide +kernel) (by decide +kernel)
theorem w_666 : (.sameMethod RX4 RX4 "takes" "(I)Z" : Cond) ∈ TB := TB_mem 666 (by decide +kernel) (by decide +kernel)
theorem w_667 : (.selects RX0 ⟨RX4, "takes", "(I)Z"⟩ yX0_takes : Cond) ∈ TB := TB_mem 667 (by decide +kernel) (by decide +kernel)
theorem w_668 : (.instanceMethod yX0_takes : Cond) ∈ TB := TB_mem 668 (by decide +kernel) (by decide +kernel)
theorem w_669 : (.code yX0_takes cX0_takes 2 (some .boolean) : Cond) ∈ TB := TB_mem 669 (by decide +kernel) (by decide +kernel)
theorem w_670 : (.methodLink RX0 22 yX0_takesEntry : Cond) ∈ TB := TB_mem 670 (by decide +kernel) (by decide +kernel)
theorem w_672 : (.instanceMethod yX0_takesEntry : Cond) ∈ TB := TB_mem 672 (by decide +kernel) (by decide +kernel)
theorem w_673 : (.code yX0_takesEntry cX0_takesEntry 2 (some .boolean) : Cond) ∈ TB := TB_mem 673 (by decide +kernel) (by decide +kernel)
theorem w_675 : (.methodLink RX0 35 yX0_takesDigit : Cond) ∈ TB := TB_mem 675 (by decide +kernel) (by decide +kernel)
theorem w_677 : (.instanceMethod yX0_takesDigit : Cond) ∈ TB := TB_mem 677 (by decide +kernel) (by decide +kernel)
theorem w_678 : (.code yX0_takesDigit cX0_takesDigit 3 (some .boolean) : Cond) ∈ TB := TB_mem 678 (by decide +kernel) (by decide +kernel)
theorem w_679 : (.methodLink RX0 39 yX0_takesEnd : Cond) ∈ TB := TB_mem 679 (by decide +kernel) (by decide +kernel)
theorem w_681 : (.instanceMethod yX0_takesEnd : Cond) ∈ TB := TB_mem 681 (by decide +kernel) (by decide +kernel)
theorem w_682 : (.code yX0_takesEnd cX0_takesEnd 2 (some .boolean) : Cond) ∈ TB := TB_mem 682 (by decide +kernel) (by decide +kernel)
theorem w_683 : (.methodLink RX0 45 yX0_isComplete : Cond) ∈ TB := TB_mem 683 (by decide +kernel) (by decide +kernel)
theorem w_684 : (.instanceMethod yX0_isComplete : Cond) ∈ TB := TB_mem 684 (by decide +kernel) (by decide +kernel)
theorem w_685 : (.selects RX0 yX0_isComplete yX0_isComplete : Cond) ∈ TB := TB_mem 685 (by decide +kernel) (by decide +kernel)
theorem w_686 : (.code yX0_isComplete cX0_isComplete 1 (some .boolean) : Cond) ∈ TB := TB_mem 686 (by decide +kernel) (by decide +kernel)
theorem w_687 : (.methodLink RX0 42 yX0_takesComma : Cond) ∈ TB := TB_mem 687 (by decide +kernel) (by decide +kernel)
theorem w_689 : (.instanceMethod yX0_takesComma : Cond) ∈ TB := TB_mem 689 (by decide +kernel) (by decide +kernel)
theorem w_690 : (.code yX0_takesComma cX0_takesComma 2 (some .boolean) : Cond) ∈ TB := TB_mem 690 (by decide +kernel) (by decide +kernel)
theorem w_691 : (.selects RX2 ⟨RX4, "takes", "(I)Z"⟩ yX2_takes : Cond) ∈ TB := TB_mem 691 (by decide +kernel) (by decide +kernel)
theorem w_692 : (.instanceMethod yX2_takes : Cond) ∈ TB := TB_mem 692 (by decide +kernel) (by decide +kernel)
theorem w_693 : (.code yX2_takes cX2_takes 3 (some .boolean) : Cond) ∈ TB := TB_mem 693 (by decide +kernel) (by decide +kernel)
theorem w_696 : (.methodLink RX6 36 ⟨RX4, "isComplete", "()Z"⟩ : Cond) ∈ TB := TB_mem 696 (by decide +kernel) (by decide +kernel)
theorem w_698 : (.sameMethod RX4 RX4 "isComplete" "()Z" : Cond) ∈ TB := TB_mem 698 (by decide +kernel) (by decide +kernel)
theorem w_699 : (.selects RX0 ⟨RX4, "isComplete", "()Z"⟩ yX0_isComplete : Cond) ∈ TB := TB_mem 699 (by decide +kernel) (by decide +kernel)
theorem w_700 : (.selects RX2 ⟨RX4, "isComplete", "()Z"⟩ yX2_isComplete : Cond) ∈ TB := TB_mem 700 (by decide +kernel) (by decide +kernel)
theorem w_701 : (.instanceMethod yX2_isComplete : Cond) ∈ TB := TB_mem 701 (by decide +kernel) (by decide +kernel)
theorem w_702 : (.code yX2_isComplete cX2_isComplete 1 (some .boolean) : Cond) ∈ TB := TB_mem 702 (by decide +kernel) (by decide +kernel)
theorem w_704 : (.methodLink RX8 93 yX7_makeNew : Cond) ∈ TB := TB_mem 704 (by decide +kernel) (by decide +kernel)
theorem w_705 : (.instanceMethod yX7_makeNew : Cond) ∈ TB := TB_mem 705 (by decide +kernel) (by decide +kernel)
theorem w_706 : (.selects RX7 yX7_makeNew yX7_makeNew : Cond) ∈ TB := TB_mem 706 (by decide +kernel) (by decide +kernel)
theorem w_707 : (.code yX7_makeNew cX7_makeNew 2 none : Cond) ∈ TB := TB_mem 707 (by decide +kernel) (by decide +kernel)
theorem w_708 : (.methodLink RX8 96 yX1_forgetAll : Cond) ∈ TB := TB_mem 708 (by decide +kernel) (by decide +kernel)
theorem w_709 : (.instanceMethod yX1_forgetAll : Cond) ∈ TB := TB_mem 709 (by decide +kernel) (by decide +kernel)
theorem w_710 : (.selects RX1 yX1_forgetAll yX1_forgetAll : Cond) ∈ TB := TB_mem 710 (by decide +kernel) (by decide +kernel)
theorem w_711 : (.code yX1_forgetAll cX1_forgetAll 1 none : Cond) ∈ TB := TB_mem 711 (by decide +kernel) (by decide +kernel)
theorem w_712 : (.methodLink RX8 99 yX5_emptyAll : Cond) ∈ TB := TB_mem 712 (by decide +kernel) (by decide +kernel)
theorem w_713 : (.instanceMethod yX5_emptyAll : Cond) ∈ TB := TB_mem 713 (by decide +kernel) (by decide +kernel)
theorem w_714 : (.selects RX5 yX5_emptyAll yX5_emptyAll : Cond) ∈ TB := TB_mem 714 (by decide +kernel) (by decide +kernel)
theorem w_715 : (.code yX5_emptyAll cX5_emptyAll 2 none : Cond) ∈ TB := TB_mem 715 (by decide +kernel) (by decide +kernel)
theorem w_716 : (.methodLink RX8 102 yX8_readEntries : Cond) ∈ TB := TB_mem 716 (by decide +kernel) (by decide +kernel)
theorem w_718 : (.instanceMethod yX8_readEntries : Cond) ∈ TB := TB_mem 718 (by decide +kernel) (by decide +kernel)
theorem w_719 : (.code yX8_readEntries cX8_readEntries 4 (some .int) : Cond) ∈ TB := TB_mem 719 (by decide +kernel) (by decide +kernel)
theorem w_720 : (.methodLink RX8 302 yX0_begin : Cond) ∈ TB := TB_mem 720 (by decide +kernel) (by decide +kernel)
theorem w_721 : (.methodLink RX8 308 yX6_signAt : Cond) ∈ TB := TB_mem 721 (by decide +kernel) (by decide +kernel)
theorem w_722 : (.methodLink RX8 311 yX8_doEntry : Cond) ∈ TB := TB_mem 722 (by decide +kernel) (by decide +kernel)
theorem w_724 : (.instanceMethod yX8_doEntry : Cond) ∈ TB := TB_mem 724 (by decide +kernel) (by decide +kernel)
theorem w_725 : (.code yX8_doEntry cX8_doEntry 2 (some .boolean) : Cond) ∈ TB := TB_mem 725 (by decide +kernel) (by decide +kernel)
theorem w_726 : (.methodLink RX8 317 yX0_isTable : Cond) ∈ TB := TB_mem 726 (by decide +kernel) (by decide +kernel)
theorem w_727 : (.instanceMethod yX0_isTable : Cond) ∈ TB := TB_mem 727 (by decide +kernel) (by decide +kernel)
theorem w_728 : (.selects RX0 yX0_isTable yX0_isTable : Cond) ∈ TB := TB_mem 728 (by decide +kernel) (by decide +kernel)
theorem w_729 : (.code yX0_isTable cX0_isTable 1 (some .boolean) : Cond) ∈ TB := TB_mem 729 (by decide +kernel) (by decide +kernel)
theorem w_730 : (.methodLink RX8 137 yX7_isFull : Cond) ∈ TB := TB_mem 730 (by decide +kernel) (by decide +kernel)
theorem w_731 : (.instanceMethod yX7_isFull : Cond) ∈ TB := TB_mem 731 (by decide +kernel) (by decide +kernel)
theorem w_732 : (.selects RX7 yX7_isFull yX7_isFull : Cond) ∈ TB := TB_mem 732 (by decide +kernel) (by decide +kernel)
theorem w_733 : (.code yX7_isFull cX7_isFull 1 (some .boolean) : Cond) ∈ TB := TB_mem 733 (by decide +kernel) (by decide +kernel)
theorem w_734 : (.methodLink RX8 144 yX7_addTable : Cond) ∈ TB := TB_mem 734 (by decide +kernel) (by decide +kernel)
theorem w_735 : (.instanceMethod yX7_addTable : Cond) ∈ TB := TB_mem 735 (by decide +kernel) (by decide +kernel)
theorem w_736 : (.selects RX7 yX7_addTable yX7_addTable : Cond) ∈ TB := TB_mem 736 (by decide +kernel) (by decide +kernel)
theorem w_737 : (.code yX7_addTable cX7_addTable 2 (some .int) : Cond) ∈ TB := TB_mem 737 (by decide +kernel) (by decide +kernel)
theorem w_738 : (.methodLink RX8 314 yX0_takes : Cond) ∈ TB := TB_mem 738 (by decide +kernel) (by decide +kernel)
theorem w_739 : (.methodLink RL 124 yL_tryAbout : Cond) ∈ TB := TB_mem 739 (by decide +kernel) (by decide +kernel)
theorem w_740 : (.static yL_tryAbout : Cond) ∈ TB := TB_mem 740 (by decide +kernel) (by decide +kernel)
theorem w_741 : (.codeWith yL_tryAbout cL_tryAbout 3 (some .int) [(0, 5, 6, 16)] : Cond) ∈ TB := TB_mem 741 (by decide +kernel) (by decide +kernel)
theorem w_742 : (.methodLink RL 58 yX8_about : Cond) ∈ TB := TB_mem 742 (by decide +kernel) (by decide +kernel)
theorem w_743 : (.instanceMethod yX8_about : Cond) ∈ TB := TB_mem 743 (by decide +kernel) (by decide +kernel)
theorem w_744 : (.selects RX8 yX8_about yX8_about : Cond) ∈ TB := TB_mem 744 (by decide +kernel) (by decide +kernel)
theorem w_745 : (.code yX8_about cX8_about 2 (some .int) : Cond) ∈ TB := TB_mem 745 (by decide +kernel) (by decide +kernel)
theorem w_746 : (.methodLink RX8 105 yX7_numberOf : Cond) ∈ TB := TB_mem 746 (by decide +kernel) (by decide +kernel)
theorem w_747 : (.instanceMethod yX7_numberOf : Cond) ∈ TB := TB_mem 747 (by decide +kernel) (by decide +kernel)
theorem w_748 : (.selects RX7 yX7_numberOf yX7_numberOf : Cond) ∈ TB := TB_mem 748 (by decide +kernel) (by decide +kernel)
theorem w_749 : (.code yX7_numberOf cX7_numberOf 2 (some .int) : Cond) ∈ TB := TB_mem 749 (by decide +kernel) (by decide +kernel)
theorem w_750 : (.methodLink RL 127 yL_trySize : Cond) ∈ TB := TB_mem 750 (by decide +kernel) (by decide +kernel)
theorem w_751 : (.static yL_trySize : Cond) ∈ TB := TB_mem 751 (by decide +kernel) (by decide +kernel)
theorem w_752 : (.codeWith yL_trySize cL_trySize 3 (some .int) [(0, 5, 6, 13)] : Cond) ∈ TB := TB_mem 752 (by decide +kernel) (by decide +kernel)
theorem w_753 : (.classLink RL 13 "java/lang/IndexOutOfBoundsException" : Cond) ∈ TB := TB_mem 753 (by decide +kernel) (by decide +kernel)
theorem w_754 : (.methodLink RL 61 yX8_size : Cond) ∈ TB := TB_mem 754 (by decide +kernel) (by decide +kernel)
theorem w_755 : (.instanceMethod yX8_size : Cond) ∈ TB := TB_mem 755 (by decide +kernel) (by decide +kernel)
theorem w_756 : (.selects RX8 yX8_size yX8_size : Cond) ∈ TB := TB_mem 756 (by decide +kernel) (by decide +kernel)
theorem w_757 : (.code yX8_size cX8_size 2 (some .int) : Cond) ∈ TB := TB_mem 757 (by decide +kernel) (by decide +kernel)
theorem w_758 : (.methodLink RX8 113 yX8_needTable : Cond) ∈ TB := TB_mem 758 (by decide +kernel) (by decide +kernel)
theorem w_760 : (.instanceMethod yX8_needTable : Cond) ∈ TB := TB_mem 760 (by decide +kernel) (by decide +kernel)
theorem w_761 : (.code yX8_needTable cX8_needTable 2 none : Cond) ∈ TB := TB_mem 761 (by decide +kernel) (by decide +kernel)
theorem w_762 : (.methodLink RX8 361 yX7_hasTable : Cond) ∈ TB := TB_mem 762 (by decide +kernel) (by decide +kernel)
theorem w_779 : (.methodLink RX8 117 yX7_sizeOf : Cond) ∈ TB := TB_mem 779 (by decide +kernel) (by decide +kernel)
theorem w_780 : (.constant RL 15 (-9999001) : Cond) ∈ TB := TB_mem 780 (by decide +kernel) (by decide +kernel)
theorem w_781 : (.methodLink RL 130 yL_tryPair : Cond) ∈ TB := TB_mem 781 (by decide +kernel) (by decide +kernel)
theorem w_782 : (.static yL_tryPair : Cond) ∈ TB := TB_mem 782 (by decide +kernel) (by decide +kernel)
theorem w_783 : (.codeWith yL_tryPair cL_tryPair 5 (some .int) [(0, 7, 8, 13), (0, 7, 13, 16)] : Cond) ∈ TB := TB_mem 783 (by decide +kernel) (by decide +kernel)
theorem w_784 : (.methodLink RL 64 yX8_pair : Cond) ∈ TB := TB_mem 784 (by decide +kernel) (by decide +kernel)
theorem w_785 : (.instanceMethod yX8_pair : Cond) ∈ TB := TB_mem 785 (by decide +kernel) (by decide +kernel)
theorem w_786 : (.selects RX8 yX8_pair yX8_pair : Cond) ∈ TB := TB_mem 786 (by decide +kernel) (by decide +kernel)
theorem w_787 : (.code yX8_pair cX8_pair 4 (some .int) : Cond) ∈ TB := TB_mem 787 (by decide +kernel) (by decide +kernel)
theorem w_788 : (.methodLink RX8 120 yX8_needTwoTables : Cond) ∈ TB := TB_mem 788 (by decide +kernel) (by decide +kernel)
theorem w_790 : (.instanceMethod yX8_needTwoTables : Cond) ∈ TB := TB_mem 790 (by decide +kernel) (by decide +kernel)
theorem w_791 : (.code yX8_needTwoTables cX8_needTwoTables 3 none : Cond) ∈ TB := TB_mem 791 (by decide +kernel) (by decide +kernel)
theorem w_793 : (.methodLink RX8 128 yX7_pairNumberOf : Cond) ∈ TB := TB_mem 793 (by decide +kernel) (by decide +kernel)
theorem w_794 : (.instanceMethod yX7_pairNumberOf : Cond) ∈ TB := TB_mem 794 (by decide +kernel) (by decide +kernel)
theorem w_795 : (.selects RX7 yX7_pairNumberOf yX7_pairNumberOf : Cond) ∈ TB := TB_mem 795 (by decide +kernel) (by decide +kernel)
theorem w_796 : (.code yX7_pairNumberOf cX7_pairNumberOf 3 (some .int) : Cond) ∈ TB := TB_mem 796 (by decide +kernel) (by decide +kernel)
theorem w_797 : (.methodLink RL 134 yL_trySurprise : Cond) ∈ TB := TB_mem 797 (by decide +kernel) (by decide +kernel)
theorem w_798 : (.static yL_trySurprise : Cond) ∈ TB := TB_mem 798 (by decide +kernel) (by decide +kernel)
theorem w_799 : (.codeWith yL_trySurprise cL_trySurprise 4 (some .int) [(0, 6, 7, 16)] : Cond) ∈ TB := TB_mem 799 (by decide +kernel) (by decide +kernel)
theorem w_800 : (.methodLink RL 68 yX8_surprise : Cond) ∈ TB := TB_mem 800 (by decide +kernel) (by decide +kernel)
theorem w_801 : (.instanceMethod yX8_surprise : Cond) ∈ TB := TB_mem 801 (by decide +kernel) (by decide +kernel)
theorem w_802 : (.selects RX8 yX8_surprise yX8_surprise : Cond) ∈ TB := TB_mem 802 (by decide +kernel) (by decide +kernel)
theorem w_803 : (.code yX8_surprise cX8_surprise 3 (some .int) : Cond) ∈ TB := TB_mem 803 (by decide +kernel) (by decide +kernel)
theorem w_804 : (.methodLink RX8 131 yX7_surpriseNumberOf : Cond) ∈ TB := TB_mem 804 (by decide +kernel) (by decide +kernel)
theorem w_805 : (.instanceMethod yX7_surpriseNumberOf : Cond) ∈ TB := TB_mem 805 (by decide +kernel) (by decide +kernel)
theorem w_806 : (.selects RX7 yX7_surpriseNumberOf yX7_surpriseNumberOf : Cond) ∈ TB := TB_mem 806 (by decide +kernel) (by decide +kernel)
theorem w_807 : (.code yX7_surpriseNumberOf cX7_surpriseNumberOf 3 (some .int) : Cond) ∈ TB := TB_mem 807 (by decide +kernel) (by decide +kernel)
theorem w_808 : (.methodLink RL 138 yL_trySetting : Cond) ∈ TB := TB_mem 808 (by decide +kernel) (by decide +kernel)
theorem w_809 : (.static yL_trySetting : Cond) ∈ TB := TB_mem 809 (by decide +kernel) (by decide +kernel)
theorem w_810 : (.codeWith yL_trySetting cL_trySetting 3 (some .int) [(0, 5, 6, 16)] : Cond) ∈ TB := TB_mem 810 (by decide +kernel) (by decide +kernel)
theorem w_811 : (.methodLink RL 72 yX8_setting : Cond) ∈ TB := TB_mem 811 (by decide +kernel) (by decide +kernel)
theorem w_812 : (.instanceMethod yX8_setting : Cond) ∈ TB := TB_mem 812 (by decide +kernel) (by decide +kernel)
theorem w_813 : (.selects RX8 yX8_setting yX8_setting : Cond) ∈ TB := TB_mem 813 (by decide +kernel) (by decide +kernel)
theorem w_814 : (.code yX8_setting cX8_setting 2 (some .int) : Cond) ∈ TB := TB_mem 814 (by decide +kernel) (by decide +kernel)
theorem w_815 : (.methodLink RX8 134 yX7_settingOf : Cond) ∈ TB := TB_mem 815 (by decide +kernel) (by decide +kernel)
theorem w_816 : (.methodLink RL 141 yL_tryAdd : Cond) ∈ TB := TB_mem 816 (by decide +kernel) (by decide +kernel)
theorem w_817 : (.static yL_tryAdd : Cond) ∈ TB := TB_mem 817 (by decide +kernel) (by decide +kernel)
theorem w_818 : (.codeWith yL_tryAdd cL_tryAdd 3 (some .int) [(0, 5, 6, 16), (0, 5, 10, 37)] : Cond) ∈ TB := TB_mem 818 (by decide +kernel) (by decide +kernel)
theorem w_819 : (.methodLink RL 75 yX8_add : Cond) ∈ TB := TB_mem 819 (by decide +kernel) (by decide +kernel)
theorem w_820 : (.instanceMethod yX8_add : Cond) ∈ TB := TB_mem 820 (by decide +kernel) (by decide +kernel)
theorem w_821 : (.selects RX8 yX8_add yX8_add : Cond) ∈ TB := TB_mem 821 (by decide +kernel) (by decide +kernel)
theorem w_822 : (.code yX8_add cX8_add 2 (some .int) : Cond) ∈ TB := TB_mem 822 (by decide +kernel) (by decide +kernel)
theorem w_824 : (.methodLink RX8 140 yX1_remember : Cond) ∈ TB := TB_mem 824 (by decide +kernel) (by decide +kernel)
theorem w_825 : (.instanceMethod yX1_remember : Cond) ∈ TB := TB_mem 825 (by decide +kernel) (by decide +kernel)
theorem w_826 : (.selects RX1 yX1_remember yX1_remember : Cond) ∈ TB := TB_mem 826 (by decide +kernel) (by decide +kernel)
theorem w_827 : (.code yX1_remember cX1_remember 3 none : Cond) ∈ TB := TB_mem 827 (by decide +kernel) (by decide +kernel)
theorem w_828 : (.methodLink RX1 25 yX1_stateAt : Cond) ∈ TB := TB_mem 828 (by decide +kernel) (by decide +kernel)
theorem w_830 : (.instanceMethod yX1_stateAt : Cond) ∈ TB := TB_mem 830 (by decide +kernel) (by decide +kernel)
theorem w_831 : (.code yX1_stateAt cX1_stateAt 2 (some (.object "SurprisedPlans$World")) : Cond) ∈ TB := TB_mem 831 (by decide +kernel) (by decide +kernel)
theorem w_833 : (.methodLink RX1 29 yX7_takeFrom : Cond) ∈ TB := TB_mem 833 (by decide +kernel) (by decide +kernel)
theorem w_834 : (.methodLink RX1 33 Lib.Math.min.name : Cond) ∈ TB := TB_mem 834 (by decide +kernel) (by decide +kernel)
theorem w_835 : (.methodLink RL 144 yL_tryResize : Cond) ∈ TB := TB_mem 835 (by decide +kernel) (by decide +kernel)
theorem w_836 : (.static yL_tryResize : Cond) ∈ TB := TB_mem 836 (by decide +kernel) (by decide +kernel)
theorem w_837 : (.codeWith yL_tryResize cL_tryResize 4 (some .int) [(0, 6, 7, 13), (0, 6, 11, 16)] : Cond) ∈ TB := TB_mem 837 (by decide +kernel) (by decide +kernel)
theorem w_838 : (.methodLink RL 78 yX8_resize : Cond) ∈ TB := TB_mem 838 (by decide +kernel) (by decide +kernel)
theorem w_839 : (.instanceMethod yX8_resize : Cond) ∈ TB := TB_mem 839 (by decide +kernel) (by decide +kernel)
theorem w_840 : (.selects RX8 yX8_resize yX8_resize : Cond) ∈ TB := TB_mem 840 (by decide +kernel) (by decide +kernel)
theorem w_841 : (.code yX8_resize cX8_resize 3 (some .int) : Cond) ∈ TB := TB_mem 841 (by decide +kernel) (by decide +kernel)
theorem w_842 : (.methodLink RX8 147 yX7_changeSize : Cond) ∈ TB := TB_mem 842 (by decide +kernel) (by decide +kernel)
theorem w_843 : (.instanceMethod yX7_changeSize : Cond) ∈ TB := TB_mem 843 (by decide +kernel) (by decide +kernel)
theorem w_844 : (.selects RX7 yX7_changeSize yX7_changeSize : Cond) ∈ TB := TB_mem 844 (by decide +kernel) (by decide +kernel)
theorem w_845 : (.code yX7_changeSize cX7_changeSize 4 (some .int) : Cond) ∈ TB := TB_mem 845 (by decide +kernel) (by decide +kernel)
theorem w_846 : (.methodLink RX7 92 yX7_sizeOf : Cond) ∈ TB := TB_mem 846 (by decide +kernel) (by decide +kernel)
theorem w_847 : (.methodLink RL 147 yL_tryDrift : Cond) ∈ TB := TB_mem 847 (by decide +kernel) (by decide +kernel)
theorem w_848 : (.static yL_tryDrift : Cond) ∈ TB := TB_mem 848 (by decide +kernel) (by decide +kernel)
theorem w_849 : (.codeWith yL_tryDrift cL_tryDrift 5 (some .int) [(0, 7, 8, 13), (0, 7, 13, 16), (0, 7, 18, 37)] : Cond) ∈ TB := TB_mem 849 (by decide +kernel) (by decide +kernel)
theorem w_850 : (.methodLink RL 81 yX8_drift : Cond) ∈ TB := TB_mem 850 (by decide +kernel) (by decide +kernel)
theorem w_851 : (.instanceMethod yX8_drift : Cond) ∈ TB := TB_mem 851 (by decide +kernel) (by decide +kernel)
theorem w_852 : (.selects RX8 yX8_drift yX8_drift : Cond) ∈ TB := TB_mem 852 (by decide +kernel) (by decide +kernel)
theorem w_853 : (.code yX8_drift cX8_drift 4 (some .int) : Cond) ∈ TB := TB_mem 853 (by decide +kernel) (by decide +kernel)
theorem w_855 : (.methodLink RL 150 yL_tryRun : Cond) ∈ TB := TB_mem 855 (by decide +kernel) (by decide +kernel)
theorem w_856 : (.static yL_tryRun : Cond) ∈ TB := TB_mem 856 (by decide +kernel) (by decide +kernel)
theorem w_857 : (.codeWith yL_tryRun cL_tryRun 3 (some .int) [(0, 5, 6, 13), (0, 5, 10, 16)] : Cond) ∈ TB := TB_mem 857 (by decide +kernel) (by decide +kernel)
theorem w_858 : (.methodLink RL 84 yX8_run : Cond) ∈ TB := TB_mem 858 (by decide +kernel) (by decide +kernel)
theorem w_859 : (.instanceMethod yX8_run : Cond) ∈ TB := TB_mem 859 (by decide +kernel) (by decide +kernel)
theorem w_860 : (.selects RX8 yX8_run yX8_run : Cond) ∈ TB := TB_mem 860 (by decide +kernel) (by decide +kernel)
theorem w_861 : (.code yX8_run cX8_run 2 (some .int) : Cond) ∈ TB := TB_mem 861 (by decide +kernel) (by decide +kernel)
theorem w_862 : (.methodLink RX8 163 yX8_needTables : Cond) ∈ TB := TB_mem 862 (by decide +kernel) (by decide +kernel)
theorem w_864 : (.instanceMethod yX8_needTables : Cond) ∈ TB := TB_mem 864 (by decide +kernel) (by decide +kernel)
theorem w_865 : (.code yX8_needTables cX8_needTables 2 none : Cond) ∈ TB := TB_mem 865 (by decide +kernel) (by decide +kernel)
theorem w_867 : (.methodLink RX8 166 yX8_needSomeTable : Cond) ∈ TB := TB_mem 867 (by decide +kernel) (by decide +kernel)
theorem w_868 : (.static yX8_needSomeTable : Cond) ∈ TB := TB_mem 868 (by decide +kernel) (by decide +kernel)
theorem w_869 : (.code yX8_needSomeTable cX8_needSomeTable 1 none : Cond) ∈ TB := TB_mem 869 (by decide +kernel) (by decide +kernel)
theorem w_871 : (.methodLink RL 153 yL_tryWeeks : Cond) ∈ TB := TB_mem 871 (by decide +kernel) (by decide +kernel)
theorem w_872 : (.static yL_tryWeeks : Cond) ∈ TB := TB_mem 872 (by decide +kernel) (by decide +kernel)
theorem w_873 : (.codeWith yL_tryWeeks cL_tryWeeks 3 (some .int) [(0, 5, 6, 16)] : Cond) ∈ TB := TB_mem 873 (by decide +kernel) (by decide +kernel)
theorem w_874 : (.methodLink RL 87 yX8_weeks : Cond) ∈ TB := TB_mem 874 (by decide +kernel) (by decide +kernel)
theorem w_875 : (.instanceMethod yX8_weeks : Cond) ∈ TB := TB_mem 875 (by decide +kernel) (by decide +kernel)
theorem w_876 : (.selects RX8 yX8_weeks yX8_weeks : Cond) ∈ TB := TB_mem 876 (by decide +kernel) (by decide +kernel)
theorem w_877 : (.code yX8_weeks cX8_weeks 2 (some .int) : Cond) ∈ TB := TB_mem 877 (by decide +kernel) (by decide +kernel)
theorem w_878 : (.methodLink RL 156 yL_trySet : Cond) ∈ TB := TB_mem 878 (by decide +kernel) (by decide +kernel)
theorem w_879 : (.static yL_trySet : Cond) ∈ TB := TB_mem 879 (by decide +kernel) (by decide +kernel)
theorem w_880 : (.codeWith yL_trySet cL_trySet 4 (some .int) [(0, 6, 7, 16)] : Cond) ∈ TB := TB_mem 880 (by decide +kernel) (by decide +kernel)
theorem w_881 : (.methodLink RL 90 yX8_set : Cond) ∈ TB := TB_mem 881 (by decide +kernel) (by decide +kernel)
theorem w_882 : (.instanceMethod yX8_set : Cond) ∈ TB := TB_mem 882 (by decide +kernel) (by decide +kernel)
theorem w_883 : (.selects RX8 yX8_set yX8_set : Cond) ∈ TB := TB_mem 883 (by decide +kernel) (by decide +kernel)
theorem w_884 : (.code yX8_set cX8_set 3 (some .int) : Cond) ∈ TB := TB_mem 884 (by decide +kernel) (by decide +kernel)
theorem w_886 : (.methodLink RL 159 yL_tryUndo : Cond) ∈ TB := TB_mem 886 (by decide +kernel) (by decide +kernel)
theorem w_887 : (.static yL_tryUndo : Cond) ∈ TB := TB_mem 887 (by decide +kernel) (by decide +kernel)
theorem w_888 : (.codeWith yL_tryUndo cL_tryUndo 2 (some .int) [(0, 4, 5, 37)] : Cond) ∈ TB := TB_mem 888 (by decide +kernel) (by decide +kernel)
theorem w_889 : (.methodLink RL 93 yX8_undo : Cond) ∈ TB := TB_mem 889 (by decide +kernel) (by decide +kernel)
theorem w_890 : (.instanceMethod yX8_undo : Cond) ∈ TB := TB_mem 890 (by decide +kernel) (by decide +kernel)
theorem w_891 : (.selects RX8 yX8_undo yX8_undo : Cond) ∈ TB := TB_mem 891 (by decide +kernel) (by decide +kernel)
theorem w_892 : (.code yX8_undo cX8_undo 1 (some .int) : Cond) ∈ TB := TB_mem 892 (by decide +kernel) (by decide +kernel)
theorem w_893 : (.methodLink RX8 188 yX1_isEmpty : Cond) ∈ TB := TB_mem 893 (by decide +kernel) (by decide +kernel)
theorem w_894 : (.instanceMethod yX1_isEmpty : Cond) ∈ TB := TB_mem 894 (by decide +kernel) (by decide +kernel)
theorem w_895 : (.selects RX1 yX1_isEmpty yX1_isEmpty : Cond) ∈ TB := TB_mem 895 (by decide +kernel) (by decide +kernel)
theorem w_896 : (.code yX1_isEmpty cX1_isEmpty 1 (some .boolean) : Cond) ∈ TB := TB_mem 896 (by decide +kernel) (by decide +kernel)
theorem w_898 : (.methodLink RX8 193 yX1_takeBack : Cond) ∈ TB := TB_mem 898 (by decide +kernel) (by decide +kernel)
theorem w_899 : (.instanceMethod yX1_takeBack : Cond) ∈ TB := TB_mem 899 (by decide +kernel) (by decide +kernel)
theorem w_900 : (.selects RX1 yX1_takeBack yX1_takeBack : Cond) ∈ TB := TB_mem 900 (by decide +kernel) (by decide +kernel)
theorem w_901 : (.code yX1_takeBack cX1_takeBack 4 (some .int) : Cond) ∈ TB := TB_mem 901 (by decide +kernel) (by decide +kernel)
theorem w_902 : (.methodLink RL 162 yL_tryOrder : Cond) ∈ TB := TB_mem 902 (by decide +kernel) (by decide +kernel)
theorem w_903 : (.static yL_tryOrder : Cond) ∈ TB := TB_mem 903 (by decide +kernel) (by decide +kernel)
theorem w_904 : (.codeWith yL_tryOrder cL_tryOrder 5 (some .int) [(0, 7, 8, 13), (0, 7, 13, 16)] : Cond) ∈ TB := TB_mem 904 (by decide +kernel) (by decide +kernel)
theorem w_905 : (.methodLink RL 96 yX8_order : Cond) ∈ TB := TB_mem 905 (by decide +kernel) (by decide +kernel)
theorem w_906 : (.instanceMethod yX8_order : Cond) ∈ TB := TB_mem 906 (by decide +kernel) (by decide +kernel)
theorem w_907 : (.selects RX8 yX8_order yX8_order : Cond) ∈ TB := TB_mem 907 (by decide +kernel) (by decide +kernel)
theorem w_908 : (.code yX8_order cX8_order 4 (some .int) : Cond) ∈ TB := TB_mem 908 (by decide +kernel) (by decide +kernel)
theorem w_909 : (.methodLink RX8 197 yX8_needKind : Cond) ∈ TB := TB_mem 909 (by decide +kernel) (by decide +kernel)
theorem w_910 : (.static yX8_needKind : Cond) ∈ TB := TB_mem 910 (by decide +kernel) (by decide +kernel)
theorem w_911 : (.code yX8_needKind cX8_needKind 1 none : Cond) ∈ TB := TB_mem 911 (by decide +kernel) (by decide +kernel)
theorem w_912 : (.methodLink RX8 207 yX8_needAtLeast : Cond) ∈ TB := TB_mem 912 (by decide +kernel) (by decide +kernel)
theorem w_913 : (.static yX8_needAtLeast : Cond) ∈ TB := TB_mem 913 (by decide +kernel) (by decide +kernel)
theorem w_914 : (.code yX8_needAtLeast cX8_needAtLeast 2 none : Cond) ∈ TB := TB_mem 914 (by decide +kernel) (by decide +kernel)
theorem w_916 : (.methodLink RL 165 yL_tryWay : Cond) ∈ TB := TB_mem 916 (by decide +kernel) (by decide +kernel)
theorem w_917 : (.static yL_tryWay : Cond) ∈ TB := TB_mem 917 (by decide +kernel) (by decide +kernel)
theorem w_918 : (.codeWith yL_tryWay cL_tryWay 4 (some .int) [(0, 6, 7, 13), (0, 6, 11, 16)] : Cond) ∈ TB := TB_mem 918 (by decide +kernel) (by decide +kernel)
theorem w_919 : (.methodLink RL 99 yX8_way : Cond) ∈ TB := TB_mem 919 (by decide +kernel) (by decide +kernel)
theorem w_920 : (.instanceMethod yX8_way : Cond) ∈ TB := TB_mem 920 (by decide +kernel) (by decide +kernel)
theorem w_921 : (.selects RX8 yX8_way yX8_way : Cond) ∈ TB := TB_mem 921 (by decide +kernel) (by decide +kernel)
theorem w_922 : (.code yX8_way cX8_way 3 (some .int) : Cond) ∈ TB := TB_mem 922 (by decide +kernel) (by decide +kernel)
theorem w_923 : (.methodLink RX8 216 yX3_wayAt : Cond) ∈ TB := TB_mem 923 (by decide +kernel) (by decide +kernel)
theorem w_924 : (.methodLink RL 168 yL_tryMatters : Cond) ∈ TB := TB_mem 924 (by decide +kernel) (by decide +kernel)
theorem w_925 : (.static yL_tryMatters : Cond) ∈ TB := TB_mem 925 (by decide +kernel) (by decide +kernel)
theorem w_926 : (.codeWith yL_tryMatters cL_tryMatters 5 (some .int) [(0, 7, 8, 13), (0, 7, 13, 16)] : Cond) ∈ TB := TB_mem 926 (by decide +kernel) (by decide +kernel)
theorem w_927 : (.methodLink RL 102 yX8_matters : Cond) ∈ TB := TB_mem 927 (by decide +kernel) (by decide +kernel)
theorem w_928 : (.instanceMethod yX8_matters : Cond) ∈ TB := TB_mem 928 (by decide +kernel) (by decide +kernel)
theorem w_929 : (.selects RX8 yX8_matters yX8_matters : Cond) ∈ TB := TB_mem 929 (by decide +kernel) (by decide +kernel)
theorem w_930 : (.code yX8_matters cX8_matters 5 (some .int) : Cond) ∈ TB := TB_mem 930 (by decide +kernel) (by decide +kernel)
theorem w_931 : (.methodLink RX8 245 yX7_hasMemory : Cond) ∈ TB := TB_mem 931 (by decide +kernel) (by decide +kernel)
theorem w_932 : (.methodLink RX8 251 yX7_forget : Cond) ∈ TB := TB_mem 932 (by decide +kernel) (by decide +kernel)
theorem w_933 : (.methodLink RX8 254 yX3_hasOrderOf : Cond) ∈ TB := TB_mem 933 (by decide +kernel) (by decide +kernel)
theorem w_934 : (.instanceMethod yX3_hasOrderOf : Cond) ∈ TB := TB_mem 934 (by decide +kernel) (by decide +kernel)
theorem w_935 : (.selects RX3 yX3_hasOrderOf yX3_hasOrderOf : Cond) ∈ TB := TB_mem 935 (by decide +kernel) (by decide +kernel)
theorem w_936 : (.code yX3_hasOrderOf cX3_hasOrderOf 3 (some .boolean) : Cond) ∈ TB := TB_mem 936 (by decide +kernel) (by decide +kernel)
theorem w_937 : (.methodLink RL 171 yL_tryLearns : Cond) ∈ TB := TB_mem 937 (by decide +kernel) (by decide +kernel)
theorem w_938 : (.static yL_tryLearns : Cond) ∈ TB := TB_mem 938 (by decide +kernel) (by decide +kernel)
theorem w_939 : (.codeWith yL_tryLearns cL_tryLearns 3 (some .int) [(0, 5, 6, 13), (0, 5, 10, 16)] : Cond) ∈ TB := TB_mem 939 (by decide +kernel) (by decide +kernel)
theorem w_940 : (.methodLink RL 105 yX8_learnsIn : Cond) ∈ TB := TB_mem 940 (by decide +kernel) (by decide +kernel)
theorem w_941 : (.instanceMethod yX8_learnsIn : Cond) ∈ TB := TB_mem 941 (by decide +kernel) (by decide +kernel)
theorem w_942 : (.selects RX8 yX8_learnsIn yX8_learnsIn : Cond) ∈ TB := TB_mem 942 (by decide +kernel) (by decide +kernel)
theorem w_943 : (.code yX8_learnsIn cX8_learnsIn 3 (some .int) : Cond) ∈ TB := TB_mem 943 (by decide +kernel) (by decide +kernel)
theorem w_944 : (.methodLink RL 174 yL_tryKeep : Cond) ∈ TB := TB_mem 944 (by decide +kernel) (by decide +kernel)
theorem w_945 : (.static yL_tryKeep : Cond) ∈ TB := TB_mem 945 (by decide +kernel) (by decide +kernel)
theorem w_946 : (.codeWith yL_tryKeep cL_tryKeep 3 (some .int) [(0, 5, 6, 13)] : Cond) ∈ TB := TB_mem 946 (by decide +kernel) (by decide +kernel)
theorem w_947 : (.methodLink RL 108 yX8_save : Cond) ∈ TB := TB_mem 947 (by decide +kernel) (by decide +kernel)
theorem w_948 : (.instanceMethod yX8_save : Cond) ∈ TB := TB_mem 948 (by decide +kernel) (by decide +kernel)
theorem w_949 : (.selects RX8 yX8_save yX8_save : Cond) ∈ TB := TB_mem 949 (by decide +kernel) (by decide +kernel)
theorem w_950 : (.code yX8_save cX8_save 2 (some .int) : Cond) ∈ TB := TB_mem 950 (by decide +kernel) (by decide +kernel)
theorem w_951 : (.methodLink RX8 285 yX8_needSlot : Cond) ∈ TB := TB_mem 951 (by decide +kernel) (by decide +kernel)
theorem w_952 : (.static yX8_needSlot : Cond) ∈ TB := TB_mem 952 (by decide +kernel) (by decide +kernel)
theorem w_953 : (.code yX8_needSlot cX8_needSlot 1 none : Cond) ∈ TB := TB_mem 953 (by decide +kernel) (by decide +kernel)
theorem w_955 : (.methodLink RX8 288 yX5_put : Cond) ∈ TB := TB_mem 955 (by decide +kernel) (by decide +kernel)
theorem w_956 : (.instanceMethod yX5_put : Cond) ∈ TB := TB_mem 956 (by decide +kernel) (by decide +kernel)
theorem w_957 : (.selects RX5 yX5_put yX5_put : Cond) ∈ TB := TB_mem 957 (by decide +kernel) (by decide +kernel)
theorem w_958 : (.code yX5_put cX5_put 4 none : Cond) ∈ TB := TB_mem 958 (by decide +kernel) (by decide +kernel)
theorem w_960 : (.methodLink RX5 26 yX7_takeFrom : Cond) ∈ TB := TB_mem 960 (by decide +kernel) (by decide +kernel)
theorem w_961 : (.methodLink RL 177 yL_tryBack : Cond) ∈ TB := TB_mem 961 (by decide +kernel) (by decide +kernel)
theorem w_962 : (.static yL_tryBack : Cond) ∈ TB := TB_mem 962 (by decide +kernel) (by decide +kernel)
theorem w_963 : (.codeWith yL_tryBack cL_tryBack 3 (some .int) [(0, 5, 6, 13), (0, 5, 10, 37)] : Cond) ∈ TB := TB_mem 963 (by decide +kernel) (by decide +kernel)
theorem w_964 : (.methodLink RL 111 yX8_restore : Cond) ∈ TB := TB_mem 964 (by decide +kernel) (by decide +kernel)
theorem w_965 : (.instanceMethod yX8_restore : Cond) ∈ TB := TB_mem 965 (by decide +kernel) (by decide +kernel)
theorem w_966 : (.selects RX8 yX8_restore yX8_restore : Cond) ∈ TB := TB_mem 966 (by decide +kernel) (by decide +kernel)
theorem w_967 : (.code yX8_restore cX8_restore 2 (some .int) : Cond) ∈ TB := TB_mem 967 (by decide +kernel) (by decide +kernel)
theorem w_968 : (.methodLink RX8 294 yX5_isFilled : Cond) ∈ TB := TB_mem 968 (by decide +kernel) (by decide +kernel)
theorem w_969 : (.instanceMethod yX5_isFilled : Cond) ∈ TB := TB_mem 969 (by decide +kernel) (by decide +kernel)
theorem w_970 : (.selects RX5 yX5_isFilled yX5_isFilled : Cond) ∈ TB := TB_mem 970 (by decide +kernel) (by decide +kernel)
theorem w_971 : (.code yX5_isFilled cX5_isFilled 2 (some .boolean) : Cond) ∈ TB := TB_mem 971 (by decide +kernel) (by decide +kernel)
theorem w_973 : (.methodLink RX8 299 yX5_takeOut : Cond) ∈ TB := TB_mem 973 (by decide +kernel) (by decide +kernel)
theorem w_974 : (.instanceMethod yX5_takeOut : Cond) ∈ TB := TB_mem 974 (by decide +kernel) (by decide +kernel)
theorem w_975 : (.selects RX5 yX5_takeOut yX5_takeOut : Cond) ∈ TB := TB_mem 975 (by decide +kernel) (by decide +kernel)
theorem w_976 : (.code yX5_takeOut cX5_takeOut 4 none : Cond) ∈ TB := TB_mem 976 (by decide +kernel) (by decide +kernel)
theorem w_977 : (.methodLink RX5 30 yX5_isFilled : Cond) ∈ TB := TB_mem 977 (by decide +kernel) (by decide +kernel)
theorem w_978 : (.methodLink RL 186 yL_trySum : Cond) ∈ TB := TB_mem 978 (by decide +kernel) (by decide +kernel)
theorem w_979 : (.static yL_trySum : Cond) ∈ TB := TB_mem 979 (by decide +kernel) (by decide +kernel)
theorem w_980 : (.codeWith yL_trySum cL_trySum 3 (some .long) [(0, 5, 6, 16)] : Cond) ∈ TB := TB_mem 980 (by decide +kernel) (by decide +kernel)
theorem w_981 : (.methodLink RL 19 yX8_sum : Cond) ∈ TB := TB_mem 981 (by decide +kernel) (by decide +kernel)
theorem w_982 : (.instanceMethod yX8_sum : Cond) ∈ TB := TB_mem 982 (by decide +kernel) (by decide +kernel)
theorem w_983 : (.selects RX8 yX8_sum yX8_sum : Cond) ∈ TB := TB_mem 983 (by decide +kernel) (by decide +kernel)
theorem w_984 : (.code yX8_sum cX8_sum 2 (some .long) : Cond) ∈ TB := TB_mem 984 (by decide +kernel) (by decide +kernel)
theorem w_985 : (.methodLink RX8 109 yX7_sumOf : Cond) ∈ TB := TB_mem 985 (by decide +kernel) (by decide +kernel)
theorem w_986 : (.instanceMethod yX7_sumOf : Cond) ∈ TB := TB_mem 986 (by decide +kernel) (by decide +kernel)
theorem w_987 : (.selects RX7 yX7_sumOf yX7_sumOf : Cond) ∈ TB := TB_mem 987 (by decide +kernel) (by decide +kernel)
theorem w_988 : (.code yX7_sumOf cX7_sumOf 2 (some .long) : Cond) ∈ TB := TB_mem 988 (by decide +kernel) (by decide +kernel)
theorem w_989 : (.constantLong RL 23 (-9999002) : Cond) ∈ TB := TB_mem 989 (by decide +kernel) (by decide +kernel)
theorem w_990 : (.methodLink RL 190 yL_tryLink : Cond) ∈ TB := TB_mem 990 (by decide +kernel) (by decide +kernel)
theorem w_991 : (.static yL_tryLink : Cond) ∈ TB := TB_mem 991 (by decide +kernel) (by decide +kernel)
theorem w_992 : (.codeWith yL_tryLink cL_tryLink 6 (some .int) [(0, 9, 10, 13), (0, 9, 15, 16)] : Cond) ∈ TB := TB_mem 992 (by decide +kernel) (by decide +kernel)
theorem w_993 : (.methodLink RL 7 yX8_link : Cond) ∈ TB := TB_mem 993 (by decide +kernel) (by decide +kernel)
theorem w_994 : (.instanceMethod yX8_link : Cond) ∈ TB := TB_mem 994 (by decide +kernel) (by decide +kernel)
theorem w_995 : (.selects RX8 yX8_link yX8_link : Cond) ∈ TB := TB_mem 995 (by decide +kernel) (by decide +kernel)
theorem w_996 : (.code yX8_link cX8_link 5 (some .int) : Cond) ∈ TB := TB_mem 996 (by decide +kernel) (by decide +kernel)
theorem w_997 : (.methodLink RL 193 yL_tryRows : Cond) ∈ TB := TB_mem 997 (by decide +kernel) (by decide +kernel)
theorem w_998 : (.static yL_tryRows : Cond) ∈ TB := TB_mem 998 (by decide +kernel) (by decide +kernel)
theorem w_999 : (.codeWith yL_tryRows cL_tryRows 4 (some .long) [(0, 6, 7, 13), (0, 6, 12, 16)] : Cond) ∈ TB := TB_mem 999 (by decide +kernel) (by decide +kernel)
theorem w_1000 : (.methodLink RL 25 yX8_rows : Cond) ∈ TB := TB_mem 1000 (by decide +kernel) (by decide +kernel)
theorem w_1001 : (.instanceMethod yX8_rows : Cond) ∈ TB := TB_mem 1001 (by decide +kernel) (by decide +kernel)
theorem w_1002 : (.selects RX8 yX8_rows yX8_rows : Cond) ∈ TB := TB_mem 1002 (by decide +kernel) (by decide +kernel)
theorem w_1003 : (.code yX8_rows cX8_rows 3 (some .long) : Cond) ∈ TB := TB_mem 1003 (by decide +kernel) (by decide +kernel)
theorem w_1004 : (.methodLink RX8 200 yX3_weigh : Cond) ∈ TB := TB_mem 1004 (by decide +kernel) (by decide +kernel)
theorem w_1005 : (.methodLink RX8 204 yX3_rowsOf : Cond) ∈ TB := TB_mem 1005 (by decide +kernel) (by decide +kernel)
theorem w_1006 : (.constantLong RL 29 (-9999001) : Cond) ∈ TB := TB_mem 1006 (by decide +kernel) (by decide +kernel)
theorem w_1007 : (.methodLink RL 197 yL_tryCost : Cond) ∈ TB := TB_mem 1007 (by decide +kernel) (by decide +kernel)
theorem w_1008 : (.static yL_tryCost : Cond) ∈ TB := TB_mem 1008 (by decide +kernel) (by decide +kernel)
theorem w_1009 : (.codeWith yL_tryCost cL_tryCost 4 (some .long) [(0, 6, 7, 13), (0, 6, 12, 16)] : Cond) ∈ TB := TB_mem 1009 (by decide +kernel) (by decide +kernel)
theorem w_1010 : (.methodLink RL 31 yX8_cost : Cond) ∈ TB := TB_mem 1010 (by decide +kernel) (by decide +kernel)
theorem w_1011 : (.instanceMethod yX8_cost : Cond) ∈ TB := TB_mem 1011 (by decide +kernel) (by decide +kernel)
theorem w_1012 : (.selects RX8 yX8_cost yX8_cost : Cond) ∈ TB := TB_mem 1012 (by decide +kernel) (by decide +kernel)
theorem w_1013 : (.code yX8_cost cX8_cost 3 (some .long) : Cond) ∈ TB := TB_mem 1013 (by decide +kernel) (by decide +kernel)
theorem w_1014 : (.methodLink RL 200 yL_tryText : Cond) ∈ TB := TB_mem 1014 (by decide +kernel) (by decide +kernel)
theorem w_1015 : (.static yL_tryText : Cond) ∈ TB := TB_mem 1015 (by decide +kernel) (by decide +kernel)
theorem w_1016 : (.codeWith yL_tryText cL_tryText 3 (some .long) [(0, 5, 6, 16), (0, 5, 11, 37)] : Cond) ∈ TB := TB_mem 1016 (by decide +kernel) (by decide +kernel)
theorem w_1017 : (.methodLink RL 34 yX8_costOfText : Cond) ∈ TB := TB_mem 1017 (by decide +kernel) (by decide +kernel)
theorem w_1018 : (.instanceMethod yX8_costOfText : Cond) ∈ TB := TB_mem 1018 (by decide +kernel) (by decide +kernel)
theorem w_1019 : (.selects RX8 yX8_costOfText yX8_costOfText : Cond) ∈ TB := TB_mem 1019 (by decide +kernel) (by decide +kernel)
theorem w_1020 : (.code yX8_costOfText cX8_costOfText 2 (some .long) : Cond) ∈ TB := TB_mem 1020 (by decide +kernel) (by decide +kernel)
theorem w_1021 : (.methodLink RX8 231 yX2_tables : Cond) ∈ TB := TB_mem 1021 (by decide +kernel) (by decide +kernel)
theorem w_1022 : (.instanceMethod yX2_tables : Cond) ∈ TB := TB_mem 1022 (by decide +kernel) (by decide +kernel)
theorem w_1023 : (.selects RX2 yX2_tables yX2_tables : Cond) ∈ TB := TB_mem 1023 (by decide +kernel) (by decide +kernel)
theorem w_1024 : (.code yX2_tables cX2_tables 1 (some .int) : Cond) ∈ TB := TB_mem 1024 (by decide +kernel) (by decide +kernel)
theorem w_1026 : (.methodLink RX8 239 yX3_costOfRead : Cond) ∈ TB := TB_mem 1026 (by decide +kernel) (by decide +kernel)
theorem w_1027 : (.instanceMethod yX3_costOfRead : Cond) ∈ TB := TB_mem 1027 (by decide +kernel) (by decide +kernel)
theorem w_1028 : (.selects RX3 yX3_costOfRead yX3_costOfRead : Cond) ∈ TB := TB_mem 1028 (by decide +kernel) (by decide +kernel)
theorem w_1029 : (.code yX3_costOfRead cX3_costOfRead 7 (some .long) : Cond) ∈ TB := TB_mem 1029 (by decide +kernel) (by decide +kernel)
theorem w_1030 : (.methodLink RX3 98 yX2_tableAt : Cond) ∈ TB := TB_mem 1030 (by decide +kernel) (by decide +kernel)
theorem w_1031 : (.instanceMethod yX2_tableAt : Cond) ∈ TB := TB_mem 1031 (by decide +kernel) (by decide +kernel)
theorem w_1032 : (.selects RX2 yX2_tableAt yX2_tableAt : Cond) ∈ TB := TB_mem 1032 (by decide +kernel) (by decide +kernel)
theorem w_1033 : (.code yX2_tableAt cX2_tableAt 2 (some .int) : Cond) ∈ TB := TB_mem 1033 (by decide +kernel) (by decide +kernel)
theorem w_1034 : (.constantLong RL 39 (-9999003) : Cond) ∈ TB := TB_mem 1034 (by decide +kernel) (by decide +kernel)
theorem w_1035 : (.constantLong RL 207 (1000000) : Cond) ∈ TB := TB_mem 1035 (by decide +kernel) (by decide +kernel)
theorem w_1036 : (.constantLong RL 209 (-1) : Cond) ∈ TB := TB_mem 1036 (by decide +kernel) (by decide +kernel)
theorem w_1037 : (.methodLink RL 215 yX8_errorPosition : Cond) ∈ TB := TB_mem 1037 (by decide +kernel) (by decide +kernel)
theorem w_1038 : (.instanceMethod yX8_errorPosition : Cond) ∈ TB := TB_mem 1038 (by decide +kernel) (by decide +kernel)
theorem w_1039 : (.selects RX8 yX8_errorPosition yX8_errorPosition : Cond) ∈ TB := TB_mem 1039 (by decide +kernel) (by decide +kernel)
theorem w_1040 : (.code yX8_errorPosition cX8_errorPosition 2 (some .int) : Cond) ∈ TB := TB_mem 1040 (by decide +kernel) (by decide +kernel)
theorem w_1041 : (.methodLink RL 237 yL_alike : Cond) ∈ TB := TB_mem 1041 (by decide +kernel) (by decide +kernel)
theorem w_1042 : (.static yL_alike : Cond) ∈ TB := TB_mem 1042 (by decide +kernel) (by decide +kernel)
theorem w_1044 : (.methodLink RL 219 yX8_worst : Cond) ∈ TB := TB_mem 1044 (by decide +kernel) (by decide +kernel)
theorem w_1045 : (.instanceMethod yX8_worst : Cond) ∈ TB := TB_mem 1045 (by decide +kernel) (by decide +kernel)
theorem w_1046 : (.selects RX8 yX8_worst yX8_worst : Cond) ∈ TB := TB_mem 1046 (by decide +kernel) (by decide +kernel)
theorem w_1047 : (.code yX8_worst cX8_worst 1 (some .int) : Cond) ∈ TB := TB_mem 1047 (by decide +kernel) (by decide +kernel)
theorem w_1048 : (.methodLink RX8 258 yX7_mostWronglyBelieved : Cond) ∈ TB := TB_mem 1048 (by decide +kernel) (by decide +kernel)
theorem w_1049 : (.instanceMethod yX7_mostWronglyBelieved : Cond) ∈ TB := TB_mem 1049 (by decide +kernel) (by decide +kernel)
theorem w_1050 : (.selects RX7 yX7_mostWronglyBelieved yX7_mostWronglyBelieved : Cond) ∈ TB := TB_mem 1050 (by decide +kernel) (by decide +kernel)
theorem w_1051 : (.code yX7_mostWronglyBelieved cX7_mostWronglyBelieved 6 (some .int) : Cond) ∈ TB := TB_mem 1051 (by decide +kernel) (by decide +kernel)
theorem w_1052 : (.methodLink RL 241 yL_holds : Cond) ∈ TB := TB_mem 1052 (by decide +kernel) (by decide +kernel)
theorem w_1053 : (.static yL_holds : Cond) ∈ TB := TB_mem 1053 (by decide +kernel) (by decide +kernel)
theorem w_1055 : (.methodLink RL 234 yL_act : Cond) ∈ TB := TB_mem 1055 (by decide +kernel) (by decide +kernel)
theorem w_1056 : (.static yL_act : Cond) ∈ TB := TB_mem 1056 (by decide +kernel) (by decide +kernel)
theorem w_1057 : (.code yL_act cL_act 6 (some .int) : Cond) ∈ TB := TB_mem 1057 (by decide +kernel) (by decide +kernel)
theorem w_1058 : (.methodLink RL 222 yX8_clearText : Cond) ∈ TB := TB_mem 1058 (by decide +kernel) (by decide +kernel)
theorem w_1059 : (.instanceMethod yX8_clearText : Cond) ∈ TB := TB_mem 1059 (by decide +kernel) (by decide +kernel)
theorem w_1060 : (.selects RX8 yX8_clearText yX8_clearText : Cond) ∈ TB := TB_mem 1060 (by decide +kernel) (by decide +kernel)
theorem w_1061 : (.code yX8_clearText cX8_clearText 1 (some .int) : Cond) ∈ TB := TB_mem 1061 (by decide +kernel) (by decide +kernel)
theorem w_1062 : (.methodLink RX8 83 yX6_empty : Cond) ∈ TB := TB_mem 1062 (by decide +kernel) (by decide +kernel)
theorem w_1063 : (.instanceMethod yX6_empty : Cond) ∈ TB := TB_mem 1063 (by decide +kernel) (by decide +kernel)
theorem w_1064 : (.selects RX6 yX6_empty yX6_empty : Cond) ∈ TB := TB_mem 1064 (by decide +kernel) (by decide +kernel)
theorem w_1065 : (.code yX6_empty cX6_empty 2 (some .int) : Cond) ∈ TB := TB_mem 1065 (by decide +kernel) (by decide +kernel)
theorem w_1066 : (.constantLong RL 244 (3434256485) : Cond) ∈ TB := TB_mem 1066 (by decide +kernel) (by decide +kernel)
theorem w_1067 : (.constantLong RL 246 (821) : Cond) ∈ TB := TB_mem 1067 (by decide +kernel) (by decide +kernel)
theorem w_1068 : (.constantLong RL 248 (400) : Cond) ∈ TB := TB_mem 1068 (by decide +kernel) (by decide +kernel)
theorem w_1070 : (.selects RX0 yX0_begin yX0_begin : Cond) ∈ TB := TB_mem 1070 (by decide +kernel) (by decide +kernel)
theorem w_1071 : (.selects RX0 yX0_takes yX0_takes : Cond) ∈ TB := TB_mem 1071 (by decide +kernel) (by decide +kernel)
theorem nd_X0_expect : yX0_expect.cls ≠ "java/lang/invoke/MethodHandle" ∧ yX0_expect.cls ≠ "java/lang/invoke/VarHandle" ∧ (parseMethodDescriptor yX0_expect.desc).map (fun d => d.parameters.length) = some 1 := by decide +kernel
theorem nd_X0_takesEntry : yX0_takesEntry.cls ≠ "java/lang/invoke/MethodHandle" ∧ yX0_takesEntry.cls ≠ "java/lang/invoke/VarHandle" ∧ (parseMethodDescriptor yX0_takesEntry.desc).map (fun d => d.parameters.length) = some 1 := by decide +kernel
theorem nd_X8_isIn : yX8_isIn.cls ≠ "java/lang/invoke/MethodHandle" ∧ yX8_isIn.cls ≠ "java/lang/invoke/VarHandle" ∧ (parseMethodDescriptor yX8_isIn.desc).map (fun d => d.parameters.length) = some 3 := by decide +kernel
theorem nd_X0_takesDigit : yX0_takesDigit.cls ≠ "java/lang/invoke/MethodHandle" ∧ yX0_takesDigit.cls ≠ "java/lang/invoke/VarHandle" ∧ (parseMethodDescriptor yX0_takesDigit.desc).map (fun d => d.parameters.length) = some 2 := by decide +kernel
theorem nd_X0_isComplete : yX0_isComplete.cls ≠ "java/lang/invoke/MethodHandle" ∧ yX0_isComplete.cls ≠ "java/lang/invoke/VarHandle" ∧ (parseMethodDescriptor yX0_isComplete.desc).map (fun d => d.parameters.length) = some 0 := by decide +kernel
theorem nd_X0_takesEnd : yX0_takesEnd.cls ≠ "java/lang/invoke/MethodHandle" ∧ yX0_takesEnd.cls ≠ "java/lang/invoke/VarHandle" ∧ (parseMethodDescriptor yX0_takesEnd.desc).map (fun d => d.parameters.length) = some 1 := by decide +kernel
theorem nd_X0_takesComma : yX0_takesComma.cls ≠ "java/lang/invoke/MethodHandle" ∧ yX0_takesComma.cls ≠ "java/lang/invoke/VarHandle" ∧ (parseMethodDescriptor yX0_takesComma.desc).map (fun d => d.parameters.length) = some 1 := by decide +kernel
theorem nd_X1_stateAt : yX1_stateAt.cls ≠ "java/lang/invoke/MethodHandle" ∧ yX1_stateAt.cls ≠ "java/lang/invoke/VarHandle" ∧ (parseMethodDescriptor yX1_stateAt.desc).map (fun d => d.parameters.length) = some 1 := by decide +kernel
theorem nd_X7_takeFrom : yX7_takeFrom.cls ≠ "java/lang/invoke/MethodHandle" ∧ yX7_takeFrom.cls ≠ "java/lang/invoke/VarHandle" ∧ (parseMethodDescriptor yX7_takeFrom.desc).map (fun d => d.parameters.length) = some 1 := by decide +kernel
theorem nd_X8_holds : yX8_holds.cls ≠ "java/lang/invoke/MethodHandle" ∧ yX8_holds.cls ≠ "java/lang/invoke/VarHandle" ∧ (parseMethodDescriptor yX8_holds.desc).map (fun d => d.parameters.length) = some 2 := by decide +kernel
theorem nd_X7_sizeOf : yX7_sizeOf.cls ≠ "java/lang/invoke/MethodHandle" ∧ yX7_sizeOf.cls ≠ "java/lang/invoke/VarHandle" ∧ (parseMethodDescriptor yX7_sizeOf.desc).map (fun d => d.parameters.length) = some 1 := by decide +kernel
theorem nd_X3_rowsOf : yX3_rowsOf.cls ≠ "java/lang/invoke/MethodHandle" ∧ yX3_rowsOf.cls ≠ "java/lang/invoke/VarHandle" ∧ (parseMethodDescriptor yX3_rowsOf.desc).map (fun d => d.parameters.length) = some 1 := by decide +kernel
theorem nd_X3_sizeOf : yX3_sizeOf.cls ≠ "java/lang/invoke/MethodHandle" ∧ yX3_sizeOf.cls ≠ "java/lang/invoke/VarHandle" ∧ (parseMethodDescriptor yX3_sizeOf.desc).map (fun d => d.parameters.length) = some 1 := by decide +kernel
theorem nd_X7_shareOf : yX7_shareOf.cls ≠ "java/lang/invoke/MethodHandle" ∧ yX7_shareOf.cls ≠ "java/lang/invoke/VarHandle" ∧ (parseMethodDescriptor yX7_shareOf.desc).map (fun d => d.parameters.length) = some 2 := by decide +kernel
theorem nd_X3_rowsJoined : yX3_rowsJoined.cls ≠ "java/lang/invoke/MethodHandle" ∧ yX3_rowsJoined.cls ≠ "java/lang/invoke/VarHandle" ∧ (parseMethodDescriptor yX3_rowsJoined.desc).map (fun d => d.parameters.length) = some 2 := by decide +kernel
theorem nd_X3_weigh : yX3_weigh.cls ≠ "java/lang/invoke/MethodHandle" ∧ yX3_weigh.cls ≠ "java/lang/invoke/VarHandle" ∧ (parseMethodDescriptor yX3_weigh.desc).map (fun d => d.parameters.length) = some 3 := by decide +kernel
theorem nd_X3_cheaperWay : yX3_cheaperWay.cls ≠ "java/lang/invoke/MethodHandle" ∧ yX3_cheaperWay.cls ≠ "java/lang/invoke/VarHandle" ∧ (parseMethodDescriptor yX3_cheaperWay.desc).map (fun d => d.parameters.length) = some 2 := by decide +kernel
theorem nd_X3_stepCost : yX3_stepCost.cls ≠ "java/lang/invoke/MethodHandle" ∧ yX3_stepCost.cls ≠ "java/lang/invoke/VarHandle" ∧ (parseMethodDescriptor yX3_stepCost.desc).map (fun d => d.parameters.length) = some 3 := by decide +kernel
theorem nd_X3_restOf : yX3_restOf.cls ≠ "java/lang/invoke/MethodHandle" ∧ yX3_restOf.cls ≠ "java/lang/invoke/VarHandle" ∧ (parseMethodDescriptor yX3_restOf.desc).map (fun d => d.parameters.length) = some 1 := by decide +kernel
theorem nd_X3_findNext : yX3_findNext.cls ≠ "java/lang/invoke/MethodHandle" ∧ yX3_findNext.cls ≠ "java/lang/invoke/VarHandle" ∧ (parseMethodDescriptor yX3_findNext.desc).map (fun d => d.parameters.length) = some 1 := by decide +kernel
theorem nd_X3_followNext : yX3_followNext.cls ≠ "java/lang/invoke/MethodHandle" ∧ yX3_followNext.cls ≠ "java/lang/invoke/VarHandle" ∧ (parseMethodDescriptor yX3_followNext.desc).map (fun d => d.parameters.length) = some 0 := by decide +kernel
theorem nd_X3_tableAt : yX3_tableAt.cls ≠ "java/lang/invoke/MethodHandle" ∧ yX3_tableAt.cls ≠ "java/lang/invoke/VarHandle" ∧ (parseMethodDescriptor yX3_tableAt.desc).map (fun d => d.parameters.length) = some 1 := by decide +kernel
theorem nd_X3_wayAt : yX3_wayAt.cls ≠ "java/lang/invoke/MethodHandle" ∧ yX3_wayAt.cls ≠ "java/lang/invoke/VarHandle" ∧ (parseMethodDescriptor yX3_wayAt.desc).map (fun d => d.parameters.length) = some 1 := by decide +kernel
theorem nd_X2_tableAt : yX2_tableAt.cls ≠ "java/lang/invoke/MethodHandle" ∧ yX2_tableAt.cls ≠ "java/lang/invoke/VarHandle" ∧ (parseMethodDescriptor yX2_tableAt.desc).map (fun d => d.parameters.length) = some 1 := by decide +kernel
theorem nd_X5_isFilled : yX5_isFilled.cls ≠ "java/lang/invoke/MethodHandle" ∧ yX5_isFilled.cls ≠ "java/lang/invoke/VarHandle" ∧ (parseMethodDescriptor yX5_isFilled.desc).map (fun d => d.parameters.length) = some 1 := by decide +kernel
theorem nd_X6_signAt : yX6_signAt.cls ≠ "java/lang/invoke/MethodHandle" ∧ yX6_signAt.cls ≠ "java/lang/invoke/VarHandle" ∧ (parseMethodDescriptor yX6_signAt.desc).map (fun d => d.parameters.length) = some 1 := by decide +kernel
theorem nd_X7_hasTable : yX7_hasTable.cls ≠ "java/lang/invoke/MethodHandle" ∧ yX7_hasTable.cls ≠ "java/lang/invoke/VarHandle" ∧ (parseMethodDescriptor yX7_hasTable.desc).map (fun d => d.parameters.length) = some 1 := by decide +kernel
theorem nd_X7_hasMemory : yX7_hasMemory.cls ≠ "java/lang/invoke/MethodHandle" ∧ yX7_hasMemory.cls ≠ "java/lang/invoke/VarHandle" ∧ (parseMethodDescriptor yX7_hasMemory.desc).map (fun d => d.parameters.length) = some 1 := by decide +kernel
theorem nd_X7_linkCount : yX7_linkCount.cls ≠ "java/lang/invoke/MethodHandle" ∧ yX7_linkCount.cls ≠ "java/lang/invoke/VarHandle" ∧ (parseMethodDescriptor yX7_linkCount.desc).map (fun d => d.parameters.length) = some 0 := by decide +kernel
theorem nd_X7_memoryCount : yX7_memoryCount.cls ≠ "java/lang/invoke/MethodHandle" ∧ yX7_memoryCount.cls ≠ "java/lang/invoke/VarHandle" ∧ (parseMethodDescriptor yX7_memoryCount.desc).map (fun d => d.parameters.length) = some 0 := by decide +kernel
theorem nd_X7_isLinked : yX7_isLinked.cls ≠ "java/lang/invoke/MethodHandle" ∧ yX7_isLinked.cls ≠ "java/lang/invoke/VarHandle" ∧ (parseMethodDescriptor yX7_isLinked.desc).map (fun d => d.parameters.length) = some 1 := by decide +kernel
theorem nd_X7_forget : yX7_forget.cls ≠ "java/lang/invoke/MethodHandle" ∧ yX7_forget.cls ≠ "java/lang/invoke/VarHandle" ∧ (parseMethodDescriptor yX7_forget.desc).map (fun d => d.parameters.length) = some 1 := by decide +kernel
theorem nd_X7_settingOf : yX7_settingOf.cls ≠ "java/lang/invoke/MethodHandle" ∧ yX7_settingOf.cls ≠ "java/lang/invoke/VarHandle" ∧ (parseMethodDescriptor yX7_settingOf.desc).map (fun d => d.parameters.length) = some 1 := by decide +kernel
theorem nd_X7_makeOlder : yX7_makeOlder.cls ≠ "java/lang/invoke/MethodHandle" ∧ yX7_makeOlder.cls ≠ "java/lang/invoke/VarHandle" ∧ (parseMethodDescriptor yX7_makeOlder.desc).map (fun d => d.parameters.length) = some 1 := by decide +kernel
theorem nd_X8_pairIndex : yX8_pairIndex.cls ≠ "java/lang/invoke/MethodHandle" ∧ yX8_pairIndex.cls ≠ "java/lang/invoke/VarHandle" ∧ (parseMethodDescriptor yX8_pairIndex.desc).map (fun d => d.parameters.length) = some 2 := by decide +kernel
theorem nd_X7_differenceOf : yX7_differenceOf.cls ≠ "java/lang/invoke/MethodHandle" ∧ yX7_differenceOf.cls ≠ "java/lang/invoke/VarHandle" ∧ (parseMethodDescriptor yX7_differenceOf.desc).map (fun d => d.parameters.length) = some 1 := by decide +kernel
theorem nd_X7_noteSurprise : yX7_noteSurprise.cls ≠ "java/lang/invoke/MethodHandle" ∧ yX7_noteSurprise.cls ≠ "java/lang/invoke/VarHandle" ∧ (parseMethodDescriptor yX7_noteSurprise.desc).map (fun d => d.parameters.length) = some 3 := by decide +kernel
theorem nd_X7_learnPair : yX7_learnPair.cls ≠ "java/lang/invoke/MethodHandle" ∧ yX7_learnPair.cls ≠ "java/lang/invoke/VarHandle" ∧ (parseMethodDescriptor yX7_learnPair.desc).map (fun d => d.parameters.length) = some 2 := by decide +kernel
theorem nd_X8_needRange : yX8_needRange.cls ≠ "java/lang/invoke/MethodHandle" ∧ yX8_needRange.cls ≠ "java/lang/invoke/VarHandle" ∧ (parseMethodDescriptor yX8_needRange.desc).map (fun d => d.parameters.length) = some 3 := by decide +kernel
theorem nd_X6_isFull : yX6_isFull.cls ≠ "java/lang/invoke/MethodHandle" ∧ yX6_isFull.cls ≠ "java/lang/invoke/VarHandle" ∧ (parseMethodDescriptor yX6_isFull.desc).map (fun d => d.parameters.length) = some 0 := by decide +kernel
theorem nd_X6_put : yX6_put.cls ≠ "java/lang/invoke/MethodHandle" ∧ yX6_put.cls ≠ "java/lang/invoke/VarHandle" ∧ (parseMethodDescriptor yX6_put.desc).map (fun d => d.parameters.length) = some 1 := by decide +kernel
theorem nd_X6_empty : yX6_empty.cls ≠ "java/lang/invoke/MethodHandle" ∧ yX6_empty.cls ≠ "java/lang/invoke/VarHandle" ∧ (parseMethodDescriptor yX6_empty.desc).map (fun d => d.parameters.length) = some 0 := by decide +kernel
theorem nd_X6_firstErrorFor : yX6_firstErrorFor.cls ≠ "java/lang/invoke/MethodHandle" ∧ yX6_firstErrorFor.cls ≠ "java/lang/invoke/VarHandle" ∧ (parseMethodDescriptor yX6_firstErrorFor.desc).map (fun d => d.parameters.length) = some 1 := by decide +kernel
theorem nd_X7_makeNew : yX7_makeNew.cls ≠ "java/lang/invoke/MethodHandle" ∧ yX7_makeNew.cls ≠ "java/lang/invoke/VarHandle" ∧ (parseMethodDescriptor yX7_makeNew.desc).map (fun d => d.parameters.length) = some 0 := by decide +kernel
theorem nd_X1_forgetAll : yX1_forgetAll.cls ≠ "java/lang/invoke/MethodHandle" ∧ yX1_forgetAll.cls ≠ "java/lang/invoke/VarHandle" ∧ (parseMethodDescriptor yX1_forgetAll.desc).map (fun d => d.parameters.length) = some 0 := by decide +kernel
theorem nd_X5_emptyAll : yX5_emptyAll.cls ≠ "java/lang/invoke/MethodHandle" ∧ yX5_emptyAll.cls ≠ "java/lang/invoke/VarHandle" ∧ (parseMethodDescriptor yX5_emptyAll.desc).map (fun d => d.parameters.length) = some 0 := by decide +kernel
theorem nd_X0_begin : yX0_begin.cls ≠ "java/lang/invoke/MethodHandle" ∧ yX0_begin.cls ≠ "java/lang/invoke/VarHandle" ∧ (parseMethodDescriptor yX0_begin.desc).map (fun d => d.parameters.length) = some 0 := by decide +kernel
theorem nd_X0_takes : yX0_takes.cls ≠ "java/lang/invoke/MethodHandle" ∧ yX0_takes.cls ≠ "java/lang/invoke/VarHandle" ∧ (parseMethodDescriptor yX0_takes.desc).map (fun d => d.parameters.length) = some 1 := by decide +kernel
theorem nd_X0_isTable : yX0_isTable.cls ≠ "java/lang/invoke/MethodHandle" ∧ yX0_isTable.cls ≠ "java/lang/invoke/VarHandle" ∧ (parseMethodDescriptor yX0_isTable.desc).map (fun d => d.parameters.length) = some 0 := by decide +kernel
theorem nd_X7_hasTwoTables : yX7_hasTwoTables.cls ≠ "java/lang/invoke/MethodHandle" ∧ yX7_hasTwoTables.cls ≠ "java/lang/invoke/VarHandle" ∧ (parseMethodDescriptor yX7_hasTwoTables.desc).map (fun d => d.parameters.length) = some 2 := by decide +kernel
theorem nd_X7_linkPair : yX7_linkPair.cls ≠ "java/lang/invoke/MethodHandle" ∧ yX7_linkPair.cls ≠ "java/lang/invoke/VarHandle" ∧ (parseMethodDescriptor yX7_linkPair.desc).map (fun d => d.parameters.length) = some 3 := by decide +kernel
theorem nd_X7_isFull : yX7_isFull.cls ≠ "java/lang/invoke/MethodHandle" ∧ yX7_isFull.cls ≠ "java/lang/invoke/VarHandle" ∧ (parseMethodDescriptor yX7_isFull.desc).map (fun d => d.parameters.length) = some 0 := by decide +kernel
theorem nd_X7_addTable : yX7_addTable.cls ≠ "java/lang/invoke/MethodHandle" ∧ yX7_addTable.cls ≠ "java/lang/invoke/VarHandle" ∧ (parseMethodDescriptor yX7_addTable.desc).map (fun d => d.parameters.length) = some 1 := by decide +kernel
theorem nd_X8_doEntry : yX8_doEntry.cls ≠ "java/lang/invoke/MethodHandle" ∧ yX8_doEntry.cls ≠ "java/lang/invoke/VarHandle" ∧ (parseMethodDescriptor yX8_doEntry.desc).map (fun d => d.parameters.length) = some 0 := by decide +kernel
theorem nd_X8_readEntries : yX8_readEntries.cls ≠ "java/lang/invoke/MethodHandle" ∧ yX8_readEntries.cls ≠ "java/lang/invoke/VarHandle" ∧ (parseMethodDescriptor yX8_readEntries.desc).map (fun d => d.parameters.length) = some 0 := by decide +kernel
theorem nd_X7_numberOf : yX7_numberOf.cls ≠ "java/lang/invoke/MethodHandle" ∧ yX7_numberOf.cls ≠ "java/lang/invoke/VarHandle" ∧ (parseMethodDescriptor yX7_numberOf.desc).map (fun d => d.parameters.length) = some 1 := by decide +kernel
theorem nd_X7_sumOf : yX7_sumOf.cls ≠ "java/lang/invoke/MethodHandle" ∧ yX7_sumOf.cls ≠ "java/lang/invoke/VarHandle" ∧ (parseMethodDescriptor yX7_sumOf.desc).map (fun d => d.parameters.length) = some 1 := by decide +kernel
theorem nd_X8_needTable : yX8_needTable.cls ≠ "java/lang/invoke/MethodHandle" ∧ yX8_needTable.cls ≠ "java/lang/invoke/VarHandle" ∧ (parseMethodDescriptor yX8_needTable.desc).map (fun d => d.parameters.length) = some 1 := by decide +kernel
theorem nd_X8_needTwoTables : yX8_needTwoTables.cls ≠ "java/lang/invoke/MethodHandle" ∧ yX8_needTwoTables.cls ≠ "java/lang/invoke/VarHandle" ∧ (parseMethodDescriptor yX8_needTwoTables.desc).map (fun d => d.parameters.length) = some 2 := by decide +kernel
theorem nd_X7_pairNumberOf : yX7_pairNumberOf.cls ≠ "java/lang/invoke/MethodHandle" ∧ yX7_pairNumberOf.cls ≠ "java/lang/invoke/VarHandle" ∧ (parseMethodDescriptor yX7_pairNumberOf.desc).map (fun d => d.parameters.length) = some 2 := by decide +kernel
theorem nd_X7_surpriseNumberOf : yX7_surpriseNumberOf.cls ≠ "java/lang/invoke/MethodHandle" ∧ yX7_surpriseNumberOf.cls ≠ "java/lang/invoke/VarHandle" ∧ (parseMethodDescriptor yX7_surpriseNumberOf.desc).map (fun d => d.parameters.length) = some 2 := by decide +kernel
theorem nd_X1_remember : yX1_remember.cls ≠ "java/lang/invoke/MethodHandle" ∧ yX1_remember.cls ≠ "java/lang/invoke/VarHandle" ∧ (parseMethodDescriptor yX1_remember.desc).map (fun d => d.parameters.length) = some 1 := by decide +kernel
theorem nd_X7_changeSize : yX7_changeSize.cls ≠ "java/lang/invoke/MethodHandle" ∧ yX7_changeSize.cls ≠ "java/lang/invoke/VarHandle" ∧ (parseMethodDescriptor yX7_changeSize.desc).map (fun d => d.parameters.length) = some 2 := by decide +kernel
theorem nd_X7_changeShare : yX7_changeShare.cls ≠ "java/lang/invoke/MethodHandle" ∧ yX7_changeShare.cls ≠ "java/lang/invoke/VarHandle" ∧ (parseMethodDescriptor yX7_changeShare.desc).map (fun d => d.parameters.length) = some 2 := by decide +kernel
theorem nd_X7_hasTables : yX7_hasTables.cls ≠ "java/lang/invoke/MethodHandle" ∧ yX7_hasTables.cls ≠ "java/lang/invoke/VarHandle" ∧ (parseMethodDescriptor yX7_hasTables.desc).map (fun d => d.parameters.length) = some 1 := by decide +kernel
theorem nd_X8_needTables : yX8_needTables.cls ≠ "java/lang/invoke/MethodHandle" ∧ yX8_needTables.cls ≠ "java/lang/invoke/VarHandle" ∧ (parseMethodDescriptor yX8_needTables.desc).map (fun d => d.parameters.length) = some 1 := by decide +kernel
theorem nd_X8_needSomeTable : yX8_needSomeTable.cls ≠ "java/lang/invoke/MethodHandle" ∧ yX8_needSomeTable.cls ≠ "java/lang/invoke/VarHandle" ∧ (parseMethodDescriptor yX8_needSomeTable.desc).map (fun d => d.parameters.length) = some 1 := by decide +kernel
theorem nd_X3_choose : yX3_choose.cls ≠ "java/lang/invoke/MethodHandle" ∧ yX3_choose.cls ≠ "java/lang/invoke/VarHandle" ∧ (parseMethodDescriptor yX3_choose.desc).map (fun d => d.parameters.length) = some 3 := by decide +kernel
theorem nd_X3_costAsPlannedBy : yX3_costAsPlannedBy.cls ≠ "java/lang/invoke/MethodHandle" ∧ yX3_costAsPlannedBy.cls ≠ "java/lang/invoke/VarHandle" ∧ (parseMethodDescriptor yX3_costAsPlannedBy.desc).map (fun d => d.parameters.length) = some 1 := by decide +kernel
theorem nd_X3_leastCost : yX3_leastCost.cls ≠ "java/lang/invoke/MethodHandle" ∧ yX3_leastCost.cls ≠ "java/lang/invoke/VarHandle" ∧ (parseMethodDescriptor yX3_leastCost.desc).map (fun d => d.parameters.length) = some 0 := by decide +kernel
theorem nd_X8_regretIn : yX8_regretIn.cls ≠ "java/lang/invoke/MethodHandle" ∧ yX8_regretIn.cls ≠ "java/lang/invoke/VarHandle" ∧ (parseMethodDescriptor yX8_regretIn.desc).map (fun d => d.parameters.length) = some 2 := by decide +kernel
theorem nd_X7_noteRun : yX7_noteRun.cls ≠ "java/lang/invoke/MethodHandle" ∧ yX7_noteRun.cls ≠ "java/lang/invoke/VarHandle" ∧ (parseMethodDescriptor yX7_noteRun.desc).map (fun d => d.parameters.length) = some 2 := by decide +kernel
theorem nd_X7_learn : yX7_learn.cls ≠ "java/lang/invoke/MethodHandle" ∧ yX7_learn.cls ≠ "java/lang/invoke/VarHandle" ∧ (parseMethodDescriptor yX7_learn.desc).map (fun d => d.parameters.length) = some 1 := by decide +kernel
theorem nd_X8_runIn : yX8_runIn.cls ≠ "java/lang/invoke/MethodHandle" ∧ yX8_runIn.cls ≠ "java/lang/invoke/VarHandle" ∧ (parseMethodDescriptor yX8_runIn.desc).map (fun d => d.parameters.length) = some 2 := by decide +kernel
theorem nd_X7_passWeeks : yX7_passWeeks.cls ≠ "java/lang/invoke/MethodHandle" ∧ yX7_passWeeks.cls ≠ "java/lang/invoke/VarHandle" ∧ (parseMethodDescriptor yX7_passWeeks.desc).map (fun d => d.parameters.length) = some 1 := by decide +kernel
theorem nd_X8_settingTakes : yX8_settingTakes.cls ≠ "java/lang/invoke/MethodHandle" ∧ yX8_settingTakes.cls ≠ "java/lang/invoke/VarHandle" ∧ (parseMethodDescriptor yX8_settingTakes.desc).map (fun d => d.parameters.length) = some 2 := by decide +kernel
theorem nd_X7_changeSetting : yX7_changeSetting.cls ≠ "java/lang/invoke/MethodHandle" ∧ yX7_changeSetting.cls ≠ "java/lang/invoke/VarHandle" ∧ (parseMethodDescriptor yX7_changeSetting.desc).map (fun d => d.parameters.length) = some 2 := by decide +kernel
theorem nd_X1_isEmpty : yX1_isEmpty.cls ≠ "java/lang/invoke/MethodHandle" ∧ yX1_isEmpty.cls ≠ "java/lang/invoke/VarHandle" ∧ (parseMethodDescriptor yX1_isEmpty.desc).map (fun d => d.parameters.length) = some 0 := by decide +kernel
theorem nd_X1_takeBack : yX1_takeBack.cls ≠ "java/lang/invoke/MethodHandle" ∧ yX1_takeBack.cls ≠ "java/lang/invoke/VarHandle" ∧ (parseMethodDescriptor yX1_takeBack.desc).map (fun d => d.parameters.length) = some 1 := by decide +kernel
theorem nd_X8_needKind : yX8_needKind.cls ≠ "java/lang/invoke/MethodHandle" ∧ yX8_needKind.cls ≠ "java/lang/invoke/VarHandle" ∧ (parseMethodDescriptor yX8_needKind.desc).map (fun d => d.parameters.length) = some 1 := by decide +kernel
theorem nd_X8_needAtLeast : yX8_needAtLeast.cls ≠ "java/lang/invoke/MethodHandle" ∧ yX8_needAtLeast.cls ≠ "java/lang/invoke/VarHandle" ∧ (parseMethodDescriptor yX8_needAtLeast.desc).map (fun d => d.parameters.length) = some 2 := by decide +kernel
theorem nd_X2_tables : yX2_tables.cls ≠ "java/lang/invoke/MethodHandle" ∧ yX2_tables.cls ≠ "java/lang/invoke/VarHandle" ∧ (parseMethodDescriptor yX2_tables.desc).map (fun d => d.parameters.length) = some 0 := by decide +kernel
theorem nd_X3_costOfRead : yX3_costOfRead.cls ≠ "java/lang/invoke/MethodHandle" ∧ yX3_costOfRead.cls ≠ "java/lang/invoke/VarHandle" ∧ (parseMethodDescriptor yX3_costOfRead.desc).map (fun d => d.parameters.length) = some 1 := by decide +kernel
theorem nd_X3_hasOrderOf : yX3_hasOrderOf.cls ≠ "java/lang/invoke/MethodHandle" ∧ yX3_hasOrderOf.cls ≠ "java/lang/invoke/VarHandle" ∧ (parseMethodDescriptor yX3_hasOrderOf.desc).map (fun d => d.parameters.length) = some 1 := by decide +kernel
theorem nd_X7_mostWronglyBelieved : yX7_mostWronglyBelieved.cls ≠ "java/lang/invoke/MethodHandle" ∧ yX7_mostWronglyBelieved.cls ≠ "java/lang/invoke/VarHandle" ∧ (parseMethodDescriptor yX7_mostWronglyBelieved.desc).map (fun d => d.parameters.length) = some 0 := by decide +kernel
theorem nd_X8_scriptDrifts : yX8_scriptDrifts.cls ≠ "java/lang/invoke/MethodHandle" ∧ yX8_scriptDrifts.cls ≠ "java/lang/invoke/VarHandle" ∧ (parseMethodDescriptor yX8_scriptDrifts.desc).map (fun d => d.parameters.length) = some 3 := by decide +kernel
theorem nd_X8_scriptSets : yX8_scriptSets.cls ≠ "java/lang/invoke/MethodHandle" ∧ yX8_scriptSets.cls ≠ "java/lang/invoke/VarHandle" ∧ (parseMethodDescriptor yX8_scriptSets.desc).map (fun d => d.parameters.length) = some 2 := by decide +kernel
theorem nd_X8_scriptLinks : yX8_scriptLinks.cls ≠ "java/lang/invoke/MethodHandle" ∧ yX8_scriptLinks.cls ≠ "java/lang/invoke/VarHandle" ∧ (parseMethodDescriptor yX8_scriptLinks.desc).map (fun d => d.parameters.length) = some 3 := by decide +kernel
theorem nd_X8_chosenTableIs : yX8_chosenTableIs.cls ≠ "java/lang/invoke/MethodHandle" ∧ yX8_chosenTableIs.cls ≠ "java/lang/invoke/VarHandle" ∧ (parseMethodDescriptor yX8_chosenTableIs.desc).map (fun d => d.parameters.length) = some 3 := by decide +kernel
theorem nd_X7_remembersSince : yX7_remembersSince.cls ≠ "java/lang/invoke/MethodHandle" ∧ yX7_remembersSince.cls ≠ "java/lang/invoke/VarHandle" ∧ (parseMethodDescriptor yX7_remembersSince.desc).map (fun d => d.parameters.length) = some 2 := by decide +kernel
theorem nd_X8_succeeds : yX8_succeeds.cls ≠ "java/lang/invoke/MethodHandle" ∧ yX8_succeeds.cls ≠ "java/lang/invoke/VarHandle" ∧ (parseMethodDescriptor yX8_succeeds.desc).map (fun d => d.parameters.length) = some 1 := by decide +kernel
theorem nd_X8_takeTurn : yX8_takeTurn.cls ≠ "java/lang/invoke/MethodHandle" ∧ yX8_takeTurn.cls ≠ "java/lang/invoke/VarHandle" ∧ (parseMethodDescriptor yX8_takeTurn.desc).map (fun d => d.parameters.length) = some 1 := by decide +kernel
theorem nd_X8_needSlot : yX8_needSlot.cls ≠ "java/lang/invoke/MethodHandle" ∧ yX8_needSlot.cls ≠ "java/lang/invoke/VarHandle" ∧ (parseMethodDescriptor yX8_needSlot.desc).map (fun d => d.parameters.length) = some 1 := by decide +kernel
theorem nd_X5_put : yX5_put.cls ≠ "java/lang/invoke/MethodHandle" ∧ yX5_put.cls ≠ "java/lang/invoke/VarHandle" ∧ (parseMethodDescriptor yX5_put.desc).map (fun d => d.parameters.length) = some 2 := by decide +kernel
theorem nd_X5_takeOut : yX5_takeOut.cls ≠ "java/lang/invoke/MethodHandle" ∧ yX5_takeOut.cls ≠ "java/lang/invoke/VarHandle" ∧ (parseMethodDescriptor yX5_takeOut.desc).map (fun d => d.parameters.length) = some 2 := by decide +kernel
theorem nd_X8_link : yX8_link.cls ≠ "java/lang/invoke/MethodHandle" ∧ yX8_link.cls ≠ "java/lang/invoke/VarHandle" ∧ (parseMethodDescriptor yX8_link.desc).map (fun d => d.parameters.length) = some 4 := by decide +kernel
theorem nd_X8_sum : yX8_sum.cls ≠ "java/lang/invoke/MethodHandle" ∧ yX8_sum.cls ≠ "java/lang/invoke/VarHandle" ∧ (parseMethodDescriptor yX8_sum.desc).map (fun d => d.parameters.length) = some 1 := by decide +kernel
theorem nd_X8_rows : yX8_rows.cls ≠ "java/lang/invoke/MethodHandle" ∧ yX8_rows.cls ≠ "java/lang/invoke/VarHandle" ∧ (parseMethodDescriptor yX8_rows.desc).map (fun d => d.parameters.length) = some 2 := by decide +kernel
theorem nd_X8_cost : yX8_cost.cls ≠ "java/lang/invoke/MethodHandle" ∧ yX8_cost.cls ≠ "java/lang/invoke/VarHandle" ∧ (parseMethodDescriptor yX8_cost.desc).map (fun d => d.parameters.length) = some 2 := by decide +kernel
theorem nd_X8_costOfText : yX8_costOfText.cls ≠ "java/lang/invoke/MethodHandle" ∧ yX8_costOfText.cls ≠ "java/lang/invoke/VarHandle" ∧ (parseMethodDescriptor yX8_costOfText.desc).map (fun d => d.parameters.length) = some 1 := by decide +kernel
theorem nd_X8_runScript : yX8_runScript.cls ≠ "java/lang/invoke/MethodHandle" ∧ yX8_runScript.cls ≠ "java/lang/invoke/VarHandle" ∧ (parseMethodDescriptor yX8_runScript.desc).map (fun d => d.parameters.length) = some 2 := by decide +kernel
theorem nd_X8_simulate : yX8_simulate.cls ≠ "java/lang/invoke/MethodHandle" ∧ yX8_simulate.cls ≠ "java/lang/invoke/VarHandle" ∧ (parseMethodDescriptor yX8_simulate.desc).map (fun d => d.parameters.length) = some 2 := by decide +kernel
theorem nd_X8_append : yX8_append.cls ≠ "java/lang/invoke/MethodHandle" ∧ yX8_append.cls ≠ "java/lang/invoke/VarHandle" ∧ (parseMethodDescriptor yX8_append.desc).map (fun d => d.parameters.length) = some 1 := by decide +kernel
theorem nd_X8_load : yX8_load.cls ≠ "java/lang/invoke/MethodHandle" ∧ yX8_load.cls ≠ "java/lang/invoke/VarHandle" ∧ (parseMethodDescriptor yX8_load.desc).map (fun d => d.parameters.length) = some 0 := by decide +kernel
theorem nd_X8_about : yX8_about.cls ≠ "java/lang/invoke/MethodHandle" ∧ yX8_about.cls ≠ "java/lang/invoke/VarHandle" ∧ (parseMethodDescriptor yX8_about.desc).map (fun d => d.parameters.length) = some 1 := by decide +kernel
theorem nd_X8_size : yX8_size.cls ≠ "java/lang/invoke/MethodHandle" ∧ yX8_size.cls ≠ "java/lang/invoke/VarHandle" ∧ (parseMethodDescriptor yX8_size.desc).map (fun d => d.parameters.length) = some 1 := by decide +kernel
theorem nd_X8_pair : yX8_pair.cls ≠ "java/lang/invoke/MethodHandle" ∧ yX8_pair.cls ≠ "java/lang/invoke/VarHandle" ∧ (parseMethodDescriptor yX8_pair.desc).map (fun d => d.parameters.length) = some 3 := by decide +kernel
theorem nd_X8_surprise : yX8_surprise.cls ≠ "java/lang/invoke/MethodHandle" ∧ yX8_surprise.cls ≠ "java/lang/invoke/VarHandle" ∧ (parseMethodDescriptor yX8_surprise.desc).map (fun d => d.parameters.length) = some 2 := by decide +kernel
theorem nd_X8_setting : yX8_setting.cls ≠ "java/lang/invoke/MethodHandle" ∧ yX8_setting.cls ≠ "java/lang/invoke/VarHandle" ∧ (parseMethodDescriptor yX8_setting.desc).map (fun d => d.parameters.length) = some 1 := by decide +kernel
theorem nd_X8_add : yX8_add.cls ≠ "java/lang/invoke/MethodHandle" ∧ yX8_add.cls ≠ "java/lang/invoke/VarHandle" ∧ (parseMethodDescriptor yX8_add.desc).map (fun d => d.parameters.length) = some 1 := by decide +kernel
theorem nd_X8_resize : yX8_resize.cls ≠ "java/lang/invoke/MethodHandle" ∧ yX8_resize.cls ≠ "java/lang/invoke/VarHandle" ∧ (parseMethodDescriptor yX8_resize.desc).map (fun d => d.parameters.length) = some 2 := by decide +kernel
theorem nd_X8_drift : yX8_drift.cls ≠ "java/lang/invoke/MethodHandle" ∧ yX8_drift.cls ≠ "java/lang/invoke/VarHandle" ∧ (parseMethodDescriptor yX8_drift.desc).map (fun d => d.parameters.length) = some 3 := by decide +kernel
theorem nd_X8_run : yX8_run.cls ≠ "java/lang/invoke/MethodHandle" ∧ yX8_run.cls ≠ "java/lang/invoke/VarHandle" ∧ (parseMethodDescriptor yX8_run.desc).map (fun d => d.parameters.length) = some 1 := by decide +kernel
theorem nd_X8_weeks : yX8_weeks.cls ≠ "java/lang/invoke/MethodHandle" ∧ yX8_weeks.cls ≠ "java/lang/invoke/VarHandle" ∧ (parseMethodDescriptor yX8_weeks.desc).map (fun d => d.parameters.length) = some 1 := by decide +kernel
theorem nd_X8_set : yX8_set.cls ≠ "java/lang/invoke/MethodHandle" ∧ yX8_set.cls ≠ "java/lang/invoke/VarHandle" ∧ (parseMethodDescriptor yX8_set.desc).map (fun d => d.parameters.length) = some 2 := by decide +kernel
theorem nd_X8_undo : yX8_undo.cls ≠ "java/lang/invoke/MethodHandle" ∧ yX8_undo.cls ≠ "java/lang/invoke/VarHandle" ∧ (parseMethodDescriptor yX8_undo.desc).map (fun d => d.parameters.length) = some 0 := by decide +kernel
theorem nd_X8_order : yX8_order.cls ≠ "java/lang/invoke/MethodHandle" ∧ yX8_order.cls ≠ "java/lang/invoke/VarHandle" ∧ (parseMethodDescriptor yX8_order.desc).map (fun d => d.parameters.length) = some 3 := by decide +kernel
theorem nd_X8_way : yX8_way.cls ≠ "java/lang/invoke/MethodHandle" ∧ yX8_way.cls ≠ "java/lang/invoke/VarHandle" ∧ (parseMethodDescriptor yX8_way.desc).map (fun d => d.parameters.length) = some 2 := by decide +kernel
theorem nd_X8_matters : yX8_matters.cls ≠ "java/lang/invoke/MethodHandle" ∧ yX8_matters.cls ≠ "java/lang/invoke/VarHandle" ∧ (parseMethodDescriptor yX8_matters.desc).map (fun d => d.parameters.length) = some 3 := by decide +kernel
theorem nd_X8_learnsIn : yX8_learnsIn.cls ≠ "java/lang/invoke/MethodHandle" ∧ yX8_learnsIn.cls ≠ "java/lang/invoke/VarHandle" ∧ (parseMethodDescriptor yX8_learnsIn.desc).map (fun d => d.parameters.length) = some 1 := by decide +kernel
theorem nd_X8_save : yX8_save.cls ≠ "java/lang/invoke/MethodHandle" ∧ yX8_save.cls ≠ "java/lang/invoke/VarHandle" ∧ (parseMethodDescriptor yX8_save.desc).map (fun d => d.parameters.length) = some 1 := by decide +kernel
theorem nd_X8_restore : yX8_restore.cls ≠ "java/lang/invoke/MethodHandle" ∧ yX8_restore.cls ≠ "java/lang/invoke/VarHandle" ∧ (parseMethodDescriptor yX8_restore.desc).map (fun d => d.parameters.length) = some 1 := by decide +kernel
theorem nd_L_tryAppend : yL_tryAppend.cls ≠ "java/lang/invoke/MethodHandle" ∧ yL_tryAppend.cls ≠ "java/lang/invoke/VarHandle" ∧ (parseMethodDescriptor yL_tryAppend.desc).map (fun d => d.parameters.length) = some 2 := by decide +kernel
theorem nd_L_tryLoad : yL_tryLoad.cls ≠ "java/lang/invoke/MethodHandle" ∧ yL_tryLoad.cls ≠ "java/lang/invoke/VarHandle" ∧ (parseMethodDescriptor yL_tryLoad.desc).map (fun d => d.parameters.length) = some 1 := by decide +kernel
theorem nd_L_tryAbout : yL_tryAbout.cls ≠ "java/lang/invoke/MethodHandle" ∧ yL_tryAbout.cls ≠ "java/lang/invoke/VarHandle" ∧ (parseMethodDescriptor yL_tryAbout.desc).map (fun d => d.parameters.length) = some 2 := by decide +kernel
theorem nd_L_trySize : yL_trySize.cls ≠ "java/lang/invoke/MethodHandle" ∧ yL_trySize.cls ≠ "java/lang/invoke/VarHandle" ∧ (parseMethodDescriptor yL_trySize.desc).map (fun d => d.parameters.length) = some 2 := by decide +kernel
theorem nd_L_tryPair : yL_tryPair.cls ≠ "java/lang/invoke/MethodHandle" ∧ yL_tryPair.cls ≠ "java/lang/invoke/VarHandle" ∧ (parseMethodDescriptor yL_tryPair.desc).map (fun d => d.parameters.length) = some 4 := by decide +kernel
theorem nd_L_trySurprise : yL_trySurprise.cls ≠ "java/lang/invoke/MethodHandle" ∧ yL_trySurprise.cls ≠ "java/lang/invoke/VarHandle" ∧ (parseMethodDescriptor yL_trySurprise.desc).map (fun d => d.parameters.length) = some 3 := by decide +kernel
theorem nd_L_trySetting : yL_trySetting.cls ≠ "java/lang/invoke/MethodHandle" ∧ yL_trySetting.cls ≠ "java/lang/invoke/VarHandle" ∧ (parseMethodDescriptor yL_trySetting.desc).map (fun d => d.parameters.length) = some 2 := by decide +kernel
theorem nd_L_tryAdd : yL_tryAdd.cls ≠ "java/lang/invoke/MethodHandle" ∧ yL_tryAdd.cls ≠ "java/lang/invoke/VarHandle" ∧ (parseMethodDescriptor yL_tryAdd.desc).map (fun d => d.parameters.length) = some 2 := by decide +kernel
theorem nd_L_tryResize : yL_tryResize.cls ≠ "java/lang/invoke/MethodHandle" ∧ yL_tryResize.cls ≠ "java/lang/invoke/VarHandle" ∧ (parseMethodDescriptor yL_tryResize.desc).map (fun d => d.parameters.length) = some 3 := by decide +kernel
theorem nd_L_tryDrift : yL_tryDrift.cls ≠ "java/lang/invoke/MethodHandle" ∧ yL_tryDrift.cls ≠ "java/lang/invoke/VarHandle" ∧ (parseMethodDescriptor yL_tryDrift.desc).map (fun d => d.parameters.length) = some 4 := by decide +kernel
theorem nd_L_tryRun : yL_tryRun.cls ≠ "java/lang/invoke/MethodHandle" ∧ yL_tryRun.cls ≠ "java/lang/invoke/VarHandle" ∧ (parseMethodDescriptor yL_tryRun.desc).map (fun d => d.parameters.length) = some 2 := by decide +kernel
theorem nd_L_tryWeeks : yL_tryWeeks.cls ≠ "java/lang/invoke/MethodHandle" ∧ yL_tryWeeks.cls ≠ "java/lang/invoke/VarHandle" ∧ (parseMethodDescriptor yL_tryWeeks.desc).map (fun d => d.parameters.length) = some 2 := by decide +kernel
theorem nd_L_trySet : yL_trySet.cls ≠ "java/lang/invoke/MethodHandle" ∧ yL_trySet.cls ≠ "java/lang/invoke/VarHandle" ∧ (parseMethodDescriptor yL_trySet.desc).map (fun d => d.parameters.length) = some 3 := by decide +kernel
theorem nd_L_tryUndo : yL_tryUndo.cls ≠ "java/lang/invoke/MethodHandle" ∧ yL_tryUndo.cls ≠ "java/lang/invoke/VarHandle" ∧ (parseMethodDescriptor yL_tryUndo.desc).map (fun d => d.parameters.length) = some 1 := by decide +kernel
theorem nd_L_tryOrder : yL_tryOrder.cls ≠ "java/lang/invoke/MethodHandle" ∧ yL_tryOrder.cls ≠ "java/lang/invoke/VarHandle" ∧ (parseMethodDescriptor yL_tryOrder.desc).map (fun d => d.parameters.length) = some 4 := by decide +kernel
theorem nd_L_tryWay : yL_tryWay.cls ≠ "java/lang/invoke/MethodHandle" ∧ yL_tryWay.cls ≠ "java/lang/invoke/VarHandle" ∧ (parseMethodDescriptor yL_tryWay.desc).map (fun d => d.parameters.length) = some 3 := by decide +kernel
theorem nd_L_tryMatters : yL_tryMatters.cls ≠ "java/lang/invoke/MethodHandle" ∧ yL_tryMatters.cls ≠ "java/lang/invoke/VarHandle" ∧ (parseMethodDescriptor yL_tryMatters.desc).map (fun d => d.parameters.length) = some 4 := by decide +kernel
theorem nd_L_tryLearns : yL_tryLearns.cls ≠ "java/lang/invoke/MethodHandle" ∧ yL_tryLearns.cls ≠ "java/lang/invoke/VarHandle" ∧ (parseMethodDescriptor yL_tryLearns.desc).map (fun d => d.parameters.length) = some 2 := by decide +kernel
theorem nd_L_tryKeep : yL_tryKeep.cls ≠ "java/lang/invoke/MethodHandle" ∧ yL_tryKeep.cls ≠ "java/lang/invoke/VarHandle" ∧ (parseMethodDescriptor yL_tryKeep.desc).map (fun d => d.parameters.length) = some 2 := by decide +kernel
theorem nd_L_tryBack : yL_tryBack.cls ≠ "java/lang/invoke/MethodHandle" ∧ yL_tryBack.cls ≠ "java/lang/invoke/VarHandle" ∧ (parseMethodDescriptor yL_tryBack.desc).map (fun d => d.parameters.length) = some 2 := by decide +kernel
theorem nd_L_call : yL_call.cls ≠ "java/lang/invoke/MethodHandle" ∧ yL_call.cls ≠ "java/lang/invoke/VarHandle" ∧ (parseMethodDescriptor yL_call.desc).map (fun d => d.parameters.length) = some 5 := by decide +kernel
theorem nd_L_tryScript : yL_tryScript.cls ≠ "java/lang/invoke/MethodHandle" ∧ yL_tryScript.cls ≠ "java/lang/invoke/VarHandle" ∧ (parseMethodDescriptor yL_tryScript.desc).map (fun d => d.parameters.length) = some 3 := by decide +kernel
theorem nd_L_trySimulate : yL_trySimulate.cls ≠ "java/lang/invoke/MethodHandle" ∧ yL_trySimulate.cls ≠ "java/lang/invoke/VarHandle" ∧ (parseMethodDescriptor yL_trySimulate.desc).map (fun d => d.parameters.length) = some 3 := by decide +kernel
theorem nd_X8_errorPosition : yX8_errorPosition.cls ≠ "java/lang/invoke/MethodHandle" ∧ yX8_errorPosition.cls ≠ "java/lang/invoke/VarHandle" ∧ (parseMethodDescriptor yX8_errorPosition.desc).map (fun d => d.parameters.length) = some 1 := by decide +kernel
theorem nd_L_tryLink : yL_tryLink.cls ≠ "java/lang/invoke/MethodHandle" ∧ yL_tryLink.cls ≠ "java/lang/invoke/VarHandle" ∧ (parseMethodDescriptor yL_tryLink.desc).map (fun d => d.parameters.length) = some 5 := by decide +kernel
theorem nd_L_tryRows : yL_tryRows.cls ≠ "java/lang/invoke/MethodHandle" ∧ yL_tryRows.cls ≠ "java/lang/invoke/VarHandle" ∧ (parseMethodDescriptor yL_tryRows.desc).map (fun d => d.parameters.length) = some 3 := by decide +kernel
theorem nd_L_tryCost : yL_tryCost.cls ≠ "java/lang/invoke/MethodHandle" ∧ yL_tryCost.cls ≠ "java/lang/invoke/VarHandle" ∧ (parseMethodDescriptor yL_tryCost.desc).map (fun d => d.parameters.length) = some 3 := by decide +kernel
theorem nd_L_tryText : yL_tryText.cls ≠ "java/lang/invoke/MethodHandle" ∧ yL_tryText.cls ≠ "java/lang/invoke/VarHandle" ∧ (parseMethodDescriptor yL_tryText.desc).map (fun d => d.parameters.length) = some 2 := by decide +kernel
theorem nd_L_trySum : yL_trySum.cls ≠ "java/lang/invoke/MethodHandle" ∧ yL_trySum.cls ≠ "java/lang/invoke/VarHandle" ∧ (parseMethodDescriptor yL_trySum.desc).map (fun d => d.parameters.length) = some 2 := by decide +kernel
theorem nd_X8_worst : yX8_worst.cls ≠ "java/lang/invoke/MethodHandle" ∧ yX8_worst.cls ≠ "java/lang/invoke/VarHandle" ∧ (parseMethodDescriptor yX8_worst.desc).map (fun d => d.parameters.length) = some 0 := by decide +kernel
theorem nd_X8_clearText : yX8_clearText.cls ≠ "java/lang/invoke/MethodHandle" ∧ yX8_clearText.cls ≠ "java/lang/invoke/VarHandle" ∧ (parseMethodDescriptor yX8_clearText.desc).map (fun d => d.parameters.length) = some 0 := by decide +kernel
theorem nd_X4_init : yX4_init.cls ≠ "java/lang/invoke/MethodHandle" ∧ yX4_init.cls ≠ "java/lang/invoke/VarHandle" ∧ (parseMethodDescriptor yX4_init.desc).map (fun d => d.parameters.length) = some 0 := by decide +kernel
theorem nd_X7_init : yX7_init.cls ≠ "java/lang/invoke/MethodHandle" ∧ yX7_init.cls ≠ "java/lang/invoke/VarHandle" ∧ (parseMethodDescriptor yX7_init.desc).map (fun d => d.parameters.length) = some 0 := by decide +kernel
theorem nd_X6_init : yX6_init.cls ≠ "java/lang/invoke/MethodHandle" ∧ yX6_init.cls ≠ "java/lang/invoke/VarHandle" ∧ (parseMethodDescriptor yX6_init.desc).map (fun d => d.parameters.length) = some 0 := by decide +kernel
theorem nd_X0_init : yX0_init.cls ≠ "java/lang/invoke/MethodHandle" ∧ yX0_init.cls ≠ "java/lang/invoke/VarHandle" ∧ (parseMethodDescriptor yX0_init.desc).map (fun d => d.parameters.length) = some 0 := by decide +kernel
theorem nd_X2_init : yX2_init.cls ≠ "java/lang/invoke/MethodHandle" ∧ yX2_init.cls ≠ "java/lang/invoke/VarHandle" ∧ (parseMethodDescriptor yX2_init.desc).map (fun d => d.parameters.length) = some 0 := by decide +kernel
theorem nd_X3_init : yX3_init.cls ≠ "java/lang/invoke/MethodHandle" ∧ yX3_init.cls ≠ "java/lang/invoke/VarHandle" ∧ (parseMethodDescriptor yX3_init.desc).map (fun d => d.parameters.length) = some 0 := by decide +kernel
theorem nd_L_cell : yL_cell.cls ≠ "java/lang/invoke/MethodHandle" ∧ yL_cell.cls ≠ "java/lang/invoke/VarHandle" ∧ (parseMethodDescriptor yL_cell.desc).map (fun d => d.parameters.length) = some 2 := by decide +kernel
theorem nd_L_refuses : yL_refuses.cls ≠ "java/lang/invoke/MethodHandle" ∧ yL_refuses.cls ≠ "java/lang/invoke/VarHandle" ∧ (parseMethodDescriptor yL_refuses.desc).map (fun d => d.parameters.length) = some 2 := by decide +kernel
theorem nd_L_act : yL_act.cls ≠ "java/lang/invoke/MethodHandle" ∧ yL_act.cls ≠ "java/lang/invoke/VarHandle" ∧ (parseMethodDescriptor yL_act.desc).map (fun d => d.parameters.length) = some 3 := by decide +kernel
theorem nd_L_alike : yL_alike.cls ≠ "java/lang/invoke/MethodHandle" ∧ yL_alike.cls ≠ "java/lang/invoke/VarHandle" ∧ (parseMethodDescriptor yL_alike.desc).map (fun d => d.parameters.length) = some 3 := by decide +kernel
theorem nd_L_holds : yL_holds.cls ≠ "java/lang/invoke/MethodHandle" ∧ yL_holds.cls ≠ "java/lang/invoke/VarHandle" ∧ (parseMethodDescriptor yL_holds.desc).map (fun d => d.parameters.length) = some 2 := by decide +kernel
section LINKS
variable {p : Program} {l : Launch} {e : Env} {R : Room} {s : State} {m : MethodId} {args : Array Value} {below : List Frame} {meth : Method} {c : Code} {H : Heap} {locs : List Loc} {cells slots : Nat} {Q : State → Prop}
variable {cc : ByteArray} {pc : Nat} {ls : Array Slot} {rest : List Value} {D : va_G} {A : Nat → Prop} {a : Nat} {tys : List (ClassId × FieldType)} {ws : va_W} {H0 : Heap}
theorem gf_X0_15 (hx : p.tables.exec = Jvm.exec) (hb : c.code = cc) (hqs : ∀ w ∈ TB, w.before args s = true) (hown : s.vm.findClass RX0 = some m.cls) (hK : va_K D vwCl tys s) (hP : va_P D vwCl ws H) (q0 : Nat) {fs : List Value} (he : ws[q0]? = some (a, .inr (0, fs))) {v : Value} (hv : fs[4]? = some v) (hdg : decode cc pc = .ok (.getfield 15, 3)) (kk : W p l e R s m args below meth c H locs cells slots Q (F0 m (pc + 3) ls (v :: rest))) : W p l e R s m args below meth c H locs cells slots Q (F0 m pc ls (.ref a :: rest)) :=
  va_get (D := D) (ci := 0) (v := v) (C := RX0) (T := TX0) (N := 5) hx hb hqs inX0 hown hK hP q0 he rfl 4 (by decide) (hqs _ w_89) (fun _ h9 => h9) hv hdg kk
theorem gf_X0_19 (hx : p.tables.exec = Jvm.exec) (hb : c.code = cc) (hqs : ∀ w ∈ TB, w.before args s = true) (hown : s.vm.findClass RX0 = some m.cls) (hK : va_K D vwCl tys s) (hP : va_P D vwCl ws H) (q0 : Nat) {fs : List Value} (he : ws[q0]? = some (a, .inr (0, fs))) {v : Value} (hv : fs[0]? = some v) (hdg : decode cc pc = .ok (.getfield 19, 3)) (kk : W p l e R s m args below meth c H locs cells slots Q (F0 m (pc + 3) ls (v :: rest))) : W p l e R s m args below meth c H locs cells slots Q (F0 m pc ls (.ref a :: rest)) :=
  va_get (D := D) (ci := 0) (v := v) (C := RX0) (T := TX0) (N := 5) hx hb hqs inX0 hown hK hP q0 he rfl 0 (by decide) (hqs _ w_82) (fun _ h9 => h9) hv hdg kk
theorem gf_X0_25 (hx : p.tables.exec = Jvm.exec) (hb : c.code = cc) (hqs : ∀ w ∈ TB, w.before args s = true) (hown : s.vm.findClass RX0 = some m.cls) (hK : va_K D vwCl tys s) (hP : va_P D vwCl ws H) (q0 : Nat) {fs : List Value} (he : ws[q0]? = some (a, .inr (0, fs))) {v : Value} (hv : fs[1]? = some v) (hdg : decode cc pc = .ok (.getfield 25, 3)) (kk : W p l e R s m args below meth c H locs cells slots Q (F0 m (pc + 3) ls (v :: rest))) : W p l e R s m args below meth c H locs cells slots Q (F0 m pc ls (.ref a :: rest)) :=
  va_get (D := D) (ci := 0) (v := v) (C := RX0) (T := TX0) (N := 5) hx hb hqs inX0 hown hK hP q0 he rfl 1 (by decide) (hqs _ w_83) (fun _ h9 => h9) hv hdg kk
theorem gf_X0_32 (hx : p.tables.exec = Jvm.exec) (hb : c.code = cc) (hqs : ∀ w ∈ TB, w.before args s = true) (hown : s.vm.findClass RX0 = some m.cls) (hK : va_K D vwCl tys s) (hP : va_P D vwCl ws H) (q0 : Nat) {fs : List Value} (he : ws[q0]? = some (a, .inr (0, fs))) {v : Value} (hv : fs[2]? = some v) (hdg : decode cc pc = .ok (.getfield 32, 3)) (kk : W p l e R s m args below meth c H locs cells slots Q (F0 m (pc + 3) ls (v :: rest))) : W p l e R s m args below meth c H locs cells slots Q (F0 m pc ls (.ref a :: rest)) :=
  va_get (D := D) (ci := 0) (v := v) (C := RX0) (T := TX0) (N := 5) hx hb hqs inX0 hown hK hP q0 he rfl 2 (by decide) (hqs _ w_85) (fun _ h9 => h9) hv hdg kk
theorem gf_X1_18 (hx : p.tables.exec = Jvm.exec) (hb : c.code = cc) (hqs : ∀ w ∈ TB, w.before args s = true) (hown : s.vm.findClass RX1 = some m.cls) (hK : va_K D vwCl tys s) (hP : va_P D vwCl ws H) (q0 : Nat) {fs : List Value} (he : ws[q0]? = some (a, .inr (1, fs))) {v : Value} (hv : fs[1]? = some v) (hdg : decode cc pc = .ok (.getfield 18, 3)) (kk : W p l e R s m args below meth c H locs cells slots Q (F0 m (pc + 3) ls (v :: rest))) : W p l e R s m args below meth c H locs cells slots Q (F0 m pc ls (.ref a :: rest)) :=
  va_get (D := D) (ci := 1) (v := v) (C := RX1) (T := TX1) (N := 3) hx hb hqs inX1 hown hK hP q0 he rfl 1 (by decide) (hqs _ w_192) (fun _ h9 => h9) hv hdg kk
theorem gf_X1_22 (hx : p.tables.exec = Jvm.exec) (hb : c.code = cc) (hqs : ∀ w ∈ TB, w.before args s = true) (hown : s.vm.findClass RX1 = some m.cls) (hK : va_K D vwCl tys s) (hP : va_P D vwCl ws H) (q0 : Nat) {fs : List Value} (he : ws[q0]? = some (a, .inr (1, fs))) {v : Value} (hv : fs[2]? = some v) (hdg : decode cc pc = .ok (.getfield 22, 3)) (kk : W p l e R s m args below meth c H locs cells slots Q (F0 m (pc + 3) ls (v :: rest))) : W p l e R s m args below meth c H locs cells slots Q (F0 m pc ls (.ref a :: rest)) :=
  va_get (D := D) (ci := 1) (v := v) (C := RX1) (T := TX1) (N := 3) hx hb hqs inX1 hown hK hP q0 he rfl 2 (by decide) (hqs _ w_193) (fun _ h9 => h9) hv hdg kk
theorem gf_X1_11 (hx : p.tables.exec = Jvm.exec) (hb : c.code = cc) (hqs : ∀ w ∈ TB, w.before args s = true) (hown : s.vm.findClass RX1 = some m.cls) (hK : va_K D vwCl tys s) (hP : va_P D vwCl ws H) (q0 : Nat) {fs : List Value} (he : ws[q0]? = some (a, .inr (1, fs))) {v : Value} (hv : fs[0]? = some v) (hdg : decode cc pc = .ok (.getfield 11, 3)) (kk : W p l e R s m args below meth c H locs cells slots Q (F0 m (pc + 3) ls (v :: rest))) : W p l e R s m args below meth c H locs cells slots Q (F0 m pc ls (.ref a :: rest)) :=
  va_get (D := D) (ci := 1) (v := v) (C := RX1) (T := TX1) (N := 3) hx hb hqs inX1 hown hK hP q0 he rfl 0 (by decide) (hqs _ w_191) (fun _ h9 => h9) hv hdg kk
theorem gf_X7_48 (hx : p.tables.exec = Jvm.exec) (hb : c.code = cc) (hqs : ∀ w ∈ TB, w.before args s = true) (hown : s.vm.findClass RX7 = some m.cls) (hK : va_K D vwCl tys s) (hP : va_P D vwCl ws H) (q0 : Nat) {fs : List Value} (he : ws[q0]? = some (a, .inr (6, fs))) {v : Value} (hv : fs[0]? = some v) (hdg : decode cc pc = .ok (.getfield 48, 3)) (kk : W p l e R s m args below meth c H locs cells slots Q (F0 m (pc + 3) ls (v :: rest))) : W p l e R s m args below meth c H locs cells slots Q (F0 m pc ls (.ref a :: rest)) :=
  va_get (D := D) (ci := 6) (v := v) (C := RX7) (T := TX7) (N := 13) hx hb hqs inX7 hown hK hP q0 he rfl 0 (by decide) (hqs _ w_138) (fun _ h9 => h9) hv hdg kk
theorem gf_X7_52 (hx : p.tables.exec = Jvm.exec) (hb : c.code = cc) (hqs : ∀ w ∈ TB, w.before args s = true) (hown : s.vm.findClass RX7 = some m.cls) (hK : va_K D vwCl tys s) (hP : va_P D vwCl ws H) (q0 : Nat) {fs : List Value} (he : ws[q0]? = some (a, .inr (6, fs))) {v : Value} (hv : fs[1]? = some v) (hdg : decode cc pc = .ok (.getfield 52, 3)) (kk : W p l e R s m args below meth c H locs cells slots Q (F0 m (pc + 3) ls (v :: rest))) : W p l e R s m args below meth c H locs cells slots Q (F0 m pc ls (.ref a :: rest)) :=
  va_get (D := D) (ci := 6) (v := v) (C := RX7) (T := TX7) (N := 13) hx hb hqs inX7 hown hK hP q0 he rfl 1 (by decide) (hqs _ w_140) (fun _ h9 => h9) hv hdg kk
theorem gf_X7_55 (hx : p.tables.exec = Jvm.exec) (hb : c.code = cc) (hqs : ∀ w ∈ TB, w.before args s = true) (hown : s.vm.findClass RX7 = some m.cls) (hK : va_K D vwCl tys s) (hP : va_P D vwCl ws H) (q0 : Nat) {fs : List Value} (he : ws[q0]? = some (a, .inr (6, fs))) {v : Value} (hv : fs[2]? = some v) (hdg : decode cc pc = .ok (.getfield 55, 3)) (kk : W p l e R s m args below meth c H locs cells slots Q (F0 m (pc + 3) ls (v :: rest))) : W p l e R s m args below meth c H locs cells slots Q (F0 m pc ls (.ref a :: rest)) :=
  va_get (D := D) (ci := 6) (v := v) (C := RX7) (T := TX7) (N := 13) hx hb hqs inX7 hown hK hP q0 he rfl 2 (by decide) (hqs _ w_142) (fun _ h9 => h9) hv hdg kk
theorem gf_X7_58 (hx : p.tables.exec = Jvm.exec) (hb : c.code = cc) (hqs : ∀ w ∈ TB, w.before args s = true) (hown : s.vm.findClass RX7 = some m.cls) (hK : va_K D vwCl tys s) (hP : va_P D vwCl ws H) (q0 : Nat) {fs : List Value} (he : ws[q0]? = some (a, .inr (6, fs))) {v : Value} (hv : fs[3]? = some v) (hdg : decode cc pc = .ok (.getfield 58, 3)) (kk : W p l e R s m args below meth c H locs cells slots Q (F0 m (pc + 3) ls (v :: rest))) : W p l e R s m args below meth c H locs cells slots Q (F0 m pc ls (.ref a :: rest)) :=
  va_get (D := D) (ci := 6) (v := v) (C := RX7) (T := TX7) (N := 13) hx hb hqs inX7 hown hK hP q0 he rfl 3 (by decide) (hqs _ w_143) (fun _ h9 => h9) hv hdg kk
theorem gf_X7_9 (hx : p.tables.exec = Jvm.exec) (hb : c.code = cc) (hqs : ∀ w ∈ TB, w.before args s = true) (hown : s.vm.findClass RX7 = some m.cls) (hK : va_K D vwCl tys s) (hP : va_P D vwCl ws H) (q0 : Nat) {fs : List Value} (he : ws[q0]? = some (a, .inr (6, fs))) {v : Value} (hv : fs[4]? = some v) (hdg : decode cc pc = .ok (.getfield 9, 3)) (kk : W p l e R s m args below meth c H locs cells slots Q (F0 m (pc + 3) ls (v :: rest))) : W p l e R s m args below meth c H locs cells slots Q (F0 m pc ls (.ref a :: rest)) :=
  va_get (D := D) (ci := 6) (v := v) (C := RX7) (T := TX7) (N := 13) hx hb hqs inX7 hown hK hP q0 he rfl 4 (by decide) (hqs _ w_145) (fun _ h9 => h9) hv hdg kk
theorem gf_X7_24 (hx : p.tables.exec = Jvm.exec) (hb : c.code = cc) (hqs : ∀ w ∈ TB, w.before args s = true) (hown : s.vm.findClass RX7 = some m.cls) (hK : va_K D vwCl tys s) (hP : va_P D vwCl ws H) (q0 : Nat) {fs : List Value} (he : ws[q0]? = some (a, .inr (6, fs))) {v : Value} (hv : fs[5]? = some v) (hdg : decode cc pc = .ok (.getfield 24, 3)) (kk : W p l e R s m args below meth c H locs cells slots Q (F0 m (pc + 3) ls (v :: rest))) : W p l e R s m args below meth c H locs cells slots Q (F0 m pc ls (.ref a :: rest)) :=
  va_get (D := D) (ci := 6) (v := v) (C := RX7) (T := TX7) (N := 13) hx hb hqs inX7 hown hK hP q0 he rfl 5 (by decide) (hqs _ w_146) (fun _ h9 => h9) hv hdg kk
theorem gf_X7_27 (hx : p.tables.exec = Jvm.exec) (hb : c.code = cc) (hqs : ∀ w ∈ TB, w.before args s = true) (hown : s.vm.findClass RX7 = some m.cls) (hK : va_K D vwCl tys s) (hP : va_P D vwCl ws H) (q0 : Nat) {fs : List Value} (he : ws[q0]? = some (a, .inr (6, fs))) {v : Value} (hv : fs[6]? = some v) (hdg : decode cc pc = .ok (.getfield 27, 3)) (kk : W p l e R s m args below meth c H locs cells slots Q (F0 m (pc + 3) ls (v :: rest))) : W p l e R s m args below meth c H locs cells slots Q (F0 m pc ls (.ref a :: rest)) :=
  va_get (D := D) (ci := 6) (v := v) (C := RX7) (T := TX7) (N := 13) hx hb hqs inX7 hown hK hP q0 he rfl 6 (by decide) (hqs _ w_147) (fun _ h9 => h9) hv hdg kk
theorem gf_X7_30 (hx : p.tables.exec = Jvm.exec) (hb : c.code = cc) (hqs : ∀ w ∈ TB, w.before args s = true) (hown : s.vm.findClass RX7 = some m.cls) (hK : va_K D vwCl tys s) (hP : va_P D vwCl ws H) (q0 : Nat) {fs : List Value} (he : ws[q0]? = some (a, .inr (6, fs))) {v : Value} (hv : fs[7]? = some v) (hdg : decode cc pc = .ok (.getfield 30, 3)) (kk : W p l e R s m args below meth c H locs cells slots Q (F0 m (pc + 3) ls (v :: rest))) : W p l e R s m args below meth c H locs cells slots Q (F0 m pc ls (.ref a :: rest)) :=
  va_get (D := D) (ci := 6) (v := v) (C := RX7) (T := TX7) (N := 13) hx hb hqs inX7 hown hK hP q0 he rfl 7 (by decide) (hqs _ w_148) (fun _ h9 => h9) hv hdg kk
theorem gf_X7_33 (hx : p.tables.exec = Jvm.exec) (hb : c.code = cc) (hqs : ∀ w ∈ TB, w.before args s = true) (hown : s.vm.findClass RX7 = some m.cls) (hK : va_K D vwCl tys s) (hP : va_P D vwCl ws H) (q0 : Nat) {fs : List Value} (he : ws[q0]? = some (a, .inr (6, fs))) {v : Value} (hv : fs[8]? = some v) (hdg : decode cc pc = .ok (.getfield 33, 3)) (kk : W p l e R s m args below meth c H locs cells slots Q (F0 m (pc + 3) ls (v :: rest))) : W p l e R s m args below meth c H locs cells slots Q (F0 m pc ls (.ref a :: rest)) :=
  va_get (D := D) (ci := 6) (v := v) (C := RX7) (T := TX7) (N := 13) hx hb hqs inX7 hown hK hP q0 he rfl 8 (by decide) (hqs _ w_149) (fun _ h9 => h9) hv hdg kk
theorem gf_X7_36 (hx : p.tables.exec = Jvm.exec) (hb : c.code = cc) (hqs : ∀ w ∈ TB, w.before args s = true) (hown : s.vm.findClass RX7 = some m.cls) (hK : va_K D vwCl tys s) (hP : va_P D vwCl ws H) (q0 : Nat) {fs : List Value} (he : ws[q0]? = some (a, .inr (6, fs))) {v : Value} (hv : fs[9]? = some v) (hdg : decode cc pc = .ok (.getfield 36, 3)) (kk : W p l e R s m args below meth c H locs cells slots Q (F0 m (pc + 3) ls (v :: rest))) : W p l e R s m args below meth c H locs cells slots Q (F0 m pc ls (.ref a :: rest)) :=
  va_get (D := D) (ci := 6) (v := v) (C := RX7) (T := TX7) (N := 13) hx hb hqs inX7 hown hK hP q0 he rfl 9 (by decide) (hqs _ w_150) (fun _ h9 => h9) hv hdg kk
theorem gf_X7_39 (hx : p.tables.exec = Jvm.exec) (hb : c.code = cc) (hqs : ∀ w ∈ TB, w.before args s = true) (hown : s.vm.findClass RX7 = some m.cls) (hK : va_K D vwCl tys s) (hP : va_P D vwCl ws H) (q0 : Nat) {fs : List Value} (he : ws[q0]? = some (a, .inr (6, fs))) {v : Value} (hv : fs[10]? = some v) (hdg : decode cc pc = .ok (.getfield 39, 3)) (kk : W p l e R s m args below meth c H locs cells slots Q (F0 m (pc + 3) ls (v :: rest))) : W p l e R s m args below meth c H locs cells slots Q (F0 m pc ls (.ref a :: rest)) :=
  va_get (D := D) (ci := 6) (v := v) (C := RX7) (T := TX7) (N := 13) hx hb hqs inX7 hown hK hP q0 he rfl 10 (by decide) (hqs _ w_151) (fun _ h9 => h9) hv hdg kk
theorem gf_X7_42 (hx : p.tables.exec = Jvm.exec) (hb : c.code = cc) (hqs : ∀ w ∈ TB, w.before args s = true) (hown : s.vm.findClass RX7 = some m.cls) (hK : va_K D vwCl tys s) (hP : va_P D vwCl ws H) (q0 : Nat) {fs : List Value} (he : ws[q0]? = some (a, .inr (6, fs))) {v : Value} (hv : fs[11]? = some v) (hdg : decode cc pc = .ok (.getfield 42, 3)) (kk : W p l e R s m args below meth c H locs cells slots Q (F0 m (pc + 3) ls (v :: rest))) : W p l e R s m args below meth c H locs cells slots Q (F0 m pc ls (.ref a :: rest)) :=
  va_get (D := D) (ci := 6) (v := v) (C := RX7) (T := TX7) (N := 13) hx hb hqs inX7 hown hK hP q0 he rfl 11 (by decide) (hqs _ w_152) (fun _ h9 => h9) hv hdg kk
theorem gf_X7_45 (hx : p.tables.exec = Jvm.exec) (hb : c.code = cc) (hqs : ∀ w ∈ TB, w.before args s = true) (hown : s.vm.findClass RX7 = some m.cls) (hK : va_K D vwCl tys s) (hP : va_P D vwCl ws H) (q0 : Nat) {fs : List Value} (he : ws[q0]? = some (a, .inr (6, fs))) {v : Value} (hv : fs[12]? = some v) (hdg : decode cc pc = .ok (.getfield 45, 3)) (kk : W p l e R s m args below meth c H locs cells slots Q (F0 m (pc + 3) ls (v :: rest))) : W p l e R s m args below meth c H locs cells slots Q (F0 m pc ls (.ref a :: rest)) :=
  va_get (D := D) (ci := 6) (v := v) (C := RX7) (T := TX7) (N := 13) hx hb hqs inX7 hown hK hP q0 he rfl 12 (by decide) (hqs _ w_153) (fun _ h9 => h9) hv hdg kk
theorem gf_X2_22 (hx : p.tables.exec = Jvm.exec) (hb : c.code = cc) (hqs : ∀ w ∈ TB, w.before args s = true) (hown : s.vm.findClass RX2 = some m.cls) (hK : va_K D vwCl tys s) (hP : va_P D vwCl ws H) (q0 : Nat) {fs : List Value} (he : ws[q0]? = some (a, .inr (2, fs))) {v : Value} (hv : fs[2]? = some v) (hdg : decode cc pc = .ok (.getfield 22, 3)) (kk : W p l e R s m args below meth c H locs cells slots Q (F0 m (pc + 3) ls (v :: rest))) : W p l e R s m args below meth c H locs cells slots Q (F0 m pc ls (.ref a :: rest)) :=
  va_get (D := D) (ci := 2) (v := v) (C := RX2) (T := TX2) (N := 4) hx hb hqs inX2 hown hK hP q0 he rfl 2 (by decide) (hqs _ w_111) (fun _ h9 => h9) hv hdg kk
theorem gf_X2_19 (hx : p.tables.exec = Jvm.exec) (hb : c.code = cc) (hqs : ∀ w ∈ TB, w.before args s = true) (hown : s.vm.findClass RX2 = some m.cls) (hK : va_K D vwCl tys s) (hP : va_P D vwCl ws H) (q0 : Nat) {fs : List Value} (he : ws[q0]? = some (a, .inr (2, fs))) {v : Value} (hv : fs[1]? = some v) (hdg : decode cc pc = .ok (.getfield 19, 3)) (kk : W p l e R s m args below meth c H locs cells slots Q (F0 m (pc + 3) ls (v :: rest))) : W p l e R s m args below meth c H locs cells slots Q (F0 m pc ls (.ref a :: rest)) :=
  va_get (D := D) (ci := 2) (v := v) (C := RX2) (T := TX2) (N := 4) hx hb hqs inX2 hown hK hP q0 he rfl 1 (by decide) (hqs _ w_110) (fun _ h9 => h9) hv hdg kk
theorem gf_X2_15 (hx : p.tables.exec = Jvm.exec) (hb : c.code = cc) (hqs : ∀ w ∈ TB, w.before args s = true) (hown : s.vm.findClass RX2 = some m.cls) (hK : va_K D vwCl tys s) (hP : va_P D vwCl ws H) (q0 : Nat) {fs : List Value} (he : ws[q0]? = some (a, .inr (2, fs))) {v : Value} (hv : fs[0]? = some v) (hdg : decode cc pc = .ok (.getfield 15, 3)) (kk : W p l e R s m args below meth c H locs cells slots Q (F0 m (pc + 3) ls (v :: rest))) : W p l e R s m args below meth c H locs cells slots Q (F0 m pc ls (.ref a :: rest)) :=
  va_get (D := D) (ci := 2) (v := v) (C := RX2) (T := TX2) (N := 4) hx hb hqs inX2 hown hK hP q0 he rfl 0 (by decide) (hqs _ w_108) (fun _ h9 => h9) hv hdg kk
theorem gf_X2_9 (hx : p.tables.exec = Jvm.exec) (hb : c.code = cc) (hqs : ∀ w ∈ TB, w.before args s = true) (hown : s.vm.findClass RX2 = some m.cls) (hK : va_K D vwCl tys s) (hP : va_P D vwCl ws H) (q0 : Nat) {fs : List Value} (he : ws[q0]? = some (a, .inr (2, fs))) {v : Value} (hv : fs[3]? = some v) (hdg : decode cc pc = .ok (.getfield 9, 3)) (kk : W p l e R s m args below meth c H locs cells slots Q (F0 m (pc + 3) ls (v :: rest))) : W p l e R s m args below meth c H locs cells slots Q (F0 m pc ls (.ref a :: rest)) :=
  va_get (D := D) (ci := 2) (v := v) (C := RX2) (T := TX2) (N := 4) hx hb hqs inX2 hown hK hP q0 he rfl 3 (by decide) (hqs _ w_112) (fun _ h9 => h9) hv hdg kk
theorem gf_X3_9 (hx : p.tables.exec = Jvm.exec) (hb : c.code = cc) (hqs : ∀ w ∈ TB, w.before args s = true) (hown : s.vm.findClass RX3 = some m.cls) (hK : va_K D vwCl tys s) (hP : va_P D vwCl ws H) (q0 : Nat) {fs : List Value} (he : ws[q0]? = some (a, .inr (3, fs))) {v : Value} (hv : fs[0]? = some v) (hdg : decode cc pc = .ok (.getfield 9, 3)) (kk : W p l e R s m args below meth c H locs cells slots Q (F0 m (pc + 3) ls (v :: rest))) : W p l e R s m args below meth c H locs cells slots Q (F0 m pc ls (.ref a :: rest)) :=
  va_get (D := D) (ci := 3) (v := v) (C := RX3) (T := TX3) (N := 9) hx hb hqs inX3 hown hK hP q0 he rfl 0 (by decide) (hqs _ w_223) (fun _ h9 => h9) hv hdg kk
theorem gf_X3_18 (hx : p.tables.exec = Jvm.exec) (hb : c.code = cc) (hqs : ∀ w ∈ TB, w.before args s = true) (hown : s.vm.findClass RX3 = some m.cls) (hK : va_K D vwCl tys s) (hP : va_P D vwCl ws H) (q0 : Nat) {fs : List Value} (he : ws[q0]? = some (a, .inr (3, fs))) {v : Value} (hv : fs[2]? = some v) (hdg : decode cc pc = .ok (.getfield 18, 3)) (kk : W p l e R s m args below meth c H locs cells slots Q (F0 m (pc + 3) ls (v :: rest))) : W p l e R s m args below meth c H locs cells slots Q (F0 m pc ls (.ref a :: rest)) :=
  va_get (D := D) (ci := 3) (v := v) (C := RX3) (T := TX3) (N := 9) hx hb hqs inX3 hown hK hP q0 he rfl 2 (by decide) (hqs _ w_225) (fun _ h9 => h9) hv hdg kk
theorem gf_X3_15 (hx : p.tables.exec = Jvm.exec) (hb : c.code = cc) (hqs : ∀ w ∈ TB, w.before args s = true) (hown : s.vm.findClass RX3 = some m.cls) (hK : va_K D vwCl tys s) (hP : va_P D vwCl ws H) (q0 : Nat) {fs : List Value} (he : ws[q0]? = some (a, .inr (3, fs))) {v : Value} (hv : fs[1]? = some v) (hdg : decode cc pc = .ok (.getfield 15, 3)) (kk : W p l e R s m args below meth c H locs cells slots Q (F0 m (pc + 3) ls (v :: rest))) : W p l e R s m args below meth c H locs cells slots Q (F0 m pc ls (.ref a :: rest)) :=
  va_get (D := D) (ci := 3) (v := v) (C := RX3) (T := TX3) (N := 9) hx hb hqs inX3 hown hK hP q0 he rfl 1 (by decide) (hqs _ w_224) (fun _ h9 => h9) hv hdg kk
theorem gf_X3_34 (hx : p.tables.exec = Jvm.exec) (hb : c.code = cc) (hqs : ∀ w ∈ TB, w.before args s = true) (hown : s.vm.findClass RX3 = some m.cls) (hK : va_K D vwCl tys s) (hP : va_P D vwCl ws H) (q0 : Nat) {fs : List Value} (he : ws[q0]? = some (a, .inr (3, fs))) {v : Value} (hv : fs[7]? = some v) (hdg : decode cc pc = .ok (.getfield 34, 3)) (kk : W p l e R s m args below meth c H locs cells slots Q (F0 m (pc + 3) ls (v :: rest))) : W p l e R s m args below meth c H locs cells slots Q (F0 m pc ls (.ref a :: rest)) :=
  va_get (D := D) (ci := 3) (v := v) (C := RX3) (T := TX3) (N := 9) hx hb hqs inX3 hown hK hP q0 he rfl 7 (by decide) (hqs _ w_230) (fun _ h9 => h9) hv hdg kk
theorem gf_X3_22 (hx : p.tables.exec = Jvm.exec) (hb : c.code = cc) (hqs : ∀ w ∈ TB, w.before args s = true) (hown : s.vm.findClass RX3 = some m.cls) (hK : va_K D vwCl tys s) (hP : va_P D vwCl ws H) (q0 : Nat) {fs : List Value} (he : ws[q0]? = some (a, .inr (3, fs))) {v : Value} (hv : fs[3]? = some v) (hdg : decode cc pc = .ok (.getfield 22, 3)) (kk : W p l e R s m args below meth c H locs cells slots Q (F0 m (pc + 3) ls (v :: rest))) : W p l e R s m args below meth c H locs cells slots Q (F0 m pc ls (.ref a :: rest)) :=
  va_get (D := D) (ci := 3) (v := v) (C := RX3) (T := TX3) (N := 9) hx hb hqs inX3 hown hK hP q0 he rfl 3 (by decide) (hqs _ w_226) (fun _ h9 => h9) hv hdg kk
theorem gf_X3_25 (hx : p.tables.exec = Jvm.exec) (hb : c.code = cc) (hqs : ∀ w ∈ TB, w.before args s = true) (hown : s.vm.findClass RX3 = some m.cls) (hK : va_K D vwCl tys s) (hP : va_P D vwCl ws H) (q0 : Nat) {fs : List Value} (he : ws[q0]? = some (a, .inr (3, fs))) {v : Value} (hv : fs[4]? = some v) (hdg : decode cc pc = .ok (.getfield 25, 3)) (kk : W p l e R s m args below meth c H locs cells slots Q (F0 m (pc + 3) ls (v :: rest))) : W p l e R s m args below meth c H locs cells slots Q (F0 m pc ls (.ref a :: rest)) :=
  va_get (D := D) (ci := 3) (v := v) (C := RX3) (T := TX3) (N := 9) hx hb hqs inX3 hown hK hP q0 he rfl 4 (by decide) (hqs _ w_227) (fun _ h9 => h9) hv hdg kk
theorem gf_X3_28 (hx : p.tables.exec = Jvm.exec) (hb : c.code = cc) (hqs : ∀ w ∈ TB, w.before args s = true) (hown : s.vm.findClass RX3 = some m.cls) (hK : va_K D vwCl tys s) (hP : va_P D vwCl ws H) (q0 : Nat) {fs : List Value} (he : ws[q0]? = some (a, .inr (3, fs))) {v : Value} (hv : fs[5]? = some v) (hdg : decode cc pc = .ok (.getfield 28, 3)) (kk : W p l e R s m args below meth c H locs cells slots Q (F0 m (pc + 3) ls (v :: rest))) : W p l e R s m args below meth c H locs cells slots Q (F0 m pc ls (.ref a :: rest)) :=
  va_get (D := D) (ci := 3) (v := v) (C := RX3) (T := TX3) (N := 9) hx hb hqs inX3 hown hK hP q0 he rfl 5 (by decide) (hqs _ w_228) (fun _ h9 => h9) hv hdg kk
theorem gf_X3_31 (hx : p.tables.exec = Jvm.exec) (hb : c.code = cc) (hqs : ∀ w ∈ TB, w.before args s = true) (hown : s.vm.findClass RX3 = some m.cls) (hK : va_K D vwCl tys s) (hP : va_P D vwCl ws H) (q0 : Nat) {fs : List Value} (he : ws[q0]? = some (a, .inr (3, fs))) {v : Value} (hv : fs[6]? = some v) (hdg : decode cc pc = .ok (.getfield 31, 3)) (kk : W p l e R s m args below meth c H locs cells slots Q (F0 m (pc + 3) ls (v :: rest))) : W p l e R s m args below meth c H locs cells slots Q (F0 m pc ls (.ref a :: rest)) :=
  va_get (D := D) (ci := 3) (v := v) (C := RX3) (T := TX3) (N := 9) hx hb hqs inX3 hown hK hP q0 he rfl 6 (by decide) (hqs _ w_229) (fun _ h9 => h9) hv hdg kk
theorem gf_X3_38 (hx : p.tables.exec = Jvm.exec) (hb : c.code = cc) (hqs : ∀ w ∈ TB, w.before args s = true) (hown : s.vm.findClass RX3 = some m.cls) (hK : va_K D vwCl tys s) (hP : va_P D vwCl ws H) (q0 : Nat) {fs : List Value} (he : ws[q0]? = some (a, .inr (3, fs))) {v : Value} (hv : fs[8]? = some v) (hdg : decode cc pc = .ok (.getfield 38, 3)) (kk : W p l e R s m args below meth c H locs cells slots Q (F0 m (pc + 3) ls (v :: rest))) : W p l e R s m args below meth c H locs cells slots Q (F0 m pc ls (.ref a :: rest)) :=
  va_get (D := D) (ci := 3) (v := v) (C := RX3) (T := TX3) (N := 9) hx hb hqs inX3 hown hK hP q0 he rfl 8 (by decide) (hqs _ w_231) (fun _ h9 => h9) hv hdg kk
theorem gf_X3_95 (hx : p.tables.exec = Jvm.exec) (hb : c.code = cc) (hqs : ∀ w ∈ TB, w.before args s = true) (hown : s.vm.findClass RX3 = some m.cls) (hK : va_K D vwCl tys s) (hP : va_P D vwCl ws H) (q0 : Nat) {fs : List Value} (he : ws[q0]? = some (a, .inr (2, fs))) {v : Value} (hv : fs[0]? = some v) (hdg : decode cc pc = .ok (.getfield 95, 3)) (kk : W p l e R s m args below meth c H locs cells slots Q (F0 m (pc + 3) ls (v :: rest))) : W p l e R s m args below meth c H locs cells slots Q (F0 m pc ls (.ref a :: rest)) :=
  va_get (D := D) (ci := 2) (v := v) (C := RX2) (T := TX2) (N := 4) hx hb hqs inX2 hown hK hP q0 he rfl 0 (by decide) (hqs _ w_109) (fun _ h9 => h9) hv hdg kk
theorem gf_X5_17 (hx : p.tables.exec = Jvm.exec) (hb : c.code = cc) (hqs : ∀ w ∈ TB, w.before args s = true) (hown : s.vm.findClass RX5 = some m.cls) (hK : va_K D vwCl tys s) (hP : va_P D vwCl ws H) (q0 : Nat) {fs : List Value} (he : ws[q0]? = some (a, .inr (4, fs))) {v : Value} (hv : fs[1]? = some v) (hdg : decode cc pc = .ok (.getfield 17, 3)) (kk : W p l e R s m args below meth c H locs cells slots Q (F0 m (pc + 3) ls (v :: rest))) : W p l e R s m args below meth c H locs cells slots Q (F0 m pc ls (.ref a :: rest)) :=
  va_get (D := D) (ci := 4) (v := v) (C := RX5) (T := TX5) (N := 2) hx hb hqs inX5 hown hK hP q0 he rfl 1 (by decide) (hqs _ w_210) (fun _ h9 => h9) hv hdg kk
theorem gf_X5_11 (hx : p.tables.exec = Jvm.exec) (hb : c.code = cc) (hqs : ∀ w ∈ TB, w.before args s = true) (hown : s.vm.findClass RX5 = some m.cls) (hK : va_K D vwCl tys s) (hP : va_P D vwCl ws H) (q0 : Nat) {fs : List Value} (he : ws[q0]? = some (a, .inr (4, fs))) {v : Value} (hv : fs[0]? = some v) (hdg : decode cc pc = .ok (.getfield 11, 3)) (kk : W p l e R s m args below meth c H locs cells slots Q (F0 m (pc + 3) ls (v :: rest))) : W p l e R s m args below meth c H locs cells slots Q (F0 m pc ls (.ref a :: rest)) :=
  va_get (D := D) (ci := 4) (v := v) (C := RX5) (T := TX5) (N := 2) hx hb hqs inX5 hown hK hP q0 he rfl 0 (by decide) (hqs _ w_209) (fun _ h9 => h9) hv hdg kk
theorem gf_X6_15 (hx : p.tables.exec = Jvm.exec) (hb : c.code = cc) (hqs : ∀ w ∈ TB, w.before args s = true) (hown : s.vm.findClass RX6 = some m.cls) (hK : va_K D vwCl tys s) (hP : va_P D vwCl ws H) (q0 : Nat) {fs : List Value} (he : ws[q0]? = some (a, .inr (5, fs))) {v : Value} (hv : fs[0]? = some v) (hdg : decode cc pc = .ok (.getfield 15, 3)) (kk : W p l e R s m args below meth c H locs cells slots Q (F0 m (pc + 3) ls (v :: rest))) : W p l e R s m args below meth c H locs cells slots Q (F0 m pc ls (.ref a :: rest)) :=
  va_get (D := D) (ci := 5) (v := v) (C := RX6) (T := TX6) (N := 2) hx hb hqs inX6 hown hK hP q0 he rfl 0 (by decide) (hqs _ w_64) (fun _ h9 => h9) hv hdg kk
theorem gf_X6_9 (hx : p.tables.exec = Jvm.exec) (hb : c.code = cc) (hqs : ∀ w ∈ TB, w.before args s = true) (hown : s.vm.findClass RX6 = some m.cls) (hK : va_K D vwCl tys s) (hP : va_P D vwCl ws H) (q0 : Nat) {fs : List Value} (he : ws[q0]? = some (a, .inr (5, fs))) {v : Value} (hv : fs[1]? = some v) (hdg : decode cc pc = .ok (.getfield 9, 3)) (kk : W p l e R s m args below meth c H locs cells slots Q (F0 m (pc + 3) ls (v :: rest))) : W p l e R s m args below meth c H locs cells slots Q (F0 m pc ls (.ref a :: rest)) :=
  va_get (D := D) (ci := 5) (v := v) (C := RX6) (T := TX6) (N := 2) hx hb hqs inX6 hown hK hP q0 he rfl 1 (by decide) (hqs _ w_66) (fun _ h9 => h9) hv hdg kk
theorem gf_X8_10 (hx : p.tables.exec = Jvm.exec) (hb : c.code = cc) (hqs : ∀ w ∈ TB, w.before args s = true) (hown : s.vm.findClass RX8 = some m.cls) (hK : va_K D vwCl tys s) (hP : va_P D vwCl ws H) (q0 : Nat) {fs : List Value} (he : ws[q0]? = some (a, .inr (7, fs))) {v : Value} (hv : fs[0]? = some v) (hdg : decode cc pc = .ok (.getfield 10, 3)) (kk : W p l e R s m args below meth c H locs cells slots Q (F0 m (pc + 3) ls (v :: rest))) : W p l e R s m args below meth c H locs cells slots Q (F0 m pc ls (.ref a :: rest)) :=
  va_get (D := D) (ci := 7) (v := v) (C := RX8) (T := TX8) (N := 9) hx hb hqs inX8 hown hK hP q0 he rfl 0 (by decide) (hqs _ w_251) (fun _ h9 => h9) hv hdg kk
theorem gf_X8_19 (hx : p.tables.exec = Jvm.exec) (hb : c.code = cc) (hqs : ∀ w ∈ TB, w.before args s = true) (hown : s.vm.findClass RX8 = some m.cls) (hK : va_K D vwCl tys s) (hP : va_P D vwCl ws H) (q0 : Nat) {fs : List Value} (he : ws[q0]? = some (a, .inr (7, fs))) {v : Value} (hv : fs[1]? = some v) (hdg : decode cc pc = .ok (.getfield 19, 3)) (kk : W p l e R s m args below meth c H locs cells slots Q (F0 m (pc + 3) ls (v :: rest))) : W p l e R s m args below meth c H locs cells slots Q (F0 m pc ls (.ref a :: rest)) :=
  va_get (D := D) (ci := 7) (v := v) (C := RX8) (T := TX8) (N := 9) hx hb hqs inX8 hown hK hP q0 he rfl 1 (by decide) (hqs _ w_252) (fun _ h9 => h9) hv hdg kk
theorem gf_X8_26 (hx : p.tables.exec = Jvm.exec) (hb : c.code = cc) (hqs : ∀ w ∈ TB, w.before args s = true) (hown : s.vm.findClass RX8 = some m.cls) (hK : va_K D vwCl tys s) (hP : va_P D vwCl ws H) (q0 : Nat) {fs : List Value} (he : ws[q0]? = some (a, .inr (7, fs))) {v : Value} (hv : fs[2]? = some v) (hdg : decode cc pc = .ok (.getfield 26, 3)) (kk : W p l e R s m args below meth c H locs cells slots Q (F0 m (pc + 3) ls (v :: rest))) : W p l e R s m args below meth c H locs cells slots Q (F0 m pc ls (.ref a :: rest)) :=
  va_get (D := D) (ci := 7) (v := v) (C := RX8) (T := TX8) (N := 9) hx hb hqs inX8 hown hK hP q0 he rfl 2 (by decide) (hqs _ w_253) (fun _ h9 => h9) hv hdg kk
theorem gf_X8_33 (hx : p.tables.exec = Jvm.exec) (hb : c.code = cc) (hqs : ∀ w ∈ TB, w.before args s = true) (hown : s.vm.findClass RX8 = some m.cls) (hK : va_K D vwCl tys s) (hP : va_P D vwCl ws H) (q0 : Nat) {fs : List Value} (he : ws[q0]? = some (a, .inr (7, fs))) {v : Value} (hv : fs[3]? = some v) (hdg : decode cc pc = .ok (.getfield 33, 3)) (kk : W p l e R s m args below meth c H locs cells slots Q (F0 m (pc + 3) ls (v :: rest))) : W p l e R s m args below meth c H locs cells slots Q (F0 m pc ls (.ref a :: rest)) :=
  va_get (D := D) (ci := 7) (v := v) (C := RX8) (T := TX8) (N := 9) hx hb hqs inX8 hown hK hP q0 he rfl 3 (by decide) (hqs _ w_254) (fun _ h9 => h9) hv hdg kk
theorem gf_X8_43 (hx : p.tables.exec = Jvm.exec) (hb : c.code = cc) (hqs : ∀ w ∈ TB, w.before args s = true) (hown : s.vm.findClass RX8 = some m.cls) (hK : va_K D vwCl tys s) (hP : va_P D vwCl ws H) (q0 : Nat) {fs : List Value} (he : ws[q0]? = some (a, .inr (7, fs))) {v : Value} (hv : fs[5]? = some v) (hdg : decode cc pc = .ok (.getfield 43, 3)) (kk : W p l e R s m args below meth c H locs cells slots Q (F0 m (pc + 3) ls (v :: rest))) : W p l e R s m args below meth c H locs cells slots Q (F0 m pc ls (.ref a :: rest)) :=
  va_get (D := D) (ci := 7) (v := v) (C := RX8) (T := TX8) (N := 9) hx hb hqs inX8 hown hK hP q0 he rfl 5 (by decide) (hqs _ w_256) (fun _ h9 => h9) hv hdg kk
theorem gf_X8_50 (hx : p.tables.exec = Jvm.exec) (hb : c.code = cc) (hqs : ∀ w ∈ TB, w.before args s = true) (hown : s.vm.findClass RX8 = some m.cls) (hK : va_K D vwCl tys s) (hP : va_P D vwCl ws H) (q0 : Nat) {fs : List Value} (he : ws[q0]? = some (a, .inr (7, fs))) {v : Value} (hv : fs[6]? = some v) (hdg : decode cc pc = .ok (.getfield 50, 3)) (kk : W p l e R s m args below meth c H locs cells slots Q (F0 m (pc + 3) ls (v :: rest))) : W p l e R s m args below meth c H locs cells slots Q (F0 m pc ls (.ref a :: rest)) :=
  va_get (D := D) (ci := 7) (v := v) (C := RX8) (T := TX8) (N := 9) hx hb hqs inX8 hown hK hP q0 he rfl 6 (by decide) (hqs _ w_257) (fun _ h9 => h9) hv hdg kk
theorem gf_X8_305 (hx : p.tables.exec = Jvm.exec) (hb : c.code = cc) (hqs : ∀ w ∈ TB, w.before args s = true) (hown : s.vm.findClass RX8 = some m.cls) (hK : va_K D vwCl tys s) (hP : va_P D vwCl ws H) (q0 : Nat) {fs : List Value} (he : ws[q0]? = some (a, .inr (5, fs))) {v : Value} (hv : fs[0]? = some v) (hdg : decode cc pc = .ok (.getfield 305, 3)) (kk : W p l e R s m args below meth c H locs cells slots Q (F0 m (pc + 3) ls (v :: rest))) : W p l e R s m args below meth c H locs cells slots Q (F0 m pc ls (.ref a :: rest)) :=
  va_get (D := D) (ci := 5) (v := v) (C := RX6) (T := TX6) (N := 2) hx hb hqs inX6 hown hK hP q0 he rfl 0 (by decide) (hqs _ w_65) (fun _ h9 => h9) hv hdg kk
theorem gf_X8_323 (hx : p.tables.exec = Jvm.exec) (hb : c.code = cc) (hqs : ∀ w ∈ TB, w.before args s = true) (hown : s.vm.findClass RX8 = some m.cls) (hK : va_K D vwCl tys s) (hP : va_P D vwCl ws H) (q0 : Nat) {fs : List Value} (he : ws[q0]? = some (a, .inr (0, fs))) {v : Value} (hv : fs[1]? = some v) (hdg : decode cc pc = .ok (.getfield 323, 3)) (kk : W p l e R s m args below meth c H locs cells slots Q (F0 m (pc + 3) ls (v :: rest))) : W p l e R s m args below meth c H locs cells slots Q (F0 m pc ls (.ref a :: rest)) :=
  va_get (D := D) (ci := 0) (v := v) (C := RX0) (T := TX0) (N := 5) hx hb hqs inX0 hown hK hP q0 he rfl 1 (by decide) (hqs _ w_84) (fun _ h9 => h9) hv hdg kk
theorem gf_X8_326 (hx : p.tables.exec = Jvm.exec) (hb : c.code = cc) (hqs : ∀ w ∈ TB, w.before args s = true) (hown : s.vm.findClass RX8 = some m.cls) (hK : va_K D vwCl tys s) (hP : va_P D vwCl ws H) (q0 : Nat) {fs : List Value} (he : ws[q0]? = some (a, .inr (0, fs))) {v : Value} (hv : fs[2]? = some v) (hdg : decode cc pc = .ok (.getfield 326, 3)) (kk : W p l e R s m args below meth c H locs cells slots Q (F0 m (pc + 3) ls (v :: rest))) : W p l e R s m args below meth c H locs cells slots Q (F0 m pc ls (.ref a :: rest)) :=
  va_get (D := D) (ci := 0) (v := v) (C := RX0) (T := TX0) (N := 5) hx hb hqs inX0 hown hK hP q0 he rfl 2 (by decide) (hqs _ w_86) (fun _ h9 => h9) hv hdg kk
theorem gf_X8_332 (hx : p.tables.exec = Jvm.exec) (hb : c.code = cc) (hqs : ∀ w ∈ TB, w.before args s = true) (hown : s.vm.findClass RX8 = some m.cls) (hK : va_K D vwCl tys s) (hP : va_P D vwCl ws H) (q0 : Nat) {fs : List Value} (he : ws[q0]? = some (a, .inr (0, fs))) {v : Value} (hv : fs[3]? = some v) (hdg : decode cc pc = .ok (.getfield 332, 3)) (kk : W p l e R s m args below meth c H locs cells slots Q (F0 m (pc + 3) ls (v :: rest))) : W p l e R s m args below meth c H locs cells slots Q (F0 m pc ls (.ref a :: rest)) :=
  va_get (D := D) (ci := 0) (v := v) (C := RX0) (T := TX0) (N := 5) hx hb hqs inX0 hown hK hP q0 he rfl 3 (by decide) (hqs _ w_88) (fun _ h9 => h9) hv hdg kk
theorem gf_X8_320 (hx : p.tables.exec = Jvm.exec) (hb : c.code = cc) (hqs : ∀ w ∈ TB, w.before args s = true) (hown : s.vm.findClass RX8 = some m.cls) (hK : va_K D vwCl tys s) (hP : va_P D vwCl ws H) (q0 : Nat) {fs : List Value} (he : ws[q0]? = some (a, .inr (0, fs))) {v : Value} (hv : fs[4]? = some v) (hdg : decode cc pc = .ok (.getfield 320, 3)) (kk : W p l e R s m args below meth c H locs cells slots Q (F0 m (pc + 3) ls (v :: rest))) : W p l e R s m args below meth c H locs cells slots Q (F0 m pc ls (.ref a :: rest)) :=
  va_get (D := D) (ci := 0) (v := v) (C := RX0) (T := TX0) (N := 5) hx hb hqs inX0 hown hK hP q0 he rfl 4 (by decide) (hqs _ w_90) (fun _ h9 => h9) hv hdg kk
theorem gf_X8_57 (hx : p.tables.exec = Jvm.exec) (hb : c.code = cc) (hqs : ∀ w ∈ TB, w.before args s = true) (hown : s.vm.findClass RX8 = some m.cls) (hK : va_K D vwCl tys s) (hP : va_P D vwCl ws H) (q0 : Nat) {fs : List Value} (he : ws[q0]? = some (a, .inr (7, fs))) {v : Value} (hv : fs[7]? = some v) (hdg : decode cc pc = .ok (.getfield 57, 3)) (kk : W p l e R s m args below meth c H locs cells slots Q (F0 m (pc + 3) ls (v :: rest))) : W p l e R s m args below meth c H locs cells slots Q (F0 m pc ls (.ref a :: rest)) :=
  va_get (D := D) (ci := 7) (v := v) (C := RX8) (T := TX8) (N := 9) hx hb hqs inX8 hown hK hP q0 he rfl 7 (by decide) (hqs _ w_258) (fun _ h9 => h9) hv hdg kk
theorem gf_X8_61 (hx : p.tables.exec = Jvm.exec) (hb : c.code = cc) (hqs : ∀ w ∈ TB, w.before args s = true) (hown : s.vm.findClass RX8 = some m.cls) (hK : va_K D vwCl tys s) (hP : va_P D vwCl ws H) (q0 : Nat) {fs : List Value} (he : ws[q0]? = some (a, .inr (7, fs))) {v : Value} (hv : fs[8]? = some v) (hdg : decode cc pc = .ok (.getfield 61, 3)) (kk : W p l e R s m args below meth c H locs cells slots Q (F0 m (pc + 3) ls (v :: rest))) : W p l e R s m args below meth c H locs cells slots Q (F0 m pc ls (.ref a :: rest)) :=
  va_get (D := D) (ci := 7) (v := v) (C := RX8) (T := TX8) (N := 9) hx hb hqs inX8 hown hK hP q0 he rfl 8 (by decide) (hqs _ w_259) (fun _ h9 => h9) hv hdg kk
theorem gf_X8_37 (hx : p.tables.exec = Jvm.exec) (hb : c.code = cc) (hqs : ∀ w ∈ TB, w.before args s = true) (hown : s.vm.findClass RX8 = some m.cls) (hK : va_K D vwCl tys s) (hP : va_P D vwCl ws H) (q0 : Nat) {fs : List Value} (he : ws[q0]? = some (a, .inr (7, fs))) {v : Value} (hv : fs[4]? = some v) (hdg : decode cc pc = .ok (.getfield 37, 3)) (kk : W p l e R s m args below meth c H locs cells slots Q (F0 m (pc + 3) ls (v :: rest))) : W p l e R s m args below meth c H locs cells slots Q (F0 m pc ls (.ref a :: rest)) :=
  va_get (D := D) (ci := 7) (v := v) (C := RX8) (T := TX8) (N := 9) hx hb hqs inX8 hown hK hP q0 he rfl 4 (by decide) (hqs _ w_255) (fun _ h9 => h9) hv hdg kk
theorem gf_X8_278 (hx : p.tables.exec = Jvm.exec) (hb : c.code = cc) (hqs : ∀ w ∈ TB, w.before args s = true) (hown : s.vm.findClass RX8 = some m.cls) (hK : va_K D vwCl tys s) (hP : va_P D vwCl ws H) (q0 : Nat) {fs : List Value} (he : ws[q0]? = some (a, .inr (6, fs))) {v : Value} (hv : fs[3]? = some v) (hdg : decode cc pc = .ok (.getfield 278, 3)) (kk : W p l e R s m args below meth c H locs cells slots Q (F0 m (pc + 3) ls (v :: rest))) : W p l e R s m args below meth c H locs cells slots Q (F0 m pc ls (.ref a :: rest)) :=
  va_get (D := D) (ci := 6) (v := v) (C := RX7) (T := TX7) (N := 13) hx hb hqs inX7 hown hK hP q0 he rfl 3 (by decide) (hqs _ w_144) (fun _ h9 => h9) hv hdg kk
theorem gf_X8_359 (hx : p.tables.exec = Jvm.exec) (hb : c.code = cc) (hqs : ∀ w ∈ TB, w.before args s = true) (hown : s.vm.findClass RX8 = some m.cls) (hK : va_K D vwCl tys s) (hP : va_P D vwCl ws H) (q0 : Nat) {fs : List Value} (he : ws[q0]? = some (a, .inr (6, fs))) {v : Value} (hv : fs[0]? = some v) (hdg : decode cc pc = .ok (.getfield 359, 3)) (kk : W p l e R s m args below meth c H locs cells slots Q (F0 m (pc + 3) ls (v :: rest))) : W p l e R s m args below meth c H locs cells slots Q (F0 m pc ls (.ref a :: rest)) :=
  va_get (D := D) (ci := 6) (v := v) (C := RX7) (T := TX7) (N := 13) hx hb hqs inX7 hown hK hP q0 he rfl 0 (by decide) (hqs _ w_139) (fun _ h9 => h9) hv hdg kk
theorem gf_X8_291 (hx : p.tables.exec = Jvm.exec) (hb : c.code = cc) (hqs : ∀ w ∈ TB, w.before args s = true) (hown : s.vm.findClass RX8 = some m.cls) (hK : va_K D vwCl tys s) (hP : va_P D vwCl ws H) (q0 : Nat) {fs : List Value} (he : ws[q0]? = some (a, .inr (6, fs))) {v : Value} (hv : fs[1]? = some v) (hdg : decode cc pc = .ok (.getfield 291, 3)) (kk : W p l e R s m args below meth c H locs cells slots Q (F0 m (pc + 3) ls (v :: rest))) : W p l e R s m args below meth c H locs cells slots Q (F0 m pc ls (.ref a :: rest)) :=
  va_get (D := D) (ci := 6) (v := v) (C := RX7) (T := TX7) (N := 13) hx hb hqs inX7 hown hK hP q0 he rfl 1 (by decide) (hqs _ w_141) (fun _ h9 => h9) hv hdg kk
theorem pf_X0_19 (hx : p.tables.exec = Jvm.exec) (hb : c.code = cc) (hqs : ∀ w ∈ TB, w.before args s = true) (hown : s.vm.findClass RX0 = some m.cls) (hK : va_K D vwCl tys s) (hP : va_P D vwCl ws H) (hD : va_D A ws) (hS : va_S A H0 H locs) (q0 : Nat) {fs : List Value} (he : ws[q0]? = some (a, .inr (0, fs))) {x : Int32} (hl : Nat.ble 1 fs.length = true) (hdg : decode cc pc = .ok (.putfield 19, 3)) (kk : ∀ (H1 : Heap) (locs1 : List Loc), va_P D vwCl (ws.set q0 (a, .inr (0, fs.set 0 (.int x)))) H1 → va_D A (ws.set q0 (a, .inr (0, fs.set 0 (.int x)))) → va_S A H0 H1 locs1 → W p l e R s m args below meth c H1 locs1 cells slots Q (F0 m (pc + 3) ls rest)) : W p l e R s m args below meth c H locs cells slots Q (F0 m pc ls (.int x :: .ref a :: rest)) :=
  va_put (D := D) (ci := 0) (v := .int x) (ty := .int) (C := RX0) (T := TX0) (N := 5) hx hb hqs inX0 tyX0 tyX0_ok nmX0 hown hK hP hD hS q0 he rfl 0 (by decide) (hqs _ w_82) (fun _ h9 => h9) rfl (by decide +kernel) rfl rfl (Nat.le_of_ble_eq_true hl) hdg kk
theorem pf_X0_15 (hx : p.tables.exec = Jvm.exec) (hb : c.code = cc) (hqs : ∀ w ∈ TB, w.before args s = true) (hown : s.vm.findClass RX0 = some m.cls) (hK : va_K D vwCl tys s) (hP : va_P D vwCl ws H) (hD : va_D A ws) (hS : va_S A H0 H locs) (q0 : Nat) {fs : List Value} (he : ws[q0]? = some (a, .inr (0, fs))) {x : Int32} (hl : Nat.ble 5 fs.length = true) (hdg : decode cc pc = .ok (.putfield 15, 3)) (kk : ∀ (H1 : Heap) (locs1 : List Loc), va_P D vwCl (ws.set q0 (a, .inr (0, fs.set 4 (.int x)))) H1 → va_D A (ws.set q0 (a, .inr (0, fs.set 4 (.int x)))) → va_S A H0 H1 locs1 → W p l e R s m args below meth c H1 locs1 cells slots Q (F0 m (pc + 3) ls rest)) : W p l e R s m args below meth c H locs cells slots Q (F0 m pc ls (.int x :: .ref a :: rest)) :=
  va_put (D := D) (ci := 0) (v := .int x) (ty := .int) (C := RX0) (T := TX0) (N := 5) hx hb hqs inX0 tyX0 tyX0_ok nmX0 hown hK hP hD hS q0 he rfl 4 (by decide) (hqs _ w_89) (fun _ h9 => h9) rfl (by decide +kernel) rfl rfl (Nat.le_of_ble_eq_true hl) hdg kk
theorem pf_X0_25 (hx : p.tables.exec = Jvm.exec) (hb : c.code = cc) (hqs : ∀ w ∈ TB, w.before args s = true) (hown : s.vm.findClass RX0 = some m.cls) (hK : va_K D vwCl tys s) (hP : va_P D vwCl ws H) (hD : va_D A ws) (hS : va_S A H0 H locs) (q0 : Nat) {fs : List Value} (he : ws[q0]? = some (a, .inr (0, fs))) {x : Int32} (hl : Nat.ble 2 fs.length = true) (hdg : decode cc pc = .ok (.putfield 25, 3)) (kk : ∀ (H1 : Heap) (locs1 : List Loc), va_P D vwCl (ws.set q0 (a, .inr (0, fs.set 1 (.int x)))) H1 → va_D A (ws.set q0 (a, .inr (0, fs.set 1 (.int x)))) → va_S A H0 H1 locs1 → W p l e R s m args below meth c H1 locs1 cells slots Q (F0 m (pc + 3) ls rest)) : W p l e R s m args below meth c H locs cells slots Q (F0 m pc ls (.int x :: .ref a :: rest)) :=
  va_put (D := D) (ci := 0) (v := .int x) (ty := .int) (C := RX0) (T := TX0) (N := 5) hx hb hqs inX0 tyX0 tyX0_ok nmX0 hown hK hP hD hS q0 he rfl 1 (by decide) (hqs _ w_83) (fun _ h9 => h9) rfl (by decide +kernel) rfl rfl (Nat.le_of_ble_eq_true hl) hdg kk
theorem pf_X0_32 (hx : p.tables.exec = Jvm.exec) (hb : c.code = cc) (hqs : ∀ w ∈ TB, w.before args s = true) (hown : s.vm.findClass RX0 = some m.cls) (hK : va_K D vwCl tys s) (hP : va_P D vwCl ws H) (hD : va_D A ws) (hS : va_S A H0 H locs) (q0 : Nat) {fs : List Value} (he : ws[q0]? = some (a, .inr (0, fs))) {x : Int32} (hl : Nat.ble 3 fs.length = true) (hdg : decode cc pc = .ok (.putfield 32, 3)) (kk : ∀ (H1 : Heap) (locs1 : List Loc), va_P D vwCl (ws.set q0 (a, .inr (0, fs.set 2 (.int x)))) H1 → va_D A (ws.set q0 (a, .inr (0, fs.set 2 (.int x)))) → va_S A H0 H1 locs1 → W p l e R s m args below meth c H1 locs1 cells slots Q (F0 m (pc + 3) ls rest)) : W p l e R s m args below meth c H locs cells slots Q (F0 m pc ls (.int x :: .ref a :: rest)) :=
  va_put (D := D) (ci := 0) (v := .int x) (ty := .int) (C := RX0) (T := TX0) (N := 5) hx hb hqs inX0 tyX0 tyX0_ok nmX0 hown hK hP hD hS q0 he rfl 2 (by decide) (hqs _ w_85) (fun _ h9 => h9) rfl (by decide +kernel) rfl rfl (Nat.le_of_ble_eq_true hl) hdg kk
theorem pf_X0_49 (hx : p.tables.exec = Jvm.exec) (hb : c.code = cc) (hqs : ∀ w ∈ TB, w.before args s = true) (hown : s.vm.findClass RX0 = some m.cls) (hK : va_K D vwCl tys s) (hP : va_P D vwCl ws H) (hD : va_D A ws) (hS : va_S A H0 H locs) (q0 : Nat) {fs : List Value} (he : ws[q0]? = some (a, .inr (0, fs))) {x : Int32} (hl : Nat.ble 4 fs.length = true) (hdg : decode cc pc = .ok (.putfield 49, 3)) (kk : ∀ (H1 : Heap) (locs1 : List Loc), va_P D vwCl (ws.set q0 (a, .inr (0, fs.set 3 (.int x)))) H1 → va_D A (ws.set q0 (a, .inr (0, fs.set 3 (.int x)))) → va_S A H0 H1 locs1 → W p l e R s m args below meth c H1 locs1 cells slots Q (F0 m (pc + 3) ls rest)) : W p l e R s m args below meth c H locs cells slots Q (F0 m pc ls (.int x :: .ref a :: rest)) :=
  va_put (D := D) (ci := 0) (v := .int x) (ty := .int) (C := RX0) (T := TX0) (N := 5) hx hb hqs inX0 tyX0 tyX0_ok nmX0 hown hK hP hD hS q0 he rfl 3 (by decide) (hqs _ w_87) (fun _ h9 => h9) rfl (by decide +kernel) rfl rfl (Nat.le_of_ble_eq_true hl) hdg kk
theorem pf_X1_18 (hx : p.tables.exec = Jvm.exec) (hb : c.code = cc) (hqs : ∀ w ∈ TB, w.before args s = true) (hown : s.vm.findClass RX1 = some m.cls) (hK : va_K D vwCl tys s) (hP : va_P D vwCl ws H) (hD : va_D A ws) (hS : va_S A H0 H locs) (q0 : Nat) {fs : List Value} (he : ws[q0]? = some (a, .inr (1, fs))) {x : Int32} (hl : Nat.ble 2 fs.length = true) (hdg : decode cc pc = .ok (.putfield 18, 3)) (kk : ∀ (H1 : Heap) (locs1 : List Loc), va_P D vwCl (ws.set q0 (a, .inr (1, fs.set 1 (.int x)))) H1 → va_D A (ws.set q0 (a, .inr (1, fs.set 1 (.int x)))) → va_S A H0 H1 locs1 → W p l e R s m args below meth c H1 locs1 cells slots Q (F0 m (pc + 3) ls rest)) : W p l e R s m args below meth c H locs cells slots Q (F0 m pc ls (.int x :: .ref a :: rest)) :=
  va_put (D := D) (ci := 1) (v := .int x) (ty := .int) (C := RX1) (T := TX1) (N := 3) hx hb hqs inX1 tyX1 tyX1_ok nmX1 hown hK hP hD hS q0 he rfl 1 (by decide) (hqs _ w_192) (fun _ h9 => h9) rfl (by decide +kernel) rfl rfl (Nat.le_of_ble_eq_true hl) hdg kk
theorem pf_X7_48 (hx : p.tables.exec = Jvm.exec) (hb : c.code = cc) (hqs : ∀ w ∈ TB, w.before args s = true) (hown : s.vm.findClass RX7 = some m.cls) (hK : va_K D vwCl tys s) (hP : va_P D vwCl ws H) (hD : va_D A ws) (hS : va_S A H0 H locs) (q0 : Nat) {fs : List Value} (he : ws[q0]? = some (a, .inr (6, fs))) {x : Int32} (hl : Nat.ble 1 fs.length = true) (hdg : decode cc pc = .ok (.putfield 48, 3)) (kk : ∀ (H1 : Heap) (locs1 : List Loc), va_P D vwCl (ws.set q0 (a, .inr (6, fs.set 0 (.int x)))) H1 → va_D A (ws.set q0 (a, .inr (6, fs.set 0 (.int x)))) → va_S A H0 H1 locs1 → W p l e R s m args below meth c H1 locs1 cells slots Q (F0 m (pc + 3) ls rest)) : W p l e R s m args below meth c H locs cells slots Q (F0 m pc ls (.int x :: .ref a :: rest)) :=
  va_put (D := D) (ci := 6) (v := .int x) (ty := .int) (C := RX7) (T := TX7) (N := 13) hx hb hqs inX7 tyX7 tyX7_ok nmX7 hown hK hP hD hS q0 he rfl 0 (by decide) (hqs _ w_138) (fun _ h9 => h9) rfl (by decide +kernel) rfl rfl (Nat.le_of_ble_eq_true hl) hdg kk
theorem pf_X7_52 (hx : p.tables.exec = Jvm.exec) (hb : c.code = cc) (hqs : ∀ w ∈ TB, w.before args s = true) (hown : s.vm.findClass RX7 = some m.cls) (hK : va_K D vwCl tys s) (hP : va_P D vwCl ws H) (hD : va_D A ws) (hS : va_S A H0 H locs) (q0 : Nat) {fs : List Value} (he : ws[q0]? = some (a, .inr (6, fs))) {x : Int32} (hl : Nat.ble 2 fs.length = true) (hdg : decode cc pc = .ok (.putfield 52, 3)) (kk : ∀ (H1 : Heap) (locs1 : List Loc), va_P D vwCl (ws.set q0 (a, .inr (6, fs.set 1 (.int x)))) H1 → va_D A (ws.set q0 (a, .inr (6, fs.set 1 (.int x)))) → va_S A H0 H1 locs1 → W p l e R s m args below meth c H1 locs1 cells slots Q (F0 m (pc + 3) ls rest)) : W p l e R s m args below meth c H locs cells slots Q (F0 m pc ls (.int x :: .ref a :: rest)) :=
  va_put (D := D) (ci := 6) (v := .int x) (ty := .int) (C := RX7) (T := TX7) (N := 13) hx hb hqs inX7 tyX7 tyX7_ok nmX7 hown hK hP hD hS q0 he rfl 1 (by decide) (hqs _ w_140) (fun _ h9 => h9) rfl (by decide +kernel) rfl rfl (Nat.le_of_ble_eq_true hl) hdg kk
theorem pf_X7_55 (hx : p.tables.exec = Jvm.exec) (hb : c.code = cc) (hqs : ∀ w ∈ TB, w.before args s = true) (hown : s.vm.findClass RX7 = some m.cls) (hK : va_K D vwCl tys s) (hP : va_P D vwCl ws H) (hD : va_D A ws) (hS : va_S A H0 H locs) (q0 : Nat) {fs : List Value} (he : ws[q0]? = some (a, .inr (6, fs))) {x : Int32} (hl : Nat.ble 3 fs.length = true) (hdg : decode cc pc = .ok (.putfield 55, 3)) (kk : ∀ (H1 : Heap) (locs1 : List Loc), va_P D vwCl (ws.set q0 (a, .inr (6, fs.set 2 (.int x)))) H1 → va_D A (ws.set q0 (a, .inr (6, fs.set 2 (.int x)))) → va_S A H0 H1 locs1 → W p l e R s m args below meth c H1 locs1 cells slots Q (F0 m (pc + 3) ls rest)) : W p l e R s m args below meth c H locs cells slots Q (F0 m pc ls (.int x :: .ref a :: rest)) :=
  va_put (D := D) (ci := 6) (v := .int x) (ty := .int) (C := RX7) (T := TX7) (N := 13) hx hb hqs inX7 tyX7 tyX7_ok nmX7 hown hK hP hD hS q0 he rfl 2 (by decide) (hqs _ w_142) (fun _ h9 => h9) rfl (by decide +kernel) rfl rfl (Nat.le_of_ble_eq_true hl) hdg kk
theorem pf_X7_58 (hx : p.tables.exec = Jvm.exec) (hb : c.code = cc) (hqs : ∀ w ∈ TB, w.before args s = true) (hown : s.vm.findClass RX7 = some m.cls) (hK : va_K D vwCl tys s) (hP : va_P D vwCl ws H) (hD : va_D A ws) (hS : va_S A H0 H locs) (q0 : Nat) {fs : List Value} (he : ws[q0]? = some (a, .inr (6, fs))) {x : Int32} (hl : Nat.ble 4 fs.length = true) (hdg : decode cc pc = .ok (.putfield 58, 3)) (kk : ∀ (H1 : Heap) (locs1 : List Loc), va_P D vwCl (ws.set q0 (a, .inr (6, fs.set 3 (.int x)))) H1 → va_D A (ws.set q0 (a, .inr (6, fs.set 3 (.int x)))) → va_S A H0 H1 locs1 → W p l e R s m args below meth c H1 locs1 cells slots Q (F0 m (pc + 3) ls rest)) : W p l e R s m args below meth c H locs cells slots Q (F0 m pc ls (.int x :: .ref a :: rest)) :=
  va_put (D := D) (ci := 6) (v := .int x) (ty := .int) (C := RX7) (T := TX7) (N := 13) hx hb hqs inX7 tyX7 tyX7_ok nmX7 hown hK hP hD hS q0 he rfl 3 (by decide) (hqs _ w_143) (fun _ h9 => h9) rfl (by decide +kernel) rfl rfl (Nat.le_of_ble_eq_true hl) hdg kk
theorem pf_X1_22 (hx : p.tables.exec = Jvm.exec) (hb : c.code = cc) (hqs : ∀ w ∈ TB, w.before args s = true) (hown : s.vm.findClass RX1 = some m.cls) (hK : va_K D vwCl tys s) (hP : va_P D vwCl ws H) (hD : va_D A ws) (hS : va_S A H0 H locs) (q0 : Nat) {fs : List Value} (he : ws[q0]? = some (a, .inr (1, fs))) {x : Int32} (hl : Nat.ble 3 fs.length = true) (hdg : decode cc pc = .ok (.putfield 22, 3)) (kk : ∀ (H1 : Heap) (locs1 : List Loc), va_P D vwCl (ws.set q0 (a, .inr (1, fs.set 2 (.int x)))) H1 → va_D A (ws.set q0 (a, .inr (1, fs.set 2 (.int x)))) → va_S A H0 H1 locs1 → W p l e R s m args below meth c H1 locs1 cells slots Q (F0 m (pc + 3) ls rest)) : W p l e R s m args below meth c H locs cells slots Q (F0 m pc ls (.int x :: .ref a :: rest)) :=
  va_put (D := D) (ci := 1) (v := .int x) (ty := .int) (C := RX1) (T := TX1) (N := 3) hx hb hqs inX1 tyX1 tyX1_ok nmX1 hown hK hP hD hS q0 he rfl 2 (by decide) (hqs _ w_193) (fun _ h9 => h9) rfl (by decide +kernel) rfl rfl (Nat.le_of_ble_eq_true hl) hdg kk
theorem pf_X2_15 (hx : p.tables.exec = Jvm.exec) (hb : c.code = cc) (hqs : ∀ w ∈ TB, w.before args s = true) (hown : s.vm.findClass RX2 = some m.cls) (hK : va_K D vwCl tys s) (hP : va_P D vwCl ws H) (hD : va_D A ws) (hS : va_S A H0 H locs) (q0 : Nat) {fs : List Value} (he : ws[q0]? = some (a, .inr (2, fs))) {x : Int32} (hl : Nat.ble 1 fs.length = true) (hdg : decode cc pc = .ok (.putfield 15, 3)) (kk : ∀ (H1 : Heap) (locs1 : List Loc), va_P D vwCl (ws.set q0 (a, .inr (2, fs.set 0 (.int x)))) H1 → va_D A (ws.set q0 (a, .inr (2, fs.set 0 (.int x)))) → va_S A H0 H1 locs1 → W p l e R s m args below meth c H1 locs1 cells slots Q (F0 m (pc + 3) ls rest)) : W p l e R s m args below meth c H locs cells slots Q (F0 m pc ls (.int x :: .ref a :: rest)) :=
  va_put (D := D) (ci := 2) (v := .int x) (ty := .int) (C := RX2) (T := TX2) (N := 4) hx hb hqs inX2 tyX2 tyX2_ok nmX2 hown hK hP hD hS q0 he rfl 0 (by decide) (hqs _ w_108) (fun _ h9 => h9) rfl (by decide +kernel) rfl rfl (Nat.le_of_ble_eq_true hl) hdg kk
theorem pf_X2_19 (hx : p.tables.exec = Jvm.exec) (hb : c.code = cc) (hqs : ∀ w ∈ TB, w.before args s = true) (hown : s.vm.findClass RX2 = some m.cls) (hK : va_K D vwCl tys s) (hP : va_P D vwCl ws H) (hD : va_D A ws) (hS : va_S A H0 H locs) (q0 : Nat) {fs : List Value} (he : ws[q0]? = some (a, .inr (2, fs))) {x : Int32} (hl : Nat.ble 2 fs.length = true) (hdg : decode cc pc = .ok (.putfield 19, 3)) (kk : ∀ (H1 : Heap) (locs1 : List Loc), va_P D vwCl (ws.set q0 (a, .inr (2, fs.set 1 (.int x)))) H1 → va_D A (ws.set q0 (a, .inr (2, fs.set 1 (.int x)))) → va_S A H0 H1 locs1 → W p l e R s m args below meth c H1 locs1 cells slots Q (F0 m (pc + 3) ls rest)) : W p l e R s m args below meth c H locs cells slots Q (F0 m pc ls (.int x :: .ref a :: rest)) :=
  va_put (D := D) (ci := 2) (v := .int x) (ty := .int) (C := RX2) (T := TX2) (N := 4) hx hb hqs inX2 tyX2 tyX2_ok nmX2 hown hK hP hD hS q0 he rfl 1 (by decide) (hqs _ w_110) (fun _ h9 => h9) rfl (by decide +kernel) rfl rfl (Nat.le_of_ble_eq_true hl) hdg kk
theorem pf_X2_22 (hx : p.tables.exec = Jvm.exec) (hb : c.code = cc) (hqs : ∀ w ∈ TB, w.before args s = true) (hown : s.vm.findClass RX2 = some m.cls) (hK : va_K D vwCl tys s) (hP : va_P D vwCl ws H) (hD : va_D A ws) (hS : va_S A H0 H locs) (q0 : Nat) {fs : List Value} (he : ws[q0]? = some (a, .inr (2, fs))) {x : Int32} (hl : Nat.ble 3 fs.length = true) (hz : vp_nar .boolean x = x) (hdg : decode cc pc = .ok (.putfield 22, 3)) (kk : ∀ (H1 : Heap) (locs1 : List Loc), va_P D vwCl (ws.set q0 (a, .inr (2, fs.set 2 (.int x)))) H1 → va_D A (ws.set q0 (a, .inr (2, fs.set 2 (.int x)))) → va_S A H0 H1 locs1 → W p l e R s m args below meth c H1 locs1 cells slots Q (F0 m (pc + 3) ls rest)) : W p l e R s m args below meth c H locs cells slots Q (F0 m pc ls (.int x :: .ref a :: rest)) :=
  va_put (D := D) (ci := 2) (v := .int x) (ty := .boolean) (C := RX2) (T := TX2) (N := 4) hx hb hqs inX2 tyX2 tyX2_ok nmX2 hown hK hP hD hS q0 he rfl 2 (by decide) (hqs _ w_111) (fun _ h9 => h9) rfl (by decide +kernel) (congrArg Value.int hz) (by rw [← hz]; exact nar_fits x) (Nat.le_of_ble_eq_true hl) hdg kk
theorem pf_X3_34 (hx : p.tables.exec = Jvm.exec) (hb : c.code = cc) (hqs : ∀ w ∈ TB, w.before args s = true) (hown : s.vm.findClass RX3 = some m.cls) (hK : va_K D vwCl tys s) (hP : va_P D vwCl ws H) (hD : va_D A ws) (hS : va_S A H0 H locs) (q0 : Nat) {fs : List Value} (he : ws[q0]? = some (a, .inr (3, fs))) {x : Int32} (hl : Nat.ble 8 fs.length = true) (hdg : decode cc pc = .ok (.putfield 34, 3)) (kk : ∀ (H1 : Heap) (locs1 : List Loc), va_P D vwCl (ws.set q0 (a, .inr (3, fs.set 7 (.int x)))) H1 → va_D A (ws.set q0 (a, .inr (3, fs.set 7 (.int x)))) → va_S A H0 H1 locs1 → W p l e R s m args below meth c H1 locs1 cells slots Q (F0 m (pc + 3) ls rest)) : W p l e R s m args below meth c H locs cells slots Q (F0 m pc ls (.int x :: .ref a :: rest)) :=
  va_put (D := D) (ci := 3) (v := .int x) (ty := .int) (C := RX3) (T := TX3) (N := 9) hx hb hqs inX3 tyX3 tyX3_ok nmX3 hown hK hP hD hS q0 he rfl 7 (by decide) (hqs _ w_230) (fun _ h9 => h9) rfl (by decide +kernel) rfl rfl (Nat.le_of_ble_eq_true hl) hdg kk
theorem pf_X3_38 (hx : p.tables.exec = Jvm.exec) (hb : c.code = cc) (hqs : ∀ w ∈ TB, w.before args s = true) (hown : s.vm.findClass RX3 = some m.cls) (hK : va_K D vwCl tys s) (hP : va_P D vwCl ws H) (hD : va_D A ws) (hS : va_S A H0 H locs) (q0 : Nat) {fs : List Value} (he : ws[q0]? = some (a, .inr (3, fs))) {x : Int32} (hl : Nat.ble 9 fs.length = true) (hdg : decode cc pc = .ok (.putfield 38, 3)) (kk : ∀ (H1 : Heap) (locs1 : List Loc), va_P D vwCl (ws.set q0 (a, .inr (3, fs.set 8 (.int x)))) H1 → va_D A (ws.set q0 (a, .inr (3, fs.set 8 (.int x)))) → va_S A H0 H1 locs1 → W p l e R s m args below meth c H1 locs1 cells slots Q (F0 m (pc + 3) ls rest)) : W p l e R s m args below meth c H locs cells slots Q (F0 m pc ls (.int x :: .ref a :: rest)) :=
  va_put (D := D) (ci := 3) (v := .int x) (ty := .int) (C := RX3) (T := TX3) (N := 9) hx hb hqs inX3 tyX3 tyX3_ok nmX3 hown hK hP hD hS q0 he rfl 8 (by decide) (hqs _ w_231) (fun _ h9 => h9) rfl (by decide +kernel) rfl rfl (Nat.le_of_ble_eq_true hl) hdg kk
theorem pf_X6_15 (hx : p.tables.exec = Jvm.exec) (hb : c.code = cc) (hqs : ∀ w ∈ TB, w.before args s = true) (hown : s.vm.findClass RX6 = some m.cls) (hK : va_K D vwCl tys s) (hP : va_P D vwCl ws H) (hD : va_D A ws) (hS : va_S A H0 H locs) (q0 : Nat) {fs : List Value} (he : ws[q0]? = some (a, .inr (5, fs))) {x : Int32} (hl : Nat.ble 1 fs.length = true) (hdg : decode cc pc = .ok (.putfield 15, 3)) (kk : ∀ (H1 : Heap) (locs1 : List Loc), va_P D vwCl (ws.set q0 (a, .inr (5, fs.set 0 (.int x)))) H1 → va_D A (ws.set q0 (a, .inr (5, fs.set 0 (.int x)))) → va_S A H0 H1 locs1 → W p l e R s m args below meth c H1 locs1 cells slots Q (F0 m (pc + 3) ls rest)) : W p l e R s m args below meth c H locs cells slots Q (F0 m pc ls (.int x :: .ref a :: rest)) :=
  va_put (D := D) (ci := 5) (v := .int x) (ty := .int) (C := RX6) (T := TX6) (N := 2) hx hb hqs inX6 tyX6 tyX6_ok nmX6 hown hK hP hD hS q0 he rfl 0 (by decide) (hqs _ w_64) (fun _ h9 => h9) rfl (by decide +kernel) rfl rfl (Nat.le_of_ble_eq_true hl) hdg kk
end LINKS
theorem rLe {a b : Nat} (h : a ≤ b) : a ≤ b := h
