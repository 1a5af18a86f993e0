theorem w_0 : (.selects RX0 yX0_expect yX0_expect : Cond) ∈ TB := TB_mem 0 (by decide +kernel) (by decide +kernel)
theorem w_1 : (.selects RX0 yX0_takesEntry yX0_takesEntry : Cond) ∈ TB := TB_mem 1 (by decide +kernel) (by decide +kernel)
theorem w_2 : (.selects RX0 yX0_takesDigit yX0_takesDigit : Cond) ∈ TB := TB_mem 2 (by decide +kernel) (by decide +kernel)
theorem w_3 : (.selects RX0 yX0_takesEnd yX0_takesEnd : Cond) ∈ TB := TB_mem 3 (by decide +kernel) (by decide +kernel)
theorem w_4 : (.selects RX0 yX0_takesComma yX0_takesComma : Cond) ∈ TB := TB_mem 4 (by decide +kernel) (by decide +kernel)
theorem w_5 : (.selects RX7 yX7_differenceOf yX7_differenceOf : Cond) ∈ TB := TB_mem 5 (by decide +kernel) (by decide +kernel)
theorem w_7 : (.selects RX8 yX8_readEntries yX8_readEntries : Cond) ∈ TB := TB_mem 7 (by decide +kernel) (by decide +kernel)
theorem w_8 : (.selects RX8 yX8_doEntry yX8_doEntry : Cond) ∈ TB := TB_mem 8 (by decide +kernel) (by decide +kernel)
theorem w_9 : (.selects RX7 yX7_linkCount yX7_linkCount : Cond) ∈ TB := TB_mem 9 (by decide +kernel) (by decide +kernel)
theorem w_10 : (.selects RX8 yX8_needTable yX8_needTable : Cond) ∈ TB := TB_mem 10 (by decide +kernel) (by decide +kernel)
theorem w_11 : (.selects RX8 yX8_needTwoTables yX8_needTwoTables : Cond) ∈ TB := TB_mem 11 (by decide +kernel) (by decide +kernel)
theorem w_12 : (.selects RX1 yX1_stateAt yX1_stateAt : Cond) ∈ TB := TB_mem 12 (by decide +kernel) (by decide +kernel)
theorem w_13 : (.selects RX8 yX8_needTables yX8_needTables : Cond) ∈ TB := TB_mem 13 (by decide +kernel) (by decide +kernel)
theorem w_14 : (.selects RX8 yX8_runIn yX8_runIn : Cond) ∈ TB := TB_mem 14 (by decide +kernel) (by decide +kernel)
theorem w_15 : (.selects RX8 yX8_regretIn yX8_regretIn : Cond) ∈ TB := TB_mem 15 (by decide +kernel) (by decide +kernel)
theorem w_16 : (.selects RX3 yX3_rowsJoined yX3_rowsJoined : Cond) ∈ TB := TB_mem 16 (by decide +kernel) (by decide +kernel)
theorem w_17 : (.selects RX3 yX3_sizeOf yX3_sizeOf : Cond) ∈ TB := TB_mem 17 (by decide +kernel) (by decide +kernel)
theorem w_18 : (.selects RX3 yX3_findNext yX3_findNext : Cond) ∈ TB := TB_mem 18 (by decide +kernel) (by decide +kernel)
theorem w_19 : (.selects RX3 yX3_cheaperWay yX3_cheaperWay : Cond) ∈ TB := TB_mem 19 (by decide +kernel) (by decide +kernel)
theorem w_20 : (.selects RX3 yX3_stepCost yX3_stepCost : Cond) ∈ TB := TB_mem 20 (by decide +kernel) (by decide +kernel)
theorem w_21 : (.selects RX3 yX3_restOf yX3_restOf : Cond) ∈ TB := TB_mem 21 (by decide +kernel) (by decide +kernel)
theorem w_22 : (.selects RX3 yX3_followNext yX3_followNext : Cond) ∈ TB := TB_mem 22 (by decide +kernel) (by decide +kernel)
theorem w_23 : (.selects RX7 yX7_learnPair yX7_learnPair : Cond) ∈ TB := TB_mem 23 (by decide +kernel) (by decide +kernel)
theorem w_24 : (.selects RX7 yX7_noteSurprise yX7_noteSurprise : Cond) ∈ TB := TB_mem 24 (by decide +kernel) (by decide +kernel)
theorem w_25 : (.selects RX7 yX7_makeOlder yX7_makeOlder : Cond) ∈ TB := TB_mem 25 (by decide +kernel) (by decide +kernel)
theorem w_26 : (.selects RX8 yX8_succeeds yX8_succeeds : Cond) ∈ TB := TB_mem 26 (by decide +kernel) (by decide +kernel)
theorem w_27 : (.selects RX8 yX8_scriptDrifts yX8_scriptDrifts : Cond) ∈ TB := TB_mem 27 (by decide +kernel) (by decide +kernel)
theorem w_28 : (.selects RX8 yX8_scriptSets yX8_scriptSets : Cond) ∈ TB := TB_mem 28 (by decide +kernel) (by decide +kernel)
theorem w_29 : (.selects RX8 yX8_scriptLinks yX8_scriptLinks : Cond) ∈ TB := TB_mem 29 (by decide +kernel) (by decide +kernel)
theorem w_30 : (.selects RX8 yX8_chosenTableIs yX8_chosenTableIs : Cond) ∈ TB := TB_mem 30 (by decide +kernel) (by decide +kernel)
theorem w_31 : (.selects RX8 yX8_takeTurn yX8_takeTurn : Cond) ∈ TB := TB_mem 31 (by decide +kernel) (by decide +kernel)
theorem w_32 : (.selects RX9 yX9_refused yX9_refused : Cond) ∈ TB := TB_mem 32 (by decide +kernel) (by decide +kernel)
theorem w_33 : (.selects RX9 yX9_wrongPlan yX9_wrongPlan : Cond) ∈ TB := TB_mem 33 (by decide +kernel) (by decide +kernel)
theorem w_34 : (.selects RX9 yX9_sign yX9_sign : Cond) ∈ TB := TB_mem 34 (by decide +kernel) (by decide +kernel)
theorem w_35 : (.selects RX9 yX9_taken yX9_taken : Cond) ∈ TB := TB_mem 35 (by decide +kernel) (by decide +kernel)
theorem w_36 : (.selects RX9 yX9_wrongWorld yX9_wrongWorld : Cond) ∈ TB := TB_mem 36 (by decide +kernel) (by decide +kernel)
theorem w_37 : (.selects RX9 yX9_readEntry yX9_readEntry : Cond) ∈ TB := TB_mem 37 (by decide +kernel) (by decide +kernel)
theorem w_38 : (.selects RX9 yX9_number yX9_number : Cond) ∈ TB := TB_mem 38 (by decide +kernel) (by decide +kernel)
theorem w_39 : (.selects RX9 yX9_remember yX9_remember : Cond) ∈ TB := TB_mem 39 (by decide +kernel) (by decide +kernel)
theorem w_40 : (.selects RX9 yX9_runOn yX9_runOn : Cond) ∈ TB := TB_mem 40 (by decide +kernel) (by decide +kernel)
theorem w_41 : (.selects RX9 yX9_costOn yX9_costOn : Cond) ∈ TB := TB_mem 41 (by decide +kernel) (by decide +kernel)
theorem w_42 : (.selects RX9 yX9_choose yX9_choose : Cond) ∈ TB := TB_mem 42 (by decide +kernel) (by decide +kernel)
theorem w_43 : (.selects RX9 yX9_layRows yX9_layRows : Cond) ∈ TB := TB_mem 43 (by decide +kernel) (by decide +kernel)
theorem w_44 : (.selects RX9 yX9_payFor yX9_payFor : Cond) ∈ TB := TB_mem 44 (by decide +kernel) (by decide +kernel)
theorem w_45 : (.selects RX9 yX9_layText yX9_layText : Cond) ∈ TB := TB_mem 45 (by decide +kernel) (by decide +kernel)
theorem w_46 : (.selects RX9 yX9_command yX9_command : Cond) ∈ TB := TB_mem 46 (by decide +kernel) (by decide +kernel)
theorem w_47 : (.selects RX9 yX9_isChosen yX9_isChosen : Cond) ∈ TB := TB_mem 47 (by decide +kernel) (by decide +kernel)
theorem w_48 : (.selects RX9 yX9_turn yX9_turn : Cond) ∈ TB := TB_mem 48 (by decide +kernel) (by decide +kernel)
theorem w_49 : (.initialized RL : Cond) ∈ TB := TB_mem 49 (by decide +kernel) (by decide +kernel)
theorem w_50 : (.initialized RX8 : Cond) ∈ TB := TB_mem 50 (by decide +kernel) (by decide +kernel)
theorem w_51 : (.initialized RX6 : Cond) ∈ TB := TB_mem 51 (by decide +kernel) (by decide +kernel)
theorem w_52 : (.initialized RX4 : Cond) ∈ TB := TB_mem 52 (by decide +kernel) (by decide +kernel)
theorem w_53 : (.initialized RX0 : Cond) ∈ TB := TB_mem 53 (by decide +kernel) (by decide +kernel)
theorem w_54 : (.initialized RX2 : Cond) ∈ TB := TB_mem 54 (by decide +kernel) (by decide +kernel)
theorem w_55 : (.initialized RX7 : Cond) ∈ TB := TB_mem 55 (by decide +kernel) (by decide +kernel)
theorem w_56 : (.initialized RX1 : Cond) ∈ TB := TB_mem 56 (by decide +kernel) (by decide +kernel)
theorem w_57 : (.initialized RX5 : Cond) ∈ TB := TB_mem 57 (by decide +kernel) (by decide +kernel)
theorem w_58 : (.initialized RX3 : Cond) ∈ TB := TB_mem 58 (by decide +kernel) (by decide +kernel)
theorem w_59 : (.initialized RX9 : Cond) ∈ TB := TB_mem 59 (by decide +kernel) (by decide +kernel)
theorem w_65 : (.initialized "java/lang/System" : Cond) ∈ TB := TB_mem 65 (by decide +kernel) (by decide +kernel)
theorem w_66 : (.initialized "java/lang/Math" : Cond) ∈ TB := TB_mem 66 (by decide +kernel) (by decide +kernel)
theorem w_73 : (.methodLink RX8 1 objectInit : Cond) ∈ TB := TB_mem 73 (by decide +kernel) (by decide +kernel)
theorem w_74 : (.instanceMethod objectInit : Cond) ∈ TB := TB_mem 74 (by decide +kernel) (by decide +kernel)
theorem w_75 : (.code objectInit ⟨#[0xb1]⟩ 1 none : Cond) ∈ TB := TB_mem 75 (by decide +kernel) (by decide +kernel)
theorem w_76 : (.classLink RX8 7 RX6 : Cond) ∈ TB := TB_mem 76 (by decide +kernel) (by decide +kernel)
theorem w_77 : (.instantiable RX6 2 : Cond) ∈ TB := TB_mem 77 (by decide +kernel) (by decide +kernel)
theorem w_79 : (.instanceMethod yX6_init : Cond) ∈ TB := TB_mem 79 (by decide +kernel) (by decide +kernel)
theorem w_80 : (.code yX6_init cX6_init 1 none : Cond) ∈ TB := TB_mem 80 (by decide +kernel) (by decide +kernel)
theorem w_81 : (.methodLink RX6 3 objectInit : Cond) ∈ TB := TB_mem 81 (by decide +kernel) (by decide +kernel)
theorem w_82 : (.fieldLink RX6 15 "SurprisedPlans$Text" "length" "I" : Cond) ∈ TB := TB_mem 82 (by decide +kernel) (by decide +kernel)
theorem w_83 : (.fieldLink RX8 305 "SurprisedPlans$Text" "length" "I" : Cond) ∈ TB := TB_mem 83 (by decide +kernel) (by decide +kernel)
theorem w_84 : (.fieldLink RX6 9 "SurprisedPlans$Text" "signs" "[C" : Cond) ∈ TB := TB_mem 84 (by decide +kernel) (by decide +kernel)
theorem w_90 : (.arrayClass .char : Cond) ∈ TB := TB_mem 90 (by decide +kernel) (by decide +kernel)
theorem w_91 : (.classLink RX8 16 RX0 : Cond) ∈ TB := TB_mem 91 (by decide +kernel) (by decide +kernel)
theorem w_92 : (.instantiable RX0 5 : Cond) ∈ TB := TB_mem 92 (by decide +kernel) (by decide +kernel)
theorem w_94 : (.instanceMethod yX0_init : Cond) ∈ TB := TB_mem 94 (by decide +kernel) (by decide +kernel)
theorem w_95 : (.code yX0_init cX0_init 1 none : Cond) ∈ TB := TB_mem 95 (by decide +kernel) (by decide +kernel)
theorem w_97 : (.instanceMethod yX4_init : Cond) ∈ TB := TB_mem 97 (by decide +kernel) (by decide +kernel)
theorem w_98 : (.code yX4_init cX4_init 1 none : Cond) ∈ TB := TB_mem 98 (by decide +kernel) (by decide +kernel)
theorem w_99 : (.methodLink RX4 1 objectInit : Cond) ∈ TB := TB_mem 99 (by decide +kernel) (by decide +kernel)
theorem w_100 : (.fieldLink RX0 19 "SurprisedPlans$EntryReader" "place" "I" : Cond) ∈ TB := TB_mem 100 (by decide +kernel) (by decide +kernel)
theorem w_101 : (.fieldLink RX0 25 "SurprisedPlans$EntryReader" "first" "I" : Cond) ∈ TB := TB_mem 101 (by decide +kernel) (by decide +kernel)
theorem w_102 : (.fieldLink RX8 323 "SurprisedPlans$EntryReader" "first" "I" : Cond) ∈ TB := TB_mem 102 (by decide +kernel) (by decide +kernel)
theorem w_103 : (.fieldLink RX0 32 "SurprisedPlans$EntryReader" "second" "I" : Cond) ∈ TB := TB_mem 103 (by decide +kernel) (by decide +kernel)
theorem w_104 : (.fieldLink RX8 326 "SurprisedPlans$EntryReader" "second" "I" : Cond) ∈ TB := TB_mem 104 (by decide +kernel) (by decide +kernel)
theorem w_105 : (.fieldLink RX0 49 "SurprisedPlans$EntryReader" "guess" "I" : Cond) ∈ TB := TB_mem 105 (by decide +kernel) (by decide +kernel)
theorem w_106 : (.fieldLink RX8 332 "SurprisedPlans$EntryReader" "guess" "I" : Cond) ∈ TB := TB_mem 106 (by decide +kernel) (by decide +kernel)
theorem w_107 : (.fieldLink RX0 15 "SurprisedPlans$EntryReader" "number" "I" : Cond) ∈ TB := TB_mem 107 (by decide +kernel) (by decide +kernel)
theorem w_108 : (.fieldLink RX8 320 "SurprisedPlans$EntryReader" "number" "I" : Cond) ∈ TB := TB_mem 108 (by decide +kernel) (by decide +kernel)
theorem w_120 : (.classLink RX8 23 RX2 : Cond) ∈ TB := TB_mem 120 (by decide +kernel) (by decide +kernel)
theorem w_121 : (.instantiable RX2 4 : Cond) ∈ TB := TB_mem 121 (by decide +kernel) (by decide +kernel)
theorem w_123 : (.instanceMethod yX2_init : Cond) ∈ TB := TB_mem 123 (by decide +kernel) (by decide +kernel)
theorem w_124 : (.code yX2_init cX2_init 1 none : Cond) ∈ TB := TB_mem 124 (by decide +kernel) (by decide +kernel)
theorem w_126 : (.fieldLink RX2 15 "SurprisedPlans$PlanReader" "count" "I" : Cond) ∈ TB := TB_mem 126 (by decide +kernel) (by decide +kernel)
theorem w_127 : (.fieldLink RX3 95 "SurprisedPlans$PlanReader" "count" "I" : Cond) ∈ TB := TB_mem 127 (by decide +kernel) (by decide +kernel)
theorem w_128 : (.fieldLink RX2 19 "SurprisedPlans$PlanReader" "seen" "I" : Cond) ∈ TB := TB_mem 128 (by decide +kernel) (by decide +kernel)
theorem w_129 : (.fieldLink RX2 22 "SurprisedPlans$PlanReader" "expectsTable" "Z" : Cond) ∈ TB := TB_mem 129 (by decide +kernel) (by decide +kernel)
theorem w_130 : (.fieldLink RX2 9 "SurprisedPlans$PlanReader" "order" "[I" : Cond) ∈ TB := TB_mem 130 (by decide +kernel) (by decide +kernel)
theorem w_140 : (.arrayClass .int : Cond) ∈ TB := TB_mem 140 (by decide +kernel) (by decide +kernel)
theorem w_141 : (.classLink RX8 30 RX7 : Cond) ∈ TB := TB_mem 141 (by decide +kernel) (by decide +kernel)
theorem w_142 : (.instantiable RX7 13 : Cond) ∈ TB := TB_mem 142 (by decide +kernel) (by decide +kernel)
theorem w_144 : (.instanceMethod yX7_init : Cond) ∈ TB := TB_mem 144 (by decide +kernel) (by decide +kernel)
theorem w_145 : (.code yX7_init cX7_init 1 none : Cond) ∈ TB := TB_mem 145 (by decide +kernel) (by decide +kernel)
theorem w_146 : (.methodLink RX7 3 objectInit : Cond) ∈ TB := TB_mem 146 (by decide +kernel) (by decide +kernel)
theorem w_149 : (.methodLink RX7 19 ⟨"[I", "clone", "()Ljava/lang/Object;"⟩ : Cond) ∈ TB := TB_mem 149 (by decide +kernel) (by decide +kernel)
theorem w_150 : (.sameMethod "[I" "java/lang/Object" "clone" "()Ljava/lang/Object;" : Cond) ∈ TB := TB_mem 150 (by decide +kernel) (by decide +kernel)
theorem w_151 : (.native ⟨"java/lang/Object", "clone", "()Ljava/lang/Object;"⟩ : Cond) ∈ TB := TB_mem 151 (by decide +kernel) (by decide +kernel)
theorem w_152 : (.instanceMethod ⟨"java/lang/Object", "clone", "()Ljava/lang/Object;"⟩ : Cond) ∈ TB := TB_mem 152 (by decide +kernel) (by decide +kernel)
theorem w_153 : (.selects "[I" ⟨"[I", "clone", "()Ljava/lang/Object;"⟩ ⟨"java/lang/Object", "clone", "()Ljava/lang/Object;"⟩ : Cond) ∈ TB := TB_mem 153 (by decide +kernel) (by decide +kernel)
theorem w_155 : (.classLink RX7 20 "[I" : Cond) ∈ TB := TB_mem 155 (by decide +kernel) (by decide +kernel)
theorem w_156 : (.fieldLink RX7 48 "SurprisedPlans$World" "tables" "I" : Cond) ∈ TB := TB_mem 156 (by decide +kernel) (by decide +kernel)
theorem w_157 : (.fieldLink RX8 359 "SurprisedPlans$World" "tables" "I" : Cond) ∈ TB := TB_mem 157 (by decide +kernel) (by decide +kernel)
theorem w_158 : (.fieldLink RX7 52 "SurprisedPlans$World" "weeks" "I" : Cond) ∈ TB := TB_mem 158 (by decide +kernel) (by decide +kernel)
theorem w_159 : (.fieldLink RX8 291 "SurprisedPlans$World" "weeks" "I" : Cond) ∈ TB := TB_mem 159 (by decide +kernel) (by decide +kernel)
theorem w_160 : (.fieldLink RX7 55 "SurprisedPlans$World" "runs" "I" : Cond) ∈ TB := TB_mem 160 (by decide +kernel) (by decide +kernel)
theorem w_161 : (.fieldLink RX7 58 "SurprisedPlans$World" "surprises" "I" : Cond) ∈ TB := TB_mem 161 (by decide +kernel) (by decide +kernel)
theorem w_162 : (.fieldLink RX8 278 "SurprisedPlans$World" "surprises" "I" : Cond) ∈ TB := TB_mem 162 (by decide +kernel) (by decide +kernel)
theorem w_163 : (.fieldLink RX7 9 "SurprisedPlans$World" "sums" "[J" : Cond) ∈ TB := TB_mem 163 (by decide +kernel) (by decide +kernel)
theorem w_164 : (.fieldLink RX7 24 "SurprisedPlans$World" "settings" "[I" : Cond) ∈ TB := TB_mem 164 (by decide +kernel) (by decide +kernel)
theorem w_165 : (.fieldLink RX7 27 "SurprisedPlans$World" "sizes" "[I" : Cond) ∈ TB := TB_mem 165 (by decide +kernel) (by decide +kernel)
theorem w_166 : (.fieldLink RX7 30 "SurprisedPlans$World" "guesses" "[I" : Cond) ∈ TB := TB_mem 166 (by decide +kernel) (by decide +kernel)
theorem w_167 : (.fieldLink RX7 33 "SurprisedPlans$World" "shares" "[I" : Cond) ∈ TB := TB_mem 167 (by decide +kernel) (by decide +kernel)
theorem w_168 : (.fieldLink RX7 36 "SurprisedPlans$World" "memories" "[I" : Cond) ∈ TB := TB_mem 168 (by decide +kernel) (by decide +kernel)
theorem w_169 : (.fieldLink RX7 39 "SurprisedPlans$World" "ages" "[I" : Cond) ∈ TB := TB_mem 169 (by decide +kernel) (by decide +kernel)
theorem w_170 : (.fieldLink RX7 42 "SurprisedPlans$World" "surprisesOf" "[I" : Cond) ∈ TB := TB_mem 170 (by decide +kernel) (by decide +kernel)
theorem w_171 : (.fieldLink RX7 45 "SurprisedPlans$World" "told" "[I" : Cond) ∈ TB := TB_mem 171 (by decide +kernel) (by decide +kernel)
theorem w_199 : (.arrayClass .long : Cond) ∈ TB := TB_mem 199 (by decide +kernel) (by decide +kernel)
theorem w_200 : (.classLink RX8 40 RX1 : Cond) ∈ TB := TB_mem 200 (by decide +kernel) (by decide +kernel)
theorem w_201 : (.instantiable RX1 3 : Cond) ∈ TB := TB_mem 201 (by decide +kernel) (by decide +kernel)
theorem w_202 : (.methodLink RX8 42 yX1_init : Cond) ∈ TB := TB_mem 202 (by decide +kernel) (by decide +kernel)
theorem w_203 : (.instanceMethod yX1_init : Cond) ∈ TB := TB_mem 203 (by decide +kernel) (by decide +kernel)
theorem w_204 : (.code yX1_init cX1_init 2 none : Cond) ∈ TB := TB_mem 204 (by decide +kernel) (by decide +kernel)
theorem w_205 : (.methodLink RX1 3 objectInit : Cond) ∈ TB := TB_mem 205 (by decide +kernel) (by decide +kernel)
theorem w_206 : (.classLink RX1 9 RX7 : Cond) ∈ TB := TB_mem 206 (by decide +kernel) (by decide +kernel)
theorem w_209 : (.fieldLink RX1 11 "SurprisedPlans$History" "states" "[LSurprisedPlans$World;" : Cond) ∈ TB := TB_mem 209 (by decide +kernel) (by decide +kernel)
theorem w_210 : (.fieldLink RX1 18 "SurprisedPlans$History" "count" "I" : Cond) ∈ TB := TB_mem 210 (by decide +kernel) (by decide +kernel)
theorem w_211 : (.fieldLink RX1 22 "SurprisedPlans$History" "next" "I" : Cond) ∈ TB := TB_mem 211 (by decide +kernel) (by decide +kernel)
theorem w_219 : (.classLink RX8 47 RX5 : Cond) ∈ TB := TB_mem 219 (by decide +kernel) (by decide +kernel)
theorem w_220 : (.instantiable RX5 2 : Cond) ∈ TB := TB_mem 220 (by decide +kernel) (by decide +kernel)
theorem w_221 : (.methodLink RX8 49 yX5_init : Cond) ∈ TB := TB_mem 221 (by decide +kernel) (by decide +kernel)
theorem w_222 : (.instanceMethod yX5_init : Cond) ∈ TB := TB_mem 222 (by decide +kernel) (by decide +kernel)
theorem w_223 : (.code yX5_init cX5_init 2 none : Cond) ∈ TB := TB_mem 223 (by decide +kernel) (by decide +kernel)
theorem w_224 : (.methodLink RX5 3 objectInit : Cond) ∈ TB := TB_mem 224 (by decide +kernel) (by decide +kernel)
theorem w_225 : (.classLink RX5 9 RX7 : Cond) ∈ TB := TB_mem 225 (by decide +kernel) (by decide +kernel)
theorem w_227 : (.fieldLink RX5 11 "SurprisedPlans$Slots" "states" "[LSurprisedPlans$World;" : Cond) ∈ TB := TB_mem 227 (by decide +kernel) (by decide +kernel)
theorem w_228 : (.fieldLink RX5 17 "SurprisedPlans$Slots" "filled" "[Z" : Cond) ∈ TB := TB_mem 228 (by decide +kernel) (by decide +kernel)
theorem w_234 : (.arrayClass .boolean : Cond) ∈ TB := TB_mem 234 (by decide +kernel) (by decide +kernel)
theorem w_235 : (.classLink RX8 54 RX3 : Cond) ∈ TB := TB_mem 235 (by decide +kernel) (by decide +kernel)
theorem w_236 : (.instantiable RX3 9 : Cond) ∈ TB := TB_mem 236 (by decide +kernel) (by decide +kernel)
theorem w_238 : (.instanceMethod yX3_init : Cond) ∈ TB := TB_mem 238 (by decide +kernel) (by decide +kernel)
theorem w_239 : (.code yX3_init cX3_init 1 none : Cond) ∈ TB := TB_mem 239 (by decide +kernel) (by decide +kernel)
theorem w_240 : (.methodLink RX3 3 objectInit : Cond) ∈ TB := TB_mem 240 (by decide +kernel) (by decide +kernel)
theorem w_241 : (.fieldLink RX3 9 "SurprisedPlans$Planner" "sizes" "[I" : Cond) ∈ TB := TB_mem 241 (by decide +kernel) (by decide +kernel)
theorem w_242 : (.fieldLink RX3 15 "SurprisedPlans$Planner" "shares" "[I" : Cond) ∈ TB := TB_mem 242 (by decide +kernel) (by decide +kernel)
theorem w_243 : (.fieldLink RX3 18 "SurprisedPlans$Planner" "rowsOf" "[J" : Cond) ∈ TB := TB_mem 243 (by decide +kernel) (by decide +kernel)
theorem w_244 : (.fieldLink RX3 22 "SurprisedPlans$Planner" "restOf" "[J" : Cond) ∈ TB := TB_mem 244 (by decide +kernel) (by decide +kernel)
theorem w_245 : (.fieldLink RX3 25 "SurprisedPlans$Planner" "nextOf" "[I" : Cond) ∈ TB := TB_mem 245 (by decide +kernel) (by decide +kernel)
theorem w_246 : (.fieldLink RX3 28 "SurprisedPlans$Planner" "tableAt" "[I" : Cond) ∈ TB := TB_mem 246 (by decide +kernel) (by decide +kernel)
theorem w_247 : (.fieldLink RX3 31 "SurprisedPlans$Planner" "wayAt" "[I" : Cond) ∈ TB := TB_mem 247 (by decide +kernel) (by decide +kernel)
theorem w_248 : (.fieldLink RX3 34 "SurprisedPlans$Planner" "whole" "I" : Cond) ∈ TB := TB_mem 248 (by decide +kernel) (by decide +kernel)
theorem w_249 : (.fieldLink RX3 38 "SurprisedPlans$Planner" "count" "I" : Cond) ∈ TB := TB_mem 249 (by decide +kernel) (by decide +kernel)
theorem w_269 : (.fieldLink RX8 10 "SurprisedPlans" "text" "LSurprisedPlans$Text;" : Cond) ∈ TB := TB_mem 269 (by decide +kernel) (by decide +kernel)
theorem w_270 : (.fieldLink RX8 19 "SurprisedPlans" "entryReader" "LSurprisedPlans$EntryReader;" : Cond) ∈ TB := TB_mem 270 (by decide +kernel) (by decide +kernel)
theorem w_271 : (.fieldLink RX8 26 "SurprisedPlans" "planReader" "LSurprisedPlans$PlanReader;" : Cond) ∈ TB := TB_mem 271 (by decide +kernel) (by decide +kernel)
theorem w_272 : (.fieldLink RX8 33 "SurprisedPlans" "world" "LSurprisedPlans$World;" : Cond) ∈ TB := TB_mem 272 (by decide +kernel) (by decide +kernel)
theorem w_273 : (.fieldLink RX8 37 "SurprisedPlans" "copy" "LSurprisedPlans$World;" : Cond) ∈ TB := TB_mem 273 (by decide +kernel) (by decide +kernel)
theorem w_274 : (.fieldLink RX8 43 "SurprisedPlans" "history" "LSurprisedPlans$History;" : Cond) ∈ TB := TB_mem 274 (by decide +kernel) (by decide +kernel)
theorem w_275 : (.fieldLink RX8 50 "SurprisedPlans" "slots" "LSurprisedPlans$Slots;" : Cond) ∈ TB := TB_mem 275 (by decide +kernel) (by decide +kernel)
theorem w_276 : (.fieldLink RX8 57 "SurprisedPlans" "chosen" "LSurprisedPlans$Planner;" : Cond) ∈ TB := TB_mem 276 (by decide +kernel) (by decide +kernel)
theorem w_277 : (.fieldLink RX8 61 "SurprisedPlans" "other" "LSurprisedPlans$Planner;" : Cond) ∈ TB := TB_mem 277 (by decide +kernel) (by decide +kernel)
theorem w_297 : (.methodLink RL 118 yX8_clearText : Cond) ∈ TB := TB_mem 297 (by decide +kernel) (by decide +kernel)
theorem w_298 : (.instanceMethod yX8_clearText : Cond) ∈ TB := TB_mem 298 (by decide +kernel) (by decide +kernel)
theorem w_299 : (.selects RX8 yX8_clearText yX8_clearText : Cond) ∈ TB := TB_mem 299 (by decide +kernel) (by decide +kernel)
theorem w_300 : (.code yX8_clearText cX8_clearText 1 (some .int) : Cond) ∈ TB := TB_mem 300 (by decide +kernel) (by decide +kernel)
theorem w_301 : (.methodLink RX8 83 yX6_empty : Cond) ∈ TB := TB_mem 301 (by decide +kernel) (by decide +kernel)
theorem w_302 : (.instanceMethod yX6_empty : Cond) ∈ TB := TB_mem 302 (by decide +kernel) (by decide +kernel)
theorem w_303 : (.selects RX6 yX6_empty yX6_empty : Cond) ∈ TB := TB_mem 303 (by decide +kernel) (by decide +kernel)
theorem w_304 : (.code yX6_empty cX6_empty 2 (some .int) : Cond) ∈ TB := TB_mem 304 (by decide +kernel) (by decide +kernel)
theorem w_305 : (.methodLink RL 122 yX8_errorPosition : Cond) ∈ TB := TB_mem 305 (by decide +kernel) (by decide +kernel)
theorem w_306 : (.instanceMethod yX8_errorPosition : Cond) ∈ TB := TB_mem 306 (by decide +kernel) (by decide +kernel)
theorem w_307 : (.selects RX8 yX8_errorPosition yX8_errorPosition : Cond) ∈ TB := TB_mem 307 (by decide +kernel) (by decide +kernel)
theorem w_308 : (.code yX8_errorPosition cX8_errorPosition 2 (some .int) : Cond) ∈ TB := TB_mem 308 (by decide +kernel) (by decide +kernel)
theorem w_309 : (.methodLink RX8 87 yX6_firstErrorFor : Cond) ∈ TB := TB_mem 309 (by decide +kernel) (by decide +kernel)
theorem w_310 : (.instanceMethod yX6_firstErrorFor : Cond) ∈ TB := TB_mem 310 (by decide +kernel) (by decide +kernel)
theorem w_311 : (.selects RX6 yX6_firstErrorFor yX6_firstErrorFor : Cond) ∈ TB := TB_mem 311 (by decide +kernel) (by decide +kernel)
theorem w_312 : (.code yX6_firstErrorFor cX6_firstErrorFor 3 (some .int) : Cond) ∈ TB := TB_mem 312 (by decide +kernel) (by decide +kernel)
theorem w_313 : (.methodLink RX6 23 ⟨RX4, "begin", "()V"⟩ : Cond) ∈ TB := TB_mem 313 (by decide +kernel) (by decide +kernel)
theorem w_315 : (.sameMethod RX4 RX4 "begin" "()V" : Cond) ∈ TB := TB_mem 315 (by decide +kernel) (by decide +kernel)
theorem w_316 : (.selects RX0 ⟨RX4, "begin", "()V"⟩ yX0_begin : Cond) ∈ TB := TB_mem 316 (by decide +kernel) (by decide +kernel)
theorem w_317 : (.instanceMethod yX0_begin : Cond) ∈ TB := TB_mem 317 (by decide +kernel) (by decide +kernel)
theorem w_318 : (.code yX0_begin cX0_begin 1 none : Cond) ∈ TB := TB_mem 318 (by decide +kernel) (by decide +kernel)
theorem w_319 : (.methodLink RX0 11 yX0_expect : Cond) ∈ TB := TB_mem 319 (by decide +kernel) (by decide +kernel)
theorem w_321 : (.instanceMethod yX0_expect : Cond) ∈ TB := TB_mem 321 (by decide +kernel) (by decide +kernel)
theorem w_322 : (.code yX0_expect cX0_expect 2 (some .boolean) : Cond) ∈ TB := TB_mem 322 (by decide +kernel) (by decide +kernel)
theorem w_323 : (.selects RX2 ⟨RX4, "begin", "()V"⟩ yX2_begin : Cond) ∈ TB := TB_mem 323 (by decide +kernel) (by decide +kernel)
theorem w_324 : (.instanceMethod yX2_begin : Cond) ∈ TB := TB_mem 324 (by decide +kernel) (by decide +kernel)
theorem w_325 : (.code yX2_begin cX2_begin 1 none : Cond) ∈ TB := TB_mem 325 (by decide +kernel) (by decide +kernel)
theorem w_326 : (.methodLink RX6 28 yX6_signAt : Cond) ∈ TB := TB_mem 326 (by decide +kernel) (by decide +kernel)
theorem w_327 : (.instanceMethod yX6_signAt : Cond) ∈ TB := TB_mem 327 (by decide +kernel) (by decide +kernel)
theorem w_328 : (.selects RX6 yX6_signAt yX6_signAt : Cond) ∈ TB := TB_mem 328 (by decide +kernel) (by decide +kernel)
theorem w_329 : (.code yX6_signAt cX6_signAt 2 (some .int) : Cond) ∈ TB := TB_mem 329 (by decide +kernel) (by decide +kernel)
theorem w_331 : (.static yX8_isIn : Cond) ∈ TB := TB_mem 331 (by decide +kernel) (by decide +kernel)
theorem w_332 : (.code yX8_isIn cX8_isIn 3 (some .boolean) : Cond) ∈ TB := TB_mem 332 (by decide +kernel) (by decide +kernel)
theorem w_333 : (.methodLink RX6 32 ⟨RX4, "takes", "(I)Z"⟩ : Cond) ∈ TB := TB_mem 333 (by decide +kernel) (by decide +kernel)
theorem w_335 : (.sameMethod RX4 RX4 "takes" "(I)Z" : Cond) ∈ TB := TB_mem 335 (by decide +kernel) (by decide +kernel)
theorem w_336 : (.selects RX0 ⟨RX4, "takes", "(I)Z"⟩ yX0_takes : Cond) ∈ TB := TB_mem 336 (by decide +kernel) (by decide +kernel)
theorem w_337 : (.instanceMethod yX0_takes : Cond) ∈ TB := TB_mem 337 (by decide +kernel) (by decide +kernel)
theorem w_338 : (.code yX0_takes cX0_takes 2 (some .boolean) : Cond) ∈ TB := TB_mem 338 (by decide +kernel) (by decide +kernel)
theorem w_339 : (.methodLink RX0 22 yX0_takesEntry : Cond) ∈ TB := TB_mem 339 (by decide +kernel) (by decide +kernel)
theorem w_341 : (.instanceMethod yX0_takesEntry : Cond) ∈ TB := TB_mem 341 (by decide +kernel) (by decide +kernel)
theorem w_342 : (.code yX0_takesEntry cX0_takesEntry 2 (some .boolean) : Cond) ∈ TB := TB_mem 342 (by decide +kernel) (by decide +kernel)
theorem w_344 : (.methodLink RX0 35 yX0_takesDigit : Cond) ∈ TB := TB_mem 344 (by decide +kernel) (by decide +kernel)
theorem w_346 : (.instanceMethod yX0_takesDigit : Cond) ∈ TB := TB_mem 346 (by decide +kernel) (by decide +kernel)
theorem w_347 : (.code yX0_takesDigit cX0_takesDigit 3 (some .boolean) : Cond) ∈ TB := TB_mem 347 (by decide +kernel) (by decide +kernel)
theorem w_348 : (.methodLink RX0 39 yX0_takesEnd : Cond) ∈ TB := TB_mem 348 (by decide +kernel) (by decide +kernel)
theorem w_350 : (.instanceMethod yX0_takesEnd : Cond) ∈ TB := TB_mem 350 (by decide +kernel) (by decide +kernel)
theorem w_351 : (.code yX0_takesEnd cX0_takesEnd 2 (some .boolean) : Cond) ∈ TB := TB_mem 351 (by decide +kernel) (by decide +kernel)
theorem w_352 : (.methodLink RX0 45 yX0_isComplete : Cond) ∈ TB := TB_mem 352 (by decide +kernel) (by decide +kernel)
theorem w_353 : (.instanceMethod yX0_isComplete : Cond) ∈ TB := TB_mem 353 (by decide +kernel) (by decide +kernel)
theorem w_354 : (.selects RX0 yX0_isComplete yX0_isComplete : Cond) ∈ TB := TB_mem 354 (by decide +kernel) (by decide +kernel)
theorem w_355 : (.code yX0_isComplete cX0_isComplete 1 (some .boolean) : Cond) ∈ TB := TB_mem 355 (by decide +kernel) (by decide +kernel)
theorem w_356 : (.methodLink RX0 42 yX0_takesComma : Cond) ∈ TB := TB_mem 356 (by decide +kernel) (by decide +kernel)
theorem w_358 : (.instanceMethod yX0_takesComma : Cond) ∈ TB := TB_mem 358 (by decide +kernel) (by decide +kernel)
theorem w_359 : (.code yX0_takesComma cX0_takesComma 2 (some .boolean) : Cond) ∈ TB := TB_mem 359 (by decide +kernel) (by decide +kernel)
theorem w_360 : (.selects RX2 ⟨RX4, "takes", "(I)Z"⟩ yX2_takes : Cond) ∈ TB := TB_mem 360 (by decide +kernel) (by decide +kernel)
theorem w_361 : (.instanceMethod yX2_takes : Cond) ∈ TB := TB_mem 361 (by decide +kernel) (by decide +kernel)
theorem w_362 : (.code yX2_takes cX2_takes 3 (some .boolean) : Cond) ∈ TB := TB_mem 362 (by decide +kernel) (by decide +kernel)
theorem w_365 : (.static yX8_holds : Cond) ∈ TB := TB_mem 365 (by decide +kernel) (by decide +kernel)
theorem w_366 : (.code yX8_holds cX8_holds 2 (some .boolean) : Cond) ∈ TB := TB_mem 366 (by decide +kernel) (by decide +kernel)
theorem w_367 : (.methodLink RX6 36 ⟨RX4, "isComplete", "()Z"⟩ : Cond) ∈ TB := TB_mem 367 (by decide +kernel) (by decide +kernel)
theorem w_369 : (.sameMethod RX4 RX4 "isComplete" "()Z" : Cond) ∈ TB := TB_mem 369 (by decide +kernel) (by decide +kernel)
theorem w_370 : (.selects RX0 ⟨RX4, "isComplete", "()Z"⟩ yX0_isComplete : Cond) ∈ TB := TB_mem 370 (by decide +kernel) (by decide +kernel)
theorem w_371 : (.selects RX2 ⟨RX4, "isComplete", "()Z"⟩ yX2_isComplete : Cond) ∈ TB := TB_mem 371 (by decide +kernel) (by decide +kernel)
theorem w_372 : (.instanceMethod yX2_isComplete : Cond) ∈ TB := TB_mem 372 (by decide +kernel) (by decide +kernel)
theorem w_373 : (.code yX2_isComplete cX2_isComplete 1 (some .boolean) : Cond) ∈ TB := TB_mem 373 (by decide +kernel) (by decide +kernel)
theorem w_374 : (.methodLink RL 194 yX8_worst : Cond) ∈ TB := TB_mem 374 (by decide +kernel) (by decide +kernel)
theorem w_375 : (.instanceMethod yX8_worst : Cond) ∈ TB := TB_mem 375 (by decide +kernel) (by decide +kernel)
theorem w_376 : (.selects RX8 yX8_worst yX8_worst : Cond) ∈ TB := TB_mem 376 (by decide +kernel) (by decide +kernel)
theorem w_377 : (.code yX8_worst cX8_worst 1 (some .int) : Cond) ∈ TB := TB_mem 377 (by decide +kernel) (by decide +kernel)
theorem w_378 : (.methodLink RX8 258 yX7_mostWronglyBelieved : Cond) ∈ TB := TB_mem 378 (by decide +kernel) (by decide +kernel)
theorem w_379 : (.instanceMethod yX7_mostWronglyBelieved : Cond) ∈ TB := TB_mem 379 (by decide +kernel) (by decide +kernel)
theorem w_380 : (.selects RX7 yX7_mostWronglyBelieved yX7_mostWronglyBelieved : Cond) ∈ TB := TB_mem 380 (by decide +kernel) (by decide +kernel)
theorem w_381 : (.code yX7_mostWronglyBelieved cX7_mostWronglyBelieved 6 (some .int) : Cond) ∈ TB := TB_mem 381 (by decide +kernel) (by decide +kernel)
theorem w_383 : (.static yX8_pairIndex : Cond) ∈ TB := TB_mem 383 (by decide +kernel) (by decide +kernel)
theorem w_384 : (.code yX8_pairIndex cX8_pairIndex 4 (some .int) : Cond) ∈ TB := TB_mem 384 (by decide +kernel) (by decide +kernel)
theorem w_385 : (.methodLink RX8 386 Lib.Math.min.name : Cond) ∈ TB := TB_mem 385 (by decide +kernel) (by decide +kernel)
theorem w_386 : (.static Lib.Math.min.name : Cond) ∈ TB := TB_mem 386 (by decide +kernel) (by decide +kernel)
theorem w_387 : (.code Lib.Math.min.name Lib.Math.min.code 2 (some .int) : Cond) ∈ TB := TB_mem 387 (by decide +kernel) (by decide +kernel)
theorem w_388 : (.methodLink RX8 391 Lib.Math.max.name : Cond) ∈ TB := TB_mem 388 (by decide +kernel) (by decide +kernel)
theorem w_389 : (.static Lib.Math.max.name : Cond) ∈ TB := TB_mem 389 (by decide +kernel) (by decide +kernel)
theorem w_390 : (.code Lib.Math.max.name Lib.Math.max.code 2 (some .int) : Cond) ∈ TB := TB_mem 390 (by decide +kernel) (by decide +kernel)
theorem w_391 : (.methodLink RX7 85 yX7_isLinked : Cond) ∈ TB := TB_mem 391 (by decide +kernel) (by decide +kernel)
theorem w_392 : (.instanceMethod yX7_isLinked : Cond) ∈ TB := TB_mem 392 (by decide +kernel) (by decide +kernel)
theorem w_393 : (.selects RX7 yX7_isLinked yX7_isLinked : Cond) ∈ TB := TB_mem 393 (by decide +kernel) (by decide +kernel)
theorem w_394 : (.code yX7_isLinked cX7_isLinked 2 (some .boolean) : Cond) ∈ TB := TB_mem 394 (by decide +kernel) (by decide +kernel)
theorem w_396 : (.methodLink RX7 117 yX7_differenceOf : Cond) ∈ TB := TB_mem 396 (by decide +kernel) (by decide +kernel)
theorem w_398 : (.instanceMethod yX7_differenceOf : Cond) ∈ TB := TB_mem 398 (by decide +kernel) (by decide +kernel)
theorem w_399 : (.code yX7_differenceOf cX7_differenceOf 2 (some .int) : Cond) ∈ TB := TB_mem 399 (by decide +kernel) (by decide +kernel)
theorem w_400 : (.methodLink RX7 88 yX7_shareOf : Cond) ∈ TB := TB_mem 400 (by decide +kernel) (by decide +kernel)
theorem w_401 : (.instanceMethod yX7_shareOf : Cond) ∈ TB := TB_mem 401 (by decide +kernel) (by decide +kernel)
theorem w_402 : (.selects RX7 yX7_shareOf yX7_shareOf : Cond) ∈ TB := TB_mem 402 (by decide +kernel) (by decide +kernel)
theorem w_403 : (.code yX7_shareOf cX7_shareOf 3 (some .int) : Cond) ∈ TB := TB_mem 403 (by decide +kernel) (by decide +kernel)
theorem w_404 : (.methodLink RX7 129 Lib.Math.abs.name : Cond) ∈ TB := TB_mem 404 (by decide +kernel) (by decide +kernel)
theorem w_405 : (.static Lib.Math.abs.name : Cond) ∈ TB := TB_mem 405 (by decide +kernel) (by decide +kernel)
theorem w_406 : (.code Lib.Math.abs.name Lib.Math.abs.code 1 (some .int) : Cond) ∈ TB := TB_mem 406 (by decide +kernel) (by decide +kernel)
theorem w_407 : (.methodLink RL 109 yL_append : Cond) ∈ TB := TB_mem 407 (by decide +kernel) (by decide +kernel)
theorem w_408 : (.static yL_append : Cond) ∈ TB := TB_mem 408 (by decide +kernel) (by decide +kernel)
theorem w_409 : (.codeWith yL_append cL_append 4 (some .int) [(0, 9, 12, 13), (0, 9, 15, 15)] : Cond) ∈ TB := TB_mem 409 (by decide +kernel) (by decide +kernel)
theorem w_410 : (.classLink RL 13 "java/lang/IllegalArgumentException" : Cond) ∈ TB := TB_mem 410 (by decide +kernel) (by decide +kernel)
theorem w_411 : (.classLink RL 15 "java/lang/IllegalStateException" : Cond) ∈ TB := TB_mem 411 (by decide +kernel) (by decide +kernel)
theorem w_412 : (.methodLink RL 7 yX8_append : Cond) ∈ TB := TB_mem 412 (by decide +kernel) (by decide +kernel)
theorem w_413 : (.instanceMethod yX8_append : Cond) ∈ TB := TB_mem 413 (by decide +kernel) (by decide +kernel)
theorem w_414 : (.selects RX8 yX8_append yX8_append : Cond) ∈ TB := TB_mem 414 (by decide +kernel) (by decide +kernel)
theorem w_415 : (.code yX8_append cX8_append 2 (some .int) : Cond) ∈ TB := TB_mem 415 (by decide +kernel) (by decide +kernel)
theorem w_416 : (.methodLink RX8 64 yX8_needRange : Cond) ∈ TB := TB_mem 416 (by decide +kernel) (by decide +kernel)
theorem w_417 : (.static yX8_needRange : Cond) ∈ TB := TB_mem 417 (by decide +kernel) (by decide +kernel)
theorem w_418 : (.code yX8_needRange cX8_needRange 3 none : Cond) ∈ TB := TB_mem 418 (by decide +kernel) (by decide +kernel)
theorem w_419 : (.methodLink RX8 340 yX8_isIn : Cond) ∈ TB := TB_mem 419 (by decide +kernel) (by decide +kernel)
theorem w_488 : (.methodLink RX8 68 yX6_isFull : Cond) ∈ TB := TB_mem 488 (by decide +kernel) (by decide +kernel)
theorem w_489 : (.instanceMethod yX6_isFull : Cond) ∈ TB := TB_mem 489 (by decide +kernel) (by decide +kernel)
theorem w_490 : (.selects RX6 yX6_isFull yX6_isFull : Cond) ∈ TB := TB_mem 490 (by decide +kernel) (by decide +kernel)
theorem w_491 : (.code yX6_isFull cX6_isFull 1 (some .boolean) : Cond) ∈ TB := TB_mem 491 (by decide +kernel) (by decide +kernel)
theorem w_508 : (.methodLink RX8 79 yX6_put : Cond) ∈ TB := TB_mem 508 (by decide +kernel) (by decide +kernel)
theorem w_509 : (.instanceMethod yX6_put : Cond) ∈ TB := TB_mem 509 (by decide +kernel) (by decide +kernel)
theorem w_510 : (.selects RX6 yX6_put yX6_put : Cond) ∈ TB := TB_mem 510 (by decide +kernel) (by decide +kernel)
theorem w_511 : (.code yX6_put cX6_put 2 (some .int) : Cond) ∈ TB := TB_mem 511 (by decide +kernel) (by decide +kernel)
theorem w_512 : (.methodLink RL 127 yL_load : Cond) ∈ TB := TB_mem 512 (by decide +kernel) (by decide +kernel)
theorem w_513 : (.static yL_load : Cond) ∈ TB := TB_mem 513 (by decide +kernel) (by decide +kernel)
theorem w_514 : (.codeWith yL_load cL_load 3 (some .int) [(0, 8, 11, 15)] : Cond) ∈ TB := TB_mem 514 (by decide +kernel) (by decide +kernel)
theorem w_515 : (.methodLink RL 17 yX8_load : Cond) ∈ TB := TB_mem 515 (by decide +kernel) (by decide +kernel)
theorem w_516 : (.instanceMethod yX8_load : Cond) ∈ TB := TB_mem 516 (by decide +kernel) (by decide +kernel)
theorem w_517 : (.selects RX8 yX8_load yX8_load : Cond) ∈ TB := TB_mem 517 (by decide +kernel) (by decide +kernel)
theorem w_518 : (.code yX8_load cX8_load 1 (some .int) : Cond) ∈ TB := TB_mem 518 (by decide +kernel) (by decide +kernel)
theorem w_520 : (.methodLink RX8 93 yX7_makeNew : Cond) ∈ TB := TB_mem 520 (by decide +kernel) (by decide +kernel)
theorem w_521 : (.instanceMethod yX7_makeNew : Cond) ∈ TB := TB_mem 521 (by decide +kernel) (by decide +kernel)
theorem w_522 : (.selects RX7 yX7_makeNew yX7_makeNew : Cond) ∈ TB := TB_mem 522 (by decide +kernel) (by decide +kernel)
theorem w_523 : (.code yX7_makeNew cX7_makeNew 2 none : Cond) ∈ TB := TB_mem 523 (by decide +kernel) (by decide +kernel)
theorem w_524 : (.methodLink RX7 61 arraycopyName : Cond) ∈ TB := TB_mem 524 (by decide +kernel) (by decide +kernel)
theorem w_525 : (.static arraycopyName : Cond) ∈ TB := TB_mem 525 (by decide +kernel) (by decide +kernel)
theorem w_526 : (.native arraycopyName : Cond) ∈ TB := TB_mem 526 (by decide +kernel) (by decide +kernel)
theorem w_527 : (.methodLink RX8 96 yX1_forgetAll : Cond) ∈ TB := TB_mem 527 (by decide +kernel) (by decide +kernel)
theorem w_528 : (.instanceMethod yX1_forgetAll : Cond) ∈ TB := TB_mem 528 (by decide +kernel) (by decide +kernel)
theorem w_529 : (.selects RX1 yX1_forgetAll yX1_forgetAll : Cond) ∈ TB := TB_mem 529 (by decide +kernel) (by decide +kernel)
theorem w_530 : (.code yX1_forgetAll cX1_forgetAll 1 none : Cond) ∈ TB := TB_mem 530 (by decide +kernel) (by decide +kernel)
theorem w_531 : (.methodLink RX8 99 yX5_emptyAll : Cond) ∈ TB := TB_mem 531 (by decide +kernel) (by decide +kernel)
theorem w_532 : (.instanceMethod yX5_emptyAll : Cond) ∈ TB := TB_mem 532 (by decide +kernel) (by decide +kernel)
theorem w_533 : (.selects RX5 yX5_emptyAll yX5_emptyAll : Cond) ∈ TB := TB_mem 533 (by decide +kernel) (by decide +kernel)
theorem w_534 : (.code yX5_emptyAll cX5_emptyAll 2 none : Cond) ∈ TB := TB_mem 534 (by decide +kernel) (by decide +kernel)
theorem w_535 : (.methodLink RX8 102 yX8_readEntries : Cond) ∈ TB := TB_mem 535 (by decide +kernel) (by decide +kernel)
theorem w_537 : (.instanceMethod yX8_readEntries : Cond) ∈ TB := TB_mem 537 (by decide +kernel) (by decide +kernel)
theorem w_538 : (.code yX8_readEntries cX8_readEntries 4 (some .int) : Cond) ∈ TB := TB_mem 538 (by decide +kernel) (by decide +kernel)
theorem w_539 : (.methodLink RX8 302 yX0_begin : Cond) ∈ TB := TB_mem 539 (by decide +kernel) (by decide +kernel)
theorem w_540 : (.methodLink RX8 308 yX6_signAt : Cond) ∈ TB := TB_mem 540 (by decide +kernel) (by decide +kernel)
theorem w_541 : (.methodLink RX8 311 yX8_doEntry : Cond) ∈ TB := TB_mem 541 (by decide +kernel) (by decide +kernel)
theorem w_543 : (.instanceMethod yX8_doEntry : Cond) ∈ TB := TB_mem 543 (by decide +kernel) (by decide +kernel)
theorem w_544 : (.code yX8_doEntry cX8_doEntry 2 (some .boolean) : Cond) ∈ TB := TB_mem 544 (by decide +kernel) (by decide +kernel)
theorem w_545 : (.methodLink RX8 317 yX0_isTable : Cond) ∈ TB := TB_mem 545 (by decide +kernel) (by decide +kernel)
theorem w_546 : (.instanceMethod yX0_isTable : Cond) ∈ TB := TB_mem 546 (by decide +kernel) (by decide +kernel)
theorem w_547 : (.selects RX0 yX0_isTable yX0_isTable : Cond) ∈ TB := TB_mem 547 (by decide +kernel) (by decide +kernel)
theorem w_548 : (.code yX0_isTable cX0_isTable 1 (some .boolean) : Cond) ∈ TB := TB_mem 548 (by decide +kernel) (by decide +kernel)
theorem w_549 : (.methodLink RX8 137 yX7_isFull : Cond) ∈ TB := TB_mem 549 (by decide +kernel) (by decide +kernel)
theorem w_550 : (.instanceMethod yX7_isFull : Cond) ∈ TB := TB_mem 550 (by decide +kernel) (by decide +kernel)
theorem w_551 : (.selects RX7 yX7_isFull yX7_isFull : Cond) ∈ TB := TB_mem 551 (by decide +kernel) (by decide +kernel)
theorem w_552 : (.code yX7_isFull cX7_isFull 1 (some .boolean) : Cond) ∈ TB := TB_mem 552 (by decide +kernel) (by decide +kernel)
theorem w_553 : (.methodLink RX8 144 yX7_addTable : Cond) ∈ TB := TB_mem 553 (by decide +kernel) (by decide +kernel)
theorem w_554 : (.instanceMethod yX7_addTable : Cond) ∈ TB := TB_mem 554 (by decide +kernel) (by decide +kernel)
theorem w_555 : (.selects RX7 yX7_addTable yX7_addTable : Cond) ∈ TB := TB_mem 555 (by decide +kernel) (by decide +kernel)
theorem w_556 : (.code yX7_addTable cX7_addTable 2 (some .int) : Cond) ∈ TB := TB_mem 556 (by decide +kernel) (by decide +kernel)
theorem w_557 : (.methodLink RX8 329 yX7_hasTwoTables : Cond) ∈ TB := TB_mem 557 (by decide +kernel) (by decide +kernel)
theorem w_558 : (.instanceMethod yX7_hasTwoTables : Cond) ∈ TB := TB_mem 558 (by decide +kernel) (by decide +kernel)
theorem w_559 : (.selects RX7 yX7_hasTwoTables yX7_hasTwoTables : Cond) ∈ TB := TB_mem 559 (by decide +kernel) (by decide +kernel)
theorem w_560 : (.code yX7_hasTwoTables cX7_hasTwoTables 3 (some .boolean) : Cond) ∈ TB := TB_mem 560 (by decide +kernel) (by decide +kernel)
theorem w_561 : (.methodLink RX7 67 yX7_hasTable : Cond) ∈ TB := TB_mem 561 (by decide +kernel) (by decide +kernel)
theorem w_562 : (.instanceMethod yX7_hasTable : Cond) ∈ TB := TB_mem 562 (by decide +kernel) (by decide +kernel)
theorem w_563 : (.selects RX7 yX7_hasTable yX7_hasTable : Cond) ∈ TB := TB_mem 563 (by decide +kernel) (by decide +kernel)
theorem w_564 : (.code yX7_hasTable cX7_hasTable 2 (some .boolean) : Cond) ∈ TB := TB_mem 564 (by decide +kernel) (by decide +kernel)
theorem w_565 : (.methodLink RX8 124 yX8_pairIndex : Cond) ∈ TB := TB_mem 565 (by decide +kernel) (by decide +kernel)
theorem w_566 : (.methodLink RX8 150 yX7_linkPair : Cond) ∈ TB := TB_mem 566 (by decide +kernel) (by decide +kernel)
theorem w_567 : (.instanceMethod yX7_linkPair : Cond) ∈ TB := TB_mem 567 (by decide +kernel) (by decide +kernel)
theorem w_568 : (.selects RX7 yX7_linkPair yX7_linkPair : Cond) ∈ TB := TB_mem 568 (by decide +kernel) (by decide +kernel)
theorem w_569 : (.code yX7_linkPair cX7_linkPair 4 (some .int) : Cond) ∈ TB := TB_mem 569 (by decide +kernel) (by decide +kernel)
theorem w_570 : (.methodLink RX7 96 yX7_forget : Cond) ∈ TB := TB_mem 570 (by decide +kernel) (by decide +kernel)
theorem w_571 : (.instanceMethod yX7_forget : Cond) ∈ TB := TB_mem 571 (by decide +kernel) (by decide +kernel)
theorem w_572 : (.selects RX7 yX7_forget yX7_forget : Cond) ∈ TB := TB_mem 572 (by decide +kernel) (by decide +kernel)
theorem w_573 : (.code yX7_forget cX7_forget 2 none : Cond) ∈ TB := TB_mem 573 (by decide +kernel) (by decide +kernel)
theorem w_574 : (.methodLink RX7 78 yX7_linkCount : Cond) ∈ TB := TB_mem 574 (by decide +kernel) (by decide +kernel)
theorem w_576 : (.instanceMethod yX7_linkCount : Cond) ∈ TB := TB_mem 576 (by decide +kernel) (by decide +kernel)
theorem w_577 : (.code yX7_linkCount cX7_linkCount 3 (some .int) : Cond) ∈ TB := TB_mem 577 (by decide +kernel) (by decide +kernel)
theorem w_578 : (.methodLink RX8 314 yX0_takes : Cond) ∈ TB := TB_mem 578 (by decide +kernel) (by decide +kernel)
theorem w_579 : (.methodLink RL 131 yL_about : Cond) ∈ TB := TB_mem 579 (by decide +kernel) (by decide +kernel)
theorem w_580 : (.static yL_about : Cond) ∈ TB := TB_mem 580 (by decide +kernel) (by decide +kernel)
theorem w_581 : (.codeWith yL_about cL_about 4 (some .int) [(0, 9, 12, 13)] : Cond) ∈ TB := TB_mem 581 (by decide +kernel) (by decide +kernel)
theorem w_582 : (.methodLink RL 21 yX8_about : Cond) ∈ TB := TB_mem 582 (by decide +kernel) (by decide +kernel)
theorem w_583 : (.instanceMethod yX8_about : Cond) ∈ TB := TB_mem 583 (by decide +kernel) (by decide +kernel)
theorem w_584 : (.selects RX8 yX8_about yX8_about : Cond) ∈ TB := TB_mem 584 (by decide +kernel) (by decide +kernel)
theorem w_585 : (.code yX8_about cX8_about 2 (some .int) : Cond) ∈ TB := TB_mem 585 (by decide +kernel) (by decide +kernel)
theorem w_586 : (.methodLink RX8 105 yX7_numberOf : Cond) ∈ TB := TB_mem 586 (by decide +kernel) (by decide +kernel)
theorem w_587 : (.instanceMethod yX7_numberOf : Cond) ∈ TB := TB_mem 587 (by decide +kernel) (by decide +kernel)
theorem w_588 : (.selects RX7 yX7_numberOf yX7_numberOf : Cond) ∈ TB := TB_mem 588 (by decide +kernel) (by decide +kernel)
theorem w_589 : (.code yX7_numberOf cX7_numberOf 2 (some .int) : Cond) ∈ TB := TB_mem 589 (by decide +kernel) (by decide +kernel)
theorem w_590 : (.methodLink RX7 82 yX7_memoryCount : Cond) ∈ TB := TB_mem 590 (by decide +kernel) (by decide +kernel)
theorem w_591 : (.instanceMethod yX7_memoryCount : Cond) ∈ TB := TB_mem 591 (by decide +kernel) (by decide +kernel)
theorem w_592 : (.selects RX7 yX7_memoryCount yX7_memoryCount : Cond) ∈ TB := TB_mem 592 (by decide +kernel) (by decide +kernel)
theorem w_593 : (.code yX7_memoryCount cX7_memoryCount 3 (some .int) : Cond) ∈ TB := TB_mem 593 (by decide +kernel) (by decide +kernel)
theorem w_594 : (.methodLink RL 134 yL_sum : Cond) ∈ TB := TB_mem 594 (by decide +kernel) (by decide +kernel)
theorem w_595 : (.static yL_sum : Cond) ∈ TB := TB_mem 595 (by decide +kernel) (by decide +kernel)
theorem w_596 : (.codeWith yL_sum cL_sum 4 (some .int) [(0, 8, 11, 13)] : Cond) ∈ TB := TB_mem 596 (by decide +kernel) (by decide +kernel)
theorem w_597 : (.methodLink RL 24 yX8_sum : Cond) ∈ TB := TB_mem 597 (by decide +kernel) (by decide +kernel)
theorem w_598 : (.instanceMethod yX8_sum : Cond) ∈ TB := TB_mem 598 (by decide +kernel) (by decide +kernel)
theorem w_599 : (.selects RX8 yX8_sum yX8_sum : Cond) ∈ TB := TB_mem 599 (by decide +kernel) (by decide +kernel)
theorem w_600 : (.code yX8_sum cX8_sum 2 (some .long) : Cond) ∈ TB := TB_mem 600 (by decide +kernel) (by decide +kernel)
theorem w_601 : (.methodLink RX8 109 yX7_sumOf : Cond) ∈ TB := TB_mem 601 (by decide +kernel) (by decide +kernel)
theorem w_602 : (.instanceMethod yX7_sumOf : Cond) ∈ TB := TB_mem 602 (by decide +kernel) (by decide +kernel)
theorem w_603 : (.selects RX7 yX7_sumOf yX7_sumOf : Cond) ∈ TB := TB_mem 603 (by decide +kernel) (by decide +kernel)
theorem w_604 : (.code yX7_sumOf cX7_sumOf 2 (some .long) : Cond) ∈ TB := TB_mem 604 (by decide +kernel) (by decide +kernel)
theorem w_605 : (.methodLink RL 137 yL_size : Cond) ∈ TB := TB_mem 605 (by decide +kernel) (by decide +kernel)
theorem w_606 : (.static yL_size : Cond) ∈ TB := TB_mem 606 (by decide +kernel) (by decide +kernel)
theorem w_607 : (.codeWith yL_size cL_size 4 (some .int) [(0, 9, 12, 31)] : Cond) ∈ TB := TB_mem 607 (by decide +kernel) (by decide +kernel)
theorem w_608 : (.classLink RL 31 "java/lang/IndexOutOfBoundsException" : Cond) ∈ TB := TB_mem 608 (by decide +kernel) (by decide +kernel)
theorem w_609 : (.methodLink RL 28 yX8_size : Cond) ∈ TB := TB_mem 609 (by decide +kernel) (by decide +kernel)
theorem w_610 : (.instanceMethod yX8_size : Cond) ∈ TB := TB_mem 610 (by decide +kernel) (by decide +kernel)
theorem w_611 : (.selects RX8 yX8_size yX8_size : Cond) ∈ TB := TB_mem 611 (by decide +kernel) (by decide +kernel)
theorem w_612 : (.code yX8_size cX8_size 2 (some .int) : Cond) ∈ TB := TB_mem 612 (by decide +kernel) (by decide +kernel)
theorem w_613 : (.methodLink RX8 113 yX8_needTable : Cond) ∈ TB := TB_mem 613 (by decide +kernel) (by decide +kernel)
theorem w_615 : (.instanceMethod yX8_needTable : Cond) ∈ TB := TB_mem 615 (by decide +kernel) (by decide +kernel)
theorem w_616 : (.code yX8_needTable cX8_needTable 2 none : Cond) ∈ TB := TB_mem 616 (by decide +kernel) (by decide +kernel)
theorem w_617 : (.methodLink RX8 361 yX7_hasTable : Cond) ∈ TB := TB_mem 617 (by decide +kernel) (by decide +kernel)
theorem w_634 : (.methodLink RX8 117 yX7_sizeOf : Cond) ∈ TB := TB_mem 634 (by decide +kernel) (by decide +kernel)
theorem w_635 : (.instanceMethod yX7_sizeOf : Cond) ∈ TB := TB_mem 635 (by decide +kernel) (by decide +kernel)
theorem w_636 : (.selects RX7 yX7_sizeOf yX7_sizeOf : Cond) ∈ TB := TB_mem 636 (by decide +kernel) (by decide +kernel)
theorem w_637 : (.code yX7_sizeOf cX7_sizeOf 2 (some .int) : Cond) ∈ TB := TB_mem 637 (by decide +kernel) (by decide +kernel)
theorem w_638 : (.methodLink RL 140 yL_pair : Cond) ∈ TB := TB_mem 638 (by decide +kernel) (by decide +kernel)
theorem w_639 : (.static yL_pair : Cond) ∈ TB := TB_mem 639 (by decide +kernel) (by decide +kernel)
theorem w_640 : (.codeWith yL_pair cL_pair 6 (some .int) [(0, 12, 15, 31), (0, 12, 19, 13)] : Cond) ∈ TB := TB_mem 640 (by decide +kernel) (by decide +kernel)
theorem w_641 : (.methodLink RL 33 yX8_pair : Cond) ∈ TB := TB_mem 641 (by decide +kernel) (by decide +kernel)
theorem w_642 : (.instanceMethod yX8_pair : Cond) ∈ TB := TB_mem 642 (by decide +kernel) (by decide +kernel)
theorem w_643 : (.selects RX8 yX8_pair yX8_pair : Cond) ∈ TB := TB_mem 643 (by decide +kernel) (by decide +kernel)
theorem w_644 : (.code yX8_pair cX8_pair 4 (some .int) : Cond) ∈ TB := TB_mem 644 (by decide +kernel) (by decide +kernel)
theorem w_645 : (.methodLink RX8 120 yX8_needTwoTables : Cond) ∈ TB := TB_mem 645 (by decide +kernel) (by decide +kernel)
theorem w_647 : (.instanceMethod yX8_needTwoTables : Cond) ∈ TB := TB_mem 647 (by decide +kernel) (by decide +kernel)
theorem w_648 : (.code yX8_needTwoTables cX8_needTwoTables 3 none : Cond) ∈ TB := TB_mem 648 (by decide +kernel) (by decide +kernel)
theorem w_650 : (.methodLink RX8 128 yX7_pairNumberOf : Cond) ∈ TB := TB_mem 650 (by decide +kernel) (by decide +kernel)
theorem w_651 : (.instanceMethod yX7_pairNumberOf : Cond) ∈ TB := TB_mem 651 (by decide +kernel) (by decide +kernel)
theorem w_652 : (.selects RX7 yX7_pairNumberOf yX7_pairNumberOf : Cond) ∈ TB := TB_mem 652 (by decide +kernel) (by decide +kernel)
theorem w_653 : (.code yX7_pairNumberOf cX7_pairNumberOf 3 (some .int) : Cond) ∈ TB := TB_mem 653 (by decide +kernel) (by decide +kernel)
theorem w_654 : (.methodLink RX7 75 yX7_hasMemory : Cond) ∈ TB := TB_mem 654 (by decide +kernel) (by decide +kernel)
theorem w_655 : (.instanceMethod yX7_hasMemory : Cond) ∈ TB := TB_mem 655 (by decide +kernel) (by decide +kernel)
theorem w_656 : (.selects RX7 yX7_hasMemory yX7_hasMemory : Cond) ∈ TB := TB_mem 656 (by decide +kernel) (by decide +kernel)
theorem w_657 : (.code yX7_hasMemory cX7_hasMemory 2 (some .boolean) : Cond) ∈ TB := TB_mem 657 (by decide +kernel) (by decide +kernel)
theorem w_658 : (.methodLink RL 144 yL_surprise : Cond) ∈ TB := TB_mem 658 (by decide +kernel) (by decide +kernel)
theorem w_659 : (.static yL_surprise : Cond) ∈ TB := TB_mem 659 (by decide +kernel) (by decide +kernel)
theorem w_660 : (.codeWith yL_surprise cL_surprise 5 (some .int) [(0, 10, 13, 13)] : Cond) ∈ TB := TB_mem 660 (by decide +kernel) (by decide +kernel)
theorem w_661 : (.methodLink RL 37 yX8_surprise : Cond) ∈ TB := TB_mem 661 (by decide +kernel) (by decide +kernel)
theorem w_662 : (.instanceMethod yX8_surprise : Cond) ∈ TB := TB_mem 662 (by decide +kernel) (by decide +kernel)
theorem w_663 : (.selects RX8 yX8_surprise yX8_surprise : Cond) ∈ TB := TB_mem 663 (by decide +kernel) (by decide +kernel)
theorem w_664 : (.code yX8_surprise cX8_surprise 3 (some .int) : Cond) ∈ TB := TB_mem 664 (by decide +kernel) (by decide +kernel)
theorem w_665 : (.methodLink RX8 131 yX7_surpriseNumberOf : Cond) ∈ TB := TB_mem 665 (by decide +kernel) (by decide +kernel)
theorem w_666 : (.instanceMethod yX7_surpriseNumberOf : Cond) ∈ TB := TB_mem 666 (by decide +kernel) (by decide +kernel)
theorem w_667 : (.selects RX7 yX7_surpriseNumberOf yX7_surpriseNumberOf : Cond) ∈ TB := TB_mem 667 (by decide +kernel) (by decide +kernel)
theorem w_668 : (.code yX7_surpriseNumberOf cX7_surpriseNumberOf 3 (some .int) : Cond) ∈ TB := TB_mem 668 (by decide +kernel) (by decide +kernel)
theorem w_669 : (.methodLink RL 148 yL_setting : Cond) ∈ TB := TB_mem 669 (by decide +kernel) (by decide +kernel)
theorem w_670 : (.static yL_setting : Cond) ∈ TB := TB_mem 670 (by decide +kernel) (by decide +kernel)
theorem w_671 : (.codeWith yL_setting cL_setting 4 (some .int) [(0, 9, 12, 13)] : Cond) ∈ TB := TB_mem 671 (by decide +kernel) (by decide +kernel)
theorem w_672 : (.methodLink RL 41 yX8_setting : Cond) ∈ TB := TB_mem 672 (by decide +kernel) (by decide +kernel)
theorem w_673 : (.instanceMethod yX8_setting : Cond) ∈ TB := TB_mem 673 (by decide +kernel) (by decide +kernel)
theorem w_674 : (.selects RX8 yX8_setting yX8_setting : Cond) ∈ TB := TB_mem 674 (by decide +kernel) (by decide +kernel)
theorem w_675 : (.code yX8_setting cX8_setting 2 (some .int) : Cond) ∈ TB := TB_mem 675 (by decide +kernel) (by decide +kernel)
theorem w_676 : (.methodLink RX8 134 yX7_settingOf : Cond) ∈ TB := TB_mem 676 (by decide +kernel) (by decide +kernel)
theorem w_677 : (.instanceMethod yX7_settingOf : Cond) ∈ TB := TB_mem 677 (by decide +kernel) (by decide +kernel)
theorem w_678 : (.selects RX7 yX7_settingOf yX7_settingOf : Cond) ∈ TB := TB_mem 678 (by decide +kernel) (by decide +kernel)
theorem w_679 : (.code yX7_settingOf cX7_settingOf 2 (some .int) : Cond) ∈ TB := TB_mem 679 (by decide +kernel) (by decide +kernel)
theorem w_680 : (.methodLink RL 151 yL_add : Cond) ∈ TB := TB_mem 680 (by decide +kernel) (by decide +kernel)
theorem w_681 : (.static yL_add : Cond) ∈ TB := TB_mem 681 (by decide +kernel) (by decide +kernel)
theorem w_682 : (.codeWith yL_add cL_add 4 (some .int) [(0, 9, 12, 13), (0, 9, 15, 15)] : Cond) ∈ TB := TB_mem 682 (by decide +kernel) (by decide +kernel)
theorem w_683 : (.methodLink RL 44 yX8_add : Cond) ∈ TB := TB_mem 683 (by decide +kernel) (by decide +kernel)
theorem w_684 : (.instanceMethod yX8_add : Cond) ∈ TB := TB_mem 684 (by decide +kernel) (by decide +kernel)
theorem w_685 : (.selects RX8 yX8_add yX8_add : Cond) ∈ TB := TB_mem 685 (by decide +kernel) (by decide +kernel)
theorem w_686 : (.code yX8_add cX8_add 2 (some .int) : Cond) ∈ TB := TB_mem 686 (by decide +kernel) (by decide +kernel)
theorem w_688 : (.methodLink RX8 140 yX1_remember : Cond) ∈ TB := TB_mem 688 (by decide +kernel) (by decide +kernel)
theorem w_689 : (.instanceMethod yX1_remember : Cond) ∈ TB := TB_mem 689 (by decide +kernel) (by decide +kernel)
theorem w_690 : (.selects RX1 yX1_remember yX1_remember : Cond) ∈ TB := TB_mem 690 (by decide +kernel) (by decide +kernel)
theorem w_691 : (.code yX1_remember cX1_remember 3 none : Cond) ∈ TB := TB_mem 691 (by decide +kernel) (by decide +kernel)
theorem w_692 : (.methodLink RX1 25 yX1_stateAt : Cond) ∈ TB := TB_mem 692 (by decide +kernel) (by decide +kernel)
theorem w_694 : (.instanceMethod yX1_stateAt : Cond) ∈ TB := TB_mem 694 (by decide +kernel) (by decide +kernel)
theorem w_695 : (.code yX1_stateAt cX1_stateAt 2 (some (.object "SurprisedPlans$World")) : Cond) ∈ TB := TB_mem 695 (by decide +kernel) (by decide +kernel)
theorem w_697 : (.methodLink RX1 29 yX7_takeFrom : Cond) ∈ TB := TB_mem 697 (by decide +kernel) (by decide +kernel)
theorem w_698 : (.instanceMethod yX7_takeFrom : Cond) ∈ TB := TB_mem 698 (by decide +kernel) (by decide +kernel)
theorem w_699 : (.selects RX7 yX7_takeFrom yX7_takeFrom : Cond) ∈ TB := TB_mem 699 (by decide +kernel) (by decide +kernel)
theorem w_700 : (.code yX7_takeFrom cX7_takeFrom 2 none : Cond) ∈ TB := TB_mem 700 (by decide +kernel) (by decide +kernel)
theorem w_701 : (.methodLink RX1 33 Lib.Math.min.name : Cond) ∈ TB := TB_mem 701 (by decide +kernel) (by decide +kernel)
theorem w_702 : (.methodLink RL 154 yL_resize : Cond) ∈ TB := TB_mem 702 (by decide +kernel) (by decide +kernel)
theorem w_703 : (.static yL_resize : Cond) ∈ TB := TB_mem 703 (by decide +kernel) (by decide +kernel)
theorem w_704 : (.codeWith yL_resize cL_resize 5 (some .int) [(0, 10, 13, 31), (0, 10, 17, 13)] : Cond) ∈ TB := TB_mem 704 (by decide +kernel) (by decide +kernel)
theorem w_705 : (.methodLink RL 47 yX8_resize : Cond) ∈ TB := TB_mem 705 (by decide +kernel) (by decide +kernel)
theorem w_706 : (.instanceMethod yX8_resize : Cond) ∈ TB := TB_mem 706 (by decide +kernel) (by decide +kernel)
theorem w_707 : (.selects RX8 yX8_resize yX8_resize : Cond) ∈ TB := TB_mem 707 (by decide +kernel) (by decide +kernel)
theorem w_708 : (.code yX8_resize cX8_resize 3 (some .int) : Cond) ∈ TB := TB_mem 708 (by decide +kernel) (by decide +kernel)
theorem w_709 : (.methodLink RX8 147 yX7_changeSize : Cond) ∈ TB := TB_mem 709 (by decide +kernel) (by decide +kernel)
theorem w_710 : (.instanceMethod yX7_changeSize : Cond) ∈ TB := TB_mem 710 (by decide +kernel) (by decide +kernel)
theorem w_711 : (.selects RX7 yX7_changeSize yX7_changeSize : Cond) ∈ TB := TB_mem 711 (by decide +kernel) (by decide +kernel)
theorem w_712 : (.code yX7_changeSize cX7_changeSize 4 (some .int) : Cond) ∈ TB := TB_mem 712 (by decide +kernel) (by decide +kernel)
theorem w_713 : (.methodLink RX7 92 yX7_sizeOf : Cond) ∈ TB := TB_mem 713 (by decide +kernel) (by decide +kernel)
theorem w_714 : (.methodLink RL 157 yL_link : Cond) ∈ TB := TB_mem 714 (by decide +kernel) (by decide +kernel)
theorem w_715 : (.static yL_link : Cond) ∈ TB := TB_mem 715 (by decide +kernel) (by decide +kernel)
theorem w_716 : (.codeWith yL_link cL_link 7 (some .int) [(0, 14, 17, 31), (0, 14, 21, 13)] : Cond) ∈ TB := TB_mem 716 (by decide +kernel) (by decide +kernel)
theorem w_717 : (.methodLink RL 50 yX8_link : Cond) ∈ TB := TB_mem 717 (by decide +kernel) (by decide +kernel)
theorem w_718 : (.instanceMethod yX8_link : Cond) ∈ TB := TB_mem 718 (by decide +kernel) (by decide +kernel)
theorem w_719 : (.selects RX8 yX8_link yX8_link : Cond) ∈ TB := TB_mem 719 (by decide +kernel) (by decide +kernel)
theorem w_720 : (.code yX8_link cX8_link 5 (some .int) : Cond) ∈ TB := TB_mem 720 (by decide +kernel) (by decide +kernel)
theorem w_721 : (.methodLink RL 161 yL_drift : Cond) ∈ TB := TB_mem 721 (by decide +kernel) (by decide +kernel)
theorem w_722 : (.static yL_drift : Cond) ∈ TB := TB_mem 722 (by decide +kernel) (by decide +kernel)
theorem w_723 : (.codeWith yL_drift cL_drift 6 (some .int) [(0, 12, 15, 31), (0, 12, 19, 13), (0, 12, 23, 15)] : Cond) ∈ TB := TB_mem 723 (by decide +kernel) (by decide +kernel)
theorem w_724 : (.methodLink RL 54 yX8_drift : Cond) ∈ TB := TB_mem 724 (by decide +kernel) (by decide +kernel)
theorem w_725 : (.instanceMethod yX8_drift : Cond) ∈ TB := TB_mem 725 (by decide +kernel) (by decide +kernel)
theorem w_726 : (.selects RX8 yX8_drift yX8_drift : Cond) ∈ TB := TB_mem 726 (by decide +kernel) (by decide +kernel)
theorem w_727 : (.code yX8_drift cX8_drift 4 (some .int) : Cond) ∈ TB := TB_mem 727 (by decide +kernel) (by decide +kernel)
theorem w_728 : (.methodLink RX8 154 yX7_isLinked : Cond) ∈ TB := TB_mem 728 (by decide +kernel) (by decide +kernel)
theorem w_730 : (.methodLink RX8 160 yX7_changeShare : Cond) ∈ TB := TB_mem 730 (by decide +kernel) (by decide +kernel)
theorem w_731 : (.instanceMethod yX7_changeShare : Cond) ∈ TB := TB_mem 731 (by decide +kernel) (by decide +kernel)
theorem w_732 : (.selects RX7 yX7_changeShare yX7_changeShare : Cond) ∈ TB := TB_mem 732 (by decide +kernel) (by decide +kernel)
theorem w_733 : (.code yX7_changeShare cX7_changeShare 4 (some .int) : Cond) ∈ TB := TB_mem 733 (by decide +kernel) (by decide +kernel)
theorem w_734 : (.methodLink RL 164 yL_run : Cond) ∈ TB := TB_mem 734 (by decide +kernel) (by decide +kernel)
theorem w_735 : (.static yL_run : Cond) ∈ TB := TB_mem 735 (by decide +kernel) (by decide +kernel)
theorem w_736 : (.codeWith yL_run cL_run 4 (some .int) [(0, 9, 12, 31), (0, 9, 15, 13)] : Cond) ∈ TB := TB_mem 736 (by decide +kernel) (by decide +kernel)
theorem w_737 : (.methodLink RL 57 yX8_run : Cond) ∈ TB := TB_mem 737 (by decide +kernel) (by decide +kernel)
theorem w_738 : (.instanceMethod yX8_run : Cond) ∈ TB := TB_mem 738 (by decide +kernel) (by decide +kernel)
theorem w_739 : (.selects RX8 yX8_run yX8_run : Cond) ∈ TB := TB_mem 739 (by decide +kernel) (by decide +kernel)
theorem w_740 : (.code yX8_run cX8_run 2 (some .int) : Cond) ∈ TB := TB_mem 740 (by decide +kernel) (by decide +kernel)
theorem w_741 : (.methodLink RX8 163 yX8_needTables : Cond) ∈ TB := TB_mem 741 (by decide +kernel) (by decide +kernel)
theorem w_743 : (.instanceMethod yX8_needTables : Cond) ∈ TB := TB_mem 743 (by decide +kernel) (by decide +kernel)
theorem w_744 : (.code yX8_needTables cX8_needTables 2 none : Cond) ∈ TB := TB_mem 744 (by decide +kernel) (by decide +kernel)
theorem w_745 : (.methodLink RX8 234 yX7_hasTables : Cond) ∈ TB := TB_mem 745 (by decide +kernel) (by decide +kernel)
theorem w_746 : (.instanceMethod yX7_hasTables : Cond) ∈ TB := TB_mem 746 (by decide +kernel) (by decide +kernel)
theorem w_747 : (.selects RX7 yX7_hasTables yX7_hasTables : Cond) ∈ TB := TB_mem 747 (by decide +kernel) (by decide +kernel)
theorem w_748 : (.code yX7_hasTables cX7_hasTables 2 (some .boolean) : Cond) ∈ TB := TB_mem 748 (by decide +kernel) (by decide +kernel)
theorem w_750 : (.methodLink RX8 166 yX8_needSomeTable : Cond) ∈ TB := TB_mem 750 (by decide +kernel) (by decide +kernel)
theorem w_751 : (.static yX8_needSomeTable : Cond) ∈ TB := TB_mem 751 (by decide +kernel) (by decide +kernel)
theorem w_752 : (.code yX8_needSomeTable cX8_needSomeTable 1 none : Cond) ∈ TB := TB_mem 752 (by decide +kernel) (by decide +kernel)
theorem w_754 : (.methodLink RX8 169 yX8_runIn : Cond) ∈ TB := TB_mem 754 (by decide +kernel) (by decide +kernel)
theorem w_756 : (.instanceMethod yX8_runIn : Cond) ∈ TB := TB_mem 756 (by decide +kernel) (by decide +kernel)
theorem w_757 : (.code yX8_runIn cX8_runIn 5 (some .int) : Cond) ∈ TB := TB_mem 757 (by decide +kernel) (by decide +kernel)
theorem w_758 : (.methodLink RX8 219 yX8_regretIn : Cond) ∈ TB := TB_mem 758 (by decide +kernel) (by decide +kernel)
theorem w_760 : (.instanceMethod yX8_regretIn : Cond) ∈ TB := TB_mem 760 (by decide +kernel) (by decide +kernel)
theorem w_761 : (.code yX8_regretIn cX8_regretIn 3 (some .long) : Cond) ∈ TB := TB_mem 761 (by decide +kernel) (by decide +kernel)
theorem w_762 : (.methodLink RX8 210 yX3_choose : Cond) ∈ TB := TB_mem 762 (by decide +kernel) (by decide +kernel)
theorem w_763 : (.instanceMethod yX3_choose : Cond) ∈ TB := TB_mem 763 (by decide +kernel) (by decide +kernel)
theorem w_764 : (.selects RX3 yX3_choose yX3_choose : Cond) ∈ TB := TB_mem 764 (by decide +kernel) (by decide +kernel)
theorem w_765 : (.code yX3_choose cX3_choose 5 none : Cond) ∈ TB := TB_mem 765 (by decide +kernel) (by decide +kernel)
theorem w_766 : (.methodLink RX3 63 yX3_weigh : Cond) ∈ TB := TB_mem 766 (by decide +kernel) (by decide +kernel)
theorem w_767 : (.instanceMethod yX3_weigh : Cond) ∈ TB := TB_mem 767 (by decide +kernel) (by decide +kernel)
theorem w_768 : (.selects RX3 yX3_weigh yX3_weigh : Cond) ∈ TB := TB_mem 768 (by decide +kernel) (by decide +kernel)
theorem w_769 : (.code yX3_weigh cX3_weigh 6 none : Cond) ∈ TB := TB_mem 769 (by decide +kernel) (by decide +kernel)
theorem w_770 : (.methodLink RX3 41 yX7_sizeOf : Cond) ∈ TB := TB_mem 770 (by decide +kernel) (by decide +kernel)
theorem w_771 : (.methodLink RX3 47 yX7_shareOf : Cond) ∈ TB := TB_mem 771 (by decide +kernel) (by decide +kernel)
theorem w_772 : (.methodLink RX3 51 yX3_rowsJoined : Cond) ∈ TB := TB_mem 772 (by decide +kernel) (by decide +kernel)
theorem w_774 : (.instanceMethod yX3_rowsJoined : Cond) ∈ TB := TB_mem 774 (by decide +kernel) (by decide +kernel)
theorem w_775 : (.code yX3_rowsJoined cX3_rowsJoined 8 (some .long) : Cond) ∈ TB := TB_mem 775 (by decide +kernel) (by decide +kernel)
theorem w_776 : (.methodLink RX3 55 yX3_rowsOf : Cond) ∈ TB := TB_mem 776 (by decide +kernel) (by decide +kernel)
theorem w_777 : (.instanceMethod yX3_rowsOf : Cond) ∈ TB := TB_mem 777 (by decide +kernel) (by decide +kernel)
theorem w_778 : (.selects RX3 yX3_rowsOf yX3_rowsOf : Cond) ∈ TB := TB_mem 778 (by decide +kernel) (by decide +kernel)
theorem w_779 : (.code yX3_rowsOf cX3_rowsOf 2 (some .long) : Cond) ∈ TB := TB_mem 779 (by decide +kernel) (by decide +kernel)
theorem w_780 : (.methodLink RX3 58 yX3_sizeOf : Cond) ∈ TB := TB_mem 780 (by decide +kernel) (by decide +kernel)
theorem w_782 : (.instanceMethod yX3_sizeOf : Cond) ∈ TB := TB_mem 782 (by decide +kernel) (by decide +kernel)
theorem w_783 : (.code yX3_sizeOf cX3_sizeOf 2 (some .int) : Cond) ∈ TB := TB_mem 783 (by decide +kernel) (by decide +kernel)
theorem w_784 : (.constantLong RX3 59 (1000000000000) : Cond) ∈ TB := TB_mem 784 (by decide +kernel) (by decide +kernel)
theorem w_785 : (.constantLong RX3 61 (1000) : Cond) ∈ TB := TB_mem 785 (by decide +kernel) (by decide +kernel)
theorem w_786 : (.methodLink RX3 67 yX3_findNext : Cond) ∈ TB := TB_mem 786 (by decide +kernel) (by decide +kernel)
theorem w_788 : (.instanceMethod yX3_findNext : Cond) ∈ TB := TB_mem 788 (by decide +kernel) (by decide +kernel)
theorem w_789 : (.code yX3_findNext cX3_findNext 9 none : Cond) ∈ TB := TB_mem 789 (by decide +kernel) (by decide +kernel)
theorem w_790 : (.methodLink RX3 74 yX3_cheaperWay : Cond) ∈ TB := TB_mem 790 (by decide +kernel) (by decide +kernel)
theorem w_792 : (.instanceMethod yX3_cheaperWay : Cond) ∈ TB := TB_mem 792 (by decide +kernel) (by decide +kernel)
theorem w_793 : (.code yX3_cheaperWay cX3_cheaperWay 6 (some .int) : Cond) ∈ TB := TB_mem 793 (by decide +kernel) (by decide +kernel)
theorem w_794 : (.constantLong RX3 87 (3) : Cond) ∈ TB := TB_mem 794 (by decide +kernel) (by decide +kernel)
theorem w_795 : (.methodLink RX3 77 yX3_stepCost : Cond) ∈ TB := TB_mem 795 (by decide +kernel) (by decide +kernel)
theorem w_797 : (.instanceMethod yX3_stepCost : Cond) ∈ TB := TB_mem 797 (by decide +kernel) (by decide +kernel)
theorem w_798 : (.code yX3_stepCost cX3_stepCost 9 (some .long) : Cond) ∈ TB := TB_mem 798 (by decide +kernel) (by decide +kernel)
theorem w_799 : (.constantLong RX3 89 (1000000000000000) : Cond) ∈ TB := TB_mem 799 (by decide +kernel) (by decide +kernel)
theorem w_800 : (.methodLink RX3 81 yX3_restOf : Cond) ∈ TB := TB_mem 800 (by decide +kernel) (by decide +kernel)
theorem w_802 : (.instanceMethod yX3_restOf : Cond) ∈ TB := TB_mem 802 (by decide +kernel) (by decide +kernel)
theorem w_803 : (.code yX3_restOf cX3_restOf 2 (some .long) : Cond) ∈ TB := TB_mem 803 (by decide +kernel) (by decide +kernel)
theorem w_804 : (.methodLink RX3 71 yX3_followNext : Cond) ∈ TB := TB_mem 804 (by decide +kernel) (by decide +kernel)
theorem w_806 : (.instanceMethod yX3_followNext : Cond) ∈ TB := TB_mem 806 (by decide +kernel) (by decide +kernel)
theorem w_807 : (.code yX3_followNext cX3_followNext 4 none : Cond) ∈ TB := TB_mem 807 (by decide +kernel) (by decide +kernel)
theorem w_809 : (.methodLink RX8 227 yX3_costAsPlannedBy : Cond) ∈ TB := TB_mem 809 (by decide +kernel) (by decide +kernel)
theorem w_810 : (.instanceMethod yX3_costAsPlannedBy : Cond) ∈ TB := TB_mem 810 (by decide +kernel) (by decide +kernel)
theorem w_811 : (.selects RX3 yX3_costAsPlannedBy yX3_costAsPlannedBy : Cond) ∈ TB := TB_mem 811 (by decide +kernel) (by decide +kernel)
theorem w_812 : (.code yX3_costAsPlannedBy cX3_costAsPlannedBy 7 (some .long) : Cond) ∈ TB := TB_mem 812 (by decide +kernel) (by decide +kernel)
theorem w_813 : (.methodLink RX3 91 yX3_tableAt : Cond) ∈ TB := TB_mem 813 (by decide +kernel) (by decide +kernel)
theorem w_814 : (.instanceMethod yX3_tableAt : Cond) ∈ TB := TB_mem 814 (by decide +kernel) (by decide +kernel)
theorem w_815 : (.selects RX3 yX3_tableAt yX3_tableAt : Cond) ∈ TB := TB_mem 815 (by decide +kernel) (by decide +kernel)
theorem w_816 : (.code yX3_tableAt cX3_tableAt 2 (some .int) : Cond) ∈ TB := TB_mem 816 (by decide +kernel) (by decide +kernel)
theorem w_817 : (.methodLink RX3 93 yX3_wayAt : Cond) ∈ TB := TB_mem 817 (by decide +kernel) (by decide +kernel)
theorem w_818 : (.instanceMethod yX3_wayAt : Cond) ∈ TB := TB_mem 818 (by decide +kernel) (by decide +kernel)
theorem w_819 : (.selects RX3 yX3_wayAt yX3_wayAt : Cond) ∈ TB := TB_mem 819 (by decide +kernel) (by decide +kernel)
theorem w_820 : (.code yX3_wayAt cX3_wayAt 2 (some .int) : Cond) ∈ TB := TB_mem 820 (by decide +kernel) (by decide +kernel)
theorem w_821 : (.methodLink RX8 223 yX3_leastCost : Cond) ∈ TB := TB_mem 821 (by decide +kernel) (by decide +kernel)
theorem w_822 : (.instanceMethod yX3_leastCost : Cond) ∈ TB := TB_mem 822 (by decide +kernel) (by decide +kernel)
theorem w_823 : (.selects RX3 yX3_leastCost yX3_leastCost : Cond) ∈ TB := TB_mem 823 (by decide +kernel) (by decide +kernel)
theorem w_824 : (.code yX3_leastCost cX3_leastCost 1 (some .long) : Cond) ∈ TB := TB_mem 824 (by decide +kernel) (by decide +kernel)
theorem w_825 : (.methodLink RX8 335 yX7_noteRun : Cond) ∈ TB := TB_mem 825 (by decide +kernel) (by decide +kernel)
theorem w_826 : (.instanceMethod yX7_noteRun : Cond) ∈ TB := TB_mem 826 (by decide +kernel) (by decide +kernel)
theorem w_827 : (.selects RX7 yX7_noteRun yX7_noteRun : Cond) ∈ TB := TB_mem 827 (by decide +kernel) (by decide +kernel)
theorem w_828 : (.code yX7_noteRun cX7_noteRun 5 none : Cond) ∈ TB := TB_mem 828 (by decide +kernel) (by decide +kernel)
theorem w_829 : (.methodLink RX8 261 yX7_learn : Cond) ∈ TB := TB_mem 829 (by decide +kernel) (by decide +kernel)
theorem w_830 : (.instanceMethod yX7_learn : Cond) ∈ TB := TB_mem 830 (by decide +kernel) (by decide +kernel)
theorem w_831 : (.selects RX7 yX7_learn yX7_learn : Cond) ∈ TB := TB_mem 831 (by decide +kernel) (by decide +kernel)
theorem w_832 : (.code yX7_learn cX7_learn 5 (some .int) : Cond) ∈ TB := TB_mem 832 (by decide +kernel) (by decide +kernel)
theorem w_834 : (.methodLink RX7 110 yX7_learnPair : Cond) ∈ TB := TB_mem 834 (by decide +kernel) (by decide +kernel)
theorem w_836 : (.instanceMethod yX7_learnPair : Cond) ∈ TB := TB_mem 836 (by decide +kernel) (by decide +kernel)
theorem w_837 : (.code yX7_learnPair cX7_learnPair 7 none : Cond) ∈ TB := TB_mem 837 (by decide +kernel) (by decide +kernel)
theorem w_838 : (.methodLink RX7 120 yX7_noteSurprise : Cond) ∈ TB := TB_mem 838 (by decide +kernel) (by decide +kernel)
theorem w_840 : (.instanceMethod yX7_noteSurprise : Cond) ∈ TB := TB_mem 840 (by decide +kernel) (by decide +kernel)
theorem w_841 : (.code yX7_noteSurprise cX7_noteSurprise 5 none : Cond) ∈ TB := TB_mem 841 (by decide +kernel) (by decide +kernel)
theorem w_842 : (.methodLink RX7 124 Lib.Math.max.name : Cond) ∈ TB := TB_mem 842 (by decide +kernel) (by decide +kernel)
theorem w_843 : (.methodLink RL 167 yL_weeks : Cond) ∈ TB := TB_mem 843 (by decide +kernel) (by decide +kernel)
theorem w_844 : (.static yL_weeks : Cond) ∈ TB := TB_mem 844 (by decide +kernel) (by decide +kernel)
theorem w_845 : (.codeWith yL_weeks cL_weeks 4 (some .int) [(0, 9, 12, 13)] : Cond) ∈ TB := TB_mem 845 (by decide +kernel) (by decide +kernel)
theorem w_846 : (.methodLink RL 60 yX8_weeks : Cond) ∈ TB := TB_mem 846 (by decide +kernel) (by decide +kernel)
theorem w_847 : (.instanceMethod yX8_weeks : Cond) ∈ TB := TB_mem 847 (by decide +kernel) (by decide +kernel)
theorem w_848 : (.selects RX8 yX8_weeks yX8_weeks : Cond) ∈ TB := TB_mem 848 (by decide +kernel) (by decide +kernel)
theorem w_849 : (.code yX8_weeks cX8_weeks 2 (some .int) : Cond) ∈ TB := TB_mem 849 (by decide +kernel) (by decide +kernel)
theorem w_850 : (.methodLink RX8 173 yX7_passWeeks : Cond) ∈ TB := TB_mem 850 (by decide +kernel) (by decide +kernel)
theorem w_851 : (.instanceMethod yX7_passWeeks : Cond) ∈ TB := TB_mem 851 (by decide +kernel) (by decide +kernel)
theorem w_852 : (.selects RX7 yX7_passWeeks yX7_passWeeks : Cond) ∈ TB := TB_mem 852 (by decide +kernel) (by decide +kernel)
theorem w_853 : (.code yX7_passWeeks cX7_passWeeks 4 (some .int) : Cond) ∈ TB := TB_mem 853 (by decide +kernel) (by decide +kernel)
theorem w_854 : (.methodLink RX7 103 yX7_makeOlder : Cond) ∈ TB := TB_mem 854 (by decide +kernel) (by decide +kernel)
theorem w_856 : (.instanceMethod yX7_makeOlder : Cond) ∈ TB := TB_mem 856 (by decide +kernel) (by decide +kernel)
theorem w_857 : (.code yX7_makeOlder cX7_makeOlder 2 none : Cond) ∈ TB := TB_mem 857 (by decide +kernel) (by decide +kernel)
theorem w_858 : (.methodLink RL 170 yL_set : Cond) ∈ TB := TB_mem 858 (by decide +kernel) (by decide +kernel)
theorem w_859 : (.static yL_set : Cond) ∈ TB := TB_mem 859 (by decide +kernel) (by decide +kernel)
theorem w_860 : (.codeWith yL_set cL_set 5 (some .int) [(0, 10, 13, 13)] : Cond) ∈ TB := TB_mem 860 (by decide +kernel) (by decide +kernel)
theorem w_861 : (.methodLink RL 63 yX8_set : Cond) ∈ TB := TB_mem 861 (by decide +kernel) (by decide +kernel)
theorem w_862 : (.instanceMethod yX8_set : Cond) ∈ TB := TB_mem 862 (by decide +kernel) (by decide +kernel)
theorem w_863 : (.selects RX8 yX8_set yX8_set : Cond) ∈ TB := TB_mem 863 (by decide +kernel) (by decide +kernel)
theorem w_864 : (.code yX8_set cX8_set 3 (some .int) : Cond) ∈ TB := TB_mem 864 (by decide +kernel) (by decide +kernel)
theorem w_865 : (.methodLink RX8 176 yX8_settingTakes : Cond) ∈ TB := TB_mem 865 (by decide +kernel) (by decide +kernel)
theorem w_866 : (.static yX8_settingTakes : Cond) ∈ TB := TB_mem 866 (by decide +kernel) (by decide +kernel)
theorem w_867 : (.code yX8_settingTakes cX8_settingTakes 2 (some .boolean) : Cond) ∈ TB := TB_mem 867 (by decide +kernel) (by decide +kernel)
theorem w_868 : (.fieldLink RX8 379 "SurprisedPlans" "LEAST_SETTING" "[I" : Cond) ∈ TB := TB_mem 868 (by decide +kernel) (by decide +kernel)
theorem w_870 : (.fieldLink RX8 383 "SurprisedPlans" "MOST_SETTING" "[I" : Cond) ∈ TB := TB_mem 870 (by decide +kernel) (by decide +kernel)
theorem w_873 : (.methodLink RX8 185 yX7_changeSetting : Cond) ∈ TB := TB_mem 873 (by decide +kernel) (by decide +kernel)
theorem w_874 : (.instanceMethod yX7_changeSetting : Cond) ∈ TB := TB_mem 874 (by decide +kernel) (by decide +kernel)
theorem w_875 : (.selects RX7 yX7_changeSetting yX7_changeSetting : Cond) ∈ TB := TB_mem 875 (by decide +kernel) (by decide +kernel)
theorem w_876 : (.code yX7_changeSetting cX7_changeSetting 4 (some .int) : Cond) ∈ TB := TB_mem 876 (by decide +kernel) (by decide +kernel)
theorem w_877 : (.methodLink RX7 100 yX7_settingOf : Cond) ∈ TB := TB_mem 877 (by decide +kernel) (by decide +kernel)
theorem w_878 : (.methodLink RL 173 yL_undo : Cond) ∈ TB := TB_mem 878 (by decide +kernel) (by decide +kernel)
theorem w_879 : (.static yL_undo : Cond) ∈ TB := TB_mem 879 (by decide +kernel) (by decide +kernel)
theorem w_880 : (.codeWith yL_undo cL_undo 3 (some .int) [(0, 8, 11, 15)] : Cond) ∈ TB := TB_mem 880 (by decide +kernel) (by decide +kernel)
theorem w_881 : (.methodLink RL 66 yX8_undo : Cond) ∈ TB := TB_mem 881 (by decide +kernel) (by decide +kernel)
theorem w_882 : (.instanceMethod yX8_undo : Cond) ∈ TB := TB_mem 882 (by decide +kernel) (by decide +kernel)
theorem w_883 : (.selects RX8 yX8_undo yX8_undo : Cond) ∈ TB := TB_mem 883 (by decide +kernel) (by decide +kernel)
theorem w_884 : (.code yX8_undo cX8_undo 1 (some .int) : Cond) ∈ TB := TB_mem 884 (by decide +kernel) (by decide +kernel)
theorem w_885 : (.methodLink RX8 188 yX1_isEmpty : Cond) ∈ TB := TB_mem 885 (by decide +kernel) (by decide +kernel)
theorem w_886 : (.instanceMethod yX1_isEmpty : Cond) ∈ TB := TB_mem 886 (by decide +kernel) (by decide +kernel)
theorem w_887 : (.selects RX1 yX1_isEmpty yX1_isEmpty : Cond) ∈ TB := TB_mem 887 (by decide +kernel) (by decide +kernel)
theorem w_888 : (.code yX1_isEmpty cX1_isEmpty 1 (some .boolean) : Cond) ∈ TB := TB_mem 888 (by decide +kernel) (by decide +kernel)
theorem w_890 : (.methodLink RX8 193 yX1_takeBack : Cond) ∈ TB := TB_mem 890 (by decide +kernel) (by decide +kernel)
theorem w_891 : (.instanceMethod yX1_takeBack : Cond) ∈ TB := TB_mem 891 (by decide +kernel) (by decide +kernel)
theorem w_892 : (.selects RX1 yX1_takeBack yX1_takeBack : Cond) ∈ TB := TB_mem 892 (by decide +kernel) (by decide +kernel)
theorem w_893 : (.code yX1_takeBack cX1_takeBack 4 (some .int) : Cond) ∈ TB := TB_mem 893 (by decide +kernel) (by decide +kernel)
theorem w_894 : (.methodLink RL 176 yL_rows : Cond) ∈ TB := TB_mem 894 (by decide +kernel) (by decide +kernel)
theorem w_895 : (.static yL_rows : Cond) ∈ TB := TB_mem 895 (by decide +kernel) (by decide +kernel)
theorem w_896 : (.codeWith yL_rows cL_rows 5 (some .int) [(0, 9, 12, 31), (0, 9, 16, 13)] : Cond) ∈ TB := TB_mem 896 (by decide +kernel) (by decide +kernel)
theorem w_897 : (.methodLink RL 69 yX8_rows : Cond) ∈ TB := TB_mem 897 (by decide +kernel) (by decide +kernel)
theorem w_898 : (.instanceMethod yX8_rows : Cond) ∈ TB := TB_mem 898 (by decide +kernel) (by decide +kernel)
theorem w_899 : (.selects RX8 yX8_rows yX8_rows : Cond) ∈ TB := TB_mem 899 (by decide +kernel) (by decide +kernel)
theorem w_900 : (.code yX8_rows cX8_rows 3 (some .long) : Cond) ∈ TB := TB_mem 900 (by decide +kernel) (by decide +kernel)
theorem w_901 : (.methodLink RX8 197 yX8_needKind : Cond) ∈ TB := TB_mem 901 (by decide +kernel) (by decide +kernel)
theorem w_902 : (.static yX8_needKind : Cond) ∈ TB := TB_mem 902 (by decide +kernel) (by decide +kernel)
theorem w_903 : (.code yX8_needKind cX8_needKind 1 none : Cond) ∈ TB := TB_mem 903 (by decide +kernel) (by decide +kernel)
theorem w_904 : (.methodLink RX8 200 yX3_weigh : Cond) ∈ TB := TB_mem 904 (by decide +kernel) (by decide +kernel)
theorem w_905 : (.methodLink RX8 204 yX3_rowsOf : Cond) ∈ TB := TB_mem 905 (by decide +kernel) (by decide +kernel)
theorem w_906 : (.methodLink RL 179 yL_order : Cond) ∈ TB := TB_mem 906 (by decide +kernel) (by decide +kernel)
theorem w_907 : (.static yL_order : Cond) ∈ TB := TB_mem 907 (by decide +kernel) (by decide +kernel)
theorem w_908 : (.codeWith yL_order cL_order 6 (some .int) [(0, 12, 15, 31), (0, 12, 19, 13)] : Cond) ∈ TB := TB_mem 908 (by decide +kernel) (by decide +kernel)
theorem w_909 : (.methodLink RL 73 yX8_order : Cond) ∈ TB := TB_mem 909 (by decide +kernel) (by decide +kernel)
theorem w_910 : (.instanceMethod yX8_order : Cond) ∈ TB := TB_mem 910 (by decide +kernel) (by decide +kernel)
theorem w_911 : (.selects RX8 yX8_order yX8_order : Cond) ∈ TB := TB_mem 911 (by decide +kernel) (by decide +kernel)
theorem w_912 : (.code yX8_order cX8_order 4 (some .int) : Cond) ∈ TB := TB_mem 912 (by decide +kernel) (by decide +kernel)
theorem w_913 : (.methodLink RX8 207 yX8_needAtLeast : Cond) ∈ TB := TB_mem 913 (by decide +kernel) (by decide +kernel)
theorem w_914 : (.static yX8_needAtLeast : Cond) ∈ TB := TB_mem 914 (by decide +kernel) (by decide +kernel)
theorem w_915 : (.code yX8_needAtLeast cX8_needAtLeast 2 none : Cond) ∈ TB := TB_mem 915 (by decide +kernel) (by decide +kernel)
theorem w_917 : (.methodLink RX8 213 yX3_tableAt : Cond) ∈ TB := TB_mem 917 (by decide +kernel) (by decide +kernel)
theorem w_918 : (.methodLink RL 182 yL_way : Cond) ∈ TB := TB_mem 918 (by decide +kernel) (by decide +kernel)
theorem w_919 : (.static yL_way : Cond) ∈ TB := TB_mem 919 (by decide +kernel) (by decide +kernel)
theorem w_920 : (.codeWith yL_way cL_way 5 (some .int) [(0, 10, 13, 31), (0, 10, 17, 13)] : Cond) ∈ TB := TB_mem 920 (by decide +kernel) (by decide +kernel)
theorem w_921 : (.methodLink RL 76 yX8_way : Cond) ∈ TB := TB_mem 921 (by decide +kernel) (by decide +kernel)
theorem w_922 : (.instanceMethod yX8_way : Cond) ∈ TB := TB_mem 922 (by decide +kernel) (by decide +kernel)
theorem w_923 : (.selects RX8 yX8_way yX8_way : Cond) ∈ TB := TB_mem 923 (by decide +kernel) (by decide +kernel)
theorem w_924 : (.code yX8_way cX8_way 3 (some .int) : Cond) ∈ TB := TB_mem 924 (by decide +kernel) (by decide +kernel)
theorem w_925 : (.methodLink RX8 216 yX3_wayAt : Cond) ∈ TB := TB_mem 925 (by decide +kernel) (by decide +kernel)
theorem w_926 : (.methodLink RL 185 yL_cost : Cond) ∈ TB := TB_mem 926 (by decide +kernel) (by decide +kernel)
theorem w_927 : (.static yL_cost : Cond) ∈ TB := TB_mem 927 (by decide +kernel) (by decide +kernel)
theorem w_928 : (.codeWith yL_cost cL_cost 5 (some .int) [(0, 9, 12, 31), (0, 9, 16, 13)] : Cond) ∈ TB := TB_mem 928 (by decide +kernel) (by decide +kernel)
theorem w_929 : (.methodLink RL 79 yX8_cost : Cond) ∈ TB := TB_mem 929 (by decide +kernel) (by decide +kernel)
theorem w_930 : (.instanceMethod yX8_cost : Cond) ∈ TB := TB_mem 930 (by decide +kernel) (by decide +kernel)
theorem w_931 : (.selects RX8 yX8_cost yX8_cost : Cond) ∈ TB := TB_mem 931 (by decide +kernel) (by decide +kernel)
theorem w_932 : (.code yX8_cost cX8_cost 3 (some .long) : Cond) ∈ TB := TB_mem 932 (by decide +kernel) (by decide +kernel)
theorem w_933 : (.methodLink RL 188 yL_costOfText : Cond) ∈ TB := TB_mem 933 (by decide +kernel) (by decide +kernel)
theorem w_934 : (.static yL_costOfText : Cond) ∈ TB := TB_mem 934 (by decide +kernel) (by decide +kernel)
theorem w_935 : (.codeWith yL_costOfText cL_costOfText 4 (some .int) [(0, 8, 11, 13), (0, 8, 14, 15)] : Cond) ∈ TB := TB_mem 935 (by decide +kernel) (by decide +kernel)
theorem w_936 : (.methodLink RL 82 yX8_costOfText : Cond) ∈ TB := TB_mem 936 (by decide +kernel) (by decide +kernel)
theorem w_937 : (.instanceMethod yX8_costOfText : Cond) ∈ TB := TB_mem 937 (by decide +kernel) (by decide +kernel)
theorem w_938 : (.selects RX8 yX8_costOfText yX8_costOfText : Cond) ∈ TB := TB_mem 938 (by decide +kernel) (by decide +kernel)
theorem w_939 : (.code yX8_costOfText cX8_costOfText 2 (some .long) : Cond) ∈ TB := TB_mem 939 (by decide +kernel) (by decide +kernel)
theorem w_940 : (.methodLink RX8 231 yX2_tables : Cond) ∈ TB := TB_mem 940 (by decide +kernel) (by decide +kernel)
theorem w_941 : (.instanceMethod yX2_tables : Cond) ∈ TB := TB_mem 941 (by decide +kernel) (by decide +kernel)
theorem w_942 : (.selects RX2 yX2_tables yX2_tables : Cond) ∈ TB := TB_mem 942 (by decide +kernel) (by decide +kernel)
theorem w_943 : (.code yX2_tables cX2_tables 1 (some .int) : Cond) ∈ TB := TB_mem 943 (by decide +kernel) (by decide +kernel)
theorem w_945 : (.methodLink RX8 239 yX3_costOfRead : Cond) ∈ TB := TB_mem 945 (by decide +kernel) (by decide +kernel)
theorem w_946 : (.instanceMethod yX3_costOfRead : Cond) ∈ TB := TB_mem 946 (by decide +kernel) (by decide +kernel)
theorem w_947 : (.selects RX3 yX3_costOfRead yX3_costOfRead : Cond) ∈ TB := TB_mem 947 (by decide +kernel) (by decide +kernel)
theorem w_948 : (.code yX3_costOfRead cX3_costOfRead 7 (some .long) : Cond) ∈ TB := TB_mem 948 (by decide +kernel) (by decide +kernel)
theorem w_949 : (.methodLink RX3 98 yX2_tableAt : Cond) ∈ TB := TB_mem 949 (by decide +kernel) (by decide +kernel)
theorem w_950 : (.instanceMethod yX2_tableAt : Cond) ∈ TB := TB_mem 950 (by decide +kernel) (by decide +kernel)
theorem w_951 : (.selects RX2 yX2_tableAt yX2_tableAt : Cond) ∈ TB := TB_mem 951 (by decide +kernel) (by decide +kernel)
theorem w_952 : (.code yX2_tableAt cX2_tableAt 2 (some .int) : Cond) ∈ TB := TB_mem 952 (by decide +kernel) (by decide +kernel)
theorem w_953 : (.methodLink RL 191 yL_matters : Cond) ∈ TB := TB_mem 953 (by decide +kernel) (by decide +kernel)
theorem w_954 : (.static yL_matters : Cond) ∈ TB := TB_mem 954 (by decide +kernel) (by decide +kernel)
theorem w_955 : (.codeWith yL_matters cL_matters 6 (some .int) [(0, 12, 15, 31), (0, 12, 19, 13)] : Cond) ∈ TB := TB_mem 955 (by decide +kernel) (by decide +kernel)
theorem w_956 : (.methodLink RL 85 yX8_matters : Cond) ∈ TB := TB_mem 956 (by decide +kernel) (by decide +kernel)
theorem w_957 : (.instanceMethod yX8_matters : Cond) ∈ TB := TB_mem 957 (by decide +kernel) (by decide +kernel)
theorem w_958 : (.selects RX8 yX8_matters yX8_matters : Cond) ∈ TB := TB_mem 958 (by decide +kernel) (by decide +kernel)
theorem w_959 : (.code yX8_matters cX8_matters 5 (some .int) : Cond) ∈ TB := TB_mem 959 (by decide +kernel) (by decide +kernel)
theorem w_960 : (.methodLink RX8 245 yX7_hasMemory : Cond) ∈ TB := TB_mem 960 (by decide +kernel) (by decide +kernel)
theorem w_961 : (.methodLink RX8 248 yX7_takeFrom : Cond) ∈ TB := TB_mem 961 (by decide +kernel) (by decide +kernel)
theorem w_962 : (.methodLink RX8 251 yX7_forget : Cond) ∈ TB := TB_mem 962 (by decide +kernel) (by decide +kernel)
theorem w_963 : (.methodLink RX8 254 yX3_hasOrderOf : Cond) ∈ TB := TB_mem 963 (by decide +kernel) (by decide +kernel)
theorem w_964 : (.instanceMethod yX3_hasOrderOf : Cond) ∈ TB := TB_mem 964 (by decide +kernel) (by decide +kernel)
theorem w_965 : (.selects RX3 yX3_hasOrderOf yX3_hasOrderOf : Cond) ∈ TB := TB_mem 965 (by decide +kernel) (by decide +kernel)
theorem w_966 : (.code yX3_hasOrderOf cX3_hasOrderOf 3 (some .boolean) : Cond) ∈ TB := TB_mem 966 (by decide +kernel) (by decide +kernel)
theorem w_967 : (.methodLink RL 198 yL_learnsIn : Cond) ∈ TB := TB_mem 967 (by decide +kernel) (by decide +kernel)
theorem w_968 : (.static yL_learnsIn : Cond) ∈ TB := TB_mem 968 (by decide +kernel) (by decide +kernel)
theorem w_969 : (.codeWith yL_learnsIn cL_learnsIn 4 (some .int) [(0, 9, 12, 31), (0, 9, 15, 13)] : Cond) ∈ TB := TB_mem 969 (by decide +kernel) (by decide +kernel)
theorem w_970 : (.methodLink RL 88 yX8_learnsIn : Cond) ∈ TB := TB_mem 970 (by decide +kernel) (by decide +kernel)
theorem w_971 : (.instanceMethod yX8_learnsIn : Cond) ∈ TB := TB_mem 971 (by decide +kernel) (by decide +kernel)
theorem w_972 : (.selects RX8 yX8_learnsIn yX8_learnsIn : Cond) ∈ TB := TB_mem 972 (by decide +kernel) (by decide +kernel)
theorem w_973 : (.code yX8_learnsIn cX8_learnsIn 3 (some .int) : Cond) ∈ TB := TB_mem 973 (by decide +kernel) (by decide +kernel)
theorem w_974 : (.methodLink RL 203 yL_runScript : Cond) ∈ TB := TB_mem 974 (by decide +kernel) (by decide +kernel)
theorem w_975 : (.static yL_runScript : Cond) ∈ TB := TB_mem 975 (by decide +kernel) (by decide +kernel)
theorem w_976 : (.codeWith yL_runScript cL_runScript 6 (some .int) [(0, 11, 14, 13)] : Cond) ∈ TB := TB_mem 976 (by decide +kernel) (by decide +kernel)
theorem w_977 : (.methodLink RL 91 yX8_runScript : Cond) ∈ TB := TB_mem 977 (by decide +kernel) (by decide +kernel)
theorem w_978 : (.instanceMethod yX8_runScript : Cond) ∈ TB := TB_mem 978 (by decide +kernel) (by decide +kernel)
theorem w_979 : (.selects RX8 yX8_runScript yX8_runScript : Cond) ∈ TB := TB_mem 979 (by decide +kernel) (by decide +kernel)
theorem w_980 : (.code yX8_runScript cX8_runScript 7 (some .int) : Cond) ∈ TB := TB_mem 980 (by decide +kernel) (by decide +kernel)
theorem w_981 : (.constantLong RX8 264 (1000000) : Cond) ∈ TB := TB_mem 981 (by decide +kernel) (by decide +kernel)
theorem w_983 : (.methodLink RX8 268 yX8_succeeds : Cond) ∈ TB := TB_mem 983 (by decide +kernel) (by decide +kernel)
theorem w_985 : (.instanceMethod yX8_succeeds : Cond) ∈ TB := TB_mem 985 (by decide +kernel) (by decide +kernel)
theorem w_986 : (.code yX8_succeeds cX8_succeeds 6 (some .boolean) : Cond) ∈ TB := TB_mem 986 (by decide +kernel) (by decide +kernel)
theorem w_987 : (.constant RX8 339 (100000) : Cond) ∈ TB := TB_mem 987 (by decide +kernel) (by decide +kernel)
theorem w_988 : (.methodLink RX8 344 yX8_scriptDrifts : Cond) ∈ TB := TB_mem 988 (by decide +kernel) (by decide +kernel)
theorem w_990 : (.instanceMethod yX8_scriptDrifts : Cond) ∈ TB := TB_mem 990 (by decide +kernel) (by decide +kernel)
theorem w_991 : (.code yX8_scriptDrifts cX8_scriptDrifts 4 (some .boolean) : Cond) ∈ TB := TB_mem 991 (by decide +kernel) (by decide +kernel)
theorem w_992 : (.methodLink RX8 347 yX8_scriptSets : Cond) ∈ TB := TB_mem 992 (by decide +kernel) (by decide +kernel)
theorem w_994 : (.instanceMethod yX8_scriptSets : Cond) ∈ TB := TB_mem 994 (by decide +kernel) (by decide +kernel)
theorem w_995 : (.code yX8_scriptSets cX8_scriptSets 3 (some .boolean) : Cond) ∈ TB := TB_mem 995 (by decide +kernel) (by decide +kernel)
theorem w_996 : (.methodLink RX8 350 yX8_scriptLinks : Cond) ∈ TB := TB_mem 996 (by decide +kernel) (by decide +kernel)
theorem w_998 : (.instanceMethod yX8_scriptLinks : Cond) ∈ TB := TB_mem 998 (by decide +kernel) (by decide +kernel)
theorem w_999 : (.code yX8_scriptLinks cX8_scriptLinks 4 (some .boolean) : Cond) ∈ TB := TB_mem 999 (by decide +kernel) (by decide +kernel)
theorem w_1000 : (.methodLink RX8 353 yX8_chosenTableIs : Cond) ∈ TB := TB_mem 1000 (by decide +kernel) (by decide +kernel)
theorem w_1002 : (.instanceMethod yX8_chosenTableIs : Cond) ∈ TB := TB_mem 1002 (by decide +kernel) (by decide +kernel)
theorem w_1003 : (.code yX8_chosenTableIs cX8_chosenTableIs 4 (some .boolean) : Cond) ∈ TB := TB_mem 1003 (by decide +kernel) (by decide +kernel)
theorem w_1004 : (.methodLink RX8 356 yX7_remembersSince : Cond) ∈ TB := TB_mem 1004 (by decide +kernel) (by decide +kernel)
theorem w_1005 : (.instanceMethod yX7_remembersSince : Cond) ∈ TB := TB_mem 1005 (by decide +kernel) (by decide +kernel)
theorem w_1006 : (.selects RX7 yX7_remembersSince yX7_remembersSince : Cond) ∈ TB := TB_mem 1006 (by decide +kernel) (by decide +kernel)
theorem w_1007 : (.code yX7_remembersSince cX7_remembersSince 3 (some .boolean) : Cond) ∈ TB := TB_mem 1007 (by decide +kernel) (by decide +kernel)
theorem w_1008 : (.methodLink RL 207 yL_simulate : Cond) ∈ TB := TB_mem 1008 (by decide +kernel) (by decide +kernel)
theorem w_1009 : (.static yL_simulate : Cond) ∈ TB := TB_mem 1009 (by decide +kernel) (by decide +kernel)
theorem w_1010 : (.codeWith yL_simulate cL_simulate 6 (some .int) [(0, 11, 14, 13)] : Cond) ∈ TB := TB_mem 1010 (by decide +kernel) (by decide +kernel)
theorem w_1011 : (.methodLink RL 95 yX8_simulate : Cond) ∈ TB := TB_mem 1011 (by decide +kernel) (by decide +kernel)
theorem w_1012 : (.instanceMethod yX8_simulate : Cond) ∈ TB := TB_mem 1012 (by decide +kernel) (by decide +kernel)
theorem w_1013 : (.selects RX8 yX8_simulate yX8_simulate : Cond) ∈ TB := TB_mem 1013 (by decide +kernel) (by decide +kernel)
theorem w_1014 : (.code yX8_simulate cX8_simulate 7 (some .int) : Cond) ∈ TB := TB_mem 1014 (by decide +kernel) (by decide +kernel)
theorem w_1015 : (.constantLong RX8 271 (6364136223846793005) : Cond) ∈ TB := TB_mem 1015 (by decide +kernel) (by decide +kernel)
theorem w_1016 : (.constantLong RX8 273 (1442695040888963407) : Cond) ∈ TB := TB_mem 1016 (by decide +kernel) (by decide +kernel)
theorem w_1017 : (.methodLink RX8 275 yX8_takeTurn : Cond) ∈ TB := TB_mem 1017 (by decide +kernel) (by decide +kernel)
theorem w_1019 : (.instanceMethod yX8_takeTurn : Cond) ∈ TB := TB_mem 1019 (by decide +kernel) (by decide +kernel)
theorem w_1020 : (.code yX8_takeTurn cX8_takeTurn 4 none : Cond) ∈ TB := TB_mem 1020 (by decide +kernel) (by decide +kernel)
theorem w_1021 : (.methodLink RX8 282 yX7_memoryCount : Cond) ∈ TB := TB_mem 1021 (by decide +kernel) (by decide +kernel)
theorem w_1022 : (.methodLink RL 211 yL_save : Cond) ∈ TB := TB_mem 1022 (by decide +kernel) (by decide +kernel)
theorem w_1023 : (.static yL_save : Cond) ∈ TB := TB_mem 1023 (by decide +kernel) (by decide +kernel)
theorem w_1024 : (.codeWith yL_save cL_save 4 (some .int) [(0, 9, 12, 31)] : Cond) ∈ TB := TB_mem 1024 (by decide +kernel) (by decide +kernel)
theorem w_1025 : (.methodLink RL 99 yX8_save : Cond) ∈ TB := TB_mem 1025 (by decide +kernel) (by decide +kernel)
theorem w_1026 : (.instanceMethod yX8_save : Cond) ∈ TB := TB_mem 1026 (by decide +kernel) (by decide +kernel)
theorem w_1027 : (.selects RX8 yX8_save yX8_save : Cond) ∈ TB := TB_mem 1027 (by decide +kernel) (by decide +kernel)
theorem w_1028 : (.code yX8_save cX8_save 2 (some .int) : Cond) ∈ TB := TB_mem 1028 (by decide +kernel) (by decide +kernel)
theorem w_1029 : (.methodLink RX8 285 yX8_needSlot : Cond) ∈ TB := TB_mem 1029 (by decide +kernel) (by decide +kernel)
theorem w_1030 : (.static yX8_needSlot : Cond) ∈ TB := TB_mem 1030 (by decide +kernel) (by decide +kernel)
theorem w_1031 : (.code yX8_needSlot cX8_needSlot 1 none : Cond) ∈ TB := TB_mem 1031 (by decide +kernel) (by decide +kernel)
theorem w_1033 : (.methodLink RX8 288 yX5_put : Cond) ∈ TB := TB_mem 1033 (by decide +kernel) (by decide +kernel)
theorem w_1034 : (.instanceMethod yX5_put : Cond) ∈ TB := TB_mem 1034 (by decide +kernel) (by decide +kernel)
theorem w_1035 : (.selects RX5 yX5_put yX5_put : Cond) ∈ TB := TB_mem 1035 (by decide +kernel) (by decide +kernel)
theorem w_1036 : (.code yX5_put cX5_put 4 none : Cond) ∈ TB := TB_mem 1036 (by decide +kernel) (by decide +kernel)
theorem w_1038 : (.methodLink RX5 26 yX7_takeFrom : Cond) ∈ TB := TB_mem 1038 (by decide +kernel) (by decide +kernel)
theorem w_1039 : (.methodLink RL 214 yL_restore : Cond) ∈ TB := TB_mem 1039 (by decide +kernel) (by decide +kernel)
theorem w_1040 : (.static yL_restore : Cond) ∈ TB := TB_mem 1040 (by decide +kernel) (by decide +kernel)
theorem w_1041 : (.codeWith yL_restore cL_restore 4 (some .int) [(0, 9, 12, 31), (0, 9, 15, 15)] : Cond) ∈ TB := TB_mem 1041 (by decide +kernel) (by decide +kernel)
theorem w_1042 : (.methodLink RL 102 yX8_restore : Cond) ∈ TB := TB_mem 1042 (by decide +kernel) (by decide +kernel)
theorem w_1043 : (.instanceMethod yX8_restore : Cond) ∈ TB := TB_mem 1043 (by decide +kernel) (by decide +kernel)
theorem w_1044 : (.selects RX8 yX8_restore yX8_restore : Cond) ∈ TB := TB_mem 1044 (by decide +kernel) (by decide +kernel)
theorem w_1045 : (.code yX8_restore cX8_restore 2 (some .int) : Cond) ∈ TB := TB_mem 1045 (by decide +kernel) (by decide +kernel)
theorem w_1046 : (.methodLink RX8 294 yX5_isFilled : Cond) ∈ TB := TB_mem 1046 (by decide +kernel) (by decide +kernel)
theorem w_1047 : (.instanceMethod yX5_isFilled : Cond) ∈ TB := TB_mem 1047 (by decide +kernel) (by decide +kernel)
theorem w_1048 : (.selects RX5 yX5_isFilled yX5_isFilled : Cond) ∈ TB := TB_mem 1048 (by decide +kernel) (by decide +kernel)
theorem w_1049 : (.code yX5_isFilled cX5_isFilled 2 (some .boolean) : Cond) ∈ TB := TB_mem 1049 (by decide +kernel) (by decide +kernel)
theorem w_1051 : (.methodLink RX8 299 yX5_takeOut : Cond) ∈ TB := TB_mem 1051 (by decide +kernel) (by decide +kernel)
theorem w_1052 : (.instanceMethod yX5_takeOut : Cond) ∈ TB := TB_mem 1052 (by decide +kernel) (by decide +kernel)
theorem w_1053 : (.selects RX5 yX5_takeOut yX5_takeOut : Cond) ∈ TB := TB_mem 1053 (by decide +kernel) (by decide +kernel)
theorem w_1054 : (.code yX5_takeOut cX5_takeOut 4 none : Cond) ∈ TB := TB_mem 1054 (by decide +kernel) (by decide +kernel)
theorem w_1055 : (.methodLink RX5 30 yX5_isFilled : Cond) ∈ TB := TB_mem 1055 (by decide +kernel) (by decide +kernel)
theorem w_1061 : (.methodLink RX9 1 objectInit : Cond) ∈ TB := TB_mem 1061 (by decide +kernel) (by decide +kernel)
theorem w_1062 : (.methodLink RX9 45 yX9_begin : Cond) ∈ TB := TB_mem 1062 (by decide +kernel) (by decide +kernel)
theorem w_1063 : (.static yX9_begin : Cond) ∈ TB := TB_mem 1063 (by decide +kernel) (by decide +kernel)
theorem w_1064 : (.code yX9_begin cX9_begin 2 none : Cond) ∈ TB := TB_mem 1064 (by decide +kernel) (by decide +kernel)
theorem w_1065 : (.constantLong RX9 49 (50) : Cond) ∈ TB := TB_mem 1065 (by decide +kernel) (by decide +kernel)
theorem w_1066 : (.constantLong RX9 51 (10) : Cond) ∈ TB := TB_mem 1066 (by decide +kernel) (by decide +kernel)
theorem w_1067 : (.constantLong RX9 53 (4) : Cond) ∈ TB := TB_mem 1067 (by decide +kernel) (by decide +kernel)
theorem w_1068 : (.fieldLink RX9 55 "SurprisedPlansModel" "refusal" "I" : Cond) ∈ TB := TB_mem 1068 (by decide +kernel) (by decide +kernel)
theorem w_1069 : (.fieldLink RX9 7 "SurprisedPlansModel" "text" "[I" : Cond) ∈ TB := TB_mem 1069 (by decide +kernel) (by decide +kernel)
theorem w_1070 : (.fieldLink RX9 115 "SurprisedPlansModel" "size" "I" : Cond) ∈ TB := TB_mem 1070 (by decide +kernel) (by decide +kernel)
theorem w_1071 : (.fieldLink RX9 13 "SurprisedPlansModel" "now" "[J" : Cond) ∈ TB := TB_mem 1071 (by decide +kernel) (by decide +kernel)
theorem w_1072 : (.fieldLink RX9 17 "SurprisedPlansModel" "trial" "[J" : Cond) ∈ TB := TB_mem 1072 (by decide +kernel) (by decide +kernel)
theorem w_1073 : (.fieldLink RX9 20 "SurprisedPlansModel" "diary" "[J" : Cond) ∈ TB := TB_mem 1073 (by decide +kernel) (by decide +kernel)
theorem w_1074 : (.fieldLink RX9 177 "SurprisedPlansModel" "acts" "I" : Cond) ∈ TB := TB_mem 1074 (by decide +kernel) (by decide +kernel)
theorem w_1075 : (.fieldLink RX9 23 "SurprisedPlansModel" "kept" "[J" : Cond) ∈ TB := TB_mem 1075 (by decide +kernel) (by decide +kernel)
theorem w_1076 : (.fieldLink RX9 26 "SurprisedPlansModel" "isKept" "[Z" : Cond) ∈ TB := TB_mem 1076 (by decide +kernel) (by decide +kernel)
theorem w_1077 : (.fieldLink RX9 30 "SurprisedPlansModel" "chosenBy" "[J" : Cond) ∈ TB := TB_mem 1077 (by decide +kernel) (by decide +kernel)
theorem w_1078 : (.fieldLink RX9 33 "SurprisedPlansModel" "paidBy" "[J" : Cond) ∈ TB := TB_mem 1078 (by decide +kernel) (by decide +kernel)
theorem w_1079 : (.fieldLink RX9 36 "SurprisedPlansModel" "toPay" "[J" : Cond) ∈ TB := TB_mem 1079 (by decide +kernel) (by decide +kernel)
theorem w_1080 : (.fieldLink RX9 39 "SurprisedPlansModel" "plan" "[I" : Cond) ∈ TB := TB_mem 1080 (by decide +kernel) (by decide +kernel)
theorem w_1081 : (.fieldLink RX9 98 "SurprisedPlansModel" "planned" "I" : Cond) ∈ TB := TB_mem 1081 (by decide +kernel) (by decide +kernel)
theorem w_1082 : (.fieldLink RX9 122 "SurprisedPlansModel" "spot" "I" : Cond) ∈ TB := TB_mem 1082 (by decide +kernel) (by decide +kernel)
theorem w_1083 : (.fieldLink RX9 151 "SurprisedPlansModel" "out" "I" : Cond) ∈ TB := TB_mem 1083 (by decide +kernel) (by decide +kernel)
theorem w_1084 : (.fieldLink RX9 42 "SurprisedPlansModel" "other" "[I" : Cond) ∈ TB := TB_mem 1084 (by decide +kernel) (by decide +kernel)
theorem w_1120 : (.methodLink RL 115 yX9_thrown : Cond) ∈ TB := TB_mem 1120 (by decide +kernel) (by decide +kernel)
theorem w_1121 : (.instanceMethod yX9_thrown : Cond) ∈ TB := TB_mem 1121 (by decide +kernel) (by decide +kernel)
theorem w_1122 : (.selects RX9 yX9_thrown yX9_thrown : Cond) ∈ TB := TB_mem 1122 (by decide +kernel) (by decide +kernel)
theorem w_1123 : (.code yX9_thrown cX9_thrown 1 (some .int) : Cond) ∈ TB := TB_mem 1123 (by decide +kernel) (by decide +kernel)
theorem w_1124 : (.methodLink RL 114 yX9_append : Cond) ∈ TB := TB_mem 1124 (by decide +kernel) (by decide +kernel)
theorem w_1125 : (.instanceMethod yX9_append : Cond) ∈ TB := TB_mem 1125 (by decide +kernel) (by decide +kernel)
theorem w_1126 : (.selects RX9 yX9_append yX9_append : Cond) ∈ TB := TB_mem 1126 (by decide +kernel) (by decide +kernel)
theorem w_1127 : (.code yX9_append cX9_append 2 (some .int) : Cond) ∈ TB := TB_mem 1127 (by decide +kernel) (by decide +kernel)
theorem w_1128 : (.constantLong RX9 113 (255) : Cond) ∈ TB := TB_mem 1128 (by decide +kernel) (by decide +kernel)
theorem w_1129 : (.methodLink RX9 59 yX9_in : Cond) ∈ TB := TB_mem 1129 (by decide +kernel) (by decide +kernel)
theorem w_1130 : (.static yX9_in : Cond) ∈ TB := TB_mem 1130 (by decide +kernel) (by decide +kernel)
theorem w_1131 : (.code yX9_in cX9_in 6 (some .boolean) : Cond) ∈ TB := TB_mem 1131 (by decide +kernel) (by decide +kernel)
theorem w_1132 : (.methodLink RX9 118 yX9_refused : Cond) ∈ TB := TB_mem 1132 (by decide +kernel) (by decide +kernel)
theorem w_1134 : (.instanceMethod yX9_refused : Cond) ∈ TB := TB_mem 1134 (by decide +kernel) (by decide +kernel)
theorem w_1135 : (.code yX9_refused cX9_refused 2 (some .boolean) : Cond) ∈ TB := TB_mem 1135 (by decide +kernel) (by decide +kernel)
theorem w_1136 : (.methodLink RL 121 yX9_clearText : Cond) ∈ TB := TB_mem 1136 (by decide +kernel) (by decide +kernel)
theorem w_1137 : (.instanceMethod yX9_clearText : Cond) ∈ TB := TB_mem 1137 (by decide +kernel) (by decide +kernel)
theorem w_1138 : (.selects RX9 yX9_clearText yX9_clearText : Cond) ∈ TB := TB_mem 1138 (by decide +kernel) (by decide +kernel)
theorem w_1139 : (.code yX9_clearText cX9_clearText 2 (some .int) : Cond) ∈ TB := TB_mem 1139 (by decide +kernel) (by decide +kernel)
theorem w_1140 : (.methodLink RL 126 yX9_errorPosition : Cond) ∈ TB := TB_mem 1140 (by decide +kernel) (by decide +kernel)
theorem w_1141 : (.instanceMethod yX9_errorPosition : Cond) ∈ TB := TB_mem 1141 (by decide +kernel) (by decide +kernel)
theorem w_1142 : (.selects RX9 yX9_errorPosition yX9_errorPosition : Cond) ∈ TB := TB_mem 1142 (by decide +kernel) (by decide +kernel)
theorem w_1143 : (.code yX9_errorPosition cX9_errorPosition 2 (some .int) : Cond) ∈ TB := TB_mem 1143 (by decide +kernel) (by decide +kernel)
theorem w_1144 : (.methodLink RX9 166 yX9_wrongPlan : Cond) ∈ TB := TB_mem 1144 (by decide +kernel) (by decide +kernel)
theorem w_1146 : (.instanceMethod yX9_wrongPlan : Cond) ∈ TB := TB_mem 1146 (by decide +kernel) (by decide +kernel)
theorem w_1147 : (.code yX9_wrongPlan cX9_wrongPlan 4 (some .int) : Cond) ∈ TB := TB_mem 1147 (by decide +kernel) (by decide +kernel)
theorem w_1148 : (.methodLink RX9 125 yX9_sign : Cond) ∈ TB := TB_mem 1148 (by decide +kernel) (by decide +kernel)
theorem w_1150 : (.instanceMethod yX9_sign : Cond) ∈ TB := TB_mem 1150 (by decide +kernel) (by decide +kernel)
theorem w_1151 : (.code yX9_sign cX9_sign 1 (some .int) : Cond) ∈ TB := TB_mem 1151 (by decide +kernel) (by decide +kernel)
theorem w_1152 : (.constantLong RX9 132 (48) : Cond) ∈ TB := TB_mem 1152 (by decide +kernel) (by decide +kernel)
theorem w_1153 : (.constantLong RX9 136 (54) : Cond) ∈ TB := TB_mem 1153 (by decide +kernel) (by decide +kernel)
theorem w_1154 : (.methodLink RX9 129 yX9_taken : Cond) ∈ TB := TB_mem 1154 (by decide +kernel) (by decide +kernel)
theorem w_1156 : (.instanceMethod yX9_taken : Cond) ∈ TB := TB_mem 1156 (by decide +kernel) (by decide +kernel)
theorem w_1157 : (.code yX9_taken cX9_taken 4 (some .int) : Cond) ∈ TB := TB_mem 1157 (by decide +kernel) (by decide +kernel)
theorem w_1158 : (.methodLink RX9 169 yX9_wrongWorld : Cond) ∈ TB := TB_mem 1158 (by decide +kernel) (by decide +kernel)
theorem w_1160 : (.instanceMethod yX9_wrongWorld : Cond) ∈ TB := TB_mem 1160 (by decide +kernel) (by decide +kernel)
theorem w_1161 : (.code yX9_wrongWorld cX9_wrongWorld 3 (some .int) : Cond) ∈ TB := TB_mem 1161 (by decide +kernel) (by decide +kernel)
theorem w_1162 : (.methodLink RX9 162 yX9_readEntry : Cond) ∈ TB := TB_mem 1162 (by decide +kernel) (by decide +kernel)
theorem w_1164 : (.instanceMethod yX9_readEntry : Cond) ∈ TB := TB_mem 1164 (by decide +kernel) (by decide +kernel)
theorem w_1165 : (.code yX9_readEntry cX9_readEntry 6 (some .boolean) : Cond) ∈ TB := TB_mem 1165 (by decide +kernel) (by decide +kernel)
theorem w_1166 : (.methodLink RX9 141 yX9_number : Cond) ∈ TB := TB_mem 1166 (by decide +kernel) (by decide +kernel)
theorem w_1168 : (.instanceMethod yX9_number : Cond) ∈ TB := TB_mem 1168 (by decide +kernel) (by decide +kernel)
theorem w_1169 : (.code yX9_number cX9_number 3 (some .int) : Cond) ∈ TB := TB_mem 1169 (by decide +kernel) (by decide +kernel)
theorem w_1170 : (.constantLong RX9 134 (57) : Cond) ∈ TB := TB_mem 1170 (by decide +kernel) (by decide +kernel)
theorem w_1171 : (.constantLong RX9 145 (7) : Cond) ∈ TB := TB_mem 1171 (by decide +kernel) (by decide +kernel)
theorem w_1172 : (.methodLink RX9 147 yX9_addOn : Cond) ∈ TB := TB_mem 1172 (by decide +kernel) (by decide +kernel)
theorem w_1173 : (.static yX9_addOn : Cond) ∈ TB := TB_mem 1173 (by decide +kernel) (by decide +kernel)
theorem w_1174 : (.code yX9_addOn cX9_addOn 3 (some .int) : Cond) ∈ TB := TB_mem 1174 (by decide +kernel) (by decide +kernel)
theorem w_1175 : (.methodLink RX9 154 yX9_isTable : Cond) ∈ TB := TB_mem 1175 (by decide +kernel) (by decide +kernel)
theorem w_1176 : (.static yX9_isTable : Cond) ∈ TB := TB_mem 1176 (by decide +kernel) (by decide +kernel)
theorem w_1177 : (.code yX9_isTable cX9_isTable 2 (some .boolean) : Cond) ∈ TB := TB_mem 1177 (by decide +kernel) (by decide +kernel)
theorem w_1178 : (.methodLink RX9 158 yX9_linkOn : Cond) ∈ TB := TB_mem 1178 (by decide +kernel) (by decide +kernel)
theorem w_1179 : (.static yX9_linkOn : Cond) ∈ TB := TB_mem 1179 (by decide +kernel) (by decide +kernel)
theorem w_1180 : (.code yX9_linkOn cX9_linkOn 6 (some .int) : Cond) ∈ TB := TB_mem 1180 (by decide +kernel) (by decide +kernel)
theorem w_1181 : (.methodLink RX9 73 yX9_pairOf : Cond) ∈ TB := TB_mem 1181 (by decide +kernel) (by decide +kernel)
theorem w_1182 : (.static yX9_pairOf : Cond) ∈ TB := TB_mem 1182 (by decide +kernel) (by decide +kernel)
theorem w_1183 : (.code yX9_pairOf cX9_pairOf 2 (some .int) : Cond) ∈ TB := TB_mem 1183 (by decide +kernel) (by decide +kernel)
theorem w_1184 : (.methodLink RX9 138 yX9_count : Cond) ∈ TB := TB_mem 1184 (by decide +kernel) (by decide +kernel)
theorem w_1185 : (.static yX9_count : Cond) ∈ TB := TB_mem 1185 (by decide +kernel) (by decide +kernel)
theorem w_1186 : (.code yX9_count cX9_count 5 (some .long) : Cond) ∈ TB := TB_mem 1186 (by decide +kernel) (by decide +kernel)
theorem w_1187 : (.methodLink RL 130 yX9_load : Cond) ∈ TB := TB_mem 1187 (by decide +kernel) (by decide +kernel)
theorem w_1188 : (.instanceMethod yX9_load : Cond) ∈ TB := TB_mem 1188 (by decide +kernel) (by decide +kernel)
theorem w_1189 : (.selects RX9 yX9_load yX9_load : Cond) ∈ TB := TB_mem 1189 (by decide +kernel) (by decide +kernel)
theorem w_1190 : (.code yX9_load cX9_load 1 (some .int) : Cond) ∈ TB := TB_mem 1190 (by decide +kernel) (by decide +kernel)
theorem w_1191 : (.methodLink RX9 173 yX9_copyWorld : Cond) ∈ TB := TB_mem 1191 (by decide +kernel) (by decide +kernel)
theorem w_1192 : (.static yX9_copyWorld : Cond) ∈ TB := TB_mem 1192 (by decide +kernel) (by decide +kernel)
theorem w_1193 : (.code yX9_copyWorld cX9_copyWorld 5 none : Cond) ∈ TB := TB_mem 1193 (by decide +kernel) (by decide +kernel)
theorem w_1194 : (.methodLink RL 133 yX9_about : Cond) ∈ TB := TB_mem 1194 (by decide +kernel) (by decide +kernel)
theorem w_1195 : (.instanceMethod yX9_about : Cond) ∈ TB := TB_mem 1195 (by decide +kernel) (by decide +kernel)
theorem w_1196 : (.selects RX9 yX9_about yX9_about : Cond) ∈ TB := TB_mem 1196 (by decide +kernel) (by decide +kernel)
theorem w_1197 : (.code yX9_about cX9_about 2 (some .int) : Cond) ∈ TB := TB_mem 1197 (by decide +kernel) (by decide +kernel)
theorem w_1198 : (.constantLong RX9 180 (5) : Cond) ∈ TB := TB_mem 1198 (by decide +kernel) (by decide +kernel)
theorem w_1199 : (.methodLink RL 136 yX9_sum : Cond) ∈ TB := TB_mem 1199 (by decide +kernel) (by decide +kernel)
theorem w_1200 : (.instanceMethod yX9_sum : Cond) ∈ TB := TB_mem 1200 (by decide +kernel) (by decide +kernel)
theorem w_1201 : (.selects RX9 yX9_sum yX9_sum : Cond) ∈ TB := TB_mem 1201 (by decide +kernel) (by decide +kernel)
theorem w_1202 : (.code yX9_sum cX9_sum 2 (some .long) : Cond) ∈ TB := TB_mem 1202 (by decide +kernel) (by decide +kernel)
theorem w_1203 : (.constantLong RX9 86 (3) : Cond) ∈ TB := TB_mem 1203 (by decide +kernel) (by decide +kernel)
theorem w_1204 : (.methodLink RL 139 yX9_size : Cond) ∈ TB := TB_mem 1204 (by decide +kernel) (by decide +kernel)
theorem w_1205 : (.instanceMethod yX9_size : Cond) ∈ TB := TB_mem 1205 (by decide +kernel) (by decide +kernel)
theorem w_1206 : (.selects RX9 yX9_size yX9_size : Cond) ∈ TB := TB_mem 1206 (by decide +kernel) (by decide +kernel)
theorem w_1207 : (.code yX9_size cX9_size 2 (some .int) : Cond) ∈ TB := TB_mem 1207 (by decide +kernel) (by decide +kernel)
theorem w_1208 : (.methodLink RL 143 yX9_pair : Cond) ∈ TB := TB_mem 1208 (by decide +kernel) (by decide +kernel)
theorem w_1209 : (.instanceMethod yX9_pair : Cond) ∈ TB := TB_mem 1209 (by decide +kernel) (by decide +kernel)
theorem w_1210 : (.selects RX9 yX9_pair yX9_pair : Cond) ∈ TB := TB_mem 1210 (by decide +kernel) (by decide +kernel)
theorem w_1211 : (.code yX9_pair cX9_pair 5 (some .int) : Cond) ∈ TB := TB_mem 1211 (by decide +kernel) (by decide +kernel)
theorem w_1212 : (.methodLink RX9 182 yX9_arePair : Cond) ∈ TB := TB_mem 1212 (by decide +kernel) (by decide +kernel)
theorem w_1213 : (.static yX9_arePair : Cond) ∈ TB := TB_mem 1213 (by decide +kernel) (by decide +kernel)
theorem w_1214 : (.code yX9_arePair cX9_arePair 3 (some .boolean) : Cond) ∈ TB := TB_mem 1214 (by decide +kernel) (by decide +kernel)
theorem w_1215 : (.methodLink RX9 63 yX9_believed : Cond) ∈ TB := TB_mem 1215 (by decide +kernel) (by decide +kernel)
theorem w_1216 : (.static yX9_believed : Cond) ∈ TB := TB_mem 1216 (by decide +kernel) (by decide +kernel)
theorem w_1217 : (.code yX9_believed cX9_believed 2 (some .long) : Cond) ∈ TB := TB_mem 1217 (by decide +kernel) (by decide +kernel)
theorem w_1218 : (.methodLink RL 147 yX9_surprise : Cond) ∈ TB := TB_mem 1218 (by decide +kernel) (by decide +kernel)
theorem w_1219 : (.instanceMethod yX9_surprise : Cond) ∈ TB := TB_mem 1219 (by decide +kernel) (by decide +kernel)
theorem w_1220 : (.selects RX9 yX9_surprise yX9_surprise : Cond) ∈ TB := TB_mem 1220 (by decide +kernel) (by decide +kernel)
theorem w_1221 : (.code yX9_surprise cX9_surprise 3 (some .int) : Cond) ∈ TB := TB_mem 1221 (by decide +kernel) (by decide +kernel)
theorem w_1222 : (.constantLong RX9 186 (9) : Cond) ∈ TB := TB_mem 1222 (by decide +kernel) (by decide +kernel)
theorem w_1223 : (.methodLink RL 150 yX9_setting : Cond) ∈ TB := TB_mem 1223 (by decide +kernel) (by decide +kernel)
theorem w_1224 : (.instanceMethod yX9_setting : Cond) ∈ TB := TB_mem 1224 (by decide +kernel) (by decide +kernel)
theorem w_1225 : (.selects RX9 yX9_setting yX9_setting : Cond) ∈ TB := TB_mem 1225 (by decide +kernel) (by decide +kernel)
theorem w_1226 : (.code yX9_setting cX9_setting 2 (some .int) : Cond) ∈ TB := TB_mem 1226 (by decide +kernel) (by decide +kernel)
theorem w_1227 : (.constantLong RX9 188 (2) : Cond) ∈ TB := TB_mem 1227 (by decide +kernel) (by decide +kernel)
theorem w_1228 : (.methodLink RL 153 yX9_add : Cond) ∈ TB := TB_mem 1228 (by decide +kernel) (by decide +kernel)
theorem w_1229 : (.instanceMethod yX9_add : Cond) ∈ TB := TB_mem 1229 (by decide +kernel) (by decide +kernel)
theorem w_1230 : (.selects RX9 yX9_add yX9_add : Cond) ∈ TB := TB_mem 1230 (by decide +kernel) (by decide +kernel)
theorem w_1231 : (.code yX9_add cX9_add 2 (some .int) : Cond) ∈ TB := TB_mem 1231 (by decide +kernel) (by decide +kernel)
theorem w_1232 : (.constantLong RX9 190 (9999) : Cond) ∈ TB := TB_mem 1232 (by decide +kernel) (by decide +kernel)
theorem w_1233 : (.methodLink RX9 192 yX9_remember : Cond) ∈ TB := TB_mem 1233 (by decide +kernel) (by decide +kernel)
theorem w_1235 : (.instanceMethod yX9_remember : Cond) ∈ TB := TB_mem 1235 (by decide +kernel) (by decide +kernel)
theorem w_1236 : (.code yX9_remember cX9_remember 2 none : Cond) ∈ TB := TB_mem 1236 (by decide +kernel) (by decide +kernel)
theorem w_1237 : (.methodLink RL 156 yX9_resize : Cond) ∈ TB := TB_mem 1237 (by decide +kernel) (by decide +kernel)
theorem w_1238 : (.instanceMethod yX9_resize : Cond) ∈ TB := TB_mem 1238 (by decide +kernel) (by decide +kernel)
theorem w_1239 : (.selects RX9 yX9_resize yX9_resize : Cond) ∈ TB := TB_mem 1239 (by decide +kernel) (by decide +kernel)
theorem w_1240 : (.code yX9_resize cX9_resize 4 (some .int) : Cond) ∈ TB := TB_mem 1240 (by decide +kernel) (by decide +kernel)
theorem w_1241 : (.methodLink RL 160 yX9_link : Cond) ∈ TB := TB_mem 1241 (by decide +kernel) (by decide +kernel)
theorem w_1242 : (.instanceMethod yX9_link : Cond) ∈ TB := TB_mem 1242 (by decide +kernel) (by decide +kernel)
theorem w_1243 : (.selects RX9 yX9_link yX9_link : Cond) ∈ TB := TB_mem 1243 (by decide +kernel) (by decide +kernel)
theorem w_1244 : (.code yX9_link cX9_link 5 (some .int) : Cond) ∈ TB := TB_mem 1244 (by decide +kernel) (by decide +kernel)
theorem w_1245 : (.methodLink RX9 195 yX9_isShare : Cond) ∈ TB := TB_mem 1245 (by decide +kernel) (by decide +kernel)
theorem w_1246 : (.static yX9_isShare : Cond) ∈ TB := TB_mem 1246 (by decide +kernel) (by decide +kernel)
theorem w_1247 : (.code yX9_isShare cX9_isShare 1 (some .boolean) : Cond) ∈ TB := TB_mem 1247 (by decide +kernel) (by decide +kernel)
theorem w_1248 : (.constantLong RX9 81 (1000) : Cond) ∈ TB := TB_mem 1248 (by decide +kernel) (by decide +kernel)
theorem w_1249 : (.methodLink RL 163 yX9_drift : Cond) ∈ TB := TB_mem 1249 (by decide +kernel) (by decide +kernel)
theorem w_1250 : (.instanceMethod yX9_drift : Cond) ∈ TB := TB_mem 1250 (by decide +kernel) (by decide +kernel)
theorem w_1251 : (.selects RX9 yX9_drift yX9_drift : Cond) ∈ TB := TB_mem 1251 (by decide +kernel) (by decide +kernel)
theorem w_1252 : (.code yX9_drift cX9_drift 4 (some .int) : Cond) ∈ TB := TB_mem 1252 (by decide +kernel) (by decide +kernel)
theorem w_1253 : (.methodLink RX9 198 yX9_whyNotDrift : Cond) ∈ TB := TB_mem 1253 (by decide +kernel) (by decide +kernel)
theorem w_1254 : (.static yX9_whyNotDrift : Cond) ∈ TB := TB_mem 1254 (by decide +kernel) (by decide +kernel)
theorem w_1255 : (.code yX9_whyNotDrift cX9_whyNotDrift 4 (some .int) : Cond) ∈ TB := TB_mem 1255 (by decide +kernel) (by decide +kernel)
theorem w_1256 : (.methodLink RX9 202 yX9_driftOn : Cond) ∈ TB := TB_mem 1256 (by decide +kernel) (by decide +kernel)
theorem w_1257 : (.static yX9_driftOn : Cond) ∈ TB := TB_mem 1257 (by decide +kernel) (by decide +kernel)
theorem w_1258 : (.code yX9_driftOn cX9_driftOn 5 (some .int) : Cond) ∈ TB := TB_mem 1258 (by decide +kernel) (by decide +kernel)
theorem w_1259 : (.methodLink RL 166 yX9_run : Cond) ∈ TB := TB_mem 1259 (by decide +kernel) (by decide +kernel)
theorem w_1260 : (.instanceMethod yX9_run : Cond) ∈ TB := TB_mem 1260 (by decide +kernel) (by decide +kernel)
theorem w_1261 : (.selects RX9 yX9_run yX9_run : Cond) ∈ TB := TB_mem 1261 (by decide +kernel) (by decide +kernel)
theorem w_1262 : (.code yX9_run cX9_run 2 (some .int) : Cond) ∈ TB := TB_mem 1262 (by decide +kernel) (by decide +kernel)
theorem w_1263 : (.methodLink RX9 214 yX9_whyNotRun : Cond) ∈ TB := TB_mem 1263 (by decide +kernel) (by decide +kernel)
theorem w_1264 : (.static yX9_whyNotRun : Cond) ∈ TB := TB_mem 1264 (by decide +kernel) (by decide +kernel)
theorem w_1265 : (.code yX9_whyNotRun cX9_whyNotRun 2 (some .int) : Cond) ∈ TB := TB_mem 1265 (by decide +kernel) (by decide +kernel)
theorem w_1266 : (.methodLink RX9 211 yX9_isSet : Cond) ∈ TB := TB_mem 1266 (by decide +kernel) (by decide +kernel)
theorem w_1267 : (.static yX9_isSet : Cond) ∈ TB := TB_mem 1267 (by decide +kernel) (by decide +kernel)
theorem w_1268 : (.code yX9_isSet cX9_isSet 2 (some .boolean) : Cond) ∈ TB := TB_mem 1268 (by decide +kernel) (by decide +kernel)
theorem w_1269 : (.methodLink RX9 217 yX9_runOn : Cond) ∈ TB := TB_mem 1269 (by decide +kernel) (by decide +kernel)
theorem w_1271 : (.instanceMethod yX9_runOn : Cond) ∈ TB := TB_mem 1271 (by decide +kernel) (by decide +kernel)
theorem w_1272 : (.code yX9_runOn cX9_runOn 10 (some .int) : Cond) ∈ TB := TB_mem 1272 (by decide +kernel) (by decide +kernel)
theorem w_1273 : (.methodLink RX9 205 yX9_costOn : Cond) ∈ TB := TB_mem 1273 (by decide +kernel) (by decide +kernel)
theorem w_1275 : (.instanceMethod yX9_costOn : Cond) ∈ TB := TB_mem 1275 (by decide +kernel) (by decide +kernel)
theorem w_1276 : (.code yX9_costOn cX9_costOn 8 (some .long) : Cond) ∈ TB := TB_mem 1276 (by decide +kernel) (by decide +kernel)
theorem w_1277 : (.methodLink RX9 107 yX9_choose : Cond) ∈ TB := TB_mem 1277 (by decide +kernel) (by decide +kernel)
theorem w_1279 : (.instanceMethod yX9_choose : Cond) ∈ TB := TB_mem 1279 (by decide +kernel) (by decide +kernel)
theorem w_1280 : (.code yX9_choose cX9_choose 8 (some .long) : Cond) ∈ TB := TB_mem 1280 (by decide +kernel) (by decide +kernel)
theorem w_1281 : (.methodLink RX9 94 yX9_layRows : Cond) ∈ TB := TB_mem 1281 (by decide +kernel) (by decide +kernel)
theorem w_1283 : (.instanceMethod yX9_layRows : Cond) ∈ TB := TB_mem 1283 (by decide +kernel) (by decide +kernel)
theorem w_1284 : (.code yX9_layRows cX9_layRows 5 none : Cond) ∈ TB := TB_mem 1284 (by decide +kernel) (by decide +kernel)
theorem w_1285 : (.methodLink RX9 83 yX9_rowsOn : Cond) ∈ TB := TB_mem 1285 (by decide +kernel) (by decide +kernel)
theorem w_1286 : (.static yX9_rowsOn : Cond) ∈ TB := TB_mem 1286 (by decide +kernel) (by decide +kernel)
theorem w_1287 : (.code yX9_rowsOn cX9_rowsOn 8 (some .long) : Cond) ∈ TB := TB_mem 1287 (by decide +kernel) (by decide +kernel)
theorem w_1288 : (.constantLong RX9 67 (1000000000000) : Cond) ∈ TB := TB_mem 1288 (by decide +kernel) (by decide +kernel)
theorem w_1289 : (.methodLink RX9 69 yX9_less : Cond) ∈ TB := TB_mem 1289 (by decide +kernel) (by decide +kernel)
theorem w_1290 : (.static yX9_less : Cond) ∈ TB := TB_mem 1290 (by decide +kernel) (by decide +kernel)
theorem w_1291 : (.code yX9_less cX9_less 4 (some .long) : Cond) ∈ TB := TB_mem 1291 (by decide +kernel) (by decide +kernel)
theorem w_1292 : (.methodLink RX9 77 yX9_shareOf : Cond) ∈ TB := TB_mem 1292 (by decide +kernel) (by decide +kernel)
theorem w_1293 : (.static yX9_shareOf : Cond) ∈ TB := TB_mem 1293 (by decide +kernel) (by decide +kernel)
theorem w_1294 : (.code yX9_shareOf cX9_shareOf 3 (some .long) : Cond) ∈ TB := TB_mem 1294 (by decide +kernel) (by decide +kernel)
theorem w_1295 : (.constantLong RX9 101 (-1) : Cond) ∈ TB := TB_mem 1295 (by decide +kernel) (by decide +kernel)
theorem w_1296 : (.methodLink RX9 103 yX9_stepCost : Cond) ∈ TB := TB_mem 1296 (by decide +kernel) (by decide +kernel)
theorem w_1297 : (.static yX9_stepCost : Cond) ∈ TB := TB_mem 1297 (by decide +kernel) (by decide +kernel)
theorem w_1298 : (.code yX9_stepCost cX9_stepCost 7 (some .long) : Cond) ∈ TB := TB_mem 1298 (by decide +kernel) (by decide +kernel)
theorem w_1299 : (.methodLink RX9 88 yX9_isByList : Cond) ∈ TB := TB_mem 1299 (by decide +kernel) (by decide +kernel)
theorem w_1300 : (.static yX9_isByList : Cond) ∈ TB := TB_mem 1300 (by decide +kernel) (by decide +kernel)
theorem w_1301 : (.code yX9_isByList cX9_isByList 4 (some .boolean) : Cond) ∈ TB := TB_mem 1301 (by decide +kernel) (by decide +kernel)
theorem w_1302 : (.constantLong RX9 92 (1000000000000000) : Cond) ∈ TB := TB_mem 1302 (by decide +kernel) (by decide +kernel)
theorem w_1303 : (.methodLink RX9 110 yX9_payFor : Cond) ∈ TB := TB_mem 1303 (by decide +kernel) (by decide +kernel)
theorem w_1305 : (.instanceMethod yX9_payFor : Cond) ∈ TB := TB_mem 1305 (by decide +kernel) (by decide +kernel)
theorem w_1306 : (.code yX9_payFor cX9_payFor 7 (some .long) : Cond) ∈ TB := TB_mem 1306 (by decide +kernel) (by decide +kernel)
theorem w_1307 : (.methodLink RX9 208 yX9_find : Cond) ∈ TB := TB_mem 1307 (by decide +kernel) (by decide +kernel)
theorem w_1308 : (.static yX9_find : Cond) ∈ TB := TB_mem 1308 (by decide +kernel) (by decide +kernel)
theorem w_1309 : (.code yX9_find cX9_find 11 (some .boolean) : Cond) ∈ TB := TB_mem 1309 (by decide +kernel) (by decide +kernel)
theorem w_1310 : (.methodLink RL 169 yX9_weeks : Cond) ∈ TB := TB_mem 1310 (by decide +kernel) (by decide +kernel)
theorem w_1311 : (.instanceMethod yX9_weeks : Cond) ∈ TB := TB_mem 1311 (by decide +kernel) (by decide +kernel)
theorem w_1312 : (.selects RX9 yX9_weeks yX9_weeks : Cond) ∈ TB := TB_mem 1312 (by decide +kernel) (by decide +kernel)
theorem w_1313 : (.code yX9_weeks cX9_weeks 2 (some .int) : Cond) ∈ TB := TB_mem 1313 (by decide +kernel) (by decide +kernel)
theorem w_1314 : (.constantLong RX9 220 (20) : Cond) ∈ TB := TB_mem 1314 (by decide +kernel) (by decide +kernel)
theorem w_1315 : (.methodLink RX9 222 yX9_weeksOn : Cond) ∈ TB := TB_mem 1315 (by decide +kernel) (by decide +kernel)
theorem w_1316 : (.static yX9_weeksOn : Cond) ∈ TB := TB_mem 1316 (by decide +kernel) (by decide +kernel)
theorem w_1317 : (.code yX9_weeksOn cX9_weeksOn 4 (some .int) : Cond) ∈ TB := TB_mem 1317 (by decide +kernel) (by decide +kernel)
theorem w_1318 : (.methodLink RL 172 yX9_set : Cond) ∈ TB := TB_mem 1318 (by decide +kernel) (by decide +kernel)
theorem w_1319 : (.instanceMethod yX9_set : Cond) ∈ TB := TB_mem 1319 (by decide +kernel) (by decide +kernel)
theorem w_1320 : (.selects RX9 yX9_set yX9_set : Cond) ∈ TB := TB_mem 1320 (by decide +kernel) (by decide +kernel)
theorem w_1321 : (.code yX9_set cX9_set 4 (some .int) : Cond) ∈ TB := TB_mem 1321 (by decide +kernel) (by decide +kernel)
theorem w_1322 : (.methodLink RX9 225 yX9_isSetting : Cond) ∈ TB := TB_mem 1322 (by decide +kernel) (by decide +kernel)
theorem w_1323 : (.static yX9_isSetting : Cond) ∈ TB := TB_mem 1323 (by decide +kernel) (by decide +kernel)
theorem w_1324 : (.code yX9_isSetting cX9_isSetting 2 (some .boolean) : Cond) ∈ TB := TB_mem 1324 (by decide +kernel) (by decide +kernel)
theorem w_1325 : (.methodLink RL 175 yX9_undo : Cond) ∈ TB := TB_mem 1325 (by decide +kernel) (by decide +kernel)
theorem w_1326 : (.instanceMethod yX9_undo : Cond) ∈ TB := TB_mem 1326 (by decide +kernel) (by decide +kernel)
theorem w_1327 : (.selects RX9 yX9_undo yX9_undo : Cond) ∈ TB := TB_mem 1327 (by decide +kernel) (by decide +kernel)
theorem w_1328 : (.code yX9_undo cX9_undo 1 (some .int) : Cond) ∈ TB := TB_mem 1328 (by decide +kernel) (by decide +kernel)
theorem w_1329 : (.methodLink RL 178 yX9_rows : Cond) ∈ TB := TB_mem 1329 (by decide +kernel) (by decide +kernel)
theorem w_1330 : (.instanceMethod yX9_rows : Cond) ∈ TB := TB_mem 1330 (by decide +kernel) (by decide +kernel)
theorem w_1331 : (.selects RX9 yX9_rows yX9_rows : Cond) ∈ TB := TB_mem 1331 (by decide +kernel) (by decide +kernel)
theorem w_1332 : (.code yX9_rows cX9_rows 3 (some .long) : Cond) ∈ TB := TB_mem 1332 (by decide +kernel) (by decide +kernel)
theorem w_1333 : (.methodLink RL 181 yX9_order : Cond) ∈ TB := TB_mem 1333 (by decide +kernel) (by decide +kernel)
theorem w_1334 : (.instanceMethod yX9_order : Cond) ∈ TB := TB_mem 1334 (by decide +kernel) (by decide +kernel)
theorem w_1335 : (.selects RX9 yX9_order yX9_order : Cond) ∈ TB := TB_mem 1335 (by decide +kernel) (by decide +kernel)
theorem w_1336 : (.code yX9_order cX9_order 4 (some .int) : Cond) ∈ TB := TB_mem 1336 (by decide +kernel) (by decide +kernel)
theorem w_1337 : (.methodLink RL 184 yX9_way : Cond) ∈ TB := TB_mem 1337 (by decide +kernel) (by decide +kernel)
theorem w_1338 : (.instanceMethod yX9_way : Cond) ∈ TB := TB_mem 1338 (by decide +kernel) (by decide +kernel)
theorem w_1339 : (.selects RX9 yX9_way yX9_way : Cond) ∈ TB := TB_mem 1339 (by decide +kernel) (by decide +kernel)
theorem w_1340 : (.code yX9_way cX9_way 5 (some .int) : Cond) ∈ TB := TB_mem 1340 (by decide +kernel) (by decide +kernel)
theorem w_1341 : (.methodLink RL 187 yX9_cost : Cond) ∈ TB := TB_mem 1341 (by decide +kernel) (by decide +kernel)
theorem w_1342 : (.instanceMethod yX9_cost : Cond) ∈ TB := TB_mem 1342 (by decide +kernel) (by decide +kernel)
theorem w_1343 : (.selects RX9 yX9_cost yX9_cost : Cond) ∈ TB := TB_mem 1343 (by decide +kernel) (by decide +kernel)
theorem w_1344 : (.code yX9_cost cX9_cost 3 (some .long) : Cond) ∈ TB := TB_mem 1344 (by decide +kernel) (by decide +kernel)
theorem w_1345 : (.methodLink RL 190 yX9_costOfText : Cond) ∈ TB := TB_mem 1345 (by decide +kernel) (by decide +kernel)
theorem w_1346 : (.instanceMethod yX9_costOfText : Cond) ∈ TB := TB_mem 1346 (by decide +kernel) (by decide +kernel)
theorem w_1347 : (.selects RX9 yX9_costOfText yX9_costOfText : Cond) ∈ TB := TB_mem 1347 (by decide +kernel) (by decide +kernel)
theorem w_1348 : (.code yX9_costOfText cX9_costOfText 2 (some .long) : Cond) ∈ TB := TB_mem 1348 (by decide +kernel) (by decide +kernel)
theorem w_1349 : (.methodLink RX9 229 yX9_layText : Cond) ∈ TB := TB_mem 1349 (by decide +kernel) (by decide +kernel)
theorem w_1351 : (.instanceMethod yX9_layText : Cond) ∈ TB := TB_mem 1351 (by decide +kernel) (by decide +kernel)
theorem w_1352 : (.code yX9_layText cX9_layText 3 (some .boolean) : Cond) ∈ TB := TB_mem 1352 (by decide +kernel) (by decide +kernel)
theorem w_1353 : (.methodLink RL 193 yX9_matters : Cond) ∈ TB := TB_mem 1353 (by decide +kernel) (by decide +kernel)
theorem w_1354 : (.instanceMethod yX9_matters : Cond) ∈ TB := TB_mem 1354 (by decide +kernel) (by decide +kernel)
theorem w_1355 : (.selects RX9 yX9_matters yX9_matters : Cond) ∈ TB := TB_mem 1355 (by decide +kernel) (by decide +kernel)
theorem w_1356 : (.code yX9_matters cX9_matters 7 (some .int) : Cond) ∈ TB := TB_mem 1356 (by decide +kernel) (by decide +kernel)
theorem w_1357 : (.methodLink RL 197 yX9_worst : Cond) ∈ TB := TB_mem 1357 (by decide +kernel) (by decide +kernel)
theorem w_1358 : (.instanceMethod yX9_worst : Cond) ∈ TB := TB_mem 1358 (by decide +kernel) (by decide +kernel)
theorem w_1359 : (.selects RX9 yX9_worst yX9_worst : Cond) ∈ TB := TB_mem 1359 (by decide +kernel) (by decide +kernel)
theorem w_1360 : (.code yX9_worst cX9_worst 9 (some .int) : Cond) ∈ TB := TB_mem 1360 (by decide +kernel) (by decide +kernel)
theorem w_1361 : (.methodLink RL 200 yX9_learnsIn : Cond) ∈ TB := TB_mem 1361 (by decide +kernel) (by decide +kernel)
theorem w_1362 : (.instanceMethod yX9_learnsIn : Cond) ∈ TB := TB_mem 1362 (by decide +kernel) (by decide +kernel)
theorem w_1363 : (.selects RX9 yX9_learnsIn yX9_learnsIn : Cond) ∈ TB := TB_mem 1363 (by decide +kernel) (by decide +kernel)
theorem w_1364 : (.code yX9_learnsIn cX9_learnsIn 3 (some .int) : Cond) ∈ TB := TB_mem 1364 (by decide +kernel) (by decide +kernel)
theorem w_1365 : (.methodLink RL 206 yX9_runScript : Cond) ∈ TB := TB_mem 1365 (by decide +kernel) (by decide +kernel)
theorem w_1366 : (.instanceMethod yX9_runScript : Cond) ∈ TB := TB_mem 1366 (by decide +kernel) (by decide +kernel)
theorem w_1367 : (.selects RX9 yX9_runScript yX9_runScript : Cond) ∈ TB := TB_mem 1367 (by decide +kernel) (by decide +kernel)
theorem w_1368 : (.code yX9_runScript cX9_runScript 8 (some .int) : Cond) ∈ TB := TB_mem 1368 (by decide +kernel) (by decide +kernel)
theorem w_1369 : (.constantLong RX9 237 (1000000) : Cond) ∈ TB := TB_mem 1369 (by decide +kernel) (by decide +kernel)
theorem w_1370 : (.constant RX9 239 (100000) : Cond) ∈ TB := TB_mem 1370 (by decide +kernel) (by decide +kernel)
theorem w_1371 : (.methodLink RX9 240 yX9_command : Cond) ∈ TB := TB_mem 1371 (by decide +kernel) (by decide +kernel)
theorem w_1373 : (.instanceMethod yX9_command : Cond) ∈ TB := TB_mem 1373 (by decide +kernel) (by decide +kernel)
theorem w_1374 : (.code yX9_command cX9_command 5 (some .boolean) : Cond) ∈ TB := TB_mem 1374 (by decide +kernel) (by decide +kernel)
theorem w_1375 : (.methodLink RX9 233 yX9_isChosen : Cond) ∈ TB := TB_mem 1375 (by decide +kernel) (by decide +kernel)
theorem w_1377 : (.instanceMethod yX9_isChosen : Cond) ∈ TB := TB_mem 1377 (by decide +kernel) (by decide +kernel)
theorem w_1378 : (.code yX9_isChosen cX9_isChosen 4 (some .boolean) : Cond) ∈ TB := TB_mem 1378 (by decide +kernel) (by decide +kernel)
theorem w_1379 : (.methodLink RL 210 yX9_simulate : Cond) ∈ TB := TB_mem 1379 (by decide +kernel) (by decide +kernel)
theorem w_1380 : (.instanceMethod yX9_simulate : Cond) ∈ TB := TB_mem 1380 (by decide +kernel) (by decide +kernel)
theorem w_1381 : (.selects RX9 yX9_simulate yX9_simulate : Cond) ∈ TB := TB_mem 1381 (by decide +kernel) (by decide +kernel)
theorem w_1382 : (.code yX9_simulate cX9_simulate 7 (some .int) : Cond) ∈ TB := TB_mem 1382 (by decide +kernel) (by decide +kernel)
theorem w_1383 : (.constantLong RX9 244 (40) : Cond) ∈ TB := TB_mem 1383 (by decide +kernel) (by decide +kernel)
theorem w_1384 : (.constantLong RX9 246 (6364136223846793005) : Cond) ∈ TB := TB_mem 1384 (by decide +kernel) (by decide +kernel)
theorem w_1385 : (.constantLong RX9 248 (1442695040888963407) : Cond) ∈ TB := TB_mem 1385 (by decide +kernel) (by decide +kernel)
theorem w_1386 : (.methodLink RX9 250 yX9_turn : Cond) ∈ TB := TB_mem 1386 (by decide +kernel) (by decide +kernel)
theorem w_1388 : (.instanceMethod yX9_turn : Cond) ∈ TB := TB_mem 1388 (by decide +kernel) (by decide +kernel)
theorem w_1389 : (.code yX9_turn cX9_turn 6 none : Cond) ∈ TB := TB_mem 1389 (by decide +kernel) (by decide +kernel)
theorem w_1390 : (.constantLong RX9 254 (100) : Cond) ∈ TB := TB_mem 1390 (by decide +kernel) (by decide +kernel)
theorem w_1391 : (.methodLink RL 213 yX9_save : Cond) ∈ TB := TB_mem 1391 (by decide +kernel) (by decide +kernel)
theorem w_1392 : (.instanceMethod yX9_save : Cond) ∈ TB := TB_mem 1392 (by decide +kernel) (by decide +kernel)
theorem w_1393 : (.selects RX9 yX9_save yX9_save : Cond) ∈ TB := TB_mem 1393 (by decide +kernel) (by decide +kernel)
theorem w_1394 : (.code yX9_save cX9_save 2 (some .int) : Cond) ∈ TB := TB_mem 1394 (by decide +kernel) (by decide +kernel)
theorem w_1395 : (.methodLink RL 216 yX9_restore : Cond) ∈ TB := TB_mem 1395 (by decide +kernel) (by decide +kernel)
theorem w_1396 : (.instanceMethod yX9_restore : Cond) ∈ TB := TB_mem 1396 (by decide +kernel) (by decide +kernel)
theorem w_1397 : (.selects RX9 yX9_restore yX9_restore : Cond) ∈ TB := TB_mem 1397 (by decide +kernel) (by decide +kernel)
theorem w_1398 : (.code yX9_restore cX9_restore 2 (some .int) : Cond) ∈ TB := TB_mem 1398 (by decide +kernel) (by decide +kernel)
theorem w_1399 : (.constantLong RL 201 (4294967295) : Cond) ∈ TB := TB_mem 1399 (by decide +kernel) (by decide +kernel)
theorem w_1401 : (.selects RX0 yX0_begin yX0_begin : Cond) ∈ TB := TB_mem 1401 (by decide +kernel) (by decide +kernel)
theorem w_1402 : (.selects RX0 yX0_takes yX0_takes : Cond) ∈ TB := TB_mem 1402 (by decide +kernel) (by decide +kernel)
theorem nd_X0_expect : yX0_expect.cls ≠ "java/lang/invoke/MethodHandle" ∧ yX0_expect.cls ≠ "java/lang/invoke/VarHandle" ∧ (parseMethodDescriptor yX0_expect.desc).map (fun d => d.parameters.length) = some 1 := by decide +kernel
theorem nd_X0_takesEntry : yX0_takesEntry.cls ≠ "java/lang/invoke/MethodHandle" ∧ yX0_takesEntry.cls ≠ "java/lang/invoke/VarHandle" ∧ (parseMethodDescriptor yX0_takesEntry.desc).map (fun d => d.parameters.length) = some 1 := by decide +kernel
theorem nd_X8_isIn : yX8_isIn.cls ≠ "java/lang/invoke/MethodHandle" ∧ yX8_isIn.cls ≠ "java/lang/invoke/VarHandle" ∧ (parseMethodDescriptor yX8_isIn.desc).map (fun d => d.parameters.length) = some 3 := by decide +kernel
theorem nd_X0_takesDigit : yX0_takesDigit.cls ≠ "java/lang/invoke/MethodHandle" ∧ yX0_takesDigit.cls ≠ "java/lang/invoke/VarHandle" ∧ (parseMethodDescriptor yX0_takesDigit.desc).map (fun d => d.parameters.length) = some 2 := by decide +kernel
theorem nd_X0_isComplete : yX0_isComplete.cls ≠ "java/lang/invoke/MethodHandle" ∧ yX0_isComplete.cls ≠ "java/lang/invoke/VarHandle" ∧ (parseMethodDescriptor yX0_isComplete.desc).map (fun d => d.parameters.length) = some 0 := by decide +kernel
theorem nd_X0_takesEnd : yX0_takesEnd.cls ≠ "java/lang/invoke/MethodHandle" ∧ yX0_takesEnd.cls ≠ "java/lang/invoke/VarHandle" ∧ (parseMethodDescriptor yX0_takesEnd.desc).map (fun d => d.parameters.length) = some 1 := by decide +kernel
theorem nd_X0_takesComma : yX0_takesComma.cls ≠ "java/lang/invoke/MethodHandle" ∧ yX0_takesComma.cls ≠ "java/lang/invoke/VarHandle" ∧ (parseMethodDescriptor yX0_takesComma.desc).map (fun d => d.parameters.length) = some 1 := by decide +kernel
theorem nd_X1_stateAt : yX1_stateAt.cls ≠ "java/lang/invoke/MethodHandle" ∧ yX1_stateAt.cls ≠ "java/lang/invoke/VarHandle" ∧ (parseMethodDescriptor yX1_stateAt.desc).map (fun d => d.parameters.length) = some 1 := by decide +kernel
theorem nd_X7_takeFrom : yX7_takeFrom.cls ≠ "java/lang/invoke/MethodHandle" ∧ yX7_takeFrom.cls ≠ "java/lang/invoke/VarHandle" ∧ (parseMethodDescriptor yX7_takeFrom.desc).map (fun d => d.parameters.length) = some 1 := by decide +kernel
theorem nd_X8_holds : yX8_holds.cls ≠ "java/lang/invoke/MethodHandle" ∧ yX8_holds.cls ≠ "java/lang/invoke/VarHandle" ∧ (parseMethodDescriptor yX8_holds.desc).map (fun d => d.parameters.length) = some 2 := by decide +kernel
theorem nd_X7_sizeOf : yX7_sizeOf.cls ≠ "java/lang/invoke/MethodHandle" ∧ yX7_sizeOf.cls ≠ "java/lang/invoke/VarHandle" ∧ (parseMethodDescriptor yX7_sizeOf.desc).map (fun d => d.parameters.length) = some 1 := by decide +kernel
theorem nd_X3_rowsOf : yX3_rowsOf.cls ≠ "java/lang/invoke/MethodHandle" ∧ yX3_rowsOf.cls ≠ "java/lang/invoke/VarHandle" ∧ (parseMethodDescriptor yX3_rowsOf.desc).map (fun d => d.parameters.length) = some 1 := by decide +kernel
theorem nd_X3_sizeOf : yX3_sizeOf.cls ≠ "java/lang/invoke/MethodHandle" ∧ yX3_sizeOf.cls ≠ "java/lang/invoke/VarHandle" ∧ (parseMethodDescriptor yX3_sizeOf.desc).map (fun d => d.parameters.length) = some 1 := by decide +kernel
theorem nd_X7_shareOf : yX7_shareOf.cls ≠ "java/lang/invoke/MethodHandle" ∧ yX7_shareOf.cls ≠ "java/lang/invoke/VarHandle" ∧ (parseMethodDescriptor yX7_shareOf.desc).map (fun d => d.parameters.length) = some 2 := by decide +kernel
theorem nd_X3_rowsJoined : yX3_rowsJoined.cls ≠ "java/lang/invoke/MethodHandle" ∧ yX3_rowsJoined.cls ≠ "java/lang/invoke/VarHandle" ∧ (parseMethodDescriptor yX3_rowsJoined.desc).map (fun d => d.parameters.length) = some 2 := by decide +kernel
theorem nd_X3_weigh : yX3_weigh.cls ≠ "java/lang/invoke/MethodHandle" ∧ yX3_weigh.cls ≠ "java/lang/invoke/VarHandle" ∧ (parseMethodDescriptor yX3_weigh.desc).map (fun d => d.parameters.length) = some 3 := by decide +kernel
theorem nd_X3_cheaperWay : yX3_cheaperWay.cls ≠ "java/lang/invoke/MethodHandle" ∧ yX3_cheaperWay.cls ≠ "java/lang/invoke/VarHandle" ∧ (parseMethodDescriptor yX3_cheaperWay.desc).map (fun d => d.parameters.length) = some 2 := by decide +kernel
theorem nd_X3_stepCost : yX3_stepCost.cls ≠ "java/lang/invoke/MethodHandle" ∧ yX3_stepCost.cls ≠ "java/lang/invoke/VarHandle" ∧ (parseMethodDescriptor yX3_stepCost.desc).map (fun d => d.parameters.length) = some 3 := by decide +kernel
theorem nd_X3_restOf : yX3_restOf.cls ≠ "java/lang/invoke/MethodHandle" ∧ yX3_restOf.cls ≠ "java/lang/invoke/VarHandle" ∧ (parseMethodDescriptor yX3_restOf.desc).map (fun d => d.parameters.length) = some 1 := by decide +kernel
theorem nd_X3_findNext : yX3_findNext.cls ≠ "java/lang/invoke/MethodHandle" ∧ yX3_findNext.cls ≠ "java/lang/invoke/VarHandle" ∧ (parseMethodDescriptor yX3_findNext.desc).map (fun d => d.parameters.length) = some 1 := by decide +kernel
theorem nd_X3_followNext : yX3_followNext.cls ≠ "java/lang/invoke/MethodHandle" ∧ yX3_followNext.cls ≠ "java/lang/invoke/VarHandle" ∧ (parseMethodDescriptor yX3_followNext.desc).map (fun d => d.parameters.length) = some 0 := by decide +kernel
theorem nd_X3_tableAt : yX3_tableAt.cls ≠ "java/lang/invoke/MethodHandle" ∧ yX3_tableAt.cls ≠ "java/lang/invoke/VarHandle" ∧ (parseMethodDescriptor yX3_tableAt.desc).map (fun d => d.parameters.length) = some 1 := by decide +kernel
theorem nd_X3_wayAt : yX3_wayAt.cls ≠ "java/lang/invoke/MethodHandle" ∧ yX3_wayAt.cls ≠ "java/lang/invoke/VarHandle" ∧ (parseMethodDescriptor yX3_wayAt.desc).map (fun d => d.parameters.length) = some 1 := by decide +kernel
theorem nd_X2_tableAt : yX2_tableAt.cls ≠ "java/lang/invoke/MethodHandle" ∧ yX2_tableAt.cls ≠ "java/lang/invoke/VarHandle" ∧ (parseMethodDescriptor yX2_tableAt.desc).map (fun d => d.parameters.length) = some 1 := by decide +kernel
theorem nd_X5_isFilled : yX5_isFilled.cls ≠ "java/lang/invoke/MethodHandle" ∧ yX5_isFilled.cls ≠ "java/lang/invoke/VarHandle" ∧ (parseMethodDescriptor yX5_isFilled.desc).map (fun d => d.parameters.length) = some 1 := by decide +kernel
theorem nd_X6_signAt : yX6_signAt.cls ≠ "java/lang/invoke/MethodHandle" ∧ yX6_signAt.cls ≠ "java/lang/invoke/VarHandle" ∧ (parseMethodDescriptor yX6_signAt.desc).map (fun d => d.parameters.length) = some 1 := by decide +kernel
theorem nd_X7_hasTable : yX7_hasTable.cls ≠ "java/lang/invoke/MethodHandle" ∧ yX7_hasTable.cls ≠ "java/lang/invoke/VarHandle" ∧ (parseMethodDescriptor yX7_hasTable.desc).map (fun d => d.parameters.length) = some 1 := by decide +kernel
theorem nd_X7_hasMemory : yX7_hasMemory.cls ≠ "java/lang/invoke/MethodHandle" ∧ yX7_hasMemory.cls ≠ "java/lang/invoke/VarHandle" ∧ (parseMethodDescriptor yX7_hasMemory.desc).map (fun d => d.parameters.length) = some 1 := by decide +kernel
theorem nd_X7_linkCount : yX7_linkCount.cls ≠ "java/lang/invoke/MethodHandle" ∧ yX7_linkCount.cls ≠ "java/lang/invoke/VarHandle" ∧ (parseMethodDescriptor yX7_linkCount.desc).map (fun d => d.parameters.length) = some 0 := by decide +kernel
theorem nd_X7_memoryCount : yX7_memoryCount.cls ≠ "java/lang/invoke/MethodHandle" ∧ yX7_memoryCount.cls ≠ "java/lang/invoke/VarHandle" ∧ (parseMethodDescriptor yX7_memoryCount.desc).map (fun d => d.parameters.length) = some 0 := by decide +kernel
theorem nd_X7_isLinked : yX7_isLinked.cls ≠ "java/lang/invoke/MethodHandle" ∧ yX7_isLinked.cls ≠ "java/lang/invoke/VarHandle" ∧ (parseMethodDescriptor yX7_isLinked.desc).map (fun d => d.parameters.length) = some 1 := by decide +kernel
theorem nd_X7_forget : yX7_forget.cls ≠ "java/lang/invoke/MethodHandle" ∧ yX7_forget.cls ≠ "java/lang/invoke/VarHandle" ∧ (parseMethodDescriptor yX7_forget.desc).map (fun d => d.parameters.length) = some 1 := by decide +kernel
theorem nd_X7_settingOf : yX7_settingOf.cls ≠ "java/lang/invoke/MethodHandle" ∧ yX7_settingOf.cls ≠ "java/lang/invoke/VarHandle" ∧ (parseMethodDescriptor yX7_settingOf.desc).map (fun d => d.parameters.length) = some 1 := by decide +kernel
theorem nd_X7_makeOlder : yX7_makeOlder.cls ≠ "java/lang/invoke/MethodHandle" ∧ yX7_makeOlder.cls ≠ "java/lang/invoke/VarHandle" ∧ (parseMethodDescriptor yX7_makeOlder.desc).map (fun d => d.parameters.length) = some 1 := by decide +kernel
theorem nd_X8_pairIndex : yX8_pairIndex.cls ≠ "java/lang/invoke/MethodHandle" ∧ yX8_pairIndex.cls ≠ "java/lang/invoke/VarHandle" ∧ (parseMethodDescriptor yX8_pairIndex.desc).map (fun d => d.parameters.length) = some 2 := by decide +kernel
theorem nd_X7_differenceOf : yX7_differenceOf.cls ≠ "java/lang/invoke/MethodHandle" ∧ yX7_differenceOf.cls ≠ "java/lang/invoke/VarHandle" ∧ (parseMethodDescriptor yX7_differenceOf.desc).map (fun d => d.parameters.length) = some 1 := by decide +kernel
theorem nd_X7_noteSurprise : yX7_noteSurprise.cls ≠ "java/lang/invoke/MethodHandle" ∧ yX7_noteSurprise.cls ≠ "java/lang/invoke/VarHandle" ∧ (parseMethodDescriptor yX7_noteSurprise.desc).map (fun d => d.parameters.length) = some 3 := by decide +kernel
theorem nd_X7_learnPair : yX7_learnPair.cls ≠ "java/lang/invoke/MethodHandle" ∧ yX7_learnPair.cls ≠ "java/lang/invoke/VarHandle" ∧ (parseMethodDescriptor yX7_learnPair.desc).map (fun d => d.parameters.length) = some 2 := by decide +kernel
theorem nd_X8_needRange : yX8_needRange.cls ≠ "java/lang/invoke/MethodHandle" ∧ yX8_needRange.cls ≠ "java/lang/invoke/VarHandle" ∧ (parseMethodDescriptor yX8_needRange.desc).map (fun d => d.parameters.length) = some 3 := by decide +kernel
theorem nd_X6_isFull : yX6_isFull.cls ≠ "java/lang/invoke/MethodHandle" ∧ yX6_isFull.cls ≠ "java/lang/invoke/VarHandle" ∧ (parseMethodDescriptor yX6_isFull.desc).map (fun d => d.parameters.length) = some 0 := by decide +kernel
theorem nd_X6_put : yX6_put.cls ≠ "java/lang/invoke/MethodHandle" ∧ yX6_put.cls ≠ "java/lang/invoke/VarHandle" ∧ (parseMethodDescriptor yX6_put.desc).map (fun d => d.parameters.length) = some 1 := by decide +kernel
theorem nd_X6_empty : yX6_empty.cls ≠ "java/lang/invoke/MethodHandle" ∧ yX6_empty.cls ≠ "java/lang/invoke/VarHandle" ∧ (parseMethodDescriptor yX6_empty.desc).map (fun d => d.parameters.length) = some 0 := by decide +kernel
theorem nd_X6_firstErrorFor : yX6_firstErrorFor.cls ≠ "java/lang/invoke/MethodHandle" ∧ yX6_firstErrorFor.cls ≠ "java/lang/invoke/VarHandle" ∧ (parseMethodDescriptor yX6_firstErrorFor.desc).map (fun d => d.parameters.length) = some 1 := by decide +kernel
theorem nd_X7_makeNew : yX7_makeNew.cls ≠ "java/lang/invoke/MethodHandle" ∧ yX7_makeNew.cls ≠ "java/lang/invoke/VarHandle" ∧ (parseMethodDescriptor yX7_makeNew.desc).map (fun d => d.parameters.length) = some 0 := by decide +kernel
theorem nd_X1_forgetAll : yX1_forgetAll.cls ≠ "java/lang/invoke/MethodHandle" ∧ yX1_forgetAll.cls ≠ "java/lang/invoke/VarHandle" ∧ (parseMethodDescriptor yX1_forgetAll.desc).map (fun d => d.parameters.length) = some 0 := by decide +kernel
theorem nd_X5_emptyAll : yX5_emptyAll.cls ≠ "java/lang/invoke/MethodHandle" ∧ yX5_emptyAll.cls ≠ "java/lang/invoke/VarHandle" ∧ (parseMethodDescriptor yX5_emptyAll.desc).map (fun d => d.parameters.length) = some 0 := by decide +kernel
theorem nd_X0_begin : yX0_begin.cls ≠ "java/lang/invoke/MethodHandle" ∧ yX0_begin.cls ≠ "java/lang/invoke/VarHandle" ∧ (parseMethodDescriptor yX0_begin.desc).map (fun d => d.parameters.length) = some 0 := by decide +kernel
theorem nd_X0_takes : yX0_takes.cls ≠ "java/lang/invoke/MethodHandle" ∧ yX0_takes.cls ≠ "java/lang/invoke/VarHandle" ∧ (parseMethodDescriptor yX0_takes.desc).map (fun d => d.parameters.length) = some 1 := by decide +kernel
theorem nd_X0_isTable : yX0_isTable.cls ≠ "java/lang/invoke/MethodHandle" ∧ yX0_isTable.cls ≠ "java/lang/invoke/VarHandle" ∧ (parseMethodDescriptor yX0_isTable.desc).map (fun d => d.parameters.length) = some 0 := by decide +kernel
theorem nd_X7_hasTwoTables : yX7_hasTwoTables.cls ≠ "java/lang/invoke/MethodHandle" ∧ yX7_hasTwoTables.cls ≠ "java/lang/invoke/VarHandle" ∧ (parseMethodDescriptor yX7_hasTwoTables.desc).map (fun d => d.parameters.length) = some 2 := by decide +kernel
theorem nd_X7_linkPair : yX7_linkPair.cls ≠ "java/lang/invoke/MethodHandle" ∧ yX7_linkPair.cls ≠ "java/lang/invoke/VarHandle" ∧ (parseMethodDescriptor yX7_linkPair.desc).map (fun d => d.parameters.length) = some 3 := by decide +kernel
theorem nd_X7_isFull : yX7_isFull.cls ≠ "java/lang/invoke/MethodHandle" ∧ yX7_isFull.cls ≠ "java/lang/invoke/VarHandle" ∧ (parseMethodDescriptor yX7_isFull.desc).map (fun d => d.parameters.length) = some 0 := by decide +kernel
theorem nd_X7_addTable : yX7_addTable.cls ≠ "java/lang/invoke/MethodHandle" ∧ yX7_addTable.cls ≠ "java/lang/invoke/VarHandle" ∧ (parseMethodDescriptor yX7_addTable.desc).map (fun d => d.parameters.length) = some 1 := by decide +kernel
theorem nd_X8_doEntry : yX8_doEntry.cls ≠ "java/lang/invoke/MethodHandle" ∧ yX8_doEntry.cls ≠ "java/lang/invoke/VarHandle" ∧ (parseMethodDescriptor yX8_doEntry.desc).map (fun d => d.parameters.length) = some 0 := by decide +kernel
theorem nd_X8_readEntries : yX8_readEntries.cls ≠ "java/lang/invoke/MethodHandle" ∧ yX8_readEntries.cls ≠ "java/lang/invoke/VarHandle" ∧ (parseMethodDescriptor yX8_readEntries.desc).map (fun d => d.parameters.length) = some 0 := by decide +kernel
theorem nd_X7_numberOf : yX7_numberOf.cls ≠ "java/lang/invoke/MethodHandle" ∧ yX7_numberOf.cls ≠ "java/lang/invoke/VarHandle" ∧ (parseMethodDescriptor yX7_numberOf.desc).map (fun d => d.parameters.length) = some 1 := by decide +kernel
theorem nd_X7_sumOf : yX7_sumOf.cls ≠ "java/lang/invoke/MethodHandle" ∧ yX7_sumOf.cls ≠ "java/lang/invoke/VarHandle" ∧ (parseMethodDescriptor yX7_sumOf.desc).map (fun d => d.parameters.length) = some 1 := by decide +kernel
theorem nd_X8_needTable : yX8_needTable.cls ≠ "java/lang/invoke/MethodHandle" ∧ yX8_needTable.cls ≠ "java/lang/invoke/VarHandle" ∧ (parseMethodDescriptor yX8_needTable.desc).map (fun d => d.parameters.length) = some 1 := by decide +kernel
theorem nd_X8_needTwoTables : yX8_needTwoTables.cls ≠ "java/lang/invoke/MethodHandle" ∧ yX8_needTwoTables.cls ≠ "java/lang/invoke/VarHandle" ∧ (parseMethodDescriptor yX8_needTwoTables.desc).map (fun d => d.parameters.length) = some 2 := by decide +kernel
theorem nd_X7_pairNumberOf : yX7_pairNumberOf.cls ≠ "java/lang/invoke/MethodHandle" ∧ yX7_pairNumberOf.cls ≠ "java/lang/invoke/VarHandle" ∧ (parseMethodDescriptor yX7_pairNumberOf.desc).map (fun d => d.parameters.length) = some 2 := by decide +kernel
theorem nd_X7_surpriseNumberOf : yX7_surpriseNumberOf.cls ≠ "java/lang/invoke/MethodHandle" ∧ yX7_surpriseNumberOf.cls ≠ "java/lang/invoke/VarHandle" ∧ (parseMethodDescriptor yX7_surpriseNumberOf.desc).map (fun d => d.parameters.length) = some 2 := by decide +kernel
theorem nd_X1_remember : yX1_remember.cls ≠ "java/lang/invoke/MethodHandle" ∧ yX1_remember.cls ≠ "java/lang/invoke/VarHandle" ∧ (parseMethodDescriptor yX1_remember.desc).map (fun d => d.parameters.length) = some 1 := by decide +kernel
theorem nd_X7_changeSize : yX7_changeSize.cls ≠ "java/lang/invoke/MethodHandle" ∧ yX7_changeSize.cls ≠ "java/lang/invoke/VarHandle" ∧ (parseMethodDescriptor yX7_changeSize.desc).map (fun d => d.parameters.length) = some 2 := by decide +kernel
theorem nd_X7_changeShare : yX7_changeShare.cls ≠ "java/lang/invoke/MethodHandle" ∧ yX7_changeShare.cls ≠ "java/lang/invoke/VarHandle" ∧ (parseMethodDescriptor yX7_changeShare.desc).map (fun d => d.parameters.length) = some 2 := by decide +kernel
theorem nd_X7_hasTables : yX7_hasTables.cls ≠ "java/lang/invoke/MethodHandle" ∧ yX7_hasTables.cls ≠ "java/lang/invoke/VarHandle" ∧ (parseMethodDescriptor yX7_hasTables.desc).map (fun d => d.parameters.length) = some 1 := by decide +kernel
theorem nd_X8_needTables : yX8_needTables.cls ≠ "java/lang/invoke/MethodHandle" ∧ yX8_needTables.cls ≠ "java/lang/invoke/VarHandle" ∧ (parseMethodDescriptor yX8_needTables.desc).map (fun d => d.parameters.length) = some 1 := by decide +kernel
theorem nd_X8_needSomeTable : yX8_needSomeTable.cls ≠ "java/lang/invoke/MethodHandle" ∧ yX8_needSomeTable.cls ≠ "java/lang/invoke/VarHandle" ∧ (parseMethodDescriptor yX8_needSomeTable.desc).map (fun d => d.parameters.length) = some 1 := by decide +kernel
theorem nd_X3_choose : yX3_choose.cls ≠ "java/lang/invoke/MethodHandle" ∧ yX3_choose.cls ≠ "java/lang/invoke/VarHandle" ∧ (parseMethodDescriptor yX3_choose.desc).map (fun d => d.parameters.length) = some 3 := by decide +kernel
theorem nd_X3_costAsPlannedBy : yX3_costAsPlannedBy.cls ≠ "java/lang/invoke/MethodHandle" ∧ yX3_costAsPlannedBy.cls ≠ "java/lang/invoke/VarHandle" ∧ (parseMethodDescriptor yX3_costAsPlannedBy.desc).map (fun d => d.parameters.length) = some 1 := by decide +kernel
theorem nd_X3_leastCost : yX3_leastCost.cls ≠ "java/lang/invoke/MethodHandle" ∧ yX3_leastCost.cls ≠ "java/lang/invoke/VarHandle" ∧ (parseMethodDescriptor yX3_leastCost.desc).map (fun d => d.parameters.length) = some 0 := by decide +kernel
theorem nd_X8_regretIn : yX8_regretIn.cls ≠ "java/lang/invoke/MethodHandle" ∧ yX8_regretIn.cls ≠ "java/lang/invoke/VarHandle" ∧ (parseMethodDescriptor yX8_regretIn.desc).map (fun d => d.parameters.length) = some 2 := by decide +kernel
theorem nd_X7_noteRun : yX7_noteRun.cls ≠ "java/lang/invoke/MethodHandle" ∧ yX7_noteRun.cls ≠ "java/lang/invoke/VarHandle" ∧ (parseMethodDescriptor yX7_noteRun.desc).map (fun d => d.parameters.length) = some 2 := by decide +kernel
theorem nd_X7_learn : yX7_learn.cls ≠ "java/lang/invoke/MethodHandle" ∧ yX7_learn.cls ≠ "java/lang/invoke/VarHandle" ∧ (parseMethodDescriptor yX7_learn.desc).map (fun d => d.parameters.length) = some 1 := by decide +kernel
theorem nd_X8_runIn : yX8_runIn.cls ≠ "java/lang/invoke/MethodHandle" ∧ yX8_runIn.cls ≠ "java/lang/invoke/VarHandle" ∧ (parseMethodDescriptor yX8_runIn.desc).map (fun d => d.parameters.length) = some 2 := by decide +kernel
theorem nd_X7_passWeeks : yX7_passWeeks.cls ≠ "java/lang/invoke/MethodHandle" ∧ yX7_passWeeks.cls ≠ "java/lang/invoke/VarHandle" ∧ (parseMethodDescriptor yX7_passWeeks.desc).map (fun d => d.parameters.length) = some 1 := by decide +kernel
theorem nd_X8_settingTakes : yX8_settingTakes.cls ≠ "java/lang/invoke/MethodHandle" ∧ yX8_settingTakes.cls ≠ "java/lang/invoke/VarHandle" ∧ (parseMethodDescriptor yX8_settingTakes.desc).map (fun d => d.parameters.length) = some 2 := by decide +kernel
theorem nd_X7_changeSetting : yX7_changeSetting.cls ≠ "java/lang/invoke/MethodHandle" ∧ yX7_changeSetting.cls ≠ "java/lang/invoke/VarHandle" ∧ (parseMethodDescriptor yX7_changeSetting.desc).map (fun d => d.parameters.length) = some 2 := by decide +kernel
theorem nd_X1_isEmpty : yX1_isEmpty.cls ≠ "java/lang/invoke/MethodHandle" ∧ yX1_isEmpty.cls ≠ "java/lang/invoke/VarHandle" ∧ (parseMethodDescriptor yX1_isEmpty.desc).map (fun d => d.parameters.length) = some 0 := by decide +kernel
theorem nd_X1_takeBack : yX1_takeBack.cls ≠ "java/lang/invoke/MethodHandle" ∧ yX1_takeBack.cls ≠ "java/lang/invoke/VarHandle" ∧ (parseMethodDescriptor yX1_takeBack.desc).map (fun d => d.parameters.length) = some 1 := by decide +kernel
theorem nd_X8_needKind : yX8_needKind.cls ≠ "java/lang/invoke/MethodHandle" ∧ yX8_needKind.cls ≠ "java/lang/invoke/VarHandle" ∧ (parseMethodDescriptor yX8_needKind.desc).map (fun d => d.parameters.length) = some 1 := by decide +kernel
theorem nd_X8_needAtLeast : yX8_needAtLeast.cls ≠ "java/lang/invoke/MethodHandle" ∧ yX8_needAtLeast.cls ≠ "java/lang/invoke/VarHandle" ∧ (parseMethodDescriptor yX8_needAtLeast.desc).map (fun d => d.parameters.length) = some 2 := by decide +kernel
theorem nd_X2_tables : yX2_tables.cls ≠ "java/lang/invoke/MethodHandle" ∧ yX2_tables.cls ≠ "java/lang/invoke/VarHandle" ∧ (parseMethodDescriptor yX2_tables.desc).map (fun d => d.parameters.length) = some 0 := by decide +kernel
theorem nd_X3_costOfRead : yX3_costOfRead.cls ≠ "java/lang/invoke/MethodHandle" ∧ yX3_costOfRead.cls ≠ "java/lang/invoke/VarHandle" ∧ (parseMethodDescriptor yX3_costOfRead.desc).map (fun d => d.parameters.length) = some 1 := by decide +kernel
theorem nd_X3_hasOrderOf : yX3_hasOrderOf.cls ≠ "java/lang/invoke/MethodHandle" ∧ yX3_hasOrderOf.cls ≠ "java/lang/invoke/VarHandle" ∧ (parseMethodDescriptor yX3_hasOrderOf.desc).map (fun d => d.parameters.length) = some 1 := by decide +kernel
theorem nd_X7_mostWronglyBelieved : yX7_mostWronglyBelieved.cls ≠ "java/lang/invoke/MethodHandle" ∧ yX7_mostWronglyBelieved.cls ≠ "java/lang/invoke/VarHandle" ∧ (parseMethodDescriptor yX7_mostWronglyBelieved.desc).map (fun d => d.parameters.length) = some 0 := by decide +kernel
theorem nd_X8_scriptDrifts : yX8_scriptDrifts.cls ≠ "java/lang/invoke/MethodHandle" ∧ yX8_scriptDrifts.cls ≠ "java/lang/invoke/VarHandle" ∧ (parseMethodDescriptor yX8_scriptDrifts.desc).map (fun d => d.parameters.length) = some 3 := by decide +kernel
theorem nd_X8_scriptSets : yX8_scriptSets.cls ≠ "java/lang/invoke/MethodHandle" ∧ yX8_scriptSets.cls ≠ "java/lang/invoke/VarHandle" ∧ (parseMethodDescriptor yX8_scriptSets.desc).map (fun d => d.parameters.length) = some 2 := by decide +kernel
theorem nd_X8_scriptLinks : yX8_scriptLinks.cls ≠ "java/lang/invoke/MethodHandle" ∧ yX8_scriptLinks.cls ≠ "java/lang/invoke/VarHandle" ∧ (parseMethodDescriptor yX8_scriptLinks.desc).map (fun d => d.parameters.length) = some 3 := by decide +kernel
theorem nd_X8_chosenTableIs : yX8_chosenTableIs.cls ≠ "java/lang/invoke/MethodHandle" ∧ yX8_chosenTableIs.cls ≠ "java/lang/invoke/VarHandle" ∧ (parseMethodDescriptor yX8_chosenTableIs.desc).map (fun d => d.parameters.length) = some 3 := by decide +kernel
theorem nd_X7_remembersSince : yX7_remembersSince.cls ≠ "java/lang/invoke/MethodHandle" ∧ yX7_remembersSince.cls ≠ "java/lang/invoke/VarHandle" ∧ (parseMethodDescriptor yX7_remembersSince.desc).map (fun d => d.parameters.length) = some 2 := by decide +kernel
theorem nd_X8_succeeds : yX8_succeeds.cls ≠ "java/lang/invoke/MethodHandle" ∧ yX8_succeeds.cls ≠ "java/lang/invoke/VarHandle" ∧ (parseMethodDescriptor yX8_succeeds.desc).map (fun d => d.parameters.length) = some 1 := by decide +kernel
theorem nd_X8_takeTurn : yX8_takeTurn.cls ≠ "java/lang/invoke/MethodHandle" ∧ yX8_takeTurn.cls ≠ "java/lang/invoke/VarHandle" ∧ (parseMethodDescriptor yX8_takeTurn.desc).map (fun d => d.parameters.length) = some 1 := by decide +kernel
theorem nd_X8_needSlot : yX8_needSlot.cls ≠ "java/lang/invoke/MethodHandle" ∧ yX8_needSlot.cls ≠ "java/lang/invoke/VarHandle" ∧ (parseMethodDescriptor yX8_needSlot.desc).map (fun d => d.parameters.length) = some 1 := by decide +kernel
theorem nd_X5_put : yX5_put.cls ≠ "java/lang/invoke/MethodHandle" ∧ yX5_put.cls ≠ "java/lang/invoke/VarHandle" ∧ (parseMethodDescriptor yX5_put.desc).map (fun d => d.parameters.length) = some 2 := by decide +kernel
theorem nd_X5_takeOut : yX5_takeOut.cls ≠ "java/lang/invoke/MethodHandle" ∧ yX5_takeOut.cls ≠ "java/lang/invoke/VarHandle" ∧ (parseMethodDescriptor yX5_takeOut.desc).map (fun d => d.parameters.length) = some 2 := by decide +kernel
theorem nd_X9_in : yX9_in.cls ≠ "java/lang/invoke/MethodHandle" ∧ yX9_in.cls ≠ "java/lang/invoke/VarHandle" ∧ (parseMethodDescriptor yX9_in.desc).map (fun d => d.parameters.length) = some 3 := by decide +kernel
theorem nd_X9_believed : yX9_believed.cls ≠ "java/lang/invoke/MethodHandle" ∧ yX9_believed.cls ≠ "java/lang/invoke/VarHandle" ∧ (parseMethodDescriptor yX9_believed.desc).map (fun d => d.parameters.length) = some 2 := by decide +kernel
theorem nd_X9_less : yX9_less.cls ≠ "java/lang/invoke/MethodHandle" ∧ yX9_less.cls ≠ "java/lang/invoke/VarHandle" ∧ (parseMethodDescriptor yX9_less.desc).map (fun d => d.parameters.length) = some 2 := by decide +kernel
theorem nd_X9_pairOf : yX9_pairOf.cls ≠ "java/lang/invoke/MethodHandle" ∧ yX9_pairOf.cls ≠ "java/lang/invoke/VarHandle" ∧ (parseMethodDescriptor yX9_pairOf.desc).map (fun d => d.parameters.length) = some 2 := by decide +kernel
theorem nd_X9_shareOf : yX9_shareOf.cls ≠ "java/lang/invoke/MethodHandle" ∧ yX9_shareOf.cls ≠ "java/lang/invoke/VarHandle" ∧ (parseMethodDescriptor yX9_shareOf.desc).map (fun d => d.parameters.length) = some 3 := by decide +kernel
theorem nd_X9_rowsOn : yX9_rowsOn.cls ≠ "java/lang/invoke/MethodHandle" ∧ yX9_rowsOn.cls ≠ "java/lang/invoke/VarHandle" ∧ (parseMethodDescriptor yX9_rowsOn.desc).map (fun d => d.parameters.length) = some 3 := by decide +kernel
theorem nd_X9_isByList : yX9_isByList.cls ≠ "java/lang/invoke/MethodHandle" ∧ yX9_isByList.cls ≠ "java/lang/invoke/VarHandle" ∧ (parseMethodDescriptor yX9_isByList.desc).map (fun d => d.parameters.length) = some 4 := by decide +kernel
theorem nd_X9_layRows : yX9_layRows.cls ≠ "java/lang/invoke/MethodHandle" ∧ yX9_layRows.cls ≠ "java/lang/invoke/VarHandle" ∧ (parseMethodDescriptor yX9_layRows.desc).map (fun d => d.parameters.length) = some 3 := by decide +kernel
theorem nd_X9_stepCost : yX9_stepCost.cls ≠ "java/lang/invoke/MethodHandle" ∧ yX9_stepCost.cls ≠ "java/lang/invoke/VarHandle" ∧ (parseMethodDescriptor yX9_stepCost.desc).map (fun d => d.parameters.length) = some 5 := by decide +kernel
theorem nd_X9_choose : yX9_choose.cls ≠ "java/lang/invoke/MethodHandle" ∧ yX9_choose.cls ≠ "java/lang/invoke/VarHandle" ∧ (parseMethodDescriptor yX9_choose.desc).map (fun d => d.parameters.length) = some 3 := by decide +kernel
theorem nd_X9_payFor : yX9_payFor.cls ≠ "java/lang/invoke/MethodHandle" ∧ yX9_payFor.cls ≠ "java/lang/invoke/VarHandle" ∧ (parseMethodDescriptor yX9_payFor.desc).map (fun d => d.parameters.length) = some 2 := by decide +kernel
theorem nd_X9_refused : yX9_refused.cls ≠ "java/lang/invoke/MethodHandle" ∧ yX9_refused.cls ≠ "java/lang/invoke/VarHandle" ∧ (parseMethodDescriptor yX9_refused.desc).map (fun d => d.parameters.length) = some 1 := by decide +kernel
theorem nd_X9_sign : yX9_sign.cls ≠ "java/lang/invoke/MethodHandle" ∧ yX9_sign.cls ≠ "java/lang/invoke/VarHandle" ∧ (parseMethodDescriptor yX9_sign.desc).map (fun d => d.parameters.length) = some 0 := by decide +kernel
theorem nd_X9_taken : yX9_taken.cls ≠ "java/lang/invoke/MethodHandle" ∧ yX9_taken.cls ≠ "java/lang/invoke/VarHandle" ∧ (parseMethodDescriptor yX9_taken.desc).map (fun d => d.parameters.length) = some 2 := by decide +kernel
theorem nd_X9_count : yX9_count.cls ≠ "java/lang/invoke/MethodHandle" ∧ yX9_count.cls ≠ "java/lang/invoke/VarHandle" ∧ (parseMethodDescriptor yX9_count.desc).map (fun d => d.parameters.length) = some 2 := by decide +kernel
theorem nd_X9_number : yX9_number.cls ≠ "java/lang/invoke/MethodHandle" ∧ yX9_number.cls ≠ "java/lang/invoke/VarHandle" ∧ (parseMethodDescriptor yX9_number.desc).map (fun d => d.parameters.length) = some 1 := by decide +kernel
theorem nd_X9_isTable : yX9_isTable.cls ≠ "java/lang/invoke/MethodHandle" ∧ yX9_isTable.cls ≠ "java/lang/invoke/VarHandle" ∧ (parseMethodDescriptor yX9_isTable.desc).map (fun d => d.parameters.length) = some 2 := by decide +kernel
theorem nd_X9_linkOn : yX9_linkOn.cls ≠ "java/lang/invoke/MethodHandle" ∧ yX9_linkOn.cls ≠ "java/lang/invoke/VarHandle" ∧ (parseMethodDescriptor yX9_linkOn.desc).map (fun d => d.parameters.length) = some 5 := by decide +kernel
theorem nd_X9_addOn : yX9_addOn.cls ≠ "java/lang/invoke/MethodHandle" ∧ yX9_addOn.cls ≠ "java/lang/invoke/VarHandle" ∧ (parseMethodDescriptor yX9_addOn.desc).map (fun d => d.parameters.length) = some 2 := by decide +kernel
theorem nd_X9_begin : yX9_begin.cls ≠ "java/lang/invoke/MethodHandle" ∧ yX9_begin.cls ≠ "java/lang/invoke/VarHandle" ∧ (parseMethodDescriptor yX9_begin.desc).map (fun d => d.parameters.length) = some 1 := by decide +kernel
theorem nd_X9_readEntry : yX9_readEntry.cls ≠ "java/lang/invoke/MethodHandle" ∧ yX9_readEntry.cls ≠ "java/lang/invoke/VarHandle" ∧ (parseMethodDescriptor yX9_readEntry.desc).map (fun d => d.parameters.length) = some 1 := by decide +kernel
theorem nd_X9_wrongWorld : yX9_wrongWorld.cls ≠ "java/lang/invoke/MethodHandle" ∧ yX9_wrongWorld.cls ≠ "java/lang/invoke/VarHandle" ∧ (parseMethodDescriptor yX9_wrongWorld.desc).map (fun d => d.parameters.length) = some 1 := by decide +kernel
theorem nd_X9_wrongPlan : yX9_wrongPlan.cls ≠ "java/lang/invoke/MethodHandle" ∧ yX9_wrongPlan.cls ≠ "java/lang/invoke/VarHandle" ∧ (parseMethodDescriptor yX9_wrongPlan.desc).map (fun d => d.parameters.length) = some 0 := by decide +kernel
theorem nd_X9_copyWorld : yX9_copyWorld.cls ≠ "java/lang/invoke/MethodHandle" ∧ yX9_copyWorld.cls ≠ "java/lang/invoke/VarHandle" ∧ (parseMethodDescriptor yX9_copyWorld.desc).map (fun d => d.parameters.length) = some 4 := by decide +kernel
theorem nd_X9_arePair : yX9_arePair.cls ≠ "java/lang/invoke/MethodHandle" ∧ yX9_arePair.cls ≠ "java/lang/invoke/VarHandle" ∧ (parseMethodDescriptor yX9_arePair.desc).map (fun d => d.parameters.length) = some 3 := by decide +kernel
theorem nd_X9_remember : yX9_remember.cls ≠ "java/lang/invoke/MethodHandle" ∧ yX9_remember.cls ≠ "java/lang/invoke/VarHandle" ∧ (parseMethodDescriptor yX9_remember.desc).map (fun d => d.parameters.length) = some 0 := by decide +kernel
theorem nd_X9_isShare : yX9_isShare.cls ≠ "java/lang/invoke/MethodHandle" ∧ yX9_isShare.cls ≠ "java/lang/invoke/VarHandle" ∧ (parseMethodDescriptor yX9_isShare.desc).map (fun d => d.parameters.length) = some 1 := by decide +kernel
theorem nd_X9_whyNotDrift : yX9_whyNotDrift.cls ≠ "java/lang/invoke/MethodHandle" ∧ yX9_whyNotDrift.cls ≠ "java/lang/invoke/VarHandle" ∧ (parseMethodDescriptor yX9_whyNotDrift.desc).map (fun d => d.parameters.length) = some 4 := by decide +kernel
theorem nd_X9_driftOn : yX9_driftOn.cls ≠ "java/lang/invoke/MethodHandle" ∧ yX9_driftOn.cls ≠ "java/lang/invoke/VarHandle" ∧ (parseMethodDescriptor yX9_driftOn.desc).map (fun d => d.parameters.length) = some 4 := by decide +kernel
theorem nd_X9_costOn : yX9_costOn.cls ≠ "java/lang/invoke/MethodHandle" ∧ yX9_costOn.cls ≠ "java/lang/invoke/VarHandle" ∧ (parseMethodDescriptor yX9_costOn.desc).map (fun d => d.parameters.length) = some 3 := by decide +kernel
theorem nd_X9_find : yX9_find.cls ≠ "java/lang/invoke/MethodHandle" ∧ yX9_find.cls ≠ "java/lang/invoke/VarHandle" ∧ (parseMethodDescriptor yX9_find.desc).map (fun d => d.parameters.length) = some 3 := by decide +kernel
theorem nd_X9_isSet : yX9_isSet.cls ≠ "java/lang/invoke/MethodHandle" ∧ yX9_isSet.cls ≠ "java/lang/invoke/VarHandle" ∧ (parseMethodDescriptor yX9_isSet.desc).map (fun d => d.parameters.length) = some 2 := by decide +kernel
theorem nd_X9_whyNotRun : yX9_whyNotRun.cls ≠ "java/lang/invoke/MethodHandle" ∧ yX9_whyNotRun.cls ≠ "java/lang/invoke/VarHandle" ∧ (parseMethodDescriptor yX9_whyNotRun.desc).map (fun d => d.parameters.length) = some 2 := by decide +kernel
theorem nd_X9_runOn : yX9_runOn.cls ≠ "java/lang/invoke/MethodHandle" ∧ yX9_runOn.cls ≠ "java/lang/invoke/VarHandle" ∧ (parseMethodDescriptor yX9_runOn.desc).map (fun d => d.parameters.length) = some 2 := by decide +kernel
theorem nd_X9_weeksOn : yX9_weeksOn.cls ≠ "java/lang/invoke/MethodHandle" ∧ yX9_weeksOn.cls ≠ "java/lang/invoke/VarHandle" ∧ (parseMethodDescriptor yX9_weeksOn.desc).map (fun d => d.parameters.length) = some 2 := by decide +kernel
theorem nd_X9_isSetting : yX9_isSetting.cls ≠ "java/lang/invoke/MethodHandle" ∧ yX9_isSetting.cls ≠ "java/lang/invoke/VarHandle" ∧ (parseMethodDescriptor yX9_isSetting.desc).map (fun d => d.parameters.length) = some 2 := by decide +kernel
theorem nd_X9_layText : yX9_layText.cls ≠ "java/lang/invoke/MethodHandle" ∧ yX9_layText.cls ≠ "java/lang/invoke/VarHandle" ∧ (parseMethodDescriptor yX9_layText.desc).map (fun d => d.parameters.length) = some 0 := by decide +kernel
theorem nd_X9_isChosen : yX9_isChosen.cls ≠ "java/lang/invoke/MethodHandle" ∧ yX9_isChosen.cls ≠ "java/lang/invoke/VarHandle" ∧ (parseMethodDescriptor yX9_isChosen.desc).map (fun d => d.parameters.length) = some 3 := by decide +kernel
theorem nd_X9_command : yX9_command.cls ≠ "java/lang/invoke/MethodHandle" ∧ yX9_command.cls ≠ "java/lang/invoke/VarHandle" ∧ (parseMethodDescriptor yX9_command.desc).map (fun d => d.parameters.length) = some 4 := by decide +kernel
theorem nd_X9_turn : yX9_turn.cls ≠ "java/lang/invoke/MethodHandle" ∧ yX9_turn.cls ≠ "java/lang/invoke/VarHandle" ∧ (parseMethodDescriptor yX9_turn.desc).map (fun d => d.parameters.length) = some 1 := by decide +kernel
theorem nd_X8_append : yX8_append.cls ≠ "java/lang/invoke/MethodHandle" ∧ yX8_append.cls ≠ "java/lang/invoke/VarHandle" ∧ (parseMethodDescriptor yX8_append.desc).map (fun d => d.parameters.length) = some 1 := by decide +kernel
theorem nd_X8_load : yX8_load.cls ≠ "java/lang/invoke/MethodHandle" ∧ yX8_load.cls ≠ "java/lang/invoke/VarHandle" ∧ (parseMethodDescriptor yX8_load.desc).map (fun d => d.parameters.length) = some 0 := by decide +kernel
theorem nd_X8_about : yX8_about.cls ≠ "java/lang/invoke/MethodHandle" ∧ yX8_about.cls ≠ "java/lang/invoke/VarHandle" ∧ (parseMethodDescriptor yX8_about.desc).map (fun d => d.parameters.length) = some 1 := by decide +kernel
theorem nd_X8_sum : yX8_sum.cls ≠ "java/lang/invoke/MethodHandle" ∧ yX8_sum.cls ≠ "java/lang/invoke/VarHandle" ∧ (parseMethodDescriptor yX8_sum.desc).map (fun d => d.parameters.length) = some 1 := by decide +kernel
theorem nd_X8_size : yX8_size.cls ≠ "java/lang/invoke/MethodHandle" ∧ yX8_size.cls ≠ "java/lang/invoke/VarHandle" ∧ (parseMethodDescriptor yX8_size.desc).map (fun d => d.parameters.length) = some 1 := by decide +kernel
theorem nd_X8_pair : yX8_pair.cls ≠ "java/lang/invoke/MethodHandle" ∧ yX8_pair.cls ≠ "java/lang/invoke/VarHandle" ∧ (parseMethodDescriptor yX8_pair.desc).map (fun d => d.parameters.length) = some 3 := by decide +kernel
theorem nd_X8_surprise : yX8_surprise.cls ≠ "java/lang/invoke/MethodHandle" ∧ yX8_surprise.cls ≠ "java/lang/invoke/VarHandle" ∧ (parseMethodDescriptor yX8_surprise.desc).map (fun d => d.parameters.length) = some 2 := by decide +kernel
theorem nd_X8_setting : yX8_setting.cls ≠ "java/lang/invoke/MethodHandle" ∧ yX8_setting.cls ≠ "java/lang/invoke/VarHandle" ∧ (parseMethodDescriptor yX8_setting.desc).map (fun d => d.parameters.length) = some 1 := by decide +kernel
theorem nd_X8_add : yX8_add.cls ≠ "java/lang/invoke/MethodHandle" ∧ yX8_add.cls ≠ "java/lang/invoke/VarHandle" ∧ (parseMethodDescriptor yX8_add.desc).map (fun d => d.parameters.length) = some 1 := by decide +kernel
theorem nd_X8_resize : yX8_resize.cls ≠ "java/lang/invoke/MethodHandle" ∧ yX8_resize.cls ≠ "java/lang/invoke/VarHandle" ∧ (parseMethodDescriptor yX8_resize.desc).map (fun d => d.parameters.length) = some 2 := by decide +kernel
theorem nd_X8_link : yX8_link.cls ≠ "java/lang/invoke/MethodHandle" ∧ yX8_link.cls ≠ "java/lang/invoke/VarHandle" ∧ (parseMethodDescriptor yX8_link.desc).map (fun d => d.parameters.length) = some 4 := by decide +kernel
theorem nd_X8_drift : yX8_drift.cls ≠ "java/lang/invoke/MethodHandle" ∧ yX8_drift.cls ≠ "java/lang/invoke/VarHandle" ∧ (parseMethodDescriptor yX8_drift.desc).map (fun d => d.parameters.length) = some 3 := by decide +kernel
theorem nd_X8_run : yX8_run.cls ≠ "java/lang/invoke/MethodHandle" ∧ yX8_run.cls ≠ "java/lang/invoke/VarHandle" ∧ (parseMethodDescriptor yX8_run.desc).map (fun d => d.parameters.length) = some 1 := by decide +kernel
theorem nd_X8_weeks : yX8_weeks.cls ≠ "java/lang/invoke/MethodHandle" ∧ yX8_weeks.cls ≠ "java/lang/invoke/VarHandle" ∧ (parseMethodDescriptor yX8_weeks.desc).map (fun d => d.parameters.length) = some 1 := by decide +kernel
theorem nd_X8_set : yX8_set.cls ≠ "java/lang/invoke/MethodHandle" ∧ yX8_set.cls ≠ "java/lang/invoke/VarHandle" ∧ (parseMethodDescriptor yX8_set.desc).map (fun d => d.parameters.length) = some 2 := by decide +kernel
theorem nd_X8_undo : yX8_undo.cls ≠ "java/lang/invoke/MethodHandle" ∧ yX8_undo.cls ≠ "java/lang/invoke/VarHandle" ∧ (parseMethodDescriptor yX8_undo.desc).map (fun d => d.parameters.length) = some 0 := by decide +kernel
theorem nd_X8_rows : yX8_rows.cls ≠ "java/lang/invoke/MethodHandle" ∧ yX8_rows.cls ≠ "java/lang/invoke/VarHandle" ∧ (parseMethodDescriptor yX8_rows.desc).map (fun d => d.parameters.length) = some 2 := by decide +kernel
theorem nd_X8_order : yX8_order.cls ≠ "java/lang/invoke/MethodHandle" ∧ yX8_order.cls ≠ "java/lang/invoke/VarHandle" ∧ (parseMethodDescriptor yX8_order.desc).map (fun d => d.parameters.length) = some 3 := by decide +kernel
theorem nd_X8_way : yX8_way.cls ≠ "java/lang/invoke/MethodHandle" ∧ yX8_way.cls ≠ "java/lang/invoke/VarHandle" ∧ (parseMethodDescriptor yX8_way.desc).map (fun d => d.parameters.length) = some 2 := by decide +kernel
theorem nd_X8_cost : yX8_cost.cls ≠ "java/lang/invoke/MethodHandle" ∧ yX8_cost.cls ≠ "java/lang/invoke/VarHandle" ∧ (parseMethodDescriptor yX8_cost.desc).map (fun d => d.parameters.length) = some 2 := by decide +kernel
theorem nd_X8_costOfText : yX8_costOfText.cls ≠ "java/lang/invoke/MethodHandle" ∧ yX8_costOfText.cls ≠ "java/lang/invoke/VarHandle" ∧ (parseMethodDescriptor yX8_costOfText.desc).map (fun d => d.parameters.length) = some 1 := by decide +kernel
theorem nd_X8_matters : yX8_matters.cls ≠ "java/lang/invoke/MethodHandle" ∧ yX8_matters.cls ≠ "java/lang/invoke/VarHandle" ∧ (parseMethodDescriptor yX8_matters.desc).map (fun d => d.parameters.length) = some 3 := by decide +kernel
theorem nd_X8_learnsIn : yX8_learnsIn.cls ≠ "java/lang/invoke/MethodHandle" ∧ yX8_learnsIn.cls ≠ "java/lang/invoke/VarHandle" ∧ (parseMethodDescriptor yX8_learnsIn.desc).map (fun d => d.parameters.length) = some 1 := by decide +kernel
theorem nd_X8_runScript : yX8_runScript.cls ≠ "java/lang/invoke/MethodHandle" ∧ yX8_runScript.cls ≠ "java/lang/invoke/VarHandle" ∧ (parseMethodDescriptor yX8_runScript.desc).map (fun d => d.parameters.length) = some 2 := by decide +kernel
theorem nd_X8_simulate : yX8_simulate.cls ≠ "java/lang/invoke/MethodHandle" ∧ yX8_simulate.cls ≠ "java/lang/invoke/VarHandle" ∧ (parseMethodDescriptor yX8_simulate.desc).map (fun d => d.parameters.length) = some 2 := by decide +kernel
theorem nd_X8_save : yX8_save.cls ≠ "java/lang/invoke/MethodHandle" ∧ yX8_save.cls ≠ "java/lang/invoke/VarHandle" ∧ (parseMethodDescriptor yX8_save.desc).map (fun d => d.parameters.length) = some 1 := by decide +kernel
theorem nd_X8_restore : yX8_restore.cls ≠ "java/lang/invoke/MethodHandle" ∧ yX8_restore.cls ≠ "java/lang/invoke/VarHandle" ∧ (parseMethodDescriptor yX8_restore.desc).map (fun d => d.parameters.length) = some 1 := by decide +kernel
theorem nd_X4_init : yX4_init.cls ≠ "java/lang/invoke/MethodHandle" ∧ yX4_init.cls ≠ "java/lang/invoke/VarHandle" ∧ (parseMethodDescriptor yX4_init.desc).map (fun d => d.parameters.length) = some 0 := by decide +kernel
theorem nd_X7_init : yX7_init.cls ≠ "java/lang/invoke/MethodHandle" ∧ yX7_init.cls ≠ "java/lang/invoke/VarHandle" ∧ (parseMethodDescriptor yX7_init.desc).map (fun d => d.parameters.length) = some 0 := by decide +kernel
theorem nd_X6_init : yX6_init.cls ≠ "java/lang/invoke/MethodHandle" ∧ yX6_init.cls ≠ "java/lang/invoke/VarHandle" ∧ (parseMethodDescriptor yX6_init.desc).map (fun d => d.parameters.length) = some 0 := by decide +kernel
theorem nd_X0_init : yX0_init.cls ≠ "java/lang/invoke/MethodHandle" ∧ yX0_init.cls ≠ "java/lang/invoke/VarHandle" ∧ (parseMethodDescriptor yX0_init.desc).map (fun d => d.parameters.length) = some 0 := by decide +kernel
theorem nd_X2_init : yX2_init.cls ≠ "java/lang/invoke/MethodHandle" ∧ yX2_init.cls ≠ "java/lang/invoke/VarHandle" ∧ (parseMethodDescriptor yX2_init.desc).map (fun d => d.parameters.length) = some 0 := by decide +kernel
theorem nd_X3_init : yX3_init.cls ≠ "java/lang/invoke/MethodHandle" ∧ yX3_init.cls ≠ "java/lang/invoke/VarHandle" ∧ (parseMethodDescriptor yX3_init.desc).map (fun d => d.parameters.length) = some 0 := by decide +kernel
theorem nd_L_append : yL_append.cls ≠ "java/lang/invoke/MethodHandle" ∧ yL_append.cls ≠ "java/lang/invoke/VarHandle" ∧ (parseMethodDescriptor yL_append.desc).map (fun d => d.parameters.length) = some 3 := by decide +kernel
theorem nd_X9_append : yX9_append.cls ≠ "java/lang/invoke/MethodHandle" ∧ yX9_append.cls ≠ "java/lang/invoke/VarHandle" ∧ (parseMethodDescriptor yX9_append.desc).map (fun d => d.parameters.length) = some 1 := by decide +kernel
theorem nd_X9_thrown : yX9_thrown.cls ≠ "java/lang/invoke/MethodHandle" ∧ yX9_thrown.cls ≠ "java/lang/invoke/VarHandle" ∧ (parseMethodDescriptor yX9_thrown.desc).map (fun d => d.parameters.length) = some 0 := by decide +kernel
theorem nd_X8_clearText : yX8_clearText.cls ≠ "java/lang/invoke/MethodHandle" ∧ yX8_clearText.cls ≠ "java/lang/invoke/VarHandle" ∧ (parseMethodDescriptor yX8_clearText.desc).map (fun d => d.parameters.length) = some 0 := by decide +kernel
theorem nd_X9_clearText : yX9_clearText.cls ≠ "java/lang/invoke/MethodHandle" ∧ yX9_clearText.cls ≠ "java/lang/invoke/VarHandle" ∧ (parseMethodDescriptor yX9_clearText.desc).map (fun d => d.parameters.length) = some 0 := by decide +kernel
theorem nd_X8_errorPosition : yX8_errorPosition.cls ≠ "java/lang/invoke/MethodHandle" ∧ yX8_errorPosition.cls ≠ "java/lang/invoke/VarHandle" ∧ (parseMethodDescriptor yX8_errorPosition.desc).map (fun d => d.parameters.length) = some 1 := by decide +kernel
theorem nd_X9_errorPosition : yX9_errorPosition.cls ≠ "java/lang/invoke/MethodHandle" ∧ yX9_errorPosition.cls ≠ "java/lang/invoke/VarHandle" ∧ (parseMethodDescriptor yX9_errorPosition.desc).map (fun d => d.parameters.length) = some 1 := by decide +kernel
theorem nd_L_load : yL_load.cls ≠ "java/lang/invoke/MethodHandle" ∧ yL_load.cls ≠ "java/lang/invoke/VarHandle" ∧ (parseMethodDescriptor yL_load.desc).map (fun d => d.parameters.length) = some 2 := by decide +kernel
theorem nd_X9_load : yX9_load.cls ≠ "java/lang/invoke/MethodHandle" ∧ yX9_load.cls ≠ "java/lang/invoke/VarHandle" ∧ (parseMethodDescriptor yX9_load.desc).map (fun d => d.parameters.length) = some 0 := by decide +kernel
theorem nd_L_about : yL_about.cls ≠ "java/lang/invoke/MethodHandle" ∧ yL_about.cls ≠ "java/lang/invoke/VarHandle" ∧ (parseMethodDescriptor yL_about.desc).map (fun d => d.parameters.length) = some 3 := by decide +kernel
theorem nd_X9_about : yX9_about.cls ≠ "java/lang/invoke/MethodHandle" ∧ yX9_about.cls ≠ "java/lang/invoke/VarHandle" ∧ (parseMethodDescriptor yX9_about.desc).map (fun d => d.parameters.length) = some 1 := by decide +kernel
theorem nd_L_sum : yL_sum.cls ≠ "java/lang/invoke/MethodHandle" ∧ yL_sum.cls ≠ "java/lang/invoke/VarHandle" ∧ (parseMethodDescriptor yL_sum.desc).map (fun d => d.parameters.length) = some 3 := by decide +kernel
theorem nd_X9_sum : yX9_sum.cls ≠ "java/lang/invoke/MethodHandle" ∧ yX9_sum.cls ≠ "java/lang/invoke/VarHandle" ∧ (parseMethodDescriptor yX9_sum.desc).map (fun d => d.parameters.length) = some 1 := by decide +kernel
theorem nd_L_size : yL_size.cls ≠ "java/lang/invoke/MethodHandle" ∧ yL_size.cls ≠ "java/lang/invoke/VarHandle" ∧ (parseMethodDescriptor yL_size.desc).map (fun d => d.parameters.length) = some 3 := by decide +kernel
theorem nd_X9_size : yX9_size.cls ≠ "java/lang/invoke/MethodHandle" ∧ yX9_size.cls ≠ "java/lang/invoke/VarHandle" ∧ (parseMethodDescriptor yX9_size.desc).map (fun d => d.parameters.length) = some 1 := by decide +kernel
theorem nd_L_pair : yL_pair.cls ≠ "java/lang/invoke/MethodHandle" ∧ yL_pair.cls ≠ "java/lang/invoke/VarHandle" ∧ (parseMethodDescriptor yL_pair.desc).map (fun d => d.parameters.length) = some 5 := by decide +kernel
theorem nd_X9_pair : yX9_pair.cls ≠ "java/lang/invoke/MethodHandle" ∧ yX9_pair.cls ≠ "java/lang/invoke/VarHandle" ∧ (parseMethodDescriptor yX9_pair.desc).map (fun d => d.parameters.length) = some 3 := by decide +kernel
theorem nd_L_surprise : yL_surprise.cls ≠ "java/lang/invoke/MethodHandle" ∧ yL_surprise.cls ≠ "java/lang/invoke/VarHandle" ∧ (parseMethodDescriptor yL_surprise.desc).map (fun d => d.parameters.length) = some 4 := by decide +kernel
theorem nd_X9_surprise : yX9_surprise.cls ≠ "java/lang/invoke/MethodHandle" ∧ yX9_surprise.cls ≠ "java/lang/invoke/VarHandle" ∧ (parseMethodDescriptor yX9_surprise.desc).map (fun d => d.parameters.length) = some 2 := by decide +kernel
theorem nd_L_setting : yL_setting.cls ≠ "java/lang/invoke/MethodHandle" ∧ yL_setting.cls ≠ "java/lang/invoke/VarHandle" ∧ (parseMethodDescriptor yL_setting.desc).map (fun d => d.parameters.length) = some 3 := by decide +kernel
theorem nd_X9_setting : yX9_setting.cls ≠ "java/lang/invoke/MethodHandle" ∧ yX9_setting.cls ≠ "java/lang/invoke/VarHandle" ∧ (parseMethodDescriptor yX9_setting.desc).map (fun d => d.parameters.length) = some 1 := by decide +kernel
theorem nd_L_add : yL_add.cls ≠ "java/lang/invoke/MethodHandle" ∧ yL_add.cls ≠ "java/lang/invoke/VarHandle" ∧ (parseMethodDescriptor yL_add.desc).map (fun d => d.parameters.length) = some 3 := by decide +kernel
theorem nd_X9_add : yX9_add.cls ≠ "java/lang/invoke/MethodHandle" ∧ yX9_add.cls ≠ "java/lang/invoke/VarHandle" ∧ (parseMethodDescriptor yX9_add.desc).map (fun d => d.parameters.length) = some 1 := by decide +kernel
theorem nd_L_resize : yL_resize.cls ≠ "java/lang/invoke/MethodHandle" ∧ yL_resize.cls ≠ "java/lang/invoke/VarHandle" ∧ (parseMethodDescriptor yL_resize.desc).map (fun d => d.parameters.length) = some 4 := by decide +kernel
theorem nd_X9_resize : yX9_resize.cls ≠ "java/lang/invoke/MethodHandle" ∧ yX9_resize.cls ≠ "java/lang/invoke/VarHandle" ∧ (parseMethodDescriptor yX9_resize.desc).map (fun d => d.parameters.length) = some 2 := by decide +kernel
theorem nd_L_link : yL_link.cls ≠ "java/lang/invoke/MethodHandle" ∧ yL_link.cls ≠ "java/lang/invoke/VarHandle" ∧ (parseMethodDescriptor yL_link.desc).map (fun d => d.parameters.length) = some 6 := by decide +kernel
theorem nd_X9_link : yX9_link.cls ≠ "java/lang/invoke/MethodHandle" ∧ yX9_link.cls ≠ "java/lang/invoke/VarHandle" ∧ (parseMethodDescriptor yX9_link.desc).map (fun d => d.parameters.length) = some 4 := by decide +kernel
theorem nd_L_drift : yL_drift.cls ≠ "java/lang/invoke/MethodHandle" ∧ yL_drift.cls ≠ "java/lang/invoke/VarHandle" ∧ (parseMethodDescriptor yL_drift.desc).map (fun d => d.parameters.length) = some 5 := by decide +kernel
theorem nd_X9_drift : yX9_drift.cls ≠ "java/lang/invoke/MethodHandle" ∧ yX9_drift.cls ≠ "java/lang/invoke/VarHandle" ∧ (parseMethodDescriptor yX9_drift.desc).map (fun d => d.parameters.length) = some 3 := by decide +kernel
theorem nd_L_run : yL_run.cls ≠ "java/lang/invoke/MethodHandle" ∧ yL_run.cls ≠ "java/lang/invoke/VarHandle" ∧ (parseMethodDescriptor yL_run.desc).map (fun d => d.parameters.length) = some 3 := by decide +kernel
theorem nd_X9_run : yX9_run.cls ≠ "java/lang/invoke/MethodHandle" ∧ yX9_run.cls ≠ "java/lang/invoke/VarHandle" ∧ (parseMethodDescriptor yX9_run.desc).map (fun d => d.parameters.length) = some 1 := by decide +kernel
theorem nd_L_weeks : yL_weeks.cls ≠ "java/lang/invoke/MethodHandle" ∧ yL_weeks.cls ≠ "java/lang/invoke/VarHandle" ∧ (parseMethodDescriptor yL_weeks.desc).map (fun d => d.parameters.length) = some 3 := by decide +kernel
theorem nd_X9_weeks : yX9_weeks.cls ≠ "java/lang/invoke/MethodHandle" ∧ yX9_weeks.cls ≠ "java/lang/invoke/VarHandle" ∧ (parseMethodDescriptor yX9_weeks.desc).map (fun d => d.parameters.length) = some 1 := by decide +kernel
theorem nd_L_set : yL_set.cls ≠ "java/lang/invoke/MethodHandle" ∧ yL_set.cls ≠ "java/lang/invoke/VarHandle" ∧ (parseMethodDescriptor yL_set.desc).map (fun d => d.parameters.length) = some 4 := by decide +kernel
theorem nd_X9_set : yX9_set.cls ≠ "java/lang/invoke/MethodHandle" ∧ yX9_set.cls ≠ "java/lang/invoke/VarHandle" ∧ (parseMethodDescriptor yX9_set.desc).map (fun d => d.parameters.length) = some 2 := by decide +kernel
theorem nd_L_undo : yL_undo.cls ≠ "java/lang/invoke/MethodHandle" ∧ yL_undo.cls ≠ "java/lang/invoke/VarHandle" ∧ (parseMethodDescriptor yL_undo.desc).map (fun d => d.parameters.length) = some 2 := by decide +kernel
theorem nd_X9_undo : yX9_undo.cls ≠ "java/lang/invoke/MethodHandle" ∧ yX9_undo.cls ≠ "java/lang/invoke/VarHandle" ∧ (parseMethodDescriptor yX9_undo.desc).map (fun d => d.parameters.length) = some 0 := by decide +kernel
theorem nd_L_rows : yL_rows.cls ≠ "java/lang/invoke/MethodHandle" ∧ yL_rows.cls ≠ "java/lang/invoke/VarHandle" ∧ (parseMethodDescriptor yL_rows.desc).map (fun d => d.parameters.length) = some 4 := by decide +kernel
theorem nd_X9_rows : yX9_rows.cls ≠ "java/lang/invoke/MethodHandle" ∧ yX9_rows.cls ≠ "java/lang/invoke/VarHandle" ∧ (parseMethodDescriptor yX9_rows.desc).map (fun d => d.parameters.length) = some 2 := by decide +kernel
theorem nd_L_order : yL_order.cls ≠ "java/lang/invoke/MethodHandle" ∧ yL_order.cls ≠ "java/lang/invoke/VarHandle" ∧ (parseMethodDescriptor yL_order.desc).map (fun d => d.parameters.length) = some 5 := by decide +kernel
theorem nd_X9_order : yX9_order.cls ≠ "java/lang/invoke/MethodHandle" ∧ yX9_order.cls ≠ "java/lang/invoke/VarHandle" ∧ (parseMethodDescriptor yX9_order.desc).map (fun d => d.parameters.length) = some 3 := by decide +kernel
theorem nd_L_way : yL_way.cls ≠ "java/lang/invoke/MethodHandle" ∧ yL_way.cls ≠ "java/lang/invoke/VarHandle" ∧ (parseMethodDescriptor yL_way.desc).map (fun d => d.parameters.length) = some 4 := by decide +kernel
theorem nd_X9_way : yX9_way.cls ≠ "java/lang/invoke/MethodHandle" ∧ yX9_way.cls ≠ "java/lang/invoke/VarHandle" ∧ (parseMethodDescriptor yX9_way.desc).map (fun d => d.parameters.length) = some 2 := by decide +kernel
theorem nd_L_cost : yL_cost.cls ≠ "java/lang/invoke/MethodHandle" ∧ yL_cost.cls ≠ "java/lang/invoke/VarHandle" ∧ (parseMethodDescriptor yL_cost.desc).map (fun d => d.parameters.length) = some 4 := by decide +kernel
theorem nd_X9_cost : yX9_cost.cls ≠ "java/lang/invoke/MethodHandle" ∧ yX9_cost.cls ≠ "java/lang/invoke/VarHandle" ∧ (parseMethodDescriptor yX9_cost.desc).map (fun d => d.parameters.length) = some 2 := by decide +kernel
theorem nd_L_costOfText : yL_costOfText.cls ≠ "java/lang/invoke/MethodHandle" ∧ yL_costOfText.cls ≠ "java/lang/invoke/VarHandle" ∧ (parseMethodDescriptor yL_costOfText.desc).map (fun d => d.parameters.length) = some 3 := by decide +kernel
theorem nd_X9_costOfText : yX9_costOfText.cls ≠ "java/lang/invoke/MethodHandle" ∧ yX9_costOfText.cls ≠ "java/lang/invoke/VarHandle" ∧ (parseMethodDescriptor yX9_costOfText.desc).map (fun d => d.parameters.length) = some 1 := by decide +kernel
theorem nd_L_matters : yL_matters.cls ≠ "java/lang/invoke/MethodHandle" ∧ yL_matters.cls ≠ "java/lang/invoke/VarHandle" ∧ (parseMethodDescriptor yL_matters.desc).map (fun d => d.parameters.length) = some 5 := by decide +kernel
theorem nd_X9_matters : yX9_matters.cls ≠ "java/lang/invoke/MethodHandle" ∧ yX9_matters.cls ≠ "java/lang/invoke/VarHandle" ∧ (parseMethodDescriptor yX9_matters.desc).map (fun d => d.parameters.length) = some 3 := by decide +kernel
theorem nd_X8_worst : yX8_worst.cls ≠ "java/lang/invoke/MethodHandle" ∧ yX8_worst.cls ≠ "java/lang/invoke/VarHandle" ∧ (parseMethodDescriptor yX8_worst.desc).map (fun d => d.parameters.length) = some 0 := by decide +kernel
theorem nd_X9_worst : yX9_worst.cls ≠ "java/lang/invoke/MethodHandle" ∧ yX9_worst.cls ≠ "java/lang/invoke/VarHandle" ∧ (parseMethodDescriptor yX9_worst.desc).map (fun d => d.parameters.length) = some 0 := by decide +kernel
theorem nd_L_learnsIn : yL_learnsIn.cls ≠ "java/lang/invoke/MethodHandle" ∧ yL_learnsIn.cls ≠ "java/lang/invoke/VarHandle" ∧ (parseMethodDescriptor yL_learnsIn.desc).map (fun d => d.parameters.length) = some 3 := by decide +kernel
theorem nd_X9_learnsIn : yX9_learnsIn.cls ≠ "java/lang/invoke/MethodHandle" ∧ yX9_learnsIn.cls ≠ "java/lang/invoke/VarHandle" ∧ (parseMethodDescriptor yX9_learnsIn.desc).map (fun d => d.parameters.length) = some 1 := by decide +kernel
theorem nd_L_runScript : yL_runScript.cls ≠ "java/lang/invoke/MethodHandle" ∧ yL_runScript.cls ≠ "java/lang/invoke/VarHandle" ∧ (parseMethodDescriptor yL_runScript.desc).map (fun d => d.parameters.length) = some 4 := by decide +kernel
theorem nd_X9_runScript : yX9_runScript.cls ≠ "java/lang/invoke/MethodHandle" ∧ yX9_runScript.cls ≠ "java/lang/invoke/VarHandle" ∧ (parseMethodDescriptor yX9_runScript.desc).map (fun d => d.parameters.length) = some 2 := by decide +kernel
theorem nd_L_simulate : yL_simulate.cls ≠ "java/lang/invoke/MethodHandle" ∧ yL_simulate.cls ≠ "java/lang/invoke/VarHandle" ∧ (parseMethodDescriptor yL_simulate.desc).map (fun d => d.parameters.length) = some 4 := by decide +kernel
theorem nd_X9_simulate : yX9_simulate.cls ≠ "java/lang/invoke/MethodHandle" ∧ yX9_simulate.cls ≠ "java/lang/invoke/VarHandle" ∧ (parseMethodDescriptor yX9_simulate.desc).map (fun d => d.parameters.length) = some 2 := by decide +kernel
theorem nd_L_save : yL_save.cls ≠ "java/lang/invoke/MethodHandle" ∧ yL_save.cls ≠ "java/lang/invoke/VarHandle" ∧ (parseMethodDescriptor yL_save.desc).map (fun d => d.parameters.length) = some 3 := by decide +kernel
theorem nd_X9_save : yX9_save.cls ≠ "java/lang/invoke/MethodHandle" ∧ yX9_save.cls ≠ "java/lang/invoke/VarHandle" ∧ (parseMethodDescriptor yX9_save.desc).map (fun d => d.parameters.length) = some 1 := by decide +kernel
theorem nd_L_restore : yL_restore.cls ≠ "java/lang/invoke/MethodHandle" ∧ yL_restore.cls ≠ "java/lang/invoke/VarHandle" ∧ (parseMethodDescriptor yL_restore.desc).map (fun d => d.parameters.length) = some 3 := by decide +kernel
theorem nd_X9_restore : yX9_restore.cls ≠ "java/lang/invoke/MethodHandle" ∧ yX9_restore.cls ≠ "java/lang/invoke/VarHandle" ∧ (parseMethodDescriptor yX9_restore.desc).map (fun d => d.parameters.length) = some 1 := by decide +kernel
section LINKS
variable {p : Program} {l : Launch} {e : Env} {R : Room} {s : State} {m : MethodId} {args : Array Value} {below : List Frame} {meth : Method} {c : Code} {H : Heap} {locs : List Loc} {cells slots : Nat} {Q : State → Prop}
variable {cc : ByteArray} {pc : Nat} {ls : Array Slot} {rest : List Value} {D : va_G} {A : Nat → Prop} {a : Nat} {tys : List (ClassId × FieldType)} {ws : va_W} {H0 : Heap}
theorem gf_X0_15 (hx : p.tables.exec = Jvm.exec) (hb : c.code = cc) (hqs : ∀ w ∈ TB, w.before args s = true) (hown : s.vm.findClass RX0 = some m.cls) (hK : va_K D vwCl tys s) (hP : va_P D vwCl ws H) (q0 : Nat) {fs : List Value} (he : ws[q0]? = some (a, .inr (0, fs))) {v : Value} (hv : fs[4]? = some v) (hdg : decode cc pc = .ok (.getfield 15, 3)) (kk : W p l e R s m args below meth c H locs cells slots Q (F0 m (pc + 3) ls (v :: rest))) : W p l e R s m args below meth c H locs cells slots Q (F0 m pc ls (.ref a :: rest)) :=
  va_get (D := D) (ci := 0) (v := v) (C := RX0) (T := TX0) (N := 5) hx hb hqs inX0 hown hK hP q0 he rfl 4 (by decide) (hqs _ w_107) (fun _ h9 => h9) hv hdg kk
theorem gf_X0_19 (hx : p.tables.exec = Jvm.exec) (hb : c.code = cc) (hqs : ∀ w ∈ TB, w.before args s = true) (hown : s.vm.findClass RX0 = some m.cls) (hK : va_K D vwCl tys s) (hP : va_P D vwCl ws H) (q0 : Nat) {fs : List Value} (he : ws[q0]? = some (a, .inr (0, fs))) {v : Value} (hv : fs[0]? = some v) (hdg : decode cc pc = .ok (.getfield 19, 3)) (kk : W p l e R s m args below meth c H locs cells slots Q (F0 m (pc + 3) ls (v :: rest))) : W p l e R s m args below meth c H locs cells slots Q (F0 m pc ls (.ref a :: rest)) :=
  va_get (D := D) (ci := 0) (v := v) (C := RX0) (T := TX0) (N := 5) hx hb hqs inX0 hown hK hP q0 he rfl 0 (by decide) (hqs _ w_100) (fun _ h9 => h9) hv hdg kk
theorem gf_X0_25 (hx : p.tables.exec = Jvm.exec) (hb : c.code = cc) (hqs : ∀ w ∈ TB, w.before args s = true) (hown : s.vm.findClass RX0 = some m.cls) (hK : va_K D vwCl tys s) (hP : va_P D vwCl ws H) (q0 : Nat) {fs : List Value} (he : ws[q0]? = some (a, .inr (0, fs))) {v : Value} (hv : fs[1]? = some v) (hdg : decode cc pc = .ok (.getfield 25, 3)) (kk : W p l e R s m args below meth c H locs cells slots Q (F0 m (pc + 3) ls (v :: rest))) : W p l e R s m args below meth c H locs cells slots Q (F0 m pc ls (.ref a :: rest)) :=
  va_get (D := D) (ci := 0) (v := v) (C := RX0) (T := TX0) (N := 5) hx hb hqs inX0 hown hK hP q0 he rfl 1 (by decide) (hqs _ w_101) (fun _ h9 => h9) hv hdg kk
theorem gf_X0_32 (hx : p.tables.exec = Jvm.exec) (hb : c.code = cc) (hqs : ∀ w ∈ TB, w.before args s = true) (hown : s.vm.findClass RX0 = some m.cls) (hK : va_K D vwCl tys s) (hP : va_P D vwCl ws H) (q0 : Nat) {fs : List Value} (he : ws[q0]? = some (a, .inr (0, fs))) {v : Value} (hv : fs[2]? = some v) (hdg : decode cc pc = .ok (.getfield 32, 3)) (kk : W p l e R s m args below meth c H locs cells slots Q (F0 m (pc + 3) ls (v :: rest))) : W p l e R s m args below meth c H locs cells slots Q (F0 m pc ls (.ref a :: rest)) :=
  va_get (D := D) (ci := 0) (v := v) (C := RX0) (T := TX0) (N := 5) hx hb hqs inX0 hown hK hP q0 he rfl 2 (by decide) (hqs _ w_103) (fun _ h9 => h9) hv hdg kk
theorem gf_X1_18 (hx : p.tables.exec = Jvm.exec) (hb : c.code = cc) (hqs : ∀ w ∈ TB, w.before args s = true) (hown : s.vm.findClass RX1 = some m.cls) (hK : va_K D vwCl tys s) (hP : va_P D vwCl ws H) (q0 : Nat) {fs : List Value} (he : ws[q0]? = some (a, .inr (1, fs))) {v : Value} (hv : fs[1]? = some v) (hdg : decode cc pc = .ok (.getfield 18, 3)) (kk : W p l e R s m args below meth c H locs cells slots Q (F0 m (pc + 3) ls (v :: rest))) : W p l e R s m args below meth c H locs cells slots Q (F0 m pc ls (.ref a :: rest)) :=
  va_get (D := D) (ci := 1) (v := v) (C := RX1) (T := TX1) (N := 3) hx hb hqs inX1 hown hK hP q0 he rfl 1 (by decide) (hqs _ w_210) (fun _ h9 => h9) hv hdg kk
theorem gf_X1_22 (hx : p.tables.exec = Jvm.exec) (hb : c.code = cc) (hqs : ∀ w ∈ TB, w.before args s = true) (hown : s.vm.findClass RX1 = some m.cls) (hK : va_K D vwCl tys s) (hP : va_P D vwCl ws H) (q0 : Nat) {fs : List Value} (he : ws[q0]? = some (a, .inr (1, fs))) {v : Value} (hv : fs[2]? = some v) (hdg : decode cc pc = .ok (.getfield 22, 3)) (kk : W p l e R s m args below meth c H locs cells slots Q (F0 m (pc + 3) ls (v :: rest))) : W p l e R s m args below meth c H locs cells slots Q (F0 m pc ls (.ref a :: rest)) :=
  va_get (D := D) (ci := 1) (v := v) (C := RX1) (T := TX1) (N := 3) hx hb hqs inX1 hown hK hP q0 he rfl 2 (by decide) (hqs _ w_211) (fun _ h9 => h9) hv hdg kk
theorem gf_X1_11 (hx : p.tables.exec = Jvm.exec) (hb : c.code = cc) (hqs : ∀ w ∈ TB, w.before args s = true) (hown : s.vm.findClass RX1 = some m.cls) (hK : va_K D vwCl tys s) (hP : va_P D vwCl ws H) (q0 : Nat) {fs : List Value} (he : ws[q0]? = some (a, .inr (1, fs))) {v : Value} (hv : fs[0]? = some v) (hdg : decode cc pc = .ok (.getfield 11, 3)) (kk : W p l e R s m args below meth c H locs cells slots Q (F0 m (pc + 3) ls (v :: rest))) : W p l e R s m args below meth c H locs cells slots Q (F0 m pc ls (.ref a :: rest)) :=
  va_get (D := D) (ci := 1) (v := v) (C := RX1) (T := TX1) (N := 3) hx hb hqs inX1 hown hK hP q0 he rfl 0 (by decide) (hqs _ w_209) (fun _ h9 => h9) hv hdg kk
theorem gf_X7_48 (hx : p.tables.exec = Jvm.exec) (hb : c.code = cc) (hqs : ∀ w ∈ TB, w.before args s = true) (hown : s.vm.findClass RX7 = some m.cls) (hK : va_K D vwCl tys s) (hP : va_P D vwCl ws H) (q0 : Nat) {fs : List Value} (he : ws[q0]? = some (a, .inr (6, fs))) {v : Value} (hv : fs[0]? = some v) (hdg : decode cc pc = .ok (.getfield 48, 3)) (kk : W p l e R s m args below meth c H locs cells slots Q (F0 m (pc + 3) ls (v :: rest))) : W p l e R s m args below meth c H locs cells slots Q (F0 m pc ls (.ref a :: rest)) :=
  va_get (D := D) (ci := 6) (v := v) (C := RX7) (T := TX7) (N := 13) hx hb hqs inX7 hown hK hP q0 he rfl 0 (by decide) (hqs _ w_156) (fun _ h9 => h9) hv hdg kk
theorem gf_X7_52 (hx : p.tables.exec = Jvm.exec) (hb : c.code = cc) (hqs : ∀ w ∈ TB, w.before args s = true) (hown : s.vm.findClass RX7 = some m.cls) (hK : va_K D vwCl tys s) (hP : va_P D vwCl ws H) (q0 : Nat) {fs : List Value} (he : ws[q0]? = some (a, .inr (6, fs))) {v : Value} (hv : fs[1]? = some v) (hdg : decode cc pc = .ok (.getfield 52, 3)) (kk : W p l e R s m args below meth c H locs cells slots Q (F0 m (pc + 3) ls (v :: rest))) : W p l e R s m args below meth c H locs cells slots Q (F0 m pc ls (.ref a :: rest)) :=
  va_get (D := D) (ci := 6) (v := v) (C := RX7) (T := TX7) (N := 13) hx hb hqs inX7 hown hK hP q0 he rfl 1 (by decide) (hqs _ w_158) (fun _ h9 => h9) hv hdg kk
theorem gf_X7_55 (hx : p.tables.exec = Jvm.exec) (hb : c.code = cc) (hqs : ∀ w ∈ TB, w.before args s = true) (hown : s.vm.findClass RX7 = some m.cls) (hK : va_K D vwCl tys s) (hP : va_P D vwCl ws H) (q0 : Nat) {fs : List Value} (he : ws[q0]? = some (a, .inr (6, fs))) {v : Value} (hv : fs[2]? = some v) (hdg : decode cc pc = .ok (.getfield 55, 3)) (kk : W p l e R s m args below meth c H locs cells slots Q (F0 m (pc + 3) ls (v :: rest))) : W p l e R s m args below meth c H locs cells slots Q (F0 m pc ls (.ref a :: rest)) :=
  va_get (D := D) (ci := 6) (v := v) (C := RX7) (T := TX7) (N := 13) hx hb hqs inX7 hown hK hP q0 he rfl 2 (by decide) (hqs _ w_160) (fun _ h9 => h9) hv hdg kk
theorem gf_X7_58 (hx : p.tables.exec = Jvm.exec) (hb : c.code = cc) (hqs : ∀ w ∈ TB, w.before args s = true) (hown : s.vm.findClass RX7 = some m.cls) (hK : va_K D vwCl tys s) (hP : va_P D vwCl ws H) (q0 : Nat) {fs : List Value} (he : ws[q0]? = some (a, .inr (6, fs))) {v : Value} (hv : fs[3]? = some v) (hdg : decode cc pc = .ok (.getfield 58, 3)) (kk : W p l e R s m args below meth c H locs cells slots Q (F0 m (pc + 3) ls (v :: rest))) : W p l e R s m args below meth c H locs cells slots Q (F0 m pc ls (.ref a :: rest)) :=
  va_get (D := D) (ci := 6) (v := v) (C := RX7) (T := TX7) (N := 13) hx hb hqs inX7 hown hK hP q0 he rfl 3 (by decide) (hqs _ w_161) (fun _ h9 => h9) hv hdg kk
theorem gf_X7_9 (hx : p.tables.exec = Jvm.exec) (hb : c.code = cc) (hqs : ∀ w ∈ TB, w.before args s = true) (hown : s.vm.findClass RX7 = some m.cls) (hK : va_K D vwCl tys s) (hP : va_P D vwCl ws H) (q0 : Nat) {fs : List Value} (he : ws[q0]? = some (a, .inr (6, fs))) {v : Value} (hv : fs[4]? = some v) (hdg : decode cc pc = .ok (.getfield 9, 3)) (kk : W p l e R s m args below meth c H locs cells slots Q (F0 m (pc + 3) ls (v :: rest))) : W p l e R s m args below meth c H locs cells slots Q (F0 m pc ls (.ref a :: rest)) :=
  va_get (D := D) (ci := 6) (v := v) (C := RX7) (T := TX7) (N := 13) hx hb hqs inX7 hown hK hP q0 he rfl 4 (by decide) (hqs _ w_163) (fun _ h9 => h9) hv hdg kk
theorem gf_X7_24 (hx : p.tables.exec = Jvm.exec) (hb : c.code = cc) (hqs : ∀ w ∈ TB, w.before args s = true) (hown : s.vm.findClass RX7 = some m.cls) (hK : va_K D vwCl tys s) (hP : va_P D vwCl ws H) (q0 : Nat) {fs : List Value} (he : ws[q0]? = some (a, .inr (6, fs))) {v : Value} (hv : fs[5]? = some v) (hdg : decode cc pc = .ok (.getfield 24, 3)) (kk : W p l e R s m args below meth c H locs cells slots Q (F0 m (pc + 3) ls (v :: rest))) : W p l e R s m args below meth c H locs cells slots Q (F0 m pc ls (.ref a :: rest)) :=
  va_get (D := D) (ci := 6) (v := v) (C := RX7) (T := TX7) (N := 13) hx hb hqs inX7 hown hK hP q0 he rfl 5 (by decide) (hqs _ w_164) (fun _ h9 => h9) hv hdg kk
theorem gf_X7_27 (hx : p.tables.exec = Jvm.exec) (hb : c.code = cc) (hqs : ∀ w ∈ TB, w.before args s = true) (hown : s.vm.findClass RX7 = some m.cls) (hK : va_K D vwCl tys s) (hP : va_P D vwCl ws H) (q0 : Nat) {fs : List Value} (he : ws[q0]? = some (a, .inr (6, fs))) {v : Value} (hv : fs[6]? = some v) (hdg : decode cc pc = .ok (.getfield 27, 3)) (kk : W p l e R s m args below meth c H locs cells slots Q (F0 m (pc + 3) ls (v :: rest))) : W p l e R s m args below meth c H locs cells slots Q (F0 m pc ls (.ref a :: rest)) :=
  va_get (D := D) (ci := 6) (v := v) (C := RX7) (T := TX7) (N := 13) hx hb hqs inX7 hown hK hP q0 he rfl 6 (by decide) (hqs _ w_165) (fun _ h9 => h9) hv hdg kk
theorem gf_X7_30 (hx : p.tables.exec = Jvm.exec) (hb : c.code = cc) (hqs : ∀ w ∈ TB, w.before args s = true) (hown : s.vm.findClass RX7 = some m.cls) (hK : va_K D vwCl tys s) (hP : va_P D vwCl ws H) (q0 : Nat) {fs : List Value} (he : ws[q0]? = some (a, .inr (6, fs))) {v : Value} (hv : fs[7]? = some v) (hdg : decode cc pc = .ok (.getfield 30, 3)) (kk : W p l e R s m args below meth c H locs cells slots Q (F0 m (pc + 3) ls (v :: rest))) : W p l e R s m args below meth c H locs cells slots Q (F0 m pc ls (.ref a :: rest)) :=
  va_get (D := D) (ci := 6) (v := v) (C := RX7) (T := TX7) (N := 13) hx hb hqs inX7 hown hK hP q0 he rfl 7 (by decide) (hqs _ w_166) (fun _ h9 => h9) hv hdg kk
theorem gf_X7_33 (hx : p.tables.exec = Jvm.exec) (hb : c.code = cc) (hqs : ∀ w ∈ TB, w.before args s = true) (hown : s.vm.findClass RX7 = some m.cls) (hK : va_K D vwCl tys s) (hP : va_P D vwCl ws H) (q0 : Nat) {fs : List Value} (he : ws[q0]? = some (a, .inr (6, fs))) {v : Value} (hv : fs[8]? = some v) (hdg : decode cc pc = .ok (.getfield 33, 3)) (kk : W p l e R s m args below meth c H locs cells slots Q (F0 m (pc + 3) ls (v :: rest))) : W p l e R s m args below meth c H locs cells slots Q (F0 m pc ls (.ref a :: rest)) :=
  va_get (D := D) (ci := 6) (v := v) (C := RX7) (T := TX7) (N := 13) hx hb hqs inX7 hown hK hP q0 he rfl 8 (by decide) (hqs _ w_167) (fun _ h9 => h9) hv hdg kk
theorem gf_X7_36 (hx : p.tables.exec = Jvm.exec) (hb : c.code = cc) (hqs : ∀ w ∈ TB, w.before args s = true) (hown : s.vm.findClass RX7 = some m.cls) (hK : va_K D vwCl tys s) (hP : va_P D vwCl ws H) (q0 : Nat) {fs : List Value} (he : ws[q0]? = some (a, .inr (6, fs))) {v : Value} (hv : fs[9]? = some v) (hdg : decode cc pc = .ok (.getfield 36, 3)) (kk : W p l e R s m args below meth c H locs cells slots Q (F0 m (pc + 3) ls (v :: rest))) : W p l e R s m args below meth c H locs cells slots Q (F0 m pc ls (.ref a :: rest)) :=
  va_get (D := D) (ci := 6) (v := v) (C := RX7) (T := TX7) (N := 13) hx hb hqs inX7 hown hK hP q0 he rfl 9 (by decide) (hqs _ w_168) (fun _ h9 => h9) hv hdg kk
theorem gf_X7_39 (hx : p.tables.exec = Jvm.exec) (hb : c.code = cc) (hqs : ∀ w ∈ TB, w.before args s = true) (hown : s.vm.findClass RX7 = some m.cls) (hK : va_K D vwCl tys s) (hP : va_P D vwCl ws H) (q0 : Nat) {fs : List Value} (he : ws[q0]? = some (a, .inr (6, fs))) {v : Value} (hv : fs[10]? = some v) (hdg : decode cc pc = .ok (.getfield 39, 3)) (kk : W p l e R s m args below meth c H locs cells slots Q (F0 m (pc + 3) ls (v :: rest))) : W p l e R s m args below meth c H locs cells slots Q (F0 m pc ls (.ref a :: rest)) :=
  va_get (D := D) (ci := 6) (v := v) (C := RX7) (T := TX7) (N := 13) hx hb hqs inX7 hown hK hP q0 he rfl 10 (by decide) (hqs _ w_169) (fun _ h9 => h9) hv hdg kk
theorem gf_X7_42 (hx : p.tables.exec = Jvm.exec) (hb : c.code = cc) (hqs : ∀ w ∈ TB, w.before args s = true) (hown : s.vm.findClass RX7 = some m.cls) (hK : va_K D vwCl tys s) (hP : va_P D vwCl ws H) (q0 : Nat) {fs : List Value} (he : ws[q0]? = some (a, .inr (6, fs))) {v : Value} (hv : fs[11]? = some v) (hdg : decode cc pc = .ok (.getfield 42, 3)) (kk : W p l e R s m args below meth c H locs cells slots Q (F0 m (pc + 3) ls (v :: rest))) : W p l e R s m args below meth c H locs cells slots Q (F0 m pc ls (.ref a :: rest)) :=
  va_get (D := D) (ci := 6) (v := v) (C := RX7) (T := TX7) (N := 13) hx hb hqs inX7 hown hK hP q0 he rfl 11 (by decide) (hqs _ w_170) (fun _ h9 => h9) hv hdg kk
theorem gf_X7_45 (hx : p.tables.exec = Jvm.exec) (hb : c.code = cc) (hqs : ∀ w ∈ TB, w.before args s = true) (hown : s.vm.findClass RX7 = some m.cls) (hK : va_K D vwCl tys s) (hP : va_P D vwCl ws H) (q0 : Nat) {fs : List Value} (he : ws[q0]? = some (a, .inr (6, fs))) {v : Value} (hv : fs[12]? = some v) (hdg : decode cc pc = .ok (.getfield 45, 3)) (kk : W p l e R s m args below meth c H locs cells slots Q (F0 m (pc + 3) ls (v :: rest))) : W p l e R s m args below meth c H locs cells slots Q (F0 m pc ls (.ref a :: rest)) :=
  va_get (D := D) (ci := 6) (v := v) (C := RX7) (T := TX7) (N := 13) hx hb hqs inX7 hown hK hP q0 he rfl 12 (by decide) (hqs _ w_171) (fun _ h9 => h9) hv hdg kk
theorem gf_X2_22 (hx : p.tables.exec = Jvm.exec) (hb : c.code = cc) (hqs : ∀ w ∈ TB, w.before args s = true) (hown : s.vm.findClass RX2 = some m.cls) (hK : va_K D vwCl tys s) (hP : va_P D vwCl ws H) (q0 : Nat) {fs : List Value} (he : ws[q0]? = some (a, .inr (2, fs))) {v : Value} (hv : fs[2]? = some v) (hdg : decode cc pc = .ok (.getfield 22, 3)) (kk : W p l e R s m args below meth c H locs cells slots Q (F0 m (pc + 3) ls (v :: rest))) : W p l e R s m args below meth c H locs cells slots Q (F0 m pc ls (.ref a :: rest)) :=
  va_get (D := D) (ci := 2) (v := v) (C := RX2) (T := TX2) (N := 4) hx hb hqs inX2 hown hK hP q0 he rfl 2 (by decide) (hqs _ w_129) (fun _ h9 => h9) hv hdg kk
theorem gf_X2_19 (hx : p.tables.exec = Jvm.exec) (hb : c.code = cc) (hqs : ∀ w ∈ TB, w.before args s = true) (hown : s.vm.findClass RX2 = some m.cls) (hK : va_K D vwCl tys s) (hP : va_P D vwCl ws H) (q0 : Nat) {fs : List Value} (he : ws[q0]? = some (a, .inr (2, fs))) {v : Value} (hv : fs[1]? = some v) (hdg : decode cc pc = .ok (.getfield 19, 3)) (kk : W p l e R s m args below meth c H locs cells slots Q (F0 m (pc + 3) ls (v :: rest))) : W p l e R s m args below meth c H locs cells slots Q (F0 m pc ls (.ref a :: rest)) :=
  va_get (D := D) (ci := 2) (v := v) (C := RX2) (T := TX2) (N := 4) hx hb hqs inX2 hown hK hP q0 he rfl 1 (by decide) (hqs _ w_128) (fun _ h9 => h9) hv hdg kk
theorem gf_X2_15 (hx : p.tables.exec = Jvm.exec) (hb : c.code = cc) (hqs : ∀ w ∈ TB, w.before args s = true) (hown : s.vm.findClass RX2 = some m.cls) (hK : va_K D vwCl tys s) (hP : va_P D vwCl ws H) (q0 : Nat) {fs : List Value} (he : ws[q0]? = some (a, .inr (2, fs))) {v : Value} (hv : fs[0]? = some v) (hdg : decode cc pc = .ok (.getfield 15, 3)) (kk : W p l e R s m args below meth c H locs cells slots Q (F0 m (pc + 3) ls (v :: rest))) : W p l e R s m args below meth c H locs cells slots Q (F0 m pc ls (.ref a :: rest)) :=
  va_get (D := D) (ci := 2) (v := v) (C := RX2) (T := TX2) (N := 4) hx hb hqs inX2 hown hK hP q0 he rfl 0 (by decide) (hqs _ w_126) (fun _ h9 => h9) hv hdg kk
theorem gf_X2_9 (hx : p.tables.exec = Jvm.exec) (hb : c.code = cc) (hqs : ∀ w ∈ TB, w.before args s = true) (hown : s.vm.findClass RX2 = some m.cls) (hK : va_K D vwCl tys s) (hP : va_P D vwCl ws H) (q0 : Nat) {fs : List Value} (he : ws[q0]? = some (a, .inr (2, fs))) {v : Value} (hv : fs[3]? = some v) (hdg : decode cc pc = .ok (.getfield 9, 3)) (kk : W p l e R s m args below meth c H locs cells slots Q (F0 m (pc + 3) ls (v :: rest))) : W p l e R s m args below meth c H locs cells slots Q (F0 m pc ls (.ref a :: rest)) :=
  va_get (D := D) (ci := 2) (v := v) (C := RX2) (T := TX2) (N := 4) hx hb hqs inX2 hown hK hP q0 he rfl 3 (by decide) (hqs _ w_130) (fun _ h9 => h9) hv hdg kk
theorem gf_X3_9 (hx : p.tables.exec = Jvm.exec) (hb : c.code = cc) (hqs : ∀ w ∈ TB, w.before args s = true) (hown : s.vm.findClass RX3 = some m.cls) (hK : va_K D vwCl tys s) (hP : va_P D vwCl ws H) (q0 : Nat) {fs : List Value} (he : ws[q0]? = some (a, .inr (3, fs))) {v : Value} (hv : fs[0]? = some v) (hdg : decode cc pc = .ok (.getfield 9, 3)) (kk : W p l e R s m args below meth c H locs cells slots Q (F0 m (pc + 3) ls (v :: rest))) : W p l e R s m args below meth c H locs cells slots Q (F0 m pc ls (.ref a :: rest)) :=
  va_get (D := D) (ci := 3) (v := v) (C := RX3) (T := TX3) (N := 9) hx hb hqs inX3 hown hK hP q0 he rfl 0 (by decide) (hqs _ w_241) (fun _ h9 => h9) hv hdg kk
theorem gf_X3_18 (hx : p.tables.exec = Jvm.exec) (hb : c.code = cc) (hqs : ∀ w ∈ TB, w.before args s = true) (hown : s.vm.findClass RX3 = some m.cls) (hK : va_K D vwCl tys s) (hP : va_P D vwCl ws H) (q0 : Nat) {fs : List Value} (he : ws[q0]? = some (a, .inr (3, fs))) {v : Value} (hv : fs[2]? = some v) (hdg : decode cc pc = .ok (.getfield 18, 3)) (kk : W p l e R s m args below meth c H locs cells slots Q (F0 m (pc + 3) ls (v :: rest))) : W p l e R s m args below meth c H locs cells slots Q (F0 m pc ls (.ref a :: rest)) :=
  va_get (D := D) (ci := 3) (v := v) (C := RX3) (T := TX3) (N := 9) hx hb hqs inX3 hown hK hP q0 he rfl 2 (by decide) (hqs _ w_243) (fun _ h9 => h9) hv hdg kk
theorem gf_X3_15 (hx : p.tables.exec = Jvm.exec) (hb : c.code = cc) (hqs : ∀ w ∈ TB, w.before args s = true) (hown : s.vm.findClass RX3 = some m.cls) (hK : va_K D vwCl tys s) (hP : va_P D vwCl ws H) (q0 : Nat) {fs : List Value} (he : ws[q0]? = some (a, .inr (3, fs))) {v : Value} (hv : fs[1]? = some v) (hdg : decode cc pc = .ok (.getfield 15, 3)) (kk : W p l e R s m args below meth c H locs cells slots Q (F0 m (pc + 3) ls (v :: rest))) : W p l e R s m args below meth c H locs cells slots Q (F0 m pc ls (.ref a :: rest)) :=
  va_get (D := D) (ci := 3) (v := v) (C := RX3) (T := TX3) (N := 9) hx hb hqs inX3 hown hK hP q0 he rfl 1 (by decide) (hqs _ w_242) (fun _ h9 => h9) hv hdg kk
theorem gf_X3_34 (hx : p.tables.exec = Jvm.exec) (hb : c.code = cc) (hqs : ∀ w ∈ TB, w.before args s = true) (hown : s.vm.findClass RX3 = some m.cls) (hK : va_K D vwCl tys s) (hP : va_P D vwCl ws H) (q0 : Nat) {fs : List Value} (he : ws[q0]? = some (a, .inr (3, fs))) {v : Value} (hv : fs[7]? = some v) (hdg : decode cc pc = .ok (.getfield 34, 3)) (kk : W p l e R s m args below meth c H locs cells slots Q (F0 m (pc + 3) ls (v :: rest))) : W p l e R s m args below meth c H locs cells slots Q (F0 m pc ls (.ref a :: rest)) :=
  va_get (D := D) (ci := 3) (v := v) (C := RX3) (T := TX3) (N := 9) hx hb hqs inX3 hown hK hP q0 he rfl 7 (by decide) (hqs _ w_248) (fun _ h9 => h9) hv hdg kk
theorem gf_X3_22 (hx : p.tables.exec = Jvm.exec) (hb : c.code = cc) (hqs : ∀ w ∈ TB, w.before args s = true) (hown : s.vm.findClass RX3 = some m.cls) (hK : va_K D vwCl tys s) (hP : va_P D vwCl ws H) (q0 : Nat) {fs : List Value} (he : ws[q0]? = some (a, .inr (3, fs))) {v : Value} (hv : fs[3]? = some v) (hdg : decode cc pc = .ok (.getfield 22, 3)) (kk : W p l e R s m args below meth c H locs cells slots Q (F0 m (pc + 3) ls (v :: rest))) : W p l e R s m args below meth c H locs cells slots Q (F0 m pc ls (.ref a :: rest)) :=
  va_get (D := D) (ci := 3) (v := v) (C := RX3) (T := TX3) (N := 9) hx hb hqs inX3 hown hK hP q0 he rfl 3 (by decide) (hqs _ w_244) (fun _ h9 => h9) hv hdg kk
theorem gf_X3_25 (hx : p.tables.exec = Jvm.exec) (hb : c.code = cc) (hqs : ∀ w ∈ TB, w.before args s = true) (hown : s.vm.findClass RX3 = some m.cls) (hK : va_K D vwCl tys s) (hP : va_P D vwCl ws H) (q0 : Nat) {fs : List Value} (he : ws[q0]? = some (a, .inr (3, fs))) {v : Value} (hv : fs[4]? = some v) (hdg : decode cc pc = .ok (.getfield 25, 3)) (kk : W p l e R s m args below meth c H locs cells slots Q (F0 m (pc + 3) ls (v :: rest))) : W p l e R s m args below meth c H locs cells slots Q (F0 m pc ls (.ref a :: rest)) :=
  va_get (D := D) (ci := 3) (v := v) (C := RX3) (T := TX3) (N := 9) hx hb hqs inX3 hown hK hP q0 he rfl 4 (by decide) (hqs _ w_245) (fun _ h9 => h9) hv hdg kk
theorem gf_X3_28 (hx : p.tables.exec = Jvm.exec) (hb : c.code = cc) (hqs : ∀ w ∈ TB, w.before args s = true) (hown : s.vm.findClass RX3 = some m.cls) (hK : va_K D vwCl tys s) (hP : va_P D vwCl ws H) (q0 : Nat) {fs : List Value} (he : ws[q0]? = some (a, .inr (3, fs))) {v : Value} (hv : fs[5]? = some v) (hdg : decode cc pc = .ok (.getfield 28, 3)) (kk : W p l e R s m args below meth c H locs cells slots Q (F0 m (pc + 3) ls (v :: rest))) : W p l e R s m args below meth c H locs cells slots Q (F0 m pc ls (.ref a :: rest)) :=
  va_get (D := D) (ci := 3) (v := v) (C := RX3) (T := TX3) (N := 9) hx hb hqs inX3 hown hK hP q0 he rfl 5 (by decide) (hqs _ w_246) (fun _ h9 => h9) hv hdg kk
theorem gf_X3_31 (hx : p.tables.exec = Jvm.exec) (hb : c.code = cc) (hqs : ∀ w ∈ TB, w.before args s = true) (hown : s.vm.findClass RX3 = some m.cls) (hK : va_K D vwCl tys s) (hP : va_P D vwCl ws H) (q0 : Nat) {fs : List Value} (he : ws[q0]? = some (a, .inr (3, fs))) {v : Value} (hv : fs[6]? = some v) (hdg : decode cc pc = .ok (.getfield 31, 3)) (kk : W p l e R s m args below meth c H locs cells slots Q (F0 m (pc + 3) ls (v :: rest))) : W p l e R s m args below meth c H locs cells slots Q (F0 m pc ls (.ref a :: rest)) :=
  va_get (D := D) (ci := 3) (v := v) (C := RX3) (T := TX3) (N := 9) hx hb hqs inX3 hown hK hP q0 he rfl 6 (by decide) (hqs _ w_247) (fun _ h9 => h9) hv hdg kk
theorem gf_X3_38 (hx : p.tables.exec = Jvm.exec) (hb : c.code = cc) (hqs : ∀ w ∈ TB, w.before args s = true) (hown : s.vm.findClass RX3 = some m.cls) (hK : va_K D vwCl tys s) (hP : va_P D vwCl ws H) (q0 : Nat) {fs : List Value} (he : ws[q0]? = some (a, .inr (3, fs))) {v : Value} (hv : fs[8]? = some v) (hdg : decode cc pc = .ok (.getfield 38, 3)) (kk : W p l e R s m args below meth c H locs cells slots Q (F0 m (pc + 3) ls (v :: rest))) : W p l e R s m args below meth c H locs cells slots Q (F0 m pc ls (.ref a :: rest)) :=
  va_get (D := D) (ci := 3) (v := v) (C := RX3) (T := TX3) (N := 9) hx hb hqs inX3 hown hK hP q0 he rfl 8 (by decide) (hqs _ w_249) (fun _ h9 => h9) hv hdg kk
theorem gf_X3_95 (hx : p.tables.exec = Jvm.exec) (hb : c.code = cc) (hqs : ∀ w ∈ TB, w.before args s = true) (hown : s.vm.findClass RX3 = some m.cls) (hK : va_K D vwCl tys s) (hP : va_P D vwCl ws H) (q0 : Nat) {fs : List Value} (he : ws[q0]? = some (a, .inr (2, fs))) {v : Value} (hv : fs[0]? = some v) (hdg : decode cc pc = .ok (.getfield 95, 3)) (kk : W p l e R s m args below meth c H locs cells slots Q (F0 m (pc + 3) ls (v :: rest))) : W p l e R s m args below meth c H locs cells slots Q (F0 m pc ls (.ref a :: rest)) :=
  va_get (D := D) (ci := 2) (v := v) (C := RX2) (T := TX2) (N := 4) hx hb hqs inX2 hown hK hP q0 he rfl 0 (by decide) (hqs _ w_127) (fun _ h9 => h9) hv hdg kk
theorem gf_X5_17 (hx : p.tables.exec = Jvm.exec) (hb : c.code = cc) (hqs : ∀ w ∈ TB, w.before args s = true) (hown : s.vm.findClass RX5 = some m.cls) (hK : va_K D vwCl tys s) (hP : va_P D vwCl ws H) (q0 : Nat) {fs : List Value} (he : ws[q0]? = some (a, .inr (4, fs))) {v : Value} (hv : fs[1]? = some v) (hdg : decode cc pc = .ok (.getfield 17, 3)) (kk : W p l e R s m args below meth c H locs cells slots Q (F0 m (pc + 3) ls (v :: rest))) : W p l e R s m args below meth c H locs cells slots Q (F0 m pc ls (.ref a :: rest)) :=
  va_get (D := D) (ci := 4) (v := v) (C := RX5) (T := TX5) (N := 2) hx hb hqs inX5 hown hK hP q0 he rfl 1 (by decide) (hqs _ w_228) (fun _ h9 => h9) hv hdg kk
theorem gf_X5_11 (hx : p.tables.exec = Jvm.exec) (hb : c.code = cc) (hqs : ∀ w ∈ TB, w.before args s = true) (hown : s.vm.findClass RX5 = some m.cls) (hK : va_K D vwCl tys s) (hP : va_P D vwCl ws H) (q0 : Nat) {fs : List Value} (he : ws[q0]? = some (a, .inr (4, fs))) {v : Value} (hv : fs[0]? = some v) (hdg : decode cc pc = .ok (.getfield 11, 3)) (kk : W p l e R s m args below meth c H locs cells slots Q (F0 m (pc + 3) ls (v :: rest))) : W p l e R s m args below meth c H locs cells slots Q (F0 m pc ls (.ref a :: rest)) :=
  va_get (D := D) (ci := 4) (v := v) (C := RX5) (T := TX5) (N := 2) hx hb hqs inX5 hown hK hP q0 he rfl 0 (by decide) (hqs _ w_227) (fun _ h9 => h9) hv hdg kk
theorem gf_X6_15 (hx : p.tables.exec = Jvm.exec) (hb : c.code = cc) (hqs : ∀ w ∈ TB, w.before args s = true) (hown : s.vm.findClass RX6 = some m.cls) (hK : va_K D vwCl tys s) (hP : va_P D vwCl ws H) (q0 : Nat) {fs : List Value} (he : ws[q0]? = some (a, .inr (5, fs))) {v : Value} (hv : fs[0]? = some v) (hdg : decode cc pc = .ok (.getfield 15, 3)) (kk : W p l e R s m args below meth c H locs cells slots Q (F0 m (pc + 3) ls (v :: rest))) : W p l e R s m args below meth c H locs cells slots Q (F0 m pc ls (.ref a :: rest)) :=
  va_get (D := D) (ci := 5) (v := v) (C := RX6) (T := TX6) (N := 2) hx hb hqs inX6 hown hK hP q0 he rfl 0 (by decide) (hqs _ w_82) (fun _ h9 => h9) hv hdg kk
theorem gf_X6_9 (hx : p.tables.exec = Jvm.exec) (hb : c.code = cc) (hqs : ∀ w ∈ TB, w.before args s = true) (hown : s.vm.findClass RX6 = some m.cls) (hK : va_K D vwCl tys s) (hP : va_P D vwCl ws H) (q0 : Nat) {fs : List Value} (he : ws[q0]? = some (a, .inr (5, fs))) {v : Value} (hv : fs[1]? = some v) (hdg : decode cc pc = .ok (.getfield 9, 3)) (kk : W p l e R s m args below meth c H locs cells slots Q (F0 m (pc + 3) ls (v :: rest))) : W p l e R s m args below meth c H locs cells slots Q (F0 m pc ls (.ref a :: rest)) :=
  va_get (D := D) (ci := 5) (v := v) (C := RX6) (T := TX6) (N := 2) hx hb hqs inX6 hown hK hP q0 he rfl 1 (by decide) (hqs _ w_84) (fun _ h9 => h9) hv hdg kk
theorem gf_X8_10 (hx : p.tables.exec = Jvm.exec) (hb : c.code = cc) (hqs : ∀ w ∈ TB, w.before args s = true) (hown : s.vm.findClass RX8 = some m.cls) (hK : va_K D vwCl tys s) (hP : va_P D vwCl ws H) (q0 : Nat) {fs : List Value} (he : ws[q0]? = some (a, .inr (7, fs))) {v : Value} (hv : fs[0]? = some v) (hdg : decode cc pc = .ok (.getfield 10, 3)) (kk : W p l e R s m args below meth c H locs cells slots Q (F0 m (pc + 3) ls (v :: rest))) : W p l e R s m args below meth c H locs cells slots Q (F0 m pc ls (.ref a :: rest)) :=
  va_get (D := D) (ci := 7) (v := v) (C := RX8) (T := TX8) (N := 9) hx hb hqs inX8 hown hK hP q0 he rfl 0 (by decide) (hqs _ w_269) (fun _ h9 => h9) hv hdg kk
theorem gf_X8_19 (hx : p.tables.exec = Jvm.exec) (hb : c.code = cc) (hqs : ∀ w ∈ TB, w.before args s = true) (hown : s.vm.findClass RX8 = some m.cls) (hK : va_K D vwCl tys s) (hP : va_P D vwCl ws H) (q0 : Nat) {fs : List Value} (he : ws[q0]? = some (a, .inr (7, fs))) {v : Value} (hv : fs[1]? = some v) (hdg : decode cc pc = .ok (.getfield 19, 3)) (kk : W p l e R s m args below meth c H locs cells slots Q (F0 m (pc + 3) ls (v :: rest))) : W p l e R s m args below meth c H locs cells slots Q (F0 m pc ls (.ref a :: rest)) :=
  va_get (D := D) (ci := 7) (v := v) (C := RX8) (T := TX8) (N := 9) hx hb hqs inX8 hown hK hP q0 he rfl 1 (by decide) (hqs _ w_270) (fun _ h9 => h9) hv hdg kk
theorem gf_X8_26 (hx : p.tables.exec = Jvm.exec) (hb : c.code = cc) (hqs : ∀ w ∈ TB, w.before args s = true) (hown : s.vm.findClass RX8 = some m.cls) (hK : va_K D vwCl tys s) (hP : va_P D vwCl ws H) (q0 : Nat) {fs : List Value} (he : ws[q0]? = some (a, .inr (7, fs))) {v : Value} (hv : fs[2]? = some v) (hdg : decode cc pc = .ok (.getfield 26, 3)) (kk : W p l e R s m args below meth c H locs cells slots Q (F0 m (pc + 3) ls (v :: rest))) : W p l e R s m args below meth c H locs cells slots Q (F0 m pc ls (.ref a :: rest)) :=
  va_get (D := D) (ci := 7) (v := v) (C := RX8) (T := TX8) (N := 9) hx hb hqs inX8 hown hK hP q0 he rfl 2 (by decide) (hqs _ w_271) (fun _ h9 => h9) hv hdg kk
theorem gf_X8_33 (hx : p.tables.exec = Jvm.exec) (hb : c.code = cc) (hqs : ∀ w ∈ TB, w.before args s = true) (hown : s.vm.findClass RX8 = some m.cls) (hK : va_K D vwCl tys s) (hP : va_P D vwCl ws H) (q0 : Nat) {fs : List Value} (he : ws[q0]? = some (a, .inr (7, fs))) {v : Value} (hv : fs[3]? = some v) (hdg : decode cc pc = .ok (.getfield 33, 3)) (kk : W p l e R s m args below meth c H locs cells slots Q (F0 m (pc + 3) ls (v :: rest))) : W p l e R s m args below meth c H locs cells slots Q (F0 m pc ls (.ref a :: rest)) :=
  va_get (D := D) (ci := 7) (v := v) (C := RX8) (T := TX8) (N := 9) hx hb hqs inX8 hown hK hP q0 he rfl 3 (by decide) (hqs _ w_272) (fun _ h9 => h9) hv hdg kk
theorem gf_X8_43 (hx : p.tables.exec = Jvm.exec) (hb : c.code = cc) (hqs : ∀ w ∈ TB, w.before args s = true) (hown : s.vm.findClass RX8 = some m.cls) (hK : va_K D vwCl tys s) (hP : va_P D vwCl ws H) (q0 : Nat) {fs : List Value} (he : ws[q0]? = some (a, .inr (7, fs))) {v : Value} (hv : fs[5]? = some v) (hdg : decode cc pc = .ok (.getfield 43, 3)) (kk : W p l e R s m args below meth c H locs cells slots Q (F0 m (pc + 3) ls (v :: rest))) : W p l e R s m args below meth c H locs cells slots Q (F0 m pc ls (.ref a :: rest)) :=
  va_get (D := D) (ci := 7) (v := v) (C := RX8) (T := TX8) (N := 9) hx hb hqs inX8 hown hK hP q0 he rfl 5 (by decide) (hqs _ w_274) (fun _ h9 => h9) hv hdg kk
theorem gf_X8_50 (hx : p.tables.exec = Jvm.exec) (hb : c.code = cc) (hqs : ∀ w ∈ TB, w.before args s = true) (hown : s.vm.findClass RX8 = some m.cls) (hK : va_K D vwCl tys s) (hP : va_P D vwCl ws H) (q0 : Nat) {fs : List Value} (he : ws[q0]? = some (a, .inr (7, fs))) {v : Value} (hv : fs[6]? = some v) (hdg : decode cc pc = .ok (.getfield 50, 3)) (kk : W p l e R s m args below meth c H locs cells slots Q (F0 m (pc + 3) ls (v :: rest))) : W p l e R s m args below meth c H locs cells slots Q (F0 m pc ls (.ref a :: rest)) :=
  va_get (D := D) (ci := 7) (v := v) (C := RX8) (T := TX8) (N := 9) hx hb hqs inX8 hown hK hP q0 he rfl 6 (by decide) (hqs _ w_275) (fun _ h9 => h9) hv hdg kk
theorem gf_X8_305 (hx : p.tables.exec = Jvm.exec) (hb : c.code = cc) (hqs : ∀ w ∈ TB, w.before args s = true) (hown : s.vm.findClass RX8 = some m.cls) (hK : va_K D vwCl tys s) (hP : va_P D vwCl ws H) (q0 : Nat) {fs : List Value} (he : ws[q0]? = some (a, .inr (5, fs))) {v : Value} (hv : fs[0]? = some v) (hdg : decode cc pc = .ok (.getfield 305, 3)) (kk : W p l e R s m args below meth c H locs cells slots Q (F0 m (pc + 3) ls (v :: rest))) : W p l e R s m args below meth c H locs cells slots Q (F0 m pc ls (.ref a :: rest)) :=
  va_get (D := D) (ci := 5) (v := v) (C := RX6) (T := TX6) (N := 2) hx hb hqs inX6 hown hK hP q0 he rfl 0 (by decide) (hqs _ w_83) (fun _ h9 => h9) hv hdg kk
theorem gf_X8_323 (hx : p.tables.exec = Jvm.exec) (hb : c.code = cc) (hqs : ∀ w ∈ TB, w.before args s = true) (hown : s.vm.findClass RX8 = some m.cls) (hK : va_K D vwCl tys s) (hP : va_P D vwCl ws H) (q0 : Nat) {fs : List Value} (he : ws[q0]? = some (a, .inr (0, fs))) {v : Value} (hv : fs[1]? = some v) (hdg : decode cc pc = .ok (.getfield 323, 3)) (kk : W p l e R s m args below meth c H locs cells slots Q (F0 m (pc + 3) ls (v :: rest))) : W p l e R s m args below meth c H locs cells slots Q (F0 m pc ls (.ref a :: rest)) :=
  va_get (D := D) (ci := 0) (v := v) (C := RX0) (T := TX0) (N := 5) hx hb hqs inX0 hown hK hP q0 he rfl 1 (by decide) (hqs _ w_102) (fun _ h9 => h9) hv hdg kk
theorem gf_X8_326 (hx : p.tables.exec = Jvm.exec) (hb : c.code = cc) (hqs : ∀ w ∈ TB, w.before args s = true) (hown : s.vm.findClass RX8 = some m.cls) (hK : va_K D vwCl tys s) (hP : va_P D vwCl ws H) (q0 : Nat) {fs : List Value} (he : ws[q0]? = some (a, .inr (0, fs))) {v : Value} (hv : fs[2]? = some v) (hdg : decode cc pc = .ok (.getfield 326, 3)) (kk : W p l e R s m args below meth c H locs cells slots Q (F0 m (pc + 3) ls (v :: rest))) : W p l e R s m args below meth c H locs cells slots Q (F0 m pc ls (.ref a :: rest)) :=
  va_get (D := D) (ci := 0) (v := v) (C := RX0) (T := TX0) (N := 5) hx hb hqs inX0 hown hK hP q0 he rfl 2 (by decide) (hqs _ w_104) (fun _ h9 => h9) hv hdg kk
theorem gf_X8_332 (hx : p.tables.exec = Jvm.exec) (hb : c.code = cc) (hqs : ∀ w ∈ TB, w.before args s = true) (hown : s.vm.findClass RX8 = some m.cls) (hK : va_K D vwCl tys s) (hP : va_P D vwCl ws H) (q0 : Nat) {fs : List Value} (he : ws[q0]? = some (a, .inr (0, fs))) {v : Value} (hv : fs[3]? = some v) (hdg : decode cc pc = .ok (.getfield 332, 3)) (kk : W p l e R s m args below meth c H locs cells slots Q (F0 m (pc + 3) ls (v :: rest))) : W p l e R s m args below meth c H locs cells slots Q (F0 m pc ls (.ref a :: rest)) :=
  va_get (D := D) (ci := 0) (v := v) (C := RX0) (T := TX0) (N := 5) hx hb hqs inX0 hown hK hP q0 he rfl 3 (by decide) (hqs _ w_106) (fun _ h9 => h9) hv hdg kk
theorem gf_X8_320 (hx : p.tables.exec = Jvm.exec) (hb : c.code = cc) (hqs : ∀ w ∈ TB, w.before args s = true) (hown : s.vm.findClass RX8 = some m.cls) (hK : va_K D vwCl tys s) (hP : va_P D vwCl ws H) (q0 : Nat) {fs : List Value} (he : ws[q0]? = some (a, .inr (0, fs))) {v : Value} (hv : fs[4]? = some v) (hdg : decode cc pc = .ok (.getfield 320, 3)) (kk : W p l e R s m args below meth c H locs cells slots Q (F0 m (pc + 3) ls (v :: rest))) : W p l e R s m args below meth c H locs cells slots Q (F0 m pc ls (.ref a :: rest)) :=
  va_get (D := D) (ci := 0) (v := v) (C := RX0) (T := TX0) (N := 5) hx hb hqs inX0 hown hK hP q0 he rfl 4 (by decide) (hqs _ w_108) (fun _ h9 => h9) hv hdg kk
theorem gf_X8_57 (hx : p.tables.exec = Jvm.exec) (hb : c.code = cc) (hqs : ∀ w ∈ TB, w.before args s = true) (hown : s.vm.findClass RX8 = some m.cls) (hK : va_K D vwCl tys s) (hP : va_P D vwCl ws H) (q0 : Nat) {fs : List Value} (he : ws[q0]? = some (a, .inr (7, fs))) {v : Value} (hv : fs[7]? = some v) (hdg : decode cc pc = .ok (.getfield 57, 3)) (kk : W p l e R s m args below meth c H locs cells slots Q (F0 m (pc + 3) ls (v :: rest))) : W p l e R s m args below meth c H locs cells slots Q (F0 m pc ls (.ref a :: rest)) :=
  va_get (D := D) (ci := 7) (v := v) (C := RX8) (T := TX8) (N := 9) hx hb hqs inX8 hown hK hP q0 he rfl 7 (by decide) (hqs _ w_276) (fun _ h9 => h9) hv hdg kk
theorem gf_X8_61 (hx : p.tables.exec = Jvm.exec) (hb : c.code = cc) (hqs : ∀ w ∈ TB, w.before args s = true) (hown : s.vm.findClass RX8 = some m.cls) (hK : va_K D vwCl tys s) (hP : va_P D vwCl ws H) (q0 : Nat) {fs : List Value} (he : ws[q0]? = some (a, .inr (7, fs))) {v : Value} (hv : fs[8]? = some v) (hdg : decode cc pc = .ok (.getfield 61, 3)) (kk : W p l e R s m args below meth c H locs cells slots Q (F0 m (pc + 3) ls (v :: rest))) : W p l e R s m args below meth c H locs cells slots Q (F0 m pc ls (.ref a :: rest)) :=
  va_get (D := D) (ci := 7) (v := v) (C := RX8) (T := TX8) (N := 9) hx hb hqs inX8 hown hK hP q0 he rfl 8 (by decide) (hqs _ w_277) (fun _ h9 => h9) hv hdg kk
theorem gf_X8_37 (hx : p.tables.exec = Jvm.exec) (hb : c.code = cc) (hqs : ∀ w ∈ TB, w.before args s = true) (hown : s.vm.findClass RX8 = some m.cls) (hK : va_K D vwCl tys s) (hP : va_P D vwCl ws H) (q0 : Nat) {fs : List Value} (he : ws[q0]? = some (a, .inr (7, fs))) {v : Value} (hv : fs[4]? = some v) (hdg : decode cc pc = .ok (.getfield 37, 3)) (kk : W p l e R s m args below meth c H locs cells slots Q (F0 m (pc + 3) ls (v :: rest))) : W p l e R s m args below meth c H locs cells slots Q (F0 m pc ls (.ref a :: rest)) :=
  va_get (D := D) (ci := 7) (v := v) (C := RX8) (T := TX8) (N := 9) hx hb hqs inX8 hown hK hP q0 he rfl 4 (by decide) (hqs _ w_273) (fun _ h9 => h9) hv hdg kk
theorem gf_X8_278 (hx : p.tables.exec = Jvm.exec) (hb : c.code = cc) (hqs : ∀ w ∈ TB, w.before args s = true) (hown : s.vm.findClass RX8 = some m.cls) (hK : va_K D vwCl tys s) (hP : va_P D vwCl ws H) (q0 : Nat) {fs : List Value} (he : ws[q0]? = some (a, .inr (6, fs))) {v : Value} (hv : fs[3]? = some v) (hdg : decode cc pc = .ok (.getfield 278, 3)) (kk : W p l e R s m args below meth c H locs cells slots Q (F0 m (pc + 3) ls (v :: rest))) : W p l e R s m args below meth c H locs cells slots Q (F0 m pc ls (.ref a :: rest)) :=
  va_get (D := D) (ci := 6) (v := v) (C := RX7) (T := TX7) (N := 13) hx hb hqs inX7 hown hK hP q0 he rfl 3 (by decide) (hqs _ w_162) (fun _ h9 => h9) hv hdg kk
theorem gf_X8_359 (hx : p.tables.exec = Jvm.exec) (hb : c.code = cc) (hqs : ∀ w ∈ TB, w.before args s = true) (hown : s.vm.findClass RX8 = some m.cls) (hK : va_K D vwCl tys s) (hP : va_P D vwCl ws H) (q0 : Nat) {fs : List Value} (he : ws[q0]? = some (a, .inr (6, fs))) {v : Value} (hv : fs[0]? = some v) (hdg : decode cc pc = .ok (.getfield 359, 3)) (kk : W p l e R s m args below meth c H locs cells slots Q (F0 m (pc + 3) ls (v :: rest))) : W p l e R s m args below meth c H locs cells slots Q (F0 m pc ls (.ref a :: rest)) :=
  va_get (D := D) (ci := 6) (v := v) (C := RX7) (T := TX7) (N := 13) hx hb hqs inX7 hown hK hP q0 he rfl 0 (by decide) (hqs _ w_157) (fun _ h9 => h9) hv hdg kk
theorem gf_X8_291 (hx : p.tables.exec = Jvm.exec) (hb : c.code = cc) (hqs : ∀ w ∈ TB, w.before args s = true) (hown : s.vm.findClass RX8 = some m.cls) (hK : va_K D vwCl tys s) (hP : va_P D vwCl ws H) (q0 : Nat) {fs : List Value} (he : ws[q0]? = some (a, .inr (6, fs))) {v : Value} (hv : fs[1]? = some v) (hdg : decode cc pc = .ok (.getfield 291, 3)) (kk : W p l e R s m args below meth c H locs cells slots Q (F0 m (pc + 3) ls (v :: rest))) : W p l e R s m args below meth c H locs cells slots Q (F0 m pc ls (.ref a :: rest)) :=
  va_get (D := D) (ci := 6) (v := v) (C := RX7) (T := TX7) (N := 13) hx hb hqs inX7 hown hK hP q0 he rfl 1 (by decide) (hqs _ w_159) (fun _ h9 => h9) hv hdg kk
theorem gf_X9_55 (hx : p.tables.exec = Jvm.exec) (hb : c.code = cc) (hqs : ∀ w ∈ TB, w.before args s = true) (hown : s.vm.findClass RX9 = some m.cls) (hK : va_K D vwCl tys s) (hP : va_P D vwCl ws H) (q0 : Nat) {fs : List Value} (he : ws[q0]? = some (a, .inr (8, fs))) {v : Value} (hv : fs[0]? = some v) (hdg : decode cc pc = .ok (.getfield 55, 3)) (kk : W p l e R s m args below meth c H locs cells slots Q (F0 m (pc + 3) ls (v :: rest))) : W p l e R s m args below meth c H locs cells slots Q (F0 m pc ls (.ref a :: rest)) :=
  va_get (D := D) (ci := 8) (v := v) (C := RX9) (T := TX9) (N := 17) hx hb hqs inX9 hown hK hP q0 he rfl 0 (by decide) (hqs _ w_1068) (fun _ h9 => h9) hv hdg kk
theorem gf_X9_30 (hx : p.tables.exec = Jvm.exec) (hb : c.code = cc) (hqs : ∀ w ∈ TB, w.before args s = true) (hown : s.vm.findClass RX9 = some m.cls) (hK : va_K D vwCl tys s) (hP : va_P D vwCl ws H) (q0 : Nat) {fs : List Value} (he : ws[q0]? = some (a, .inr (8, fs))) {v : Value} (hv : fs[9]? = some v) (hdg : decode cc pc = .ok (.getfield 30, 3)) (kk : W p l e R s m args below meth c H locs cells slots Q (F0 m (pc + 3) ls (v :: rest))) : W p l e R s m args below meth c H locs cells slots Q (F0 m pc ls (.ref a :: rest)) :=
  va_get (D := D) (ci := 8) (v := v) (C := RX9) (T := TX9) (N := 17) hx hb hqs inX9 hown hK hP q0 he rfl 9 (by decide) (hqs _ w_1077) (fun _ h9 => h9) hv hdg kk
theorem gf_X9_36 (hx : p.tables.exec = Jvm.exec) (hb : c.code = cc) (hqs : ∀ w ∈ TB, w.before args s = true) (hown : s.vm.findClass RX9 = some m.cls) (hK : va_K D vwCl tys s) (hP : va_P D vwCl ws H) (q0 : Nat) {fs : List Value} (he : ws[q0]? = some (a, .inr (8, fs))) {v : Value} (hv : fs[11]? = some v) (hdg : decode cc pc = .ok (.getfield 36, 3)) (kk : W p l e R s m args below meth c H locs cells slots Q (F0 m (pc + 3) ls (v :: rest))) : W p l e R s m args below meth c H locs cells slots Q (F0 m pc ls (.ref a :: rest)) :=
  va_get (D := D) (ci := 8) (v := v) (C := RX9) (T := TX9) (N := 17) hx hb hqs inX9 hown hK hP q0 he rfl 11 (by decide) (hqs _ w_1079) (fun _ h9 => h9) hv hdg kk
theorem gf_X9_39 (hx : p.tables.exec = Jvm.exec) (hb : c.code = cc) (hqs : ∀ w ∈ TB, w.before args s = true) (hown : s.vm.findClass RX9 = some m.cls) (hK : va_K D vwCl tys s) (hP : va_P D vwCl ws H) (q0 : Nat) {fs : List Value} (he : ws[q0]? = some (a, .inr (8, fs))) {v : Value} (hv : fs[12]? = some v) (hdg : decode cc pc = .ok (.getfield 39, 3)) (kk : W p l e R s m args below meth c H locs cells slots Q (F0 m (pc + 3) ls (v :: rest))) : W p l e R s m args below meth c H locs cells slots Q (F0 m pc ls (.ref a :: rest)) :=
  va_get (D := D) (ci := 8) (v := v) (C := RX9) (T := TX9) (N := 17) hx hb hqs inX9 hown hK hP q0 he rfl 12 (by decide) (hqs _ w_1080) (fun _ h9 => h9) hv hdg kk
theorem gf_X9_98 (hx : p.tables.exec = Jvm.exec) (hb : c.code = cc) (hqs : ∀ w ∈ TB, w.before args s = true) (hown : s.vm.findClass RX9 = some m.cls) (hK : va_K D vwCl tys s) (hP : va_P D vwCl ws H) (q0 : Nat) {fs : List Value} (he : ws[q0]? = some (a, .inr (8, fs))) {v : Value} (hv : fs[13]? = some v) (hdg : decode cc pc = .ok (.getfield 98, 3)) (kk : W p l e R s m args below meth c H locs cells slots Q (F0 m (pc + 3) ls (v :: rest))) : W p l e R s m args below meth c H locs cells slots Q (F0 m pc ls (.ref a :: rest)) :=
  va_get (D := D) (ci := 8) (v := v) (C := RX9) (T := TX9) (N := 17) hx hb hqs inX9 hown hK hP q0 he rfl 13 (by decide) (hqs _ w_1081) (fun _ h9 => h9) hv hdg kk
theorem gf_X9_33 (hx : p.tables.exec = Jvm.exec) (hb : c.code = cc) (hqs : ∀ w ∈ TB, w.before args s = true) (hown : s.vm.findClass RX9 = some m.cls) (hK : va_K D vwCl tys s) (hP : va_P D vwCl ws H) (q0 : Nat) {fs : List Value} (he : ws[q0]? = some (a, .inr (8, fs))) {v : Value} (hv : fs[10]? = some v) (hdg : decode cc pc = .ok (.getfield 33, 3)) (kk : W p l e R s m args below meth c H locs cells slots Q (F0 m (pc + 3) ls (v :: rest))) : W p l e R s m args below meth c H locs cells slots Q (F0 m pc ls (.ref a :: rest)) :=
  va_get (D := D) (ci := 8) (v := v) (C := RX9) (T := TX9) (N := 17) hx hb hqs inX9 hown hK hP q0 he rfl 10 (by decide) (hqs _ w_1078) (fun _ h9 => h9) hv hdg kk
theorem gf_X9_115 (hx : p.tables.exec = Jvm.exec) (hb : c.code = cc) (hqs : ∀ w ∈ TB, w.before args s = true) (hown : s.vm.findClass RX9 = some m.cls) (hK : va_K D vwCl tys s) (hP : va_P D vwCl ws H) (q0 : Nat) {fs : List Value} (he : ws[q0]? = some (a, .inr (8, fs))) {v : Value} (hv : fs[2]? = some v) (hdg : decode cc pc = .ok (.getfield 115, 3)) (kk : W p l e R s m args below meth c H locs cells slots Q (F0 m (pc + 3) ls (v :: rest))) : W p l e R s m args below meth c H locs cells slots Q (F0 m pc ls (.ref a :: rest)) :=
  va_get (D := D) (ci := 8) (v := v) (C := RX9) (T := TX9) (N := 17) hx hb hqs inX9 hown hK hP q0 he rfl 2 (by decide) (hqs _ w_1070) (fun _ h9 => h9) hv hdg kk
theorem gf_X9_7 (hx : p.tables.exec = Jvm.exec) (hb : c.code = cc) (hqs : ∀ w ∈ TB, w.before args s = true) (hown : s.vm.findClass RX9 = some m.cls) (hK : va_K D vwCl tys s) (hP : va_P D vwCl ws H) (q0 : Nat) {fs : List Value} (he : ws[q0]? = some (a, .inr (8, fs))) {v : Value} (hv : fs[1]? = some v) (hdg : decode cc pc = .ok (.getfield 7, 3)) (kk : W p l e R s m args below meth c H locs cells slots Q (F0 m (pc + 3) ls (v :: rest))) : W p l e R s m args below meth c H locs cells slots Q (F0 m pc ls (.ref a :: rest)) :=
  va_get (D := D) (ci := 8) (v := v) (C := RX9) (T := TX9) (N := 17) hx hb hqs inX9 hown hK hP q0 he rfl 1 (by decide) (hqs _ w_1069) (fun _ h9 => h9) hv hdg kk
theorem gf_X9_122 (hx : p.tables.exec = Jvm.exec) (hb : c.code = cc) (hqs : ∀ w ∈ TB, w.before args s = true) (hown : s.vm.findClass RX9 = some m.cls) (hK : va_K D vwCl tys s) (hP : va_P D vwCl ws H) (q0 : Nat) {fs : List Value} (he : ws[q0]? = some (a, .inr (8, fs))) {v : Value} (hv : fs[14]? = some v) (hdg : decode cc pc = .ok (.getfield 122, 3)) (kk : W p l e R s m args below meth c H locs cells slots Q (F0 m (pc + 3) ls (v :: rest))) : W p l e R s m args below meth c H locs cells slots Q (F0 m pc ls (.ref a :: rest)) :=
  va_get (D := D) (ci := 8) (v := v) (C := RX9) (T := TX9) (N := 17) hx hb hqs inX9 hown hK hP q0 he rfl 14 (by decide) (hqs _ w_1082) (fun _ h9 => h9) hv hdg kk
theorem gf_X9_151 (hx : p.tables.exec = Jvm.exec) (hb : c.code = cc) (hqs : ∀ w ∈ TB, w.before args s = true) (hown : s.vm.findClass RX9 = some m.cls) (hK : va_K D vwCl tys s) (hP : va_P D vwCl ws H) (q0 : Nat) {fs : List Value} (he : ws[q0]? = some (a, .inr (8, fs))) {v : Value} (hv : fs[15]? = some v) (hdg : decode cc pc = .ok (.getfield 151, 3)) (kk : W p l e R s m args below meth c H locs cells slots Q (F0 m (pc + 3) ls (v :: rest))) : W p l e R s m args below meth c H locs cells slots Q (F0 m pc ls (.ref a :: rest)) :=
  va_get (D := D) (ci := 8) (v := v) (C := RX9) (T := TX9) (N := 17) hx hb hqs inX9 hown hK hP q0 he rfl 15 (by decide) (hqs _ w_1083) (fun _ h9 => h9) hv hdg kk
theorem gf_X9_17 (hx : p.tables.exec = Jvm.exec) (hb : c.code = cc) (hqs : ∀ w ∈ TB, w.before args s = true) (hown : s.vm.findClass RX9 = some m.cls) (hK : va_K D vwCl tys s) (hP : va_P D vwCl ws H) (q0 : Nat) {fs : List Value} (he : ws[q0]? = some (a, .inr (8, fs))) {v : Value} (hv : fs[4]? = some v) (hdg : decode cc pc = .ok (.getfield 17, 3)) (kk : W p l e R s m args below meth c H locs cells slots Q (F0 m (pc + 3) ls (v :: rest))) : W p l e R s m args below meth c H locs cells slots Q (F0 m pc ls (.ref a :: rest)) :=
  va_get (D := D) (ci := 8) (v := v) (C := RX9) (T := TX9) (N := 17) hx hb hqs inX9 hown hK hP q0 he rfl 4 (by decide) (hqs _ w_1072) (fun _ h9 => h9) hv hdg kk
theorem gf_X9_13 (hx : p.tables.exec = Jvm.exec) (hb : c.code = cc) (hqs : ∀ w ∈ TB, w.before args s = true) (hown : s.vm.findClass RX9 = some m.cls) (hK : va_K D vwCl tys s) (hP : va_P D vwCl ws H) (q0 : Nat) {fs : List Value} (he : ws[q0]? = some (a, .inr (8, fs))) {v : Value} (hv : fs[3]? = some v) (hdg : decode cc pc = .ok (.getfield 13, 3)) (kk : W p l e R s m args below meth c H locs cells slots Q (F0 m (pc + 3) ls (v :: rest))) : W p l e R s m args below meth c H locs cells slots Q (F0 m pc ls (.ref a :: rest)) :=
  va_get (D := D) (ci := 8) (v := v) (C := RX9) (T := TX9) (N := 17) hx hb hqs inX9 hown hK hP q0 he rfl 3 (by decide) (hqs _ w_1071) (fun _ h9 => h9) hv hdg kk
theorem gf_X9_26 (hx : p.tables.exec = Jvm.exec) (hb : c.code = cc) (hqs : ∀ w ∈ TB, w.before args s = true) (hown : s.vm.findClass RX9 = some m.cls) (hK : va_K D vwCl tys s) (hP : va_P D vwCl ws H) (q0 : Nat) {fs : List Value} (he : ws[q0]? = some (a, .inr (8, fs))) {v : Value} (hv : fs[8]? = some v) (hdg : decode cc pc = .ok (.getfield 26, 3)) (kk : W p l e R s m args below meth c H locs cells slots Q (F0 m (pc + 3) ls (v :: rest))) : W p l e R s m args below meth c H locs cells slots Q (F0 m pc ls (.ref a :: rest)) :=
  va_get (D := D) (ci := 8) (v := v) (C := RX9) (T := TX9) (N := 17) hx hb hqs inX9 hown hK hP q0 he rfl 8 (by decide) (hqs _ w_1076) (fun _ h9 => h9) hv hdg kk
theorem gf_X9_177 (hx : p.tables.exec = Jvm.exec) (hb : c.code = cc) (hqs : ∀ w ∈ TB, w.before args s = true) (hown : s.vm.findClass RX9 = some m.cls) (hK : va_K D vwCl tys s) (hP : va_P D vwCl ws H) (q0 : Nat) {fs : List Value} (he : ws[q0]? = some (a, .inr (8, fs))) {v : Value} (hv : fs[6]? = some v) (hdg : decode cc pc = .ok (.getfield 177, 3)) (kk : W p l e R s m args below meth c H locs cells slots Q (F0 m (pc + 3) ls (v :: rest))) : W p l e R s m args below meth c H locs cells slots Q (F0 m pc ls (.ref a :: rest)) :=
  va_get (D := D) (ci := 8) (v := v) (C := RX9) (T := TX9) (N := 17) hx hb hqs inX9 hown hK hP q0 he rfl 6 (by decide) (hqs _ w_1074) (fun _ h9 => h9) hv hdg kk
theorem gf_X9_20 (hx : p.tables.exec = Jvm.exec) (hb : c.code = cc) (hqs : ∀ w ∈ TB, w.before args s = true) (hown : s.vm.findClass RX9 = some m.cls) (hK : va_K D vwCl tys s) (hP : va_P D vwCl ws H) (q0 : Nat) {fs : List Value} (he : ws[q0]? = some (a, .inr (8, fs))) {v : Value} (hv : fs[5]? = some v) (hdg : decode cc pc = .ok (.getfield 20, 3)) (kk : W p l e R s m args below meth c H locs cells slots Q (F0 m (pc + 3) ls (v :: rest))) : W p l e R s m args below meth c H locs cells slots Q (F0 m pc ls (.ref a :: rest)) :=
  va_get (D := D) (ci := 8) (v := v) (C := RX9) (T := TX9) (N := 17) hx hb hqs inX9 hown hK hP q0 he rfl 5 (by decide) (hqs _ w_1073) (fun _ h9 => h9) hv hdg kk
theorem gf_X9_42 (hx : p.tables.exec = Jvm.exec) (hb : c.code = cc) (hqs : ∀ w ∈ TB, w.before args s = true) (hown : s.vm.findClass RX9 = some m.cls) (hK : va_K D vwCl tys s) (hP : va_P D vwCl ws H) (q0 : Nat) {fs : List Value} (he : ws[q0]? = some (a, .inr (8, fs))) {v : Value} (hv : fs[16]? = some v) (hdg : decode cc pc = .ok (.getfield 42, 3)) (kk : W p l e R s m args below meth c H locs cells slots Q (F0 m (pc + 3) ls (v :: rest))) : W p l e R s m args below meth c H locs cells slots Q (F0 m pc ls (.ref a :: rest)) :=
  va_get (D := D) (ci := 8) (v := v) (C := RX9) (T := TX9) (N := 17) hx hb hqs inX9 hown hK hP q0 he rfl 16 (by decide) (hqs _ w_1084) (fun _ h9 => h9) hv hdg kk
theorem gf_X9_23 (hx : p.tables.exec = Jvm.exec) (hb : c.code = cc) (hqs : ∀ w ∈ TB, w.before args s = true) (hown : s.vm.findClass RX9 = some m.cls) (hK : va_K D vwCl tys s) (hP : va_P D vwCl ws H) (q0 : Nat) {fs : List Value} (he : ws[q0]? = some (a, .inr (8, fs))) {v : Value} (hv : fs[7]? = some v) (hdg : decode cc pc = .ok (.getfield 23, 3)) (kk : W p l e R s m args below meth c H locs cells slots Q (F0 m (pc + 3) ls (v :: rest))) : W p l e R s m args below meth c H locs cells slots Q (F0 m pc ls (.ref a :: rest)) :=
  va_get (D := D) (ci := 8) (v := v) (C := RX9) (T := TX9) (N := 17) hx hb hqs inX9 hown hK hP q0 he rfl 7 (by decide) (hqs _ w_1075) (fun _ h9 => h9) hv hdg kk
theorem pf_X0_19 (hx : p.tables.exec = Jvm.exec) (hb : c.code = cc) (hqs : ∀ w ∈ TB, w.before args s = true) (hown : s.vm.findClass RX0 = some m.cls) (hK : va_K D vwCl tys s) (hP : va_P D vwCl ws H) (hD : va_D A ws) (hS : va_S A H0 H locs) (q0 : Nat) {fs : List Value} (he : ws[q0]? = some (a, .inr (0, fs))) {x : Int32} (hl : Nat.ble 1 fs.length = true) (hdg : decode cc pc = .ok (.putfield 19, 3)) (kk : ∀ (H1 : Heap) (locs1 : List Loc), va_P D vwCl (ws.set q0 (a, .inr (0, fs.set 0 (.int x)))) H1 → va_D A (ws.set q0 (a, .inr (0, fs.set 0 (.int x)))) → va_S A H0 H1 locs1 → W p l e R s m args below meth c H1 locs1 cells slots Q (F0 m (pc + 3) ls rest)) : W p l e R s m args below meth c H locs cells slots Q (F0 m pc ls (.int x :: .ref a :: rest)) :=
  va_put (D := D) (ci := 0) (v := .int x) (ty := .int) (C := RX0) (T := TX0) (N := 5) hx hb hqs inX0 tyX0 tyX0_ok nmX0 hown hK hP hD hS q0 he rfl 0 (by decide) (hqs _ w_100) (fun _ h9 => h9) rfl (by decide +kernel) rfl rfl (Nat.le_of_ble_eq_true hl) hdg kk
theorem pf_X0_15 (hx : p.tables.exec = Jvm.exec) (hb : c.code = cc) (hqs : ∀ w ∈ TB, w.before args s = true) (hown : s.vm.findClass RX0 = some m.cls) (hK : va_K D vwCl tys s) (hP : va_P D vwCl ws H) (hD : va_D A ws) (hS : va_S A H0 H locs) (q0 : Nat) {fs : List Value} (he : ws[q0]? = some (a, .inr (0, fs))) {x : Int32} (hl : Nat.ble 5 fs.length = true) (hdg : decode cc pc = .ok (.putfield 15, 3)) (kk : ∀ (H1 : Heap) (locs1 : List Loc), va_P D vwCl (ws.set q0 (a, .inr (0, fs.set 4 (.int x)))) H1 → va_D A (ws.set q0 (a, .inr (0, fs.set 4 (.int x)))) → va_S A H0 H1 locs1 → W p l e R s m args below meth c H1 locs1 cells slots Q (F0 m (pc + 3) ls rest)) : W p l e R s m args below meth c H locs cells slots Q (F0 m pc ls (.int x :: .ref a :: rest)) :=
  va_put (D := D) (ci := 0) (v := .int x) (ty := .int) (C := RX0) (T := TX0) (N := 5) hx hb hqs inX0 tyX0 tyX0_ok nmX0 hown hK hP hD hS q0 he rfl 4 (by decide) (hqs _ w_107) (fun _ h9 => h9) rfl (by decide +kernel) rfl rfl (Nat.le_of_ble_eq_true hl) hdg kk
theorem pf_X0_25 (hx : p.tables.exec = Jvm.exec) (hb : c.code = cc) (hqs : ∀ w ∈ TB, w.before args s = true) (hown : s.vm.findClass RX0 = some m.cls) (hK : va_K D vwCl tys s) (hP : va_P D vwCl ws H) (hD : va_D A ws) (hS : va_S A H0 H locs) (q0 : Nat) {fs : List Value} (he : ws[q0]? = some (a, .inr (0, fs))) {x : Int32} (hl : Nat.ble 2 fs.length = true) (hdg : decode cc pc = .ok (.putfield 25, 3)) (kk : ∀ (H1 : Heap) (locs1 : List Loc), va_P D vwCl (ws.set q0 (a, .inr (0, fs.set 1 (.int x)))) H1 → va_D A (ws.set q0 (a, .inr (0, fs.set 1 (.int x)))) → va_S A H0 H1 locs1 → W p l e R s m args below meth c H1 locs1 cells slots Q (F0 m (pc + 3) ls rest)) : W p l e R s m args below meth c H locs cells slots Q (F0 m pc ls (.int x :: .ref a :: rest)) :=
  va_put (D := D) (ci := 0) (v := .int x) (ty := .int) (C := RX0) (T := TX0) (N := 5) hx hb hqs inX0 tyX0 tyX0_ok nmX0 hown hK hP hD hS q0 he rfl 1 (by decide) (hqs _ w_101) (fun _ h9 => h9) rfl (by decide +kernel) rfl rfl (Nat.le_of_ble_eq_true hl) hdg kk
theorem pf_X0_32 (hx : p.tables.exec = Jvm.exec) (hb : c.code = cc) (hqs : ∀ w ∈ TB, w.before args s = true) (hown : s.vm.findClass RX0 = some m.cls) (hK : va_K D vwCl tys s) (hP : va_P D vwCl ws H) (hD : va_D A ws) (hS : va_S A H0 H locs) (q0 : Nat) {fs : List Value} (he : ws[q0]? = some (a, .inr (0, fs))) {x : Int32} (hl : Nat.ble 3 fs.length = true) (hdg : decode cc pc = .ok (.putfield 32, 3)) (kk : ∀ (H1 : Heap) (locs1 : List Loc), va_P D vwCl (ws.set q0 (a, .inr (0, fs.set 2 (.int x)))) H1 → va_D A (ws.set q0 (a, .inr (0, fs.set 2 (.int x)))) → va_S A H0 H1 locs1 → W p l e R s m args below meth c H1 locs1 cells slots Q (F0 m (pc + 3) ls rest)) : W p l e R s m args below meth c H locs cells slots Q (F0 m pc ls (.int x :: .ref a :: rest)) :=
  va_put (D := D) (ci := 0) (v := .int x) (ty := .int) (C := RX0) (T := TX0) (N := 5) hx hb hqs inX0 tyX0 tyX0_ok nmX0 hown hK hP hD hS q0 he rfl 2 (by decide) (hqs _ w_103) (fun _ h9 => h9) rfl (by decide +kernel) rfl rfl (Nat.le_of_ble_eq_true hl) hdg kk
theorem pf_X0_49 (hx : p.tables.exec = Jvm.exec) (hb : c.code = cc) (hqs : ∀ w ∈ TB, w.before args s = true) (hown : s.vm.findClass RX0 = some m.cls) (hK : va_K D vwCl tys s) (hP : va_P D vwCl ws H) (hD : va_D A ws) (hS : va_S A H0 H locs) (q0 : Nat) {fs : List Value} (he : ws[q0]? = some (a, .inr (0, fs))) {x : Int32} (hl : Nat.ble 4 fs.length = true) (hdg : decode cc pc = .ok (.putfield 49, 3)) (kk : ∀ (H1 : Heap) (locs1 : List Loc), va_P D vwCl (ws.set q0 (a, .inr (0, fs.set 3 (.int x)))) H1 → va_D A (ws.set q0 (a, .inr (0, fs.set 3 (.int x)))) → va_S A H0 H1 locs1 → W p l e R s m args below meth c H1 locs1 cells slots Q (F0 m (pc + 3) ls rest)) : W p l e R s m args below meth c H locs cells slots Q (F0 m pc ls (.int x :: .ref a :: rest)) :=
  va_put (D := D) (ci := 0) (v := .int x) (ty := .int) (C := RX0) (T := TX0) (N := 5) hx hb hqs inX0 tyX0 tyX0_ok nmX0 hown hK hP hD hS q0 he rfl 3 (by decide) (hqs _ w_105) (fun _ h9 => h9) rfl (by decide +kernel) rfl rfl (Nat.le_of_ble_eq_true hl) hdg kk
theorem pf_X1_18 (hx : p.tables.exec = Jvm.exec) (hb : c.code = cc) (hqs : ∀ w ∈ TB, w.before args s = true) (hown : s.vm.findClass RX1 = some m.cls) (hK : va_K D vwCl tys s) (hP : va_P D vwCl ws H) (hD : va_D A ws) (hS : va_S A H0 H locs) (q0 : Nat) {fs : List Value} (he : ws[q0]? = some (a, .inr (1, fs))) {x : Int32} (hl : Nat.ble 2 fs.length = true) (hdg : decode cc pc = .ok (.putfield 18, 3)) (kk : ∀ (H1 : Heap) (locs1 : List Loc), va_P D vwCl (ws.set q0 (a, .inr (1, fs.set 1 (.int x)))) H1 → va_D A (ws.set q0 (a, .inr (1, fs.set 1 (.int x)))) → va_S A H0 H1 locs1 → W p l e R s m args below meth c H1 locs1 cells slots Q (F0 m (pc + 3) ls rest)) : W p l e R s m args below meth c H locs cells slots Q (F0 m pc ls (.int x :: .ref a :: rest)) :=
  va_put (D := D) (ci := 1) (v := .int x) (ty := .int) (C := RX1) (T := TX1) (N := 3) hx hb hqs inX1 tyX1 tyX1_ok nmX1 hown hK hP hD hS q0 he rfl 1 (by decide) (hqs _ w_210) (fun _ h9 => h9) rfl (by decide +kernel) rfl rfl (Nat.le_of_ble_eq_true hl) hdg kk
theorem pf_X7_48 (hx : p.tables.exec = Jvm.exec) (hb : c.code = cc) (hqs : ∀ w ∈ TB, w.before args s = true) (hown : s.vm.findClass RX7 = some m.cls) (hK : va_K D vwCl tys s) (hP : va_P D vwCl ws H) (hD : va_D A ws) (hS : va_S A H0 H locs) (q0 : Nat) {fs : List Value} (he : ws[q0]? = some (a, .inr (6, fs))) {x : Int32} (hl : Nat.ble 1 fs.length = true) (hdg : decode cc pc = .ok (.putfield 48, 3)) (kk : ∀ (H1 : Heap) (locs1 : List Loc), va_P D vwCl (ws.set q0 (a, .inr (6, fs.set 0 (.int x)))) H1 → va_D A (ws.set q0 (a, .inr (6, fs.set 0 (.int x)))) → va_S A H0 H1 locs1 → W p l e R s m args below meth c H1 locs1 cells slots Q (F0 m (pc + 3) ls rest)) : W p l e R s m args below meth c H locs cells slots Q (F0 m pc ls (.int x :: .ref a :: rest)) :=
  va_put (D := D) (ci := 6) (v := .int x) (ty := .int) (C := RX7) (T := TX7) (N := 13) hx hb hqs inX7 tyX7 tyX7_ok nmX7 hown hK hP hD hS q0 he rfl 0 (by decide) (hqs _ w_156) (fun _ h9 => h9) rfl (by decide +kernel) rfl rfl (Nat.le_of_ble_eq_true hl) hdg kk
theorem pf_X7_52 (hx : p.tables.exec = Jvm.exec) (hb : c.code = cc) (hqs : ∀ w ∈ TB, w.before args s = true) (hown : s.vm.findClass RX7 = some m.cls) (hK : va_K D vwCl tys s) (hP : va_P D vwCl ws H) (hD : va_D A ws) (hS : va_S A H0 H locs) (q0 : Nat) {fs : List Value} (he : ws[q0]? = some (a, .inr (6, fs))) {x : Int32} (hl : Nat.ble 2 fs.length = true) (hdg : decode cc pc = .ok (.putfield 52, 3)) (kk : ∀ (H1 : Heap) (locs1 : List Loc), va_P D vwCl (ws.set q0 (a, .inr (6, fs.set 1 (.int x)))) H1 → va_D A (ws.set q0 (a, .inr (6, fs.set 1 (.int x)))) → va_S A H0 H1 locs1 → W p l e R s m args below meth c H1 locs1 cells slots Q (F0 m (pc + 3) ls rest)) : W p l e R s m args below meth c H locs cells slots Q (F0 m pc ls (.int x :: .ref a :: rest)) :=
  va_put (D := D) (ci := 6) (v := .int x) (ty := .int) (C := RX7) (T := TX7) (N := 13) hx hb hqs inX7 tyX7 tyX7_ok nmX7 hown hK hP hD hS q0 he rfl 1 (by decide) (hqs _ w_158) (fun _ h9 => h9) rfl (by decide +kernel) rfl rfl (Nat.le_of_ble_eq_true hl) hdg kk
theorem pf_X7_55 (hx : p.tables.exec = Jvm.exec) (hb : c.code = cc) (hqs : ∀ w ∈ TB, w.before args s = true) (hown : s.vm.findClass RX7 = some m.cls) (hK : va_K D vwCl tys s) (hP : va_P D vwCl ws H) (hD : va_D A ws) (hS : va_S A H0 H locs) (q0 : Nat) {fs : List Value} (he : ws[q0]? = some (a, .inr (6, fs))) {x : Int32} (hl : Nat.ble 3 fs.length = true) (hdg : decode cc pc = .ok (.putfield 55, 3)) (kk : ∀ (H1 : Heap) (locs1 : List Loc), va_P D vwCl (ws.set q0 (a, .inr (6, fs.set 2 (.int x)))) H1 → va_D A (ws.set q0 (a, .inr (6, fs.set 2 (.int x)))) → va_S A H0 H1 locs1 → W p l e R s m args below meth c H1 locs1 cells slots Q (F0 m (pc + 3) ls rest)) : W p l e R s m args below meth c H locs cells slots Q (F0 m pc ls (.int x :: .ref a :: rest)) :=
  va_put (D := D) (ci := 6) (v := .int x) (ty := .int) (C := RX7) (T := TX7) (N := 13) hx hb hqs inX7 tyX7 tyX7_ok nmX7 hown hK hP hD hS q0 he rfl 2 (by decide) (hqs _ w_160) (fun _ h9 => h9) rfl (by decide +kernel) rfl rfl (Nat.le_of_ble_eq_true hl) hdg kk
theorem pf_X7_58 (hx : p.tables.exec = Jvm.exec) (hb : c.code = cc) (hqs : ∀ w ∈ TB, w.before args s = true) (hown : s.vm.findClass RX7 = some m.cls) (hK : va_K D vwCl tys s) (hP : va_P D vwCl ws H) (hD : va_D A ws) (hS : va_S A H0 H locs) (q0 : Nat) {fs : List Value} (he : ws[q0]? = some (a, .inr (6, fs))) {x : Int32} (hl : Nat.ble 4 fs.length = true) (hdg : decode cc pc = .ok (.putfield 58, 3)) (kk : ∀ (H1 : Heap) (locs1 : List Loc), va_P D vwCl (ws.set q0 (a, .inr (6, fs.set 3 (.int x)))) H1 → va_D A (ws.set q0 (a, .inr (6, fs.set 3 (.int x)))) → va_S A H0 H1 locs1 → W p l e R s m args below meth c H1 locs1 cells slots Q (F0 m (pc + 3) ls rest)) : W p l e R s m args below meth c H locs cells slots Q (F0 m pc ls (.int x :: .ref a :: rest)) :=
  va_put (D := D) (ci := 6) (v := .int x) (ty := .int) (C := RX7) (T := TX7) (N := 13) hx hb hqs inX7 tyX7 tyX7_ok nmX7 hown hK hP hD hS q0 he rfl 3 (by decide) (hqs _ w_161) (fun _ h9 => h9) rfl (by decide +kernel) rfl rfl (Nat.le_of_ble_eq_true hl) hdg kk
theorem pf_X1_22 (hx : p.tables.exec = Jvm.exec) (hb : c.code = cc) (hqs : ∀ w ∈ TB, w.before args s = true) (hown : s.vm.findClass RX1 = some m.cls) (hK : va_K D vwCl tys s) (hP : va_P D vwCl ws H) (hD : va_D A ws) (hS : va_S A H0 H locs) (q0 : Nat) {fs : List Value} (he : ws[q0]? = some (a, .inr (1, fs))) {x : Int32} (hl : Nat.ble 3 fs.length = true) (hdg : decode cc pc = .ok (.putfield 22, 3)) (kk : ∀ (H1 : Heap) (locs1 : List Loc), va_P D vwCl (ws.set q0 (a, .inr (1, fs.set 2 (.int x)))) H1 → va_D A (ws.set q0 (a, .inr (1, fs.set 2 (.int x)))) → va_S A H0 H1 locs1 → W p l e R s m args below meth c H1 locs1 cells slots Q (F0 m (pc + 3) ls rest)) : W p l e R s m args below meth c H locs cells slots Q (F0 m pc ls (.int x :: .ref a :: rest)) :=
  va_put (D := D) (ci := 1) (v := .int x) (ty := .int) (C := RX1) (T := TX1) (N := 3) hx hb hqs inX1 tyX1 tyX1_ok nmX1 hown hK hP hD hS q0 he rfl 2 (by decide) (hqs _ w_211) (fun _ h9 => h9) rfl (by decide +kernel) rfl rfl (Nat.le_of_ble_eq_true hl) hdg kk
theorem pf_X2_15 (hx : p.tables.exec = Jvm.exec) (hb : c.code = cc) (hqs : ∀ w ∈ TB, w.before args s = true) (hown : s.vm.findClass RX2 = some m.cls) (hK : va_K D vwCl tys s) (hP : va_P D vwCl ws H) (hD : va_D A ws) (hS : va_S A H0 H locs) (q0 : Nat) {fs : List Value} (he : ws[q0]? = some (a, .inr (2, fs))) {x : Int32} (hl : Nat.ble 1 fs.length = true) (hdg : decode cc pc = .ok (.putfield 15, 3)) (kk : ∀ (H1 : Heap) (locs1 : List Loc), va_P D vwCl (ws.set q0 (a, .inr (2, fs.set 0 (.int x)))) H1 → va_D A (ws.set q0 (a, .inr (2, fs.set 0 (.int x)))) → va_S A H0 H1 locs1 → W p l e R s m args below meth c H1 locs1 cells slots Q (F0 m (pc + 3) ls rest)) : W p l e R s m args below meth c H locs cells slots Q (F0 m pc ls (.int x :: .ref a :: rest)) :=
  va_put (D := D) (ci := 2) (v := .int x) (ty := .int) (C := RX2) (T := TX2) (N := 4) hx hb hqs inX2 tyX2 tyX2_ok nmX2 hown hK hP hD hS q0 he rfl 0 (by decide) (hqs _ w_126) (fun _ h9 => h9) rfl (by decide +kernel) rfl rfl (Nat.le_of_ble_eq_true hl) hdg kk
theorem pf_X2_19 (hx : p.tables.exec = Jvm.exec) (hb : c.code = cc) (hqs : ∀ w ∈ TB, w.before args s = true) (hown : s.vm.findClass RX2 = some m.cls) (hK : va_K D vwCl tys s) (hP : va_P D vwCl ws H) (hD : va_D A ws) (hS : va_S A H0 H locs) (q0 : Nat) {fs : List Value} (he : ws[q0]? = some (a, .inr (2, fs))) {x : Int32} (hl : Nat.ble 2 fs.length = true) (hdg : decode cc pc = .ok (.putfield 19, 3)) (kk : ∀ (H1 : Heap) (locs1 : List Loc), va_P D vwCl (ws.set q0 (a, .inr (2, fs.set 1 (.int x)))) H1 → va_D A (ws.set q0 (a, .inr (2, fs.set 1 (.int x)))) → va_S A H0 H1 locs1 → W p l e R s m args below meth c H1 locs1 cells slots Q (F0 m (pc + 3) ls rest)) : W p l e R s m args below meth c H locs cells slots Q (F0 m pc ls (.int x :: .ref a :: rest)) :=
  va_put (D := D) (ci := 2) (v := .int x) (ty := .int) (C := RX2) (T := TX2) (N := 4) hx hb hqs inX2 tyX2 tyX2_ok nmX2 hown hK hP hD hS q0 he rfl 1 (by decide) (hqs _ w_128) (fun _ h9 => h9) rfl (by decide +kernel) rfl rfl (Nat.le_of_ble_eq_true hl) hdg kk
theorem pf_X2_22 (hx : p.tables.exec = Jvm.exec) (hb : c.code = cc) (hqs : ∀ w ∈ TB, w.before args s = true) (hown : s.vm.findClass RX2 = some m.cls) (hK : va_K D vwCl tys s) (hP : va_P D vwCl ws H) (hD : va_D A ws) (hS : va_S A H0 H locs) (q0 : Nat) {fs : List Value} (he : ws[q0]? = some (a, .inr (2, fs))) {x : Int32} (hl : Nat.ble 3 fs.length = true) (hz : vp_nar .boolean x = x) (hdg : decode cc pc = .ok (.putfield 22, 3)) (kk : ∀ (H1 : Heap) (locs1 : List Loc), va_P D vwCl (ws.set q0 (a, .inr (2, fs.set 2 (.int x)))) H1 → va_D A (ws.set q0 (a, .inr (2, fs.set 2 (.int x)))) → va_S A H0 H1 locs1 → W p l e R s m args below meth c H1 locs1 cells slots Q (F0 m (pc + 3) ls rest)) : W p l e R s m args below meth c H locs cells slots Q (F0 m pc ls (.int x :: .ref a :: rest)) :=
  va_put (D := D) (ci := 2) (v := .int x) (ty := .boolean) (C := RX2) (T := TX2) (N := 4) hx hb hqs inX2 tyX2 tyX2_ok nmX2 hown hK hP hD hS q0 he rfl 2 (by decide) (hqs _ w_129) (fun _ h9 => h9) rfl (by decide +kernel) (congrArg Value.int hz) (by rw [← hz]; exact nar_fits x) (Nat.le_of_ble_eq_true hl) hdg kk
theorem pf_X3_34 (hx : p.tables.exec = Jvm.exec) (hb : c.code = cc) (hqs : ∀ w ∈ TB, w.before args s = true) (hown : s.vm.findClass RX3 = some m.cls) (hK : va_K D vwCl tys s) (hP : va_P D vwCl ws H) (hD : va_D A ws) (hS : va_S A H0 H locs) (q0 : Nat) {fs : List Value} (he : ws[q0]? = some (a, .inr (3, fs))) {x : Int32} (hl : Nat.ble 8 fs.length = true) (hdg : decode cc pc = .ok (.putfield 34, 3)) (kk : ∀ (H1 : Heap) (locs1 : List Loc), va_P D vwCl (ws.set q0 (a, .inr (3, fs.set 7 (.int x)))) H1 → va_D A (ws.set q0 (a, .inr (3, fs.set 7 (.int x)))) → va_S A H0 H1 locs1 → W p l e R s m args below meth c H1 locs1 cells slots Q (F0 m (pc + 3) ls rest)) : W p l e R s m args below meth c H locs cells slots Q (F0 m pc ls (.int x :: .ref a :: rest)) :=
  va_put (D := D) (ci := 3) (v := .int x) (ty := .int) (C := RX3) (T := TX3) (N := 9) hx hb hqs inX3 tyX3 tyX3_ok nmX3 hown hK hP hD hS q0 he rfl 7 (by decide) (hqs _ w_248) (fun _ h9 => h9) rfl (by decide +kernel) rfl rfl (Nat.le_of_ble_eq_true hl) hdg kk
theorem pf_X3_38 (hx : p.tables.exec = Jvm.exec) (hb : c.code = cc) (hqs : ∀ w ∈ TB, w.before args s = true) (hown : s.vm.findClass RX3 = some m.cls) (hK : va_K D vwCl tys s) (hP : va_P D vwCl ws H) (hD : va_D A ws) (hS : va_S A H0 H locs) (q0 : Nat) {fs : List Value} (he : ws[q0]? = some (a, .inr (3, fs))) {x : Int32} (hl : Nat.ble 9 fs.length = true) (hdg : decode cc pc = .ok (.putfield 38, 3)) (kk : ∀ (H1 : Heap) (locs1 : List Loc), va_P D vwCl (ws.set q0 (a, .inr (3, fs.set 8 (.int x)))) H1 → va_D A (ws.set q0 (a, .inr (3, fs.set 8 (.int x)))) → va_S A H0 H1 locs1 → W p l e R s m args below meth c H1 locs1 cells slots Q (F0 m (pc + 3) ls rest)) : W p l e R s m args below meth c H locs cells slots Q (F0 m pc ls (.int x :: .ref a :: rest)) :=
  va_put (D := D) (ci := 3) (v := .int x) (ty := .int) (C := RX3) (T := TX3) (N := 9) hx hb hqs inX3 tyX3 tyX3_ok nmX3 hown hK hP hD hS q0 he rfl 8 (by decide) (hqs _ w_249) (fun _ h9 => h9) rfl (by decide +kernel) rfl rfl (Nat.le_of_ble_eq_true hl) hdg kk
theorem pf_X6_15 (hx : p.tables.exec = Jvm.exec) (hb : c.code = cc) (hqs : ∀ w ∈ TB, w.before args s = true) (hown : s.vm.findClass RX6 = some m.cls) (hK : va_K D vwCl tys s) (hP : va_P D vwCl ws H) (hD : va_D A ws) (hS : va_S A H0 H locs) (q0 : Nat) {fs : List Value} (he : ws[q0]? = some (a, .inr (5, fs))) {x : Int32} (hl : Nat.ble 1 fs.length = true) (hdg : decode cc pc = .ok (.putfield 15, 3)) (kk : ∀ (H1 : Heap) (locs1 : List Loc), va_P D vwCl (ws.set q0 (a, .inr (5, fs.set 0 (.int x)))) H1 → va_D A (ws.set q0 (a, .inr (5, fs.set 0 (.int x)))) → va_S A H0 H1 locs1 → W p l e R s m args below meth c H1 locs1 cells slots Q (F0 m (pc + 3) ls rest)) : W p l e R s m args below meth c H locs cells slots Q (F0 m pc ls (.int x :: .ref a :: rest)) :=
  va_put (D := D) (ci := 5) (v := .int x) (ty := .int) (C := RX6) (T := TX6) (N := 2) hx hb hqs inX6 tyX6 tyX6_ok nmX6 hown hK hP hD hS q0 he rfl 0 (by decide) (hqs _ w_82) (fun _ h9 => h9) rfl (by decide +kernel) rfl rfl (Nat.le_of_ble_eq_true hl) hdg kk
theorem pf_X9_55 (hx : p.tables.exec = Jvm.exec) (hb : c.code = cc) (hqs : ∀ w ∈ TB, w.before args s = true) (hown : s.vm.findClass RX9 = some m.cls) (hK : va_K D vwCl tys s) (hP : va_P D vwCl ws H) (hD : va_D A ws) (hS : va_S A H0 H locs) (q0 : Nat) {fs : List Value} (he : ws[q0]? = some (a, .inr (8, fs))) {x : Int32} (hl : Nat.ble 1 fs.length = true) (hdg : decode cc pc = .ok (.putfield 55, 3)) (kk : ∀ (H1 : Heap) (locs1 : List Loc), va_P D vwCl (ws.set q0 (a, .inr (8, fs.set 0 (.int x)))) H1 → va_D A (ws.set q0 (a, .inr (8, fs.set 0 (.int x)))) → va_S A H0 H1 locs1 → W p l e R s m args below meth c H1 locs1 cells slots Q (F0 m (pc + 3) ls rest)) : W p l e R s m args below meth c H locs cells slots Q (F0 m pc ls (.int x :: .ref a :: rest)) :=
  va_put (D := D) (ci := 8) (v := .int x) (ty := .int) (C := RX9) (T := TX9) (N := 17) hx hb hqs inX9 tyX9 tyX9_ok nmX9 hown hK hP hD hS q0 he rfl 0 (by decide) (hqs _ w_1068) (fun _ h9 => h9) rfl (by decide +kernel) rfl rfl (Nat.le_of_ble_eq_true hl) hdg kk
theorem pf_X9_98 (hx : p.tables.exec = Jvm.exec) (hb : c.code = cc) (hqs : ∀ w ∈ TB, w.before args s = true) (hown : s.vm.findClass RX9 = some m.cls) (hK : va_K D vwCl tys s) (hP : va_P D vwCl ws H) (hD : va_D A ws) (hS : va_S A H0 H locs) (q0 : Nat) {fs : List Value} (he : ws[q0]? = some (a, .inr (8, fs))) {x : Int32} (hl : Nat.ble 14 fs.length = true) (hdg : decode cc pc = .ok (.putfield 98, 3)) (kk : ∀ (H1 : Heap) (locs1 : List Loc), va_P D vwCl (ws.set q0 (a, .inr (8, fs.set 13 (.int x)))) H1 → va_D A (ws.set q0 (a, .inr (8, fs.set 13 (.int x)))) → va_S A H0 H1 locs1 → W p l e R s m args below meth c H1 locs1 cells slots Q (F0 m (pc + 3) ls rest)) : W p l e R s m args below meth c H locs cells slots Q (F0 m pc ls (.int x :: .ref a :: rest)) :=
  va_put (D := D) (ci := 8) (v := .int x) (ty := .int) (C := RX9) (T := TX9) (N := 17) hx hb hqs inX9 tyX9 tyX9_ok nmX9 hown hK hP hD hS q0 he rfl 13 (by decide) (hqs _ w_1081) (fun _ h9 => h9) rfl (by decide +kernel) rfl rfl (Nat.le_of_ble_eq_true hl) hdg kk
theorem pf_X9_115 (hx : p.tables.exec = Jvm.exec) (hb : c.code = cc) (hqs : ∀ w ∈ TB, w.before args s = true) (hown : s.vm.findClass RX9 = some m.cls) (hK : va_K D vwCl tys s) (hP : va_P D vwCl ws H) (hD : va_D A ws) (hS : va_S A H0 H locs) (q0 : Nat) {fs : List Value} (he : ws[q0]? = some (a, .inr (8, fs))) {x : Int32} (hl : Nat.ble 3 fs.length = true) (hdg : decode cc pc = .ok (.putfield 115, 3)) (kk : ∀ (H1 : Heap) (locs1 : List Loc), va_P D vwCl (ws.set q0 (a, .inr (8, fs.set 2 (.int x)))) H1 → va_D A (ws.set q0 (a, .inr (8, fs.set 2 (.int x)))) → va_S A H0 H1 locs1 → W p l e R s m args below meth c H1 locs1 cells slots Q (F0 m (pc + 3) ls rest)) : W p l e R s m args below meth c H locs cells slots Q (F0 m pc ls (.int x :: .ref a :: rest)) :=
  va_put (D := D) (ci := 8) (v := .int x) (ty := .int) (C := RX9) (T := TX9) (N := 17) hx hb hqs inX9 tyX9 tyX9_ok nmX9 hown hK hP hD hS q0 he rfl 2 (by decide) (hqs _ w_1070) (fun _ h9 => h9) rfl (by decide +kernel) rfl rfl (Nat.le_of_ble_eq_true hl) hdg kk
theorem pf_X9_122 (hx : p.tables.exec = Jvm.exec) (hb : c.code = cc) (hqs : ∀ w ∈ TB, w.before args s = true) (hown : s.vm.findClass RX9 = some m.cls) (hK : va_K D vwCl tys s) (hP : va_P D vwCl ws H) (hD : va_D A ws) (hS : va_S A H0 H locs) (q0 : Nat) {fs : List Value} (he : ws[q0]? = some (a, .inr (8, fs))) {x : Int32} (hl : Nat.ble 15 fs.length = true) (hdg : decode cc pc = .ok (.putfield 122, 3)) (kk : ∀ (H1 : Heap) (locs1 : List Loc), va_P D vwCl (ws.set q0 (a, .inr (8, fs.set 14 (.int x)))) H1 → va_D A (ws.set q0 (a, .inr (8, fs.set 14 (.int x)))) → va_S A H0 H1 locs1 → W p l e R s m args below meth c H1 locs1 cells slots Q (F0 m (pc + 3) ls rest)) : W p l e R s m args below meth c H locs cells slots Q (F0 m pc ls (.int x :: .ref a :: rest)) :=
  va_put (D := D) (ci := 8) (v := .int x) (ty := .int) (C := RX9) (T := TX9) (N := 17) hx hb hqs inX9 tyX9 tyX9_ok nmX9 hown hK hP hD hS q0 he rfl 14 (by decide) (hqs _ w_1082) (fun _ h9 => h9) rfl (by decide +kernel) rfl rfl (Nat.le_of_ble_eq_true hl) hdg kk
theorem pf_X9_151 (hx : p.tables.exec = Jvm.exec) (hb : c.code = cc) (hqs : ∀ w ∈ TB, w.before args s = true) (hown : s.vm.findClass RX9 = some m.cls) (hK : va_K D vwCl tys s) (hP : va_P D vwCl ws H) (hD : va_D A ws) (hS : va_S A H0 H locs) (q0 : Nat) {fs : List Value} (he : ws[q0]? = some (a, .inr (8, fs))) {x : Int32} (hl : Nat.ble 16 fs.length = true) (hdg : decode cc pc = .ok (.putfield 151, 3)) (kk : ∀ (H1 : Heap) (locs1 : List Loc), va_P D vwCl (ws.set q0 (a, .inr (8, fs.set 15 (.int x)))) H1 → va_D A (ws.set q0 (a, .inr (8, fs.set 15 (.int x)))) → va_S A H0 H1 locs1 → W p l e R s m args below meth c H1 locs1 cells slots Q (F0 m (pc + 3) ls rest)) : W p l e R s m args below meth c H locs cells slots Q (F0 m pc ls (.int x :: .ref a :: rest)) :=
  va_put (D := D) (ci := 8) (v := .int x) (ty := .int) (C := RX9) (T := TX9) (N := 17) hx hb hqs inX9 tyX9 tyX9_ok nmX9 hown hK hP hD hS q0 he rfl 15 (by decide) (hqs _ w_1083) (fun _ h9 => h9) rfl (by decide +kernel) rfl rfl (Nat.le_of_ble_eq_true hl) hdg kk
theorem pf_X9_177 (hx : p.tables.exec = Jvm.exec) (hb : c.code = cc) (hqs : ∀ w ∈ TB, w.before args s = true) (hown : s.vm.findClass RX9 = some m.cls) (hK : va_K D vwCl tys s) (hP : va_P D vwCl ws H) (hD : va_D A ws) (hS : va_S A H0 H locs) (q0 : Nat) {fs : List Value} (he : ws[q0]? = some (a, .inr (8, fs))) {x : Int32} (hl : Nat.ble 7 fs.length = true) (hdg : decode cc pc = .ok (.putfield 177, 3)) (kk : ∀ (H1 : Heap) (locs1 : List Loc), va_P D vwCl (ws.set q0 (a, .inr (8, fs.set 6 (.int x)))) H1 → va_D A (ws.set q0 (a, .inr (8, fs.set 6 (.int x)))) → va_S A H0 H1 locs1 → W p l e R s m args below meth c H1 locs1 cells slots Q (F0 m (pc + 3) ls rest)) : W p l e R s m args below meth c H locs cells slots Q (F0 m pc ls (.int x :: .ref a :: rest)) :=
  va_put (D := D) (ci := 8) (v := .int x) (ty := .int) (C := RX9) (T := TX9) (N := 17) hx hb hqs inX9 tyX9 tyX9_ok nmX9 hown hK hP hD hS q0 he rfl 6 (by decide) (hqs _ w_1074) (fun _ h9 => h9) rfl (by decide +kernel) rfl rfl (Nat.le_of_ble_eq_true hl) hdg kk
end LINKS
