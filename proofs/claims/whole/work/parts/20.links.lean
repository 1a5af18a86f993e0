theorem w_0 : (.selects RX0 yX0_expect yX0_expect : Cond) ∈ TB := TB_mem 0 (by decide +kernel) (by decide +kernel)
theorem w_1 : (.selects RX0 yX0_takesEntry yX0_takesEntry : Cond) ∈ TB := TB_mem 1 (by decide +kernel) (by decide +kernel)
theorem w_2 : (.selects RX0 yX0_takesDigit yX0_takesDigit : Cond) ∈ TB := TB_mem 2 (by decide +kernel) (by decide +kernel)
theorem w_3 : (.selects RX0 yX0_takesEnd yX0_takesEnd : Cond) ∈ TB := TB_mem 3 (by decide +kernel) (by decide +kernel)
theorem w_4 : (.selects RX0 yX0_takesComma yX0_takesComma : Cond) ∈ TB := TB_mem 4 (by decide +kernel) (by decide +kernel)
theorem w_5 : (.selects RX7 yX7_differenceOf yX7_differenceOf : Cond) ∈ TB := TB_mem 5 (by decide +kernel) (by decide +kernel)
theorem w_8 : (.selects RX8 yX8_doEntry yX8_doEntry : Cond) ∈ TB := TB_mem 8 (by decide +kernel) (by decide +kernel)
theorem w_9 : (.selects RX7 yX7_linkCount yX7_linkCount : Cond) ∈ TB := TB_mem 9 (by decide +kernel) (by decide +kernel)
theorem w_10 : (.selects RX8 yX8_needTable yX8_needTable : Cond) ∈ TB := TB_mem 10 (by decide +kernel) (by decide +kernel)
theorem w_11 : (.selects RX8 yX8_needTwoTables yX8_needTwoTables : Cond) ∈ TB := TB_mem 11 (by decide +kernel) (by decide +kernel)
theorem w_13 : (.selects RX8 yX8_needTables yX8_needTables : Cond) ∈ TB := TB_mem 13 (by decide +kernel) (by decide +kernel)
theorem w_14 : (.selects RX8 yX8_runIn yX8_runIn : Cond) ∈ TB := TB_mem 14 (by decide +kernel) (by decide +kernel)
theorem w_15 : (.selects RX8 yX8_regretIn yX8_regretIn : Cond) ∈ TB := TB_mem 15 (by decide +kernel) (by decide +kernel)
theorem w_16 : (.selects RX3 yX3_rowsJoined yX3_rowsJoined : Cond) ∈ TB := TB_mem 16 (by decide +kernel) (by decide +kernel)
theorem w_17 : (.selects RX3 yX3_sizeOf yX3_sizeOf : Cond) ∈ TB := TB_mem 17 (by decide +kernel) (by decide +kernel)
theorem w_18 : (.selects RX3 yX3_findNext yX3_findNext : Cond) ∈ TB := TB_mem 18 (by decide +kernel) (by decide +kernel)
theorem w_19 : (.selects RX3 yX3_cheaperWay yX3_cheaperWay : Cond) ∈ TB := TB_mem 19 (by decide +kernel) (by decide +kernel)
theorem w_20 : (.selects RX3 yX3_stepCost yX3_stepCost : Cond) ∈ TB := TB_mem 20 (by decide +kernel) (by decide +kernel)
theorem w_21 : (.selects RX3 yX3_restOf yX3_restOf : Cond) ∈ TB := TB_mem 21 (by decide +kernel) (by decide +kernel)
theorem w_22 : (.selects RX3 yX3_followNext yX3_followNext : Cond) ∈ TB := TB_mem 22 (by decide +kernel) (by decide +kernel)
theorem w_23 : (.selects RX7 yX7_learnPair yX7_learnPair : Cond) ∈ TB := TB_mem 23 (by decide +kernel) (by decide +kernel)
theorem w_24 : (.selects RX7 yX7_noteSurprise yX7_noteSurprise : Cond) ∈ TB := TB_mem 24 (by decide +kernel) (by decide +kernel)
theorem w_25 : (.selects RX7 yX7_makeOlder yX7_makeOlder : Cond) ∈ TB := TB_mem 25 (by decide +kernel) (by decide +kernel)
theorem w_26 : (.selects RX8 yX8_succeeds yX8_succeeds : Cond) ∈ TB := TB_mem 26 (by decide +kernel) (by decide +kernel)
theorem w_27 : (.selects RX8 yX8_scriptDrifts yX8_scriptDrifts : Cond) ∈ TB := TB_mem 27 (by decide +kernel) (by decide +kernel)
theorem w_28 : (.selects RX8 yX8_scriptSets yX8_scriptSets : Cond) ∈ TB := TB_mem 28 (by decide +kernel) (by decide +kernel)
theorem w_29 : (.selects RX8 yX8_scriptLinks yX8_scriptLinks : Cond) ∈ TB := TB_mem 29 (by decide +kernel) (by decide +kernel)
theorem w_30 : (.selects RX8 yX8_chosenTableIs yX8_chosenTableIs : Cond) ∈ TB := TB_mem 30 (by decide +kernel) (by decide +kernel)
theorem w_31 : (.selects RX8 yX8_takeTurn yX8_takeTurn : Cond) ∈ TB := TB_mem 31 (by decide +kernel) (by decide +kernel)
theorem w_32 : (.selects RX9 yX9_refused yX9_refused : Cond) ∈ TB := TB_mem 32 (by decide +kernel) (by decide +kernel)
theorem w_33 : (.selects RX9 yX9_wrongPlan yX9_wrongPlan : Cond) ∈ TB := TB_mem 33 (by decide +kernel) (by decide +kernel)
theorem w_34 : (.selects RX9 yX9_sign yX9_sign : Cond) ∈ TB := TB_mem 34 (by decide +kernel) (by decide +kernel)
theorem w_35 : (.selects RX9 yX9_taken yX9_taken : Cond) ∈ TB := TB_mem 35 (by decide +kernel) (by decide +kernel)
theorem w_36 : (.selects RX9 yX9_wrongWorld yX9_wrongWorld : Cond) ∈ TB := TB_mem 36 (by decide +kernel) (by decide +kernel)
theorem w_37 : (.selects RX9 yX9_readEntry yX9_readEntry : Cond) ∈ TB := TB_mem 37 (by decide +kernel) (by decide +kernel)
theorem w_38 : (.selects RX9 yX9_number yX9_number : Cond) ∈ TB := TB_mem 38 (by decide +kernel) (by decide +kernel)
theorem w_39 : (.selects RX9 yX9_remember yX9_remember : Cond) ∈ TB := TB_mem 39 (by decide +kernel) (by decide +kernel)
theorem w_40 : (.selects RX9 yX9_runOn yX9_runOn : Cond) ∈ TB := TB_mem 40 (by decide +kernel) (by decide +kernel)
theorem w_41 : (.selects RX9 yX9_costOn yX9_costOn : Cond) ∈ TB := TB_mem 41 (by decide +kernel) (by decide +kernel)
theorem w_42 : (.selects RX9 yX9_choose yX9_choose : Cond) ∈ TB := TB_mem 42 (by decide +kernel) (by decide +kernel)
theorem w_43 : (.selects RX9 yX9_layRows yX9_layRows : Cond) ∈ TB := TB_mem 43 (by decide +kernel) (by decide +kernel)
theorem w_44 : (.selects RX9 yX9_payFor yX9_payFor : Cond) ∈ TB := TB_mem 44 (by decide +kernel) (by decide +kernel)
theorem w_45 : (.selects RX9 yX9_layText yX9_layText : Cond) ∈ TB := TB_mem 45 (by decide +kernel) (by decide +kernel)
theorem w_46 : (.selects RX9 yX9_command yX9_command : Cond) ∈ TB := TB_mem 46 (by decide +kernel) (by decide +kernel)
theorem w_47 : (.selects RX9 yX9_isChosen yX9_isChosen : Cond) ∈ TB := TB_mem 47 (by decide +kernel) (by decide +kernel)
theorem w_48 : (.selects RX9 yX9_turn yX9_turn : Cond) ∈ TB := TB_mem 48 (by decide +kernel) (by decide +kernel)
theorem w_50 : (.initialized RX8 : Cond) ∈ TB := TB_mem 50 (by decide +kernel) (by decide +kernel)
theorem w_51 : (.initialized RX6 : Cond) ∈ TB := TB_mem 51 (by decide +kernel) (by decide +kernel)
theorem w_53 : (.initialized RX0 : Cond) ∈ TB := TB_mem 53 (by decide +kernel) (by decide +kernel)
theorem w_54 : (.initialized RX2 : Cond) ∈ TB := TB_mem 54 (by decide +kernel) (by decide +kernel)
theorem w_55 : (.initialized RX7 : Cond) ∈ TB := TB_mem 55 (by decide +kernel) (by decide +kernel)
theorem w_58 : (.initialized RX3 : Cond) ∈ TB := TB_mem 58 (by decide +kernel) (by decide +kernel)
theorem w_59 : (.initialized RX9 : Cond) ∈ TB := TB_mem 59 (by decide +kernel) (by decide +kernel)
theorem w_65 : (.initialized "java/lang/System" : Cond) ∈ TB := TB_mem 65 (by decide +kernel) (by decide +kernel)
theorem w_66 : (.initialized "java/lang/Math" : Cond) ∈ TB := TB_mem 66 (by decide +kernel) (by decide +kernel)
theorem w_82 : (.fieldLink RX6 15 "SurprisedPlans$Text" "length" "I" : Cond) ∈ TB := TB_mem 82 (by decide +kernel) (by decide +kernel)
theorem w_83 : (.fieldLink RX8 305 "SurprisedPlans$Text" "length" "I" : Cond) ∈ TB := TB_mem 83 (by decide +kernel) (by decide +kernel)
theorem w_84 : (.fieldLink RX6 9 "SurprisedPlans$Text" "signs" "[C" : Cond) ∈ TB := TB_mem 84 (by decide +kernel) (by decide +kernel)
theorem w_100 : (.fieldLink RX0 19 "SurprisedPlans$EntryReader" "place" "I" : Cond) ∈ TB := TB_mem 100 (by decide +kernel) (by decide +kernel)
theorem w_101 : (.fieldLink RX0 25 "SurprisedPlans$EntryReader" "first" "I" : Cond) ∈ TB := TB_mem 101 (by decide +kernel) (by decide +kernel)
theorem w_102 : (.fieldLink RX8 323 "SurprisedPlans$EntryReader" "first" "I" : Cond) ∈ TB := TB_mem 102 (by decide +kernel) (by decide +kernel)
theorem w_103 : (.fieldLink RX0 32 "SurprisedPlans$EntryReader" "second" "I" : Cond) ∈ TB := TB_mem 103 (by decide +kernel) (by decide +kernel)
theorem w_104 : (.fieldLink RX8 326 "SurprisedPlans$EntryReader" "second" "I" : Cond) ∈ TB := TB_mem 104 (by decide +kernel) (by decide +kernel)
theorem w_105 : (.fieldLink RX0 49 "SurprisedPlans$EntryReader" "guess" "I" : Cond) ∈ TB := TB_mem 105 (by decide +kernel) (by decide +kernel)
theorem w_106 : (.fieldLink RX8 332 "SurprisedPlans$EntryReader" "guess" "I" : Cond) ∈ TB := TB_mem 106 (by decide +kernel) (by decide +kernel)
theorem w_107 : (.fieldLink RX0 15 "SurprisedPlans$EntryReader" "number" "I" : Cond) ∈ TB := TB_mem 107 (by decide +kernel) (by decide +kernel)
theorem w_108 : (.fieldLink RX8 320 "SurprisedPlans$EntryReader" "number" "I" : Cond) ∈ TB := TB_mem 108 (by decide +kernel) (by decide +kernel)
theorem w_126 : (.fieldLink RX2 15 "SurprisedPlans$PlanReader" "count" "I" : Cond) ∈ TB := TB_mem 126 (by decide +kernel) (by decide +kernel)
theorem w_127 : (.fieldLink RX3 91 "SurprisedPlans$PlanReader" "count" "I" : Cond) ∈ TB := TB_mem 127 (by decide +kernel) (by decide +kernel)
theorem w_128 : (.fieldLink RX2 19 "SurprisedPlans$PlanReader" "seen" "I" : Cond) ∈ TB := TB_mem 128 (by decide +kernel) (by decide +kernel)
theorem w_129 : (.fieldLink RX2 22 "SurprisedPlans$PlanReader" "expectsTable" "Z" : Cond) ∈ TB := TB_mem 129 (by decide +kernel) (by decide +kernel)
theorem w_130 : (.fieldLink RX2 9 "SurprisedPlans$PlanReader" "order" "[I" : Cond) ∈ TB := TB_mem 130 (by decide +kernel) (by decide +kernel)
theorem w_156 : (.fieldLink RX7 48 "SurprisedPlans$World" "tables" "I" : Cond) ∈ TB := TB_mem 156 (by decide +kernel) (by decide +kernel)
theorem w_157 : (.fieldLink RX8 359 "SurprisedPlans$World" "tables" "I" : Cond) ∈ TB := TB_mem 157 (by decide +kernel) (by decide +kernel)
theorem w_158 : (.fieldLink RX7 52 "SurprisedPlans$World" "weeks" "I" : Cond) ∈ TB := TB_mem 158 (by decide +kernel) (by decide +kernel)
theorem w_160 : (.fieldLink RX7 55 "SurprisedPlans$World" "runs" "I" : Cond) ∈ TB := TB_mem 160 (by decide +kernel) (by decide +kernel)
theorem w_161 : (.fieldLink RX7 58 "SurprisedPlans$World" "surprises" "I" : Cond) ∈ TB := TB_mem 161 (by decide +kernel) (by decide +kernel)
theorem w_162 : (.fieldLink RX8 278 "SurprisedPlans$World" "surprises" "I" : Cond) ∈ TB := TB_mem 162 (by decide +kernel) (by decide +kernel)
theorem w_163 : (.fieldLink RX7 9 "SurprisedPlans$World" "sums" "[J" : Cond) ∈ TB := TB_mem 163 (by decide +kernel) (by decide +kernel)
theorem w_164 : (.fieldLink RX7 24 "SurprisedPlans$World" "settings" "[I" : Cond) ∈ TB := TB_mem 164 (by decide +kernel) (by decide +kernel)
theorem w_165 : (.fieldLink RX7 27 "SurprisedPlans$World" "sizes" "[I" : Cond) ∈ TB := TB_mem 165 (by decide +kernel) (by decide +kernel)
theorem w_166 : (.fieldLink RX7 30 "SurprisedPlans$World" "guesses" "[I" : Cond) ∈ TB := TB_mem 166 (by decide +kernel) (by decide +kernel)
theorem w_167 : (.fieldLink RX7 33 "SurprisedPlans$World" "shares" "[I" : Cond) ∈ TB := TB_mem 167 (by decide +kernel) (by decide +kernel)
theorem w_168 : (.fieldLink RX7 36 "SurprisedPlans$World" "memories" "[I" : Cond) ∈ TB := TB_mem 168 (by decide +kernel) (by decide +kernel)
theorem w_169 : (.fieldLink RX7 39 "SurprisedPlans$World" "ages" "[I" : Cond) ∈ TB := TB_mem 169 (by decide +kernel) (by decide +kernel)
theorem w_170 : (.fieldLink RX7 42 "SurprisedPlans$World" "surprisesOf" "[I" : Cond) ∈ TB := TB_mem 170 (by decide +kernel) (by decide +kernel)
theorem w_171 : (.fieldLink RX7 45 "SurprisedPlans$World" "told" "[I" : Cond) ∈ TB := TB_mem 171 (by decide +kernel) (by decide +kernel)
theorem w_241 : (.fieldLink RX3 9 "SurprisedPlans$Planner" "sizes" "[I" : Cond) ∈ TB := TB_mem 241 (by decide +kernel) (by decide +kernel)
theorem w_242 : (.fieldLink RX3 15 "SurprisedPlans$Planner" "shares" "[I" : Cond) ∈ TB := TB_mem 242 (by decide +kernel) (by decide +kernel)
theorem w_243 : (.fieldLink RX3 18 "SurprisedPlans$Planner" "rowsOf" "[J" : Cond) ∈ TB := TB_mem 243 (by decide +kernel) (by decide +kernel)
theorem w_244 : (.fieldLink RX3 22 "SurprisedPlans$Planner" "restOf" "[J" : Cond) ∈ TB := TB_mem 244 (by decide +kernel) (by decide +kernel)
theorem w_245 : (.fieldLink RX3 25 "SurprisedPlans$Planner" "nextOf" "[I" : Cond) ∈ TB := TB_mem 245 (by decide +kernel) (by decide +kernel)
theorem w_246 : (.fieldLink RX3 28 "SurprisedPlans$Planner" "tableAt" "[I" : Cond) ∈ TB := TB_mem 246 (by decide +kernel) (by decide +kernel)
theorem w_247 : (.fieldLink RX3 31 "SurprisedPlans$Planner" "wayAt" "[I" : Cond) ∈ TB := TB_mem 247 (by decide +kernel) (by decide +kernel)
theorem w_248 : (.fieldLink RX3 34 "SurprisedPlans$Planner" "whole" "I" : Cond) ∈ TB := TB_mem 248 (by decide +kernel) (by decide +kernel)
theorem w_249 : (.fieldLink RX3 38 "SurprisedPlans$Planner" "count" "I" : Cond) ∈ TB := TB_mem 249 (by decide +kernel) (by decide +kernel)
theorem w_269 : (.fieldLink RX8 10 "SurprisedPlans" "text" "LSurprisedPlans$Text;" : Cond) ∈ TB := TB_mem 269 (by decide +kernel) (by decide +kernel)
theorem w_270 : (.fieldLink RX8 19 "SurprisedPlans" "entryReader" "LSurprisedPlans$EntryReader;" : Cond) ∈ TB := TB_mem 270 (by decide +kernel) (by decide +kernel)
theorem w_271 : (.fieldLink RX8 26 "SurprisedPlans" "planReader" "LSurprisedPlans$PlanReader;" : Cond) ∈ TB := TB_mem 271 (by decide +kernel) (by decide +kernel)
theorem w_272 : (.fieldLink RX8 33 "SurprisedPlans" "world" "LSurprisedPlans$World;" : Cond) ∈ TB := TB_mem 272 (by decide +kernel) (by decide +kernel)
theorem w_273 : (.fieldLink RX8 37 "SurprisedPlans" "copy" "LSurprisedPlans$World;" : Cond) ∈ TB := TB_mem 273 (by decide +kernel) (by decide +kernel)
theorem w_276 : (.fieldLink RX8 57 "SurprisedPlans" "chosen" "LSurprisedPlans$Planner;" : Cond) ∈ TB := TB_mem 276 (by decide +kernel) (by decide +kernel)
theorem w_277 : (.fieldLink RX8 61 "SurprisedPlans" "other" "LSurprisedPlans$Planner;" : Cond) ∈ TB := TB_mem 277 (by decide +kernel) (by decide +kernel)
theorem w_301 : (.methodLink RX8 83 yX6_empty : Cond) ∈ TB := TB_mem 301 (by decide +kernel) (by decide +kernel)
theorem w_302 : (.instanceMethod yX6_empty : Cond) ∈ TB := TB_mem 302 (by decide +kernel) (by decide +kernel)
theorem w_303 : (.selects RX6 yX6_empty yX6_empty : Cond) ∈ TB := TB_mem 303 (by decide +kernel) (by decide +kernel)
theorem w_304 : (.code yX6_empty cX6_empty 2 (some .int) : Cond) ∈ TB := TB_mem 304 (by decide +kernel) (by decide +kernel)
theorem w_309 : (.methodLink RX8 87 yX6_firstErrorFor : Cond) ∈ TB := TB_mem 309 (by decide +kernel) (by decide +kernel)
theorem w_310 : (.instanceMethod yX6_firstErrorFor : Cond) ∈ TB := TB_mem 310 (by decide +kernel) (by decide +kernel)
theorem w_311 : (.selects RX6 yX6_firstErrorFor yX6_firstErrorFor : Cond) ∈ TB := TB_mem 311 (by decide +kernel) (by decide +kernel)
theorem w_312 : (.code yX6_firstErrorFor cX6_firstErrorFor 3 (some .int) : Cond) ∈ TB := TB_mem 312 (by decide +kernel) (by decide +kernel)
theorem w_313 : (.methodLink RX6 23 ⟨RX4, "begin", "()V"⟩ : Cond) ∈ TB := TB_mem 313 (by decide +kernel) (by decide +kernel)
theorem w_315 : (.sameMethod RX4 RX4 "begin" "()V" : Cond) ∈ TB := TB_mem 315 (by decide +kernel) (by decide +kernel)
theorem w_316 : (.selects RX0 ⟨RX4, "begin", "()V"⟩ yX0_begin : Cond) ∈ TB := TB_mem 316 (by decide +kernel) (by decide +kernel)
theorem w_317 : (.instanceMethod yX0_begin : Cond) ∈ TB := TB_mem 317 (by decide +kernel) (by decide +kernel)
theorem w_318 : (.code yX0_begin cX0_begin 1 none : Cond) ∈ TB := TB_mem 318 (by decide +kernel) (by decide +kernel)
theorem w_319 : (.methodLink RX0 11 yX0_expect : Cond) ∈ TB := TB_mem 319 (by decide +kernel) (by decide +kernel)
theorem w_321 : (.instanceMethod yX0_expect : Cond) ∈ TB := TB_mem 321 (by decide +kernel) (by decide +kernel)
theorem w_322 : (.code yX0_expect cX0_expect 2 (some .boolean) : Cond) ∈ TB := TB_mem 322 (by decide +kernel) (by decide +kernel)
theorem w_323 : (.selects RX2 ⟨RX4, "begin", "()V"⟩ yX2_begin : Cond) ∈ TB := TB_mem 323 (by decide +kernel) (by decide +kernel)
theorem w_324 : (.instanceMethod yX2_begin : Cond) ∈ TB := TB_mem 324 (by decide +kernel) (by decide +kernel)
theorem w_325 : (.code yX2_begin cX2_begin 1 none : Cond) ∈ TB := TB_mem 325 (by decide +kernel) (by decide +kernel)
theorem w_326 : (.methodLink RX6 28 yX6_signAt : Cond) ∈ TB := TB_mem 326 (by decide +kernel) (by decide +kernel)
theorem w_327 : (.instanceMethod yX6_signAt : Cond) ∈ TB := TB_mem 327 (by decide +kernel) (by decide +kernel)
theorem w_328 : (.selects RX6 yX6_signAt yX6_signAt : Cond) ∈ TB := TB_mem 328 (by decide +kernel) (by decide +kernel)
theorem w_329 : (.code yX6_signAt cX6_signAt 2 (some .int) : Cond) ∈ TB := TB_mem 329 (by decide +kernel) (by decide +kernel)
theorem w_331 : (.static yX8_isIn : Cond) ∈ TB := TB_mem 331 (by decide +kernel) (by decide +kernel)
theorem w_332 : (.code yX8_isIn cX8_isIn 3 (some .boolean) : Cond) ∈ TB := TB_mem 332 (by decide +kernel) (by decide +kernel)
theorem w_333 : (.methodLink RX6 32 ⟨RX4, "takes", "(I)Z"⟩ : Cond) ∈ TB := TB_mem 333 (by decide +kernel) (by decide +kernel)
theorem w_335 : (.sameMethod RX4 RX4 "takes" "(I)Z" : Cond) ∈ TB := TB_mem 335 (by decide +kernel) (by decide +kernel)
theorem w_336 : (.selects RX0 ⟨RX4, "takes", "(I)Z"⟩ yX0_takes : Cond) ∈ TB := TB_mem 336 (by decide +kernel) (by decide +kernel)
theorem w_337 : (.instanceMethod yX0_takes : Cond) ∈ TB := TB_mem 337 (by decide +kernel) (by decide +kernel)
theorem w_338 : (.code yX0_takes cX0_takes 2 (some .boolean) : Cond) ∈ TB := TB_mem 338 (by decide +kernel) (by decide +kernel)
theorem w_339 : (.methodLink RX0 22 yX0_takesEntry : Cond) ∈ TB := TB_mem 339 (by decide +kernel) (by decide +kernel)
theorem w_341 : (.instanceMethod yX0_takesEntry : Cond) ∈ TB := TB_mem 341 (by decide +kernel) (by decide +kernel)
theorem w_342 : (.code yX0_takesEntry cX0_takesEntry 2 (some .boolean) : Cond) ∈ TB := TB_mem 342 (by decide +kernel) (by decide +kernel)
theorem w_344 : (.methodLink RX0 35 yX0_takesDigit : Cond) ∈ TB := TB_mem 344 (by decide +kernel) (by decide +kernel)
theorem w_346 : (.instanceMethod yX0_takesDigit : Cond) ∈ TB := TB_mem 346 (by decide +kernel) (by decide +kernel)
theorem w_347 : (.code yX0_takesDigit cX0_takesDigit 3 (some .boolean) : Cond) ∈ TB := TB_mem 347 (by decide +kernel) (by decide +kernel)
theorem w_348 : (.methodLink RX0 39 yX0_takesEnd : Cond) ∈ TB := TB_mem 348 (by decide +kernel) (by decide +kernel)
theorem w_350 : (.instanceMethod yX0_takesEnd : Cond) ∈ TB := TB_mem 350 (by decide +kernel) (by decide +kernel)
theorem w_351 : (.code yX0_takesEnd cX0_takesEnd 2 (some .boolean) : Cond) ∈ TB := TB_mem 351 (by decide +kernel) (by decide +kernel)
theorem w_352 : (.methodLink RX0 45 yX0_isComplete : Cond) ∈ TB := TB_mem 352 (by decide +kernel) (by decide +kernel)
theorem w_353 : (.instanceMethod yX0_isComplete : Cond) ∈ TB := TB_mem 353 (by decide +kernel) (by decide +kernel)
theorem w_354 : (.selects RX0 yX0_isComplete yX0_isComplete : Cond) ∈ TB := TB_mem 354 (by decide +kernel) (by decide +kernel)
theorem w_355 : (.code yX0_isComplete cX0_isComplete 1 (some .boolean) : Cond) ∈ TB := TB_mem 355 (by decide +kernel) (by decide +kernel)
theorem w_356 : (.methodLink RX0 42 yX0_takesComma : Cond) ∈ TB := TB_mem 356 (by decide +kernel) (by decide +kernel)
theorem w_358 : (.instanceMethod yX0_takesComma : Cond) ∈ TB := TB_mem 358 (by decide +kernel) (by decide +kernel)
theorem w_359 : (.code yX0_takesComma cX0_takesComma 2 (some .boolean) : Cond) ∈ TB := TB_mem 359 (by decide +kernel) (by decide +kernel)
theorem w_360 : (.selects RX2 ⟨RX4, "takes", "(I)Z"⟩ yX2_takes : Cond) ∈ TB := TB_mem 360 (by decide +kernel) (by decide +kernel)
theorem w_361 : (.instanceMethod yX2_takes : Cond) ∈ TB := TB_mem 361 (by decide +kernel) (by decide +kernel)
theorem w_362 : (.code yX2_takes cX2_takes 3 (some .boolean) : Cond) ∈ TB := TB_mem 362 (by decide +kernel) (by decide +kernel)
theorem w_365 : (.static yX8_holds : Cond) ∈ TB := TB_mem 365 (by decide +kernel) (by decide +kernel)
theorem w_366 : (.code yX8_holds cX8_holds 2 (some .boolean) : Cond) ∈ TB := TB_mem 366 (by decide +kernel) (by decide +kernel)
theorem w_367 : (.methodLink RX6 36 ⟨RX4, "isComplete", "()Z"⟩ : Cond) ∈ TB := TB_mem 367 (by decide +kernel) (by decide +kernel)
theorem w_369 : (.sameMethod RX4 RX4 "isComplete" "()Z" : Cond) ∈ TB := TB_mem 369 (by decide +kernel) (by decide +kernel)
theorem w_370 : (.selects RX0 ⟨RX4, "isComplete", "()Z"⟩ yX0_isComplete : Cond) ∈ TB := TB_mem 370 (by decide +kernel) (by decide +kernel)
theorem w_371 : (.selects RX2 ⟨RX4, "isComplete", "()Z"⟩ yX2_isComplete : Cond) ∈ TB := TB_mem 371 (by decide +kernel) (by decide +kernel)
theorem w_372 : (.instanceMethod yX2_isComplete : Cond) ∈ TB := TB_mem 372 (by decide +kernel) (by decide +kernel)
theorem w_373 : (.code yX2_isComplete cX2_isComplete 1 (some .boolean) : Cond) ∈ TB := TB_mem 373 (by decide +kernel) (by decide +kernel)
theorem w_378 : (.methodLink RX8 258 yX7_mostWronglyBelieved : Cond) ∈ TB := TB_mem 378 (by decide +kernel) (by decide +kernel)
theorem w_379 : (.instanceMethod yX7_mostWronglyBelieved : Cond) ∈ TB := TB_mem 379 (by decide +kernel) (by decide +kernel)
theorem w_380 : (.selects RX7 yX7_mostWronglyBelieved yX7_mostWronglyBelieved : Cond) ∈ TB := TB_mem 380 (by decide +kernel) (by decide +kernel)
theorem w_381 : (.code yX7_mostWronglyBelieved cX7_mostWronglyBelieved 6 (some .int) : Cond) ∈ TB := TB_mem 381 (by decide +kernel) (by decide +kernel)
theorem w_383 : (.static yX8_pairIndex : Cond) ∈ TB := TB_mem 383 (by decide +kernel) (by decide +kernel)
theorem w_384 : (.code yX8_pairIndex cX8_pairIndex 4 (some .int) : Cond) ∈ TB := TB_mem 384 (by decide +kernel) (by decide +kernel)
theorem w_385 : (.methodLink RX8 386 Lib.Math.min.name : Cond) ∈ TB := TB_mem 385 (by decide +kernel) (by decide +kernel)
theorem w_386 : (.static Lib.Math.min.name : Cond) ∈ TB := TB_mem 386 (by decide +kernel) (by decide +kernel)
theorem w_387 : (.code Lib.Math.min.name Lib.Math.min.code 2 (some .int) : Cond) ∈ TB := TB_mem 387 (by decide +kernel) (by decide +kernel)
theorem w_388 : (.methodLink RX8 391 Lib.Math.max.name : Cond) ∈ TB := TB_mem 388 (by decide +kernel) (by decide +kernel)
theorem w_389 : (.static Lib.Math.max.name : Cond) ∈ TB := TB_mem 389 (by decide +kernel) (by decide +kernel)
theorem w_390 : (.code Lib.Math.max.name Lib.Math.max.code 2 (some .int) : Cond) ∈ TB := TB_mem 390 (by decide +kernel) (by decide +kernel)
theorem w_391 : (.methodLink RX7 85 yX7_isLinked : Cond) ∈ TB := TB_mem 391 (by decide +kernel) (by decide +kernel)
theorem w_392 : (.instanceMethod yX7_isLinked : Cond) ∈ TB := TB_mem 392 (by decide +kernel) (by decide +kernel)
theorem w_393 : (.selects RX7 yX7_isLinked yX7_isLinked : Cond) ∈ TB := TB_mem 393 (by decide +kernel) (by decide +kernel)
theorem w_394 : (.code yX7_isLinked cX7_isLinked 2 (some .boolean) : Cond) ∈ TB := TB_mem 394 (by decide +kernel) (by decide +kernel)
theorem w_396 : (.methodLink RX7 117 yX7_differenceOf : Cond) ∈ TB := TB_mem 396 (by decide +kernel) (by decide +kernel)
theorem w_398 : (.instanceMethod yX7_differenceOf : Cond) ∈ TB := TB_mem 398 (by decide +kernel) (by decide +kernel)
theorem w_399 : (.code yX7_differenceOf cX7_differenceOf 2 (some .int) : Cond) ∈ TB := TB_mem 399 (by decide +kernel) (by decide +kernel)
theorem w_400 : (.methodLink RX7 88 yX7_shareOf : Cond) ∈ TB := TB_mem 400 (by decide +kernel) (by decide +kernel)
theorem w_401 : (.instanceMethod yX7_shareOf : Cond) ∈ TB := TB_mem 401 (by decide +kernel) (by decide +kernel)
theorem w_402 : (.selects RX7 yX7_shareOf yX7_shareOf : Cond) ∈ TB := TB_mem 402 (by decide +kernel) (by decide +kernel)
theorem w_403 : (.code yX7_shareOf cX7_shareOf 3 (some .int) : Cond) ∈ TB := TB_mem 403 (by decide +kernel) (by decide +kernel)
theorem w_404 : (.methodLink RX7 129 Lib.Math.abs.name : Cond) ∈ TB := TB_mem 404 (by decide +kernel) (by decide +kernel)
theorem w_405 : (.static Lib.Math.abs.name : Cond) ∈ TB := TB_mem 405 (by decide +kernel) (by decide +kernel)
theorem w_406 : (.code Lib.Math.abs.name Lib.Math.abs.code 1 (some .int) : Cond) ∈ TB := TB_mem 406 (by decide +kernel) (by decide +kernel)
theorem w_410 : (.classLink RL 13 "java/lang/IllegalArgumentException" : Cond) ∈ TB := TB_mem 410 (by decide +kernel) (by decide +kernel)
theorem w_411 : (.classLink RL 15 "java/lang/IllegalStateException" : Cond) ∈ TB := TB_mem 411 (by decide +kernel) (by decide +kernel)
theorem w_412 : (.methodLink RL 7 yX8_append : Cond) ∈ TB := TB_mem 412 (by decide +kernel) (by decide +kernel)
theorem w_413 : (.instanceMethod yX8_append : Cond) ∈ TB := TB_mem 413 (by decide +kernel) (by decide +kernel)
theorem w_414 : (.selects RX8 yX8_append yX8_append : Cond) ∈ TB := TB_mem 414 (by decide +kernel) (by decide +kernel)
theorem w_415 : (.code yX8_append cX8_append 2 (some .int) : Cond) ∈ TB := TB_mem 415 (by decide +kernel) (by decide +kernel)
theorem w_416 : (.methodLink RX8 64 yX8_needRange : Cond) ∈ TB := TB_mem 416 (by decide +kernel) (by decide +kernel)
theorem w_417 : (.static yX8_needRange : Cond) ∈ TB := TB_mem 417 (by decide +kernel) (by decide +kernel)
theorem w_418 : (.code yX8_needRange cX8_needRange 3 none : Cond) ∈ TB := TB_mem 418 (by decide +kernel) (by decide +kernel)
theorem w_419 : (.methodLink RX8 340 yX8_isIn : Cond) ∈ TB := TB_mem 419 (by decide +kernel) (by decide +kernel)
theorem w_488 : (.methodLink RX8 68 yX6_isFull : Cond) ∈ TB := TB_mem 488 (by decide +kernel) (by decide +kernel)
theorem w_489 : (.instanceMethod yX6_isFull : Cond) ∈ TB := TB_mem 489 (by decide +kernel) (by decide +kernel)
theorem w_490 : (.selects RX6 yX6_isFull yX6_isFull : Cond) ∈ TB := TB_mem 490 (by decide +kernel) (by decide +kernel)
theorem w_491 : (.code yX6_isFull cX6_isFull 1 (some .boolean) : Cond) ∈ TB := TB_mem 491 (by decide +kernel) (by decide +kernel)
theorem w_508 : (.methodLink RX8 79 yX6_put : Cond) ∈ TB := TB_mem 508 (by decide +kernel) (by decide +kernel)
theorem w_509 : (.instanceMethod yX6_put : Cond) ∈ TB := TB_mem 509 (by decide +kernel) (by decide +kernel)
theorem w_510 : (.selects RX6 yX6_put yX6_put : Cond) ∈ TB := TB_mem 510 (by decide +kernel) (by decide +kernel)
theorem w_511 : (.code yX6_put cX6_put 2 (some .int) : Cond) ∈ TB := TB_mem 511 (by decide +kernel) (by decide +kernel)
theorem w_524 : (.methodLink RX7 61 arraycopyName : Cond) ∈ TB := TB_mem 524 (by decide +kernel) (by decide +kernel)
theorem w_525 : (.static arraycopyName : Cond) ∈ TB := TB_mem 525 (by decide +kernel) (by decide +kernel)
theorem w_526 : (.native arraycopyName : Cond) ∈ TB := TB_mem 526 (by decide +kernel) (by decide +kernel)
theorem w_539 : (.methodLink RX8 302 yX0_begin : Cond) ∈ TB := TB_mem 539 (by decide +kernel) (by decide +kernel)
theorem w_540 : (.methodLink RX8 308 yX6_signAt : Cond) ∈ TB := TB_mem 540 (by decide +kernel) (by decide +kernel)
theorem w_541 : (.methodLink RX8 311 yX8_doEntry : Cond) ∈ TB := TB_mem 541 (by decide +kernel) (by decide +kernel)
theorem w_543 : (.instanceMethod yX8_doEntry : Cond) ∈ TB := TB_mem 543 (by decide +kernel) (by decide +kernel)
theorem w_544 : (.code yX8_doEntry cX8_doEntry 2 (some .boolean) : Cond) ∈ TB := TB_mem 544 (by decide +kernel) (by decide +kernel)
theorem w_545 : (.methodLink RX8 317 yX0_isTable : Cond) ∈ TB := TB_mem 545 (by decide +kernel) (by decide +kernel)
theorem w_546 : (.instanceMethod yX0_isTable : Cond) ∈ TB := TB_mem 546 (by decide +kernel) (by decide +kernel)
theorem w_547 : (.selects RX0 yX0_isTable yX0_isTable : Cond) ∈ TB := TB_mem 547 (by decide +kernel) (by decide +kernel)
theorem w_548 : (.code yX0_isTable cX0_isTable 1 (some .boolean) : Cond) ∈ TB := TB_mem 548 (by decide +kernel) (by decide +kernel)
theorem w_549 : (.methodLink RX8 137 yX7_isFull : Cond) ∈ TB := TB_mem 549 (by decide +kernel) (by decide +kernel)
theorem w_550 : (.instanceMethod yX7_isFull : Cond) ∈ TB := TB_mem 550 (by decide +kernel) (by decide +kernel)
theorem w_551 : (.selects RX7 yX7_isFull yX7_isFull : Cond) ∈ TB := TB_mem 551 (by decide +kernel) (by decide +kernel)
theorem w_552 : (.code yX7_isFull cX7_isFull 1 (some .boolean) : Cond) ∈ TB := TB_mem 552 (by decide +kernel) (by decide +kernel)
theorem w_553 : (.methodLink RX8 144 yX7_addTable : Cond) ∈ TB := TB_mem 553 (by decide +kernel) (by decide +kernel)
theorem w_554 : (.instanceMethod yX7_addTable : Cond) ∈ TB := TB_mem 554 (by decide +kernel) (by decide +kernel)
theorem w_555 : (.selects RX7 yX7_addTable yX7_addTable : Cond) ∈ TB := TB_mem 555 (by decide +kernel) (by decide +kernel)
theorem w_556 : (.code yX7_addTable cX7_addTable 2 (some .int) : Cond) ∈ TB := TB_mem 556 (by decide +kernel) (by decide +kernel)
theorem w_557 : (.methodLink RX8 329 yX7_hasTwoTables : Cond) ∈ TB := TB_mem 557 (by decide +kernel) (by decide +kernel)
theorem w_558 : (.instanceMethod yX7_hasTwoTables : Cond) ∈ TB := TB_mem 558 (by decide +kernel) (by decide +kernel)
theorem w_559 : (.selects RX7 yX7_hasTwoTables yX7_hasTwoTables : Cond) ∈ TB := TB_mem 559 (by decide +kernel) (by decide +kernel)
theorem w_560 : (.code yX7_hasTwoTables cX7_hasTwoTables 3 (some .boolean) : Cond) ∈ TB := TB_mem 560 (by decide +kernel) (by decide +kernel)
theorem w_561 : (.methodLink RX7 67 yX7_hasTable : Cond) ∈ TB := TB_mem 561 (by decide +kernel) (by decide +kernel)
theorem w_562 : (.instanceMethod yX7_hasTable : Cond) ∈ TB := TB_mem 562 (by decide +kernel) (by decide +kernel)
theorem w_563 : (.selects RX7 yX7_hasTable yX7_hasTable : Cond) ∈ TB := TB_mem 563 (by decide +kernel) (by decide +kernel)
theorem w_564 : (.code yX7_hasTable cX7_hasTable 2 (some .boolean) : Cond) ∈ TB := TB_mem 564 (by decide +kernel) (by decide +kernel)
theorem w_565 : (.methodLink RX8 124 yX8_pairIndex : Cond) ∈ TB := TB_mem 565 (by decide +kernel) (by decide +kernel)
theorem w_566 : (.methodLink RX8 150 yX7_linkPair : Cond) ∈ TB := TB_mem 566 (by decide +kernel) (by decide +kernel)
theorem w_567 : (.instanceMethod yX7_linkPair : Cond) ∈ TB := TB_mem 567 (by decide +kernel) (by decide +kernel)
theorem w_568 : (.selects RX7 yX7_linkPair yX7_linkPair : Cond) ∈ TB := TB_mem 568 (by decide +kernel) (by decide +kernel)
theorem w_569 : (.code yX7_linkPair cX7_linkPair 4 (some .int) : Cond) ∈ TB := TB_mem 569 (by decide +kernel) (by decide +kernel)
theorem w_570 : (.methodLink RX7 96 yX7_forget : Cond) ∈ TB := TB_mem 570 (by decide +kernel) (by decide +kernel)
theorem w_571 : (.instanceMethod yX7_forget : Cond) ∈ TB := TB_mem 571 (by decide +kernel) (by decide +kernel)
theorem w_572 : (.selects RX7 yX7_forget yX7_forget : Cond) ∈ TB := TB_mem 572 (by decide +kernel) (by decide +kernel)
theorem w_573 : (.code yX7_forget cX7_forget 2 none : Cond) ∈ TB := TB_mem 573 (by decide +kernel) (by decide +kernel)
theorem w_574 : (.methodLink RX7 78 yX7_linkCount : Cond) ∈ TB := TB_mem 574 (by decide +kernel) (by decide +kernel)
theorem w_576 : (.instanceMethod yX7_linkCount : Cond) ∈ TB := TB_mem 576 (by decide +kernel) (by decide +kernel)
theorem w_577 : (.code yX7_linkCount cX7_linkCount 3 (some .int) : Cond) ∈ TB := TB_mem 577 (by decide +kernel) (by decide +kernel)
theorem w_578 : (.methodLink RX8 314 yX0_takes : Cond) ∈ TB := TB_mem 578 (by decide +kernel) (by decide +kernel)
theorem w_582 : (.methodLink RL 21 yX8_about : Cond) ∈ TB := TB_mem 582 (by decide +kernel) (by decide +kernel)
theorem w_583 : (.instanceMethod yX8_about : Cond) ∈ TB := TB_mem 583 (by decide +kernel) (by decide +kernel)
theorem w_584 : (.selects RX8 yX8_about yX8_about : Cond) ∈ TB := TB_mem 584 (by decide +kernel) (by decide +kernel)
theorem w_585 : (.code yX8_about cX8_about 2 (some .int) : Cond) ∈ TB := TB_mem 585 (by decide +kernel) (by decide +kernel)
theorem w_586 : (.methodLink RX8 105 yX7_numberOf : Cond) ∈ TB := TB_mem 586 (by decide +kernel) (by decide +kernel)
theorem w_587 : (.instanceMethod yX7_numberOf : Cond) ∈ TB := TB_mem 587 (by decide +kernel) (by decide +kernel)
theorem w_588 : (.selects RX7 yX7_numberOf yX7_numberOf : Cond) ∈ TB := TB_mem 588 (by decide +kernel) (by decide +kernel)
theorem w_589 : (.code yX7_numberOf cX7_numberOf 2 (some .int) : Cond) ∈ TB := TB_mem 589 (by decide +kernel) (by decide +kernel)
theorem w_590 : (.methodLink RX7 82 yX7_memoryCount : Cond) ∈ TB := TB_mem 590 (by decide +kernel) (by decide +kernel)
theorem w_591 : (.instanceMethod yX7_memoryCount : Cond) ∈ TB := TB_mem 591 (by decide +kernel) (by decide +kernel)
theorem w_592 : (.selects RX7 yX7_memoryCount yX7_memoryCount : Cond) ∈ TB := TB_mem 592 (by decide +kernel) (by decide +kernel)
theorem w_593 : (.code yX7_memoryCount cX7_memoryCount 3 (some .int) : Cond) ∈ TB := TB_mem 593 (by decide +kernel) (by decide +kernel)
theorem w_597 : (.methodLink RL 24 yX8_sum : Cond) ∈ TB := TB_mem 597 (by decide +kernel) (by decide +kernel)
theorem w_598 : (.instanceMethod yX8_sum : Cond) ∈ TB := TB_mem 598 (by decide +kernel) (by decide +kernel)
theorem w_599 : (.selects RX8 yX8_sum yX8_sum : Cond) ∈ TB := TB_mem 599 (by decide +kernel) (by decide +kernel)
theorem w_600 : (.code yX8_sum cX8_sum 2 (some .long) : Cond) ∈ TB := TB_mem 600 (by decide +kernel) (by decide +kernel)
theorem w_601 : (.methodLink RX8 109 yX7_sumOf : Cond) ∈ TB := TB_mem 601 (by decide +kernel) (by decide +kernel)
theorem w_602 : (.instanceMethod yX7_sumOf : Cond) ∈ TB := TB_mem 602 (by decide +kernel) (by decide +kernel)
theorem w_603 : (.selects RX7 yX7_sumOf yX7_sumOf : Cond) ∈ TB := TB_mem 603 (by decide +kernel) (by decide +kernel)
theorem w_604 : (.code yX7_sumOf cX7_sumOf 2 (some .long) : Cond) ∈ TB := TB_mem 604 (by decide +kernel) (by decide +kernel)
theorem w_608 : (.classLink RL 31 "java/lang/IndexOutOfBoundsException" : Cond) ∈ TB := TB_mem 608 (by decide +kernel) (by decide +kernel)
theorem w_609 : (.methodLink RL 28 yX8_size : Cond) ∈ TB := TB_mem 609 (by decide +kernel) (by decide +kernel)
theorem w_610 : (.instanceMethod yX8_size : Cond) ∈ TB := TB_mem 610 (by decide +kernel) (by decide +kernel)
theorem w_611 : (.selects RX8 yX8_size yX8_size : Cond) ∈ TB := TB_mem 611 (by decide +kernel) (by decide +kernel)
theorem w_612 : (.code yX8_size cX8_size 2 (some .int) : Cond) ∈ TB := TB_mem 612 (by decide +kernel) (by decide +kernel)
theorem w_613 : (.methodLink RX8 113 yX8_needTable : Cond) ∈ TB := TB_mem 613 (by decide +kernel) (by decide +kernel)
theorem w_615 : (.instanceMethod yX8_needTable : Cond) ∈ TB := TB_mem 615 (by decide +kernel) (by decide +kernel)
theorem w_616 : (.code yX8_needTable cX8_needTable 2 none : Cond) ∈ TB := TB_mem 616 (by decide +kernel) (by decide +kernel)
theorem w_617 : (.methodLink RX8 361 yX7_hasTable : Cond) ∈ TB := TB_mem 617 (by decide +kernel) (by decide +kernel)
theorem w_634 : (.methodLink RX8 117 yX7_sizeOf : Cond) ∈ TB := TB_mem 634 (by decide +kernel) (by decide +kernel)
theorem w_635 : (.instanceMethod yX7_sizeOf : Cond) ∈ TB := TB_mem 635 (by decide +kernel) (by decide +kernel)
theorem w_636 : (.selects RX7 yX7_sizeOf yX7_sizeOf : Cond) ∈ TB := TB_mem 636 (by decide +kernel) (by decide +kernel)
theorem w_637 : (.code yX7_sizeOf cX7_sizeOf 2 (some .int) : Cond) ∈ TB := TB_mem 637 (by decide +kernel) (by decide +kernel)
theorem w_641 : (.methodLink RL 33 yX8_pair : Cond) ∈ TB := TB_mem 641 (by decide +kernel) (by decide +kernel)
theorem w_642 : (.instanceMethod yX8_pair : Cond) ∈ TB := TB_mem 642 (by decide +kernel) (by decide +kernel)
theorem w_643 : (.selects RX8 yX8_pair yX8_pair : Cond) ∈ TB := TB_mem 643 (by decide +kernel) (by decide +kernel)
theorem w_644 : (.code yX8_pair cX8_pair 4 (some .int) : Cond) ∈ TB := TB_mem 644 (by decide +kernel) (by decide +kernel)
theorem w_645 : (.methodLink RX8 120 yX8_needTwoTables : Cond) ∈ TB := TB_mem 645 (by decide +kernel) (by decide +kernel)
theorem w_647 : (.instanceMethod yX8_needTwoTables : Cond) ∈ TB := TB_mem 647 (by decide +kernel) (by decide +kernel)
theorem w_648 : (.code yX8_needTwoTables cX8_needTwoTables 3 none : Cond) ∈ TB := TB_mem 648 (by decide +kernel) (by decide +kernel)
theorem w_650 : (.methodLink RX8 128 yX7_pairNumberOf : Cond) ∈ TB := TB_mem 650 (by decide +kernel) (by decide +kernel)
theorem w_651 : (.instanceMethod yX7_pairNumberOf : Cond) ∈ TB := TB_mem 651 (by decide +kernel) (by decide +kernel)
theorem w_652 : (.selects RX7 yX7_pairNumberOf yX7_pairNumberOf : Cond) ∈ TB := TB_mem 652 (by decide +kernel) (by decide +kernel)
theorem w_653 : (.code yX7_pairNumberOf cX7_pairNumberOf 3 (some .int) : Cond) ∈ TB := TB_mem 653 (by decide +kernel) (by decide +kernel)
theorem w_654 : (.methodLink RX7 75 yX7_hasMemory : Cond) ∈ TB := TB_mem 654 (by decide +kernel) (by decide +kernel)
theorem w_655 : (.instanceMethod yX7_hasMemory : Cond) ∈ TB := TB_mem 655 (by decide +kernel) (by decide +kernel)
theorem w_656 : (.selects RX7 yX7_hasMemory yX7_hasMemory : Cond) ∈ TB := TB_mem 656 (by decide +kernel) (by decide +kernel)
theorem w_657 : (.code yX7_hasMemory cX7_hasMemory 2 (some .boolean) : Cond) ∈ TB := TB_mem 657 (by decide +kernel) (by decide +kernel)
theorem w_661 : (.methodLink RL 37 yX8_surprise : Cond) ∈ TB := TB_mem 661 (by decide +kernel) (by decide +kernel)
theorem w_662 : (.instanceMethod yX8_surprise : Cond) ∈ TB := TB_mem 662 (by decide +kernel) (by decide +kernel)
theorem w_663 : (.selects RX8 yX8_surprise yX8_surprise : Cond) ∈ TB := TB_mem 663 (by decide +kernel) (by decide +kernel)
theorem w_664 : (.code yX8_surprise cX8_surprise 3 (some .int) : Cond) ∈ TB := TB_mem 664 (by decide +kernel) (by decide +kernel)
theorem w_665 : (.methodLink RX8 131 yX7_surpriseNumberOf : Cond) ∈ TB := TB_mem 665 (by decide +kernel) (by decide +kernel)
theorem w_666 : (.instanceMethod yX7_surpriseNumberOf : Cond) ∈ TB := TB_mem 666 (by decide +kernel) (by decide +kernel)
theorem w_667 : (.selects RX7 yX7_surpriseNumberOf yX7_surpriseNumberOf : Cond) ∈ TB := TB_mem 667 (by decide +kernel) (by decide +kernel)
theorem w_668 : (.code yX7_surpriseNumberOf cX7_surpriseNumberOf 3 (some .int) : Cond) ∈ TB := TB_mem 668 (by decide +kernel) (by decide +kernel)
theorem w_672 : (.methodLink RL 41 yX8_setting : Cond) ∈ TB := TB_mem 672 (by decide +kernel) (by decide +kernel)
theorem w_673 : (.instanceMethod yX8_setting : Cond) ∈ TB := TB_mem 673 (by decide +kernel) (by decide +kernel)
theorem w_674 : (.selects RX8 yX8_setting yX8_setting : Cond) ∈ TB := TB_mem 674 (by decide +kernel) (by decide +kernel)
theorem w_675 : (.code yX8_setting cX8_setting 2 (some .int) : Cond) ∈ TB := TB_mem 675 (by decide +kernel) (by decide +kernel)
theorem w_676 : (.methodLink RX8 134 yX7_settingOf : Cond) ∈ TB := TB_mem 676 (by decide +kernel) (by decide +kernel)
theorem w_677 : (.instanceMethod yX7_settingOf : Cond) ∈ TB := TB_mem 677 (by decide +kernel) (by decide +kernel)
theorem w_678 : (.selects RX7 yX7_settingOf yX7_settingOf : Cond) ∈ TB := TB_mem 678 (by decide +kernel) (by decide +kernel)
theorem w_679 : (.code yX7_settingOf cX7_settingOf 2 (some .int) : Cond) ∈ TB := TB_mem 679 (by decide +kernel) (by decide +kernel)
theorem w_698 : (.instanceMethod yX7_takeFrom : Cond) ∈ TB := TB_mem 698 (by decide +kernel) (by decide +kernel)
theorem w_699 : (.selects RX7 yX7_takeFrom yX7_takeFrom : Cond) ∈ TB := TB_mem 699 (by decide +kernel) (by decide +kernel)
theorem w_700 : (.code yX7_takeFrom cX7_takeFrom 2 none : Cond) ∈ TB := TB_mem 700 (by decide +kernel) (by decide +kernel)
theorem w_713 : (.methodLink RX7 92 yX7_sizeOf : Cond) ∈ TB := TB_mem 713 (by decide +kernel) (by decide +kernel)
theorem w_728 : (.methodLink RX8 154 yX7_isLinked : Cond) ∈ TB := TB_mem 728 (by decide +kernel) (by decide +kernel)
theorem w_730 : (.methodLink RX8 160 yX7_changeShare : Cond) ∈ TB := TB_mem 730 (by decide +kernel) (by decide +kernel)
theorem w_731 : (.instanceMethod yX7_changeShare : Cond) ∈ TB := TB_mem 731 (by decide +kernel) (by decide +kernel)
theorem w_732 : (.selects RX7 yX7_changeShare yX7_changeShare : Cond) ∈ TB := TB_mem 732 (by decide +kernel) (by decide +kernel)
theorem w_733 : (.code yX7_changeShare cX7_changeShare 4 (some .int) : Cond) ∈ TB := TB_mem 733 (by decide +kernel) (by decide +kernel)
theorem w_741 : (.methodLink RX8 163 yX8_needTables : Cond) ∈ TB := TB_mem 741 (by decide +kernel) (by decide +kernel)
theorem w_743 : (.instanceMethod yX8_needTables : Cond) ∈ TB := TB_mem 743 (by decide +kernel) (by decide +kernel)
theorem w_744 : (.code yX8_needTables cX8_needTables 2 none : Cond) ∈ TB := TB_mem 744 (by decide +kernel) (by decide +kernel)
theorem w_745 : (.methodLink RX8 234 yX7_hasTables : Cond) ∈ TB := TB_mem 745 (by decide +kernel) (by decide +kernel)
theorem w_746 : (.instanceMethod yX7_hasTables : Cond) ∈ TB := TB_mem 746 (by decide +kernel) (by decide +kernel)
theorem w_747 : (.selects RX7 yX7_hasTables yX7_hasTables : Cond) ∈ TB := TB_mem 747 (by decide +kernel) (by decide +kernel)
theorem w_748 : (.code yX7_hasTables cX7_hasTables 2 (some .boolean) : Cond) ∈ TB := TB_mem 748 (by decide +kernel) (by decide +kernel)
theorem w_750 : (.methodLink RX8 166 yX8_needSomeTable : Cond) ∈ TB := TB_mem 750 (by decide +kernel) (by decide +kernel)
theorem w_751 : (.static yX8_needSomeTable : Cond) ∈ TB := TB_mem 751 (by decide +kernel) (by decide +kernel)
theorem w_752 : (.code yX8_needSomeTable cX8_needSomeTable 1 none : Cond) ∈ TB := TB_mem 752 (by decide +kernel) (by decide +kernel)
theorem w_754 : (.methodLink RX8 169 yX8_runIn : Cond) ∈ TB := TB_mem 754 (by decide +kernel) (by decide +kernel)
theorem w_756 : (.instanceMethod yX8_runIn : Cond) ∈ TB := TB_mem 756 (by decide +kernel) (by decide +kernel)
theorem w_757 : (.code yX8_runIn cX8_runIn 5 (some .int) : Cond) ∈ TB := TB_mem 757 (by decide +kernel) (by decide +kernel)
theorem w_758 : (.methodLink RX8 219 yX8_regretIn : Cond) ∈ TB := TB_mem 758 (by decide +kernel) (by decide +kernel)
theorem w_760 : (.instanceMethod yX8_regretIn : Cond) ∈ TB := TB_mem 760 (by decide +kernel) (by decide +kernel)
theorem w_761 : (.code yX8_regretIn cX8_regretIn 3 (some .long) : Cond) ∈ TB := TB_mem 761 (by decide +kernel) (by decide +kernel)
theorem w_762 : (.methodLink RX8 210 yX3_choose : Cond) ∈ TB := TB_mem 762 (by decide +kernel) (by decide +kernel)
theorem w_763 : (.instanceMethod yX3_choose : Cond) ∈ TB := TB_mem 763 (by decide +kernel) (by decide +kernel)
theorem w_764 : (.selects RX3 yX3_choose yX3_choose : Cond) ∈ TB := TB_mem 764 (by decide +kernel) (by decide +kernel)
theorem w_765 : (.code yX3_choose cX3_choose 5 none : Cond) ∈ TB := TB_mem 765 (by decide +kernel) (by decide +kernel)
theorem w_766 : (.methodLink RX3 63 yX3_weigh : Cond) ∈ TB := TB_mem 766 (by decide +kernel) (by decide +kernel)
theorem w_767 : (.instanceMethod yX3_weigh : Cond) ∈ TB := TB_mem 767 (by decide +kernel) (by decide +kernel)
theorem w_768 : (.selects RX3 yX3_weigh yX3_weigh : Cond) ∈ TB := TB_mem 768 (by decide +kernel) (by decide +kernel)
theorem w_769 : (.code yX3_weigh cX3_weigh 6 none : Cond) ∈ TB := TB_mem 769 (by decide +kernel) (by decide +kernel)
theorem w_770 : (.methodLink RX3 41 yX7_sizeOf : Cond) ∈ TB := TB_mem 770 (by decide +kernel) (by decide +kernel)
theorem w_771 : (.methodLink RX3 47 yX7_shareOf : Cond) ∈ TB := TB_mem 771 (by decide +kernel) (by decide +kernel)
theorem w_772 : (.methodLink RX3 51 yX3_rowsJoined : Cond) ∈ TB := TB_mem 772 (by decide +kernel) (by decide +kernel)
theorem w_774 : (.instanceMethod yX3_rowsJoined : Cond) ∈ TB := TB_mem 774 (by decide +kernel) (by decide +kernel)
theorem w_775 : (.code yX3_rowsJoined cX3_rowsJoined 8 (some .long) : Cond) ∈ TB := TB_mem 775 (by decide +kernel) (by decide +kernel)
theorem w_776 : (.methodLink RX3 55 yX3_rowsOf : Cond) ∈ TB := TB_mem 776 (by decide +kernel) (by decide +kernel)
theorem w_777 : (.instanceMethod yX3_rowsOf : Cond) ∈ TB := TB_mem 777 (by decide +kernel) (by decide +kernel)
theorem w_778 : (.selects RX3 yX3_rowsOf yX3_rowsOf : Cond) ∈ TB := TB_mem 778 (by decide +kernel) (by decide +kernel)
theorem w_779 : (.code yX3_rowsOf cX3_rowsOf 2 (some .long) : Cond) ∈ TB := TB_mem 779 (by decide +kernel) (by decide +kernel)
theorem w_780 : (.methodLink RX3 58 yX3_sizeOf : Cond) ∈ TB := TB_mem 780 (by decide +kernel) (by decide +kernel)
theorem w_782 : (.instanceMethod yX3_sizeOf : Cond) ∈ TB := TB_mem 782 (by decide +kernel) (by decide +kernel)
theorem w_783 : (.code yX3_sizeOf cX3_sizeOf 2 (some .int) : Cond) ∈ TB := TB_mem 783 (by decide +kernel) (by decide +kernel)
theorem w_784 : (.constantLong RX3 59 (1000000000000) : Cond) ∈ TB := TB_mem 784 (by decide +kernel) (by decide +kernel)
theorem w_785 : (.constantLong RX3 61 (1000) : Cond) ∈ TB := TB_mem 785 (by decide +kernel) (by decide +kernel)
theorem w_786 : (.methodLink RX3 67 yX3_findNext : Cond) ∈ TB := TB_mem 786 (by decide +kernel) (by decide +kernel)
theorem w_788 : (.instanceMethod yX3_findNext : Cond) ∈ TB := TB_mem 788 (by decide +kernel) (by decide +kernel)
theorem w_789 : (.code yX3_findNext cX3_findNext 9 none : Cond) ∈ TB := TB_mem 789 (by decide +kernel) (by decide +kernel)
theorem w_790 : (.methodLink RX3 74 yX3_cheaperWay : Cond) ∈ TB := TB_mem 790 (by decide +kernel) (by decide +kernel)
theorem w_792 : (.instanceMethod yX3_cheaperWay : Cond) ∈ TB := TB_mem 792 (by decide +kernel) (by decide +kernel)
theorem w_793 : (.code yX3_cheaperWay cX3_cheaperWay 6 (some .int) : Cond) ∈ TB := TB_mem 793 (by decide +kernel) (by decide +kernel)
theorem w_794 : (.constantLong RX3 83 (3) : Cond) ∈ TB := TB_mem 794 (by decide +kernel) (by decide +kernel)
theorem w_795 : (.methodLink RX3 77 yX3_stepCost : Cond) ∈ TB := TB_mem 795 (by decide +kernel) (by decide +kernel)
theorem w_797 : (.instanceMethod yX3_stepCost : Cond) ∈ TB := TB_mem 797 (by decide +kernel) (by decide +kernel)
theorem w_798 : (.code yX3_stepCost cX3_stepCost 9 (some .long) : Cond) ∈ TB := TB_mem 798 (by decide +kernel) (by decide +kernel)
theorem w_799 : (.constantLong RX3 85 (1000000000000000) : Cond) ∈ TB := TB_mem 799 (by decide +kernel) (by decide +kernel)
theorem w_800 : (.methodLink RX3 81 yX3_restOf : Cond) ∈ TB := TB_mem 800 (by decide +kernel) (by decide +kernel)
theorem w_802 : (.instanceMethod yX3_restOf : Cond) ∈ TB := TB_mem 802 (by decide +kernel) (by decide +kernel)
theorem w_803 : (.code yX3_restOf cX3_restOf 2 (some .long) : Cond) ∈ TB := TB_mem 803 (by decide +kernel) (by decide +kernel)
theorem w_804 : (.methodLink RX3 71 yX3_followNext : Cond) ∈ TB := TB_mem 804 (by decide +kernel) (by decide +kernel)
theorem w_806 : (.instanceMethod yX3_followNext : Cond) ∈ TB := TB_mem 806 (by decide +kernel) (by decide +kernel)
theorem w_807 : (.code yX3_followNext cX3_followNext 4 none : Cond) ∈ TB := TB_mem 807 (by decide +kernel) (by decide +kernel)
theorem w_808 : (.methodLink RX8 227 yX3_costAsPlannedBy : Cond) ∈ TB := TB_mem 808 (by decide +kernel) (by decide +kernel)
theorem w_809 : (.instanceMethod yX3_costAsPlannedBy : Cond) ∈ TB := TB_mem 809 (by decide +kernel) (by decide +kernel)
theorem w_810 : (.selects RX3 yX3_costAsPlannedBy yX3_costAsPlannedBy : Cond) ∈ TB := TB_mem 810 (by decide +kernel) (by decide +kernel)
theorem w_811 : (.code yX3_costAsPlannedBy cX3_costAsPlannedBy 7 (some .long) : Cond) ∈ TB := TB_mem 811 (by decide +kernel) (by decide +kernel)
theorem w_812 : (.methodLink RX3 87 yX3_tableAt : Cond) ∈ TB := TB_mem 812 (by decide +kernel) (by decide +kernel)
theorem w_813 : (.instanceMethod yX3_tableAt : Cond) ∈ TB := TB_mem 813 (by decide +kernel) (by decide +kernel)
theorem w_814 : (.selects RX3 yX3_tableAt yX3_tableAt : Cond) ∈ TB := TB_mem 814 (by decide +kernel) (by decide +kernel)
theorem w_815 : (.code yX3_tableAt cX3_tableAt 2 (some .int) : Cond) ∈ TB := TB_mem 815 (by decide +kernel) (by decide +kernel)
theorem w_816 : (.methodLink RX3 89 yX3_wayAt : Cond) ∈ TB := TB_mem 816 (by decide +kernel) (by decide +kernel)
theorem w_817 : (.instanceMethod yX3_wayAt : Cond) ∈ TB := TB_mem 817 (by decide +kernel) (by decide +kernel)
theorem w_818 : (.selects RX3 yX3_wayAt yX3_wayAt : Cond) ∈ TB := TB_mem 818 (by decide +kernel) (by decide +kernel)
theorem w_819 : (.code yX3_wayAt cX3_wayAt 2 (some .int) : Cond) ∈ TB := TB_mem 819 (by decide +kernel) (by decide +kernel)
theorem w_820 : (.methodLink RX8 223 yX3_leastCost : Cond) ∈ TB := TB_mem 820 (by decide +kernel) (by decide +kernel)
theorem w_821 : (.instanceMethod yX3_leastCost : Cond) ∈ TB := TB_mem 821 (by decide +kernel) (by decide +kernel)
theorem w_822 : (.selects RX3 yX3_leastCost yX3_leastCost : Cond) ∈ TB := TB_mem 822 (by decide +kernel) (by decide +kernel)
theorem w_823 : (.code yX3_leastCost cX3_leastCost 1 (some .long) : Cond) ∈ TB := TB_mem 823 (by decide +kernel) (by decide +kernel)
theorem w_824 : (.methodLink RX8 335 yX7_noteRun : Cond) ∈ TB := TB_mem 824 (by decide +kernel) (by decide +kernel)
theorem w_825 : (.instanceMethod yX7_noteRun : Cond) ∈ TB := TB_mem 825 (by decide +kernel) (by decide +kernel)
theorem w_826 : (.selects RX7 yX7_noteRun yX7_noteRun : Cond) ∈ TB := TB_mem 826 (by decide +kernel) (by decide +kernel)
theorem w_827 : (.code yX7_noteRun cX7_noteRun 5 none : Cond) ∈ TB := TB_mem 827 (by decide +kernel) (by decide +kernel)
theorem w_828 : (.methodLink RX8 261 yX7_learn : Cond) ∈ TB := TB_mem 828 (by decide +kernel) (by decide +kernel)
theorem w_829 : (.instanceMethod yX7_learn : Cond) ∈ TB := TB_mem 829 (by decide +kernel) (by decide +kernel)
theorem w_830 : (.selects RX7 yX7_learn yX7_learn : Cond) ∈ TB := TB_mem 830 (by decide +kernel) (by decide +kernel)
theorem w_831 : (.code yX7_learn cX7_learn 5 (some .int) : Cond) ∈ TB := TB_mem 831 (by decide +kernel) (by decide +kernel)
theorem w_833 : (.methodLink RX7 110 yX7_learnPair : Cond) ∈ TB := TB_mem 833 (by decide +kernel) (by decide +kernel)
theorem w_835 : (.instanceMethod yX7_learnPair : Cond) ∈ TB := TB_mem 835 (by decide +kernel) (by decide +kernel)
theorem w_836 : (.code yX7_learnPair cX7_learnPair 7 none : Cond) ∈ TB := TB_mem 836 (by decide +kernel) (by decide +kernel)
theorem w_837 : (.methodLink RX7 120 yX7_noteSurprise : Cond) ∈ TB := TB_mem 837 (by decide +kernel) (by decide +kernel)
theorem w_839 : (.instanceMethod yX7_noteSurprise : Cond) ∈ TB := TB_mem 839 (by decide +kernel) (by decide +kernel)
theorem w_840 : (.code yX7_noteSurprise cX7_noteSurprise 5 none : Cond) ∈ TB := TB_mem 840 (by decide +kernel) (by decide +kernel)
theorem w_841 : (.methodLink RX7 124 Lib.Math.max.name : Cond) ∈ TB := TB_mem 841 (by decide +kernel) (by decide +kernel)
theorem w_849 : (.methodLink RX8 173 yX7_passWeeks : Cond) ∈ TB := TB_mem 849 (by decide +kernel) (by decide +kernel)
theorem w_850 : (.instanceMethod yX7_passWeeks : Cond) ∈ TB := TB_mem 850 (by decide +kernel) (by decide +kernel)
theorem w_851 : (.selects RX7 yX7_passWeeks yX7_passWeeks : Cond) ∈ TB := TB_mem 851 (by decide +kernel) (by decide +kernel)
theorem w_852 : (.code yX7_passWeeks cX7_passWeeks 4 (some .int) : Cond) ∈ TB := TB_mem 852 (by decide +kernel) (by decide +kernel)
theorem w_853 : (.methodLink RX7 103 yX7_makeOlder : Cond) ∈ TB := TB_mem 853 (by decide +kernel) (by decide +kernel)
theorem w_855 : (.instanceMethod yX7_makeOlder : Cond) ∈ TB := TB_mem 855 (by decide +kernel) (by decide +kernel)
theorem w_856 : (.code yX7_makeOlder cX7_makeOlder 2 none : Cond) ∈ TB := TB_mem 856 (by decide +kernel) (by decide +kernel)
theorem w_864 : (.methodLink RX8 176 yX8_settingTakes : Cond) ∈ TB := TB_mem 864 (by decide +kernel) (by decide +kernel)
theorem w_865 : (.static yX8_settingTakes : Cond) ∈ TB := TB_mem 865 (by decide +kernel) (by decide +kernel)
theorem w_866 : (.code yX8_settingTakes cX8_settingTakes 2 (some .boolean) : Cond) ∈ TB := TB_mem 866 (by decide +kernel) (by decide +kernel)
theorem w_867 : (.fieldLink RX8 379 "SurprisedPlans" "LEAST_SETTING" "[I" : Cond) ∈ TB := TB_mem 867 (by decide +kernel) (by decide +kernel)
theorem w_869 : (.fieldLink RX8 383 "SurprisedPlans" "MOST_SETTING" "[I" : Cond) ∈ TB := TB_mem 869 (by decide +kernel) (by decide +kernel)
theorem w_872 : (.methodLink RX8 185 yX7_changeSetting : Cond) ∈ TB := TB_mem 872 (by decide +kernel) (by decide +kernel)
theorem w_873 : (.instanceMethod yX7_changeSetting : Cond) ∈ TB := TB_mem 873 (by decide +kernel) (by decide +kernel)
theorem w_874 : (.selects RX7 yX7_changeSetting yX7_changeSetting : Cond) ∈ TB := TB_mem 874 (by decide +kernel) (by decide +kernel)
theorem w_875 : (.code yX7_changeSetting cX7_changeSetting 4 (some .int) : Cond) ∈ TB := TB_mem 875 (by decide +kernel) (by decide +kernel)
theorem w_876 : (.methodLink RX7 100 yX7_settingOf : Cond) ∈ TB := TB_mem 876 (by decide +kernel) (by decide +kernel)
theorem w_896 : (.methodLink RL 69 yX8_rows : Cond) ∈ TB := TB_mem 896 (by decide +kernel) (by decide +kernel)
theorem w_897 : (.instanceMethod yX8_rows : Cond) ∈ TB := TB_mem 897 (by decide +kernel) (by decide +kernel)
theorem w_898 : (.selects RX8 yX8_rows yX8_rows : Cond) ∈ TB := TB_mem 898 (by decide +kernel) (by decide +kernel)
theorem w_899 : (.code yX8_rows cX8_rows 3 (some .long) : Cond) ∈ TB := TB_mem 899 (by decide +kernel) (by decide +kernel)
theorem w_900 : (.methodLink RX8 197 yX8_needKind : Cond) ∈ TB := TB_mem 900 (by decide +kernel) (by decide +kernel)
theorem w_901 : (.static yX8_needKind : Cond) ∈ TB := TB_mem 901 (by decide +kernel) (by decide +kernel)
theorem w_902 : (.code yX8_needKind cX8_needKind 1 none : Cond) ∈ TB := TB_mem 902 (by decide +kernel) (by decide +kernel)
theorem w_903 : (.methodLink RX8 200 yX3_weigh : Cond) ∈ TB := TB_mem 903 (by decide +kernel) (by decide +kernel)
theorem w_904 : (.methodLink RX8 204 yX3_rowsOf : Cond) ∈ TB := TB_mem 904 (by decide +kernel) (by decide +kernel)
theorem w_908 : (.methodLink RL 73 yX8_order : Cond) ∈ TB := TB_mem 908 (by decide +kernel) (by decide +kernel)
theorem w_909 : (.instanceMethod yX8_order : Cond) ∈ TB := TB_mem 909 (by decide +kernel) (by decide +kernel)
theorem w_910 : (.selects RX8 yX8_order yX8_order : Cond) ∈ TB := TB_mem 910 (by decide +kernel) (by decide +kernel)
theorem w_911 : (.code yX8_order cX8_order 4 (some .int) : Cond) ∈ TB := TB_mem 911 (by decide +kernel) (by decide +kernel)
theorem w_912 : (.methodLink RX8 207 yX8_needAtLeast : Cond) ∈ TB := TB_mem 912 (by decide +kernel) (by decide +kernel)
theorem w_913 : (.static yX8_needAtLeast : Cond) ∈ TB := TB_mem 913 (by decide +kernel) (by decide +kernel)
theorem w_914 : (.code yX8_needAtLeast cX8_needAtLeast 2 none : Cond) ∈ TB := TB_mem 914 (by decide +kernel) (by decide +kernel)
theorem w_916 : (.methodLink RX8 213 yX3_tableAt : Cond) ∈ TB := TB_mem 916 (by decide +kernel) (by decide +kernel)
theorem w_920 : (.methodLink RL 76 yX8_way : Cond) ∈ TB := TB_mem 920 (by decide +kernel) (by decide +kernel)
theorem w_921 : (.instanceMethod yX8_way : Cond) ∈ TB := TB_mem 921 (by decide +kernel) (by decide +kernel)
theorem w_922 : (.selects RX8 yX8_way yX8_way : Cond) ∈ TB := TB_mem 922 (by decide +kernel) (by decide +kernel)
theorem w_923 : (.code yX8_way cX8_way 3 (some .int) : Cond) ∈ TB := TB_mem 923 (by decide +kernel) (by decide +kernel)
theorem w_924 : (.methodLink RX8 216 yX3_wayAt : Cond) ∈ TB := TB_mem 924 (by decide +kernel) (by decide +kernel)
theorem w_928 : (.methodLink RL 79 yX8_cost : Cond) ∈ TB := TB_mem 928 (by decide +kernel) (by decide +kernel)
theorem w_929 : (.instanceMethod yX8_cost : Cond) ∈ TB := TB_mem 929 (by decide +kernel) (by decide +kernel)
theorem w_930 : (.selects RX8 yX8_cost yX8_cost : Cond) ∈ TB := TB_mem 930 (by decide +kernel) (by decide +kernel)
theorem w_931 : (.code yX8_cost cX8_cost 3 (some .long) : Cond) ∈ TB := TB_mem 931 (by decide +kernel) (by decide +kernel)
theorem w_935 : (.methodLink RL 82 yX8_costOfText : Cond) ∈ TB := TB_mem 935 (by decide +kernel) (by decide +kernel)
theorem w_936 : (.instanceMethod yX8_costOfText : Cond) ∈ TB := TB_mem 936 (by decide +kernel) (by decide +kernel)
theorem w_937 : (.selects RX8 yX8_costOfText yX8_costOfText : Cond) ∈ TB := TB_mem 937 (by decide +kernel) (by decide +kernel)
theorem w_938 : (.code yX8_costOfText cX8_costOfText 2 (some .long) : Cond) ∈ TB := TB_mem 938 (by decide +kernel) (by decide +kernel)
theorem w_939 : (.methodLink RX8 231 yX2_tables : Cond) ∈ TB := TB_mem 939 (by decide +kernel) (by decide +kernel)
theorem w_940 : (.instanceMethod yX2_tables : Cond) ∈ TB := TB_mem 940 (by decide +kernel) (by decide +kernel)
theorem w_941 : (.selects RX2 yX2_tables yX2_tables : Cond) ∈ TB := TB_mem 941 (by decide +kernel) (by decide +kernel)
theorem w_942 : (.code yX2_tables cX2_tables 1 (some .int) : Cond) ∈ TB := TB_mem 942 (by decide +kernel) (by decide +kernel)
theorem w_944 : (.methodLink RX8 239 yX3_costOfRead : Cond) ∈ TB := TB_mem 944 (by decide +kernel) (by decide +kernel)
theorem w_945 : (.instanceMethod yX3_costOfRead : Cond) ∈ TB := TB_mem 945 (by decide +kernel) (by decide +kernel)
theorem w_946 : (.selects RX3 yX3_costOfRead yX3_costOfRead : Cond) ∈ TB := TB_mem 946 (by decide +kernel) (by decide +kernel)
theorem w_947 : (.code yX3_costOfRead cX3_costOfRead 7 (some .long) : Cond) ∈ TB := TB_mem 947 (by decide +kernel) (by decide +kernel)
theorem w_948 : (.methodLink RX3 94 yX2_tableAt : Cond) ∈ TB := TB_mem 948 (by decide +kernel) (by decide +kernel)
theorem w_949 : (.instanceMethod yX2_tableAt : Cond) ∈ TB := TB_mem 949 (by decide +kernel) (by decide +kernel)
theorem w_950 : (.selects RX2 yX2_tableAt yX2_tableAt : Cond) ∈ TB := TB_mem 950 (by decide +kernel) (by decide +kernel)
theorem w_951 : (.code yX2_tableAt cX2_tableAt 2 (some .int) : Cond) ∈ TB := TB_mem 951 (by decide +kernel) (by decide +kernel)
theorem w_955 : (.methodLink RL 85 yX8_matters : Cond) ∈ TB := TB_mem 955 (by decide +kernel) (by decide +kernel)
theorem w_956 : (.instanceMethod yX8_matters : Cond) ∈ TB := TB_mem 956 (by decide +kernel) (by decide +kernel)
theorem w_957 : (.selects RX8 yX8_matters yX8_matters : Cond) ∈ TB := TB_mem 957 (by decide +kernel) (by decide +kernel)
theorem w_958 : (.code yX8_matters cX8_matters 5 (some .int) : Cond) ∈ TB := TB_mem 958 (by decide +kernel) (by decide +kernel)
theorem w_959 : (.methodLink RX8 245 yX7_hasMemory : Cond) ∈ TB := TB_mem 959 (by decide +kernel) (by decide +kernel)
theorem w_960 : (.methodLink RX8 248 yX7_takeFrom : Cond) ∈ TB := TB_mem 960 (by decide +kernel) (by decide +kernel)
theorem w_961 : (.methodLink RX8 251 yX7_forget : Cond) ∈ TB := TB_mem 961 (by decide +kernel) (by decide +kernel)
theorem w_962 : (.methodLink RX8 254 yX3_hasOrderOf : Cond) ∈ TB := TB_mem 962 (by decide +kernel) (by decide +kernel)
theorem w_963 : (.instanceMethod yX3_hasOrderOf : Cond) ∈ TB := TB_mem 963 (by decide +kernel) (by decide +kernel)
theorem w_964 : (.selects RX3 yX3_hasOrderOf yX3_hasOrderOf : Cond) ∈ TB := TB_mem 964 (by decide +kernel) (by decide +kernel)
theorem w_965 : (.code yX3_hasOrderOf cX3_hasOrderOf 3 (some .boolean) : Cond) ∈ TB := TB_mem 965 (by decide +kernel) (by decide +kernel)
theorem w_969 : (.methodLink RL 88 yX8_learnsIn : Cond) ∈ TB := TB_mem 969 (by decide +kernel) (by decide +kernel)
theorem w_970 : (.instanceMethod yX8_learnsIn : Cond) ∈ TB := TB_mem 970 (by decide +kernel) (by decide +kernel)
theorem w_971 : (.selects RX8 yX8_learnsIn yX8_learnsIn : Cond) ∈ TB := TB_mem 971 (by decide +kernel) (by decide +kernel)
theorem w_972 : (.code yX8_learnsIn cX8_learnsIn 3 (some .int) : Cond) ∈ TB := TB_mem 972 (by decide +kernel) (by decide +kernel)
theorem w_976 : (.methodLink RL 91 yX8_runScript : Cond) ∈ TB := TB_mem 976 (by decide +kernel) (by decide +kernel)
theorem w_977 : (.instanceMethod yX8_runScript : Cond) ∈ TB := TB_mem 977 (by decide +kernel) (by decide +kernel)
theorem w_978 : (.selects RX8 yX8_runScript yX8_runScript : Cond) ∈ TB := TB_mem 978 (by decide +kernel) (by decide +kernel)
theorem w_979 : (.code yX8_runScript cX8_runScript 7 (some .int) : Cond) ∈ TB := TB_mem 979 (by decide +kernel) (by decide +kernel)
theorem w_980 : (.constantLong RX8 264 (1000000) : Cond) ∈ TB := TB_mem 980 (by decide +kernel) (by decide +kernel)
theorem w_982 : (.methodLink RX8 268 yX8_succeeds : Cond) ∈ TB := TB_mem 982 (by decide +kernel) (by decide +kernel)
theorem w_984 : (.instanceMethod yX8_succeeds : Cond) ∈ TB := TB_mem 984 (by decide +kernel) (by decide +kernel)
theorem w_985 : (.code yX8_succeeds cX8_succeeds 6 (some .boolean) : Cond) ∈ TB := TB_mem 985 (by decide +kernel) (by decide +kernel)
theorem w_986 : (.constant RX8 339 (100000) : Cond) ∈ TB := TB_mem 986 (by decide +kernel) (by decide +kernel)
theorem w_987 : (.methodLink RX8 344 yX8_scriptDrifts : Cond) ∈ TB := TB_mem 987 (by decide +kernel) (by decide +kernel)
theorem w_989 : (.instanceMethod yX8_scriptDrifts : Cond) ∈ TB := TB_mem 989 (by decide +kernel) (by decide +kernel)
theorem w_990 : (.code yX8_scriptDrifts cX8_scriptDrifts 4 (some .boolean) : Cond) ∈ TB := TB_mem 990 (by decide +kernel) (by decide +kernel)
theorem w_991 : (.methodLink RX8 347 yX8_scriptSets : Cond) ∈ TB := TB_mem 991 (by decide +kernel) (by decide +kernel)
theorem w_993 : (.instanceMethod yX8_scriptSets : Cond) ∈ TB := TB_mem 993 (by decide +kernel) (by decide +kernel)
theorem w_994 : (.code yX8_scriptSets cX8_scriptSets 3 (some .boolean) : Cond) ∈ TB := TB_mem 994 (by decide +kernel) (by decide +kernel)
theorem w_995 : (.methodLink RX8 350 yX8_scriptLinks : Cond) ∈ TB := TB_mem 995 (by decide +kernel) (by decide +kernel)
theorem w_997 : (.instanceMethod yX8_scriptLinks : Cond) ∈ TB := TB_mem 997 (by decide +kernel) (by decide +kernel)
theorem w_998 : (.code yX8_scriptLinks cX8_scriptLinks 4 (some .boolean) : Cond) ∈ TB := TB_mem 998 (by decide +kernel) (by decide +kernel)
theorem w_999 : (.methodLink RX8 353 yX8_chosenTableIs : Cond) ∈ TB := TB_mem 999 (by decide +kernel) (by decide +kernel)
theorem w_1001 : (.instanceMethod yX8_chosenTableIs : Cond) ∈ TB := TB_mem 1001 (by decide +kernel) (by decide +kernel)
theorem w_1002 : (.code yX8_chosenTableIs cX8_chosenTableIs 4 (some .boolean) : Cond) ∈ TB := TB_mem 1002 (by decide +kernel) (by decide +kernel)
theorem w_1003 : (.methodLink RX8 356 yX7_remembersSince : Cond) ∈ TB := TB_mem 1003 (by decide +kernel) (by decide +kernel)
theorem w_1004 : (.instanceMethod yX7_remembersSince : Cond) ∈ TB := TB_mem 1004 (by decide +kernel) (by decide +kernel)
theorem w_1005 : (.selects RX7 yX7_remembersSince yX7_remembersSince : Cond) ∈ TB := TB_mem 1005 (by decide +kernel) (by decide +kernel)
theorem w_1006 : (.code yX7_remembersSince cX7_remembersSince 3 (some .boolean) : Cond) ∈ TB := TB_mem 1006 (by decide +kernel) (by decide +kernel)
theorem w_1010 : (.methodLink RL 95 yX8_simulate : Cond) ∈ TB := TB_mem 1010 (by decide +kernel) (by decide +kernel)
theorem w_1011 : (.instanceMethod yX8_simulate : Cond) ∈ TB := TB_mem 1011 (by decide +kernel) (by decide +kernel)
theorem w_1012 : (.selects RX8 yX8_simulate yX8_simulate : Cond) ∈ TB := TB_mem 1012 (by decide +kernel) (by decide +kernel)
theorem w_1013 : (.code yX8_simulate cX8_simulate 7 (some .int) : Cond) ∈ TB := TB_mem 1013 (by decide +kernel) (by decide +kernel)
theorem w_1014 : (.constantLong RX8 271 (6364136223846793005) : Cond) ∈ TB := TB_mem 1014 (by decide +kernel) (by decide +kernel)
theorem w_1015 : (.constantLong RX8 273 (1442695040888963407) : Cond) ∈ TB := TB_mem 1015 (by decide +kernel) (by decide +kernel)
theorem w_1016 : (.methodLink RX8 275 yX8_takeTurn : Cond) ∈ TB := TB_mem 1016 (by decide +kernel) (by decide +kernel)
theorem w_1018 : (.instanceMethod yX8_takeTurn : Cond) ∈ TB := TB_mem 1018 (by decide +kernel) (by decide +kernel)
theorem w_1019 : (.code yX8_takeTurn cX8_takeTurn 4 none : Cond) ∈ TB := TB_mem 1019 (by decide +kernel) (by decide +kernel)
theorem w_1020 : (.methodLink RX8 282 yX7_memoryCount : Cond) ∈ TB := TB_mem 1020 (by decide +kernel) (by decide +kernel)
theorem w_1061 : (.methodLink RX9 45 yX9_begin : Cond) ∈ TB := TB_mem 1061 (by decide +kernel) (by decide +kernel)
theorem w_1062 : (.static yX9_begin : Cond) ∈ TB := TB_mem 1062 (by decide +kernel) (by decide +kernel)
theorem w_1063 : (.code yX9_begin cX9_begin 2 none : Cond) ∈ TB := TB_mem 1063 (by decide +kernel) (by decide +kernel)
theorem w_1064 : (.constantLong RX9 49 (50) : Cond) ∈ TB := TB_mem 1064 (by decide +kernel) (by decide +kernel)
theorem w_1065 : (.constantLong RX9 51 (10) : Cond) ∈ TB := TB_mem 1065 (by decide +kernel) (by decide +kernel)
theorem w_1066 : (.constantLong RX9 53 (4) : Cond) ∈ TB := TB_mem 1066 (by decide +kernel) (by decide +kernel)
theorem w_1067 : (.fieldLink RX9 55 "SurprisedPlansModel" "refusal" "I" : Cond) ∈ TB := TB_mem 1067 (by decide +kernel) (by decide +kernel)
theorem w_1068 : (.fieldLink RX9 7 "SurprisedPlansModel" "text" "[I" : Cond) ∈ TB := TB_mem 1068 (by decide +kernel) (by decide +kernel)
theorem w_1069 : (.fieldLink RX9 115 "SurprisedPlansModel" "size" "I" : Cond) ∈ TB := TB_mem 1069 (by decide +kernel) (by decide +kernel)
theorem w_1070 : (.fieldLink RX9 13 "SurprisedPlansModel" "now" "[J" : Cond) ∈ TB := TB_mem 1070 (by decide +kernel) (by decide +kernel)
theorem w_1071 : (.fieldLink RX9 17 "SurprisedPlansModel" "trial" "[J" : Cond) ∈ TB := TB_mem 1071 (by decide +kernel) (by decide +kernel)
theorem w_1072 : (.fieldLink RX9 20 "SurprisedPlansModel" "diary" "[J" : Cond) ∈ TB := TB_mem 1072 (by decide +kernel) (by decide +kernel)
theorem w_1073 : (.fieldLink RX9 177 "SurprisedPlansModel" "acts" "I" : Cond) ∈ TB := TB_mem 1073 (by decide +kernel) (by decide +kernel)
theorem w_1074 : (.fieldLink RX9 23 "SurprisedPlansModel" "kept" "[J" : Cond) ∈ TB := TB_mem 1074 (by decide +kernel) (by decide +kernel)
theorem w_1075 : (.fieldLink RX9 26 "SurprisedPlansModel" "isKept" "[Z" : Cond) ∈ TB := TB_mem 1075 (by decide +kernel) (by decide +kernel)
theorem w_1076 : (.fieldLink RX9 30 "SurprisedPlansModel" "chosenBy" "[J" : Cond) ∈ TB := TB_mem 1076 (by decide +kernel) (by decide +kernel)
theorem w_1077 : (.fieldLink RX9 33 "SurprisedPlansModel" "paidBy" "[J" : Cond) ∈ TB := TB_mem 1077 (by decide +kernel) (by decide +kernel)
theorem w_1078 : (.fieldLink RX9 36 "SurprisedPlansModel" "toPay" "[J" : Cond) ∈ TB := TB_mem 1078 (by decide +kernel) (by decide +kernel)
theorem w_1079 : (.fieldLink RX9 39 "SurprisedPlansModel" "plan" "[I" : Cond) ∈ TB := TB_mem 1079 (by decide +kernel) (by decide +kernel)
theorem w_1080 : (.fieldLink RX9 98 "SurprisedPlansModel" "planned" "I" : Cond) ∈ TB := TB_mem 1080 (by decide +kernel) (by decide +kernel)
theorem w_1081 : (.fieldLink RX9 122 "SurprisedPlansModel" "spot" "I" : Cond) ∈ TB := TB_mem 1081 (by decide +kernel) (by decide +kernel)
theorem w_1082 : (.fieldLink RX9 151 "SurprisedPlansModel" "out" "I" : Cond) ∈ TB := TB_mem 1082 (by decide +kernel) (by decide +kernel)
theorem w_1083 : (.fieldLink RX9 42 "SurprisedPlansModel" "other" "[I" : Cond) ∈ TB := TB_mem 1083 (by decide +kernel) (by decide +kernel)
theorem w_1127 : (.constantLong RX9 113 (255) : Cond) ∈ TB := TB_mem 1127 (by decide +kernel) (by decide +kernel)
theorem w_1128 : (.methodLink RX9 59 yX9_in : Cond) ∈ TB := TB_mem 1128 (by decide +kernel) (by decide +kernel)
theorem w_1129 : (.static yX9_in : Cond) ∈ TB := TB_mem 1129 (by decide +kernel) (by decide +kernel)
theorem w_1130 : (.code yX9_in cX9_in 6 (some .boolean) : Cond) ∈ TB := TB_mem 1130 (by decide +kernel) (by decide +kernel)
theorem w_1131 : (.methodLink RX9 118 yX9_refused : Cond) ∈ TB := TB_mem 1131 (by decide +kernel) (by decide +kernel)
theorem w_1133 : (.instanceMethod yX9_refused : Cond) ∈ TB := TB_mem 1133 (by decide +kernel) (by decide +kernel)
theorem w_1134 : (.code yX9_refused cX9_refused 2 (some .boolean) : Cond) ∈ TB := TB_mem 1134 (by decide +kernel) (by decide +kernel)
theorem w_1143 : (.methodLink RX9 166 yX9_wrongPlan : Cond) ∈ TB := TB_mem 1143 (by decide +kernel) (by decide +kernel)
theorem w_1145 : (.instanceMethod yX9_wrongPlan : Cond) ∈ TB := TB_mem 1145 (by decide +kernel) (by decide +kernel)
theorem w_1146 : (.code yX9_wrongPlan cX9_wrongPlan 4 (some .int) : Cond) ∈ TB := TB_mem 1146 (by decide +kernel) (by decide +kernel)
theorem w_1147 : (.methodLink RX9 125 yX9_sign : Cond) ∈ TB := TB_mem 1147 (by decide +kernel) (by decide +kernel)
theorem w_1149 : (.instanceMethod yX9_sign : Cond) ∈ TB := TB_mem 1149 (by decide +kernel) (by decide +kernel)
theorem w_1150 : (.code yX9_sign cX9_sign 1 (some .int) : Cond) ∈ TB := TB_mem 1150 (by decide +kernel) (by decide +kernel)
theorem w_1151 : (.constantLong RX9 132 (48) : Cond) ∈ TB := TB_mem 1151 (by decide +kernel) (by decide +kernel)
theorem w_1152 : (.constantLong RX9 136 (54) : Cond) ∈ TB := TB_mem 1152 (by decide +kernel) (by decide +kernel)
theorem w_1153 : (.methodLink RX9 129 yX9_taken : Cond) ∈ TB := TB_mem 1153 (by decide +kernel) (by decide +kernel)
theorem w_1155 : (.instanceMethod yX9_taken : Cond) ∈ TB := TB_mem 1155 (by decide +kernel) (by decide +kernel)
theorem w_1156 : (.code yX9_taken cX9_taken 4 (some .int) : Cond) ∈ TB := TB_mem 1156 (by decide +kernel) (by decide +kernel)
theorem w_1157 : (.methodLink RX9 169 yX9_wrongWorld : Cond) ∈ TB := TB_mem 1157 (by decide +kernel) (by decide +kernel)
theorem w_1159 : (.instanceMethod yX9_wrongWorld : Cond) ∈ TB := TB_mem 1159 (by decide +kernel) (by decide +kernel)
theorem w_1160 : (.code yX9_wrongWorld cX9_wrongWorld 3 (some .int) : Cond) ∈ TB := TB_mem 1160 (by decide +kernel) (by decide +kernel)
theorem w_1161 : (.methodLink RX9 162 yX9_readEntry : Cond) ∈ TB := TB_mem 1161 (by decide +kernel) (by decide +kernel)
theorem w_1163 : (.instanceMethod yX9_readEntry : Cond) ∈ TB := TB_mem 1163 (by decide +kernel) (by decide +kernel)
theorem w_1164 : (.code yX9_readEntry cX9_readEntry 6 (some .boolean) : Cond) ∈ TB := TB_mem 1164 (by decide +kernel) (by decide +kernel)
theorem w_1165 : (.methodLink RX9 141 yX9_number : Cond) ∈ TB := TB_mem 1165 (by decide +kernel) (by decide +kernel)
theorem w_1167 : (.instanceMethod yX9_number : Cond) ∈ TB := TB_mem 1167 (by decide +kernel) (by decide +kernel)
theorem w_1168 : (.code yX9_number cX9_number 3 (some .int) : Cond) ∈ TB := TB_mem 1168 (by decide +kernel) (by decide +kernel)
theorem w_1169 : (.constantLong RX9 134 (57) : Cond) ∈ TB := TB_mem 1169 (by decide +kernel) (by decide +kernel)
theorem w_1170 : (.constantLong RX9 145 (7) : Cond) ∈ TB := TB_mem 1170 (by decide +kernel) (by decide +kernel)
theorem w_1171 : (.methodLink RX9 147 yX9_addOn : Cond) ∈ TB := TB_mem 1171 (by decide +kernel) (by decide +kernel)
theorem w_1172 : (.static yX9_addOn : Cond) ∈ TB := TB_mem 1172 (by decide +kernel) (by decide +kernel)
theorem w_1173 : (.code yX9_addOn cX9_addOn 3 (some .int) : Cond) ∈ TB := TB_mem 1173 (by decide +kernel) (by decide +kernel)
theorem w_1174 : (.methodLink RX9 154 yX9_isTable : Cond) ∈ TB := TB_mem 1174 (by decide +kernel) (by decide +kernel)
theorem w_1175 : (.static yX9_isTable : Cond) ∈ TB := TB_mem 1175 (by decide +kernel) (by decide +kernel)
theorem w_1176 : (.code yX9_isTable cX9_isTable 2 (some .boolean) : Cond) ∈ TB := TB_mem 1176 (by decide +kernel) (by decide +kernel)
theorem w_1177 : (.methodLink RX9 158 yX9_linkOn : Cond) ∈ TB := TB_mem 1177 (by decide +kernel) (by decide +kernel)
theorem w_1178 : (.static yX9_linkOn : Cond) ∈ TB := TB_mem 1178 (by decide +kernel) (by decide +kernel)
theorem w_1179 : (.code yX9_linkOn cX9_linkOn 6 (some .int) : Cond) ∈ TB := TB_mem 1179 (by decide +kernel) (by decide +kernel)
theorem w_1180 : (.methodLink RX9 73 yX9_pairOf : Cond) ∈ TB := TB_mem 1180 (by decide +kernel) (by decide +kernel)
theorem w_1181 : (.static yX9_pairOf : Cond) ∈ TB := TB_mem 1181 (by decide +kernel) (by decide +kernel)
theorem w_1182 : (.code yX9_pairOf cX9_pairOf 2 (some .int) : Cond) ∈ TB := TB_mem 1182 (by decide +kernel) (by decide +kernel)
theorem w_1183 : (.methodLink RX9 138 yX9_count : Cond) ∈ TB := TB_mem 1183 (by decide +kernel) (by decide +kernel)
theorem w_1184 : (.static yX9_count : Cond) ∈ TB := TB_mem 1184 (by decide +kernel) (by decide +kernel)
theorem w_1185 : (.code yX9_count cX9_count 5 (some .long) : Cond) ∈ TB := TB_mem 1185 (by decide +kernel) (by decide +kernel)
theorem w_1190 : (.methodLink RX9 173 yX9_copyWorld : Cond) ∈ TB := TB_mem 1190 (by decide +kernel) (by decide +kernel)
theorem w_1191 : (.static yX9_copyWorld : Cond) ∈ TB := TB_mem 1191 (by decide +kernel) (by decide +kernel)
theorem w_1192 : (.code yX9_copyWorld cX9_copyWorld 5 none : Cond) ∈ TB := TB_mem 1192 (by decide +kernel) (by decide +kernel)
theorem w_1197 : (.constantLong RX9 180 (5) : Cond) ∈ TB := TB_mem 1197 (by decide +kernel) (by decide +kernel)
theorem w_1202 : (.constantLong RX9 86 (3) : Cond) ∈ TB := TB_mem 1202 (by decide +kernel) (by decide +kernel)
theorem w_1211 : (.methodLink RX9 182 yX9_arePair : Cond) ∈ TB := TB_mem 1211 (by decide +kernel) (by decide +kernel)
theorem w_1212 : (.static yX9_arePair : Cond) ∈ TB := TB_mem 1212 (by decide +kernel) (by decide +kernel)
theorem w_1213 : (.code yX9_arePair cX9_arePair 3 (some .boolean) : Cond) ∈ TB := TB_mem 1213 (by decide +kernel) (by decide +kernel)
theorem w_1214 : (.methodLink RX9 63 yX9_believed : Cond) ∈ TB := TB_mem 1214 (by decide +kernel) (by decide +kernel)
theorem w_1215 : (.static yX9_believed : Cond) ∈ TB := TB_mem 1215 (by decide +kernel) (by decide +kernel)
theorem w_1216 : (.code yX9_believed cX9_believed 2 (some .long) : Cond) ∈ TB := TB_mem 1216 (by decide +kernel) (by decide +kernel)
theorem w_1221 : (.constantLong RX9 186 (9) : Cond) ∈ TB := TB_mem 1221 (by decide +kernel) (by decide +kernel)
theorem w_1226 : (.constantLong RX9 188 (2) : Cond) ∈ TB := TB_mem 1226 (by decide +kernel) (by decide +kernel)
theorem w_1231 : (.constantLong RX9 190 (9999) : Cond) ∈ TB := TB_mem 1231 (by decide +kernel) (by decide +kernel)
theorem w_1232 : (.methodLink RX9 192 yX9_remember : Cond) ∈ TB := TB_mem 1232 (by decide +kernel) (by decide +kernel)
theorem w_1234 : (.instanceMethod yX9_remember : Cond) ∈ TB := TB_mem 1234 (by decide +kernel) (by decide +kernel)
theorem w_1235 : (.code yX9_remember cX9_remember 2 none : Cond) ∈ TB := TB_mem 1235 (by decide +kernel) (by decide +kernel)
theorem w_1244 : (.methodLink RX9 195 yX9_isShare : Cond) ∈ TB := TB_mem 1244 (by decide +kernel) (by decide +kernel)
theorem w_1245 : (.static yX9_isShare : Cond) ∈ TB := TB_mem 1245 (by decide +kernel) (by decide +kernel)
theorem w_1246 : (.code yX9_isShare cX9_isShare 1 (some .boolean) : Cond) ∈ TB := TB_mem 1246 (by decide +kernel) (by decide +kernel)
theorem w_1247 : (.constantLong RX9 81 (1000) : Cond) ∈ TB := TB_mem 1247 (by decide +kernel) (by decide +kernel)
theorem w_1252 : (.methodLink RX9 198 yX9_whyNotDrift : Cond) ∈ TB := TB_mem 1252 (by decide +kernel) (by decide +kernel)
theorem w_1253 : (.static yX9_whyNotDrift : Cond) ∈ TB := TB_mem 1253 (by decide +kernel) (by decide +kernel)
theorem w_1254 : (.code yX9_whyNotDrift cX9_whyNotDrift 4 (some .int) : Cond) ∈ TB := TB_mem 1254 (by decide +kernel) (by decide +kernel)
theorem w_1255 : (.methodLink RX9 202 yX9_driftOn : Cond) ∈ TB := TB_mem 1255 (by decide +kernel) (by decide +kernel)
theorem w_1256 : (.static yX9_driftOn : Cond) ∈ TB := TB_mem 1256 (by decide +kernel) (by decide +kernel)
theorem w_1257 : (.code yX9_driftOn cX9_driftOn 5 (some .int) : Cond) ∈ TB := TB_mem 1257 (by decide +kernel) (by decide +kernel)
theorem w_1262 : (.methodLink RX9 214 yX9_whyNotRun : Cond) ∈ TB := TB_mem 1262 (by decide +kernel) (by decide +kernel)
theorem w_1263 : (.static yX9_whyNotRun : Cond) ∈ TB := TB_mem 1263 (by decide +kernel) (by decide +kernel)
theorem w_1264 : (.code yX9_whyNotRun cX9_whyNotRun 2 (some .int) : Cond) ∈ TB := TB_mem 1264 (by decide +kernel) (by decide +kernel)
theorem w_1265 : (.methodLink RX9 211 yX9_isSet : Cond) ∈ TB := TB_mem 1265 (by decide +kernel) (by decide +kernel)
theorem w_1266 : (.static yX9_isSet : Cond) ∈ TB := TB_mem 1266 (by decide +kernel) (by decide +kernel)
theorem w_1267 : (.code yX9_isSet cX9_isSet 2 (some .boolean) : Cond) ∈ TB := TB_mem 1267 (by decide +kernel) (by decide +kernel)
theorem w_1268 : (.methodLink RX9 217 yX9_runOn : Cond) ∈ TB := TB_mem 1268 (by decide +kernel) (by decide +kernel)
theorem w_1270 : (.instanceMethod yX9_runOn : Cond) ∈ TB := TB_mem 1270 (by decide +kernel) (by decide +kernel)
theorem w_1271 : (.code yX9_runOn cX9_runOn 10 (some .int) : Cond) ∈ TB := TB_mem 1271 (by decide +kernel) (by decide +kernel)
theorem w_1272 : (.methodLink RX9 205 yX9_costOn : Cond) ∈ TB := TB_mem 1272 (by decide +kernel) (by decide +kernel)
theorem w_1274 : (.instanceMethod yX9_costOn : Cond) ∈ TB := TB_mem 1274 (by decide +kernel) (by decide +kernel)
theorem w_1275 : (.code yX9_costOn cX9_costOn 8 (some .long) : Cond) ∈ TB := TB_mem 1275 (by decide +kernel) (by decide +kernel)
theorem w_1276 : (.methodLink RX9 107 yX9_choose : Cond) ∈ TB := TB_mem 1276 (by decide +kernel) (by decide +kernel)
theorem w_1278 : (.instanceMethod yX9_choose : Cond) ∈ TB := TB_mem 1278 (by decide +kernel) (by decide +kernel)
theorem w_1279 : (.code yX9_choose cX9_choose 8 (some .long) : Cond) ∈ TB := TB_mem 1279 (by decide +kernel) (by decide +kernel)
theorem w_1280 : (.methodLink RX9 94 yX9_layRows : Cond) ∈ TB := TB_mem 1280 (by decide +kernel) (by decide +kernel)
theorem w_1282 : (.instanceMethod yX9_layRows : Cond) ∈ TB := TB_mem 1282 (by decide +kernel) (by decide +kernel)
theorem w_1283 : (.code yX9_layRows cX9_layRows 5 none : Cond) ∈ TB := TB_mem 1283 (by decide +kernel) (by decide +kernel)
theorem w_1284 : (.methodLink RX9 83 yX9_rowsOn : Cond) ∈ TB := TB_mem 1284 (by decide +kernel) (by decide +kernel)
theorem w_1285 : (.static yX9_rowsOn : Cond) ∈ TB := TB_mem 1285 (by decide +kernel) (by decide +kernel)
theorem w_1286 : (.code yX9_rowsOn cX9_rowsOn 8 (some .long) : Cond) ∈ TB := TB_mem 1286 (by decide +kernel) (by decide +kernel)
theorem w_1287 : (.constantLong RX9 67 (1000000000000) : Cond) ∈ TB := TB_mem 1287 (by decide +kernel) (by decide +kernel)
theorem w_1288 : (.methodLink RX9 69 yX9_less : Cond) ∈ TB := TB_mem 1288 (by decide +kernel) (by decide +kernel)
theorem w_1289 : (.static yX9_less : Cond) ∈ TB := TB_mem 1289 (by decide +kernel) (by decide +kernel)
theorem w_1290 : (.code yX9_less cX9_less 4 (some .long) : Cond) ∈ TB := TB_mem 1290 (by decide +kernel) (by decide +kernel)
theorem w_1291 : (.methodLink RX9 77 yX9_shareOf : Cond) ∈ TB := TB_mem 1291 (by decide +kernel) (by decide +kernel)
theorem w_1292 : (.static yX9_shareOf : Cond) ∈ TB := TB_mem 1292 (by decide +kernel) (by decide +kernel)
theorem w_1293 : (.code yX9_shareOf cX9_shareOf 3 (some .long) : Cond) ∈ TB := TB_mem 1293 (by decide +kernel) (by decide +kernel)
theorem w_1294 : (.constantLong RX9 101 (-1) : Cond) ∈ TB := TB_mem 1294 (by decide +kernel) (by decide +kernel)
theorem w_1295 : (.methodLink RX9 103 yX9_stepCost : Cond) ∈ TB := TB_mem 1295 (by decide +kernel) (by decide +kernel)
theorem w_1296 : (.static yX9_stepCost : Cond) ∈ TB := TB_mem 1296 (by decide +kernel) (by decide +kernel)
theorem w_1297 : (.code yX9_stepCost cX9_stepCost 7 (some .long) : Cond) ∈ TB := TB_mem 1297 (by decide +kernel) (by decide +kernel)
theorem w_1298 : (.methodLink RX9 88 yX9_isByList : Cond) ∈ TB := TB_mem 1298 (by decide +kernel) (by decide +kernel)
theorem w_1299 : (.static yX9_isByList : Cond) ∈ TB := TB_mem 1299 (by decide +kernel) (by decide +kernel)
theorem w_1300 : (.code yX9_isByList cX9_isByList 4 (some .boolean) : Cond) ∈ TB := TB_mem 1300 (by decide +kernel) (by decide +kernel)
theorem w_1301 : (.constantLong RX9 92 (1000000000000000) : Cond) ∈ TB := TB_mem 1301 (by decide +kernel) (by decide +kernel)
theorem w_1302 : (.methodLink RX9 110 yX9_payFor : Cond) ∈ TB := TB_mem 1302 (by decide +kernel) (by decide +kernel)
theorem w_1304 : (.instanceMethod yX9_payFor : Cond) ∈ TB := TB_mem 1304 (by decide +kernel) (by decide +kernel)
theorem w_1305 : (.code yX9_payFor cX9_payFor 7 (some .long) : Cond) ∈ TB := TB_mem 1305 (by decide +kernel) (by decide +kernel)
theorem w_1306 : (.methodLink RX9 208 yX9_find : Cond) ∈ TB := TB_mem 1306 (by decide +kernel) (by decide +kernel)
theorem w_1307 : (.static yX9_find : Cond) ∈ TB := TB_mem 1307 (by decide +kernel) (by decide +kernel)
theorem w_1308 : (.code yX9_find cX9_find 11 (some .boolean) : Cond) ∈ TB := TB_mem 1308 (by decide +kernel) (by decide +kernel)
theorem w_1313 : (.constantLong RX9 220 (20) : Cond) ∈ TB := TB_mem 1313 (by decide +kernel) (by decide +kernel)
theorem w_1314 : (.methodLink RX9 222 yX9_weeksOn : Cond) ∈ TB := TB_mem 1314 (by decide +kernel) (by decide +kernel)
theorem w_1315 : (.static yX9_weeksOn : Cond) ∈ TB := TB_mem 1315 (by decide +kernel) (by decide +kernel)
theorem w_1316 : (.code yX9_weeksOn cX9_weeksOn 4 (some .int) : Cond) ∈ TB := TB_mem 1316 (by decide +kernel) (by decide +kernel)
theorem w_1321 : (.methodLink RX9 225 yX9_isSetting : Cond) ∈ TB := TB_mem 1321 (by decide +kernel) (by decide +kernel)
theorem w_1322 : (.static yX9_isSetting : Cond) ∈ TB := TB_mem 1322 (by decide +kernel) (by decide +kernel)
theorem w_1323 : (.code yX9_isSetting cX9_isSetting 2 (some .boolean) : Cond) ∈ TB := TB_mem 1323 (by decide +kernel) (by decide +kernel)
theorem w_1348 : (.methodLink RX9 229 yX9_layText : Cond) ∈ TB := TB_mem 1348 (by decide +kernel) (by decide +kernel)
theorem w_1350 : (.instanceMethod yX9_layText : Cond) ∈ TB := TB_mem 1350 (by decide +kernel) (by decide +kernel)
theorem w_1351 : (.code yX9_layText cX9_layText 3 (some .boolean) : Cond) ∈ TB := TB_mem 1351 (by decide +kernel) (by decide +kernel)
theorem w_1368 : (.constantLong RX9 237 (1000000) : Cond) ∈ TB := TB_mem 1368 (by decide +kernel) (by decide +kernel)
theorem w_1369 : (.constant RX9 239 (100000) : Cond) ∈ TB := TB_mem 1369 (by decide +kernel) (by decide +kernel)
theorem w_1370 : (.methodLink RX9 240 yX9_command : Cond) ∈ TB := TB_mem 1370 (by decide +kernel) (by decide +kernel)
theorem w_1372 : (.instanceMethod yX9_command : Cond) ∈ TB := TB_mem 1372 (by decide +kernel) (by decide +kernel)
theorem w_1373 : (.code yX9_command cX9_command 5 (some .boolean) : Cond) ∈ TB := TB_mem 1373 (by decide +kernel) (by decide +kernel)
theorem w_1374 : (.methodLink RX9 233 yX9_isChosen : Cond) ∈ TB := TB_mem 1374 (by decide +kernel) (by decide +kernel)
theorem w_1376 : (.instanceMethod yX9_isChosen : Cond) ∈ TB := TB_mem 1376 (by decide +kernel) (by decide +kernel)
theorem w_1377 : (.code yX9_isChosen cX9_isChosen 4 (some .boolean) : Cond) ∈ TB := TB_mem 1377 (by decide +kernel) (by decide +kernel)
theorem w_1382 : (.constantLong RX9 244 (40) : Cond) ∈ TB := TB_mem 1382 (by decide +kernel) (by decide +kernel)
theorem w_1383 : (.constantLong RX9 246 (6364136223846793005) : Cond) ∈ TB := TB_mem 1383 (by decide +kernel) (by decide +kernel)
theorem w_1384 : (.constantLong RX9 248 (1442695040888963407) : Cond) ∈ TB := TB_mem 1384 (by decide +kernel) (by decide +kernel)
theorem w_1385 : (.methodLink RX9 250 yX9_turn : Cond) ∈ TB := TB_mem 1385 (by decide +kernel) (by decide +kernel)
theorem w_1387 : (.instanceMethod yX9_turn : Cond) ∈ TB := TB_mem 1387 (by decide +kernel) (by decide +kernel)
theorem w_1388 : (.code yX9_turn cX9_turn 6 none : Cond) ∈ TB := TB_mem 1388 (by decide +kernel) (by decide +kernel)
theorem w_1389 : (.constantLong RX9 254 (100) : Cond) ∈ TB := TB_mem 1389 (by decide +kernel) (by decide +kernel)
theorem w_1400 : (.selects RX0 yX0_begin yX0_begin : Cond) ∈ TB := TB_mem 1400 (by decide +kernel) (by decide +kernel)
theorem w_1401 : (.selects RX0 yX0_takes yX0_takes : Cond) ∈ TB := TB_mem 1401 (by decide +kernel) (by decide +kernel)
theorem nd_X0_expect : yX0_expect.cls ≠ "java/lang/invoke/MethodHandle" ∧ yX0_expect.cls ≠ "java/lang/invoke/VarHandle" ∧ (parseMethodDescriptor yX0_expect.desc).map (fun d => d.parameters.length) = some 1 := by decide +kernel
theorem nd_X0_takesEntry : yX0_takesEntry.cls ≠ "java/lang/invoke/MethodHandle" ∧ yX0_takesEntry.cls ≠ "java/lang/invoke/VarHandle" ∧ (parseMethodDescriptor yX0_takesEntry.desc).map (fun d => d.parameters.length) = some 1 := by decide +kernel
theorem nd_X8_isIn : yX8_isIn.cls ≠ "java/lang/invoke/MethodHandle" ∧ yX8_isIn.cls ≠ "java/lang/invoke/VarHandle" ∧ (parseMethodDescriptor yX8_isIn.desc).map (fun d => d.parameters.length) = some 3 := by decide +kernel
theorem nd_X0_takesDigit : yX0_takesDigit.cls ≠ "java/lang/invoke/MethodHandle" ∧ yX0_takesDigit.cls ≠ "java/lang/invoke/VarHandle" ∧ (parseMethodDescriptor yX0_takesDigit.desc).map (fun d => d.parameters.length) = some 2 := by decide +kernel
theorem nd_X0_isComplete : yX0_isComplete.cls ≠ "java/lang/invoke/MethodHandle" ∧ yX0_isComplete.cls ≠ "java/lang/invoke/VarHandle" ∧ (parseMethodDescriptor yX0_isComplete.desc).map (fun d => d.parameters.length) = some 0 := by decide +kernel
theorem nd_X0_takesEnd : yX0_takesEnd.cls ≠ "java/lang/invoke/MethodHandle" ∧ yX0_takesEnd.cls ≠ "java/lang/invoke/VarHandle" ∧ (parseMethodDescriptor yX0_takesEnd.desc).map (fun d => d.parameters.length) = some 1 := by decide +kernel
theorem nd_X0_takesComma : yX0_takesComma.cls ≠ "java/lang/invoke/MethodHandle" ∧ yX0_takesComma.cls ≠ "java/lang/invoke/VarHandle" ∧ (parseMethodDescriptor yX0_takesComma.desc).map (fun d => d.parameters.length) = some 1 := by decide +kernel
theorem nd_X8_holds : yX8_holds.cls ≠ "java/lang/invoke/MethodHandle" ∧ yX8_holds.cls ≠ "java/lang/invoke/VarHandle" ∧ (parseMethodDescriptor yX8_holds.desc).map (fun d => d.parameters.length) = some 2 := by decide +kernel
theorem nd_X7_sizeOf : yX7_sizeOf.cls ≠ "java/lang/invoke/MethodHandle" ∧ yX7_sizeOf.cls ≠ "java/lang/invoke/VarHandle" ∧ (parseMethodDescriptor yX7_sizeOf.desc).map (fun d => d.parameters.length) = some 1 := by decide +kernel
theorem nd_X3_rowsOf : yX3_rowsOf.cls ≠ "java/lang/invoke/MethodHandle" ∧ yX3_rowsOf.cls ≠ "java/lang/invoke/VarHandle" ∧ (parseMethodDescriptor yX3_rowsOf.desc).map (fun d => d.parameters.length) = some 1 := by decide +kernel
theorem nd_X3_sizeOf : yX3_sizeOf.cls ≠ "java/lang/invoke/MethodHandle" ∧ yX3_sizeOf.cls ≠ "java/lang/invoke/VarHandle" ∧ (parseMethodDescriptor yX3_sizeOf.desc).map (fun d => d.parameters.length) = some 1 := by decide +kernel
theorem nd_X7_shareOf : yX7_shareOf.cls ≠ "java/lang/invoke/MethodHandle" ∧ yX7_shareOf.cls ≠ "java/lang/invoke/VarHandle" ∧ (parseMethodDescriptor yX7_shareOf.desc).map (fun d => d.parameters.length) = some 2 := by decide +kernel
theorem nd_X3_rowsJoined : yX3_rowsJoined.cls ≠ "java/lang/invoke/MethodHandle" ∧ yX3_rowsJoined.cls ≠ "java/lang/invoke/VarHandle" ∧ (parseMethodDescriptor yX3_rowsJoined.desc).map (fun d => d.parameters.length) = some 2 := by decide +kernel
theorem nd_X3_weigh : yX3_weigh.cls ≠ "java/lang/invoke/MethodHandle" ∧ yX3_weigh.cls ≠ "java/lang/invoke/VarHandle" ∧ (parseMethodDescriptor yX3_weigh.desc).map (fun d => d.parameters.length) = some 3 := by decide +kernel
theorem nd_X3_cheaperWay : yX3_cheaperWay.cls ≠ "java/lang/invoke/MethodHandle" ∧ yX3_cheaperWay.cls ≠ "java/lang/invoke/VarHandle" ∧ (parseMethodDescriptor yX3_cheaperWay.desc).map (fun d => d.parameters.length) = some 2 := by decide +kernel
theorem nd_X3_stepCost : yX3_stepCost.cls ≠ "java/lang/invoke/MethodHandle" ∧ yX3_stepCost.cls ≠ "java/lang/invoke/VarHandle" ∧ (parseMethodDescriptor yX3_stepCost.desc).map (fun d => d.parameters.length) = some 3 := by decide +kernel
theorem nd_X3_restOf : yX3_restOf.cls ≠ "java/lang/invoke/MethodHandle" ∧ yX3_restOf.cls ≠ "java/lang/invoke/VarHandle" ∧ (parseMethodDescriptor yX3_restOf.desc).map (fun d => d.parameters.length) = some 1 := by decide +kernel
theorem nd_X3_findNext : yX3_findNext.cls ≠ "java/lang/invoke/MethodHandle" ∧ yX3_findNext.cls ≠ "java/lang/invoke/VarHandle" ∧ (parseMethodDescriptor yX3_findNext.desc).map (fun d => d.parameters.length) = some 1 := by decide +kernel
theorem nd_X3_followNext : yX3_followNext.cls ≠ "java/lang/invoke/MethodHandle" ∧ yX3_followNext.cls ≠ "java/lang/invoke/VarHandle" ∧ (parseMethodDescriptor yX3_followNext.desc).map (fun d => d.parameters.length) = some 0 := by decide +kernel
theorem nd_X3_tableAt : yX3_tableAt.cls ≠ "java/lang/invoke/MethodHandle" ∧ yX3_tableAt.cls ≠ "java/lang/invoke/VarHandle" ∧ (parseMethodDescriptor yX3_tableAt.desc).map (fun d => d.parameters.length) = some 1 := by decide +kernel
theorem nd_X3_wayAt : yX3_wayAt.cls ≠ "java/lang/invoke/MethodHandle" ∧ yX3_wayAt.cls ≠ "java/lang/invoke/VarHandle" ∧ (parseMethodDescriptor yX3_wayAt.desc).map (fun d => d.parameters.length) = some 1 := by decide +kernel
theorem nd_X2_tableAt : yX2_tableAt.cls ≠ "java/lang/invoke/MethodHandle" ∧ yX2_tableAt.cls ≠ "java/lang/invoke/VarHandle" ∧ (parseMethodDescriptor yX2_tableAt.desc).map (fun d => d.parameters.length) = some 1 := by decide +kernel
theorem nd_X6_signAt : yX6_signAt.cls ≠ "java/lang/invoke/MethodHandle" ∧ yX6_signAt.cls ≠ "java/lang/invoke/VarHandle" ∧ (parseMethodDescriptor yX6_signAt.desc).map (fun d => d.parameters.length) = some 1 := by decide +kernel
theorem nd_X7_hasTable : yX7_hasTable.cls ≠ "java/lang/invoke/MethodHandle" ∧ yX7_hasTable.cls ≠ "java/lang/invoke/VarHandle" ∧ (parseMethodDescriptor yX7_hasTable.desc).map (fun d => d.parameters.length) = some 1 := by decide +kernel
theorem nd_X7_hasMemory : yX7_hasMemory.cls ≠ "java/lang/invoke/MethodHandle" ∧ yX7_hasMemory.cls ≠ "java/lang/invoke/VarHandle" ∧ (parseMethodDescriptor yX7_hasMemory.desc).map (fun d => d.parameters.length) = some 1 := by decide +kernel
theorem nd_X7_linkCount : yX7_linkCount.cls ≠ "java/lang/invoke/MethodHandle" ∧ yX7_linkCount.cls ≠ "java/lang/invoke/VarHandle" ∧ (parseMethodDescriptor yX7_linkCount.desc).map (fun d => d.parameters.length) = some 0 := by decide +kernel
theorem nd_X7_memoryCount : yX7_memoryCount.cls ≠ "java/lang/invoke/MethodHandle" ∧ yX7_memoryCount.cls ≠ "java/lang/invoke/VarHandle" ∧ (parseMethodDescriptor yX7_memoryCount.desc).map (fun d => d.parameters.length) = some 0 := by decide +kernel
theorem nd_X7_isLinked : yX7_isLinked.cls ≠ "java/lang/invoke/MethodHandle" ∧ yX7_isLinked.cls ≠ "java/lang/invoke/VarHandle" ∧ (parseMethodDescriptor yX7_isLinked.desc).map (fun d => d.parameters.length) = some 1 := by decide +kernel
theorem nd_X7_forget : yX7_forget.cls ≠ "java/lang/invoke/MethodHandle" ∧ yX7_forget.cls ≠ "java/lang/invoke/VarHandle" ∧ (parseMethodDescriptor yX7_forget.desc).map (fun d => d.parameters.length) = some 1 := by decide +kernel
theorem nd_X7_settingOf : yX7_settingOf.cls ≠ "java/lang/invoke/MethodHandle" ∧ yX7_settingOf.cls ≠ "java/lang/invoke/VarHandle" ∧ (parseMethodDescriptor yX7_settingOf.desc).map (fun d => d.parameters.length) = some 1 := by decide +kernel
theorem nd_X7_makeOlder : yX7_makeOlder.cls ≠ "java/lang/invoke/MethodHandle" ∧ yX7_makeOlder.cls ≠ "java/lang/invoke/VarHandle" ∧ (parseMethodDescriptor yX7_makeOlder.desc).map (fun d => d.parameters.length) = some 1 := by decide +kernel
theorem nd_X8_pairIndex : yX8_pairIndex.cls ≠ "java/lang/invoke/MethodHandle" ∧ yX8_pairIndex.cls ≠ "java/lang/invoke/VarHandle" ∧ (parseMethodDescriptor yX8_pairIndex.desc).map (fun d => d.parameters.length) = some 2 := by decide +kernel
theorem nd_X7_differenceOf : yX7_differenceOf.cls ≠ "java/lang/invoke/MethodHandle" ∧ yX7_differenceOf.cls ≠ "java/lang/invoke/VarHandle" ∧ (parseMethodDescriptor yX7_differenceOf.desc).map (fun d => d.parameters.length) = some 1 := by decide +kernel
theorem nd_X7_noteSurprise : yX7_noteSurprise.cls ≠ "java/lang/invoke/MethodHandle" ∧ yX7_noteSurprise.cls ≠ "java/lang/invoke/VarHandle" ∧ (parseMethodDescriptor yX7_noteSurprise.desc).map (fun d => d.parameters.length) = some 3 := by decide +kernel
theorem nd_X7_learnPair : yX7_learnPair.cls ≠ "java/lang/invoke/MethodHandle" ∧ yX7_learnPair.cls ≠ "java/lang/invoke/VarHandle" ∧ (parseMethodDescriptor yX7_learnPair.desc).map (fun d => d.parameters.length) = some 2 := by decide +kernel
theorem nd_X8_needRange : yX8_needRange.cls ≠ "java/lang/invoke/MethodHandle" ∧ yX8_needRange.cls ≠ "java/lang/invoke/VarHandle" ∧ (parseMethodDescriptor yX8_needRange.desc).map (fun d => d.parameters.length) = some 3 := by decide +kernel
theorem nd_X6_isFull : yX6_isFull.cls ≠ "java/lang/invoke/MethodHandle" ∧ yX6_isFull.cls ≠ "java/lang/invoke/VarHandle" ∧ (parseMethodDescriptor yX6_isFull.desc).map (fun d => d.parameters.length) = some 0 := by decide +kernel
theorem nd_X6_put : yX6_put.cls ≠ "java/lang/invoke/MethodHandle" ∧ yX6_put.cls ≠ "java/lang/invoke/VarHandle" ∧ (parseMethodDescriptor yX6_put.desc).map (fun d => d.parameters.length) = some 1 := by decide +kernel
theorem nd_X6_empty : yX6_empty.cls ≠ "java/lang/invoke/MethodHandle" ∧ yX6_empty.cls ≠ "java/lang/invoke/VarHandle" ∧ (parseMethodDescriptor yX6_empty.desc).map (fun d => d.parameters.length) = some 0 := by decide +kernel
theorem nd_X6_firstErrorFor : yX6_firstErrorFor.cls ≠ "java/lang/invoke/MethodHandle" ∧ yX6_firstErrorFor.cls ≠ "java/lang/invoke/VarHandle" ∧ (parseMethodDescriptor yX6_firstErrorFor.desc).map (fun d => d.parameters.length) = some 1 := by decide +kernel
theorem nd_X7_numberOf : yX7_numberOf.cls ≠ "java/lang/invoke/MethodHandle" ∧ yX7_numberOf.cls ≠ "java/lang/invoke/VarHandle" ∧ (parseMethodDescriptor yX7_numberOf.desc).map (fun d => d.parameters.length) = some 1 := by decide +kernel
theorem nd_X7_sumOf : yX7_sumOf.cls ≠ "java/lang/invoke/MethodHandle" ∧ yX7_sumOf.cls ≠ "java/lang/invoke/VarHandle" ∧ (parseMethodDescriptor yX7_sumOf.desc).map (fun d => d.parameters.length) = some 1 := by decide +kernel
theorem nd_X8_needTable : yX8_needTable.cls ≠ "java/lang/invoke/MethodHandle" ∧ yX8_needTable.cls ≠ "java/lang/invoke/VarHandle" ∧ (parseMethodDescriptor yX8_needTable.desc).map (fun d => d.parameters.length) = some 1 := by decide +kernel
theorem nd_X8_needTwoTables : yX8_needTwoTables.cls ≠ "java/lang/invoke/MethodHandle" ∧ yX8_needTwoTables.cls ≠ "java/lang/invoke/VarHandle" ∧ (parseMethodDescriptor yX8_needTwoTables.desc).map (fun d => d.parameters.length) = some 2 := by decide +kernel
theorem nd_X7_pairNumberOf : yX7_pairNumberOf.cls ≠ "java/lang/invoke/MethodHandle" ∧ yX7_pairNumberOf.cls ≠ "java/lang/invoke/VarHandle" ∧ (parseMethodDescriptor yX7_pairNumberOf.desc).map (fun d => d.parameters.length) = some 2 := by decide +kernel
theorem nd_X7_surpriseNumberOf : yX7_surpriseNumberOf.cls ≠ "java/lang/invoke/MethodHandle" ∧ yX7_surpriseNumberOf.cls ≠ "java/lang/invoke/VarHandle" ∧ (parseMethodDescriptor yX7_surpriseNumberOf.desc).map (fun d => d.parameters.length) = some 2 := by decide +kernel
theorem nd_X7_hasTables : yX7_hasTables.cls ≠ "java/lang/invoke/MethodHandle" ∧ yX7_hasTables.cls ≠ "java/lang/invoke/VarHandle" ∧ (parseMethodDescriptor yX7_hasTables.desc).map (fun d => d.parameters.length) = some 1 := by decide +kernel
theorem nd_X8_needTables : yX8_needTables.cls ≠ "java/lang/invoke/MethodHandle" ∧ yX8_needTables.cls ≠ "java/lang/invoke/VarHandle" ∧ (parseMethodDescriptor yX8_needTables.desc).map (fun d => d.parameters.length) = some 1 := by decide +kernel
theorem nd_X8_needKind : yX8_needKind.cls ≠ "java/lang/invoke/MethodHandle" ∧ yX8_needKind.cls ≠ "java/lang/invoke/VarHandle" ∧ (parseMethodDescriptor yX8_needKind.desc).map (fun d => d.parameters.length) = some 1 := by decide +kernel
theorem nd_X8_needAtLeast : yX8_needAtLeast.cls ≠ "java/lang/invoke/MethodHandle" ∧ yX8_needAtLeast.cls ≠ "java/lang/invoke/VarHandle" ∧ (parseMethodDescriptor yX8_needAtLeast.desc).map (fun d => d.parameters.length) = some 2 := by decide +kernel
theorem nd_X3_choose : yX3_choose.cls ≠ "java/lang/invoke/MethodHandle" ∧ yX3_choose.cls ≠ "java/lang/invoke/VarHandle" ∧ (parseMethodDescriptor yX3_choose.desc).map (fun d => d.parameters.length) = some 3 := by decide +kernel
theorem nd_X3_costAsPlannedBy : yX3_costAsPlannedBy.cls ≠ "java/lang/invoke/MethodHandle" ∧ yX3_costAsPlannedBy.cls ≠ "java/lang/invoke/VarHandle" ∧ (parseMethodDescriptor yX3_costAsPlannedBy.desc).map (fun d => d.parameters.length) = some 1 := by decide +kernel
theorem nd_X3_leastCost : yX3_leastCost.cls ≠ "java/lang/invoke/MethodHandle" ∧ yX3_leastCost.cls ≠ "java/lang/invoke/VarHandle" ∧ (parseMethodDescriptor yX3_leastCost.desc).map (fun d => d.parameters.length) = some 0 := by decide +kernel
theorem nd_X8_regretIn : yX8_regretIn.cls ≠ "java/lang/invoke/MethodHandle" ∧ yX8_regretIn.cls ≠ "java/lang/invoke/VarHandle" ∧ (parseMethodDescriptor yX8_regretIn.desc).map (fun d => d.parameters.length) = some 2 := by decide +kernel
theorem nd_X2_tables : yX2_tables.cls ≠ "java/lang/invoke/MethodHandle" ∧ yX2_tables.cls ≠ "java/lang/invoke/VarHandle" ∧ (parseMethodDescriptor yX2_tables.desc).map (fun d => d.parameters.length) = some 0 := by decide +kernel
theorem nd_X3_costOfRead : yX3_costOfRead.cls ≠ "java/lang/invoke/MethodHandle" ∧ yX3_costOfRead.cls ≠ "java/lang/invoke/VarHandle" ∧ (parseMethodDescriptor yX3_costOfRead.desc).map (fun d => d.parameters.length) = some 1 := by decide +kernel
theorem nd_X7_takeFrom : yX7_takeFrom.cls ≠ "java/lang/invoke/MethodHandle" ∧ yX7_takeFrom.cls ≠ "java/lang/invoke/VarHandle" ∧ (parseMethodDescriptor yX7_takeFrom.desc).map (fun d => d.parameters.length) = some 1 := by decide +kernel
theorem nd_X3_hasOrderOf : yX3_hasOrderOf.cls ≠ "java/lang/invoke/MethodHandle" ∧ yX3_hasOrderOf.cls ≠ "java/lang/invoke/VarHandle" ∧ (parseMethodDescriptor yX3_hasOrderOf.desc).map (fun d => d.parameters.length) = some 1 := by decide +kernel
theorem nd_X7_mostWronglyBelieved : yX7_mostWronglyBelieved.cls ≠ "java/lang/invoke/MethodHandle" ∧ yX7_mostWronglyBelieved.cls ≠ "java/lang/invoke/VarHandle" ∧ (parseMethodDescriptor yX7_mostWronglyBelieved.desc).map (fun d => d.parameters.length) = some 0 := by decide +kernel
theorem nd_X8_needSomeTable : yX8_needSomeTable.cls ≠ "java/lang/invoke/MethodHandle" ∧ yX8_needSomeTable.cls ≠ "java/lang/invoke/VarHandle" ∧ (parseMethodDescriptor yX8_needSomeTable.desc).map (fun d => d.parameters.length) = some 1 := by decide +kernel
theorem nd_X7_learn : yX7_learn.cls ≠ "java/lang/invoke/MethodHandle" ∧ yX7_learn.cls ≠ "java/lang/invoke/VarHandle" ∧ (parseMethodDescriptor yX7_learn.desc).map (fun d => d.parameters.length) = some 1 := by decide +kernel
theorem nd_X7_noteRun : yX7_noteRun.cls ≠ "java/lang/invoke/MethodHandle" ∧ yX7_noteRun.cls ≠ "java/lang/invoke/VarHandle" ∧ (parseMethodDescriptor yX7_noteRun.desc).map (fun d => d.parameters.length) = some 2 := by decide +kernel
theorem nd_X8_runIn : yX8_runIn.cls ≠ "java/lang/invoke/MethodHandle" ∧ yX8_runIn.cls ≠ "java/lang/invoke/VarHandle" ∧ (parseMethodDescriptor yX8_runIn.desc).map (fun d => d.parameters.length) = some 2 := by decide +kernel
theorem nd_X7_passWeeks : yX7_passWeeks.cls ≠ "java/lang/invoke/MethodHandle" ∧ yX7_passWeeks.cls ≠ "java/lang/invoke/VarHandle" ∧ (parseMethodDescriptor yX7_passWeeks.desc).map (fun d => d.parameters.length) = some 1 := by decide +kernel
theorem nd_X7_hasTwoTables : yX7_hasTwoTables.cls ≠ "java/lang/invoke/MethodHandle" ∧ yX7_hasTwoTables.cls ≠ "java/lang/invoke/VarHandle" ∧ (parseMethodDescriptor yX7_hasTwoTables.desc).map (fun d => d.parameters.length) = some 2 := by decide +kernel
theorem nd_X7_changeShare : yX7_changeShare.cls ≠ "java/lang/invoke/MethodHandle" ∧ yX7_changeShare.cls ≠ "java/lang/invoke/VarHandle" ∧ (parseMethodDescriptor yX7_changeShare.desc).map (fun d => d.parameters.length) = some 2 := by decide +kernel
theorem nd_X8_scriptDrifts : yX8_scriptDrifts.cls ≠ "java/lang/invoke/MethodHandle" ∧ yX8_scriptDrifts.cls ≠ "java/lang/invoke/VarHandle" ∧ (parseMethodDescriptor yX8_scriptDrifts.desc).map (fun d => d.parameters.length) = some 3 := by decide +kernel
theorem nd_X8_settingTakes : yX8_settingTakes.cls ≠ "java/lang/invoke/MethodHandle" ∧ yX8_settingTakes.cls ≠ "java/lang/invoke/VarHandle" ∧ (parseMethodDescriptor yX8_settingTakes.desc).map (fun d => d.parameters.length) = some 2 := by decide +kernel
theorem nd_X7_changeSetting : yX7_changeSetting.cls ≠ "java/lang/invoke/MethodHandle" ∧ yX7_changeSetting.cls ≠ "java/lang/invoke/VarHandle" ∧ (parseMethodDescriptor yX7_changeSetting.desc).map (fun d => d.parameters.length) = some 2 := by decide +kernel
theorem nd_X8_scriptSets : yX8_scriptSets.cls ≠ "java/lang/invoke/MethodHandle" ∧ yX8_scriptSets.cls ≠ "java/lang/invoke/VarHandle" ∧ (parseMethodDescriptor yX8_scriptSets.desc).map (fun d => d.parameters.length) = some 2 := by decide +kernel
theorem nd_X7_linkPair : yX7_linkPair.cls ≠ "java/lang/invoke/MethodHandle" ∧ yX7_linkPair.cls ≠ "java/lang/invoke/VarHandle" ∧ (parseMethodDescriptor yX7_linkPair.desc).map (fun d => d.parameters.length) = some 3 := by decide +kernel
theorem nd_X8_scriptLinks : yX8_scriptLinks.cls ≠ "java/lang/invoke/MethodHandle" ∧ yX8_scriptLinks.cls ≠ "java/lang/invoke/VarHandle" ∧ (parseMethodDescriptor yX8_scriptLinks.desc).map (fun d => d.parameters.length) = some 3 := by decide +kernel
theorem nd_X8_chosenTableIs : yX8_chosenTableIs.cls ≠ "java/lang/invoke/MethodHandle" ∧ yX8_chosenTableIs.cls ≠ "java/lang/invoke/VarHandle" ∧ (parseMethodDescriptor yX8_chosenTableIs.desc).map (fun d => d.parameters.length) = some 3 := by decide +kernel
theorem nd_X7_remembersSince : yX7_remembersSince.cls ≠ "java/lang/invoke/MethodHandle" ∧ yX7_remembersSince.cls ≠ "java/lang/invoke/VarHandle" ∧ (parseMethodDescriptor yX7_remembersSince.desc).map (fun d => d.parameters.length) = some 2 := by decide +kernel
theorem nd_X8_succeeds : yX8_succeeds.cls ≠ "java/lang/invoke/MethodHandle" ∧ yX8_succeeds.cls ≠ "java/lang/invoke/VarHandle" ∧ (parseMethodDescriptor yX8_succeeds.desc).map (fun d => d.parameters.length) = some 1 := by decide +kernel
theorem nd_X8_takeTurn : yX8_takeTurn.cls ≠ "java/lang/invoke/MethodHandle" ∧ yX8_takeTurn.cls ≠ "java/lang/invoke/VarHandle" ∧ (parseMethodDescriptor yX8_takeTurn.desc).map (fun d => d.parameters.length) = some 1 := by decide +kernel
theorem nd_X0_begin : yX0_begin.cls ≠ "java/lang/invoke/MethodHandle" ∧ yX0_begin.cls ≠ "java/lang/invoke/VarHandle" ∧ (parseMethodDescriptor yX0_begin.desc).map (fun d => d.parameters.length) = some 0 := by decide +kernel
theorem nd_X0_takes : yX0_takes.cls ≠ "java/lang/invoke/MethodHandle" ∧ yX0_takes.cls ≠ "java/lang/invoke/VarHandle" ∧ (parseMethodDescriptor yX0_takes.desc).map (fun d => d.parameters.length) = some 1 := by decide +kernel
theorem nd_X0_isTable : yX0_isTable.cls ≠ "java/lang/invoke/MethodHandle" ∧ yX0_isTable.cls ≠ "java/lang/invoke/VarHandle" ∧ (parseMethodDescriptor yX0_isTable.desc).map (fun d => d.parameters.length) = some 0 := by decide +kernel
theorem nd_X7_isFull : yX7_isFull.cls ≠ "java/lang/invoke/MethodHandle" ∧ yX7_isFull.cls ≠ "java/lang/invoke/VarHandle" ∧ (parseMethodDescriptor yX7_isFull.desc).map (fun d => d.parameters.length) = some 0 := by decide +kernel
theorem nd_X7_addTable : yX7_addTable.cls ≠ "java/lang/invoke/MethodHandle" ∧ yX7_addTable.cls ≠ "java/lang/invoke/VarHandle" ∧ (parseMethodDescriptor yX7_addTable.desc).map (fun d => d.parameters.length) = some 1 := by decide +kernel
theorem nd_X8_doEntry : yX8_doEntry.cls ≠ "java/lang/invoke/MethodHandle" ∧ yX8_doEntry.cls ≠ "java/lang/invoke/VarHandle" ∧ (parseMethodDescriptor yX8_doEntry.desc).map (fun d => d.parameters.length) = some 0 := by decide +kernel
theorem nd_X9_in : yX9_in.cls ≠ "java/lang/invoke/MethodHandle" ∧ yX9_in.cls ≠ "java/lang/invoke/VarHandle" ∧ (parseMethodDescriptor yX9_in.desc).map (fun d => d.parameters.length) = some 3 := by decide +kernel
theorem nd_X9_believed : yX9_believed.cls ≠ "java/lang/invoke/MethodHandle" ∧ yX9_believed.cls ≠ "java/lang/invoke/VarHandle" ∧ (parseMethodDescriptor yX9_believed.desc).map (fun d => d.parameters.length) = some 2 := by decide +kernel
theorem nd_X9_less : yX9_less.cls ≠ "java/lang/invoke/MethodHandle" ∧ yX9_less.cls ≠ "java/lang/invoke/VarHandle" ∧ (parseMethodDescriptor yX9_less.desc).map (fun d => d.parameters.length) = some 2 := by decide +kernel
theorem nd_X9_pairOf : yX9_pairOf.cls ≠ "java/lang/invoke/MethodHandle" ∧ yX9_pairOf.cls ≠ "java/lang/invoke/VarHandle" ∧ (parseMethodDescriptor yX9_pairOf.desc).map (fun d => d.parameters.length) = some 2 := by decide +kernel
theorem nd_X9_shareOf : yX9_shareOf.cls ≠ "java/lang/invoke/MethodHandle" ∧ yX9_shareOf.cls ≠ "java/lang/invoke/VarHandle" ∧ (parseMethodDescriptor yX9_shareOf.desc).map (fun d => d.parameters.length) = some 3 := by decide +kernel
theorem nd_X9_rowsOn : yX9_rowsOn.cls ≠ "java/lang/invoke/MethodHandle" ∧ yX9_rowsOn.cls ≠ "java/lang/invoke/VarHandle" ∧ (parseMethodDescriptor yX9_rowsOn.desc).map (fun d => d.parameters.length) = some 3 := by decide +kernel
theorem nd_X9_isByList : yX9_isByList.cls ≠ "java/lang/invoke/MethodHandle" ∧ yX9_isByList.cls ≠ "java/lang/invoke/VarHandle" ∧ (parseMethodDescriptor yX9_isByList.desc).map (fun d => d.parameters.length) = some 4 := by decide +kernel
theorem nd_X9_layRows : yX9_layRows.cls ≠ "java/lang/invoke/MethodHandle" ∧ yX9_layRows.cls ≠ "java/lang/invoke/VarHandle" ∧ (parseMethodDescriptor yX9_layRows.desc).map (fun d => d.parameters.length) = some 3 := by decide +kernel
theorem nd_X9_stepCost : yX9_stepCost.cls ≠ "java/lang/invoke/MethodHandle" ∧ yX9_stepCost.cls ≠ "java/lang/invoke/VarHandle" ∧ (parseMethodDescriptor yX9_stepCost.desc).map (fun d => d.parameters.length) = some 5 := by decide +kernel
theorem nd_X9_choose : yX9_choose.cls ≠ "java/lang/invoke/MethodHandle" ∧ yX9_choose.cls ≠ "java/lang/invoke/VarHandle" ∧ (parseMethodDescriptor yX9_choose.desc).map (fun d => d.parameters.length) = some 3 := by decide +kernel
theorem nd_X9_payFor : yX9_payFor.cls ≠ "java/lang/invoke/MethodHandle" ∧ yX9_payFor.cls ≠ "java/lang/invoke/VarHandle" ∧ (parseMethodDescriptor yX9_payFor.desc).map (fun d => d.parameters.length) = some 2 := by decide +kernel
theorem nd_X9_refused : yX9_refused.cls ≠ "java/lang/invoke/MethodHandle" ∧ yX9_refused.cls ≠ "java/lang/invoke/VarHandle" ∧ (parseMethodDescriptor yX9_refused.desc).map (fun d => d.parameters.length) = some 1 := by decide +kernel
theorem nd_X9_sign : yX9_sign.cls ≠ "java/lang/invoke/MethodHandle" ∧ yX9_sign.cls ≠ "java/lang/invoke/VarHandle" ∧ (parseMethodDescriptor yX9_sign.desc).map (fun d => d.parameters.length) = some 0 := by decide +kernel
theorem nd_X9_taken : yX9_taken.cls ≠ "java/lang/invoke/MethodHandle" ∧ yX9_taken.cls ≠ "java/lang/invoke/VarHandle" ∧ (parseMethodDescriptor yX9_taken.desc).map (fun d => d.parameters.length) = some 2 := by decide +kernel
theorem nd_X9_count : yX9_count.cls ≠ "java/lang/invoke/MethodHandle" ∧ yX9_count.cls ≠ "java/lang/invoke/VarHandle" ∧ (parseMethodDescriptor yX9_count.desc).map (fun d => d.parameters.length) = some 2 := by decide +kernel
theorem nd_X9_number : yX9_number.cls ≠ "java/lang/invoke/MethodHandle" ∧ yX9_number.cls ≠ "java/lang/invoke/VarHandle" ∧ (parseMethodDescriptor yX9_number.desc).map (fun d => d.parameters.length) = some 1 := by decide +kernel
theorem nd_X9_isTable : yX9_isTable.cls ≠ "java/lang/invoke/MethodHandle" ∧ yX9_isTable.cls ≠ "java/lang/invoke/VarHandle" ∧ (parseMethodDescriptor yX9_isTable.desc).map (fun d => d.parameters.length) = some 2 := by decide +kernel
theorem nd_X9_linkOn : yX9_linkOn.cls ≠ "java/lang/invoke/MethodHandle" ∧ yX9_linkOn.cls ≠ "java/lang/invoke/VarHandle" ∧ (parseMethodDescriptor yX9_linkOn.desc).map (fun d => d.parameters.length) = some 5 := by decide +kernel
theorem nd_X9_addOn : yX9_addOn.cls ≠ "java/lang/invoke/MethodHandle" ∧ yX9_addOn.cls ≠ "java/lang/invoke/VarHandle" ∧ (parseMethodDescriptor yX9_addOn.desc).map (fun d => d.parameters.length) = some 2 := by decide +kernel
theorem nd_X9_begin : yX9_begin.cls ≠ "java/lang/invoke/MethodHandle" ∧ yX9_begin.cls ≠ "java/lang/invoke/VarHandle" ∧ (parseMethodDescriptor yX9_begin.desc).map (fun d => d.parameters.length) = some 1 := by decide +kernel
theorem nd_X9_readEntry : yX9_readEntry.cls ≠ "java/lang/invoke/MethodHandle" ∧ yX9_readEntry.cls ≠ "java/lang/invoke/VarHandle" ∧ (parseMethodDescriptor yX9_readEntry.desc).map (fun d => d.parameters.length) = some 1 := by decide +kernel
theorem nd_X9_wrongWorld : yX9_wrongWorld.cls ≠ "java/lang/invoke/MethodHandle" ∧ yX9_wrongWorld.cls ≠ "java/lang/invoke/VarHandle" ∧ (parseMethodDescriptor yX9_wrongWorld.desc).map (fun d => d.parameters.length) = some 1 := by decide +kernel
theorem nd_X9_wrongPlan : yX9_wrongPlan.cls ≠ "java/lang/invoke/MethodHandle" ∧ yX9_wrongPlan.cls ≠ "java/lang/invoke/VarHandle" ∧ (parseMethodDescriptor yX9_wrongPlan.desc).map (fun d => d.parameters.length) = some 0 := by decide +kernel
theorem nd_X9_copyWorld : yX9_copyWorld.cls ≠ "java/lang/invoke/MethodHandle" ∧ yX9_copyWorld.cls ≠ "java/lang/invoke/VarHandle" ∧ (parseMethodDescriptor yX9_copyWorld.desc).map (fun d => d.parameters.length) = some 4 := by decide +kernel
theorem nd_X9_arePair : yX9_arePair.cls ≠ "java/lang/invoke/MethodHandle" ∧ yX9_arePair.cls ≠ "java/lang/invoke/VarHandle" ∧ (parseMethodDescriptor yX9_arePair.desc).map (fun d => d.parameters.length) = some 3 := by decide +kernel
theorem nd_X9_remember : yX9_remember.cls ≠ "java/lang/invoke/MethodHandle" ∧ yX9_remember.cls ≠ "java/lang/invoke/VarHandle" ∧ (parseMethodDescriptor yX9_remember.desc).map (fun d => d.parameters.length) = some 0 := by decide +kernel
theorem nd_X9_isShare : yX9_isShare.cls ≠ "java/lang/invoke/MethodHandle" ∧ yX9_isShare.cls ≠ "java/lang/invoke/VarHandle" ∧ (parseMethodDescriptor yX9_isShare.desc).map (fun d => d.parameters.length) = some 1 := by decide +kernel
theorem nd_X9_whyNotDrift : yX9_whyNotDrift.cls ≠ "java/lang/invoke/MethodHandle" ∧ yX9_whyNotDrift.cls ≠ "java/lang/invoke/VarHandle" ∧ (parseMethodDescriptor yX9_whyNotDrift.desc).map (fun d => d.parameters.length) = some 4 := by decide +kernel
theorem nd_X9_driftOn : yX9_driftOn.cls ≠ "java/lang/invoke/MethodHandle" ∧ yX9_driftOn.cls ≠ "java/lang/invoke/VarHandle" ∧ (parseMethodDescriptor yX9_driftOn.desc).map (fun d => d.parameters.length) = some 4 := by decide +kernel
theorem nd_X9_costOn : yX9_costOn.cls ≠ "java/lang/invoke/MethodHandle" ∧ yX9_costOn.cls ≠ "java/lang/invoke/VarHandle" ∧ (parseMethodDescriptor yX9_costOn.desc).map (fun d => d.parameters.length) = some 3 := by decide +kernel
theorem nd_X9_find : yX9_find.cls ≠ "java/lang/invoke/MethodHandle" ∧ yX9_find.cls ≠ "java/lang/invoke/VarHandle" ∧ (parseMethodDescriptor yX9_find.desc).map (fun d => d.parameters.length) = some 3 := by decide +kernel
theorem nd_X9_isSet : yX9_isSet.cls ≠ "java/lang/invoke/MethodHandle" ∧ yX9_isSet.cls ≠ "java/lang/invoke/VarHandle" ∧ (parseMethodDescriptor yX9_isSet.desc).map (fun d => d.parameters.length) = some 2 := by decide +kernel
theorem nd_X9_whyNotRun : yX9_whyNotRun.cls ≠ "java/lang/invoke/MethodHandle" ∧ yX9_whyNotRun.cls ≠ "java/lang/invoke/VarHandle" ∧ (parseMethodDescriptor yX9_whyNotRun.desc).map (fun d => d.parameters.length) = some 2 := by decide +kernel
theorem nd_X9_runOn : yX9_runOn.cls ≠ "java/lang/invoke/MethodHandle" ∧ yX9_runOn.cls ≠ "java/lang/invoke/VarHandle" ∧ (parseMethodDescriptor yX9_runOn.desc).map (fun d => d.parameters.length) = some 2 := by decide +kernel
theorem nd_X9_weeksOn : yX9_weeksOn.cls ≠ "java/lang/invoke/MethodHandle" ∧ yX9_weeksOn.cls ≠ "java/lang/invoke/VarHandle" ∧ (parseMethodDescriptor yX9_weeksOn.desc).map (fun d => d.parameters.length) = some 2 := by decide +kernel
theorem nd_X9_isSetting : yX9_isSetting.cls ≠ "java/lang/invoke/MethodHandle" ∧ yX9_isSetting.cls ≠ "java/lang/invoke/VarHandle" ∧ (parseMethodDescriptor yX9_isSetting.desc).map (fun d => d.parameters.length) = some 2 := by decide +kernel
theorem nd_X9_layText : yX9_layText.cls ≠ "java/lang/invoke/MethodHandle" ∧ yX9_layText.cls ≠ "java/lang/invoke/VarHandle" ∧ (parseMethodDescriptor yX9_layText.desc).map (fun d => d.parameters.length) = some 0 := by decide +kernel
theorem nd_X9_isChosen : yX9_isChosen.cls ≠ "java/lang/invoke/MethodHandle" ∧ yX9_isChosen.cls ≠ "java/lang/invoke/VarHandle" ∧ (parseMethodDescriptor yX9_isChosen.desc).map (fun d => d.parameters.length) = some 3 := by decide +kernel
theorem nd_X9_command : yX9_command.cls ≠ "java/lang/invoke/MethodHandle" ∧ yX9_command.cls ≠ "java/lang/invoke/VarHandle" ∧ (parseMethodDescriptor yX9_command.desc).map (fun d => d.parameters.length) = some 4 := by decide +kernel
theorem nd_X9_turn : yX9_turn.cls ≠ "java/lang/invoke/MethodHandle" ∧ yX9_turn.cls ≠ "java/lang/invoke/VarHandle" ∧ (parseMethodDescriptor yX9_turn.desc).map (fun d => d.parameters.length) = some 1 := by decide +kernel
theorem nd_X8_append : yX8_append.cls ≠ "java/lang/invoke/MethodHandle" ∧ yX8_append.cls ≠ "java/lang/invoke/VarHandle" ∧ (parseMethodDescriptor yX8_append.desc).map (fun d => d.parameters.length) = some 1 := by decide +kernel
theorem nd_X8_about : yX8_about.cls ≠ "java/lang/invoke/MethodHandle" ∧ yX8_about.cls ≠ "java/lang/invoke/VarHandle" ∧ (parseMethodDescriptor yX8_about.desc).map (fun d => d.parameters.length) = some 1 := by decide +kernel
theorem nd_X8_sum : yX8_sum.cls ≠ "java/lang/invoke/MethodHandle" ∧ yX8_sum.cls ≠ "java/lang/invoke/VarHandle" ∧ (parseMethodDescriptor yX8_sum.desc).map (fun d => d.parameters.length) = some 1 := by decide +kernel
theorem nd_X8_size : yX8_size.cls ≠ "java/lang/invoke/MethodHandle" ∧ yX8_size.cls ≠ "java/lang/invoke/VarHandle" ∧ (parseMethodDescriptor yX8_size.desc).map (fun d => d.parameters.length) = some 1 := by decide +kernel
theorem nd_X8_pair : yX8_pair.cls ≠ "java/lang/invoke/MethodHandle" ∧ yX8_pair.cls ≠ "java/lang/invoke/VarHandle" ∧ (parseMethodDescriptor yX8_pair.desc).map (fun d => d.parameters.length) = some 3 := by decide +kernel
theorem nd_X8_surprise : yX8_surprise.cls ≠ "java/lang/invoke/MethodHandle" ∧ yX8_surprise.cls ≠ "java/lang/invoke/VarHandle" ∧ (parseMethodDescriptor yX8_surprise.desc).map (fun d => d.parameters.length) = some 2 := by decide +kernel
theorem nd_X8_setting : yX8_setting.cls ≠ "java/lang/invoke/MethodHandle" ∧ yX8_setting.cls ≠ "java/lang/invoke/VarHandle" ∧ (parseMethodDescriptor yX8_setting.desc).map (fun d => d.parameters.length) = some 1 := by decide +kernel
theorem nd_X8_rows : yX8_rows.cls ≠ "java/lang/invoke/MethodHandle" ∧ yX8_rows.cls ≠ "java/lang/invoke/VarHandle" ∧ (parseMethodDescriptor yX8_rows.desc).map (fun d => d.parameters.length) = some 2 := by decide +kernel
theorem nd_X8_order : yX8_order.cls ≠ "java/lang/invoke/MethodHandle" ∧ yX8_order.cls ≠ "java/lang/invoke/VarHandle" ∧ (parseMethodDescriptor yX8_order.desc).map (fun d => d.parameters.length) = some 3 := by decide +kernel
theorem nd_X8_way : yX8_way.cls ≠ "java/lang/invoke/MethodHandle" ∧ yX8_way.cls ≠ "java/lang/invoke/VarHandle" ∧ (parseMethodDescriptor yX8_way.desc).map (fun d => d.parameters.length) = some 2 := by decide +kernel
theorem nd_X8_cost : yX8_cost.cls ≠ "java/lang/invoke/MethodHandle" ∧ yX8_cost.cls ≠ "java/lang/invoke/VarHandle" ∧ (parseMethodDescriptor yX8_cost.desc).map (fun d => d.parameters.length) = some 2 := by decide +kernel
theorem nd_X8_costOfText : yX8_costOfText.cls ≠ "java/lang/invoke/MethodHandle" ∧ yX8_costOfText.cls ≠ "java/lang/invoke/VarHandle" ∧ (parseMethodDescriptor yX8_costOfText.desc).map (fun d => d.parameters.length) = some 1 := by decide +kernel
theorem nd_X8_matters : yX8_matters.cls ≠ "java/lang/invoke/MethodHandle" ∧ yX8_matters.cls ≠ "java/lang/invoke/VarHandle" ∧ (parseMethodDescriptor yX8_matters.desc).map (fun d => d.parameters.length) = some 3 := by decide +kernel
theorem nd_X8_learnsIn : yX8_learnsIn.cls ≠ "java/lang/invoke/MethodHandle" ∧ yX8_learnsIn.cls ≠ "java/lang/invoke/VarHandle" ∧ (parseMethodDescriptor yX8_learnsIn.desc).map (fun d => d.parameters.length) = some 1 := by decide +kernel
theorem nd_X8_runScript : yX8_runScript.cls ≠ "java/lang/invoke/MethodHandle" ∧ yX8_runScript.cls ≠ "java/lang/invoke/VarHandle" ∧ (parseMethodDescriptor yX8_runScript.desc).map (fun d => d.parameters.length) = some 2 := by decide +kernel
theorem nd_X8_simulate : yX8_simulate.cls ≠ "java/lang/invoke/MethodHandle" ∧ yX8_simulate.cls ≠ "java/lang/invoke/VarHandle" ∧ (parseMethodDescriptor yX8_simulate.desc).map (fun d => d.parameters.length) = some 2 := by decide +kernel
section LINKS
variable {p : Program} {l : Launch} {e : Env} {R : Room} {s : State} {m : MethodId} {args : Array Value} {below : List Frame} {meth : Method} {c : Code} {H : Heap} {locs : List Loc} {cells slots : Nat} {Q : State → Prop}
variable {cc : ByteArray} {pc : Nat} {ls : Array Slot} {rest : List Value} {D : va_G} {A : Nat → Prop} {a : Nat} {tys : List (ClassId × FieldType)} {ws : va_W} {H0 : Heap}
theorem gf_X0_15 (hx : p.tables.exec = Jvm.exec) (hb : c.code = cc) (hqs : ∀ w ∈ TB, w.before args s = true) (hown : s.vm.findClass RX0 = some m.cls) (hK : va_K D vwCl tys s) (hP : va_P D vwCl ws H) (q0 : Nat) {fs : List Value} (he : ws[q0]? = some (a, .inr (0, fs))) {v : Value} (hv : fs[4]? = some v) (hdg : decode cc pc = .ok (.getfield 15, 3)) (kk : W p l e R s m args below meth c H locs cells slots Q (F0 m (pc + 3) ls (v :: rest))) : W p l e R s m args below meth c H locs cells slots Q (F0 m pc ls (.ref a :: rest)) :=
  va_get (D := D) (ci := 0) (v := v) (C := RX0) (T := TX0) (N := 5) hx hb hqs inX0 hown hK hP q0 he rfl 4 (by decide) (hqs _ w_107) (fun _ h9 => h9) hv hdg kk
theorem gf_X0_19 (hx : p.tables.exec = Jvm.exec) (hb : c.code = cc) (hqs : ∀ w ∈ TB, w.before args s = true) (hown : s.vm.findClass RX0 = some m.cls) (hK : va_K D vwCl tys s) (hP : va_P D vwCl ws H) (q0 : Nat) {fs : List Value} (he : ws[q0]? = some (a, .inr (0, fs))) {v : Value} (hv : fs[0]? = some v) (hdg : decode cc pc = .ok (.getfield 19, 3)) (kk : W p l e R s m args below meth c H locs cells slots Q (F0 m (pc + 3) ls (v :: rest))) : W p l e R s m args below meth c H locs cells slots Q (F0 m pc ls (.ref a :: rest)) :=
  va_get (D := D) (ci := 0) (v := v) (C := RX0) (T := TX0) (N := 5) hx hb hqs inX0 hown hK hP q0 he rfl 0 (by decide) (hqs _ w_100) (fun _ h9 => h9) hv hdg kk
theorem gf_X0_25 (hx : p.tables.exec = Jvm.exec) (hb : c.code = cc) (hqs : ∀ w ∈ TB, w.before args s = true) (hown : s.vm.findClass RX0 = some m.cls) (hK : va_K D vwCl tys s) (hP : va_P D vwCl ws H) (q0 : Nat) {fs : List Value} (he : ws[q0]? = some (a, .inr (0, fs))) {v : Value} (hv : fs[1]? = some v) (hdg : decode cc pc = .ok (.getfield 25, 3)) (kk : W p l e R s m args below meth c H locs cells slots Q (F0 m (pc + 3) ls (v :: rest))) : W p l e R s m args below meth c H locs cells slots Q (F0 m pc ls (.ref a :: rest)) :=
  va_get (D := D) (ci := 0) (v := v) (C := RX0) (T := TX0) (N := 5) hx hb hqs inX0 hown hK hP q0 he rfl 1 (by decide) (hqs _ w_101) (fun _ h9 => h9) hv hdg kk
theorem gf_X0_32 (hx : p.tables.exec = Jvm.exec) (hb : c.code = cc) (hqs : ∀ w ∈ TB, w.before args s = true) (hown : s.vm.findClass RX0 = some m.cls) (hK : va_K D vwCl tys s) (hP : va_P D vwCl ws H) (q0 : Nat) {fs : List Value} (he : ws[q0]? = some (a, .inr (0, fs))) {v : Value} (hv : fs[2]? = some v) (hdg : decode cc pc = .ok (.getfield 32, 3)) (kk : W p l e R s m args below meth c H locs cells slots Q (F0 m (pc + 3) ls (v :: rest))) : W p l e R s m args below meth c H locs cells slots Q (F0 m pc ls (.ref a :: rest)) :=
  va_get (D := D) (ci := 0) (v := v) (C := RX0) (T := TX0) (N := 5) hx hb hqs inX0 hown hK hP q0 he rfl 2 (by decide) (hqs _ w_103) (fun _ h9 => h9) hv hdg kk
theorem gf_X2_22 (hx : p.tables.exec = Jvm.exec) (hb : c.code = cc) (hqs : ∀ w ∈ TB, w.before args s = true) (hown : s.vm.findClass RX2 = some m.cls) (hK : va_K D vwCl tys s) (hP : va_P D vwCl ws H) (q0 : Nat) {fs : List Value} (he : ws[q0]? = some (a, .inr (2, fs))) {v : Value} (hv : fs[2]? = some v) (hdg : decode cc pc = .ok (.getfield 22, 3)) (kk : W p l e R s m args below meth c H locs cells slots Q (F0 m (pc + 3) ls (v :: rest))) : W p l e R s m args below meth c H locs cells slots Q (F0 m pc ls (.ref a :: rest)) :=
  va_get (D := D) (ci := 2) (v := v) (C := RX2) (T := TX2) (N := 4) hx hb hqs inX2 hown hK hP q0 he rfl 2 (by decide) (hqs _ w_129) (fun _ h9 => h9) hv hdg kk
theorem gf_X2_19 (hx : p.tables.exec = Jvm.exec) (hb : c.code = cc) (hqs : ∀ w ∈ TB, w.before args s = true) (hown : s.vm.findClass RX2 = some m.cls) (hK : va_K D vwCl tys s) (hP : va_P D vwCl ws H) (q0 : Nat) {fs : List Value} (he : ws[q0]? = some (a, .inr (2, fs))) {v : Value} (hv : fs[1]? = some v) (hdg : decode cc pc = .ok (.getfield 19, 3)) (kk : W p l e R s m args below meth c H locs cells slots Q (F0 m (pc + 3) ls (v :: rest))) : W p l e R s m args below meth c H locs cells slots Q (F0 m pc ls (.ref a :: rest)) :=
  va_get (D := D) (ci := 2) (v := v) (C := RX2) (T := TX2) (N := 4) hx hb hqs inX2 hown hK hP q0 he rfl 1 (by decide) (hqs _ w_128) (fun _ h9 => h9) hv hdg kk
theorem gf_X2_15 (hx : p.tables.exec = Jvm.exec) (hb : c.code = cc) (hqs : ∀ w ∈ TB, w.before args s = true) (hown : s.vm.findClass RX2 = some m.cls) (hK : va_K D vwCl tys s) (hP : va_P D vwCl ws H) (q0 : Nat) {fs : List Value} (he : ws[q0]? = some (a, .inr (2, fs))) {v : Value} (hv : fs[0]? = some v) (hdg : decode cc pc = .ok (.getfield 15, 3)) (kk : W p l e R s m args below meth c H locs cells slots Q (F0 m (pc + 3) ls (v :: rest))) : W p l e R s m args below meth c H locs cells slots Q (F0 m pc ls (.ref a :: rest)) :=
  va_get (D := D) (ci := 2) (v := v) (C := RX2) (T := TX2) (N := 4) hx hb hqs inX2 hown hK hP q0 he rfl 0 (by decide) (hqs _ w_126) (fun _ h9 => h9) hv hdg kk
theorem gf_X2_9 (hx : p.tables.exec = Jvm.exec) (hb : c.code = cc) (hqs : ∀ w ∈ TB, w.before args s = true) (hown : s.vm.findClass RX2 = some m.cls) (hK : va_K D vwCl tys s) (hP : va_P D vwCl ws H) (q0 : Nat) {fs : List Value} (he : ws[q0]? = some (a, .inr (2, fs))) {v : Value} (hv : fs[3]? = some v) (hdg : decode cc pc = .ok (.getfield 9, 3)) (kk : W p l e R s m args below meth c H locs cells slots Q (F0 m (pc + 3) ls (v :: rest))) : W p l e R s m args below meth c H locs cells slots Q (F0 m pc ls (.ref a :: rest)) :=
  va_get (D := D) (ci := 2) (v := v) (C := RX2) (T := TX2) (N := 4) hx hb hqs inX2 hown hK hP q0 he rfl 3 (by decide) (hqs _ w_130) (fun _ h9 => h9) hv hdg kk
theorem gf_X3_9 (hx : p.tables.exec = Jvm.exec) (hb : c.code = cc) (hqs : ∀ w ∈ TB, w.before args s = true) (hown : s.vm.findClass RX3 = some m.cls) (hK : va_K D vwCl tys s) (hP : va_P D vwCl ws H) (q0 : Nat) {fs : List Value} (he : ws[q0]? = some (a, .inr (3, fs))) {v : Value} (hv : fs[0]? = some v) (hdg : decode cc pc = .ok (.getfield 9, 3)) (kk : W p l e R s m args below meth c H locs cells slots Q (F0 m (pc + 3) ls (v :: rest))) : W p l e R s m args below meth c H locs cells slots Q (F0 m pc ls (.ref a :: rest)) :=
  va_get (D := D) (ci := 3) (v := v) (C := RX3) (T := TX3) (N := 9) hx hb hqs inX3 hown hK hP q0 he rfl 0 (by decide) (hqs _ w_241) (fun _ h9 => h9) hv hdg kk
theorem gf_X7_27 (hx : p.tables.exec = Jvm.exec) (hb : c.code = cc) (hqs : ∀ w ∈ TB, w.before args s = true) (hown : s.vm.findClass RX7 = some m.cls) (hK : va_K D vwCl tys s) (hP : va_P D vwCl ws H) (q0 : Nat) {fs : List Value} (he : ws[q0]? = some (a, .inr (6, fs))) {v : Value} (hv : fs[6]? = some v) (hdg : decode cc pc = .ok (.getfield 27, 3)) (kk : W p l e R s m args below meth c H locs cells slots Q (F0 m (pc + 3) ls (v :: rest))) : W p l e R s m args below meth c H locs cells slots Q (F0 m pc ls (.ref a :: rest)) :=
  va_get (D := D) (ci := 6) (v := v) (C := RX7) (T := TX7) (N := 13) hx hb hqs inX7 hown hK hP q0 he rfl 6 (by decide) (hqs _ w_165) (fun _ h9 => h9) hv hdg kk
theorem gf_X7_30 (hx : p.tables.exec = Jvm.exec) (hb : c.code = cc) (hqs : ∀ w ∈ TB, w.before args s = true) (hown : s.vm.findClass RX7 = some m.cls) (hK : va_K D vwCl tys s) (hP : va_P D vwCl ws H) (q0 : Nat) {fs : List Value} (he : ws[q0]? = some (a, .inr (6, fs))) {v : Value} (hv : fs[7]? = some v) (hdg : decode cc pc = .ok (.getfield 30, 3)) (kk : W p l e R s m args below meth c H locs cells slots Q (F0 m (pc + 3) ls (v :: rest))) : W p l e R s m args below meth c H locs cells slots Q (F0 m pc ls (.ref a :: rest)) :=
  va_get (D := D) (ci := 6) (v := v) (C := RX7) (T := TX7) (N := 13) hx hb hqs inX7 hown hK hP q0 he rfl 7 (by decide) (hqs _ w_166) (fun _ h9 => h9) hv hdg kk
theorem gf_X7_36 (hx : p.tables.exec = Jvm.exec) (hb : c.code = cc) (hqs : ∀ w ∈ TB, w.before args s = true) (hown : s.vm.findClass RX7 = some m.cls) (hK : va_K D vwCl tys s) (hP : va_P D vwCl ws H) (q0 : Nat) {fs : List Value} (he : ws[q0]? = some (a, .inr (6, fs))) {v : Value} (hv : fs[9]? = some v) (hdg : decode cc pc = .ok (.getfield 36, 3)) (kk : W p l e R s m args below meth c H locs cells slots Q (F0 m (pc + 3) ls (v :: rest))) : W p l e R s m args below meth c H locs cells slots Q (F0 m pc ls (.ref a :: rest)) :=
  va_get (D := D) (ci := 6) (v := v) (C := RX7) (T := TX7) (N := 13) hx hb hqs inX7 hown hK hP q0 he rfl 9 (by decide) (hqs _ w_168) (fun _ h9 => h9) hv hdg kk
theorem gf_X7_33 (hx : p.tables.exec = Jvm.exec) (hb : c.code = cc) (hqs : ∀ w ∈ TB, w.before args s = true) (hown : s.vm.findClass RX7 = some m.cls) (hK : va_K D vwCl tys s) (hP : va_P D vwCl ws H) (q0 : Nat) {fs : List Value} (he : ws[q0]? = some (a, .inr (6, fs))) {v : Value} (hv : fs[8]? = some v) (hdg : decode cc pc = .ok (.getfield 33, 3)) (kk : W p l e R s m args below meth c H locs cells slots Q (F0 m (pc + 3) ls (v :: rest))) : W p l e R s m args below meth c H locs cells slots Q (F0 m pc ls (.ref a :: rest)) :=
  va_get (D := D) (ci := 6) (v := v) (C := RX7) (T := TX7) (N := 13) hx hb hqs inX7 hown hK hP q0 he rfl 8 (by decide) (hqs _ w_167) (fun _ h9 => h9) hv hdg kk
theorem gf_X3_18 (hx : p.tables.exec = Jvm.exec) (hb : c.code = cc) (hqs : ∀ w ∈ TB, w.before args s = true) (hown : s.vm.findClass RX3 = some m.cls) (hK : va_K D vwCl tys s) (hP : va_P D vwCl ws H) (q0 : Nat) {fs : List Value} (he : ws[q0]? = some (a, .inr (3, fs))) {v : Value} (hv : fs[2]? = some v) (hdg : decode cc pc = .ok (.getfield 18, 3)) (kk : W p l e R s m args below meth c H locs cells slots Q (F0 m (pc + 3) ls (v :: rest))) : W p l e R s m args below meth c H locs cells slots Q (F0 m pc ls (.ref a :: rest)) :=
  va_get (D := D) (ci := 3) (v := v) (C := RX3) (T := TX3) (N := 9) hx hb hqs inX3 hown hK hP q0 he rfl 2 (by decide) (hqs _ w_243) (fun _ h9 => h9) hv hdg kk
theorem gf_X3_15 (hx : p.tables.exec = Jvm.exec) (hb : c.code = cc) (hqs : ∀ w ∈ TB, w.before args s = true) (hown : s.vm.findClass RX3 = some m.cls) (hK : va_K D vwCl tys s) (hP : va_P D vwCl ws H) (q0 : Nat) {fs : List Value} (he : ws[q0]? = some (a, .inr (3, fs))) {v : Value} (hv : fs[1]? = some v) (hdg : decode cc pc = .ok (.getfield 15, 3)) (kk : W p l e R s m args below meth c H locs cells slots Q (F0 m (pc + 3) ls (v :: rest))) : W p l e R s m args below meth c H locs cells slots Q (F0 m pc ls (.ref a :: rest)) :=
  va_get (D := D) (ci := 3) (v := v) (C := RX3) (T := TX3) (N := 9) hx hb hqs inX3 hown hK hP q0 he rfl 1 (by decide) (hqs _ w_242) (fun _ h9 => h9) hv hdg kk
theorem gf_X3_34 (hx : p.tables.exec = Jvm.exec) (hb : c.code = cc) (hqs : ∀ w ∈ TB, w.before args s = true) (hown : s.vm.findClass RX3 = some m.cls) (hK : va_K D vwCl tys s) (hP : va_P D vwCl ws H) (q0 : Nat) {fs : List Value} (he : ws[q0]? = some (a, .inr (3, fs))) {v : Value} (hv : fs[7]? = some v) (hdg : decode cc pc = .ok (.getfield 34, 3)) (kk : W p l e R s m args below meth c H locs cells slots Q (F0 m (pc + 3) ls (v :: rest))) : W p l e R s m args below meth c H locs cells slots Q (F0 m pc ls (.ref a :: rest)) :=
  va_get (D := D) (ci := 3) (v := v) (C := RX3) (T := TX3) (N := 9) hx hb hqs inX3 hown hK hP q0 he rfl 7 (by decide) (hqs _ w_248) (fun _ h9 => h9) hv hdg kk
theorem gf_X3_22 (hx : p.tables.exec = Jvm.exec) (hb : c.code = cc) (hqs : ∀ w ∈ TB, w.before args s = true) (hown : s.vm.findClass RX3 = some m.cls) (hK : va_K D vwCl tys s) (hP : va_P D vwCl ws H) (q0 : Nat) {fs : List Value} (he : ws[q0]? = some (a, .inr (3, fs))) {v : Value} (hv : fs[3]? = some v) (hdg : decode cc pc = .ok (.getfield 22, 3)) (kk : W p l e R s m args below meth c H locs cells slots Q (F0 m (pc + 3) ls (v :: rest))) : W p l e R s m args below meth c H locs cells slots Q (F0 m pc ls (.ref a :: rest)) :=
  va_get (D := D) (ci := 3) (v := v) (C := RX3) (T := TX3) (N := 9) hx hb hqs inX3 hown hK hP q0 he rfl 3 (by decide) (hqs _ w_244) (fun _ h9 => h9) hv hdg kk
theorem gf_X3_25 (hx : p.tables.exec = Jvm.exec) (hb : c.code = cc) (hqs : ∀ w ∈ TB, w.before args s = true) (hown : s.vm.findClass RX3 = some m.cls) (hK : va_K D vwCl tys s) (hP : va_P D vwCl ws H) (q0 : Nat) {fs : List Value} (he : ws[q0]? = some (a, .inr (3, fs))) {v : Value} (hv : fs[4]? = some v) (hdg : decode cc pc = .ok (.getfield 25, 3)) (kk : W p l e R s m args below meth c H locs cells slots Q (F0 m (pc + 3) ls (v :: rest))) : W p l e R s m args below meth c H locs cells slots Q (F0 m pc ls (.ref a :: rest)) :=
  va_get (D := D) (ci := 3) (v := v) (C := RX3) (T := TX3) (N := 9) hx hb hqs inX3 hown hK hP q0 he rfl 4 (by decide) (hqs _ w_245) (fun _ h9 => h9) hv hdg kk
theorem gf_X3_28 (hx : p.tables.exec = Jvm.exec) (hb : c.code = cc) (hqs : ∀ w ∈ TB, w.before args s = true) (hown : s.vm.findClass RX3 = some m.cls) (hK : va_K D vwCl tys s) (hP : va_P D vwCl ws H) (q0 : Nat) {fs : List Value} (he : ws[q0]? = some (a, .inr (3, fs))) {v : Value} (hv : fs[5]? = some v) (hdg : decode cc pc = .ok (.getfield 28, 3)) (kk : W p l e R s m args below meth c H locs cells slots Q (F0 m (pc + 3) ls (v :: rest))) : W p l e R s m args below meth c H locs cells slots Q (F0 m pc ls (.ref a :: rest)) :=
  va_get (D := D) (ci := 3) (v := v) (C := RX3) (T := TX3) (N := 9) hx hb hqs inX3 hown hK hP q0 he rfl 5 (by decide) (hqs _ w_246) (fun _ h9 => h9) hv hdg kk
theorem gf_X3_31 (hx : p.tables.exec = Jvm.exec) (hb : c.code = cc) (hqs : ∀ w ∈ TB, w.before args s = true) (hown : s.vm.findClass RX3 = some m.cls) (hK : va_K D vwCl tys s) (hP : va_P D vwCl ws H) (q0 : Nat) {fs : List Value} (he : ws[q0]? = some (a, .inr (3, fs))) {v : Value} (hv : fs[6]? = some v) (hdg : decode cc pc = .ok (.getfield 31, 3)) (kk : W p l e R s m args below meth c H locs cells slots Q (F0 m (pc + 3) ls (v :: rest))) : W p l e R s m args below meth c H locs cells slots Q (F0 m pc ls (.ref a :: rest)) :=
  va_get (D := D) (ci := 3) (v := v) (C := RX3) (T := TX3) (N := 9) hx hb hqs inX3 hown hK hP q0 he rfl 6 (by decide) (hqs _ w_247) (fun _ h9 => h9) hv hdg kk
theorem gf_X3_38 (hx : p.tables.exec = Jvm.exec) (hb : c.code = cc) (hqs : ∀ w ∈ TB, w.before args s = true) (hown : s.vm.findClass RX3 = some m.cls) (hK : va_K D vwCl tys s) (hP : va_P D vwCl ws H) (q0 : Nat) {fs : List Value} (he : ws[q0]? = some (a, .inr (3, fs))) {v : Value} (hv : fs[8]? = some v) (hdg : decode cc pc = .ok (.getfield 38, 3)) (kk : W p l e R s m args below meth c H locs cells slots Q (F0 m (pc + 3) ls (v :: rest))) : W p l e R s m args below meth c H locs cells slots Q (F0 m pc ls (.ref a :: rest)) :=
  va_get (D := D) (ci := 3) (v := v) (C := RX3) (T := TX3) (N := 9) hx hb hqs inX3 hown hK hP q0 he rfl 8 (by decide) (hqs _ w_249) (fun _ h9 => h9) hv hdg kk
theorem gf_X3_91 (hx : p.tables.exec = Jvm.exec) (hb : c.code = cc) (hqs : ∀ w ∈ TB, w.before args s = true) (hown : s.vm.findClass RX3 = some m.cls) (hK : va_K D vwCl tys s) (hP : va_P D vwCl ws H) (q0 : Nat) {fs : List Value} (he : ws[q0]? = some (a, .inr (2, fs))) {v : Value} (hv : fs[0]? = some v) (hdg : decode cc pc = .ok (.getfield 91, 3)) (kk : W p l e R s m args below meth c H locs cells slots Q (F0 m (pc + 3) ls (v :: rest))) : W p l e R s m args below meth c H locs cells slots Q (F0 m pc ls (.ref a :: rest)) :=
  va_get (D := D) (ci := 2) (v := v) (C := RX2) (T := TX2) (N := 4) hx hb hqs inX2 hown hK hP q0 he rfl 0 (by decide) (hqs _ w_127) (fun _ h9 => h9) hv hdg kk
theorem gf_X6_15 (hx : p.tables.exec = Jvm.exec) (hb : c.code = cc) (hqs : ∀ w ∈ TB, w.before args s = true) (hown : s.vm.findClass RX6 = some m.cls) (hK : va_K D vwCl tys s) (hP : va_P D vwCl ws H) (q0 : Nat) {fs : List Value} (he : ws[q0]? = some (a, .inr (5, fs))) {v : Value} (hv : fs[0]? = some v) (hdg : decode cc pc = .ok (.getfield 15, 3)) (kk : W p l e R s m args below meth c H locs cells slots Q (F0 m (pc + 3) ls (v :: rest))) : W p l e R s m args below meth c H locs cells slots Q (F0 m pc ls (.ref a :: rest)) :=
  va_get (D := D) (ci := 5) (v := v) (C := RX6) (T := TX6) (N := 2) hx hb hqs inX6 hown hK hP q0 he rfl 0 (by decide) (hqs _ w_82) (fun _ h9 => h9) hv hdg kk
theorem gf_X6_9 (hx : p.tables.exec = Jvm.exec) (hb : c.code = cc) (hqs : ∀ w ∈ TB, w.before args s = true) (hown : s.vm.findClass RX6 = some m.cls) (hK : va_K D vwCl tys s) (hP : va_P D vwCl ws H) (q0 : Nat) {fs : List Value} (he : ws[q0]? = some (a, .inr (5, fs))) {v : Value} (hv : fs[1]? = some v) (hdg : decode cc pc = .ok (.getfield 9, 3)) (kk : W p l e R s m args below meth c H locs cells slots Q (F0 m (pc + 3) ls (v :: rest))) : W p l e R s m args below meth c H locs cells slots Q (F0 m pc ls (.ref a :: rest)) :=
  va_get (D := D) (ci := 5) (v := v) (C := RX6) (T := TX6) (N := 2) hx hb hqs inX6 hown hK hP q0 he rfl 1 (by decide) (hqs _ w_84) (fun _ h9 => h9) hv hdg kk
theorem gf_X7_9 (hx : p.tables.exec = Jvm.exec) (hb : c.code = cc) (hqs : ∀ w ∈ TB, w.before args s = true) (hown : s.vm.findClass RX7 = some m.cls) (hK : va_K D vwCl tys s) (hP : va_P D vwCl ws H) (q0 : Nat) {fs : List Value} (he : ws[q0]? = some (a, .inr (6, fs))) {v : Value} (hv : fs[4]? = some v) (hdg : decode cc pc = .ok (.getfield 9, 3)) (kk : W p l e R s m args below meth c H locs cells slots Q (F0 m (pc + 3) ls (v :: rest))) : W p l e R s m args below meth c H locs cells slots Q (F0 m pc ls (.ref a :: rest)) :=
  va_get (D := D) (ci := 6) (v := v) (C := RX7) (T := TX7) (N := 13) hx hb hqs inX7 hown hK hP q0 he rfl 4 (by decide) (hqs _ w_163) (fun _ h9 => h9) hv hdg kk
theorem gf_X7_24 (hx : p.tables.exec = Jvm.exec) (hb : c.code = cc) (hqs : ∀ w ∈ TB, w.before args s = true) (hown : s.vm.findClass RX7 = some m.cls) (hK : va_K D vwCl tys s) (hP : va_P D vwCl ws H) (q0 : Nat) {fs : List Value} (he : ws[q0]? = some (a, .inr (6, fs))) {v : Value} (hv : fs[5]? = some v) (hdg : decode cc pc = .ok (.getfield 24, 3)) (kk : W p l e R s m args below meth c H locs cells slots Q (F0 m (pc + 3) ls (v :: rest))) : W p l e R s m args below meth c H locs cells slots Q (F0 m pc ls (.ref a :: rest)) :=
  va_get (D := D) (ci := 6) (v := v) (C := RX7) (T := TX7) (N := 13) hx hb hqs inX7 hown hK hP q0 he rfl 5 (by decide) (hqs _ w_164) (fun _ h9 => h9) hv hdg kk
theorem gf_X7_39 (hx : p.tables.exec = Jvm.exec) (hb : c.code = cc) (hqs : ∀ w ∈ TB, w.before args s = true) (hown : s.vm.findClass RX7 = some m.cls) (hK : va_K D vwCl tys s) (hP : va_P D vwCl ws H) (q0 : Nat) {fs : List Value} (he : ws[q0]? = some (a, .inr (6, fs))) {v : Value} (hv : fs[10]? = some v) (hdg : decode cc pc = .ok (.getfield 39, 3)) (kk : W p l e R s m args below meth c H locs cells slots Q (F0 m (pc + 3) ls (v :: rest))) : W p l e R s m args below meth c H locs cells slots Q (F0 m pc ls (.ref a :: rest)) :=
  va_get (D := D) (ci := 6) (v := v) (C := RX7) (T := TX7) (N := 13) hx hb hqs inX7 hown hK hP q0 he rfl 10 (by decide) (hqs _ w_169) (fun _ h9 => h9) hv hdg kk
theorem gf_X7_42 (hx : p.tables.exec = Jvm.exec) (hb : c.code = cc) (hqs : ∀ w ∈ TB, w.before args s = true) (hown : s.vm.findClass RX7 = some m.cls) (hK : va_K D vwCl tys s) (hP : va_P D vwCl ws H) (q0 : Nat) {fs : List Value} (he : ws[q0]? = some (a, .inr (6, fs))) {v : Value} (hv : fs[11]? = some v) (hdg : decode cc pc = .ok (.getfield 42, 3)) (kk : W p l e R s m args below meth c H locs cells slots Q (F0 m (pc + 3) ls (v :: rest))) : W p l e R s m args below meth c H locs cells slots Q (F0 m pc ls (.ref a :: rest)) :=
  va_get (D := D) (ci := 6) (v := v) (C := RX7) (T := TX7) (N := 13) hx hb hqs inX7 hown hK hP q0 he rfl 11 (by decide) (hqs _ w_170) (fun _ h9 => h9) hv hdg kk
theorem gf_X7_48 (hx : p.tables.exec = Jvm.exec) (hb : c.code = cc) (hqs : ∀ w ∈ TB, w.before args s = true) (hown : s.vm.findClass RX7 = some m.cls) (hK : va_K D vwCl tys s) (hP : va_P D vwCl ws H) (q0 : Nat) {fs : List Value} (he : ws[q0]? = some (a, .inr (6, fs))) {v : Value} (hv : fs[0]? = some v) (hdg : decode cc pc = .ok (.getfield 48, 3)) (kk : W p l e R s m args below meth c H locs cells slots Q (F0 m (pc + 3) ls (v :: rest))) : W p l e R s m args below meth c H locs cells slots Q (F0 m pc ls (.ref a :: rest)) :=
  va_get (D := D) (ci := 6) (v := v) (C := RX7) (T := TX7) (N := 13) hx hb hqs inX7 hown hK hP q0 he rfl 0 (by decide) (hqs _ w_156) (fun _ h9 => h9) hv hdg kk
theorem gf_X7_52 (hx : p.tables.exec = Jvm.exec) (hb : c.code = cc) (hqs : ∀ w ∈ TB, w.before args s = true) (hown : s.vm.findClass RX7 = some m.cls) (hK : va_K D vwCl tys s) (hP : va_P D vwCl ws H) (q0 : Nat) {fs : List Value} (he : ws[q0]? = some (a, .inr (6, fs))) {v : Value} (hv : fs[1]? = some v) (hdg : decode cc pc = .ok (.getfield 52, 3)) (kk : W p l e R s m args below meth c H locs cells slots Q (F0 m (pc + 3) ls (v :: rest))) : W p l e R s m args below meth c H locs cells slots Q (F0 m pc ls (.ref a :: rest)) :=
  va_get (D := D) (ci := 6) (v := v) (C := RX7) (T := TX7) (N := 13) hx hb hqs inX7 hown hK hP q0 he rfl 1 (by decide) (hqs _ w_158) (fun _ h9 => h9) hv hdg kk
theorem gf_X7_55 (hx : p.tables.exec = Jvm.exec) (hb : c.code = cc) (hqs : ∀ w ∈ TB, w.before args s = true) (hown : s.vm.findClass RX7 = some m.cls) (hK : va_K D vwCl tys s) (hP : va_P D vwCl ws H) (q0 : Nat) {fs : List Value} (he : ws[q0]? = some (a, .inr (6, fs))) {v : Value} (hv : fs[2]? = some v) (hdg : decode cc pc = .ok (.getfield 55, 3)) (kk : W p l e R s m args below meth c H locs cells slots Q (F0 m (pc + 3) ls (v :: rest))) : W p l e R s m args below meth c H locs cells slots Q (F0 m pc ls (.ref a :: rest)) :=
  va_get (D := D) (ci := 6) (v := v) (C := RX7) (T := TX7) (N := 13) hx hb hqs inX7 hown hK hP q0 he rfl 2 (by decide) (hqs _ w_160) (fun _ h9 => h9) hv hdg kk
theorem gf_X7_58 (hx : p.tables.exec = Jvm.exec) (hb : c.code = cc) (hqs : ∀ w ∈ TB, w.before args s = true) (hown : s.vm.findClass RX7 = some m.cls) (hK : va_K D vwCl tys s) (hP : va_P D vwCl ws H) (q0 : Nat) {fs : List Value} (he : ws[q0]? = some (a, .inr (6, fs))) {v : Value} (hv : fs[3]? = some v) (hdg : decode cc pc = .ok (.getfield 58, 3)) (kk : W p l e R s m args below meth c H locs cells slots Q (F0 m (pc + 3) ls (v :: rest))) : W p l e R s m args below meth c H locs cells slots Q (F0 m pc ls (.ref a :: rest)) :=
  va_get (D := D) (ci := 6) (v := v) (C := RX7) (T := TX7) (N := 13) hx hb hqs inX7 hown hK hP q0 he rfl 3 (by decide) (hqs _ w_161) (fun _ h9 => h9) hv hdg kk
theorem gf_X7_45 (hx : p.tables.exec = Jvm.exec) (hb : c.code = cc) (hqs : ∀ w ∈ TB, w.before args s = true) (hown : s.vm.findClass RX7 = some m.cls) (hK : va_K D vwCl tys s) (hP : va_P D vwCl ws H) (q0 : Nat) {fs : List Value} (he : ws[q0]? = some (a, .inr (6, fs))) {v : Value} (hv : fs[12]? = some v) (hdg : decode cc pc = .ok (.getfield 45, 3)) (kk : W p l e R s m args below meth c H locs cells slots Q (F0 m (pc + 3) ls (v :: rest))) : W p l e R s m args below meth c H locs cells slots Q (F0 m pc ls (.ref a :: rest)) :=
  va_get (D := D) (ci := 6) (v := v) (C := RX7) (T := TX7) (N := 13) hx hb hqs inX7 hown hK hP q0 he rfl 12 (by decide) (hqs _ w_171) (fun _ h9 => h9) hv hdg kk
theorem gf_X8_10 (hx : p.tables.exec = Jvm.exec) (hb : c.code = cc) (hqs : ∀ w ∈ TB, w.before args s = true) (hown : s.vm.findClass RX8 = some m.cls) (hK : va_K D vwCl tys s) (hP : va_P D vwCl ws H) (q0 : Nat) {fs : List Value} (he : ws[q0]? = some (a, .inr (7, fs))) {v : Value} (hv : fs[0]? = some v) (hdg : decode cc pc = .ok (.getfield 10, 3)) (kk : W p l e R s m args below meth c H locs cells slots Q (F0 m (pc + 3) ls (v :: rest))) : W p l e R s m args below meth c H locs cells slots Q (F0 m pc ls (.ref a :: rest)) :=
  va_get (D := D) (ci := 7) (v := v) (C := RX8) (T := TX8) (N := 9) hx hb hqs inX8 hown hK hP q0 he rfl 0 (by decide) (hqs _ w_269) (fun _ h9 => h9) hv hdg kk
theorem gf_X8_19 (hx : p.tables.exec = Jvm.exec) (hb : c.code = cc) (hqs : ∀ w ∈ TB, w.before args s = true) (hown : s.vm.findClass RX8 = some m.cls) (hK : va_K D vwCl tys s) (hP : va_P D vwCl ws H) (q0 : Nat) {fs : List Value} (he : ws[q0]? = some (a, .inr (7, fs))) {v : Value} (hv : fs[1]? = some v) (hdg : decode cc pc = .ok (.getfield 19, 3)) (kk : W p l e R s m args below meth c H locs cells slots Q (F0 m (pc + 3) ls (v :: rest))) : W p l e R s m args below meth c H locs cells slots Q (F0 m pc ls (.ref a :: rest)) :=
  va_get (D := D) (ci := 7) (v := v) (C := RX8) (T := TX8) (N := 9) hx hb hqs inX8 hown hK hP q0 he rfl 1 (by decide) (hqs _ w_270) (fun _ h9 => h9) hv hdg kk
theorem gf_X8_26 (hx : p.tables.exec = Jvm.exec) (hb : c.code = cc) (hqs : ∀ w ∈ TB, w.before args s = true) (hown : s.vm.findClass RX8 = some m.cls) (hK : va_K D vwCl tys s) (hP : va_P D vwCl ws H) (q0 : Nat) {fs : List Value} (he : ws[q0]? = some (a, .inr (7, fs))) {v : Value} (hv : fs[2]? = some v) (hdg : decode cc pc = .ok (.getfield 26, 3)) (kk : W p l e R s m args below meth c H locs cells slots Q (F0 m (pc + 3) ls (v :: rest))) : W p l e R s m args below meth c H locs cells slots Q (F0 m pc ls (.ref a :: rest)) :=
  va_get (D := D) (ci := 7) (v := v) (C := RX8) (T := TX8) (N := 9) hx hb hqs inX8 hown hK hP q0 he rfl 2 (by decide) (hqs _ w_271) (fun _ h9 => h9) hv hdg kk
theorem gf_X8_33 (hx : p.tables.exec = Jvm.exec) (hb : c.code = cc) (hqs : ∀ w ∈ TB, w.before args s = true) (hown : s.vm.findClass RX8 = some m.cls) (hK : va_K D vwCl tys s) (hP : va_P D vwCl ws H) (q0 : Nat) {fs : List Value} (he : ws[q0]? = some (a, .inr (7, fs))) {v : Value} (hv : fs[3]? = some v) (hdg : decode cc pc = .ok (.getfield 33, 3)) (kk : W p l e R s m args below meth c H locs cells slots Q (F0 m (pc + 3) ls (v :: rest))) : W p l e R s m args below meth c H locs cells slots Q (F0 m pc ls (.ref a :: rest)) :=
  va_get (D := D) (ci := 7) (v := v) (C := RX8) (T := TX8) (N := 9) hx hb hqs inX8 hown hK hP q0 he rfl 3 (by decide) (hqs _ w_272) (fun _ h9 => h9) hv hdg kk
theorem gf_X8_57 (hx : p.tables.exec = Jvm.exec) (hb : c.code = cc) (hqs : ∀ w ∈ TB, w.before args s = true) (hown : s.vm.findClass RX8 = some m.cls) (hK : va_K D vwCl tys s) (hP : va_P D vwCl ws H) (q0 : Nat) {fs : List Value} (he : ws[q0]? = some (a, .inr (7, fs))) {v : Value} (hv : fs[7]? = some v) (hdg : decode cc pc = .ok (.getfield 57, 3)) (kk : W p l e R s m args below meth c H locs cells slots Q (F0 m (pc + 3) ls (v :: rest))) : W p l e R s m args below meth c H locs cells slots Q (F0 m pc ls (.ref a :: rest)) :=
  va_get (D := D) (ci := 7) (v := v) (C := RX8) (T := TX8) (N := 9) hx hb hqs inX8 hown hK hP q0 he rfl 7 (by decide) (hqs _ w_276) (fun _ h9 => h9) hv hdg kk
theorem gf_X8_61 (hx : p.tables.exec = Jvm.exec) (hb : c.code = cc) (hqs : ∀ w ∈ TB, w.before args s = true) (hown : s.vm.findClass RX8 = some m.cls) (hK : va_K D vwCl tys s) (hP : va_P D vwCl ws H) (q0 : Nat) {fs : List Value} (he : ws[q0]? = some (a, .inr (7, fs))) {v : Value} (hv : fs[8]? = some v) (hdg : decode cc pc = .ok (.getfield 61, 3)) (kk : W p l e R s m args below meth c H locs cells slots Q (F0 m (pc + 3) ls (v :: rest))) : W p l e R s m args below meth c H locs cells slots Q (F0 m pc ls (.ref a :: rest)) :=
  va_get (D := D) (ci := 7) (v := v) (C := RX8) (T := TX8) (N := 9) hx hb hqs inX8 hown hK hP q0 he rfl 8 (by decide) (hqs _ w_277) (fun _ h9 => h9) hv hdg kk
theorem gf_X8_37 (hx : p.tables.exec = Jvm.exec) (hb : c.code = cc) (hqs : ∀ w ∈ TB, w.before args s = true) (hown : s.vm.findClass RX8 = some m.cls) (hK : va_K D vwCl tys s) (hP : va_P D vwCl ws H) (q0 : Nat) {fs : List Value} (he : ws[q0]? = some (a, .inr (7, fs))) {v : Value} (hv : fs[4]? = some v) (hdg : decode cc pc = .ok (.getfield 37, 3)) (kk : W p l e R s m args below meth c H locs cells slots Q (F0 m (pc + 3) ls (v :: rest))) : W p l e R s m args below meth c H locs cells slots Q (F0 m pc ls (.ref a :: rest)) :=
  va_get (D := D) (ci := 7) (v := v) (C := RX8) (T := TX8) (N := 9) hx hb hqs inX8 hown hK hP q0 he rfl 4 (by decide) (hqs _ w_273) (fun _ h9 => h9) hv hdg kk
theorem gf_X8_278 (hx : p.tables.exec = Jvm.exec) (hb : c.code = cc) (hqs : ∀ w ∈ TB, w.before args s = true) (hown : s.vm.findClass RX8 = some m.cls) (hK : va_K D vwCl tys s) (hP : va_P D vwCl ws H) (q0 : Nat) {fs : List Value} (he : ws[q0]? = some (a, .inr (6, fs))) {v : Value} (hv : fs[3]? = some v) (hdg : decode cc pc = .ok (.getfield 278, 3)) (kk : W p l e R s m args below meth c H locs cells slots Q (F0 m (pc + 3) ls (v :: rest))) : W p l e R s m args below meth c H locs cells slots Q (F0 m pc ls (.ref a :: rest)) :=
  va_get (D := D) (ci := 6) (v := v) (C := RX7) (T := TX7) (N := 13) hx hb hqs inX7 hown hK hP q0 he rfl 3 (by decide) (hqs _ w_162) (fun _ h9 => h9) hv hdg kk
theorem gf_X8_359 (hx : p.tables.exec = Jvm.exec) (hb : c.code = cc) (hqs : ∀ w ∈ TB, w.before args s = true) (hown : s.vm.findClass RX8 = some m.cls) (hK : va_K D vwCl tys s) (hP : va_P D vwCl ws H) (q0 : Nat) {fs : List Value} (he : ws[q0]? = some (a, .inr (6, fs))) {v : Value} (hv : fs[0]? = some v) (hdg : decode cc pc = .ok (.getfield 359, 3)) (kk : W p l e R s m args below meth c H locs cells slots Q (F0 m (pc + 3) ls (v :: rest))) : W p l e R s m args below meth c H locs cells slots Q (F0 m pc ls (.ref a :: rest)) :=
  va_get (D := D) (ci := 6) (v := v) (C := RX7) (T := TX7) (N := 13) hx hb hqs inX7 hown hK hP q0 he rfl 0 (by decide) (hqs _ w_157) (fun _ h9 => h9) hv hdg kk
theorem gf_X8_305 (hx : p.tables.exec = Jvm.exec) (hb : c.code = cc) (hqs : ∀ w ∈ TB, w.before args s = true) (hown : s.vm.findClass RX8 = some m.cls) (hK : va_K D vwCl tys s) (hP : va_P D vwCl ws H) (q0 : Nat) {fs : List Value} (he : ws[q0]? = some (a, .inr (5, fs))) {v : Value} (hv : fs[0]? = some v) (hdg : decode cc pc = .ok (.getfield 305, 3)) (kk : W p l e R s m args below meth c H locs cells slots Q (F0 m (pc + 3) ls (v :: rest))) : W p l e R s m args below meth c H locs cells slots Q (F0 m pc ls (.ref a :: rest)) :=
  va_get (D := D) (ci := 5) (v := v) (C := RX6) (T := TX6) (N := 2) hx hb hqs inX6 hown hK hP q0 he rfl 0 (by decide) (hqs _ w_83) (fun _ h9 => h9) hv hdg kk
theorem gf_X8_323 (hx : p.tables.exec = Jvm.exec) (hb : c.code = cc) (hqs : ∀ w ∈ TB, w.before args s = true) (hown : s.vm.findClass RX8 = some m.cls) (hK : va_K D vwCl tys s) (hP : va_P D vwCl ws H) (q0 : Nat) {fs : List Value} (he : ws[q0]? = some (a, .inr (0, fs))) {v : Value} (hv : fs[1]? = some v) (hdg : decode cc pc = .ok (.getfield 323, 3)) (kk : W p l e R s m args below meth c H locs cells slots Q (F0 m (pc + 3) ls (v :: rest))) : W p l e R s m args below meth c H locs cells slots Q (F0 m pc ls (.ref a :: rest)) :=
  va_get (D := D) (ci := 0) (v := v) (C := RX0) (T := TX0) (N := 5) hx hb hqs inX0 hown hK hP q0 he rfl 1 (by decide) (hqs _ w_102) (fun _ h9 => h9) hv hdg kk
theorem gf_X8_326 (hx : p.tables.exec = Jvm.exec) (hb : c.code = cc) (hqs : ∀ w ∈ TB, w.before args s = true) (hown : s.vm.findClass RX8 = some m.cls) (hK : va_K D vwCl tys s) (hP : va_P D vwCl ws H) (q0 : Nat) {fs : List Value} (he : ws[q0]? = some (a, .inr (0, fs))) {v : Value} (hv : fs[2]? = some v) (hdg : decode cc pc = .ok (.getfield 326, 3)) (kk : W p l e R s m args below meth c H locs cells slots Q (F0 m (pc + 3) ls (v :: rest))) : W p l e R s m args below meth c H locs cells slots Q (F0 m pc ls (.ref a :: rest)) :=
  va_get (D := D) (ci := 0) (v := v) (C := RX0) (T := TX0) (N := 5) hx hb hqs inX0 hown hK hP q0 he rfl 2 (by decide) (hqs _ w_104) (fun _ h9 => h9) hv hdg kk
theorem gf_X8_332 (hx : p.tables.exec = Jvm.exec) (hb : c.code = cc) (hqs : ∀ w ∈ TB, w.before args s = true) (hown : s.vm.findClass RX8 = some m.cls) (hK : va_K D vwCl tys s) (hP : va_P D vwCl ws H) (q0 : Nat) {fs : List Value} (he : ws[q0]? = some (a, .inr (0, fs))) {v : Value} (hv : fs[3]? = some v) (hdg : decode cc pc = .ok (.getfield 332, 3)) (kk : W p l e R s m args below meth c H locs cells slots Q (F0 m (pc + 3) ls (v :: rest))) : W p l e R s m args below meth c H locs cells slots Q (F0 m pc ls (.ref a :: rest)) :=
  va_get (D := D) (ci := 0) (v := v) (C := RX0) (T := TX0) (N := 5) hx hb hqs inX0 hown hK hP q0 he rfl 3 (by decide) (hqs _ w_106) (fun _ h9 => h9) hv hdg kk
theorem gf_X8_320 (hx : p.tables.exec = Jvm.exec) (hb : c.code = cc) (hqs : ∀ w ∈ TB, w.before args s = true) (hown : s.vm.findClass RX8 = some m.cls) (hK : va_K D vwCl tys s) (hP : va_P D vwCl ws H) (q0 : Nat) {fs : List Value} (he : ws[q0]? = some (a, .inr (0, fs))) {v : Value} (hv : fs[4]? = some v) (hdg : decode cc pc = .ok (.getfield 320, 3)) (kk : W p l e R s m args below meth c H locs cells slots Q (F0 m (pc + 3) ls (v :: rest))) : W p l e R s m args below meth c H locs cells slots Q (F0 m pc ls (.ref a :: rest)) :=
  va_get (D := D) (ci := 0) (v := v) (C := RX0) (T := TX0) (N := 5) hx hb hqs inX0 hown hK hP q0 he rfl 4 (by decide) (hqs _ w_108) (fun _ h9 => h9) hv hdg kk
theorem gf_X9_55 (hx : p.tables.exec = Jvm.exec) (hb : c.code = cc) (hqs : ∀ w ∈ TB, w.before args s = true) (hown : s.vm.findClass RX9 = some m.cls) (hK : va_K D vwCl tys s) (hP : va_P D vwCl ws H) (q0 : Nat) {fs : List Value} (he : ws[q0]? = some (a, .inr (8, fs))) {v : Value} (hv : fs[0]? = some v) (hdg : decode cc pc = .ok (.getfield 55, 3)) (kk : W p l e R s m args below meth c H locs cells slots Q (F0 m (pc + 3) ls (v :: rest))) : W p l e R s m args below meth c H locs cells slots Q (F0 m pc ls (.ref a :: rest)) :=
  va_get (D := D) (ci := 8) (v := v) (C := RX9) (T := TX9) (N := 17) hx hb hqs inX9 hown hK hP q0 he rfl 0 (by decide) (hqs _ w_1067) (fun _ h9 => h9) hv hdg kk
theorem gf_X9_30 (hx : p.tables.exec = Jvm.exec) (hb : c.code = cc) (hqs : ∀ w ∈ TB, w.before args s = true) (hown : s.vm.findClass RX9 = some m.cls) (hK : va_K D vwCl tys s) (hP : va_P D vwCl ws H) (q0 : Nat) {fs : List Value} (he : ws[q0]? = some (a, .inr (8, fs))) {v : Value} (hv : fs[9]? = some v) (hdg : decode cc pc = .ok (.getfield 30, 3)) (kk : W p l e R s m args below meth c H locs cells slots Q (F0 m (pc + 3) ls (v :: rest))) : W p l e R s m args below meth c H locs cells slots Q (F0 m pc ls (.ref a :: rest)) :=
  va_get (D := D) (ci := 8) (v := v) (C := RX9) (T := TX9) (N := 17) hx hb hqs inX9 hown hK hP q0 he rfl 9 (by decide) (hqs _ w_1076) (fun _ h9 => h9) hv hdg kk
theorem gf_X9_36 (hx : p.tables.exec = Jvm.exec) (hb : c.code = cc) (hqs : ∀ w ∈ TB, w.before args s = true) (hown : s.vm.findClass RX9 = some m.cls) (hK : va_K D vwCl tys s) (hP : va_P D vwCl ws H) (q0 : Nat) {fs : List Value} (he : ws[q0]? = some (a, .inr (8, fs))) {v : Value} (hv : fs[11]? = some v) (hdg : decode cc pc = .ok (.getfield 36, 3)) (kk : W p l e R s m args below meth c H locs cells slots Q (F0 m (pc + 3) ls (v :: rest))) : W p l e R s m args below meth c H locs cells slots Q (F0 m pc ls (.ref a :: rest)) :=
  va_get (D := D) (ci := 8) (v := v) (C := RX9) (T := TX9) (N := 17) hx hb hqs inX9 hown hK hP q0 he rfl 11 (by decide) (hqs _ w_1078) (fun _ h9 => h9) hv hdg kk
theorem gf_X9_39 (hx : p.tables.exec = Jvm.exec) (hb : c.code = cc) (hqs : ∀ w ∈ TB, w.before args s = true) (hown : s.vm.findClass RX9 = some m.cls) (hK : va_K D vwCl tys s) (hP : va_P D vwCl ws H) (q0 : Nat) {fs : List Value} (he : ws[q0]? = some (a, .inr (8, fs))) {v : Value} (hv : fs[12]? = some v) (hdg : decode cc pc = .ok (.getfield 39, 3)) (kk : W p l e R s m args below meth c H locs cells slots Q (F0 m (pc + 3) ls (v :: rest))) : W p l e R s m args below meth c H locs cells slots Q (F0 m pc ls (.ref a :: rest)) :=
  va_get (D := D) (ci := 8) (v := v) (C := RX9) (T := TX9) (N := 17) hx hb hqs inX9 hown hK hP q0 he rfl 12 (by decide) (hqs _ w_1079) (fun _ h9 => h9) hv hdg kk
theorem gf_X9_98 (hx : p.tables.exec = Jvm.exec) (hb : c.code = cc) (hqs : ∀ w ∈ TB, w.before args s = true) (hown : s.vm.findClass RX9 = some m.cls) (hK : va_K D vwCl tys s) (hP : va_P D vwCl ws H) (q0 : Nat) {fs : List Value} (he : ws[q0]? = some (a, .inr (8, fs))) {v : Value} (hv : fs[13]? = some v) (hdg : decode cc pc = .ok (.getfield 98, 3)) (kk : W p l e R s m args below meth c H locs cells slots Q (F0 m (pc + 3) ls (v :: rest))) : W p l e R s m args below meth c H locs cells slots Q (F0 m pc ls (.ref a :: rest)) :=
  va_get (D := D) (ci := 8) (v := v) (C := RX9) (T := TX9) (N := 17) hx hb hqs inX9 hown hK hP q0 he rfl 13 (by decide) (hqs _ w_1080) (fun _ h9 => h9) hv hdg kk
theorem gf_X9_33 (hx : p.tables.exec = Jvm.exec) (hb : c.code = cc) (hqs : ∀ w ∈ TB, w.before args s = true) (hown : s.vm.findClass RX9 = some m.cls) (hK : va_K D vwCl tys s) (hP : va_P D vwCl ws H) (q0 : Nat) {fs : List Value} (he : ws[q0]? = some (a, .inr (8, fs))) {v : Value} (hv : fs[10]? = some v) (hdg : decode cc pc = .ok (.getfield 33, 3)) (kk : W p l e R s m args below meth c H locs cells slots Q (F0 m (pc + 3) ls (v :: rest))) : W p l e R s m args below meth c H locs cells slots Q (F0 m pc ls (.ref a :: rest)) :=
  va_get (D := D) (ci := 8) (v := v) (C := RX9) (T := TX9) (N := 17) hx hb hqs inX9 hown hK hP q0 he rfl 10 (by decide) (hqs _ w_1077) (fun _ h9 => h9) hv hdg kk
theorem gf_X9_115 (hx : p.tables.exec = Jvm.exec) (hb : c.code = cc) (hqs : ∀ w ∈ TB, w.before args s = true) (hown : s.vm.findClass RX9 = some m.cls) (hK : va_K D vwCl tys s) (hP : va_P D vwCl ws H) (q0 : Nat) {fs : List Value} (he : ws[q0]? = some (a, .inr (8, fs))) {v : Value} (hv : fs[2]? = some v) (hdg : decode cc pc = .ok (.getfield 115, 3)) (kk : W p l e R s m args below meth c H locs cells slots Q (F0 m (pc + 3) ls (v :: rest))) : W p l e R s m args below meth c H locs cells slots Q (F0 m pc ls (.ref a :: rest)) :=
  va_get (D := D) (ci := 8) (v := v) (C := RX9) (T := TX9) (N := 17) hx hb hqs inX9 hown hK hP q0 he rfl 2 (by decide) (hqs _ w_1069) (fun _ h9 => h9) hv hdg kk
theorem gf_X9_7 (hx : p.tables.exec = Jvm.exec) (hb : c.code = cc) (hqs : ∀ w ∈ TB, w.before args s = true) (hown : s.vm.findClass RX9 = some m.cls) (hK : va_K D vwCl tys s) (hP : va_P D vwCl ws H) (q0 : Nat) {fs : List Value} (he : ws[q0]? = some (a, .inr (8, fs))) {v : Value} (hv : fs[1]? = some v) (hdg : decode cc pc = .ok (.getfield 7, 3)) (kk : W p l e R s m args below meth c H locs cells slots Q (F0 m (pc + 3) ls (v :: rest))) : W p l e R s m args below meth c H locs cells slots Q (F0 m pc ls (.ref a :: rest)) :=
  va_get (D := D) (ci := 8) (v := v) (C := RX9) (T := TX9) (N := 17) hx hb hqs inX9 hown hK hP q0 he rfl 1 (by decide) (hqs _ w_1068) (fun _ h9 => h9) hv hdg kk
theorem gf_X9_122 (hx : p.tables.exec = Jvm.exec) (hb : c.code = cc) (hqs : ∀ w ∈ TB, w.before args s = true) (hown : s.vm.findClass RX9 = some m.cls) (hK : va_K D vwCl tys s) (hP : va_P D vwCl ws H) (q0 : Nat) {fs : List Value} (he : ws[q0]? = some (a, .inr (8, fs))) {v : Value} (hv : fs[14]? = some v) (hdg : decode cc pc = .ok (.getfield 122, 3)) (kk : W p l e R s m args below meth c H locs cells slots Q (F0 m (pc + 3) ls (v :: rest))) : W p l e R s m args below meth c H locs cells slots Q (F0 m pc ls (.ref a :: rest)) :=
  va_get (D := D) (ci := 8) (v := v) (C := RX9) (T := TX9) (N := 17) hx hb hqs inX9 hown hK hP q0 he rfl 14 (by decide) (hqs _ w_1081) (fun _ h9 => h9) hv hdg kk
theorem gf_X9_151 (hx : p.tables.exec = Jvm.exec) (hb : c.code = cc) (hqs : ∀ w ∈ TB, w.before args s = true) (hown : s.vm.findClass RX9 = some m.cls) (hK : va_K D vwCl tys s) (hP : va_P D vwCl ws H) (q0 : Nat) {fs : List Value} (he : ws[q0]? = some (a, .inr (8, fs))) {v : Value} (hv : fs[15]? = some v) (hdg : decode cc pc = .ok (.getfield 151, 3)) (kk : W p l e R s m args below meth c H locs cells slots Q (F0 m (pc + 3) ls (v :: rest))) : W p l e R s m args below meth c H locs cells slots Q (F0 m pc ls (.ref a :: rest)) :=
  va_get (D := D) (ci := 8) (v := v) (C := RX9) (T := TX9) (N := 17) hx hb hqs inX9 hown hK hP q0 he rfl 15 (by decide) (hqs _ w_1082) (fun _ h9 => h9) hv hdg kk
theorem gf_X9_17 (hx : p.tables.exec = Jvm.exec) (hb : c.code = cc) (hqs : ∀ w ∈ TB, w.before args s = true) (hown : s.vm.findClass RX9 = some m.cls) (hK : va_K D vwCl tys s) (hP : va_P D vwCl ws H) (q0 : Nat) {fs : List Value} (he : ws[q0]? = some (a, .inr (8, fs))) {v : Value} (hv : fs[4]? = some v) (hdg : decode cc pc = .ok (.getfield 17, 3)) (kk : W p l e R s m args below meth c H locs cells slots Q (F0 m (pc + 3) ls (v :: rest))) : W p l e R s m args below meth c H locs cells slots Q (F0 m pc ls (.ref a :: rest)) :=
  va_get (D := D) (ci := 8) (v := v) (C := RX9) (T := TX9) (N := 17) hx hb hqs inX9 hown hK hP q0 he rfl 4 (by decide) (hqs _ w_1071) (fun _ h9 => h9) hv hdg kk
theorem gf_X9_13 (hx : p.tables.exec = Jvm.exec) (hb : c.code = cc) (hqs : ∀ w ∈ TB, w.before args s = true) (hown : s.vm.findClass RX9 = some m.cls) (hK : va_K D vwCl tys s) (hP : va_P D vwCl ws H) (q0 : Nat) {fs : List Value} (he : ws[q0]? = some (a, .inr (8, fs))) {v : Value} (hv : fs[3]? = some v) (hdg : decode cc pc = .ok (.getfield 13, 3)) (kk : W p l e R s m args below meth c H locs cells slots Q (F0 m (pc + 3) ls (v :: rest))) : W p l e R s m args below meth c H locs cells slots Q (F0 m pc ls (.ref a :: rest)) :=
  va_get (D := D) (ci := 8) (v := v) (C := RX9) (T := TX9) (N := 17) hx hb hqs inX9 hown hK hP q0 he rfl 3 (by decide) (hqs _ w_1070) (fun _ h9 => h9) hv hdg kk
theorem gf_X9_26 (hx : p.tables.exec = Jvm.exec) (hb : c.code = cc) (hqs : ∀ w ∈ TB, w.before args s = true) (hown : s.vm.findClass RX9 = some m.cls) (hK : va_K D vwCl tys s) (hP : va_P D vwCl ws H) (q0 : Nat) {fs : List Value} (he : ws[q0]? = some (a, .inr (8, fs))) {v : Value} (hv : fs[8]? = some v) (hdg : decode cc pc = .ok (.getfield 26, 3)) (kk : W p l e R s m args below meth c H locs cells slots Q (F0 m (pc + 3) ls (v :: rest))) : W p l e R s m args below meth c H locs cells slots Q (F0 m pc ls (.ref a :: rest)) :=
  va_get (D := D) (ci := 8) (v := v) (C := RX9) (T := TX9) (N := 17) hx hb hqs inX9 hown hK hP q0 he rfl 8 (by decide) (hqs _ w_1075) (fun _ h9 => h9) hv hdg kk
theorem gf_X9_177 (hx : p.tables.exec = Jvm.exec) (hb : c.code = cc) (hqs : ∀ w ∈ TB, w.before args s = true) (hown : s.vm.findClass RX9 = some m.cls) (hK : va_K D vwCl tys s) (hP : va_P D vwCl ws H) (q0 : Nat) {fs : List Value} (he : ws[q0]? = some (a, .inr (8, fs))) {v : Value} (hv : fs[6]? = some v) (hdg : decode cc pc = .ok (.getfield 177, 3)) (kk : W p l e R s m args below meth c H locs cells slots Q (F0 m (pc + 3) ls (v :: rest))) : W p l e R s m args below meth c H locs cells slots Q (F0 m pc ls (.ref a :: rest)) :=
  va_get (D := D) (ci := 8) (v := v) (C := RX9) (T := TX9) (N := 17) hx hb hqs inX9 hown hK hP q0 he rfl 6 (by decide) (hqs _ w_1073) (fun _ h9 => h9) hv hdg kk
theorem gf_X9_20 (hx : p.tables.exec = Jvm.exec) (hb : c.code = cc) (hqs : ∀ w ∈ TB, w.before args s = true) (hown : s.vm.findClass RX9 = some m.cls) (hK : va_K D vwCl tys s) (hP : va_P D vwCl ws H) (q0 : Nat) {fs : List Value} (he : ws[q0]? = some (a, .inr (8, fs))) {v : Value} (hv : fs[5]? = some v) (hdg : decode cc pc = .ok (.getfield 20, 3)) (kk : W p l e R s m args below meth c H locs cells slots Q (F0 m (pc + 3) ls (v :: rest))) : W p l e R s m args below meth c H locs cells slots Q (F0 m pc ls (.ref a :: rest)) :=
  va_get (D := D) (ci := 8) (v := v) (C := RX9) (T := TX9) (N := 17) hx hb hqs inX9 hown hK hP q0 he rfl 5 (by decide) (hqs _ w_1072) (fun _ h9 => h9) hv hdg kk
theorem gf_X9_42 (hx : p.tables.exec = Jvm.exec) (hb : c.code = cc) (hqs : ∀ w ∈ TB, w.before args s = true) (hown : s.vm.findClass RX9 = some m.cls) (hK : va_K D vwCl tys s) (hP : va_P D vwCl ws H) (q0 : Nat) {fs : List Value} (he : ws[q0]? = some (a, .inr (8, fs))) {v : Value} (hv : fs[16]? = some v) (hdg : decode cc pc = .ok (.getfield 42, 3)) (kk : W p l e R s m args below meth c H locs cells slots Q (F0 m (pc + 3) ls (v :: rest))) : W p l e R s m args below meth c H locs cells slots Q (F0 m pc ls (.ref a :: rest)) :=
  va_get (D := D) (ci := 8) (v := v) (C := RX9) (T := TX9) (N := 17) hx hb hqs inX9 hown hK hP q0 he rfl 16 (by decide) (hqs _ w_1083) (fun _ h9 => h9) hv hdg kk
theorem gf_X9_23 (hx : p.tables.exec = Jvm.exec) (hb : c.code = cc) (hqs : ∀ w ∈ TB, w.before args s = true) (hown : s.vm.findClass RX9 = some m.cls) (hK : va_K D vwCl tys s) (hP : va_P D vwCl ws H) (q0 : Nat) {fs : List Value} (he : ws[q0]? = some (a, .inr (8, fs))) {v : Value} (hv : fs[7]? = some v) (hdg : decode cc pc = .ok (.getfield 23, 3)) (kk : W p l e R s m args below meth c H locs cells slots Q (F0 m (pc + 3) ls (v :: rest))) : W p l e R s m args below meth c H locs cells slots Q (F0 m pc ls (.ref a :: rest)) :=
  va_get (D := D) (ci := 8) (v := v) (C := RX9) (T := TX9) (N := 17) hx hb hqs inX9 hown hK hP q0 he rfl 7 (by decide) (hqs _ w_1074) (fun _ h9 => h9) hv hdg kk
theorem pf_X0_19 (hx : p.tables.exec = Jvm.exec) (hb : c.code = cc) (hqs : ∀ w ∈ TB, w.before args s = true) (hown : s.vm.findClass RX0 = some m.cls) (hK : va_K D vwCl tys s) (hP : va_P D vwCl ws H) (hD : va_D A ws) (hS : va_S A H0 H locs) (q0 : Nat) {fs : List Value} (he : ws[q0]? = some (a, .inr (0, fs))) {x : Int32} (hl : Nat.ble 1 fs.length = true) (hdg : decode cc pc = .ok (.putfield 19, 3)) (kk : ∀ (H1 : Heap) (locs1 : List Loc), va_P D vwCl (ws.set q0 (a, .inr (0, fs.set 0 (.int x)))) H1 → va_D A (ws.set q0 (a, .inr (0, fs.set 0 (.int x)))) → va_S A H0 H1 locs1 → W p l e R s m args below meth c H1 locs1 cells slots Q (F0 m (pc + 3) ls rest)) : W p l e R s m args below meth c H locs cells slots Q (F0 m pc ls (.int x :: .ref a :: rest)) :=
  va_put (D := D) (ci := 0) (v := .int x) (ty := .int) (C := RX0) (T := TX0) (N := 5) hx hb hqs inX0 tyX0 tyX0_ok nmX0 hown hK hP hD hS q0 he rfl 0 (by decide) (hqs _ w_100) (fun _ h9 => h9) rfl (by decide +kernel) rfl rfl (Nat.le_of_ble_eq_true hl) hdg kk
theorem pf_X0_15 (hx : p.tables.exec = Jvm.exec) (hb : c.code = cc) (hqs : ∀ w ∈ TB, w.before args s = true) (hown : s.vm.findClass RX0 = some m.cls) (hK : va_K D vwCl tys s) (hP : va_P D vwCl ws H) (hD : va_D A ws) (hS : va_S A H0 H locs) (q0 : Nat) {fs : List Value} (he : ws[q0]? = some (a, .inr (0, fs))) {x : Int32} (hl : Nat.ble 5 fs.length = true) (hdg : decode cc pc = .ok (.putfield 15, 3)) (kk : ∀ (H1 : Heap) (locs1 : List Loc), va_P D vwCl (ws.set q0 (a, .inr (0, fs.set 4 (.int x)))) H1 → va_D A (ws.set q0 (a, .inr (0, fs.set 4 (.int x)))) → va_S A H0 H1 locs1 → W p l e R s m args below meth c H1 locs1 cells slots Q (F0 m (pc + 3) ls rest)) : W p l e R s m args below meth c H locs cells slots Q (F0 m pc ls (.int x :: .ref a :: rest)) :=
  va_put (D := D) (ci := 0) (v := .int x) (ty := .int) (C := RX0) (T := TX0) (N := 5) hx hb hqs inX0 tyX0 tyX0_ok nmX0 hown hK hP hD hS q0 he rfl 4 (by decide) (hqs _ w_107) (fun _ h9 => h9) rfl (by decide +kernel) rfl rfl (Nat.le_of_ble_eq_true hl) hdg kk
theorem pf_X0_25 (hx : p.tables.exec = Jvm.exec) (hb : c.code = cc) (hqs : ∀ w ∈ TB, w.before args s = true) (hown : s.vm.findClass RX0 = some m.cls) (hK : va_K D vwCl tys s) (hP : va_P D vwCl ws H) (hD : va_D A ws) (hS : va_S A H0 H locs) (q0 : Nat) {fs : List Value} (he : ws[q0]? = some (a, .inr (0, fs))) {x : Int32} (hl : Nat.ble 2 fs.length = true) (hdg : decode cc pc = .ok (.putfield 25, 3)) (kk : ∀ (H1 : Heap) (locs1 : List Loc), va_P D vwCl (ws.set q0 (a, .inr (0, fs.set 1 (.int x)))) H1 → va_D A (ws.set q0 (a, .inr (0, fs.set 1 (.int x)))) → va_S A H0 H1 locs1 → W p l e R s m args below meth c H1 locs1 cells slots Q (F0 m (pc + 3) ls rest)) : W p l e R s m args below meth c H locs cells slots Q (F0 m pc ls (.int x :: .ref a :: rest)) :=
  va_put (D := D) (ci := 0) (v := .int x) (ty := .int) (C := RX0) (T := TX0) (N := 5) hx hb hqs inX0 tyX0 tyX0_ok nmX0 hown hK hP hD hS q0 he rfl 1 (by decide) (hqs _ w_101) (fun _ h9 => h9) rfl (by decide +kernel) rfl rfl (Nat.le_of_ble_eq_true hl) hdg kk
theorem pf_X0_32 (hx : p.tables.exec = Jvm.exec) (hb : c.code = cc) (hqs : ∀ w ∈ TB, w.before args s = true) (hown : s.vm.findClass RX0 = some m.cls) (hK : va_K D vwCl tys s) (hP : va_P D vwCl ws H) (hD : va_D A ws) (hS : va_S A H0 H locs) (q0 : Nat) {fs : List Value} (he : ws[q0]? = some (a, .inr (0, fs))) {x : Int32} (hl : Nat.ble 3 fs.length = true) (hdg : decode cc pc = .ok (.putfield 32, 3)) (kk : ∀ (H1 : Heap) (locs1 : List Loc), va_P D vwCl (ws.set q0 (a, .inr (0, fs.set 2 (.int x)))) H1 → va_D A (ws.set q0 (a, .inr (0, fs.set 2 (.int x)))) → va_S A H0 H1 locs1 → W p l e R s m args below meth c H1 locs1 cells slots Q (F0 m (pc + 3) ls rest)) : W p l e R s m args below meth c H locs cells slots Q (F0 m pc ls (.int x :: .ref a :: rest)) :=
  va_put (D := D) (ci := 0) (v := .int x) (ty := .int) (C := RX0) (T := TX0) (N := 5) hx hb hqs inX0 tyX0 tyX0_ok nmX0 hown hK hP hD hS q0 he rfl 2 (by decide) (hqs _ w_103) (fun _ h9 => h9) rfl (by decide +kernel) rfl rfl (Nat.le_of_ble_eq_true hl) hdg kk
theorem pf_X0_49 (hx : p.tables.exec = Jvm.exec) (hb : c.code = cc) (hqs : ∀ w ∈ TB, w.before args s = true) (hown : s.vm.findClass RX0 = some m.cls) (hK : va_K D vwCl tys s) (hP : va_P D vwCl ws H) (hD : va_D A ws) (hS : va_S A H0 H locs) (q0 : Nat) {fs : List Value} (he : ws[q0]? = some (a, .inr (0, fs))) {x : Int32} (hl : Nat.ble 4 fs.length = true) (hdg : decode cc pc = .ok (.putfield 49, 3)) (kk : ∀ (H1 : Heap) (locs1 : List Loc), va_P D vwCl (ws.set q0 (a, .inr (0, fs.set 3 (.int x)))) H1 → va_D A (ws.set q0 (a, .inr (0, fs.set 3 (.int x)))) → va_S A H0 H1 locs1 → W p l e R s m args below meth c H1 locs1 cells slots Q (F0 m (pc + 3) ls rest)) : W p l e R s m args below meth c H locs cells slots Q (F0 m pc ls (.int x :: .ref a :: rest)) :=
  va_put (D := D) (ci := 0) (v := .int x) (ty := .int) (C := RX0) (T := TX0) (N := 5) hx hb hqs inX0 tyX0 tyX0_ok nmX0 hown hK hP hD hS q0 he rfl 3 (by decide) (hqs _ w_105) (fun _ h9 => h9) rfl (by decide +kernel) rfl rfl (Nat.le_of_ble_eq_true hl) hdg kk
theorem pf_X2_15 (hx : p.tables.exec = Jvm.exec) (hb : c.code = cc) (hqs : ∀ w ∈ TB, w.before args s = true) (hown : s.vm.findClass RX2 = some m.cls) (hK : va_K D vwCl tys s) (hP : va_P D vwCl ws H) (hD : va_D A ws) (hS : va_S A H0 H locs) (q0 : Nat) {fs : List Value} (he : ws[q0]? = some (a, .inr (2, fs))) {x : Int32} (hl : Nat.ble 1 fs.length = true) (hdg : decode cc pc = .ok (.putfield 15, 3)) (kk : ∀ (H1 : Heap) (locs1 : List Loc), va_P D vwCl (ws.set q0 (a, .inr (2, fs.set 0 (.int x)))) H1 → va_D A (ws.set q0 (a, .inr (2, fs.set 0 (.int x)))) → va_S A H0 H1 locs1 → W p l e R s m args below meth c H1 locs1 cells slots Q (F0 m (pc + 3) ls rest)) : W p l e R s m args below meth c H locs cells slots Q (F0 m pc ls (.int x :: .ref a :: rest)) :=
  va_put (D := D) (ci := 2) (v := .int x) (ty := .int) (C := RX2) (T := TX2) (N := 4) hx hb hqs inX2 tyX2 tyX2_ok nmX2 hown hK hP hD hS q0 he rfl 0 (by decide) (hqs _ w_126) (fun _ h9 => h9) rfl (by decide +kernel) rfl rfl (Nat.le_of_ble_eq_true hl) hdg kk
theorem pf_X2_19 (hx : p.tables.exec = Jvm.exec) (hb : c.code = cc) (hqs : ∀ w ∈ TB, w.before args s = true) (hown : s.vm.findClass RX2 = some m.cls) (hK : va_K D vwCl tys s) (hP : va_P D vwCl ws H) (hD : va_D A ws) (hS : va_S A H0 H locs) (q0 : Nat) {fs : List Value} (he : ws[q0]? = some (a, .inr (2, fs))) {x : Int32} (hl : Nat.ble 2 fs.length = true) (hdg : decode cc pc = .ok (.putfield 19, 3)) (kk : ∀ (H1 : Heap) (locs1 : List Loc), va_P D vwCl (ws.set q0 (a, .inr (2, fs.set 1 (.int x)))) H1 → va_D A (ws.set q0 (a, .inr (2, fs.set 1 (.int x)))) → va_S A H0 H1 locs1 → W p l e R s m args below meth c H1 locs1 cells slots Q (F0 m (pc + 3) ls rest)) : W p l e R s m args below meth c H locs cells slots Q (F0 m pc ls (.int x :: .ref a :: rest)) :=
  va_put (D := D) (ci := 2) (v := .int x) (ty := .int) (C := RX2) (T := TX2) (N := 4) hx hb hqs inX2 tyX2 tyX2_ok nmX2 hown hK hP hD hS q0 he rfl 1 (by decide) (hqs _ w_128) (fun _ h9 => h9) rfl (by decide +kernel) rfl rfl (Nat.le_of_ble_eq_true hl) hdg kk
theorem pf_X2_22 (hx : p.tables.exec = Jvm.exec) (hb : c.code = cc) (hqs : ∀ w ∈ TB, w.before args s = true) (hown : s.vm.findClass RX2 = some m.cls) (hK : va_K D vwCl tys s) (hP : va_P D vwCl ws H) (hD : va_D A ws) (hS : va_S A H0 H locs) (q0 : Nat) {fs : List Value} (he : ws[q0]? = some (a, .inr (2, fs))) {x : Int32} (hl : Nat.ble 3 fs.length = true) (hz : vp_nar .boolean x = x) (hdg : decode cc pc = .ok (.putfield 22, 3)) (kk : ∀ (H1 : Heap) (locs1 : List Loc), va_P D vwCl (ws.set q0 (a, .inr (2, fs.set 2 (.int x)))) H1 → va_D A (ws.set q0 (a, .inr (2, fs.set 2 (.int x)))) → va_S A H0 H1 locs1 → W p l e R s m args below meth c H1 locs1 cells slots Q (F0 m (pc + 3) ls rest)) : W p l e R s m args below meth c H locs cells slots Q (F0 m pc ls (.int x :: .ref a :: rest)) :=
  va_put (D := D) (ci := 2) (v := .int x) (ty := .boolean) (C := RX2) (T := TX2) (N := 4) hx hb hqs inX2 tyX2 tyX2_ok nmX2 hown hK hP hD hS q0 he rfl 2 (by decide) (hqs _ w_129) (fun _ h9 => h9) rfl (by decide +kernel) (congrArg Value.int hz) (by rw [← hz]; exact nar_fits x) (Nat.le_of_ble_eq_true hl) hdg kk
theorem pf_X3_34 (hx : p.tables.exec = Jvm.exec) (hb : c.code = cc) (hqs : ∀ w ∈ TB, w.before args s = true) (hown : s.vm.findClass RX3 = some m.cls) (hK : va_K D vwCl tys s) (hP : va_P D vwCl ws H) (hD : va_D A ws) (hS : va_S A H0 H locs) (q0 : Nat) {fs : List Value} (he : ws[q0]? = some (a, .inr (3, fs))) {x : Int32} (hl : Nat.ble 8 fs.length = true) (hdg : decode cc pc = .ok (.putfield 34, 3)) (kk : ∀ (H1 : Heap) (locs1 : List Loc), va_P D vwCl (ws.set q0 (a, .inr (3, fs.set 7 (.int x)))) H1 → va_D A (ws.set q0 (a, .inr (3, fs.set 7 (.int x)))) → va_S A H0 H1 locs1 → W p l e R s m args below meth c H1 locs1 cells slots Q (F0 m (pc + 3) ls rest)) : W p l e R s m args below meth c H locs cells slots Q (F0 m pc ls (.int x :: .ref a :: rest)) :=
  va_put (D := D) (ci := 3) (v := .int x) (ty := .int) (C := RX3) (T := TX3) (N := 9) hx hb hqs inX3 tyX3 tyX3_ok nmX3 hown hK hP hD hS q0 he rfl 7 (by decide) (hqs _ w_248) (fun _ h9 => h9) rfl (by decide +kernel) rfl rfl (Nat.le_of_ble_eq_true hl) hdg kk
theorem pf_X3_38 (hx : p.tables.exec = Jvm.exec) (hb : c.code = cc) (hqs : ∀ w ∈ TB, w.before args s = true) (hown : s.vm.findClass RX3 = some m.cls) (hK : va_K D vwCl tys s) (hP : va_P D vwCl ws H) (hD : va_D A ws) (hS : va_S A H0 H locs) (q0 : Nat) {fs : List Value} (he : ws[q0]? = some (a, .inr (3, fs))) {x : Int32} (hl : Nat.ble 9 fs.length = true) (hdg : decode cc pc = .ok (.putfield 38, 3)) (kk : ∀ (H1 : Heap) (locs1 : List Loc), va_P D vwCl (ws.set q0 (a, .inr (3, fs.set 8 (.int x)))) H1 → va_D A (ws.set q0 (a, .inr (3, fs.set 8 (.int x)))) → va_S A H0 H1 locs1 → W p l e R s m args below meth c H1 locs1 cells slots Q (F0 m (pc + 3) ls rest)) : W p l e R s m args below meth c H locs cells slots Q (F0 m pc ls (.int x :: .ref a :: rest)) :=
  va_put (D := D) (ci := 3) (v := .int x) (ty := .int) (C := RX3) (T := TX3) (N := 9) hx hb hqs inX3 tyX3 tyX3_ok nmX3 hown hK hP hD hS q0 he rfl 8 (by decide) (hqs _ w_249) (fun _ h9 => h9) rfl (by decide +kernel) rfl rfl (Nat.le_of_ble_eq_true hl) hdg kk
theorem pf_X6_15 (hx : p.tables.exec = Jvm.exec) (hb : c.code = cc) (hqs : ∀ w ∈ TB, w.before args s = true) (hown : s.vm.findClass RX6 = some m.cls) (hK : va_K D vwCl tys s) (hP : va_P D vwCl ws H) (hD : va_D A ws) (hS : va_S A H0 H locs) (q0 : Nat) {fs : List Value} (he : ws[q0]? = some (a, .inr (5, fs))) {x : Int32} (hl : Nat.ble 1 fs.length = true) (hdg : decode cc pc = .ok (.putfield 15, 3)) (kk : ∀ (H1 : Heap) (locs1 : List Loc), va_P D vwCl (ws.set q0 (a, .inr (5, fs.set 0 (.int x)))) H1 → va_D A (ws.set q0 (a, .inr (5, fs.set 0 (.int x)))) → va_S A H0 H1 locs1 → W p l e R s m args below meth c H1 locs1 cells slots Q (F0 m (pc + 3) ls rest)) : W p l e R s m args below meth c H locs cells slots Q (F0 m pc ls (.int x :: .ref a :: rest)) :=
  va_put (D := D) (ci := 5) (v := .int x) (ty := .int) (C := RX6) (T := TX6) (N := 2) hx hb hqs inX6 tyX6 tyX6_ok nmX6 hown hK hP hD hS q0 he rfl 0 (by decide) (hqs _ w_82) (fun _ h9 => h9) rfl (by decide +kernel) rfl rfl (Nat.le_of_ble_eq_true hl) hdg kk
theorem pf_X7_48 (hx : p.tables.exec = Jvm.exec) (hb : c.code = cc) (hqs : ∀ w ∈ TB, w.before args s = true) (hown : s.vm.findClass RX7 = some m.cls) (hK : va_K D vwCl tys s) (hP : va_P D vwCl ws H) (hD : va_D A ws) (hS : va_S A H0 H locs) (q0 : Nat) {fs : List Value} (he : ws[q0]? = some (a, .inr (6, fs))) {x : Int32} (hl : Nat.ble 1 fs.length = true) (hdg : decode cc pc = .ok (.putfield 48, 3)) (kk : ∀ (H1 : Heap) (locs1 : List Loc), va_P D vwCl (ws.set q0 (a, .inr (6, fs.set 0 (.int x)))) H1 → va_D A (ws.set q0 (a, .inr (6, fs.set 0 (.int x)))) → va_S A H0 H1 locs1 → W p l e R s m args below meth c H1 locs1 cells slots Q (F0 m (pc + 3) ls rest)) : W p l e R s m args below meth c H locs cells slots Q (F0 m pc ls (.int x :: .ref a :: rest)) :=
  va_put (D := D) (ci := 6) (v := .int x) (ty := .int) (C := RX7) (T := TX7) (N := 13) hx hb hqs inX7 tyX7 tyX7_ok nmX7 hown hK hP hD hS q0 he rfl 0 (by decide) (hqs _ w_156) (fun _ h9 => h9) rfl (by decide +kernel) rfl rfl (Nat.le_of_ble_eq_true hl) hdg kk
theorem pf_X7_52 (hx : p.tables.exec = Jvm.exec) (hb : c.code = cc) (hqs : ∀ w ∈ TB, w.before args s = true) (hown : s.vm.findClass RX7 = some m.cls) (hK : va_K D vwCl tys s) (hP : va_P D vwCl ws H) (hD : va_D A ws) (hS : va_S A H0 H locs) (q0 : Nat) {fs : List Value} (he : ws[q0]? = some (a, .inr (6, fs))) {x : Int32} (hl : Nat.ble 2 fs.length = true) (hdg : decode cc pc = .ok (.putfield 52, 3)) (kk : ∀ (H1 : Heap) (locs1 : List Loc), va_P D vwCl (ws.set q0 (a, .inr (6, fs.set 1 (.int x)))) H1 → va_D A (ws.set q0 (a, .inr (6, fs.set 1 (.int x)))) → va_S A H0 H1 locs1 → W p l e R s m args below meth c H1 locs1 cells slots Q (F0 m (pc + 3) ls rest)) : W p l e R s m args below meth c H locs cells slots Q (F0 m pc ls (.int x :: .ref a :: rest)) :=
  va_put (D := D) (ci := 6) (v := .int x) (ty := .int) (C := RX7) (T := TX7) (N := 13) hx hb hqs inX7 tyX7 tyX7_ok nmX7 hown hK hP hD hS q0 he rfl 1 (by decide) (hqs _ w_158) (fun _ h9 => h9) rfl (by decide +kernel) rfl rfl (Nat.le_of_ble_eq_true hl) hdg kk
theorem pf_X7_55 (hx : p.tables.exec = Jvm.exec) (hb : c.code = cc) (hqs : ∀ w ∈ TB, w.before args s = true) (hown : s.vm.findClass RX7 = some m.cls) (hK : va_K D vwCl tys s) (hP : va_P D vwCl ws H) (hD : va_D A ws) (hS : va_S A H0 H locs) (q0 : Nat) {fs : List Value} (he : ws[q0]? = some (a, .inr (6, fs))) {x : Int32} (hl : Nat.ble 3 fs.length = true) (hdg : decode cc pc = .ok (.putfield 55, 3)) (kk : ∀ (H1 : Heap) (locs1 : List Loc), va_P D vwCl (ws.set q0 (a, .inr (6, fs.set 2 (.int x)))) H1 → va_D A (ws.set q0 (a, .inr (6, fs.set 2 (.int x)))) → va_S A H0 H1 locs1 → W p l e R s m args below meth c H1 locs1 cells slots Q (F0 m (pc + 3) ls rest)) : W p l e R s m args below meth c H locs cells slots Q (F0 m pc ls (.int x :: .ref a :: rest)) :=
  va_put (D := D) (ci := 6) (v := .int x) (ty := .int) (C := RX7) (T := TX7) (N := 13) hx hb hqs inX7 tyX7 tyX7_ok nmX7 hown hK hP hD hS q0 he rfl 2 (by decide) (hqs _ w_160) (fun _ h9 => h9) rfl (by decide +kernel) rfl rfl (Nat.le_of_ble_eq_true hl) hdg kk
theorem pf_X7_58 (hx : p.tables.exec = Jvm.exec) (hb : c.code = cc) (hqs : ∀ w ∈ TB, w.before args s = true) (hown : s.vm.findClass RX7 = some m.cls) (hK : va_K D vwCl tys s) (hP : va_P D vwCl ws H) (hD : va_D A ws) (hS : va_S A H0 H locs) (q0 : Nat) {fs : List Value} (he : ws[q0]? = some (a, .inr (6, fs))) {x : Int32} (hl : Nat.ble 4 fs.length = true) (hdg : decode cc pc = .ok (.putfield 58, 3)) (kk : ∀ (H1 : Heap) (locs1 : List Loc), va_P D vwCl (ws.set q0 (a, .inr (6, fs.set 3 (.int x)))) H1 → va_D A (ws.set q0 (a, .inr (6, fs.set 3 (.int x)))) → va_S A H0 H1 locs1 → W p l e R s m args below meth c H1 locs1 cells slots Q (F0 m (pc + 3) ls rest)) : W p l e R s m args below meth c H locs cells slots Q (F0 m pc ls (.int x :: .ref a :: rest)) :=
  va_put (D := D) (ci := 6) (v := .int x) (ty := .int) (C := RX7) (T := TX7) (N := 13) hx hb hqs inX7 tyX7 tyX7_ok nmX7 hown hK hP hD hS q0 he rfl 3 (by decide) (hqs _ w_161) (fun _ h9 => h9) rfl (by decide +kernel) rfl rfl (Nat.le_of_ble_eq_true hl) hdg kk
theorem pf_X9_55 (hx : p.tables.exec = Jvm.exec) (hb : c.code = cc) (hqs : ∀ w ∈ TB, w.before args s = true) (hown : s.vm.findClass RX9 = some m.cls) (hK : va_K D vwCl tys s) (hP : va_P D vwCl ws H) (hD : va_D A ws) (hS : va_S A H0 H locs) (q0 : Nat) {fs : List Value} (he : ws[q0]? = some (a, .inr (8, fs))) {x : Int32} (hl : Nat.ble 1 fs.length = true) (hdg : decode cc pc = .ok (.putfield 55, 3)) (kk : ∀ (H1 : Heap) (locs1 : List Loc), va_P D vwCl (ws.set q0 (a, .inr (8, fs.set 0 (.int x)))) H1 → va_D A (ws.set q0 (a, .inr (8, fs.set 0 (.int x)))) → va_S A H0 H1 locs1 → W p l e R s m args below meth c H1 locs1 cells slots Q (F0 m (pc + 3) ls rest)) : W p l e R s m args below meth c H locs cells slots Q (F0 m pc ls (.int x :: .ref a :: rest)) :=
  va_put (D := D) (ci := 8) (v := .int x) (ty := .int) (C := RX9) (T := TX9) (N := 17) hx hb hqs inX9 tyX9 tyX9_ok nmX9 hown hK hP hD hS q0 he rfl 0 (by decide) (hqs _ w_1067) (fun _ h9 => h9) rfl (by decide +kernel) rfl rfl (Nat.le_of_ble_eq_true hl) hdg kk
theorem pf_X9_98 (hx : p.tables.exec = Jvm.exec) (hb : c.code = cc) (hqs : ∀ w ∈ TB, w.before args s = true) (hown : s.vm.findClass RX9 = some m.cls) (hK : va_K D vwCl tys s) (hP : va_P D vwCl ws H) (hD : va_D A ws) (hS : va_S A H0 H locs) (q0 : Nat) {fs : List Value} (he : ws[q0]? = some (a, .inr (8, fs))) {x : Int32} (hl : Nat.ble 14 fs.length = true) (hdg : decode cc pc = .ok (.putfield 98, 3)) (kk : ∀ (H1 : Heap) (locs1 : List Loc), va_P D vwCl (ws.set q0 (a, .inr (8, fs.set 13 (.int x)))) H1 → va_D A (ws.set q0 (a, .inr (8, fs.set 13 (.int x)))) → va_S A H0 H1 locs1 → W p l e R s m args below meth c H1 locs1 cells slots Q (F0 m (pc + 3) ls rest)) : W p l e R s m args below meth c H locs cells slots Q (F0 m pc ls (.int x :: .ref a :: rest)) :=
  va_put (D := D) (ci := 8) (v := .int x) (ty := .int) (C := RX9) (T := TX9) (N := 17) hx hb hqs inX9 tyX9 tyX9_ok nmX9 hown hK hP hD hS q0 he rfl 13 (by decide) (hqs _ w_1080) (fun _ h9 => h9) rfl (by decide +kernel) rfl rfl (Nat.le_of_ble_eq_true hl) hdg kk
theorem pf_X9_115 (hx : p.tables.exec = Jvm.exec) (hb : c.code = cc) (hqs : ∀ w ∈ TB, w.before args s = true) (hown : s.vm.findClass RX9 = some m.cls) (hK : va_K D vwCl tys s) (hP : va_P D vwCl ws H) (hD : va_D A ws) (hS : va_S A H0 H locs) (q0 : Nat) {fs : List Value} (he : ws[q0]? = some (a, .inr (8, fs))) {x : Int32} (hl : Nat.ble 3 fs.length = true) (hdg : decode cc pc = .ok (.putfield 115, 3)) (kk : ∀ (H1 : Heap) (locs1 : List Loc), va_P D vwCl (ws.set q0 (a, .inr (8, fs.set 2 (.int x)))) H1 → va_D A (ws.set q0 (a, .inr (8, fs.set 2 (.int x)))) → va_S A H0 H1 locs1 → W p l e R s m args below meth c H1 locs1 cells slots Q (F0 m (pc + 3) ls rest)) : W p l e R s m args below meth c H locs cells slots Q (F0 m pc ls (.int x :: .ref a :: rest)) :=
  va_put (D := D) (ci := 8) (v := .int x) (ty := .int) (C := RX9) (T := TX9) (N := 17) hx hb hqs inX9 tyX9 tyX9_ok nmX9 hown hK hP hD hS q0 he rfl 2 (by decide) (hqs _ w_1069) (fun _ h9 => h9) rfl (by decide +kernel) rfl rfl (Nat.le_of_ble_eq_true hl) hdg kk
theorem pf_X9_122 (hx : p.tables.exec = Jvm.exec) (hb : c.code = cc) (hqs : ∀ w ∈ TB, w.before args s = true) (hown : s.vm.findClass RX9 = some m.cls) (hK : va_K D vwCl tys s) (hP : va_P D vwCl ws H) (hD : va_D A ws) (hS : va_S A H0 H locs) (q0 : Nat) {fs : List Value} (he : ws[q0]? = some (a, .inr (8, fs))) {x : Int32} (hl : Nat.ble 15 fs.length = true) (hdg : decode cc pc = .ok (.putfield 122, 3)) (kk : ∀ (H1 : Heap) (locs1 : List Loc), va_P D vwCl (ws.set q0 (a, .inr (8, fs.set 14 (.int x)))) H1 → va_D A (ws.set q0 (a, .inr (8, fs.set 14 (.int x)))) → va_S A H0 H1 locs1 → W p l e R s m args below meth c H1 locs1 cells slots Q (F0 m (pc + 3) ls rest)) : W p l e R s m args below meth c H locs cells slots Q (F0 m pc ls (.int x :: .ref a :: rest)) :=
  va_put (D := D) (ci := 8) (v := .int x) (ty := .int) (C := RX9) (T := TX9) (N := 17) hx hb hqs inX9 tyX9 tyX9_ok nmX9 hown hK hP hD hS q0 he rfl 14 (by decide) (hqs _ w_1081) (fun _ h9 => h9) rfl (by decide +kernel) rfl rfl (Nat.le_of_ble_eq_true hl) hdg kk
theorem pf_X9_151 (hx : p.tables.exec = Jvm.exec) (hb : c.code = cc) (hqs : ∀ w ∈ TB, w.before args s = true) (hown : s.vm.findClass RX9 = some m.cls) (hK : va_K D vwCl tys s) (hP : va_P D vwCl ws H) (hD : va_D A ws) (hS : va_S A H0 H locs) (q0 : Nat) {fs : List Value} (he : ws[q0]? = some (a, .inr (8, fs))) {x : Int32} (hl : Nat.ble 16 fs.length = true) (hdg : decode cc pc = .ok (.putfield 151, 3)) (kk : ∀ (H1 : Heap) (locs1 : List Loc), va_P D vwCl (ws.set q0 (a, .inr (8, fs.set 15 (.int x)))) H1 → va_D A (ws.set q0 (a, .inr (8, fs.set 15 (.int x)))) → va_S A H0 H1 locs1 → W p l e R s m args below meth c H1 locs1 cells slots Q (F0 m (pc + 3) ls rest)) : W p l e R s m args below meth c H locs cells slots Q (F0 m pc ls (.int x :: .ref a :: rest)) :=
  va_put (D := D) (ci := 8) (v := .int x) (ty := .int) (C := RX9) (T := TX9) (N := 17) hx hb hqs inX9 tyX9 tyX9_ok nmX9 hown hK hP hD hS q0 he rfl 15 (by decide) (hqs _ w_1082) (fun _ h9 => h9) rfl (by decide +kernel) rfl rfl (Nat.le_of_ble_eq_true hl) hdg kk
theorem pf_X9_177 (hx : p.tables.exec = Jvm.exec) (hb : c.code = cc) (hqs : ∀ w ∈ TB, w.before args s = true) (hown : s.vm.findClass RX9 = some m.cls) (hK : va_K D vwCl tys s) (hP : va_P D vwCl ws H) (hD : va_D A ws) (hS : va_S A H0 H locs) (q0 : Nat) {fs : List Value} (he : ws[q0]? = some (a, .inr (8, fs))) {x : Int32} (hl : Nat.ble 7 fs.length = true) (hdg : decode cc pc = .ok (.putfield 177, 3)) (kk : ∀ (H1 : Heap) (locs1 : List Loc), va_P D vwCl (ws.set q0 (a, .inr (8, fs.set 6 (.int x)))) H1 → va_D A (ws.set q0 (a, .inr (8, fs.set 6 (.int x)))) → va_S A H0 H1 locs1 → W p l e R s m args below meth c H1 locs1 cells slots Q (F0 m (pc + 3) ls rest)) : W p l e R s m args below meth c H locs cells slots Q (F0 m pc ls (.int x :: .ref a :: rest)) :=
  va_put (D := D) (ci := 8) (v := .int x) (ty := .int) (C := RX9) (T := TX9) (N := 17) hx hb hqs inX9 tyX9 tyX9_ok nmX9 hown hK hP hD hS q0 he rfl 6 (by decide) (hqs _ w_1073) (fun _ h9 => h9) rfl (by decide +kernel) rfl rfl (Nat.le_of_ble_eq_true hl) hdg kk
end LINKS
