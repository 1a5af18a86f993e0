theorem w_7 : (.selects RX8 yX8_readEntries yX8_readEntries : Cond) ∈ TB := TB_mem 7 (by decide +kernel) (by decide +kernel)
theorem w_12 : (.selects RX1 yX1_stateAt yX1_stateAt : Cond) ∈ TB := TB_mem 12 (by decide +kernel) (by decide +kernel)
theorem w_49 : (.initialized RL : Cond) ∈ TB := TB_mem 49 (by decide +kernel) (by decide +kernel)
theorem w_52 : (.initialized RX4 : Cond) ∈ TB := TB_mem 52 (by decide +kernel) (by decide +kernel)
theorem w_56 : (.initialized RX1 : Cond) ∈ TB := TB_mem 56 (by decide +kernel) (by decide +kernel)
theorem w_57 : (.initialized RX5 : Cond) ∈ TB := TB_mem 57 (by decide +kernel) (by decide +kernel)
theorem w_73 : (.methodLink RX8 1 objectInit : Cond) ∈ TB := TB_mem 73 (by decide +kernel) (by decide +kernel)
theorem w_74 : (.instanceMethod objectInit : Cond) ∈ TB := TB_mem 74 (by decide +kernel) (by decide +kernel)
theorem w_75 : (.code objectInit ⟨#[0xb1]⟩ 1 none : Cond) ∈ TB := TB_mem 75 (by decide +kernel) (by decide +kernel)
theorem w_76 : (.classLink RX8 7 RX6 : Cond) ∈ TB := TB_mem 76 (by decide +kernel) (by decide +kernel)
theorem w_77 : (.instantiable RX6 2 : Cond) ∈ TB := TB_mem 77 (by decide +kernel) (by decide +kernel)
theorem w_79 : (.instanceMethod yX6_init : Cond) ∈ TB := TB_mem 79 (by decide +kernel) (by decide +kernel)
theorem w_80 : (.code yX6_init cX6_init 1 none : Cond) ∈ TB := TB_mem 80 (by decide +kernel) (by decide +kernel)
theorem w_81 : (.methodLink RX6 3 objectInit : Cond) ∈ TB := TB_mem 81 (by decide +kernel) (by decide +kernel)
theorem w_90 : (.arrayClass .char : Cond) ∈ TB := TB_mem 90 (by decide +kernel) (by decide +kernel)
theorem w_91 : (.classLink RX8 16 RX0 : Cond) ∈ TB := TB_mem 91 (by decide +kernel) (by decide +kernel)
theorem w_92 : (.instantiable RX0 5 : Cond) ∈ TB := TB_mem 92 (by decide +kernel) (by decide +kernel)
theorem w_94 : (.instanceMethod yX0_init : Cond) ∈ TB := TB_mem 94 (by decide +kernel) (by decide +kernel)
theorem w_95 : (.code yX0_init cX0_init 1 none : Cond) ∈ TB := TB_mem 95 (by decide +kernel) (by decide +kernel)
theorem w_97 : (.instanceMethod yX4_init : Cond) ∈ TB := TB_mem 97 (by decide +kernel) (by decide +kernel)
theorem w_98 : (.code yX4_init cX4_init 1 none : Cond) ∈ TB := TB_mem 98 (by decide +kernel) (by decide +kernel)
theorem w_99 : (.methodLink RX4 1 objectInit : Cond) ∈ TB := TB_mem 99 (by decide +kernel) (by decide +kernel)
theorem w_120 : (.classLink RX8 23 RX2 : Cond) ∈ TB := TB_mem 120 (by decide +kernel) (by decide +kernel)
theorem w_121 : (.instantiable RX2 4 : Cond) ∈ TB := TB_mem 121 (by decide +kernel) (by decide +kernel)
theorem w_123 : (.instanceMethod yX2_init : Cond) ∈ TB := TB_mem 123 (by decide +kernel) (by decide +kernel)
theorem w_124 : (.code yX2_init cX2_init 1 none : Cond) ∈ TB := TB_mem 124 (by decide +kernel) (by decide +kernel)
theorem w_140 : (.arrayClass .int : Cond) ∈ TB := TB_mem 140 (by decide +kernel) (by decide +kernel)
theorem w_141 : (.classLink RX8 30 RX7 : Cond) ∈ TB := TB_mem 141 (by decide +kernel) (by decide +kernel)
theorem w_142 : (.instantiable RX7 13 : Cond) ∈ TB := TB_mem 142 (by decide +kernel) (by decide +kernel)
theorem w_144 : (.instanceMethod yX7_init : Cond) ∈ TB := TB_mem 144 (by decide +kernel) (by decide +kernel)
theorem w_145 : (.code yX7_init cX7_init 1 none : Cond) ∈ TB := TB_mem 145 (by decide +kernel) (by decide +kernel)
theorem w_146 : (.methodLink RX7 3 objectInit : Cond) ∈ TB := TB_mem 146 (by decide +kernel) (by decide +kernel)
theorem w_149 : (.methodLink RX7 19 ⟨"[I", "clone", "()Ljava/lang/Object;"⟩ : Cond) ∈ TB := TB_mem 149 (by decide +kernel) (by decide +kernel)
theorem w_150 : (.sameMethod "[I" "java/lang/Object" "clone" "()Ljava/lang/Object;" : Cond) ∈ TB := TB_mem 150 (by decide +kernel) (by decide +kernel)
theorem w_151 : (.native ⟨"java/lang/Object", "clone", "()Ljava/lang/Object;"⟩ : Cond) ∈ TB := TB_mem 151 (by decide +kernel) (by decide +kernel)
theorem w_152 : (.instanceMethod ⟨"java/lang/Object", "clone", "()Ljava/lang/Object;"⟩ : Cond) ∈ TB := TB_mem 152 (by decide +kernel) (by decide +kernel)
theorem w_153 : (.selects "[I" ⟨"[I", "clone", "()Ljava/lang/Object;"⟩ ⟨"java/lang/Object", "clone", "()Ljava/lang/Object;"⟩ : Cond) ∈ TB := TB_mem 153 (by decide +kernel) (by decide +kernel)
theorem w_155 : (.classLink RX7 20 "[I" : Cond) ∈ TB := TB_mem 155 (by decide +kernel) (by decide +kernel)
theorem w_159 : (.fieldLink RX8 291 "SurprisedPlans$World" "weeks" "I" : Cond) ∈ TB := TB_mem 159 (by decide +kernel) (by decide +kernel)
theorem w_199 : (.arrayClass .long : Cond) ∈ TB := TB_mem 199 (by decide +kernel) (by decide +kernel)
theorem w_200 : (.classLink RX8 40 RX1 : Cond) ∈ TB := TB_mem 200 (by decide +kernel) (by decide +kernel)
theorem w_201 : (.instantiable RX1 3 : Cond) ∈ TB := TB_mem 201 (by decide +kernel) (by decide +kernel)
theorem w_202 : (.methodLink RX8 42 yX1_init : Cond) ∈ TB := TB_mem 202 (by decide +kernel) (by decide +kernel)
theorem w_203 : (.instanceMethod yX1_init : Cond) ∈ TB := TB_mem 203 (by decide +kernel) (by decide +kernel)
theorem w_204 : (.code yX1_init cX1_init 2 none : Cond) ∈ TB := TB_mem 204 (by decide +kernel) (by decide +kernel)
theorem w_205 : (.methodLink RX1 3 objectInit : Cond) ∈ TB := TB_mem 205 (by decide +kernel) (by decide +kernel)
theorem w_206 : (.classLink RX1 9 RX7 : Cond) ∈ TB := TB_mem 206 (by decide +kernel) (by decide +kernel)
theorem w_209 : (.fieldLink RX1 11 "SurprisedPlans$History" "states" "[LSurprisedPlans$World;" : Cond) ∈ TB := TB_mem 209 (by decide +kernel) (by decide +kernel)
theorem w_210 : (.fieldLink RX1 18 "SurprisedPlans$History" "count" "I" : Cond) ∈ TB := TB_mem 210 (by decide +kernel) (by decide +kernel)
theorem w_211 : (.fieldLink RX1 22 "SurprisedPlans$History" "next" "I" : Cond) ∈ TB := TB_mem 211 (by decide +kernel) (by decide +kernel)
theorem w_219 : (.classLink RX8 47 RX5 : Cond) ∈ TB := TB_mem 219 (by decide +kernel) (by decide +kernel)
theorem w_220 : (.instantiable RX5 2 : Cond) ∈ TB := TB_mem 220 (by decide +kernel) (by decide +kernel)
theorem w_221 : (.methodLink RX8 49 yX5_init : Cond) ∈ TB := TB_mem 221 (by decide +kernel) (by decide +kernel)
theorem w_222 : (.instanceMethod yX5_init : Cond) ∈ TB := TB_mem 222 (by decide +kernel) (by decide +kernel)
theorem w_223 : (.code yX5_init cX5_init 2 none : Cond) ∈ TB := TB_mem 223 (by decide +kernel) (by decide +kernel)
theorem w_224 : (.methodLink RX5 3 objectInit : Cond) ∈ TB := TB_mem 224 (by decide +kernel) (by decide +kernel)
theorem w_225 : (.classLink RX5 9 RX7 : Cond) ∈ TB := TB_mem 225 (by decide +kernel) (by decide +kernel)
theorem w_227 : (.fieldLink RX5 11 "SurprisedPlans$Slots" "states" "[LSurprisedPlans$World;" : Cond) ∈ TB := TB_mem 227 (by decide +kernel) (by decide +kernel)
theorem w_228 : (.fieldLink RX5 17 "SurprisedPlans$Slots" "filled" "[Z" : Cond) ∈ TB := TB_mem 228 (by decide +kernel) (by decide +kernel)
theorem w_234 : (.arrayClass .boolean : Cond) ∈ TB := TB_mem 234 (by decide +kernel) (by decide +kernel)
theorem w_235 : (.classLink RX8 54 RX3 : Cond) ∈ TB := TB_mem 235 (by decide +kernel) (by decide +kernel)
theorem w_236 : (.instantiable RX3 9 : Cond) ∈ TB := TB_mem 236 (by decide +kernel) (by decide +kernel)
theorem w_238 : (.instanceMethod yX3_init : Cond) ∈ TB := TB_mem 238 (by decide +kernel) (by decide +kernel)
theorem w_239 : (.code yX3_init cX3_init 1 none : Cond) ∈ TB := TB_mem 239 (by decide +kernel) (by decide +kernel)
theorem w_240 : (.methodLink RX3 3 objectInit : Cond) ∈ TB := TB_mem 240 (by decide +kernel) (by decide +kernel)
theorem w_274 : (.fieldLink RX8 43 "SurprisedPlans" "history" "LSurprisedPlans$History;" : Cond) ∈ TB := TB_mem 274 (by decide +kernel) (by decide +kernel)
theorem w_275 : (.fieldLink RX8 50 "SurprisedPlans" "slots" "LSurprisedPlans$Slots;" : Cond) ∈ TB := TB_mem 275 (by decide +kernel) (by decide +kernel)
theorem w_297 : (.methodLink RL 118 yX8_clearText : Cond) ∈ TB := TB_mem 297 (by decide +kernel) (by decide +kernel)
theorem w_298 : (.instanceMethod yX8_clearText : Cond) ∈ TB := TB_mem 298 (by decide +kernel) (by decide +kernel)
theorem w_299 : (.selects RX8 yX8_clearText yX8_clearText : Cond) ∈ TB := TB_mem 299 (by decide +kernel) (by decide +kernel)
theorem w_300 : (.code yX8_clearText cX8_clearText 1 (some .int) : Cond) ∈ TB := TB_mem 300 (by decide +kernel) (by decide +kernel)
theorem w_305 : (.methodLink RL 122 yX8_errorPosition : Cond) ∈ TB := TB_mem 305 (by decide +kernel) (by decide +kernel)
theorem w_306 : (.instanceMethod yX8_errorPosition : Cond) ∈ TB := TB_mem 306 (by decide +kernel) (by decide +kernel)
theorem w_307 : (.selects RX8 yX8_errorPosition yX8_errorPosition : Cond) ∈ TB := TB_mem 307 (by decide +kernel) (by decide +kernel)
theorem w_308 : (.code yX8_errorPosition cX8_errorPosition 2 (some .int) : Cond) ∈ TB := TB_mem 308 (by decide +kernel) (by decide +kernel)
theorem w_374 : (.methodLink RL 194 yX8_worst : Cond) ∈ TB := TB_mem 374 (by decide +kernel) (by decide +kernel)
theorem w_375 : (.instanceMethod yX8_worst : Cond) ∈ TB := TB_mem 375 (by decide +kernel) (by decide +kernel)
theorem w_376 : (.selects RX8 yX8_worst yX8_worst : Cond) ∈ TB := TB_mem 376 (by decide +kernel) (by decide +kernel)
theorem w_377 : (.code yX8_worst cX8_worst 1 (some .int) : Cond) ∈ TB := TB_mem 377 (by decide +kernel) (by decide +kernel)
theorem w_407 : (.methodLink RL 109 yL_append : Cond) ∈ TB := TB_mem 407 (by decide +kernel) (by decide +kernel)
theorem w_408 : (.static yL_append : Cond) ∈ TB := TB_mem 408 (by decide +kernel) (by decide +kernel)
theorem w_409 : (.codeWith yL_append cL_append 4 (some .int) [(0, 9, 12, 13), (0, 9, 15, 15)] : Cond) ∈ TB := TB_mem 409 (by decide +kernel) (by decide +kernel)
theorem w_512 : (.methodLink RL 127 yL_load : Cond) ∈ TB := TB_mem 512 (by decide +kernel) (by decide +kernel)
theorem w_513 : (.static yL_load : Cond) ∈ TB := TB_mem 513 (by decide +kernel) (by decide +kernel)
theorem w_514 : (.codeWith yL_load cL_load 3 (some .int) [(0, 8, 11, 15)] : Cond) ∈ TB := TB_mem 514 (by decide +kernel) (by decide +kernel)
theorem w_515 : (.methodLink RL 17 yX8_load : Cond) ∈ TB := TB_mem 515 (by decide +kernel) (by decide +kernel)
theorem w_516 : (.instanceMethod yX8_load : Cond) ∈ TB := TB_mem 516 (by decide +kernel) (by decide +kernel)
theorem w_517 : (.selects RX8 yX8_load yX8_load : Cond) ∈ TB := TB_mem 517 (by decide +kernel) (by decide +kernel)
theorem w_518 : (.code yX8_load cX8_load 1 (some .int) : Cond) ∈ TB := TB_mem 518 (by decide +kernel) (by decide +kernel)
theorem w_520 : (.methodLink RX8 93 yX7_makeNew : Cond) ∈ TB := TB_mem 520 (by decide +kernel) (by decide +kernel)
theorem w_521 : (.instanceMethod yX7_makeNew : Cond) ∈ TB := TB_mem 521 (by decide +kernel) (by decide +kernel)
theorem w_522 : (.selects RX7 yX7_makeNew yX7_makeNew : Cond) ∈ TB := TB_mem 522 (by decide +kernel) (by decide +kernel)
theorem w_523 : (.code yX7_makeNew cX7_makeNew 2 none : Cond) ∈ TB := TB_mem 523 (by decide +kernel) (by decide +kernel)
theorem w_527 : (.methodLink RX8 96 yX1_forgetAll : Cond) ∈ TB := TB_mem 527 (by decide +kernel) (by decide +kernel)
theorem w_528 : (.instanceMethod yX1_forgetAll : Cond) ∈ TB := TB_mem 528 (by decide +kernel) (by decide +kernel)
theorem w_529 : (.selects RX1 yX1_forgetAll yX1_forgetAll : Cond) ∈ TB := TB_mem 529 (by decide +kernel) (by decide +kernel)
theorem w_530 : (.code yX1_forgetAll cX1_forgetAll 1 none : Cond) ∈ TB := TB_mem 530 (by decide +kernel) (by decide +kernel)
theorem w_531 : (.methodLink RX8 99 yX5_emptyAll : Cond) ∈ TB := TB_mem 531 (by decide +kernel) (by decide +kernel)
theorem w_532 : (.instanceMethod yX5_emptyAll : Cond) ∈ TB := TB_mem 532 (by decide +kernel) (by decide +kernel)
theorem w_533 : (.selects RX5 yX5_emptyAll yX5_emptyAll : Cond) ∈ TB := TB_mem 533 (by decide +kernel) (by decide +kernel)
theorem w_534 : (.code yX5_emptyAll cX5_emptyAll 2 none : Cond) ∈ TB := TB_mem 534 (by decide +kernel) (by decide +kernel)
theorem w_535 : (.methodLink RX8 102 yX8_readEntries : Cond) ∈ TB := TB_mem 535 (by decide +kernel) (by decide +kernel)
theorem w_537 : (.instanceMethod yX8_readEntries : Cond) ∈ TB := TB_mem 537 (by decide +kernel) (by decide +kernel)
theorem w_538 : (.code yX8_readEntries cX8_readEntries 4 (some .int) : Cond) ∈ TB := TB_mem 538 (by decide +kernel) (by decide +kernel)
theorem w_579 : (.methodLink RL 131 yL_about : Cond) ∈ TB := TB_mem 579 (by decide +kernel) (by decide +kernel)
theorem w_580 : (.static yL_about : Cond) ∈ TB := TB_mem 580 (by decide +kernel) (by decide +kernel)
theorem w_581 : (.codeWith yL_about cL_about 4 (some .int) [(0, 9, 12, 13)] : Cond) ∈ TB := TB_mem 581 (by decide +kernel) (by decide +kernel)
theorem w_594 : (.methodLink RL 134 yL_sum : Cond) ∈ TB := TB_mem 594 (by decide +kernel) (by decide +kernel)
theorem w_595 : (.static yL_sum : Cond) ∈ TB := TB_mem 595 (by decide +kernel) (by decide +kernel)
theorem w_596 : (.codeWith yL_sum cL_sum 4 (some .int) [(0, 8, 11, 13)] : Cond) ∈ TB := TB_mem 596 (by decide +kernel) (by decide +kernel)
theorem w_605 : (.methodLink RL 137 yL_size : Cond) ∈ TB := TB_mem 605 (by decide +kernel) (by decide +kernel)
theorem w_606 : (.static yL_size : Cond) ∈ TB := TB_mem 606 (by decide +kernel) (by decide +kernel)
theorem w_607 : (.codeWith yL_size cL_size 4 (some .int) [(0, 9, 12, 31)] : Cond) ∈ TB := TB_mem 607 (by decide +kernel) (by decide +kernel)
theorem w_638 : (.methodLink RL 140 yL_pair : Cond) ∈ TB := TB_mem 638 (by decide +kernel) (by decide +kernel)
theorem w_639 : (.static yL_pair : Cond) ∈ TB := TB_mem 639 (by decide +kernel) (by decide +kernel)
theorem w_640 : (.codeWith yL_pair cL_pair 6 (some .int) [(0, 12, 15, 31), (0, 12, 19, 13)] : Cond) ∈ TB := TB_mem 640 (by decide +kernel) (by decide +kernel)
theorem w_658 : (.methodLink RL 144 yL_surprise : Cond) ∈ TB := TB_mem 658 (by decide +kernel) (by decide +kernel)
theorem w_659 : (.static yL_surprise : Cond) ∈ TB := TB_mem 659 (by decide +kernel) (by decide +kernel)
theorem w_660 : (.codeWith yL_surprise cL_surprise 5 (some .int) [(0, 10, 13, 13)] : Cond) ∈ TB := TB_mem 660 (by decide +kernel) (by decide +kernel)
theorem w_669 : (.methodLink RL 148 yL_setting : Cond) ∈ TB := TB_mem 669 (by decide +kernel) (by decide +kernel)
theorem w_670 : (.static yL_setting : Cond) ∈ TB := TB_mem 670 (by decide +kernel) (by decide +kernel)
theorem w_671 : (.codeWith yL_setting cL_setting 4 (some .int) [(0, 9, 12, 13)] : Cond) ∈ TB := TB_mem 671 (by decide +kernel) (by decide +kernel)
theorem w_680 : (.methodLink RL 151 yL_add : Cond) ∈ TB := TB_mem 680 (by decide +kernel) (by decide +kernel)
theorem w_681 : (.static yL_add : Cond) ∈ TB := TB_mem 681 (by decide +kernel) (by decide +kernel)
theorem w_682 : (.codeWith yL_add cL_add 4 (some .int) [(0, 9, 12, 13), (0, 9, 15, 15)] : Cond) ∈ TB := TB_mem 682 (by decide +kernel) (by decide +kernel)
theorem w_683 : (.methodLink RL 44 yX8_add : Cond) ∈ TB := TB_mem 683 (by decide +kernel) (by decide +kernel)
theorem w_684 : (.instanceMethod yX8_add : Cond) ∈ TB := TB_mem 684 (by decide +kernel) (by decide +kernel)
theorem w_685 : (.selects RX8 yX8_add yX8_add : Cond) ∈ TB := TB_mem 685 (by decide +kernel) (by decide +kernel)
theorem w_686 : (.code yX8_add cX8_add 2 (some .int) : Cond) ∈ TB := TB_mem 686 (by decide +kernel) (by decide +kernel)
theorem w_688 : (.methodLink RX8 140 yX1_remember : Cond) ∈ TB := TB_mem 688 (by decide +kernel) (by decide +kernel)
theorem w_689 : (.instanceMethod yX1_remember : Cond) ∈ TB := TB_mem 689 (by decide +kernel) (by decide +kernel)
theorem w_690 : (.selects RX1 yX1_remember yX1_remember : Cond) ∈ TB := TB_mem 690 (by decide +kernel) (by decide +kernel)
theorem w_691 : (.code yX1_remember cX1_remember 3 none : Cond) ∈ TB := TB_mem 691 (by decide +kernel) (by decide +kernel)
theorem w_692 : (.methodLink RX1 25 yX1_stateAt : Cond) ∈ TB := TB_mem 692 (by decide +kernel) (by decide +kernel)
theorem w_694 : (.instanceMethod yX1_stateAt : Cond) ∈ TB := TB_mem 694 (by decide +kernel) (by decide +kernel)
theorem w_695 : (.code yX1_stateAt cX1_stateAt 2 (some (.object "SurprisedPlans$World")) : Cond) ∈ TB := TB_mem 695 (by decide +kernel) (by decide +kernel)
theorem w_697 : (.methodLink RX1 29 yX7_takeFrom : Cond) ∈ TB := TB_mem 697 (by decide +kernel) (by decide +kernel)
theorem w_701 : (.methodLink RX1 33 Lib.Math.min.name : Cond) ∈ TB := TB_mem 701 (by decide +kernel) (by decide +kernel)
theorem w_702 : (.methodLink RL 154 yL_resize : Cond) ∈ TB := TB_mem 702 (by decide +kernel) (by decide +kernel)
theorem w_703 : (.static yL_resize : Cond) ∈ TB := TB_mem 703 (by decide +kernel) (by decide +kernel)
theorem w_704 : (.codeWith yL_resize cL_resize 5 (some .int) [(0, 10, 13, 31), (0, 10, 17, 13)] : Cond) ∈ TB := TB_mem 704 (by decide +kernel) (by decide +kernel)
theorem w_705 : (.methodLink RL 47 yX8_resize : Cond) ∈ TB := TB_mem 705 (by decide +kernel) (by decide +kernel)
theorem w_706 : (.instanceMethod yX8_resize : Cond) ∈ TB := TB_mem 706 (by decide +kernel) (by decide +kernel)
theorem w_707 : (.selects RX8 yX8_resize yX8_resize : Cond) ∈ TB := TB_mem 707 (by decide +kernel) (by decide +kernel)
theorem w_708 : (.code yX8_resize cX8_resize 3 (some .int) : Cond) ∈ TB := TB_mem 708 (by decide +kernel) (by decide +kernel)
theorem w_709 : (.methodLink RX8 147 yX7_changeSize : Cond) ∈ TB := TB_mem 709 (by decide +kernel) (by decide +kernel)
theorem w_710 : (.instanceMethod yX7_changeSize : Cond) ∈ TB := TB_mem 710 (by decide +kernel) (by decide +kernel)
theorem w_711 : (.selects RX7 yX7_changeSize yX7_changeSize : Cond) ∈ TB := TB_mem 711 (by decide +kernel) (by decide +kernel)
theorem w_712 : (.code yX7_changeSize cX7_changeSize 4 (some .int) : Cond) ∈ TB := TB_mem 712 (by decide +kernel) (by decide +kernel)
theorem w_714 : (.methodLink RL 157 yL_link : Cond) ∈ TB := TB_mem 714 (by decide +kernel) (by decide +kernel)
theorem w_715 : (.static yL_link : Cond) ∈ TB := TB_mem 715 (by decide +kernel) (by decide +kernel)
theorem w_716 : (.codeWith yL_link cL_link 7 (some .int) [(0, 14, 17, 31), (0, 14, 21, 13)] : Cond) ∈ TB := TB_mem 716 (by decide +kernel) (by decide +kernel)
theorem w_717 : (.methodLink RL 50 yX8_link : Cond) ∈ TB := TB_mem 717 (by decide +kernel) (by decide +kernel)
theorem w_718 : (.instanceMethod yX8_link : Cond) ∈ TB := TB_mem 718 (by decide +kernel) (by decide +kernel)
theorem w_719 : (.selects RX8 yX8_link yX8_link : Cond) ∈ TB := TB_mem 719 (by decide +kernel) (by decide +kernel)
theorem w_720 : (.code yX8_link cX8_link 5 (some .int) : Cond) ∈ TB := TB_mem 720 (by decide +kernel) (by decide +kernel)
theorem w_721 : (.methodLink RL 161 yL_drift : Cond) ∈ TB := TB_mem 721 (by decide +kernel) (by decide +kernel)
theorem w_722 : (.static yL_drift : Cond) ∈ TB := TB_mem 722 (by decide +kernel) (by decide +kernel)
theorem w_723 : (.codeWith yL_drift cL_drift 6 (some .int) [(0, 12, 15, 31), (0, 12, 19, 13), (0, 12, 23, 15)] : Cond) ∈ TB := TB_mem 723 (by decide +kernel) (by decide +kernel)
theorem w_724 : (.methodLink RL 54 yX8_drift : Cond) ∈ TB := TB_mem 724 (by decide +kernel) (by decide +kernel)
theorem w_725 : (.instanceMethod yX8_drift : Cond) ∈ TB := TB_mem 725 (by decide +kernel) (by decide +kernel)
theorem w_726 : (.selects RX8 yX8_drift yX8_drift : Cond) ∈ TB := TB_mem 726 (by decide +kernel) (by decide +kernel)
theorem w_727 : (.code yX8_drift cX8_drift 4 (some .int) : Cond) ∈ TB := TB_mem 727 (by decide +kernel) (by decide +kernel)
theorem w_734 : (.methodLink RL 164 yL_run : Cond) ∈ TB := TB_mem 734 (by decide +kernel) (by decide +kernel)
theorem w_735 : (.static yL_run : Cond) ∈ TB := TB_mem 735 (by decide +kernel) (by decide +kernel)
theorem w_736 : (.codeWith yL_run cL_run 4 (some .int) [(0, 9, 12, 31), (0, 9, 15, 13)] : Cond) ∈ TB := TB_mem 736 (by decide +kernel) (by decide +kernel)
theorem w_737 : (.methodLink RL 57 yX8_run : Cond) ∈ TB := TB_mem 737 (by decide +kernel) (by decide +kernel)
theorem w_738 : (.instanceMethod yX8_run : Cond) ∈ TB := TB_mem 738 (by decide +kernel) (by decide +kernel)
theorem w_739 : (.selects RX8 yX8_run yX8_run : Cond) ∈ TB := TB_mem 739 (by decide +kernel) (by decide +kernel)
theorem w_740 : (.code yX8_run cX8_run 2 (some .int) : Cond) ∈ TB := TB_mem 740 (by decide +kernel) (by decide +kernel)
theorem w_842 : (.methodLink RL 167 yL_weeks : Cond) ∈ TB := TB_mem 842 (by decide +kernel) (by decide +kernel)
theorem w_843 : (.static yL_weeks : Cond) ∈ TB := TB_mem 843 (by decide +kernel) (by decide +kernel)
theorem w_844 : (.codeWith yL_weeks cL_weeks 4 (some .int) [(0, 9, 12, 13)] : Cond) ∈ TB := TB_mem 844 (by decide +kernel) (by decide +kernel)
theorem w_845 : (.methodLink RL 60 yX8_weeks : Cond) ∈ TB := TB_mem 845 (by decide +kernel) (by decide +kernel)
theorem w_846 : (.instanceMethod yX8_weeks : Cond) ∈ TB := TB_mem 846 (by decide +kernel) (by decide +kernel)
theorem w_847 : (.selects RX8 yX8_weeks yX8_weeks : Cond) ∈ TB := TB_mem 847 (by decide +kernel) (by decide +kernel)
theorem w_848 : (.code yX8_weeks cX8_weeks 2 (some .int) : Cond) ∈ TB := TB_mem 848 (by decide +kernel) (by decide +kernel)
theorem w_857 : (.methodLink RL 170 yL_set : Cond) ∈ TB := TB_mem 857 (by decide +kernel) (by decide +kernel)
theorem w_858 : (.static yL_set : Cond) ∈ TB := TB_mem 858 (by decide +kernel) (by decide +kernel)
theorem w_859 : (.codeWith yL_set cL_set 5 (some .int) [(0, 10, 13, 13)] : Cond) ∈ TB := TB_mem 859 (by decide +kernel) (by decide +kernel)
theorem w_860 : (.methodLink RL 63 yX8_set : Cond) ∈ TB := TB_mem 860 (by decide +kernel) (by decide +kernel)
theorem w_861 : (.instanceMethod yX8_set : Cond) ∈ TB := TB_mem 861 (by decide +kernel) (by decide +kernel)
theorem w_862 : (.selects RX8 yX8_set yX8_set : Cond) ∈ TB := TB_mem 862 (by decide +kernel) (by decide +kernel)
theorem w_863 : (.code yX8_set cX8_set 3 (some .int) : Cond) ∈ TB := TB_mem 863 (by decide +kernel) (by decide +kernel)
theorem w_877 : (.methodLink RL 173 yL_undo : Cond) ∈ TB := TB_mem 877 (by decide +kernel) (by decide +kernel)
theorem w_878 : (.static yL_undo : Cond) ∈ TB := TB_mem 878 (by decide +kernel) (by decide +kernel)
theorem w_879 : (.codeWith yL_undo cL_undo 3 (some .int) [(0, 8, 11, 15)] : Cond) ∈ TB := TB_mem 879 (by decide +kernel) (by decide +kernel)
theorem w_880 : (.methodLink RL 66 yX8_undo : Cond) ∈ TB := TB_mem 880 (by decide +kernel) (by decide +kernel)
theorem w_881 : (.instanceMethod yX8_undo : Cond) ∈ TB := TB_mem 881 (by decide +kernel) (by decide +kernel)
theorem w_882 : (.selects RX8 yX8_undo yX8_undo : Cond) ∈ TB := TB_mem 882 (by decide +kernel) (by decide +kernel)
theorem w_883 : (.code yX8_undo cX8_undo 1 (some .int) : Cond) ∈ TB := TB_mem 883 (by decide +kernel) (by decide +kernel)
theorem w_884 : (.methodLink RX8 188 yX1_isEmpty : Cond) ∈ TB := TB_mem 884 (by decide +kernel) (by decide +kernel)
theorem w_885 : (.instanceMethod yX1_isEmpty : Cond) ∈ TB := TB_mem 885 (by decide +kernel) (by decide +kernel)
theorem w_886 : (.selects RX1 yX1_isEmpty yX1_isEmpty : Cond) ∈ TB := TB_mem 886 (by decide +kernel) (by decide +kernel)
theorem w_887 : (.code yX1_isEmpty cX1_isEmpty 1 (some .boolean) : Cond) ∈ TB := TB_mem 887 (by decide +kernel) (by decide +kernel)
theorem w_889 : (.methodLink RX8 193 yX1_takeBack : Cond) ∈ TB := TB_mem 889 (by decide +kernel) (by decide +kernel)
theorem w_890 : (.instanceMethod yX1_takeBack : Cond) ∈ TB := TB_mem 890 (by decide +kernel) (by decide +kernel)
theorem w_891 : (.selects RX1 yX1_takeBack yX1_takeBack : Cond) ∈ TB := TB_mem 891 (by decide +kernel) (by decide +kernel)
theorem w_892 : (.code yX1_takeBack cX1_takeBack 4 (some .int) : Cond) ∈ TB := TB_mem 892 (by decide +kernel) (by decide +kernel)
theorem w_893 : (.methodLink RL 176 yL_rows : Cond) ∈ TB := TB_mem 893 (by decide +kernel) (by decide +kernel)
theorem w_894 : (.static yL_rows : Cond) ∈ TB := TB_mem 894 (by decide +kernel) (by decide +kernel)
theorem w_895 : (.codeWith yL_rows cL_rows 5 (some .int) [(0, 9, 12, 31), (0, 9, 16, 13)] : Cond) ∈ TB := TB_mem 895 (by decide +kernel) (by decide +kernel)
theorem w_905 : (.methodLink RL 179 yL_order : Cond) ∈ TB := TB_mem 905 (by decide +kernel) (by decide +kernel)
theorem w_906 : (.static yL_order : Cond) ∈ TB := TB_mem 906 (by decide +kernel) (by decide +kernel)
theorem w_907 : (.codeWith yL_order cL_order 6 (some .int) [(0, 12, 15, 31), (0, 12, 19, 13)] : Cond) ∈ TB := TB_mem 907 (by decide +kernel) (by decide +kernel)
theorem w_917 : (.methodLink RL 182 yL_way : Cond) ∈ TB := TB_mem 917 (by decide +kernel) (by decide +kernel)
theorem w_918 : (.static yL_way : Cond) ∈ TB := TB_mem 918 (by decide +kernel) (by decide +kernel)
theorem w_919 : (.codeWith yL_way cL_way 5 (some .int) [(0, 10, 13, 31), (0, 10, 17, 13)] : Cond) ∈ TB := TB_mem 919 (by decide +kernel) (by decide +kernel)
theorem w_925 : (.methodLink RL 185 yL_cost : Cond) ∈ TB := TB_mem 925 (by decide +kernel) (by decide +kernel)
theorem w_926 : (.static yL_cost : Cond) ∈ TB := TB_mem 926 (by decide +kernel) (by decide +kernel)
theorem w_927 : (.codeWith yL_cost cL_cost 5 (some .int) [(0, 9, 12, 31), (0, 9, 16, 13)] : Cond) ∈ TB := TB_mem 927 (by decide +kernel) (by decide +kernel)
theorem w_932 : (.methodLink RL 188 yL_costOfText : Cond) ∈ TB := TB_mem 932 (by decide +kernel) (by decide +kernel)
theorem w_933 : (.static yL_costOfText : Cond) ∈ TB := TB_mem 933 (by decide +kernel) (by decide +kernel)
theorem w_934 : (.codeWith yL_costOfText cL_costOfText 4 (some .int) [(0, 8, 11, 13), (0, 8, 14, 15)] : Cond) ∈ TB := TB_mem 934 (by decide +kernel) (by decide +kernel)
theorem w_952 : (.methodLink RL 191 yL_matters : Cond) ∈ TB := TB_mem 952 (by decide +kernel) (by decide +kernel)
theorem w_953 : (.static yL_matters : Cond) ∈ TB := TB_mem 953 (by decide +kernel) (by decide +kernel)
theorem w_954 : (.codeWith yL_matters cL_matters 6 (some .int) [(0, 12, 15, 31), (0, 12, 19, 13)] : Cond) ∈ TB := TB_mem 954 (by decide +kernel) (by decide +kernel)
theorem w_966 : (.methodLink RL 198 yL_learnsIn : Cond) ∈ TB := TB_mem 966 (by decide +kernel) (by decide +kernel)
theorem w_967 : (.static yL_learnsIn : Cond) ∈ TB := TB_mem 967 (by decide +kernel) (by decide +kernel)
theorem w_968 : (.codeWith yL_learnsIn cL_learnsIn 4 (some .int) [(0, 9, 12, 31), (0, 9, 15, 13)] : Cond) ∈ TB := TB_mem 968 (by decide +kernel) (by decide +kernel)
theorem w_973 : (.methodLink RL 203 yL_runScript : Cond) ∈ TB := TB_mem 973 (by decide +kernel) (by decide +kernel)
theorem w_974 : (.static yL_runScript : Cond) ∈ TB := TB_mem 974 (by decide +kernel) (by decide +kernel)
theorem w_975 : (.codeWith yL_runScript cL_runScript 6 (some .int) [(0, 11, 14, 13)] : Cond) ∈ TB := TB_mem 975 (by decide +kernel) (by decide +kernel)
theorem w_1007 : (.methodLink RL 207 yL_simulate : Cond) ∈ TB := TB_mem 1007 (by decide +kernel) (by decide +kernel)
theorem w_1008 : (.static yL_simulate : Cond) ∈ TB := TB_mem 1008 (by decide +kernel) (by decide +kernel)
theorem w_1009 : (.codeWith yL_simulate cL_simulate 6 (some .int) [(0, 11, 14, 13)] : Cond) ∈ TB := TB_mem 1009 (by decide +kernel) (by decide +kernel)
theorem w_1021 : (.methodLink RL 211 yL_save : Cond) ∈ TB := TB_mem 1021 (by decide +kernel) (by decide +kernel)
theorem w_1022 : (.static yL_save : Cond) ∈ TB := TB_mem 1022 (by decide +kernel) (by decide +kernel)
theorem w_1023 : (.codeWith yL_save cL_save 4 (some .int) [(0, 9, 12, 31)] : Cond) ∈ TB := TB_mem 1023 (by decide +kernel) (by decide +kernel)
theorem w_1024 : (.methodLink RL 99 yX8_save : Cond) ∈ TB := TB_mem 1024 (by decide +kernel) (by decide +kernel)
theorem w_1025 : (.instanceMethod yX8_save : Cond) ∈ TB := TB_mem 1025 (by decide +kernel) (by decide +kernel)
theorem w_1026 : (.selects RX8 yX8_save yX8_save : Cond) ∈ TB := TB_mem 1026 (by decide +kernel) (by decide +kernel)
theorem w_1027 : (.code yX8_save cX8_save 2 (some .int) : Cond) ∈ TB := TB_mem 1027 (by decide +kernel) (by decide +kernel)
theorem w_1028 : (.methodLink RX8 285 yX8_needSlot : Cond) ∈ TB := TB_mem 1028 (by decide +kernel) (by decide +kernel)
theorem w_1029 : (.static yX8_needSlot : Cond) ∈ TB := TB_mem 1029 (by decide +kernel) (by decide +kernel)
theorem w_1030 : (.code yX8_needSlot cX8_needSlot 1 none : Cond) ∈ TB := TB_mem 1030 (by decide +kernel) (by decide +kernel)
theorem w_1032 : (.methodLink RX8 288 yX5_put : Cond) ∈ TB := TB_mem 1032 (by decide +kernel) (by decide +kernel)
theorem w_1033 : (.instanceMethod yX5_put : Cond) ∈ TB := TB_mem 1033 (by decide +kernel) (by decide +kernel)
theorem w_1034 : (.selects RX5 yX5_put yX5_put : Cond) ∈ TB := TB_mem 1034 (by decide +kernel) (by decide +kernel)
theorem w_1035 : (.code yX5_put cX5_put 4 none : Cond) ∈ TB := TB_mem 1035 (by decide +kernel) (by decide +kernel)
theorem w_1037 : (.methodLink RX5 26 yX7_takeFrom : Cond) ∈ TB := TB_mem 1037 (by decide +kernel) (by decide +kernel)
theorem w_1038 : (.methodLink RL 214 yL_restore : Cond) ∈ TB := TB_mem 1038 (by decide +kernel) (by decide +kernel)
theorem w_1039 : (.static yL_restore : Cond) ∈ TB := TB_mem 1039 (by decide +kernel) (by decide +kernel)
theorem w_1040 : (.codeWith yL_restore cL_restore 4 (some .int) [(0, 9, 12, 31), (0, 9, 15, 15)] : Cond) ∈ TB := TB_mem 1040 (by decide +kernel) (by decide +kernel)
theorem w_1041 : (.methodLink RL 102 yX8_restore : Cond) ∈ TB := TB_mem 1041 (by decide +kernel) (by decide +kernel)
theorem w_1042 : (.instanceMethod yX8_restore : Cond) ∈ TB := TB_mem 1042 (by decide +kernel) (by decide +kernel)
theorem w_1043 : (.selects RX8 yX8_restore yX8_restore : Cond) ∈ TB := TB_mem 1043 (by decide +kernel) (by decide +kernel)
theorem w_1044 : (.code yX8_restore cX8_restore 2 (some .int) : Cond) ∈ TB := TB_mem 1044 (by decide +kernel) (by decide +kernel)
theorem w_1045 : (.methodLink RX8 294 yX5_isFilled : Cond) ∈ TB := TB_mem 1045 (by decide +kernel) (by decide +kernel)
theorem w_1046 : (.instanceMethod yX5_isFilled : Cond) ∈ TB := TB_mem 1046 (by decide +kernel) (by decide +kernel)
theorem w_1047 : (.selects RX5 yX5_isFilled yX5_isFilled : Cond) ∈ TB := TB_mem 1047 (by decide +kernel) (by decide +kernel)
theorem w_1048 : (.code yX5_isFilled cX5_isFilled 2 (some .boolean) : Cond) ∈ TB := TB_mem 1048 (by decide +kernel) (by decide +kernel)
theorem w_1050 : (.methodLink RX8 299 yX5_takeOut : Cond) ∈ TB := TB_mem 1050 (by decide +kernel) (by decide +kernel)
theorem w_1051 : (.instanceMethod yX5_takeOut : Cond) ∈ TB := TB_mem 1051 (by decide +kernel) (by decide +kernel)
theorem w_1052 : (.selects RX5 yX5_takeOut yX5_takeOut : Cond) ∈ TB := TB_mem 1052 (by decide +kernel) (by decide +kernel)
theorem w_1053 : (.code yX5_takeOut cX5_takeOut 4 none : Cond) ∈ TB := TB_mem 1053 (by decide +kernel) (by decide +kernel)
theorem w_1054 : (.methodLink RX5 30 yX5_isFilled : Cond) ∈ TB := TB_mem 1054 (by decide +kernel) (by decide +kernel)
theorem w_1060 : (.methodLink RX9 1 objectInit : Cond) ∈ TB := TB_mem 1060 (by decide +kernel) (by decide +kernel)
theorem w_1119 : (.methodLink RL 115 yX9_thrown : Cond) ∈ TB := TB_mem 1119 (by decide +kernel) (by decide +kernel)
theorem w_1120 : (.instanceMethod yX9_thrown : Cond) ∈ TB := TB_mem 1120 (by decide +kernel) (by decide +kernel)
theorem w_1121 : (.selects RX9 yX9_thrown yX9_thrown : Cond) ∈ TB := TB_mem 1121 (by decide +kernel) (by decide +kernel)
theorem w_1122 : (.code yX9_thrown cX9_thrown 1 (some .int) : Cond) ∈ TB := TB_mem 1122 (by decide +kernel) (by decide +kernel)
theorem w_1123 : (.methodLink RL 114 yX9_append : Cond) ∈ TB := TB_mem 1123 (by decide +kernel) (by decide +kernel)
theorem w_1124 : (.instanceMethod yX9_append : Cond) ∈ TB := TB_mem 1124 (by decide +kernel) (by decide +kernel)
theorem w_1125 : (.selects RX9 yX9_append yX9_append : Cond) ∈ TB := TB_mem 1125 (by decide +kernel) (by decide +kernel)
theorem w_1126 : (.code yX9_append cX9_append 2 (some .int) : Cond) ∈ TB := TB_mem 1126 (by decide +kernel) (by decide +kernel)
theorem w_1135 : (.methodLink RL 121 yX9_clearText : Cond) ∈ TB := TB_mem 1135 (by decide +kernel) (by decide +kernel)
theorem w_1136 : (.instanceMethod yX9_clearText : Cond) ∈ TB := TB_mem 1136 (by decide +kernel) (by decide +kernel)
theorem w_1137 : (.selects RX9 yX9_clearText yX9_clearText : Cond) ∈ TB := TB_mem 1137 (by decide +kernel) (by decide +kernel)
theorem w_1138 : (.code yX9_clearText cX9_clearText 2 (some .int) : Cond) ∈ TB := TB_mem 1138 (by decide +kernel) (by decide +kernel)
theorem w_1139 : (.methodLink RL 126 yX9_errorPosition : Cond) ∈ TB := TB_mem 1139 (by decide +kernel) (by decide +kernel)
theorem w_1140 : (.instanceMethod yX9_errorPosition : Cond) ∈ TB := TB_mem 1140 (by decide +kernel) (by decide +kernel)
theorem w_1141 : (.selects RX9 yX9_errorPosition yX9_errorPosition : Cond) ∈ TB := TB_mem 1141 (by decide +kernel) (by decide +kernel)
theorem w_1142 : (.code yX9_errorPosition cX9_errorPosition 2 (some .int) : Cond) ∈ TB := TB_mem 1142 (by decide +kernel) (by decide +kernel)
theorem w_1186 : (.methodLink RL 130 yX9_load : Cond) ∈ TB := TB_mem 1186 (by decide +kernel) (by decide +kernel)
theorem w_1187 : (.instanceMethod yX9_load : Cond) ∈ TB := TB_mem 1187 (by decide +kernel) (by decide +kernel)
theorem w_1188 : (.selects RX9 yX9_load yX9_load : Cond) ∈ TB := TB_mem 1188 (by decide +kernel) (by decide +kernel)
theorem w_1189 : (.code yX9_load cX9_load 1 (some .int) : Cond) ∈ TB := TB_mem 1189 (by decide +kernel) (by decide +kernel)
theorem w_1193 : (.methodLink RL 133 yX9_about : Cond) ∈ TB := TB_mem 1193 (by decide +kernel) (by decide +kernel)
theorem w_1194 : (.instanceMethod yX9_about : Cond) ∈ TB := TB_mem 1194 (by decide +kernel) (by decide +kernel)
theorem w_1195 : (.selects RX9 yX9_about yX9_about : Cond) ∈ TB := TB_mem 1195 (by decide +kernel) (by decide +kernel)
theorem w_1196 : (.code yX9_about cX9_about 2 (some .int) : Cond) ∈ TB := TB_mem 1196 (by decide +kernel) (by decide +kernel)
theorem w_1198 : (.methodLink RL 136 yX9_sum : Cond) ∈ TB := TB_mem 1198 (by decide +kernel) (by decide +kernel)
theorem w_1199 : (.instanceMethod yX9_sum : Cond) ∈ TB := TB_mem 1199 (by decide +kernel) (by decide +kernel)
theorem w_1200 : (.selects RX9 yX9_sum yX9_sum : Cond) ∈ TB := TB_mem 1200 (by decide +kernel) (by decide +kernel)
theorem w_1201 : (.code yX9_sum cX9_sum 2 (some .long) : Cond) ∈ TB := TB_mem 1201 (by decide +kernel) (by decide +kernel)
theorem w_1203 : (.methodLink RL 139 yX9_size : Cond) ∈ TB := TB_mem 1203 (by decide +kernel) (by decide +kernel)
theorem w_1204 : (.instanceMethod yX9_size : Cond) ∈ TB := TB_mem 1204 (by decide +kernel) (by decide +kernel)
theorem w_1205 : (.selects RX9 yX9_size yX9_size : Cond) ∈ TB := TB_mem 1205 (by decide +kernel) (by decide +kernel)
theorem w_1206 : (.code yX9_size cX9_size 2 (some .int) : Cond) ∈ TB := TB_mem 1206 (by decide +kernel) (by decide +kernel)
theorem w_1207 : (.methodLink RL 143 yX9_pair : Cond) ∈ TB := TB_mem 1207 (by decide +kernel) (by decide +kernel)
theorem w_1208 : (.instanceMethod yX9_pair : Cond) ∈ TB := TB_mem 1208 (by decide +kernel) (by decide +kernel)
theorem w_1209 : (.selects RX9 yX9_pair yX9_pair : Cond) ∈ TB := TB_mem 1209 (by decide +kernel) (by decide +kernel)
theorem w_1210 : (.code yX9_pair cX9_pair 5 (some .int) : Cond) ∈ TB := TB_mem 1210 (by decide +kernel) (by decide +kernel)
theorem w_1217 : (.methodLink RL 147 yX9_surprise : Cond) ∈ TB := TB_mem 1217 (by decide +kernel) (by decide +kernel)
theorem w_1218 : (.instanceMethod yX9_surprise : Cond) ∈ TB := TB_mem 1218 (by decide +kernel) (by decide +kernel)
theorem w_1219 : (.selects RX9 yX9_surprise yX9_surprise : Cond) ∈ TB := TB_mem 1219 (by decide +kernel) (by decide +kernel)
theorem w_1220 : (.code yX9_surprise cX9_surprise 3 (some .int) : Cond) ∈ TB := TB_mem 1220 (by decide +kernel) (by decide +kernel)
theorem w_1222 : (.methodLink RL 150 yX9_setting : Cond) ∈ TB := TB_mem 1222 (by decide +kernel) (by decide +kernel)
theorem w_1223 : (.instanceMethod yX9_setting : Cond) ∈ TB := TB_mem 1223 (by decide +kernel) (by decide +kernel)
theorem w_1224 : (.selects RX9 yX9_setting yX9_setting : Cond) ∈ TB := TB_mem 1224 (by decide +kernel) (by decide +kernel)
theorem w_1225 : (.code yX9_setting cX9_setting 2 (some .int) : Cond) ∈ TB := TB_mem 1225 (by decide +kernel) (by decide +kernel)
theorem w_1227 : (.methodLink RL 153 yX9_add : Cond) ∈ TB := TB_mem 1227 (by decide +kernel) (by decide +kernel)
theorem w_1228 : (.instanceMethod yX9_add : Cond) ∈ TB := TB_mem 1228 (by decide +kernel) (by decide +kernel)
theorem w_1229 : (.selects RX9 yX9_add yX9_add : Cond) ∈ TB := TB_mem 1229 (by decide +kernel) (by decide +kernel)
theorem w_1230 : (.code yX9_add cX9_add 2 (some .int) : Cond) ∈ TB := TB_mem 1230 (by decide +kernel) (by decide +kernel)
theorem w_1236 : (.methodLink RL 156 yX9_resize : Cond) ∈ TB := TB_mem 1236 (by decide +kernel) (by decide +kernel)
theorem w_1237 : (.instanceMethod yX9_resize : Cond) ∈ TB := TB_mem 1237 (by decide +kernel) (by decide +kernel)
theorem w_1238 : (.selects RX9 yX9_resize yX9_resize : Cond) ∈ TB := TB_mem 1238 (by decide +kernel) (by decide +kernel)
theorem w_1239 : (.code yX9_resize cX9_resize 4 (some .int) : Cond) ∈ TB := TB_mem 1239 (by decide +kernel) (by decide +kernel)
theorem w_1240 : (.methodLink RL 160 yX9_link : Cond) ∈ TB := TB_mem 1240 (by decide +kernel) (by decide +kernel)
theorem w_1241 : (.instanceMethod yX9_link : Cond) ∈ TB := TB_mem 1241 (by decide +kernel) (by decide +kernel)
theorem w_1242 : (.selects RX9 yX9_link yX9_link : Cond) ∈ TB := TB_mem 1242 (by decide +kernel) (by decide +kernel)
theorem w_1243 : (.code yX9_link cX9_link 5 (some .int) : Cond) ∈ TB := TB_mem 1243 (by decide +kernel) (by decide +kernel)
theorem w_1248 : (.methodLink RL 163 yX9_drift : Cond) ∈ TB := TB_mem 1248 (by decide +kernel) (by decide +kernel)
theorem w_1249 : (.instanceMethod yX9_drift : Cond) ∈ TB := TB_mem 1249 (by decide +kernel) (by decide +kernel)
theorem w_1250 : (.selects RX9 yX9_drift yX9_drift : Cond) ∈ TB := TB_mem 1250 (by decide +kernel) (by decide +kernel)
theorem w_1251 : (.code yX9_drift cX9_drift 4 (some .int) : Cond) ∈ TB := TB_mem 1251 (by decide +kernel) (by decide +kernel)
theorem w_1258 : (.methodLink RL 166 yX9_run : Cond) ∈ TB := TB_mem 1258 (by decide +kernel) (by decide +kernel)
theorem w_1259 : (.instanceMethod yX9_run : Cond) ∈ TB := TB_mem 1259 (by decide +kernel) (by decide +kernel)
theorem w_1260 : (.selects RX9 yX9_run yX9_run : Cond) ∈ TB := TB_mem 1260 (by decide +kernel) (by decide +kernel)
theorem w_1261 : (.code yX9_run cX9_run 2 (some .int) : Cond) ∈ TB := TB_mem 1261 (by decide +kernel) (by decide +kernel)
theorem w_1309 : (.methodLink RL 169 yX9_weeks : Cond) ∈ TB := TB_mem 1309 (by decide +kernel) (by decide +kernel)
theorem w_1310 : (.instanceMethod yX9_weeks : Cond) ∈ TB := TB_mem 1310 (by decide +kernel) (by decide +kernel)
theorem w_1311 : (.selects RX9 yX9_weeks yX9_weeks : Cond) ∈ TB := TB_mem 1311 (by decide +kernel) (by decide +kernel)
theorem w_1312 : (.code yX9_weeks cX9_weeks 2 (some .int) : Cond) ∈ TB := TB_mem 1312 (by decide +kernel) (by decide +kernel)
theorem w_1317 : (.methodLink RL 172 yX9_set : Cond) ∈ TB := TB_mem 1317 (by decide +kernel) (by decide +kernel)
theorem w_1318 : (.instanceMethod yX9_set : Cond) ∈ TB := TB_mem 1318 (by decide +kernel) (by decide +kernel)
theorem w_1319 : (.selects RX9 yX9_set yX9_set : Cond) ∈ TB := TB_mem 1319 (by decide +kernel) (by decide +kernel)
theorem w_1320 : (.code yX9_set cX9_set 4 (some .int) : Cond) ∈ TB := TB_mem 1320 (by decide +kernel) (by decide +kernel)
theorem w_1324 : (.methodLink RL 175 yX9_undo : Cond) ∈ TB := TB_mem 1324 (by decide +kernel) (by decide +kernel)
theorem w_1325 : (.instanceMethod yX9_undo : Cond) ∈ TB := TB_mem 1325 (by decide +kernel) (by decide +kernel)
theorem w_1326 : (.selects RX9 yX9_undo yX9_undo : Cond) ∈ TB := TB_mem 1326 (by decide +kernel) (by decide +kernel)
theorem w_1327 : (.code yX9_undo cX9_undo 1 (some .int) : Cond) ∈ TB := TB_mem 1327 (by decide +kernel) (by decide +kernel)
theorem w_1328 : (.methodLink RL 178 yX9_rows : Cond) ∈ TB := TB_mem 1328 (by decide +kernel) (by decide +kernel)
theorem w_1329 : (.instanceMethod yX9_rows : Cond) ∈ TB := TB_mem 1329 (by decide +kernel) (by decide +kernel)
theorem w_1330 : (.selects RX9 yX9_rows yX9_rows : Cond) ∈ TB := TB_mem 1330 (by decide +kernel) (by decide +kernel)
theorem w_1331 : (.code yX9_rows cX9_rows 3 (some .long) : Cond) ∈ TB := TB_mem 1331 (by decide +kernel) (by decide +kernel)
theorem w_1332 : (.methodLink RL 181 yX9_order : Cond) ∈ TB := TB_mem 1332 (by decide +kernel) (by decide +kernel)
theorem w_1333 : (.instanceMethod yX9_order : Cond) ∈ TB := TB_mem 1333 (by decide +kernel) (by decide +kernel)
theorem w_1334 : (.selects RX9 yX9_order yX9_order : Cond) ∈ TB := TB_mem 1334 (by decide +kernel) (by decide +kernel)
theorem w_1335 : (.code yX9_order cX9_order 4 (some .int) : Cond) ∈ TB := TB_mem 1335 (by decide +kernel) (by decide +kernel)
theorem w_1336 : (.methodLink RL 184 yX9_way : Cond) ∈ TB := TB_mem 1336 (by decide +kernel) (by decide +kernel)
theorem w_1337 : (.instanceMethod yX9_way : Cond) ∈ TB := TB_mem 1337 (by decide +kernel) (by decide +kernel)
theorem w_1338 : (.selects RX9 yX9_way yX9_way : Cond) ∈ TB := TB_mem 1338 (by decide +kernel) (by decide +kernel)
theorem w_1339 : (.code yX9_way cX9_way 5 (some .int) : Cond) ∈ TB := TB_mem 1339 (by decide +kernel) (by decide +kernel)
theorem w_1340 : (.methodLink RL 187 yX9_cost : Cond) ∈ TB := TB_mem 1340 (by decide +kernel) (by decide +kernel)
theorem w_1341 : (.instanceMethod yX9_cost : Cond) ∈ TB := TB_mem 1341 (by decide +kernel) (by decide +kernel)
theorem w_1342 : (.selects RX9 yX9_cost yX9_cost : Cond) ∈ TB := TB_mem 1342 (by decide +kernel) (by decide +kernel)
theorem w_1343 : (.code yX9_cost cX9_cost 3 (some .long) : Cond) ∈ TB := TB_mem 1343 (by decide +kernel) (by decide +kernel)
theorem w_1344 : (.methodLink RL 190 yX9_costOfText : Cond) ∈ TB := TB_mem 1344 (by decide +kernel) (by decide +kernel)
theorem w_1345 : (.instanceMethod yX9_costOfText : Cond) ∈ TB := TB_mem 1345 (by decide +kernel) (by decide +kernel)
theorem w_1346 : (.selects RX9 yX9_costOfText yX9_costOfText : Cond) ∈ TB := TB_mem 1346 (by decide +kernel) (by decide +kernel)
theorem w_1347 : (.code yX9_costOfText cX9_costOfText 2 (some .long) : Cond) ∈ TB := TB_mem 1347 (by decide +kernel) (by decide +kernel)
theorem w_1352 : (.methodLink RL 193 yX9_matters : Cond) ∈ TB := TB_mem 1352 (by decide +kernel) (by decide +kernel)
theorem w_1353 : (.instanceMethod yX9_matters : Cond) ∈ TB := TB_mem 1353 (by decide +kernel) (by decide +kernel)
theorem w_1354 : (.selects RX9 yX9_matters yX9_matters : Cond) ∈ TB := TB_mem 1354 (by decide +kernel) (by decide +kernel)
theorem w_1355 : (.code yX9_matters cX9_matters 7 (some .int) : Cond) ∈ TB := TB_mem 1355 (by decide +kernel) (by decide +kernel)
theorem w_1356 : (.methodLink RL 197 yX9_worst : Cond) ∈ TB := TB_mem 1356 (by decide +kernel) (by decide +kernel)
theorem w_1357 : (.instanceMethod yX9_worst : Cond) ∈ TB := TB_mem 1357 (by decide +kernel) (by decide +kernel)
theorem w_1358 : (.selects RX9 yX9_worst yX9_worst : Cond) ∈ TB := TB_mem 1358 (by decide +kernel) (by decide +kernel)
theorem w_1359 : (.code yX9_worst cX9_worst 9 (some .int) : Cond) ∈ TB := TB_mem 1359 (by decide +kernel) (by decide +kernel)
theorem w_1360 : (.methodLink RL 200 yX9_learnsIn : Cond) ∈ TB := TB_mem 1360 (by decide +kernel) (by decide +kernel)
theorem w_1361 : (.instanceMethod yX9_learnsIn : Cond) ∈ TB := TB_mem 1361 (by decide +kernel) (by decide +kernel)
theorem w_1362 : (.selects RX9 yX9_learnsIn yX9_learnsIn : Cond) ∈ TB := TB_mem 1362 (by decide +kernel) (by decide +kernel)
theorem w_1363 : (.code yX9_learnsIn cX9_learnsIn 3 (some .int) : Cond) ∈ TB := TB_mem 1363 (by decide +kernel) (by decide +kernel)
theorem w_1364 : (.methodLink RL 206 yX9_runScript : Cond) ∈ TB := TB_mem 1364 (by decide +kernel) (by decide +kernel)
theorem w_1365 : (.instanceMethod yX9_runScript : Cond) ∈ TB := TB_mem 1365 (by decide +kernel) (by decide +kernel)
theorem w_1366 : (.selects RX9 yX9_runScript yX9_runScript : Cond) ∈ TB := TB_mem 1366 (by decide +kernel) (by decide +kernel)
theorem w_1367 : (.code yX9_runScript cX9_runScript 8 (some .int) : Cond) ∈ TB := TB_mem 1367 (by decide +kernel) (by decide +kernel)
theorem w_1378 : (.methodLink RL 210 yX9_simulate : Cond) ∈ TB := TB_mem 1378 (by decide +kernel) (by decide +kernel)
theorem w_1379 : (.instanceMethod yX9_simulate : Cond) ∈ TB := TB_mem 1379 (by decide +kernel) (by decide +kernel)
theorem w_1380 : (.selects RX9 yX9_simulate yX9_simulate : Cond) ∈ TB := TB_mem 1380 (by decide +kernel) (by decide +kernel)
theorem w_1381 : (.code yX9_simulate cX9_simulate 7 (some .int) : Cond) ∈ TB := TB_mem 1381 (by decide +kernel) (by decide +kernel)
theorem w_1390 : (.methodLink RL 213 yX9_save : Cond) ∈ TB := TB_mem 1390 (by decide +kernel) (by decide +kernel)
theorem w_1391 : (.instanceMethod yX9_save : Cond) ∈ TB := TB_mem 1391 (by decide +kernel) (by decide +kernel)
theorem w_1392 : (.selects RX9 yX9_save yX9_save : Cond) ∈ TB := TB_mem 1392 (by decide +kernel) (by decide +kernel)
theorem w_1393 : (.code yX9_save cX9_save 2 (some .int) : Cond) ∈ TB := TB_mem 1393 (by decide +kernel) (by decide +kernel)
theorem w_1394 : (.methodLink RL 216 yX9_restore : Cond) ∈ TB := TB_mem 1394 (by decide +kernel) (by decide +kernel)
theorem w_1395 : (.instanceMethod yX9_restore : Cond) ∈ TB := TB_mem 1395 (by decide +kernel) (by decide +kernel)
theorem w_1396 : (.selects RX9 yX9_restore yX9_restore : Cond) ∈ TB := TB_mem 1396 (by decide +kernel) (by decide +kernel)
theorem w_1397 : (.code yX9_restore cX9_restore 2 (some .int) : Cond) ∈ TB := TB_mem 1397 (by decide +kernel) (by decide +kernel)
theorem w_1398 : (.constantLong RL 201 (4294967295) : Cond) ∈ TB := TB_mem 1398 (by decide +kernel) (by decide +kernel)
theorem nd_X1_stateAt : yX1_stateAt.cls ≠ "java/lang/invoke/MethodHandle" ∧ yX1_stateAt.cls ≠ "java/lang/invoke/VarHandle" ∧ (parseMethodDescriptor yX1_stateAt.desc).map (fun d => d.parameters.length) = some 1 := by decide +kernel
theorem nd_X5_isFilled : yX5_isFilled.cls ≠ "java/lang/invoke/MethodHandle" ∧ yX5_isFilled.cls ≠ "java/lang/invoke/VarHandle" ∧ (parseMethodDescriptor yX5_isFilled.desc).map (fun d => d.parameters.length) = some 1 := by decide +kernel
theorem nd_X7_makeNew : yX7_makeNew.cls ≠ "java/lang/invoke/MethodHandle" ∧ yX7_makeNew.cls ≠ "java/lang/invoke/VarHandle" ∧ (parseMethodDescriptor yX7_makeNew.desc).map (fun d => d.parameters.length) = some 0 := by decide +kernel
theorem nd_X1_forgetAll : yX1_forgetAll.cls ≠ "java/lang/invoke/MethodHandle" ∧ yX1_forgetAll.cls ≠ "java/lang/invoke/VarHandle" ∧ (parseMethodDescriptor yX1_forgetAll.desc).map (fun d => d.parameters.length) = some 0 := by decide +kernel
theorem nd_X5_emptyAll : yX5_emptyAll.cls ≠ "java/lang/invoke/MethodHandle" ∧ yX5_emptyAll.cls ≠ "java/lang/invoke/VarHandle" ∧ (parseMethodDescriptor yX5_emptyAll.desc).map (fun d => d.parameters.length) = some 0 := by decide +kernel
theorem nd_X8_readEntries : yX8_readEntries.cls ≠ "java/lang/invoke/MethodHandle" ∧ yX8_readEntries.cls ≠ "java/lang/invoke/VarHandle" ∧ (parseMethodDescriptor yX8_readEntries.desc).map (fun d => d.parameters.length) = some 0 := by decide +kernel
theorem nd_X1_remember : yX1_remember.cls ≠ "java/lang/invoke/MethodHandle" ∧ yX1_remember.cls ≠ "java/lang/invoke/VarHandle" ∧ (parseMethodDescriptor yX1_remember.desc).map (fun d => d.parameters.length) = some 1 := by decide +kernel
theorem nd_X7_changeSize : yX7_changeSize.cls ≠ "java/lang/invoke/MethodHandle" ∧ yX7_changeSize.cls ≠ "java/lang/invoke/VarHandle" ∧ (parseMethodDescriptor yX7_changeSize.desc).map (fun d => d.parameters.length) = some 2 := by decide +kernel
theorem nd_X1_isEmpty : yX1_isEmpty.cls ≠ "java/lang/invoke/MethodHandle" ∧ yX1_isEmpty.cls ≠ "java/lang/invoke/VarHandle" ∧ (parseMethodDescriptor yX1_isEmpty.desc).map (fun d => d.parameters.length) = some 0 := by decide +kernel
theorem nd_X1_takeBack : yX1_takeBack.cls ≠ "java/lang/invoke/MethodHandle" ∧ yX1_takeBack.cls ≠ "java/lang/invoke/VarHandle" ∧ (parseMethodDescriptor yX1_takeBack.desc).map (fun d => d.parameters.length) = some 1 := by decide +kernel
theorem nd_X8_needSlot : yX8_needSlot.cls ≠ "java/lang/invoke/MethodHandle" ∧ yX8_needSlot.cls ≠ "java/lang/invoke/VarHandle" ∧ (parseMethodDescriptor yX8_needSlot.desc).map (fun d => d.parameters.length) = some 1 := by decide +kernel
theorem nd_X5_put : yX5_put.cls ≠ "java/lang/invoke/MethodHandle" ∧ yX5_put.cls ≠ "java/lang/invoke/VarHandle" ∧ (parseMethodDescriptor yX5_put.desc).map (fun d => d.parameters.length) = some 2 := by decide +kernel
theorem nd_X5_takeOut : yX5_takeOut.cls ≠ "java/lang/invoke/MethodHandle" ∧ yX5_takeOut.cls ≠ "java/lang/invoke/VarHandle" ∧ (parseMethodDescriptor yX5_takeOut.desc).map (fun d => d.parameters.length) = some 2 := by decide +kernel
theorem nd_X8_load : yX8_load.cls ≠ "java/lang/invoke/MethodHandle" ∧ yX8_load.cls ≠ "java/lang/invoke/VarHandle" ∧ (parseMethodDescriptor yX8_load.desc).map (fun d => d.parameters.length) = some 0 := by decide +kernel
theorem nd_X8_add : yX8_add.cls ≠ "java/lang/invoke/MethodHandle" ∧ yX8_add.cls ≠ "java/lang/invoke/VarHandle" ∧ (parseMethodDescriptor yX8_add.desc).map (fun d => d.parameters.length) = some 1 := by decide +kernel
theorem nd_X8_resize : yX8_resize.cls ≠ "java/lang/invoke/MethodHandle" ∧ yX8_resize.cls ≠ "java/lang/invoke/VarHandle" ∧ (parseMethodDescriptor yX8_resize.desc).map (fun d => d.parameters.length) = some 2 := by decide +kernel
theorem nd_X8_link : yX8_link.cls ≠ "java/lang/invoke/MethodHandle" ∧ yX8_link.cls ≠ "java/lang/invoke/VarHandle" ∧ (parseMethodDescriptor yX8_link.desc).map (fun d => d.parameters.length) = some 4 := by decide +kernel
theorem nd_X8_drift : yX8_drift.cls ≠ "java/lang/invoke/MethodHandle" ∧ yX8_drift.cls ≠ "java/lang/invoke/VarHandle" ∧ (parseMethodDescriptor yX8_drift.desc).map (fun d => d.parameters.length) = some 3 := by decide +kernel
theorem nd_X8_run : yX8_run.cls ≠ "java/lang/invoke/MethodHandle" ∧ yX8_run.cls ≠ "java/lang/invoke/VarHandle" ∧ (parseMethodDescriptor yX8_run.desc).map (fun d => d.parameters.length) = some 1 := by decide +kernel
theorem nd_X8_weeks : yX8_weeks.cls ≠ "java/lang/invoke/MethodHandle" ∧ yX8_weeks.cls ≠ "java/lang/invoke/VarHandle" ∧ (parseMethodDescriptor yX8_weeks.desc).map (fun d => d.parameters.length) = some 1 := by decide +kernel
theorem nd_X8_set : yX8_set.cls ≠ "java/lang/invoke/MethodHandle" ∧ yX8_set.cls ≠ "java/lang/invoke/VarHandle" ∧ (parseMethodDescriptor yX8_set.desc).map (fun d => d.parameters.length) = some 2 := by decide +kernel
theorem nd_X8_undo : yX8_undo.cls ≠ "java/lang/invoke/MethodHandle" ∧ yX8_undo.cls ≠ "java/lang/invoke/VarHandle" ∧ (parseMethodDescriptor yX8_undo.desc).map (fun d => d.parameters.length) = some 0 := by decide +kernel
theorem nd_X8_save : yX8_save.cls ≠ "java/lang/invoke/MethodHandle" ∧ yX8_save.cls ≠ "java/lang/invoke/VarHandle" ∧ (parseMethodDescriptor yX8_save.desc).map (fun d => d.parameters.length) = some 1 := by decide +kernel
theorem nd_X8_restore : yX8_restore.cls ≠ "java/lang/invoke/MethodHandle" ∧ yX8_restore.cls ≠ "java/lang/invoke/VarHandle" ∧ (parseMethodDescriptor yX8_restore.desc).map (fun d => d.parameters.length) = some 1 := by decide +kernel
theorem nd_X4_init : yX4_init.cls ≠ "java/lang/invoke/MethodHandle" ∧ yX4_init.cls ≠ "java/lang/invoke/VarHandle" ∧ (parseMethodDescriptor yX4_init.desc).map (fun d => d.parameters.length) = some 0 := by decide +kernel
theorem nd_X7_init : yX7_init.cls ≠ "java/lang/invoke/MethodHandle" ∧ yX7_init.cls ≠ "java/lang/invoke/VarHandle" ∧ (parseMethodDescriptor yX7_init.desc).map (fun d => d.parameters.length) = some 0 := by decide +kernel
theorem nd_X6_init : yX6_init.cls ≠ "java/lang/invoke/MethodHandle" ∧ yX6_init.cls ≠ "java/lang/invoke/VarHandle" ∧ (parseMethodDescriptor yX6_init.desc).map (fun d => d.parameters.length) = some 0 := by decide +kernel
theorem nd_X0_init : yX0_init.cls ≠ "java/lang/invoke/MethodHandle" ∧ yX0_init.cls ≠ "java/lang/invoke/VarHandle" ∧ (parseMethodDescriptor yX0_init.desc).map (fun d => d.parameters.length) = some 0 := by decide +kernel
theorem nd_X2_init : yX2_init.cls ≠ "java/lang/invoke/MethodHandle" ∧ yX2_init.cls ≠ "java/lang/invoke/VarHandle" ∧ (parseMethodDescriptor yX2_init.desc).map (fun d => d.parameters.length) = some 0 := by decide +kernel
theorem nd_X3_init : yX3_init.cls ≠ "java/lang/invoke/MethodHandle" ∧ yX3_init.cls ≠ "java/lang/invoke/VarHandle" ∧ (parseMethodDescriptor yX3_init.desc).map (fun d => d.parameters.length) = some 0 := by decide +kernel
theorem nd_L_append : yL_append.cls ≠ "java/lang/invoke/MethodHandle" ∧ yL_append.cls ≠ "java/lang/invoke/VarHandle" ∧ (parseMethodDescriptor yL_append.desc).map (fun d => d.parameters.length) = some 3 := by decide +kernel
theorem nd_X9_append : yX9_append.cls ≠ "java/lang/invoke/MethodHandle" ∧ yX9_append.cls ≠ "java/lang/invoke/VarHandle" ∧ (parseMethodDescriptor yX9_append.desc).map (fun d => d.parameters.length) = some 1 := by decide +kernel
theorem nd_X9_thrown : yX9_thrown.cls ≠ "java/lang/invoke/MethodHandle" ∧ yX9_thrown.cls ≠ "java/lang/invoke/VarHandle" ∧ (parseMethodDescriptor yX9_thrown.desc).map (fun d => d.parameters.length) = some 0 := by decide +kernel
theorem nd_X8_clearText : yX8_clearText.cls ≠ "java/lang/invoke/MethodHandle" ∧ yX8_clearText.cls ≠ "java/lang/invoke/VarHandle" ∧ (parseMethodDescriptor yX8_clearText.desc).map (fun d => d.parameters.length) = some 0 := by decide +kernel
theorem nd_X9_clearText : yX9_clearText.cls ≠ "java/lang/invoke/MethodHandle" ∧ yX9_clearText.cls ≠ "java/lang/invoke/VarHandle" ∧ (parseMethodDescriptor yX9_clearText.desc).map (fun d => d.parameters.length) = some 0 := by decide +kernel
theorem nd_X8_errorPosition : yX8_errorPosition.cls ≠ "java/lang/invoke/MethodHandle" ∧ yX8_errorPosition.cls ≠ "java/lang/invoke/VarHandle" ∧ (parseMethodDescriptor yX8_errorPosition.desc).map (fun d => d.parameters.length) = some 1 := by decide +kernel
theorem nd_X9_errorPosition : yX9_errorPosition.cls ≠ "java/lang/invoke/MethodHandle" ∧ yX9_errorPosition.cls ≠ "java/lang/invoke/VarHandle" ∧ (parseMethodDescriptor yX9_errorPosition.desc).map (fun d => d.parameters.length) = some 1 := by decide +kernel
theorem nd_L_load : yL_load.cls ≠ "java/lang/invoke/MethodHandle" ∧ yL_load.cls ≠ "java/lang/invoke/VarHandle" ∧ (parseMethodDescriptor yL_load.desc).map (fun d => d.parameters.length) = some 2 := by decide +kernel
theorem nd_X9_load : yX9_load.cls ≠ "java/lang/invoke/MethodHandle" ∧ yX9_load.cls ≠ "java/lang/invoke/VarHandle" ∧ (parseMethodDescriptor yX9_load.desc).map (fun d => d.parameters.length) = some 0 := by decide +kernel
theorem nd_L_about : yL_about.cls ≠ "java/lang/invoke/MethodHandle" ∧ yL_about.cls ≠ "java/lang/invoke/VarHandle" ∧ (parseMethodDescriptor yL_about.desc).map (fun d => d.parameters.length) = some 3 := by decide +kernel
theorem nd_X9_about : yX9_about.cls ≠ "java/lang/invoke/MethodHandle" ∧ yX9_about.cls ≠ "java/lang/invoke/VarHandle" ∧ (parseMethodDescriptor yX9_about.desc).map (fun d => d.parameters.length) = some 1 := by decide +kernel
theorem nd_L_sum : yL_sum.cls ≠ "java/lang/invoke/MethodHandle" ∧ yL_sum.cls ≠ "java/lang/invoke/VarHandle" ∧ (parseMethodDescriptor yL_sum.desc).map (fun d => d.parameters.length) = some 3 := by decide +kernel
theorem nd_X9_sum : yX9_sum.cls ≠ "java/lang/invoke/MethodHandle" ∧ yX9_sum.cls ≠ "java/lang/invoke/VarHandle" ∧ (parseMethodDescriptor yX9_sum.desc).map (fun d => d.parameters.length) = some 1 := by decide +kernel
theorem nd_L_size : yL_size.cls ≠ "java/lang/invoke/MethodHandle" ∧ yL_size.cls ≠ "java/lang/invoke/VarHandle" ∧ (parseMethodDescriptor yL_size.desc).map (fun d => d.parameters.length) = some 3 := by decide +kernel
theorem nd_X9_size : yX9_size.cls ≠ "java/lang/invoke/MethodHandle" ∧ yX9_size.cls ≠ "java/lang/invoke/VarHandle" ∧ (parseMethodDescriptor yX9_size.desc).map (fun d => d.parameters.length) = some 1 := by decide +kernel
theorem nd_L_pair : yL_pair.cls ≠ "java/lang/invoke/MethodHandle" ∧ yL_pair.cls ≠ "java/lang/invoke/VarHandle" ∧ (parseMethodDescriptor yL_pair.desc).map (fun d => d.parameters.length) = some 5 := by decide +kernel
theorem nd_X9_pair : yX9_pair.cls ≠ "java/lang/invoke/MethodHandle" ∧ yX9_pair.cls ≠ "java/lang/invoke/VarHandle" ∧ (parseMethodDescriptor yX9_pair.desc).map (fun d => d.parameters.length) = some 3 := by decide +kernel
theorem nd_L_surprise : yL_surprise.cls ≠ "java/lang/invoke/MethodHandle" ∧ yL_surprise.cls ≠ "java/lang/invoke/VarHandle" ∧ (parseMethodDescriptor yL_surprise.desc).map (fun d => d.parameters.length) = some 4 := by decide +kernel
theorem nd_X9_surprise : yX9_surprise.cls ≠ "java/lang/invoke/MethodHandle" ∧ yX9_surprise.cls ≠ "java/lang/invoke/VarHandle" ∧ (parseMethodDescriptor yX9_surprise.desc).map (fun d => d.parameters.length) = some 2 := by decide +kernel
theorem nd_L_setting : yL_setting.cls ≠ "java/lang/invoke/MethodHandle" ∧ yL_setting.cls ≠ "java/lang/invoke/VarHandle" ∧ (parseMethodDescriptor yL_setting.desc).map (fun d => d.parameters.length) = some 3 := by decide +kernel
theorem nd_X9_setting : yX9_setting.cls ≠ "java/lang/invoke/MethodHandle" ∧ yX9_setting.cls ≠ "java/lang/invoke/VarHandle" ∧ (parseMethodDescriptor yX9_setting.desc).map (fun d => d.parameters.length) = some 1 := by decide +kernel
theorem nd_L_add : yL_add.cls ≠ "java/lang/invoke/MethodHandle" ∧ yL_add.cls ≠ "java/lang/invoke/VarHandle" ∧ (parseMethodDescriptor yL_add.desc).map (fun d => d.parameters.length) = some 3 := by decide +kernel
theorem nd_X9_add : yX9_add.cls ≠ "java/lang/invoke/MethodHandle" ∧ yX9_add.cls ≠ "java/lang/invoke/VarHandle" ∧ (parseMethodDescriptor yX9_add.desc).map (fun d => d.parameters.length) = some 1 := by decide +kernel
theorem nd_L_resize : yL_resize.cls ≠ "java/lang/invoke/MethodHandle" ∧ yL_resize.cls ≠ "java/lang/invoke/VarHandle" ∧ (parseMethodDescriptor yL_resize.desc).map (fun d => d.parameters.length) = some 4 := by decide +kernel
theorem nd_X9_resize : yX9_resize.cls ≠ "java/lang/invoke/MethodHandle" ∧ yX9_resize.cls ≠ "java/lang/invoke/VarHandle" ∧ (parseMethodDescriptor yX9_resize.desc).map (fun d => d.parameters.length) = some 2 := by decide +kernel
theorem nd_L_link : yL_link.cls ≠ "java/lang/invoke/MethodHandle" ∧ yL_link.cls ≠ "java/lang/invoke/VarHandle" ∧ (parseMethodDescriptor yL_link.desc).map (fun d => d.parameters.length) = some 6 := by decide +kernel
theorem nd_X9_link : yX9_link.cls ≠ "java/lang/invoke/MethodHandle" ∧ yX9_link.cls ≠ "java/lang/invoke/VarHandle" ∧ (parseMethodDescriptor yX9_link.desc).map (fun d => d.parameters.length) = some 4 := by decide +kernel
theorem nd_L_drift : yL_drift.cls ≠ "java/lang/invoke/MethodHandle" ∧ yL_drift.cls ≠ "java/lang/invoke/VarHandle" ∧ (parseMethodDescriptor yL_drift.desc).map (fun d => d.parameters.length) = some 5 := by decide +kernel
theorem nd_X9_drift : yX9_drift.cls ≠ "java/lang/invoke/MethodHandle" ∧ yX9_drift.cls ≠ "java/lang/invoke/VarHandle" ∧ (parseMethodDescriptor yX9_drift.desc).map (fun d => d.parameters.length) = some 3 := by decide +kernel
theorem nd_L_run : yL_run.cls ≠ "java/lang/invoke/MethodHandle" ∧ yL_run.cls ≠ "java/lang/invoke/VarHandle" ∧ (parseMethodDescriptor yL_run.desc).map (fun d => d.parameters.length) = some 3 := by decide +kernel
theorem nd_X9_run : yX9_run.cls ≠ "java/lang/invoke/MethodHandle" ∧ yX9_run.cls ≠ "java/lang/invoke/VarHandle" ∧ (parseMethodDescriptor yX9_run.desc).map (fun d => d.parameters.length) = some 1 := by decide +kernel
theorem nd_L_weeks : yL_weeks.cls ≠ "java/lang/invoke/MethodHandle" ∧ yL_weeks.cls ≠ "java/lang/invoke/VarHandle" ∧ (parseMethodDescriptor yL_weeks.desc).map (fun d => d.parameters.length) = some 3 := by decide +kernel
theorem nd_X9_weeks : yX9_weeks.cls ≠ "java/lang/invoke/MethodHandle" ∧ yX9_weeks.cls ≠ "java/lang/invoke/VarHandle" ∧ (parseMethodDescriptor yX9_weeks.desc).map (fun d => d.parameters.length) = some 1 := by decide +kernel
theorem nd_L_set : yL_set.cls ≠ "java/lang/invoke/MethodHandle" ∧ yL_set.cls ≠ "java/lang/invoke/VarHandle" ∧ (parseMethodDescriptor yL_set.desc).map (fun d => d.parameters.length) = some 4 := by decide +kernel
theorem nd_X9_set : yX9_set.cls ≠ "java/lang/invoke/MethodHandle" ∧ yX9_set.cls ≠ "java/lang/invoke/VarHandle" ∧ (parseMethodDescriptor yX9_set.desc).map (fun d => d.parameters.length) = some 2 := by decide +kernel
theorem nd_L_undo : yL_undo.cls ≠ "java/lang/invoke/MethodHandle" ∧ yL_undo.cls ≠ "java/lang/invoke/VarHandle" ∧ (parseMethodDescriptor yL_undo.desc).map (fun d => d.parameters.length) = some 2 := by decide +kernel
theorem nd_X9_undo : yX9_undo.cls ≠ "java/lang/invoke/MethodHandle" ∧ yX9_undo.cls ≠ "java/lang/invoke/VarHandle" ∧ (parseMethodDescriptor yX9_undo.desc).map (fun d => d.parameters.length) = some 0 := by decide +kernel
theorem nd_L_rows : yL_rows.cls ≠ "java/lang/invoke/MethodHandle" ∧ yL_rows.cls ≠ "java/lang/invoke/VarHandle" ∧ (parseMethodDescriptor yL_rows.desc).map (fun d => d.parameters.length) = some 4 := by decide +kernel
theorem nd_X9_rows : yX9_rows.cls ≠ "java/lang/invoke/MethodHandle" ∧ yX9_rows.cls ≠ "java/lang/invoke/VarHandle" ∧ (parseMethodDescriptor yX9_rows.desc).map (fun d => d.parameters.length) = some 2 := by decide +kernel
theorem nd_L_order : yL_order.cls ≠ "java/lang/invoke/MethodHandle" ∧ yL_order.cls ≠ "java/lang/invoke/VarHandle" ∧ (parseMethodDescriptor yL_order.desc).map (fun d => d.parameters.length) = some 5 := by decide +kernel
theorem nd_X9_order : yX9_order.cls ≠ "java/lang/invoke/MethodHandle" ∧ yX9_order.cls ≠ "java/lang/invoke/VarHandle" ∧ (parseMethodDescriptor yX9_order.desc).map (fun d => d.parameters.length) = some 3 := by decide +kernel
theorem nd_L_way : yL_way.cls ≠ "java/lang/invoke/MethodHandle" ∧ yL_way.cls ≠ "java/lang/invoke/VarHandle" ∧ (parseMethodDescriptor yL_way.desc).map (fun d => d.parameters.length) = some 4 := by decide +kernel
theorem nd_X9_way : yX9_way.cls ≠ "java/lang/invoke/MethodHandle" ∧ yX9_way.cls ≠ "java/lang/invoke/VarHandle" ∧ (parseMethodDescriptor yX9_way.desc).map (fun d => d.parameters.length) = some 2 := by decide +kernel
theorem nd_L_cost : yL_cost.cls ≠ "java/lang/invoke/MethodHandle" ∧ yL_cost.cls ≠ "java/lang/invoke/VarHandle" ∧ (parseMethodDescriptor yL_cost.desc).map (fun d => d.parameters.length) = some 4 := by decide +kernel
theorem nd_X9_cost : yX9_cost.cls ≠ "java/lang/invoke/MethodHandle" ∧ yX9_cost.cls ≠ "java/lang/invoke/VarHandle" ∧ (parseMethodDescriptor yX9_cost.desc).map (fun d => d.parameters.length) = some 2 := by decide +kernel
theorem nd_L_costOfText : yL_costOfText.cls ≠ "java/lang/invoke/MethodHandle" ∧ yL_costOfText.cls ≠ "java/lang/invoke/VarHandle" ∧ (parseMethodDescriptor yL_costOfText.desc).map (fun d => d.parameters.length) = some 3 := by decide +kernel
theorem nd_X9_costOfText : yX9_costOfText.cls ≠ "java/lang/invoke/MethodHandle" ∧ yX9_costOfText.cls ≠ "java/lang/invoke/VarHandle" ∧ (parseMethodDescriptor yX9_costOfText.desc).map (fun d => d.parameters.length) = some 1 := by decide +kernel
theorem nd_L_matters : yL_matters.cls ≠ "java/lang/invoke/MethodHandle" ∧ yL_matters.cls ≠ "java/lang/invoke/VarHandle" ∧ (parseMethodDescriptor yL_matters.desc).map (fun d => d.parameters.length) = some 5 := by decide +kernel
theorem nd_X9_matters : yX9_matters.cls ≠ "java/lang/invoke/MethodHandle" ∧ yX9_matters.cls ≠ "java/lang/invoke/VarHandle" ∧ (parseMethodDescriptor yX9_matters.desc).map (fun d => d.parameters.length) = some 3 := by decide +kernel
theorem nd_X8_worst : yX8_worst.cls ≠ "java/lang/invoke/MethodHandle" ∧ yX8_worst.cls ≠ "java/lang/invoke/VarHandle" ∧ (parseMethodDescriptor yX8_worst.desc).map (fun d => d.parameters.length) = some 0 := by decide +kernel
theorem nd_X9_worst : yX9_worst.cls ≠ "java/lang/invoke/MethodHandle" ∧ yX9_worst.cls ≠ "java/lang/invoke/VarHandle" ∧ (parseMethodDescriptor yX9_worst.desc).map (fun d => d.parameters.length) = some 0 := by decide +kernel
theorem nd_L_learnsIn : yL_learnsIn.cls ≠ "java/lang/invoke/MethodHandle" ∧ yL_learnsIn.cls ≠ "java/lang/invoke/VarHandle" ∧ (parseMethodDescriptor yL_learnsIn.desc).map (fun d => d.parameters.length) = some 3 := by decide +kernel
theorem nd_X9_learnsIn : yX9_learnsIn.cls ≠ "java/lang/invoke/MethodHandle" ∧ yX9_learnsIn.cls ≠ "java/lang/invoke/VarHandle" ∧ (parseMethodDescriptor yX9_learnsIn.desc).map (fun d => d.parameters.length) = some 1 := by decide +kernel
theorem nd_L_runScript : yL_runScript.cls ≠ "java/lang/invoke/MethodHandle" ∧ yL_runScript.cls ≠ "java/lang/invoke/VarHandle" ∧ (parseMethodDescriptor yL_runScript.desc).map (fun d => d.parameters.length) = some 4 := by decide +kernel
theorem nd_X9_runScript : yX9_runScript.cls ≠ "java/lang/invoke/MethodHandle" ∧ yX9_runScript.cls ≠ "java/lang/invoke/VarHandle" ∧ (parseMethodDescriptor yX9_runScript.desc).map (fun d => d.parameters.length) = some 2 := by decide +kernel
theorem nd_L_simulate : yL_simulate.cls ≠ "java/lang/invoke/MethodHandle" ∧ yL_simulate.cls ≠ "java/lang/invoke/VarHandle" ∧ (parseMethodDescriptor yL_simulate.desc).map (fun d => d.parameters.length) = some 4 := by decide +kernel
theorem nd_X9_simulate : yX9_simulate.cls ≠ "java/lang/invoke/MethodHandle" ∧ yX9_simulate.cls ≠ "java/lang/invoke/VarHandle" ∧ (parseMethodDescriptor yX9_simulate.desc).map (fun d => d.parameters.length) = some 2 := by decide +kernel
theorem nd_L_save : yL_save.cls ≠ "java/lang/invoke/MethodHandle" ∧ yL_save.cls ≠ "java/lang/invoke/VarHandle" ∧ (parseMethodDescriptor yL_save.desc).map (fun d => d.parameters.length) = some 3 := by decide +kernel
theorem nd_X9_save : yX9_save.cls ≠ "java/lang/invoke/MethodHandle" ∧ yX9_save.cls ≠ "java/lang/invoke/VarHandle" ∧ (parseMethodDescriptor yX9_save.desc).map (fun d => d.parameters.length) = some 1 := by decide +kernel
theorem nd_L_restore : yL_restore.cls ≠ "java/lang/invoke/MethodHandle" ∧ yL_restore.cls ≠ "java/lang/invoke/VarHandle" ∧ (parseMethodDescriptor yL_restore.desc).map (fun d => d.parameters.length) = some 3 := by decide +kernel
theorem nd_X9_restore : yX9_restore.cls ≠ "java/lang/invoke/MethodHandle" ∧ yX9_restore.cls ≠ "java/lang/invoke/VarHandle" ∧ (parseMethodDescriptor yX9_restore.desc).map (fun d => d.parameters.length) = some 1 := by decide +kernel
section LINKS
variable {p : Program} {l : Launch} {e : Env} {R : Room} {s : State} {m : MethodId} {args : Array Value} {below : List Frame} {meth : Method} {c : Code} {H : Heap} {locs : List Loc} {cells slots : Nat} {Q : State → Prop}
variable {cc : ByteArray} {pc : Nat} {ls : Array Slot} {rest : List Value} {D : va_G} {A : Nat → Prop} {a : Nat} {tys : List (ClassId × FieldType)} {ws : va_W} {H0 : Heap}
theorem gf_X1_18 (hx : p.tables.exec = Jvm.exec) (hb : c.code = cc) (hqs : ∀ w ∈ TB, w.before args s = true) (hown : s.vm.findClass RX1 = some m.cls) (hK : va_K D vwCl tys s) (hP : va_P D vwCl ws H) (q0 : Nat) {fs : List Value} (he : ws[q0]? = some (a, .inr (1, fs))) {v : Value} (hv : fs[1]? = some v) (hdg : decode cc pc = .ok (.getfield 18, 3)) (kk : W p l e R s m args below meth c H locs cells slots Q (F0 m (pc + 3) ls (v :: rest))) : W p l e R s m args below meth c H locs cells slots Q (F0 m pc ls (.ref a :: rest)) :=
  va_get (D := D) (ci := 1) (v := v) (C := RX1) (T := TX1) (N := 3) hx hb hqs inX1 hown hK hP q0 he rfl 1 (by decide) (hqs _ w_210) (fun _ h9 => h9) hv hdg kk
theorem gf_X1_22 (hx : p.tables.exec = Jvm.exec) (hb : c.code = cc) (hqs : ∀ w ∈ TB, w.before args s = true) (hown : s.vm.findClass RX1 = some m.cls) (hK : va_K D vwCl tys s) (hP : va_P D vwCl ws H) (q0 : Nat) {fs : List Value} (he : ws[q0]? = some (a, .inr (1, fs))) {v : Value} (hv : fs[2]? = some v) (hdg : decode cc pc = .ok (.getfield 22, 3)) (kk : W p l e R s m args below meth c H locs cells slots Q (F0 m (pc + 3) ls (v :: rest))) : W p l e R s m args below meth c H locs cells slots Q (F0 m pc ls (.ref a :: rest)) :=
  va_get (D := D) (ci := 1) (v := v) (C := RX1) (T := TX1) (N := 3) hx hb hqs inX1 hown hK hP q0 he rfl 2 (by decide) (hqs _ w_211) (fun _ h9 => h9) hv hdg kk
theorem gf_X1_11 (hx : p.tables.exec = Jvm.exec) (hb : c.code = cc) (hqs : ∀ w ∈ TB, w.before args s = true) (hown : s.vm.findClass RX1 = some m.cls) (hK : va_K D vwCl tys s) (hP : va_P D vwCl ws H) (q0 : Nat) {fs : List Value} (he : ws[q0]? = some (a, .inr (1, fs))) {v : Value} (hv : fs[0]? = some v) (hdg : decode cc pc = .ok (.getfield 11, 3)) (kk : W p l e R s m args below meth c H locs cells slots Q (F0 m (pc + 3) ls (v :: rest))) : W p l e R s m args below meth c H locs cells slots Q (F0 m pc ls (.ref a :: rest)) :=
  va_get (D := D) (ci := 1) (v := v) (C := RX1) (T := TX1) (N := 3) hx hb hqs inX1 hown hK hP q0 he rfl 0 (by decide) (hqs _ w_209) (fun _ h9 => h9) hv hdg kk
theorem gf_X5_17 (hx : p.tables.exec = Jvm.exec) (hb : c.code = cc) (hqs : ∀ w ∈ TB, w.before args s = true) (hown : s.vm.findClass RX5 = some m.cls) (hK : va_K D vwCl tys s) (hP : va_P D vwCl ws H) (q0 : Nat) {fs : List Value} (he : ws[q0]? = some (a, .inr (4, fs))) {v : Value} (hv : fs[1]? = some v) (hdg : decode cc pc = .ok (.getfield 17, 3)) (kk : W p l e R s m args below meth c H locs cells slots Q (F0 m (pc + 3) ls (v :: rest))) : W p l e R s m args below meth c H locs cells slots Q (F0 m pc ls (.ref a :: rest)) :=
  va_get (D := D) (ci := 4) (v := v) (C := RX5) (T := TX5) (N := 2) hx hb hqs inX5 hown hK hP q0 he rfl 1 (by decide) (hqs _ w_228) (fun _ h9 => h9) hv hdg kk
theorem gf_X5_11 (hx : p.tables.exec = Jvm.exec) (hb : c.code = cc) (hqs : ∀ w ∈ TB, w.before args s = true) (hown : s.vm.findClass RX5 = some m.cls) (hK : va_K D vwCl tys s) (hP : va_P D vwCl ws H) (q0 : Nat) {fs : List Value} (he : ws[q0]? = some (a, .inr (4, fs))) {v : Value} (hv : fs[0]? = some v) (hdg : decode cc pc = .ok (.getfield 11, 3)) (kk : W p l e R s m args below meth c H locs cells slots Q (F0 m (pc + 3) ls (v :: rest))) : W p l e R s m args below meth c H locs cells slots Q (F0 m pc ls (.ref a :: rest)) :=
  va_get (D := D) (ci := 4) (v := v) (C := RX5) (T := TX5) (N := 2) hx hb hqs inX5 hown hK hP q0 he rfl 0 (by decide) (hqs _ w_227) (fun _ h9 => h9) hv hdg kk
theorem gf_X8_43 (hx : p.tables.exec = Jvm.exec) (hb : c.code = cc) (hqs : ∀ w ∈ TB, w.before args s = true) (hown : s.vm.findClass RX8 = some m.cls) (hK : va_K D vwCl tys s) (hP : va_P D vwCl ws H) (q0 : Nat) {fs : List Value} (he : ws[q0]? = some (a, .inr (7, fs))) {v : Value} (hv : fs[5]? = some v) (hdg : decode cc pc = .ok (.getfield 43, 3)) (kk : W p l e R s m args below meth c H locs cells slots Q (F0 m (pc + 3) ls (v :: rest))) : W p l e R s m args below meth c H locs cells slots Q (F0 m pc ls (.ref a :: rest)) :=
  va_get (D := D) (ci := 7) (v := v) (C := RX8) (T := TX8) (N := 9) hx hb hqs inX8 hown hK hP q0 he rfl 5 (by decide) (hqs _ w_274) (fun _ h9 => h9) hv hdg kk
theorem gf_X8_50 (hx : p.tables.exec = Jvm.exec) (hb : c.code = cc) (hqs : ∀ w ∈ TB, w.before args s = true) (hown : s.vm.findClass RX8 = some m.cls) (hK : va_K D vwCl tys s) (hP : va_P D vwCl ws H) (q0 : Nat) {fs : List Value} (he : ws[q0]? = some (a, .inr (7, fs))) {v : Value} (hv : fs[6]? = some v) (hdg : decode cc pc = .ok (.getfield 50, 3)) (kk : W p l e R s m args below meth c H locs cells slots Q (F0 m (pc + 3) ls (v :: rest))) : W p l e R s m args below meth c H locs cells slots Q (F0 m pc ls (.ref a :: rest)) :=
  va_get (D := D) (ci := 7) (v := v) (C := RX8) (T := TX8) (N := 9) hx hb hqs inX8 hown hK hP q0 he rfl 6 (by decide) (hqs _ w_275) (fun _ h9 => h9) hv hdg kk
theorem gf_X8_291 (hx : p.tables.exec = Jvm.exec) (hb : c.code = cc) (hqs : ∀ w ∈ TB, w.before args s = true) (hown : s.vm.findClass RX8 = some m.cls) (hK : va_K D vwCl tys s) (hP : va_P D vwCl ws H) (q0 : Nat) {fs : List Value} (he : ws[q0]? = some (a, .inr (6, fs))) {v : Value} (hv : fs[1]? = some v) (hdg : decode cc pc = .ok (.getfield 291, 3)) (kk : W p l e R s m args below meth c H locs cells slots Q (F0 m (pc + 3) ls (v :: rest))) : W p l e R s m args below meth c H locs cells slots Q (F0 m pc ls (.ref a :: rest)) :=
  va_get (D := D) (ci := 6) (v := v) (C := RX7) (T := TX7) (N := 13) hx hb hqs inX7 hown hK hP q0 he rfl 1 (by decide) (hqs _ w_159) (fun _ h9 => h9) hv hdg kk
theorem pf_X1_18 (hx : p.tables.exec = Jvm.exec) (hb : c.code = cc) (hqs : ∀ w ∈ TB, w.before args s = true) (hown : s.vm.findClass RX1 = some m.cls) (hK : va_K D vwCl tys s) (hP : va_P D vwCl ws H) (hD : va_D A ws) (hS : va_S A H0 H locs) (q0 : Nat) {fs : List Value} (he : ws[q0]? = some (a, .inr (1, fs))) {x : Int32} (hl : Nat.ble 2 fs.length = true) (hdg : decode cc pc = .ok (.putfield 18, 3)) (kk : ∀ (H1 : Heap) (locs1 : List Loc), va_P D vwCl (ws.set q0 (a, .inr (1, fs.set 1 (.int x)))) H1 → va_D A (ws.set q0 (a, .inr (1, fs.set 1 (.int x)))) → va_S A H0 H1 locs1 → W p l e R s m args below meth c H1 locs1 cells slots Q (F0 m (pc + 3) ls rest)) : W p l e R s m args below meth c H locs cells slots Q (F0 m pc ls (.int x :: .ref a :: rest)) :=
  va_put (D := D) (ci := 1) (v := .int x) (ty := .int) (C := RX1) (T := TX1) (N := 3) hx hb hqs inX1 tyX1 tyX1_ok nmX1 hown hK hP hD hS q0 he rfl 1 (by decide) (hqs _ w_210) (fun _ h9 => h9) rfl (by decide +kernel) rfl rfl (Nat.le_of_ble_eq_true hl) hdg kk
theorem pf_X1_22 (hx : p.tables.exec = Jvm.exec) (hb : c.code = cc) (hqs : ∀ w ∈ TB, w.before args s = true) (hown : s.vm.findClass RX1 = some m.cls) (hK : va_K D vwCl tys s) (hP : va_P D vwCl ws H) (hD : va_D A ws) (hS : va_S A H0 H locs) (q0 : Nat) {fs : List Value} (he : ws[q0]? = some (a, .inr (1, fs))) {x : Int32} (hl : Nat.ble 3 fs.length = true) (hdg : decode cc pc = .ok (.putfield 22, 3)) (kk : ∀ (H1 : Heap) (locs1 : List Loc), va_P D vwCl (ws.set q0 (a, .inr (1, fs.set 2 (.int x)))) H1 → va_D A (ws.set q0 (a, .inr (1, fs.set 2 (.int x)))) → va_S A H0 H1 locs1 → W p l e R s m args below meth c H1 locs1 cells slots Q (F0 m (pc + 3) ls rest)) : W p l e R s m args below meth c H locs cells slots Q (F0 m pc ls (.int x :: .ref a :: rest)) :=
  va_put (D := D) (ci := 1) (v := .int x) (ty := .int) (C := RX1) (T := TX1) (N := 3) hx hb hqs inX1 tyX1 tyX1_ok nmX1 hown hK hP hD hS q0 he rfl 2 (by decide) (hqs _ w_211) (fun _ h9 => h9) rfl (by decide +kernel) rfl rfl (Nat.le_of_ble_eq_true hl) hdg kk
end LINKS
