theorem w_7 : (.selects RX8 yX8_readEntries yX8_readEntries : Cond) ∈ TB := TB_mem 7 (by decide +kernel) (by decide +kernel)
theorem w_12 : (.selects RX1 yX1_stateAt yX1_stateAt : Cond) ∈ TB := TB_mem 12 (by decide +kernel) (by decide +kernel)
theorem w_56 : (.initialized RX1 : Cond) ∈ TB := TB_mem 56 (by decide +kernel) (by decide +kernel)
theorem w_57 : (.initialized RX5 : Cond) ∈ TB := TB_mem 57 (by decide +kernel) (by decide +kernel)
theorem w_159 : (.fieldLink RX8 291 "SurprisedPlans$World" "weeks" "I" : Cond) ∈ TB := TB_mem 159 (by decide +kernel) (by decide +kernel)
theorem w_209 : (.fieldLink RX1 11 "SurprisedPlans$History" "states" "[LSurprisedPlans$World;" : Cond) ∈ TB := TB_mem 209 (by decide +kernel) (by decide +kernel)
theorem w_210 : (.fieldLink RX1 18 "SurprisedPlans$History" "count" "I" : Cond) ∈ TB := TB_mem 210 (by decide +kernel) (by decide +kernel)
theorem w_211 : (.fieldLink RX1 22 "SurprisedPlans$History" "next" "I" : Cond) ∈ TB := TB_mem 211 (by decide +kernel) (by decide +kernel)
theorem w_227 : (.fieldLink RX5 11 "SurprisedPlans$Slots" "states" "[LSurprisedPlans$World;" : Cond) ∈ TB := TB_mem 227 (by decide +kernel) (by decide +kernel)
theorem w_228 : (.fieldLink RX5 17 "SurprisedPlans$Slots" "filled" "[Z" : Cond) ∈ TB := TB_mem 228 (by decide +kernel) (by decide +kernel)
theorem w_274 : (.fieldLink RX8 43 "SurprisedPlans" "history" "LSurprisedPlans$History;" : Cond) ∈ TB := TB_mem 274 (by decide +kernel) (by decide +kernel)
theorem w_275 : (.fieldLink RX8 50 "SurprisedPlans" "slots" "LSurprisedPlans$Slots;" : Cond) ∈ TB := TB_mem 275 (by decide +kernel) (by decide +kernel)
theorem w_515 : (.methodLink RL 17 yX8_load : Cond) ∈ TB := TB_mem 515 (by decide +kernel) (by decide +kernel)
theorem w_516 : (.instanceMethod yX8_load : Cond) ∈ TB := TB_mem 516 (by decide +kernel) (by decide +kernel)
theorem w_517 : (.selects RX8 yX8_load yX8_load : Cond) ∈ TB := TB_mem 517 (by decide +kernel) (by decide +kernel)
theorem w_518 : (.code yX8_load cX8_load 1 (some .int) : Cond) ∈ TB := TB_mem 518 (by decide +kernel) (by decide +kernel)
theorem w_520 : (.methodLink RX8 93 yX7_makeNew : Cond) ∈ TB := TB_mem 520 (by decide +kernel) (by decide +kernel)
theorem w_521 : (.instanceMethod yX7_makeNew : Cond) ∈ TB := TB_mem 521 (by decide +kernel) (by decide +kernel)
theorem w_522 : (.selects RX7 yX7_makeNew yX7_makeNew : Cond) ∈ TB := TB_mem 522 (by decide +kernel) (by decide +kernel)
theorem w_523 : (.code yX7_makeNew cX7_makeNew 2 none : Cond) ∈ TB := TB_mem 523 (by decide +kernel) (by decide +kernel)
theorem w_527 : (.methodLink RX8 96 yX1_forgetAll : Cond) ∈ TB := TB_mem 527 (by decide +kernel) (by decide +kernel)
theorem w_528 : (.instanceMethod yX1_forgetAll : Cond) ∈ TB := TB_mem 528 (by decide +kernel) (by decide +kernel)
theorem w_529 : (.selects RX1 yX1_forgetAll yX1_forgetAll : Cond) ∈ TB := TB_mem 529 (by decide +kernel) (by decide +kernel)
theorem w_530 : (.code yX1_forgetAll cX1_forgetAll 1 none : Cond) ∈ TB := TB_mem 530 (by decide +kernel) (by decide +kernel)
theorem w_531 : (.methodLink RX8 99 yX5_emptyAll : Cond) ∈ TB := TB_mem 531 (by decide +kernel) (by decide +kernel)
theorem w_532 : (.instanceMethod yX5_emptyAll : Cond) ∈ TB := TB_mem 532 (by decide +kernel) (by decide +kernel)
theorem w_533 : (.selects RX5 yX5_emptyAll yX5_emptyAll : Cond) ∈ TB := TB_mem 533 (by decide +kernel) (by decide +kernel)
theorem w_534 : (.code yX5_emptyAll cX5_emptyAll 2 none : Cond) ∈ TB := TB_mem 534 (by decide +kernel) (by decide +kernel)
theorem w_535 : (.methodLink RX8 102 yX8_readEntries : Cond) ∈ TB := TB_mem 535 (by decide +kernel) (by decide +kernel)
theorem w_537 : (.instanceMethod yX8_readEntries : Cond) ∈ TB := TB_mem 537 (by decide +kernel) (by decide +kernel)
theorem w_538 : (.code yX8_readEntries cX8_readEntries 4 (some .int) : Cond) ∈ TB := TB_mem 538 (by decide +kernel) (by decide +kernel)
theorem w_683 : (.methodLink RL 44 yX8_add : Cond) ∈ TB := TB_mem 683 (by decide +kernel) (by decide +kernel)
theorem w_684 : (.instanceMethod yX8_add : Cond) ∈ TB := TB_mem 684 (by decide +kernel) (by decide +kernel)
theorem w_685 : (.selects RX8 yX8_add yX8_add : Cond) ∈ TB := TB_mem 685 (by decide +kernel) (by decide +kernel)
theorem w_686 : (.code yX8_add cX8_add 2 (some .int) : Cond) ∈ TB := TB_mem 686 (by decide +kernel) (by decide +kernel)
theorem w_688 : (.methodLink RX8 140 yX1_remember : Cond) ∈ TB := TB_mem 688 (by decide +kernel) (by decide +kernel)
theorem w_689 : (.instanceMethod yX1_remember : Cond) ∈ TB := TB_mem 689 (by decide +kernel) (by decide +kernel)
theorem w_690 : (.selects RX1 yX1_remember yX1_remember : Cond) ∈ TB := TB_mem 690 (by decide +kernel) (by decide +kernel)
theorem w_691 : (.code yX1_remember cX1_remember 3 none : Cond) ∈ TB := TB_mem 691 (by decide +kernel) (by decide +kernel)
theorem w_692 : (.methodLink RX1 25 yX1_stateAt : Cond) ∈ TB := TB_mem 692 (by decide +kernel) (by decide +kernel)
theorem w_694 : (.instanceMethod yX1_stateAt : Cond) ∈ TB := TB_mem 694 (by decide +kernel) (by decide +kernel)
theorem w_695 : (.code yX1_stateAt cX1_stateAt 2 (some (.object "SurprisedPlans$World")) : Cond) ∈ TB := TB_mem 695 (by decide +kernel) (by decide +kernel)
theorem w_697 : (.methodLink RX1 29 yX7_takeFrom : Cond) ∈ TB := TB_mem 697 (by decide +kernel) (by decide +kernel)
theorem w_701 : (.methodLink RX1 33 Lib.Math.min.name : Cond) ∈ TB := TB_mem 701 (by decide +kernel) (by decide +kernel)
theorem w_705 : (.methodLink RL 47 yX8_resize : Cond) ∈ TB := TB_mem 705 (by decide +kernel) (by decide +kernel)
theorem w_706 : (.instanceMethod yX8_resize : Cond) ∈ TB := TB_mem 706 (by decide +kernel) (by decide +kernel)
theorem w_707 : (.selects RX8 yX8_resize yX8_resize : Cond) ∈ TB := TB_mem 707 (by decide +kernel) (by decide +kernel)
theorem w_708 : (.code yX8_resize cX8_resize 3 (some .int) : Cond) ∈ TB := TB_mem 708 (by decide +kernel) (by decide +kernel)
theorem w_709 : (.methodLink RX8 147 yX7_changeSize : Cond) ∈ TB := TB_mem 709 (by decide +kernel) (by decide +kernel)
theorem w_710 : (.instanceMethod yX7_changeSize : Cond) ∈ TB := TB_mem 710 (by decide +kernel) (by decide +kernel)
theorem w_711 : (.selects RX7 yX7_changeSize yX7_changeSize : Cond) ∈ TB := TB_mem 711 (by decide +kernel) (by decide +kernel)
theorem w_712 : (.code yX7_changeSize cX7_changeSize 4 (some .int) : Cond) ∈ TB := TB_mem 712 (by decide +kernel) (by decide +kernel)
theorem w_717 : (.methodLink RL 50 yX8_link : Cond) ∈ TB := TB_mem 717 (by decide +kernel) (by decide +kernel)
theorem w_718 : (.instanceMethod yX8_link : Cond) ∈ TB := TB_mem 718 (by decide +kernel) (by decide +kernel)
theorem w_719 : (.selects RX8 yX8_link yX8_link : Cond) ∈ TB := TB_mem 719 (by decide +kernel) (by decide +kernel)
theorem w_720 : (.code yX8_link cX8_link 5 (some .int) : Cond) ∈ TB := TB_mem 720 (by decide +kernel) (by decide +kernel)
theorem w_724 : (.methodLink RL 54 yX8_drift : Cond) ∈ TB := TB_mem 724 (by decide +kernel) (by decide +kernel)
theorem w_725 : (.instanceMethod yX8_drift : Cond) ∈ TB := TB_mem 725 (by decide +kernel) (by decide +kernel)
theorem w_726 : (.selects RX8 yX8_drift yX8_drift : Cond) ∈ TB := TB_mem 726 (by decide +kernel) (by decide +kernel)
theorem w_727 : (.code yX8_drift cX8_drift 4 (some .int) : Cond) ∈ TB := TB_mem 727 (by decide +kernel) (by decide +kernel)
theorem w_737 : (.methodLink RL 57 yX8_run : Cond) ∈ TB := TB_mem 737 (by decide +kernel) (by decide +kernel)
theorem w_738 : (.instanceMethod yX8_run : Cond) ∈ TB := TB_mem 738 (by decide +kernel) (by decide +kernel)
theorem w_739 : (.selects RX8 yX8_run yX8_run : Cond) ∈ TB := TB_mem 739 (by decide +kernel) (by decide +kernel)
theorem w_740 : (.code yX8_run cX8_run 2 (some .int) : Cond) ∈ TB := TB_mem 740 (by decide +kernel) (by decide +kernel)
theorem w_845 : (.methodLink RL 60 yX8_weeks : Cond) ∈ TB := TB_mem 845 (by decide +kernel) (by decide +kernel)
theorem w_846 : (.instanceMethod yX8_weeks : Cond) ∈ TB := TB_mem 846 (by decide +kernel) (by decide +kernel)
theorem w_847 : (.selects RX8 yX8_weeks yX8_weeks : Cond) ∈ TB := TB_mem 847 (by decide +kernel) (by decide +kernel)
theorem w_848 : (.code yX8_weeks cX8_weeks 2 (some .int) : Cond) ∈ TB := TB_mem 848 (by decide +kernel) (by decide +kernel)
theorem w_860 : (.methodLink RL 63 yX8_set : Cond) ∈ TB := TB_mem 860 (by decide +kernel) (by decide +kernel)
theorem w_861 : (.instanceMethod yX8_set : Cond) ∈ TB := TB_mem 861 (by decide +kernel) (by decide +kernel)
theorem w_862 : (.selects RX8 yX8_set yX8_set : Cond) ∈ TB := TB_mem 862 (by decide +kernel) (by decide +kernel)
theorem w_863 : (.code yX8_set cX8_set 3 (some .int) : Cond) ∈ TB := TB_mem 863 (by decide +kernel) (by decide +kernel)
theorem w_880 : (.methodLink RL 66 yX8_undo : Cond) ∈ TB := TB_mem 880 (by decide +kernel) (by decide +kernel)
theorem w_881 : (.instanceMethod yX8_undo : Cond) ∈ TB := TB_mem 881 (by decide +kernel) (by decide +kernel)
theorem w_882 : (.selects RX8 yX8_undo yX8_undo : Cond) ∈ TB := TB_mem 882 (by decide +kernel) (by decide +kernel)
theorem w_883 : (.code yX8_undo cX8_undo 1 (some .int) : Cond) ∈ TB := TB_mem 883 (by decide +kernel) (by decide +kernel)
theorem w_884 : (.methodLink RX8 188 yX1_isEmpty : Cond) ∈ TB := TB_mem 884 (by decide +kernel) (by decide +kernel)
theorem w_885 : (.instanceMethod yX1_isEmpty : Cond) ∈ TB := TB_mem 885 (by decide +kernel) (by decide +kernel)
theorem w_886 : (.selects RX1 yX1_isEmpty yX1_isEmpty : Cond) ∈ TB := TB_mem 886 (by decide +kernel) (by decide +kernel)
theorem w_887 : (.code yX1_isEmpty cX1_isEmpty 1 (some .boolean) : Cond) ∈ TB := TB_mem 887 (by decide +kernel) (by decide +kernel)
theorem w_889 : (.methodLink RX8 193 yX1_takeBack : Cond) ∈ TB := TB_mem 889 (by decide +kernel) (by decide +kernel)
theorem w_890 : (.instanceMethod yX1_takeBack : Cond) ∈ TB := TB_mem 890 (by decide +kernel) (by decide +kernel)
theorem w_891 : (.selects RX1 yX1_takeBack yX1_takeBack : Cond) ∈ TB := TB_mem 891 (by decide +kernel) (by decide +kernel)
theorem w_892 : (.code yX1_takeBack cX1_takeBack 4 (some .int) : Cond) ∈ TB := TB_mem 892 (by decide +kernel) (by decide +kernel)
theorem w_1024 : (.methodLink RL 99 yX8_save : Cond) ∈ TB := TB_mem 1024 (by decide +kernel) (by decide +kernel)
theorem w_1025 : (.instanceMethod yX8_save : Cond) ∈ TB := TB_mem 1025 (by decide +kernel) (by decide +kernel)
theorem w_1026 : (.selects RX8 yX8_save yX8_save : Cond) ∈ TB := TB_mem 1026 (by decide +kernel) (by decide +kernel)
theorem w_1027 : (.code yX8_save cX8_save 2 (some .int) : Cond) ∈ TB := TB_mem 1027 (by decide +kernel) (by decide +kernel)
theorem w_1028 : (.methodLink RX8 285 yX8_needSlot : Cond) ∈ TB := TB_mem 1028 (by decide +kernel) (by decide +kernel)
theorem w_1029 : (.static yX8_needSlot : Cond) ∈ TB := TB_mem 1029 (by decide +kernel) (by decide +kernel)
theorem w_1030 : (.code yX8_needSlot cX8_needSlot 1 none : Cond) ∈ TB := TB_mem 1030 (by decide +kernel) (by decide +kernel)
theorem w_1032 : (.methodLink RX8 288 yX5_put : Cond) ∈ TB := TB_mem 1032 (by decide +kernel) (by decide +kernel)
theorem w_1033 : (.instanceMethod yX5_put : Cond) ∈ TB := TB_mem 1033 (by decide +kernel) (by decide +kernel)
theorem w_1034 : (.selects RX5 yX5_put yX5_put : Cond) ∈ TB := TB_mem 1034 (by decide +kernel) (by decide +kernel)
theorem w_1035 : (.code yX5_put cX5_put 4 none : Cond) ∈ TB := TB_mem 1035 (by decide +kernel) (by decide +kernel)
theorem w_1037 : (.methodLink RX5 26 yX7_takeFrom : Cond) ∈ TB := TB_mem 1037 (by decide +kernel) (by decide +kernel)
theorem w_1041 : (.methodLink RL 102 yX8_restore : Cond) ∈ TB := TB_mem 1041 (by decide +kernel) (by decide +kernel)
theorem w_1042 : (.instanceMethod yX8_restore : Cond) ∈ TB := TB_mem 1042 (by decide +kernel) (by decide +kernel)
theorem w_1043 : (.selects RX8 yX8_restore yX8_restore : Cond) ∈ TB := TB_mem 1043 (by decide +kernel) (by decide +kernel)
theorem w_1044 : (.code yX8_restore cX8_restore 2 (some .int) : Cond) ∈ TB := TB_mem 1044 (by decide +kernel) (by decide +kernel)
theorem w_1045 : (.methodLink RX8 294 yX5_isFilled : Cond) ∈ TB := TB_mem 1045 (by decide +kernel) (by decide +kernel)
theorem w_1046 : (.instanceMethod yX5_isFilled : Cond) ∈ TB := TB_mem 1046 (by decide +kernel) (by decide +kernel)
theorem w_1047 : (.selects RX5 yX5_isFilled yX5_isFilled : Cond) ∈ TB := TB_mem 1047 (by decide +kernel) (by decide +kernel)
theorem w_1048 : (.code yX5_isFilled cX5_isFilled 2 (some .boolean) : Cond) ∈ TB := TB_mem 1048 (by decide +kernel) (by decide +kernel)
theorem w_1050 : (.methodLink RX8 299 yX5_takeOut : Cond) ∈ TB := TB_mem 1050 (by decide +kernel) (by decide +kernel)
theorem w_1051 : (.instanceMethod yX5_takeOut : Cond) ∈ TB := TB_mem 1051 (by decide +kernel) (by decide +kernel)
theorem w_1052 : (.selects RX5 yX5_takeOut yX5_takeOut : Cond) ∈ TB := TB_mem 1052 (by decide +kernel) (by decide +kernel)
theorem w_1053 : (.code yX5_takeOut cX5_takeOut 4 none : Cond) ∈ TB := TB_mem 1053 (by decide +kernel) (by decide +kernel)
theorem w_1054 : (.methodLink RX5 30 yX5_isFilled : Cond) ∈ TB := TB_mem 1054 (by decide +kernel) (by decide +kernel)
theorem nd_X1_stateAt : yX1_stateAt.cls ≠ "java/lang/invoke/MethodHandle" ∧ yX1_stateAt.cls ≠ "java/lang/invoke/VarHandle" ∧ (parseMethodDescriptor yX1_stateAt.desc).map (fun d => d.parameters.length) = some 1 := by decide +kernel
theorem nd_X5_isFilled : yX5_isFilled.cls ≠ "java/lang/invoke/MethodHandle" ∧ yX5_isFilled.cls ≠ "java/lang/invoke/VarHandle" ∧ (parseMethodDescriptor yX5_isFilled.desc).map (fun d => d.parameters.length) = some 1 := by decide +kernel
theorem nd_X7_makeNew : yX7_makeNew.cls ≠ "java/lang/invoke/MethodHandle" ∧ yX7_makeNew.cls ≠ "java/lang/invoke/VarHandle" ∧ (parseMethodDescriptor yX7_makeNew.desc).map (fun d => d.parameters.length) = some 0 := by decide +kernel
theorem nd_X1_forgetAll : yX1_forgetAll.cls ≠ "java/lang/invoke/MethodHandle" ∧ yX1_forgetAll.cls ≠ "java/lang/invoke/VarHandle" ∧ (parseMethodDescriptor yX1_forgetAll.desc).map (fun d => d.parameters.length) = some 0 := by decide +kernel
theorem nd_X5_emptyAll : yX5_emptyAll.cls ≠ "java/lang/invoke/MethodHandle" ∧ yX5_emptyAll.cls ≠ "java/lang/invoke/VarHandle" ∧ (parseMethodDescriptor yX5_emptyAll.desc).map (fun d => d.parameters.length) = some 0 := by decide +kernel
theorem nd_X8_readEntries : yX8_readEntries.cls ≠ "java/lang/invoke/MethodHandle" ∧ yX8_readEntries.cls ≠ "java/lang/invoke/VarHandle" ∧ (parseMethodDescriptor yX8_readEntries.desc).map (fun d => d.parameters.length) = some 0 := by decide +kernel
theorem nd_X1_remember : yX1_remember.cls ≠ "java/lang/invoke/MethodHandle" ∧ yX1_remember.cls ≠ "java/lang/invoke/VarHandle" ∧ (parseMethodDescriptor yX1_remember.desc).map (fun d => d.parameters.length) = some 1 := by decide +kernel
theorem nd_X7_changeSize : yX7_changeSize.cls ≠ "java/lang/invoke/MethodHandle" ∧ yX7_changeSize.cls ≠ "java/lang/invoke/VarHandle" ∧ (parseMethodDescriptor yX7_changeSize.desc).map (fun d => d.parameters.length) = some 2 := by decide +kernel
theorem nd_X1_isEmpty : yX1_isEmpty.cls ≠ "java/lang/invoke/MethodHandle" ∧ yX1_isEmpty.cls ≠ "java/lang/invoke/VarHandle" ∧ (parseMethodDescriptor yX1_isEmpty.desc).map (fun d => d.parameters.length) = some 0 := by decide +kernel
theorem nd_X1_takeBack : yX1_takeBack.cls ≠ "java/lang/invoke/MethodHandle" ∧ yX1_takeBack.cls ≠ "java/lang/invoke/VarHandle" ∧ (parseMethodDescriptor yX1_takeBack.desc).map (fun d => d.parameters.length) = some 1 := by decide +kernel
theorem nd_X8_needSlot : yX8_needSlot.cls ≠ "java/lang/invoke/MethodHandle" ∧ yX8_needSlot.cls ≠ "java/lang/invoke/VarHandle" ∧ (parseMethodDescriptor yX8_needSlot.desc).map (fun d => d.parameters.length) = some 1 := by decide +kernel
theorem nd_X5_put : yX5_put.cls ≠ "java/lang/invoke/MethodHandle" ∧ yX5_put.cls ≠ "java/lang/invoke/VarHandle" ∧ (parseMethodDescriptor yX5_put.desc).map (fun d => d.parameters.length) = some 2 := by decide +kernel
theorem nd_X5_takeOut : yX5_takeOut.cls ≠ "java/lang/invoke/MethodHandle" ∧ yX5_takeOut.cls ≠ "java/lang/invoke/VarHandle" ∧ (parseMethodDescriptor yX5_takeOut.desc).map (fun d => d.parameters.length) = some 2 := by decide +kernel
theorem nd_X8_load : yX8_load.cls ≠ "java/lang/invoke/MethodHandle" ∧ yX8_load.cls ≠ "java/lang/invoke/VarHandle" ∧ (parseMethodDescriptor yX8_load.desc).map (fun d => d.parameters.length) = some 0 := by decide +kernel
theorem nd_X8_add : yX8_add.cls ≠ "java/lang/invoke/MethodHandle" ∧ yX8_add.cls ≠ "java/lang/invoke/VarHandle" ∧ (parseMethodDescriptor yX8_add.desc).map (fun d => d.parameters.length) = some 1 := by decide +kernel
theorem nd_X8_resize : yX8_resize.cls ≠ "java/lang/invoke/MethodHandle" ∧ yX8_resize.cls ≠ "java/lang/invoke/VarHandle" ∧ (parseMethodDescriptor yX8_resize.desc).map (fun d => d.parameters.length) = some 2 := by decide +kernel
theorem nd_X8_link : yX8_link.cls ≠ "java/lang/invoke/MethodHandle" ∧ yX8_link.cls ≠ "java/lang/invoke/VarHandle" ∧ (parseMethodDescriptor yX8_link.desc).map (fun d => d.parameters.length) = some 4 := by decide +kernel
theorem nd_X8_drift : yX8_drift.cls ≠ "java/lang/invoke/MethodHandle" ∧ yX8_drift.cls ≠ "java/lang/invoke/VarHandle" ∧ (parseMethodDescriptor yX8_drift.desc).map (fun d => d.parameters.length) = some 3 := by decide +kernel
theorem nd_X8_run : yX8_run.cls ≠ "java/lang/invoke/MethodHandle" ∧ yX8_run.cls ≠ "java/lang/invoke/VarHandle" ∧ (parseMethodDescriptor yX8_run.desc).map (fun d => d.parameters.length) = some 1 := by decide +kernel
theorem nd_X8_weeks : yX8_weeks.cls ≠ "java/lang/invoke/MethodHandle" ∧ yX8_weeks.cls ≠ "java/lang/invoke/VarHandle" ∧ (parseMethodDescriptor yX8_weeks.desc).map (fun d => d.parameters.length) = some 1 := by decide +kernel
theorem nd_X8_set : yX8_set.cls ≠ "java/lang/invoke/MethodHandle" ∧ yX8_set.cls ≠ "java/lang/invoke/VarHandle" ∧ (parseMethodDescriptor yX8_set.desc).map (fun d => d.parameters.length) = some 2 := by decide +kernel
theorem nd_X8_undo : yX8_undo.cls ≠ "java/lang/invoke/MethodHandle" ∧ yX8_undo.cls ≠ "java/lang/invoke/VarHandle" ∧ (parseMethodDescriptor yX8_undo.desc).map (fun d => d.parameters.length) = some 0 := by decide +kernel
theorem nd_X8_save : yX8_save.cls ≠ "java/lang/invoke/MethodHandle" ∧ yX8_save.cls ≠ "java/lang/invoke/VarHandle" ∧ (parseMethodDescriptor yX8_save.desc).map (fun d => d.parameters.length) = some 1 := by decide +kernel
theorem nd_X8_restore : yX8_restore.cls ≠ "java/lang/invoke/MethodHandle" ∧ yX8_restore.cls ≠ "java/lang/invoke/VarHandle" ∧ (parseMethodDescriptor yX8_restore.desc).map (fun d => d.parameters.length) = some 1 := by decide +kernel
section LINKS
variable {p : Program} {l : Launch} {e : Env} {R : Room} {s : State} {m : MethodId} {args : Array Value} {below : List Frame} {meth : Method} {c : Code} {H : Heap} {locs : List Loc} {cells slots : Nat} {Q : State → Prop}
variable {cc : ByteArray} {pc : Nat} {ls : Array Slot} {rest : List Value} {D : va_G} {A : Nat → Prop} {a : Nat} {tys : List (ClassId × FieldType)} {ws : va_W} {H0 : Heap}
theorem gf_X1_18 (hx : p.tables.exec = Jvm.exec) (hb : c.code = cc) (hqs : ∀ w ∈ TB, w.before args s = true) (hown : s.vm.findClass RX1 = some m.cls) (hK : va_K D vwCl tys s) (hP : va_P D vwCl ws H) (q0 : Nat) {fs : List Value} (he : ws[q0]? = some (a, .inr (1, fs))) {v : Value} (hv : fs[1]? = some v) (hdg : decode cc pc = .ok (.getfield 18, 3)) (kk : W p l e R s m args below meth c H locs cells slots Q (F0 m (pc + 3) ls (v :: rest))) : W p l e R s m args below meth c H locs cells slots Q (F0 m pc ls (.ref a :: rest)) :=
  va_get (D := D) (ci := 1) (v := v) (C := RX1) (T := TX1) (N := 3) hx hb hqs inX1 hown hK hP q0 he rfl 1 (by decide) (hqs _ w_210) (fun _ h9 => h9) hv hdg kk
theorem gf_X1_22 (hx : p.tables.exec = Jvm.exec) (hb : c.code = cc) (hqs : ∀ w ∈ TB, w.before args s = true) (hown : s.vm.findClass RX1 = some m.cls) (hK : va_K D vwCl tys s) (hP : va_P D vwCl ws H) (q0 : Nat) {fs : List Value} (he : ws[q0]? = some (a, .inr (1, fs))) {v : Value} (hv : fs[2]? = some v) (hdg : decode cc pc = .ok (.getfield 22, 3)) (kk : W p l e R s m args below meth c H locs cells slots Q (F0 m (pc + 3) ls (v :: rest))) : W p l e R s m args below meth c H locs cells slots Q (F0 m pc ls (.ref a :: rest)) :=
  va_get (D := D) (ci := 1) (v := v) (C := RX1) (T := TX1) (N := 3) hx hb hqs inX1 hown hK hP q0 he rfl 2 (by decide) (hqs _ w_211) (fun _ h9 => h9) hv hdg kk
theorem gf_X1_11 (hx : p.tables.exec = Jvm.exec) (hb : c.code = cc) (hqs : ∀ w ∈ TB, w.before args s = true) (hown : s.vm.findClass RX1 = some m.cls) (hK : va_K D vwCl tys s) (hP : va_P D vwCl ws H) (q0 : Nat) {fs : List Value} (he : ws[q0]? = some (a, .inr (1, fs))) {v : Value} (hv : fs[0]? = some v) (hdg : decode cc pc = .ok (.getfield 11, 3)) (kk : W p l e R s m args below meth c H locs cells slots Q (F0 m (pc + 3) ls (v :: rest))) : W p l e R s m args below meth c H locs cells slots Q (F0 m pc ls (.ref a :: rest)) :=
  va_get (D := D) (ci := 1) (v := v) (C := RX1) (T := TX1) (N := 3) hx hb hqs inX1 hown hK hP q0 he rfl 0 (by decide) (hqs _ w_209) (fun _ h9 => h9) hv hdg kk
theorem gf_X5_17 (hx : p.tables.exec = Jvm.exec) (hb : c.code = cc) (hqs : ∀ w ∈ TB, w.before args s = true) (hown : s.vm.findClass RX5 = some m.cls) (hK : va_K D vwCl tys s) (hP : va_P D vwCl ws H) (q0 : Nat) {fs : List Value} (he : ws[q0]? = some (a, .inr (4, fs))) {v : Value} (hv : fs[1]? = some v) (hdg : decode cc pc = .ok (.getfield 17, 3)) (kk : W p l e R s m args below meth c H locs cells slots Q (F0 m (pc + 3) ls (v :: rest))) : W p l e R s m args below meth c H locs cells slots Q (F0 m pc ls (.ref a :: rest)) :=
  va_get (D := D) (ci := 4) (v := v) (C := RX5) (T := TX5) (N := 2) hx hb hqs inX5 hown hK hP q0 he rfl 1 (by decide) (hqs _ w_228) (fun _ h9 => h9) hv hdg kk
theorem gf_X5_11 (hx : p.tables.exec = Jvm.exec) (hb : c.code = cc) (hqs : ∀ w ∈ TB, w.before args s = true) (hown : s.vm.findClass RX5 = some m.cls) (hK : va_K D vwCl tys s) (hP : va_P D vwCl ws H) (q0 : Nat) {fs : List Value} (he : ws[q0]? = some (a, .inr (4, fs))) {v : Value} (hv : fs[0]? = some v) (hdg : decode cc pc = .ok (.getfield 11, 3)) (kk : W p l e R s m args below meth c H locs cells slots Q (F0 m (pc + 3) ls (v :: rest))) : W p l e R s m args below meth c H locs cells slots Q (F0 m pc ls (.ref a :: rest)) :=
  va_get (D := D) (ci := 4) (v := v) (C := RX5) (T := TX5) (N := 2) hx hb hqs inX5 hown hK hP q0 he rfl 0 (by decide) (hqs _ w_227) (fun _ h9 => h9) hv hdg kk
theorem gf_X8_43 (hx : p.tables.exec = Jvm.exec) (hb : c.code = cc) (hqs : ∀ w ∈ TB, w.before args s = true) (hown : s.vm.findClass RX8 = some m.cls) (hK : va_K D vwCl tys s) (hP : va_P D vwCl ws H) (q0 : Nat) {fs : List Value} (he : ws[q0]? = some (a, .inr (7, fs))) {v : Value} (hv : fs[5]? = some v) (hdg : decode cc pc = .ok (.getfield 43, 3)) (kk : W p l e R s m args below meth c H locs cells slots Q (F0 m (pc + 3) ls (v :: rest))) : W p l e R s m args below meth c H locs cells slots Q (F0 m pc ls (.ref a :: rest)) :=
  va_get (D := D) (ci := 7) (v := v) (C := RX8) (T := TX8) (N := 9) hx hb hqs inX8 hown hK hP q0 he rfl 5 (by decide) (hqs _ w_274) (fun _ h9 => h9) hv hdg kk
theorem gf_X8_50 (hx : p.tables.exec = Jvm.exec) (hb : c.code = cc) (hqs : ∀ w ∈ TB, w.before args s = true) (hown : s.vm.findClass RX8 = some m.cls) (hK : va_K D vwCl tys s) (hP : va_P D vwCl ws H) (q0 : Nat) {fs : List Value} (he : ws[q0]? = some (a, .inr (7, fs))) {v : Value} (hv : fs[6]? = some v) (hdg : decode cc pc = .ok (.getfield 50, 3)) (kk : W p l e R s m args below meth c H locs cells slots Q (F0 m (pc + 3) ls (v :: rest))) : W p l e R s m args below meth c H locs cells slots Q (F0 m pc ls (.ref a :: rest)) :=
  va_get (D := D) (ci := 7) (v := v) (C := RX8) (T := TX8) (N := 9) hx hb hqs inX8 hown hK hP q0 he rfl 6 (by decide) (hqs _ w_275) (fun _ h9 => h9) hv hdg kk
theorem gf_X8_291 (hx : p.tables.exec = Jvm.exec) (hb : c.code = cc) (hqs : ∀ w ∈ TB, w.before args s = true) (hown : s.vm.findClass RX8 = some m.cls) (hK : va_K D vwCl tys s) (hP : va_P D vwCl ws H) (q0 : Nat) {fs : List Value} (he : ws[q0]? = some (a, .inr (6, fs))) {v : Value} (hv : fs[1]? = some v) (hdg : decode cc pc = .ok (.getfield 291, 3)) (kk : W p l e R s m args below meth c H locs cells slots Q (F0 m (pc + 3) ls (v :: rest))) : W p l e R s m args below meth c H locs cells slots Q (F0 m pc ls (.ref a :: rest)) :=
  va_get (D := D) (ci := 6) (v := v) (C := RX7) (T := TX7) (N := 13) hx hb hqs inX7 hown hK hP q0 he rfl 1 (by decide) (hqs _ w_159) (fun _ h9 => h9) hv hdg kk
theorem pf_X1_18 (hx : p.tables.exec = Jvm.exec) (hb : c.code = cc) (hqs : ∀ w ∈ TB, w.before args s = true) (hown : s.vm.findClass RX1 = some m.cls) (hK : va_K D vwCl tys s) (hP : va_P D vwCl ws H) (hD : va_D A ws) (hS : va_S A H0 H locs) (q0 : Nat) {fs : List Value} (he : ws[q0]? = some (a, .inr (1, fs))) {x : Int32} (hl : Nat.ble 2 fs.length = true) (hdg : decode cc pc = .ok (.putfield 18, 3)) (kk : ∀ (H1 : Heap) (locs1 : List Loc), va_P D vwCl (ws.set q0 (a, .inr (1, fs.set 1 (.int x)))) H1 → va_D A (ws.set q0 (a, .inr (1, fs.set 1 (.int x)))) → va_S A H0 H1 locs1 → W p l e R s m args below meth c H1 locs1 cells slots Q (F0 m (pc + 3) ls rest)) : W p l e R s m args below meth c H locs cells slots Q (F0 m pc ls (.int x :: .ref a :: rest)) :=
  va_put (D := D) (ci := 1) (v := .int x) (ty := .int) (C := RX1) (T := TX1) (N := 3) hx hb hqs inX1 tyX1 tyX1_ok nmX1 hown hK hP hD hS q0 he rfl 1 (by decide) (hqs _ w_210) (fun _ h9 => h9) rfl (by decide +kernel) rfl rfl (Nat.le_of_ble_eq_true hl) hdg kk
theorem pf_X1_22 (hx : p.tables.exec = Jvm.exec) (hb : c.code = cc) (hqs : ∀ w ∈ TB, w.before args s = true) (hown : s.vm.findClass RX1 = some m.cls) (hK : va_K D vwCl tys s) (hP : va_P D vwCl ws H) (hD : va_D A ws) (hS : va_S A H0 H locs) (q0 : Nat) {fs : List Value} (he : ws[q0]? = some (a, .inr (1, fs))) {x : Int32} (hl : Nat.ble 3 fs.length = true) (hdg : decode cc pc = .ok (.putfield 22, 3)) (kk : ∀ (H1 : Heap) (locs1 : List Loc), va_P D vwCl (ws.set q0 (a, .inr (1, fs.set 2 (.int x)))) H1 → va_D A (ws.set q0 (a, .inr (1, fs.set 2 (.int x)))) → va_S A H0 H1 locs1 → W p l e R s m args below meth c H1 locs1 cells slots Q (F0 m (pc + 3) ls rest)) : W p l e R s m args below meth c H locs cells slots Q (F0 m pc ls (.int x :: .ref a :: rest)) :=
  va_put (D := D) (ci := 1) (v := .int x) (ty := .int) (C := RX1) (T := TX1) (N := 3) hx hb hqs inX1 tyX1 tyX1_ok nmX1 hown hK hP hD hS q0 he rfl 2 (by decide) (hqs _ w_211) (fun _ h9 => h9) rfl (by decide +kernel) rfl rfl (Nat.le_of_ble_eq_true hl) hdg kk
end LINKS
