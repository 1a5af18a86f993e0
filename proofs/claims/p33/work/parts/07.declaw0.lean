theorem dL_tryLink_0 : decode cL_tryLink 0 = .ok (.aload_n 0, 1) := by decide +kernel
theorem dL_tryLink_1 : decode cL_tryLink 1 = .ok (.iload_n 1, 1) := by decide +kernel
theorem dL_tryLink_2 : decode cL_tryLink 2 = .ok (.iload_n 2, 1) := by decide +kernel
theorem dL_tryLink_3 : decode cL_tryLink 3 = .ok (.iload_n 3, 1) := by decide +kernel
theorem dL_tryLink_4 : decode cL_tryLink 4 = .ok (.iload 4, 2) := by decide +kernel
theorem dL_tryLink_6 : decode cL_tryLink 6 = .ok (.invokevirtual 7, 3) := by decide +kernel
theorem dL_tryLink_9 : decode cL_tryLink 9 = .ok (.ireturn, 1) := by decide +kernel
theorem dL_tryLink_10 : decode cL_tryLink 10 = .ok (.astore 5, 2) := by decide +kernel
theorem dL_tryLink_12 : decode cL_tryLink 12 = .ok (.ldc 15, 2) := by decide +kernel
theorem dL_tryLink_14 : decode cL_tryLink 14 = .ok (.ireturn, 1) := by decide +kernel
theorem dL_tryLink_15 : decode cL_tryLink 15 = .ok (.astore 5, 2) := by decide +kernel
theorem dL_tryLink_17 : decode cL_tryLink 17 = .ok (.ldc 18, 2) := by decide +kernel
theorem dL_tryLink_19 : decode cL_tryLink 19 = .ok (.ireturn, 1) := by decide +kernel
theorem dL_trySum_0 : decode cL_trySum 0 = .ok (.aload_n 0, 1) := by decide +kernel
theorem dL_trySum_1 : decode cL_trySum 1 = .ok (.iload_n 1, 1) := by decide +kernel
theorem dL_trySum_2 : decode cL_trySum 2 = .ok (.invokevirtual 19, 3) := by decide +kernel
theorem dL_trySum_5 : decode cL_trySum 5 = .ok (.lreturn, 1) := by decide +kernel
theorem dL_trySum_6 : decode cL_trySum 6 = .ok (.astore_n 2, 1) := by decide +kernel
theorem dL_trySum_7 : decode cL_trySum 7 = .ok (.ldc2_w 23, 3) := by decide +kernel
theorem dL_trySum_10 : decode cL_trySum 10 = .ok (.lreturn, 1) := by decide +kernel
theorem dL_tryRows_0 : decode cL_tryRows 0 = .ok (.aload_n 0, 1) := by decide +kernel
theorem dL_tryRows_1 : decode cL_tryRows 1 = .ok (.iload_n 1, 1) := by decide +kernel
theorem dL_tryRows_2 : decode cL_tryRows 2 = .ok (.iload_n 2, 1) := by decide +kernel
theorem dL_tryRows_3 : decode cL_tryRows 3 = .ok (.invokevirtual 25, 3) := by decide +kernel
theorem dL_tryRows_6 : decode cL_tryRows 6 = .ok (.lreturn, 1) := by decide +kernel
theorem dL_tryRows_7 : decode cL_tryRows 7 = .ok (.astore_n 3, 1) := by decide +kernel
theorem dL_tryRows_8 : decode cL_tryRows 8 = .ok (.ldc2_w 29, 3) := by decide +kernel
theorem dL_tryRows_11 : decode cL_tryRows 11 = .ok (.lreturn, 1) := by decide +kernel
theorem dL_tryRows_12 : decode cL_tryRows 12 = .ok (.astore_n 3, 1) := by decide +kernel
theorem dL_tryRows_13 : decode cL_tryRows 13 = .ok (.ldc2_w 23, 3) := by decide +kernel
theorem dL_tryRows_16 : decode cL_tryRows 16 = .ok (.lreturn, 1) := by decide +kernel
theorem dL_tryCost_0 : decode cL_tryCost 0 = .ok (.aload_n 0, 1) := by decide +kernel
theorem dL_tryCost_1 : decode cL_tryCost 1 = .ok (.iload_n 1, 1) := by decide +kernel
theorem dL_tryCost_2 : decode cL_tryCost 2 = .ok (.iload_n 2, 1) := by decide +kernel
theorem dL_tryCost_3 : decode cL_tryCost 3 = .ok (.invokevirtual 31, 3) := by decide +kernel
theorem dL_tryCost_6 : decode cL_tryCost 6 = .ok (.lreturn, 1) := by decide +kernel
theorem dL_tryCost_7 : decode cL_tryCost 7 = .ok (.astore_n 3, 1) := by decide +kernel
theorem dL_tryCost_8 : decode cL_tryCost 8 = .ok (.ldc2_w 29, 3) := by decide +kernel
theorem dL_tryCost_11 : decode cL_tryCost 11 = .ok (.lreturn, 1) := by decide +kernel
theorem dL_tryCost_12 : decode cL_tryCost 12 = .ok (.astore_n 3, 1) := by decide +kernel
theorem dL_tryCost_13 : decode cL_tryCost 13 = .ok (.ldc2_w 23, 3) := by decide +kernel
theorem dL_tryCost_16 : decode cL_tryCost 16 = .ok (.lreturn, 1) := by decide +kernel
theorem dL_tryText_0 : decode cL_tryText 0 = .ok (.aload_n 0, 1) := by decide +kernel
theorem dL_tryText_1 : decode cL_tryText 1 = .ok (.iload_n 1, 1) := by decide +kernel
theorem dL_tryText_2 : decode cL_tryText 2 = .ok (.invokevirtual 34, 3) := by decide +kernel
theorem dL_tryText_5 : decode cL_tryText 5 = .ok (.lreturn, 1) := by decide +kernel
theorem dL_tryText_6 : decode cL_tryText 6 = .ok (.astore_n 2, 1) := by decide +kernel
theorem dL_tryText_7 : decode cL_tryText 7 = .ok (.ldc2_w 23, 3) := by decide +kernel
theorem dL_tryText_10 : decode cL_tryText 10 = .ok (.lreturn, 1) := by decide +kernel
theorem dL_tryText_11 : decode cL_tryText 11 = .ok (.astore_n 2, 1) := by decide +kernel
theorem dL_tryText_12 : decode cL_tryText 12 = .ok (.ldc2_w 39, 3) := by decide +kernel
theorem dL_tryText_15 : decode cL_tryText 15 = .ok (.lreturn, 1) := by decide +kernel
theorem dL_tryScript_0 : decode cL_tryScript 0 = .ok (.aload_n 0, 1) := by decide +kernel
theorem dL_tryScript_1 : decode cL_tryScript 1 = .ok (.iload_n 1, 1) := by decide +kernel
theorem dL_tryScript_2 : decode cL_tryScript 2 = .ok (.lload_n 2, 1) := by decide +kernel
theorem dL_tryScript_3 : decode cL_tryScript 3 = .ok (.invokevirtual 41, 3) := by decide +kernel
theorem dL_tryScript_6 : decode cL_tryScript 6 = .ok (.ireturn, 1) := by decide +kernel
theorem dL_tryScript_7 : decode cL_tryScript 7 = .ok (.astore 4, 2) := by decide +kernel
theorem dL_tryScript_9 : decode cL_tryScript 9 = .ok (.ldc 18, 2) := by decide +kernel
theorem dL_tryScript_11 : decode cL_tryScript 11 = .ok (.ireturn, 1) := by decide +kernel
theorem dL_trySimulate_0 : decode cL_trySimulate 0 = .ok (.aload_n 0, 1) := by decide +kernel
theorem dL_trySimulate_1 : decode cL_trySimulate 1 = .ok (.lload_n 1, 1) := by decide +kernel
theorem dL_trySimulate_2 : decode cL_trySimulate 2 = .ok (.iload_n 3, 1) := by decide +kernel
theorem dL_trySimulate_3 : decode cL_trySimulate 3 = .ok (.invokevirtual 45, 3) := by decide +kernel
theorem dL_trySimulate_6 : decode cL_trySimulate 6 = .ok (.ireturn, 1) := by decide +kernel
theorem dL_trySimulate_7 : decode cL_trySimulate 7 = .ok (.astore 4, 2) := by decide +kernel
theorem dL_trySimulate_9 : decode cL_trySimulate 9 = .ok (.ldc 18, 2) := by decide +kernel
theorem dL_trySimulate_11 : decode cL_trySimulate 11 = .ok (.ireturn, 1) := by decide +kernel
theorem dL_tryAppend_0 : decode cL_tryAppend 0 = .ok (.aload_n 0, 1) := by decide +kernel
theorem dL_tryAppend_1 : decode cL_tryAppend 1 = .ok (.iload_n 1, 1) := by decide +kernel
theorem dL_tryAppend_2 : decode cL_tryAppend 2 = .ok (.invokevirtual 49, 3) := by decide +kernel
theorem dL_tryAppend_5 : decode cL_tryAppend 5 = .ok (.ireturn, 1) := by decide +kernel
theorem dL_tryAppend_6 : decode cL_tryAppend 6 = .ok (.astore_n 2, 1) := by decide +kernel
theorem dL_tryAppend_7 : decode cL_tryAppend 7 = .ok (.ldc 18, 2) := by decide +kernel
theorem dL_tryAppend_9 : decode cL_tryAppend 9 = .ok (.ireturn, 1) := by decide +kernel
theorem dL_tryAppend_10 : decode cL_tryAppend 10 = .ok (.astore_n 2, 1) := by decide +kernel
theorem dL_tryAppend_11 : decode cL_tryAppend 11 = .ok (.ldc 53, 2) := by decide +kernel
theorem dL_tryAppend_13 : decode cL_tryAppend 13 = .ok (.ireturn, 1) := by decide +kernel
theorem dL_tryLoad_0 : decode cL_tryLoad 0 = .ok (.aload_n 0, 1) := by decide +kernel
theorem dL_tryLoad_1 : decode cL_tryLoad 1 = .ok (.invokevirtual 54, 3) := by decide +kernel
theorem dL_tryLoad_4 : decode cL_tryLoad 4 = .ok (.ireturn, 1) := by decide +kernel
theorem dL_tryLoad_5 : decode cL_tryLoad 5 = .ok (.astore_n 1, 1) := by decide +kernel
theorem dL_tryLoad_6 : decode cL_tryLoad 6 = .ok (.ldc 53, 2) := by decide +kernel
theorem dL_tryLoad_8 : decode cL_tryLoad 8 = .ok (.ireturn, 1) := by decide +kernel
theorem dL_tryAbout_0 : decode cL_tryAbout 0 = .ok (.aload_n 0, 1) := by decide +kernel
theorem dL_tryAbout_1 : decode cL_tryAbout 1 = .ok (.iload_n 1, 1) := by decide +kernel
theorem dL_tryAbout_2 : decode cL_tryAbout 2 = .ok (.invokevirtual 58, 3) := by decide +kernel
theorem dL_tryAbout_5 : decode cL_tryAbout 5 = .ok (.ireturn, 1) := by decide +kernel
theorem dL_tryAbout_6 : decode cL_tryAbout 6 = .ok (.astore_n 2, 1) := by decide +kernel
theorem dL_tryAbout_7 : decode cL_tryAbout 7 = .ok (.ldc 18, 2) := by decide +kernel
theorem dL_tryAbout_9 : decode cL_tryAbout 9 = .ok (.ireturn, 1) := by decide +kernel
theorem dL_trySize_0 : decode cL_trySize 0 = .ok (.aload_n 0, 1) := by decide +kernel
theorem dL_trySize_1 : decode cL_trySize 1 = .ok (.iload_n 1, 1) := by decide +kernel
theorem dL_trySize_2 : decode cL_trySize 2 = .ok (.invokevirtual 61, 3) := by decide +kernel
theorem dL_trySize_5 : decode cL_trySize 5 = .ok (.ireturn, 1) := by decide +kernel
theorem dL_trySize_6 : decode cL_trySize 6 = .ok (.astore_n 2, 1) := by decide +kernel
theorem dL_trySize_7 : decode cL_trySize 7 = .ok (.ldc 15, 2) := by decide +kernel
theorem dL_trySize_9 : decode cL_trySize 9 = .ok (.ireturn, 1) := by decide +kernel
theorem dL_tryPair_0 : decode cL_tryPair 0 = .ok (.aload_n 0, 1) := by decide +kernel
theorem dL_tryPair_1 : decode cL_tryPair 1 = .ok (.iload_n 1, 1) := by decide +kernel
theorem dL_tryPair_2 : decode cL_tryPair 2 = .ok (.iload_n 2, 1) := by decide +kernel
theorem dL_tryPair_3 : decode cL_tryPair 3 = .ok (.iload_n 3, 1) := by decide +kernel
theorem dL_tryPair_4 : decode cL_tryPair 4 = .ok (.invokevirtual 64, 3) := by decide +kernel
theorem dL_tryPair_7 : decode cL_tryPair 7 = .ok (.ireturn, 1) := by decide +kernel
theorem dL_tryPair_8 : decode cL_tryPair 8 = .ok (.astore 4, 2) := by decide +kernel
theorem dL_tryPair_10 : decode cL_tryPair 10 = .ok (.ldc 15, 2) := by decide +kernel
theorem dL_tryPair_12 : decode cL_tryPair 12 = .ok (.ireturn, 1) := by decide +kernel
theorem dL_tryPair_13 : decode cL_tryPair 13 = .ok (.astore 4, 2) := by decide +kernel
theorem dL_tryPair_15 : decode cL_tryPair 15 = .ok (.ldc 18, 2) := by decide +kernel
theorem dL_tryPair_17 : decode cL_tryPair 17 = .ok (.ireturn, 1) := by decide +kernel
theorem dL_trySurprise_0 : decode cL_trySurprise 0 = .ok (.aload_n 0, 1) := by decide +kernel
theorem dL_trySurprise_1 : decode cL_trySurprise 1 = .ok (.iload_n 1, 1) := by decide +kernel
theorem dL_trySurprise_2 : decode cL_trySurprise 2 = .ok (.iload_n 2, 1) := by decide +kernel
theorem dL_trySurprise_3 : decode cL_trySurprise 3 = .ok (.invokevirtual 68, 3) := by decide +kernel
theorem dL_trySurprise_6 : decode cL_trySurprise 6 = .ok (.ireturn, 1) := by decide +kernel
theorem dL_trySurprise_7 : decode cL_trySurprise 7 = .ok (.astore_n 3, 1) := by decide +kernel
theorem dL_trySurprise_8 : decode cL_trySurprise 8 = .ok (.ldc 18, 2) := by decide +kernel
theorem dL_trySurprise_10 : decode cL_trySurprise 10 = .ok (.ireturn, 1) := by decide +kernel
theorem dL_trySetting_0 : decode cL_trySetting 0 = .ok (.aload_n 0, 1) := by decide +kernel
theorem dL_trySetting_1 : decode cL_trySetting 1 = .ok (.iload_n 1, 1) := by decide +kernel
theorem dL_trySetting_2 : decode cL_trySetting 2 = .ok (.invokevirtual 72, 3) := by decide +kernel
theorem dL_trySetting_5 : decode cL_trySetting 5 = .ok (.ireturn, 1) := by decide +kernel
theorem dL_trySetting_6 : decode cL_trySetting 6 = .ok (.astore_n 2, 1) := by decide +kernel
theorem dL_trySetting_7 : decode cL_trySetting 7 = .ok (.ldc 18, 2) := by decide +kernel
theorem dL_trySetting_9 : decode cL_trySetting 9 = .ok (.ireturn, 1) := by decide +kernel
theorem dL_tryAdd_0 : decode cL_tryAdd 0 = .ok (.aload_n 0, 1) := by decide +kernel
theorem dL_tryAdd_1 : decode cL_tryAdd 1 = .ok (.iload_n 1, 1) := by decide +kernel
theorem dL_tryAdd_2 : decode cL_tryAdd 2 = .ok (.invokevirtual 75, 3) := by decide +kernel
theorem dL_tryAdd_5 : decode cL_tryAdd 5 = .ok (.ireturn, 1) := by decide +kernel
theorem dL_tryAdd_6 : decode cL_tryAdd 6 = .ok (.astore_n 2, 1) := by decide +kernel
theorem dL_tryAdd_7 : decode cL_tryAdd 7 = .ok (.ldc 18, 2) := by decide +kernel
theorem dL_tryAdd_9 : decode cL_tryAdd 9 = .ok (.ireturn, 1) := by decide +kernel
theorem dL_tryAdd_10 : decode cL_tryAdd 10 = .ok (.astore_n 2, 1) := by decide +kernel
theorem dL_tryAdd_11 : decode cL_tryAdd 11 = .ok (.ldc 53, 2) := by decide +kernel
theorem dL_tryAdd_13 : decode cL_tryAdd 13 = .ok (.ireturn, 1) := by decide +kernel
theorem dL_tryResize_0 : decode cL_tryResize 0 = .ok (.aload_n 0, 1) := by decide +kernel
theorem dL_tryResize_1 : decode cL_tryResize 1 = .ok (.iload_n 1, 1) := by decide +kernel
theorem dL_tryResize_2 : decode cL_tryResize 2 = .ok (.iload_n 2, 1) := by decide +kernel
theorem dL_tryResize_3 : decode cL_tryResize 3 = .ok (.invokevirtual 78, 3) := by decide +kernel
theorem dL_tryResize_6 : decode cL_tryResize 6 = .ok (.ireturn, 1) := by decide +kernel
theorem dL_tryResize_7 : decode cL_tryResize 7 = .ok (.astore_n 3, 1) := by decide +kernel
theorem dL_tryResize_8 : decode cL_tryResize 8 = .ok (.ldc 15, 2) := by decide +kernel
theorem dL_tryResize_10 : decode cL_tryResize 10 = .ok (.ireturn, 1) := by decide +kernel
theorem dL_tryResize_11 : decode cL_tryResize 11 = .ok (.astore_n 3, 1) := by decide +kernel
theorem dL_tryResize_12 : decode cL_tryResize 12 = .ok (.ldc 18, 2) := by decide +kernel
theorem dL_tryResize_14 : decode cL_tryResize 14 = .ok (.ireturn, 1) := by decide +kernel
theorem dL_tryDrift_0 : decode cL_tryDrift 0 = .ok (.aload_n 0, 1) := by decide +kernel
theorem dL_tryDrift_1 : decode cL_tryDrift 1 = .ok (.iload_n 1, 1) := by decide +kernel
theorem dL_tryDrift_2 : decode cL_tryDrift 2 = .ok (.iload_n 2, 1) := by decide +kernel
theorem dL_tryDrift_3 : decode cL_tryDrift 3 = .ok (.iload_n 3, 1) := by decide +kernel
theorem dL_tryDrift_4 : decode cL_tryDrift 4 = .ok (.invokevirtual 81, 3) := by decide +kernel
theorem dL_tryDrift_7 : decode cL_tryDrift 7 = .ok (.ireturn, 1) := by decide +kernel
theorem dL_tryDrift_8 : decode cL_tryDrift 8 = .ok (.astore 4, 2) := by decide +kernel
theorem dL_tryDrift_10 : decode cL_tryDrift 10 = .ok (.ldc 15, 2) := by decide +kernel
theorem dL_tryDrift_12 : decode cL_tryDrift 12 = .ok (.ireturn, 1) := by decide +kernel
theorem dL_tryDrift_13 : decode cL_tryDrift 13 = .ok (.astore 4, 2) := by decide +kernel
theorem dL_tryDrift_15 : decode cL_tryDrift 15 = .ok (.ldc 18, 2) := by decide +kernel
theorem dL_tryDrift_17 : decode cL_tryDrift 17 = .ok (.ireturn, 1) := by decide +kernel
theorem dL_tryDrift_18 : decode cL_tryDrift 18 = .ok (.astore 4, 2) := by decide +kernel
theorem dL_tryDrift_20 : decode cL_tryDrift 20 = .ok (.ldc 53, 2) := by decide +kernel
theorem dL_tryDrift_22 : decode cL_tryDrift 22 = .ok (.ireturn, 1) := by decide +kernel
theorem dL_tryRun_0 : decode cL_tryRun 0 = .ok (.aload_n 0, 1) := by decide +kernel
theorem dL_tryRun_1 : decode cL_tryRun 1 = .ok (.iload_n 1, 1) := by decide +kernel
theorem dL_tryRun_2 : decode cL_tryRun 2 = .ok (.invokevirtual 84, 3) := by decide +kernel
theorem dL_tryRun_5 : decode cL_tryRun 5 = .ok (.ireturn, 1) := by decide +kernel
theorem dL_tryRun_6 : decode cL_tryRun 6 = .ok (.astore_n 2, 1) := by decide +kernel
theorem dL_tryRun_7 : decode cL_tryRun 7 = .ok (.ldc 15, 2) := by decide +kernel
theorem dL_tryRun_9 : decode cL_tryRun 9 = .ok (.ireturn, 1) := by decide +kernel
theorem dL_tryRun_10 : decode cL_tryRun 10 = .ok (.astore_n 2, 1) := by decide +kernel
theorem dL_tryRun_11 : decode cL_tryRun 11 = .ok (.ldc 18, 2) := by decide +kernel
theorem dL_tryRun_13 : decode cL_tryRun 13 = .ok (.ireturn, 1) := by decide +kernel
theorem dL_tryWeeks_0 : decode cL_tryWeeks 0 = .ok (.aload_n 0, 1) := by decide +kernel
theorem dL_tryWeeks_1 : decode cL_tryWeeks 1 = .ok (.iload_n 1, 1) := by decide +kernel
theorem dL_tryWeeks_2 : decode cL_tryWeeks 2 = .ok (.invokevirtual 87, 3) := by decide +kernel
theorem dL_tryWeeks_5 : decode cL_tryWeeks 5 = .ok (.ireturn, 1) := by decide +kernel
theorem dL_tryWeeks_6 : decode cL_tryWeeks 6 = .ok (.astore_n 2, 1) := by decide +kernel
theorem dL_tryWeeks_7 : decode cL_tryWeeks 7 = .ok (.ldc 18, 2) := by decide +kernel
theorem dL_tryWeeks_9 : decode cL_tryWeeks 9 = .ok (.ireturn, 1) := by decide +kernel
theorem dL_trySet_0 : decode cL_trySet 0 = .ok (.aload_n 0, 1) := by decide +kernel
theorem dL_trySet_1 : decode cL_trySet 1 = .ok (.iload_n 1, 1) := by decide +kernel
theorem dL_trySet_2 : decode cL_trySet 2 = .ok (.iload_n 2, 1) := by decide +kernel
theorem dL_trySet_3 : decode cL_trySet 3 = .ok (.invokevirtual 90, 3) := by decide +kernel
theorem dL_trySet_6 : decode cL_trySet 6 = .ok (.ireturn, 1) := by decide +kernel
theorem dL_trySet_7 : decode cL_trySet 7 = .ok (.astore_n 3, 1) := by decide +kernel
theorem dL_trySet_8 : decode cL_trySet 8 = .ok (.ldc 18, 2) := by decide +kernel
theorem dL_trySet_10 : decode cL_trySet 10 = .ok (.ireturn, 1) := by decide +kernel
theorem dL_tryUndo_0 : decode cL_tryUndo 0 = .ok (.aload_n 0, 1) := by decide +kernel
theorem dL_tryUndo_1 : decode cL_tryUndo 1 = .ok (.invokevirtual 93, 3) := by decide +kernel
theorem dL_tryUndo_4 : decode cL_tryUndo 4 = .ok (.ireturn, 1) := by decide +kernel
theorem dL_tryUndo_5 : decode cL_tryUndo 5 = .ok (.astore_n 1, 1) := by decide +kernel
theorem dL_tryUndo_6 : decode cL_tryUndo 6 = .ok (.ldc 53, 2) := by decide +kernel
theorem dL_tryUndo_8 : decode cL_tryUndo 8 = .ok (.ireturn, 1) := by decide +kernel
theorem dL_tryOrder_0 : decode cL_tryOrder 0 = .ok (.aload_n 0, 1) := by decide +kernel
theorem dL_tryOrder_1 : decode cL_tryOrder 1 = .ok (.iload_n 1, 1) := by decide +kernel
theorem dL_tryOrder_2 : decode cL_tryOrder 2 = .ok (.iload_n 2, 1) := by decide +kernel
theorem dL_tryOrder_3 : decode cL_tryOrder 3 = .ok (.iload_n 3, 1) := by decide +kernel
theorem dL_tryOrder_4 : decode cL_tryOrder 4 = .ok (.invokevirtual 96, 3) := by decide +kernel
theorem dL_tryOrder_7 : decode cL_tryOrder 7 = .ok (.ireturn, 1) := by decide +kernel
theorem dL_tryOrder_8 : decode cL_tryOrder 8 = .ok (.astore 4, 2) := by decide +kernel
theorem dL_tryOrder_10 : decode cL_tryOrder 10 = .ok (.ldc 15, 2) := by decide +kernel
theorem dL_tryOrder_12 : decode cL_tryOrder 12 = .ok (.ireturn, 1) := by decide +kernel
theorem dL_tryOrder_13 : decode cL_tryOrder 13 = .ok (.astore 4, 2) := by decide +kernel
theorem dL_tryOrder_15 : decode cL_tryOrder 15 = .ok (.ldc 18, 2) := by decide +kernel
theorem dL_tryOrder_17 : decode cL_tryOrder 17 = .ok (.ireturn, 1) := by decide +kernel
theorem dL_tryWay_0 : decode cL_tryWay 0 = .ok (.aload_n 0, 1) := by decide +kernel
theorem dL_tryWay_1 : decode cL_tryWay 1 = .ok (.iload_n 1, 1) := by decide +kernel
theorem dL_tryWay_2 : decode cL_tryWay 2 = .ok (.iload_n 2, 1) := by decide +kernel
theorem dL_tryWay_3 : decode cL_tryWay 3 = .ok (.invokevirtual 99, 3) := by decide +kernel
theorem dL_tryWay_6 : decode cL_tryWay 6 = .ok (.ireturn, 1) := by decide +kernel
theorem dL_tryWay_7 : decode cL_tryWay 7 = .ok (.astore_n 3, 1) := by decide +kernel
theorem dL_tryWay_8 : decode cL_tryWay 8 = .ok (.ldc 15, 2) := by decide +kernel
theorem dL_tryWay_10 : decode cL_tryWay 10 = .ok (.ireturn, 1) := by decide +kernel
theorem dL_tryWay_11 : decode cL_tryWay 11 = .ok (.astore_n 3, 1) := by decide +kernel
theorem dL_tryWay_12 : decode cL_tryWay 12 = .ok (.ldc 18, 2) := by decide +kernel
theorem dL_tryWay_14 : decode cL_tryWay 14 = .ok (.ireturn, 1) := by decide +kernel
theorem dL_tryMatters_0 : decode cL_tryMatters 0 = .ok (.aload_n 0, 1) := by decide +kernel
theorem dL_tryMatters_1 : decode cL_tryMatters 1 = .ok (.iload_n 1, 1) := by decide +kernel
theorem dL_tryMatters_2 : decode cL_tryMatters 2 = .ok (.iload_n 2, 1) := by decide +kernel
theorem dL_tryMatters_3 : decode cL_tryMatters 3 = .ok (.iload_n 3, 1) := by decide +kernel
theorem dL_tryMatters_4 : decode cL_tryMatters 4 = .ok (.invokevirtual 102, 3) := by decide +kernel
theorem dL_tryMatters_7 : decode cL_tryMatters 7 = .ok (.ireturn, 1) := by decide +kernel
theorem dL_tryMatters_8 : decode cL_tryMatters 8 = .ok (.astore 4, 2) := by decide +kernel
theorem dL_tryMatters_10 : decode cL_tryMatters 10 = .ok (.ldc 15, 2) := by decide +kernel
theorem dL_tryMatters_12 : decode cL_tryMatters 12 = .ok (.ireturn, 1) := by decide +kernel
theorem dL_tryMatters_13 : decode cL_tryMatters 13 = .ok (.astore 4, 2) := by decide +kernel
theorem dL_tryMatters_15 : decode cL_tryMatters 15 = .ok (.ldc 18, 2) := by decide +kernel
theorem dL_tryMatters_17 : decode cL_tryMatters 17 = .ok (.ireturn, 1) := by decide +kernel
theorem dL_tryLearns_0 : decode cL_tryLearns 0 = .ok (.aload_n 0, 1) := by decide +kernel
theorem dL_tryLearns_1 : decode cL_tryLearns 1 = .ok (.iload_n 1, 1) := by decide +kernel
theorem dL_tryLearns_2 : decode cL_tryLearns 2 = .ok (.invokevirtual 105, 3) := by decide +kernel
theorem dL_tryLearns_5 : decode cL_tryLearns 5 = .ok (.ireturn, 1) := by decide +kernel
theorem dL_tryLearns_6 : decode cL_tryLearns 6 = .ok (.astore_n 2, 1) := by decide +kernel
theorem dL_tryLearns_7 : decode cL_tryLearns 7 = .ok (.ldc 15, 2) := by decide +kernel
theorem dL_tryLearns_9 : decode cL_tryLearns 9 = .ok (.ireturn, 1) := by decide +kernel
theorem dL_tryLearns_10 : decode cL_tryLearns 10 = .ok (.astore_n 2, 1) := by decide +kernel
theorem dL_tryLearns_11 : decode cL_tryLearns 11 = .ok (.ldc 18, 2) := by decide +kernel
theorem dL_tryLearns_13 : decode cL_tryLearns 13 = .ok (.ireturn, 1) := by decide +kernel
theorem dL_tryKeep_0 : decode cL_tryKeep 0 = .ok (.aload_n 0, 1) := by decide +kernel
theorem dL_tryKeep_1 : decode cL_tryKeep 1 = .ok (.iload_n 1, 1) := by decide +kernel
theorem dL_tryKeep_2 : decode cL_tryKeep 2 = .ok (.invokevirtual 108, 3) := by decide +kernel
theorem dL_tryKeep_5 : decode cL_tryKeep 5 = .ok (.ireturn, 1) := by decide +kernel
theorem dL_tryKeep_6 : decode cL_tryKeep 6 = .ok (.astore_n 2, 1) := by decide +kernel
theorem dL_tryKeep_7 : decode cL_tryKeep 7 = .ok (.ldc 15, 2) := by decide +kernel
theorem dL_tryKeep_9 : decode cL_tryKeep 9 = .ok (.ireturn, 1) := by decide +kernel
theorem dL_tryBack_0 : decode cL_tryBack 0 = .ok (.aload_n 0, 1) := by decide +kernel
theorem dL_tryBack_1 : decode cL_tryBack 1 = .ok (.iload_n 1, 1) := by decide +kernel
theorem dL_tryBack_2 : decode cL_tryBack 2 = .ok (.invokevirtual 111, 3) := by decide +kernel
theorem dL_tryBack_5 : decode cL_tryBack 5 = .ok (.ireturn, 1) := by decide +kernel
theorem dL_tryBack_6 : decode cL_tryBack 6 = .ok (.astore_n 2, 1) := by decide +kernel
theorem dL_tryBack_7 : decode cL_tryBack 7 = .ok (.ldc 15, 2) := by decide +kernel
theorem dL_tryBack_9 : decode cL_tryBack 9 = .ok (.ireturn, 1) := by decide +kernel
theorem dL_tryBack_10 : decode cL_tryBack 10 = .ok (.astore_n 2, 1) := by decide +kernel
theorem dL_tryBack_11 : decode cL_tryBack 11 = .ok (.ldc 53, 2) := by decide +kernel
theorem dL_tryBack_13 : decode cL_tryBack 13 = .ok (.ireturn, 1) := by decide +kernel
theorem dL_call_0 : decode cL_call 0 = .ok (.iload_n 1, 1) := by decide +kernel
theorem dL_call_1 : decode cL_call 1 = .ok (.tableswitch 219 0 18 #[91, 97, 102, 108, 114, 123, 130, 136, 142, 149, 158, 164, 170, 177, 182, 191, 198, 207, 213], 91) := by decide +kernel
theorem dL_call_92 : decode cL_call 92 = .ok (.aload_n 0, 1) := by decide +kernel
theorem dL_call_93 : decode cL_call 93 = .ok (.iload_n 2, 1) := by decide +kernel
theorem dL_call_94 : decode cL_call 94 = .ok (.invokestatic 114, 3) := by decide +kernel
theorem dL_call_97 : decode cL_call 97 = .ok (.ireturn, 1) := by decide +kernel
theorem dL_call_98 : decode cL_call 98 = .ok (.aload_n 0, 1) := by decide +kernel
theorem dL_call_99 : decode cL_call 99 = .ok (.invokestatic 120, 3) := by decide +kernel
theorem dL_call_102 : decode cL_call 102 = .ok (.ireturn, 1) := by decide +kernel
theorem dL_call_103 : decode cL_call 103 = .ok (.aload_n 0, 1) := by decide +kernel
theorem dL_call_104 : decode cL_call 104 = .ok (.iload_n 2, 1) := by decide +kernel
theorem dL_call_105 : decode cL_call 105 = .ok (.invokestatic 124, 3) := by decide +kernel
theorem dL_call_108 : decode cL_call 108 = .ok (.ireturn, 1) := by decide +kernel
theorem dL_call_109 : decode cL_call 109 = .ok (.aload_n 0, 1) := by decide +kernel
theorem dL_call_110 : decode cL_call 110 = .ok (.iload_n 2, 1) := by decide +kernel
theorem dL_call_111 : decode cL_call 111 = .ok (.invokestatic 127, 3) := by decide +kernel
theorem dL_call_114 : decode cL_call 114 = .ok (.ireturn, 1) := by decide +kernel
theorem dL_call_115 : decode cL_call 115 = .ok (.aload_n 0, 1) := by decide +kernel
theorem dL_call_116 : decode cL_call 116 = .ok (.iload_n 2, 1) := by decide +kernel
theorem dL_call_117 : decode cL_call 117 = .ok (.iload_n 3, 1) := by decide +kernel
theorem dL_call_118 : decode cL_call 118 = .ok (.iload 4, 2) := by decide +kernel
theorem dL_call_120 : decode cL_call 120 = .ok (.invokestatic 130, 3) := by decide +kernel
theorem dL_call_123 : decode cL_call 123 = .ok (.ireturn, 1) := by decide +kernel
theorem dL_call_124 : decode cL_call 124 = .ok (.aload_n 0, 1) := by decide +kernel
theorem dL_call_125 : decode cL_call 125 = .ok (.iload_n 2, 1) := by decide +kernel
theorem dL_call_126 : decode cL_call 126 = .ok (.iload_n 3, 1) := by decide +kernel
theorem dL_call_127 : decode cL_call 127 = .ok (.invokestatic 134, 3) := by decide +kernel
theorem dL_call_130 : decode cL_call 130 = .ok (.ireturn, 1) := by decide +kernel
theorem dL_call_131 : decode cL_call 131 = .ok (.aload_n 0, 1) := by decide +kernel
theorem dL_call_132 : decode cL_call 132 = .ok (.iload_n 2, 1) := by decide +kernel
theorem dL_call_133 : decode cL_call 133 = .ok (.invokestatic 138, 3) := by decide +kernel
theorem dL_call_136 : decode cL_call 136 = .ok (.ireturn, 1) := by decide +kernel
theorem dL_call_137 : decode cL_call 137 = .ok (.aload_n 0, 1) := by decide +kernel
theorem dL_call_138 : decode cL_call 138 = .ok (.iload_n 2, 1) := by decide +kernel
theorem dL_call_139 : decode cL_call 139 = .ok (.invokestatic 141, 3) := by decide +kernel
theorem dL_call_142 : decode cL_call 142 = .ok (.ireturn, 1) := by decide +kernel
theorem dL_call_143 : decode cL_call 143 = .ok (.aload_n 0, 1) := by decide +kernel
theorem dL_call_144 : decode cL_call 144 = .ok (.iload_n 2, 1) := by decide +kernel
theorem dL_call_145 : decode cL_call 145 = .ok (.iload_n 3, 1) := by decide +kernel
theorem dL_call_146 : decode cL_call 146 = .ok (.invokestatic 144, 3) := by decide +kernel
theorem dL_call_149 : decode cL_call 149 = .ok (.ireturn, 1) := by decide +kernel
theorem dL_call_150 : decode cL_call 150 = .ok (.aload_n 0, 1) := by decide +kernel
theorem dL_call_151 : decode cL_call 151 = .ok (.iload_n 2, 1) := by decide +kernel
theorem dL_call_152 : decode cL_call 152 = .ok (.iload_n 3, 1) := by decide +kernel
theorem dL_call_153 : decode cL_call 153 = .ok (.iload 4, 2) := by decide +kernel
theorem dL_call_155 : decode cL_call 155 = .ok (.invokestatic 147, 3) := by decide +kernel
theorem dL_call_158 : decode cL_call 158 = .ok (.ireturn, 1) := by decide +kernel
theorem dL_call_159 : decode cL_call 159 = .ok (.aload_n 0, 1) := by decide +kernel
theorem dL_call_160 : decode cL_call 160 = .ok (.iload_n 2, 1) := by decide +kernel
theorem dL_call_161 : decode cL_call 161 = .ok (.invokestatic 150, 3) := by decide +kernel
theorem dL_call_164 : decode cL_call 164 = .ok (.ireturn, 1) := by decide +kernel
theorem dL_call_165 : decode cL_call 165 = .ok (.aload_n 0, 1) := by decide +kernel
theorem dL_call_166 : decode cL_call 166 = .ok (.iload_n 2, 1) := by decide +kernel
theorem dL_call_167 : decode cL_call 167 = .ok (.invokestatic 153, 3) := by decide +kernel
theorem dL_call_170 : decode cL_call 170 = .ok (.ireturn, 1) := by decide +kernel
theorem dL_call_171 : decode cL_call 171 = .ok (.aload_n 0, 1) := by decide +kernel
theorem dL_call_172 : decode cL_call 172 = .ok (.iload_n 2, 1) := by decide +kernel
theorem dL_call_173 : decode cL_call 173 = .ok (.iload_n 3, 1) := by decide +kernel
theorem dL_call_174 : decode cL_call 174 = .ok (.invokestatic 156, 3) := by decide +kernel
theorem dL_call_177 : decode cL_call 177 = .ok (.ireturn, 1) := by decide +kernel
theorem dL_call_178 : decode cL_call 178 = .ok (.aload_n 0, 1) := by decide +kernel
theorem dL_call_179 : decode cL_call 179 = .ok (.invokestatic 159, 3) := by decide +kernel
theorem dL_call_182 : decode cL_call 182 = .ok (.ireturn, 1) := by decide +kernel
theorem dL_call_183 : decode cL_call 183 = .ok (.aload_n 0, 1) := by decide +kernel
theorem dL_call_184 : decode cL_call 184 = .ok (.iload_n 2, 1) := by decide +kernel
theorem dL_call_185 : decode cL_call 185 = .ok (.iload_n 3, 1) := by decide +kernel
theorem dL_call_186 : decode cL_call 186 = .ok (.iload 4, 2) := by decide +kernel
theorem dL_call_188 : decode cL_call 188 = .ok (.invokestatic 162, 3) := by decide +kernel
theorem dL_call_191 : decode cL_call 191 = .ok (.ireturn, 1) := by decide +kernel
theorem dL_call_192 : decode cL_call 192 = .ok (.aload_n 0, 1) := by decide +kernel
theorem dL_call_193 : decode cL_call 193 = .ok (.iload_n 2, 1) := by decide +kernel
theorem dL_call_194 : decode cL_call 194 = .ok (.iload_n 3, 1) := by decide +kernel
theorem dL_call_195 : decode cL_call 195 = .ok (.invokestatic 165, 3) := by decide +kernel
theorem dL_call_198 : decode cL_call 198 = .ok (.ireturn, 1) := by decide +kernel
theorem dL_call_199 : decode cL_call 199 = .ok (.aload_n 0, 1) := by decide +kernel
theorem dL_call_200 : decode cL_call 200 = .ok (.iload_n 2, 1) := by decide +kernel
theorem dL_call_201 : decode cL_call 201 = .ok (.iload_n 3, 1) := by decide +kernel
theorem dL_call_202 : decode cL_call 202 = .ok (.iload 4, 2) := by decide +kernel
theorem dL_call_204 : decode cL_call 204 = .ok (.invokestatic 168, 3) := by decide +kernel
theorem dL_call_207 : decode cL_call 207 = .ok (.ireturn, 1) := by decide +kernel
theorem dL_call_208 : decode cL_call 208 = .ok (.aload_n 0, 1) := by decide +kernel
theorem dL_call_209 : decode cL_call 209 = .ok (.iload_n 2, 1) := by decide +kernel
theorem dL_call_210 : decode cL_call 210 = .ok (.invokestatic 171, 3) := by decide +kernel
theorem dL_call_213 : decode cL_call 213 = .ok (.ireturn, 1) := by decide +kernel
theorem dL_call_214 : decode cL_call 214 = .ok (.aload_n 0, 1) := by decide +kernel
theorem dL_call_215 : decode cL_call 215 = .ok (.iload_n 2, 1) := by decide +kernel
theorem dL_call_216 : decode cL_call 216 = .ok (.invokestatic 174, 3) := by decide +kernel
theorem dL_call_219 : decode cL_call 219 = .ok (.ireturn, 1) := by decide +kernel
theorem dL_call_220 : decode cL_call 220 = .ok (.aload_n 0, 1) := by decide +kernel
theorem dL_call_221 : decode cL_call 221 = .ok (.iload_n 2, 1) := by decide +kernel
theorem dL_call_222 : decode cL_call 222 = .ok (.invokestatic 177, 3) := by decide +kernel
theorem dL_call_225 : decode cL_call 225 = .ok (.ireturn, 1) := by decide +kernel
theorem dL_cell_0 : decode cL_cell 0 = .ok (.iload_n 1, 1) := by decide +kernel
theorem dL_cell_1 : decode cL_cell 1 = .ok (.aload_n 0, 1) := by decide +kernel
theorem dL_cell_2 : decode cL_cell 2 = .ok (.arraylength, 1) := by decide +kernel
theorem dL_cell_3 : decode cL_cell 3 = .ok (.if_icmp .ge 9, 3) := by decide +kernel
theorem dL_cell_6 : decode cL_cell 6 = .ok (.aload_n 0, 1) := by decide +kernel
theorem dL_cell_7 : decode cL_cell 7 = .ok (.iload_n 1, 1) := by decide +kernel
theorem dL_cell_8 : decode cL_cell 8 = .ok (.iaload, 1) := by decide +kernel
theorem dL_cell_9 : decode cL_cell 9 = .ok (.goto 13, 3) := by decide +kernel
theorem dL_cell_12 : decode cL_cell 12 = .ok (.ldc 180, 2) := by decide +kernel
theorem dL_cell_14 : decode cL_cell 14 = .ok (.iload_n 1, 1) := by decide +kernel
theorem dL_cell_15 : decode cL_cell 15 = .ok (.iconst 3, 1) := by decide +kernel
theorem dL_cell_16 : decode cL_cell 16 = .ok (.iadd, 1) := by decide +kernel
theorem dL_cell_17 : decode cL_cell 17 = .ok (.imul, 1) := by decide +kernel
theorem dL_cell_18 : decode cL_cell 18 = .ok (.sipush 10627, 3) := by decide +kernel
theorem dL_cell_21 : decode cL_cell 21 = .ok (.iadd, 1) := by decide +kernel
theorem dL_cell_22 : decode cL_cell 22 = .ok (.ldc 181, 2) := by decide +kernel
theorem dL_cell_24 : decode cL_cell 24 = .ok (.iand, 1) := by decide +kernel
theorem dL_cell_25 : decode cL_cell 25 = .ok (.ireturn, 1) := by decide +kernel
theorem dL_refuses_0 : decode cL_refuses 0 = .ok (.aload_n 0, 1) := by decide +kernel
theorem dL_refuses_1 : decode cL_refuses 1 = .ok (.iconst 2, 1) := by decide +kernel
theorem dL_refuses_2 : decode cL_refuses 2 = .ok (.iconst 0, 1) := by decide +kernel
theorem dL_refuses_3 : decode cL_refuses 3 = .ok (.iconst 0, 1) := by decide +kernel
theorem dL_refuses_4 : decode cL_refuses 4 = .ok (.iconst 0, 1) := by decide +kernel
theorem dL_refuses_5 : decode cL_refuses 5 = .ok (.invokestatic 182, 3) := by decide +kernel
theorem dL_refuses_8 : decode cL_refuses 8 = .ok (.istore_n 2, 1) := by decide +kernel
theorem dL_refuses_9 : decode cL_refuses 9 = .ok (.iconst 1, 1) := by decide +kernel
theorem dL_refuses_10 : decode cL_refuses 10 = .ok (.iload_n 2, 1) := by decide +kernel
theorem dL_refuses_11 : decode cL_refuses 11 = .ok (.ishl, 1) := by decide +kernel
theorem dL_refuses_12 : decode cL_refuses 12 = .ok (.istore_n 3, 1) := by decide +kernel
theorem dL_refuses_13 : decode cL_refuses 13 = .ok (.aload_n 0, 1) := by decide +kernel
theorem dL_refuses_14 : decode cL_refuses 14 = .ok (.iconst 2, 1) := by decide +kernel
theorem dL_refuses_15 : decode cL_refuses 15 = .ok (.bipush 6, 2) := by decide +kernel
theorem dL_refuses_17 : decode cL_refuses 17 = .ok (.iload_n 1, 1) := by decide +kernel
theorem dL_refuses_18 : decode cL_refuses 18 = .ok (.bipush 9, 2) := by decide +kernel
theorem dL_refuses_20 : decode cL_refuses 20 = .ok (.irem, 1) := by decide +kernel
theorem dL_refuses_21 : decode cL_refuses 21 = .ok (.iadd, 1) := by decide +kernel
theorem dL_refuses_22 : decode cL_refuses 22 = .ok (.iconst 0, 1) := by decide +kernel
theorem dL_refuses_23 : decode cL_refuses 23 = .ok (.iconst 0, 1) := by decide +kernel
theorem dL_refuses_24 : decode cL_refuses 24 = .ok (.invokestatic 182, 3) := by decide +kernel
theorem dL_refuses_27 : decode cL_refuses 27 = .ok (.ldc 18, 2) := by decide +kernel
theorem dL_refuses_29 : decode cL_refuses 29 = .ok (.if_icmp .ne 143, 3) := by decide +kernel
theorem dL_refuses_32 : decode cL_refuses 32 = .ok (.aload_n 0, 1) := by decide +kernel
theorem dL_refuses_33 : decode cL_refuses 33 = .ok (.iconst 4, 1) := by decide +kernel
theorem dL_refuses_34 : decode cL_refuses 34 = .ok (.iload_n 1, 1) := by decide +kernel
theorem dL_refuses_35 : decode cL_refuses 35 = .ok (.bipush 9, 2) := by decide +kernel
theorem dL_refuses_37 : decode cL_refuses 37 = .ok (.irem, 1) := by decide +kernel
theorem dL_refuses_38 : decode cL_refuses 38 = .ok (.iadd, 1) := by decide +kernel
theorem dL_refuses_39 : decode cL_refuses 39 = .ok (.invokestatic 186, 3) := by decide +kernel
theorem dL_refuses_42 : decode cL_refuses 42 = .ok (.ldc2_w 23, 3) := by decide +kernel
theorem dL_refuses_45 : decode cL_refuses 45 = .ok (.lcmp, 1) := by decide +kernel
theorem dL_refuses_46 : decode cL_refuses 46 = .ok (.ifCond .ne 126, 3) := by decide +kernel
theorem dL_refuses_49 : decode cL_refuses 49 = .ok (.aload_n 0, 1) := by decide +kernel
theorem dL_refuses_50 : decode cL_refuses 50 = .ok (.iconst 3, 1) := by decide +kernel
theorem dL_refuses_51 : decode cL_refuses 51 = .ok (.iload_n 2, 1) := by decide +kernel
