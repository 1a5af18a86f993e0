theorem dX9_init_0 : decode cX9_init 0 = .ok (.aload_n 0, 1) := by decide +kernel
theorem dX9_init_1 : decode cX9_init 1 = .ok (.invokespecial 1, 3) := by decide +kernel
theorem dX9_init_4 : decode cX9_init 4 = .ok (.aload_n 0, 1) := by decide +kernel
theorem dX9_init_5 : decode cX9_init 5 = .ok (.bipush 100, 2) := by decide +kernel
theorem dX9_init_7 : decode cX9_init 7 = .ok (.newarray .int, 2) := by decide +kernel
theorem dX9_init_9 : decode cX9_init 9 = .ok (.putfield 7, 3) := by decide +kernel
theorem dX9_init_12 : decode cX9_init 12 = .ok (.aload_n 0, 1) := by decide +kernel
theorem dX9_init_13 : decode cX9_init 13 = .ok (.sipush 353, 3) := by decide +kernel
theorem dX9_init_16 : decode cX9_init 16 = .ok (.newarray .long, 2) := by decide +kernel
theorem dX9_init_18 : decode cX9_init 18 = .ok (.putfield 13, 3) := by decide +kernel
theorem dX9_init_21 : decode cX9_init 21 = .ok (.aload_n 0, 1) := by decide +kernel
theorem dX9_init_22 : decode cX9_init 22 = .ok (.sipush 353, 3) := by decide +kernel
theorem dX9_init_25 : decode cX9_init 25 = .ok (.newarray .long, 2) := by decide +kernel
theorem dX9_init_27 : decode cX9_init 27 = .ok (.putfield 17, 3) := by decide +kernel
theorem dX9_init_30 : decode cX9_init 30 = .ok (.aload_n 0, 1) := by decide +kernel
theorem dX9_init_31 : decode cX9_init 31 = .ok (.sipush 4942, 3) := by decide +kernel
theorem dX9_init_34 : decode cX9_init 34 = .ok (.newarray .long, 2) := by decide +kernel
theorem dX9_init_36 : decode cX9_init 36 = .ok (.putfield 20, 3) := by decide +kernel
theorem dX9_init_39 : decode cX9_init 39 = .ok (.aload_n 0, 1) := by decide +kernel
theorem dX9_init_40 : decode cX9_init 40 = .ok (.sipush 706, 3) := by decide +kernel
theorem dX9_init_43 : decode cX9_init 43 = .ok (.newarray .long, 2) := by decide +kernel
theorem dX9_init_45 : decode cX9_init 45 = .ok (.putfield 23, 3) := by decide +kernel
theorem dX9_init_48 : decode cX9_init 48 = .ok (.aload_n 0, 1) := by decide +kernel
theorem dX9_init_49 : decode cX9_init 49 = .ok (.iconst 2, 1) := by decide +kernel
theorem dX9_init_50 : decode cX9_init 50 = .ok (.newarray .boolean, 2) := by decide +kernel
theorem dX9_init_52 : decode cX9_init 52 = .ok (.putfield 26, 3) := by decide +kernel
theorem dX9_init_55 : decode cX9_init 55 = .ok (.aload_n 0, 1) := by decide +kernel
theorem dX9_init_56 : decode cX9_init 56 = .ok (.sipush 128, 3) := by decide +kernel
theorem dX9_init_59 : decode cX9_init 59 = .ok (.newarray .long, 2) := by decide +kernel
theorem dX9_init_61 : decode cX9_init 61 = .ok (.putfield 30, 3) := by decide +kernel
theorem dX9_init_64 : decode cX9_init 64 = .ok (.aload_n 0, 1) := by decide +kernel
theorem dX9_init_65 : decode cX9_init 65 = .ok (.sipush 128, 3) := by decide +kernel
theorem dX9_init_68 : decode cX9_init 68 = .ok (.newarray .long, 2) := by decide +kernel
theorem dX9_init_70 : decode cX9_init 70 = .ok (.putfield 33, 3) := by decide +kernel
theorem dX9_init_73 : decode cX9_init 73 = .ok (.aload_n 0, 1) := by decide +kernel
theorem dX9_init_74 : decode cX9_init 74 = .ok (.sipush 128, 3) := by decide +kernel
theorem dX9_init_77 : decode cX9_init 77 = .ok (.newarray .long, 2) := by decide +kernel
theorem dX9_init_79 : decode cX9_init 79 = .ok (.putfield 36, 3) := by decide +kernel
theorem dX9_init_82 : decode cX9_init 82 = .ok (.aload_n 0, 1) := by decide +kernel
theorem dX9_init_83 : decode cX9_init 83 = .ok (.bipush 7, 2) := by decide +kernel
theorem dX9_init_85 : decode cX9_init 85 = .ok (.newarray .int, 2) := by decide +kernel
theorem dX9_init_87 : decode cX9_init 87 = .ok (.putfield 39, 3) := by decide +kernel
theorem dX9_init_90 : decode cX9_init 90 = .ok (.aload_n 0, 1) := by decide +kernel
theorem dX9_init_91 : decode cX9_init 91 = .ok (.bipush 7, 2) := by decide +kernel
theorem dX9_init_93 : decode cX9_init 93 = .ok (.newarray .int, 2) := by decide +kernel
theorem dX9_init_95 : decode cX9_init 95 = .ok (.putfield 42, 3) := by decide +kernel
theorem dX9_init_98 : decode cX9_init 98 = .ok (.aload_n 0, 1) := by decide +kernel
theorem dX9_init_99 : decode cX9_init 99 = .ok (.getfield 13, 3) := by decide +kernel
theorem dX9_init_102 : decode cX9_init 102 = .ok (.invokestatic 45, 3) := by decide +kernel
theorem dX9_init_105 : decode cX9_init 105 = .ok (.return_, 1) := by decide +kernel
theorem dX9_begin_0 : decode cX9_begin 0 = .ok (.iconst 0, 1) := by decide +kernel
theorem dX9_begin_1 : decode cX9_begin 1 = .ok (.istore_n 1, 1) := by decide +kernel
theorem dX9_begin_2 : decode cX9_begin 2 = .ok (.iload_n 1, 1) := by decide +kernel
theorem dX9_begin_3 : decode cX9_begin 3 = .ok (.sipush 353, 3) := by decide +kernel
theorem dX9_begin_6 : decode cX9_begin 6 = .ok (.if_icmp .ge 13, 3) := by decide +kernel
theorem dX9_begin_9 : decode cX9_begin 9 = .ok (.aload_n 0, 1) := by decide +kernel
theorem dX9_begin_10 : decode cX9_begin 10 = .ok (.iload_n 1, 1) := by decide +kernel
theorem dX9_begin_11 : decode cX9_begin 11 = .ok (.lconst 0, 1) := by decide +kernel
theorem dX9_begin_12 : decode cX9_begin 12 = .ok (.lastore, 1) := by decide +kernel
theorem dX9_begin_13 : decode cX9_begin 13 = .ok (.iinc 1 1, 3) := by decide +kernel
theorem dX9_begin_16 : decode cX9_begin 16 = .ok (.goto (-14), 3) := by decide +kernel
theorem dX9_begin_19 : decode cX9_begin 19 = .ok (.aload_n 0, 1) := by decide +kernel
theorem dX9_begin_20 : decode cX9_begin 20 = .ok (.sipush 302, 3) := by decide +kernel
theorem dX9_begin_23 : decode cX9_begin 23 = .ok (.ldc2_w 49, 3) := by decide +kernel
theorem dX9_begin_26 : decode cX9_begin 26 = .ok (.lastore, 1) := by decide +kernel
theorem dX9_begin_27 : decode cX9_begin 27 = .ok (.aload_n 0, 1) := by decide +kernel
theorem dX9_begin_28 : decode cX9_begin 28 = .ok (.sipush 303, 3) := by decide +kernel
theorem dX9_begin_31 : decode cX9_begin 31 = .ok (.ldc2_w 51, 3) := by decide +kernel
theorem dX9_begin_34 : decode cX9_begin 34 = .ok (.lastore, 1) := by decide +kernel
theorem dX9_begin_35 : decode cX9_begin 35 = .ok (.aload_n 0, 1) := by decide +kernel
theorem dX9_begin_36 : decode cX9_begin 36 = .ok (.sipush 304, 3) := by decide +kernel
theorem dX9_begin_39 : decode cX9_begin 39 = .ok (.ldc2_w 53, 3) := by decide +kernel
theorem dX9_begin_42 : decode cX9_begin 42 = .ok (.lastore, 1) := by decide +kernel
theorem dX9_begin_43 : decode cX9_begin 43 = .ok (.return_, 1) := by decide +kernel
theorem dX9_thrown_0 : decode cX9_thrown 0 = .ok (.aload_n 0, 1) := by decide +kernel
theorem dX9_thrown_1 : decode cX9_thrown 1 = .ok (.getfield 55, 3) := by decide +kernel
theorem dX9_thrown_4 : decode cX9_thrown 4 = .ok (.ireturn, 1) := by decide +kernel
theorem dX9_refused_0 : decode cX9_refused 0 = .ok (.aload_n 0, 1) := by decide +kernel
theorem dX9_refused_1 : decode cX9_refused 1 = .ok (.iload_n 1, 1) := by decide +kernel
theorem dX9_refused_2 : decode cX9_refused 2 = .ok (.putfield 55, 3) := by decide +kernel
theorem dX9_refused_5 : decode cX9_refused 5 = .ok (.iload_n 1, 1) := by decide +kernel
theorem dX9_refused_6 : decode cX9_refused 6 = .ok (.ifCond .le 7, 3) := by decide +kernel
theorem dX9_refused_9 : decode cX9_refused 9 = .ok (.iconst 1, 1) := by decide +kernel
theorem dX9_refused_10 : decode cX9_refused 10 = .ok (.goto 4, 3) := by decide +kernel
theorem dX9_refused_13 : decode cX9_refused 13 = .ok (.iconst 0, 1) := by decide +kernel
theorem dX9_refused_14 : decode cX9_refused 14 = .ok (.ireturn, 1) := by decide +kernel
theorem dX9_in_0 : decode cX9_in 0 = .ok (.lload_n 0, 1) := by decide +kernel
theorem dX9_in_1 : decode cX9_in 1 = .ok (.lload_n 2, 1) := by decide +kernel
theorem dX9_in_2 : decode cX9_in 2 = .ok (.lcmp, 1) := by decide +kernel
theorem dX9_in_3 : decode cX9_in 3 = .ok (.ifCond .lt 14, 3) := by decide +kernel
theorem dX9_in_6 : decode cX9_in 6 = .ok (.lload_n 0, 1) := by decide +kernel
theorem dX9_in_7 : decode cX9_in 7 = .ok (.lload 4, 2) := by decide +kernel
theorem dX9_in_9 : decode cX9_in 9 = .ok (.lcmp, 1) := by decide +kernel
theorem dX9_in_10 : decode cX9_in 10 = .ok (.ifCond .gt 7, 3) := by decide +kernel
theorem dX9_in_13 : decode cX9_in 13 = .ok (.iconst 1, 1) := by decide +kernel
theorem dX9_in_14 : decode cX9_in 14 = .ok (.goto 4, 3) := by decide +kernel
theorem dX9_in_17 : decode cX9_in 17 = .ok (.iconst 0, 1) := by decide +kernel
theorem dX9_in_18 : decode cX9_in 18 = .ok (.ireturn, 1) := by decide +kernel
theorem dX9_less_0 : decode cX9_less 0 = .ok (.lload_n 0, 1) := by decide +kernel
theorem dX9_less_1 : decode cX9_less 1 = .ok (.lload_n 2, 1) := by decide +kernel
theorem dX9_less_2 : decode cX9_less 2 = .ok (.lcmp, 1) := by decide +kernel
theorem dX9_less_3 : decode cX9_less 3 = .ok (.ifCond .ge 7, 3) := by decide +kernel
theorem dX9_less_6 : decode cX9_less 6 = .ok (.lload_n 0, 1) := by decide +kernel
theorem dX9_less_7 : decode cX9_less 7 = .ok (.goto 4, 3) := by decide +kernel
theorem dX9_less_10 : decode cX9_less 10 = .ok (.lload_n 2, 1) := by decide +kernel
theorem dX9_less_11 : decode cX9_less 11 = .ok (.lreturn, 1) := by decide +kernel
theorem dX9_copyWorld_0 : decode cX9_copyWorld 0 = .ok (.iconst 0, 1) := by decide +kernel
theorem dX9_copyWorld_1 : decode cX9_copyWorld 1 = .ok (.istore 4, 2) := by decide +kernel
theorem dX9_copyWorld_3 : decode cX9_copyWorld 3 = .ok (.iload 4, 2) := by decide +kernel
theorem dX9_copyWorld_5 : decode cX9_copyWorld 5 = .ok (.sipush 353, 3) := by decide +kernel
theorem dX9_copyWorld_8 : decode cX9_copyWorld 8 = .ok (.if_icmp .ge 21, 3) := by decide +kernel
theorem dX9_copyWorld_11 : decode cX9_copyWorld 11 = .ok (.aload_n 2, 1) := by decide +kernel
theorem dX9_copyWorld_12 : decode cX9_copyWorld 12 = .ok (.iload_n 3, 1) := by decide +kernel
theorem dX9_copyWorld_13 : decode cX9_copyWorld 13 = .ok (.iload 4, 2) := by decide +kernel
theorem dX9_copyWorld_15 : decode cX9_copyWorld 15 = .ok (.iadd, 1) := by decide +kernel
theorem dX9_copyWorld_16 : decode cX9_copyWorld 16 = .ok (.aload_n 0, 1) := by decide +kernel
theorem dX9_copyWorld_17 : decode cX9_copyWorld 17 = .ok (.iload_n 1, 1) := by decide +kernel
theorem dX9_copyWorld_18 : decode cX9_copyWorld 18 = .ok (.iload 4, 2) := by decide +kernel
theorem dX9_copyWorld_20 : decode cX9_copyWorld 20 = .ok (.iadd, 1) := by decide +kernel
theorem dX9_copyWorld_21 : decode cX9_copyWorld 21 = .ok (.laload, 1) := by decide +kernel
theorem dX9_copyWorld_22 : decode cX9_copyWorld 22 = .ok (.lastore, 1) := by decide +kernel
theorem dX9_copyWorld_23 : decode cX9_copyWorld 23 = .ok (.iinc 4 1, 3) := by decide +kernel
theorem dX9_copyWorld_26 : decode cX9_copyWorld 26 = .ok (.goto (-23), 3) := by decide +kernel
theorem dX9_copyWorld_29 : decode cX9_copyWorld 29 = .ok (.return_, 1) := by decide +kernel
theorem dX9_isTable_0 : decode cX9_isTable 0 = .ok (.iload_n 1, 1) := by decide +kernel
theorem dX9_isTable_1 : decode cX9_isTable 1 = .ok (.i2l, 1) := by decide +kernel
theorem dX9_isTable_2 : decode cX9_isTable 2 = .ok (.lconst 0, 1) := by decide +kernel
theorem dX9_isTable_3 : decode cX9_isTable 3 = .ok (.aload_n 0, 1) := by decide +kernel
theorem dX9_isTable_4 : decode cX9_isTable 4 = .ok (.iconst 0, 1) := by decide +kernel
theorem dX9_isTable_5 : decode cX9_isTable 5 = .ok (.laload, 1) := by decide +kernel
theorem dX9_isTable_6 : decode cX9_isTable 6 = .ok (.lconst 1, 1) := by decide +kernel
theorem dX9_isTable_7 : decode cX9_isTable 7 = .ok (.lsub, 1) := by decide +kernel
theorem dX9_isTable_8 : decode cX9_isTable 8 = .ok (.invokestatic 59, 3) := by decide +kernel
theorem dX9_isTable_11 : decode cX9_isTable 11 = .ok (.ireturn, 1) := by decide +kernel
theorem dX9_isSet_0 : decode cX9_isSet 0 = .ok (.iload_n 1, 1) := by decide +kernel
theorem dX9_isSet_1 : decode cX9_isSet 1 = .ok (.i2l, 1) := by decide +kernel
theorem dX9_isSet_2 : decode cX9_isSet 2 = .ok (.lconst 0, 1) := by decide +kernel
theorem dX9_isSet_3 : decode cX9_isSet 3 = .ok (.iconst 1, 1) := by decide +kernel
theorem dX9_isSet_4 : decode cX9_isSet 4 = .ok (.aload_n 0, 1) := by decide +kernel
theorem dX9_isSet_5 : decode cX9_isSet 5 = .ok (.iconst 0, 1) := by decide +kernel
theorem dX9_isSet_6 : decode cX9_isSet 6 = .ok (.laload, 1) := by decide +kernel
theorem dX9_isSet_7 : decode cX9_isSet 7 = .ok (.l2i, 1) := by decide +kernel
theorem dX9_isSet_8 : decode cX9_isSet 8 = .ok (.ishl, 1) := by decide +kernel
theorem dX9_isSet_9 : decode cX9_isSet 9 = .ok (.iconst 1, 1) := by decide +kernel
theorem dX9_isSet_10 : decode cX9_isSet 10 = .ok (.isub, 1) := by decide +kernel
theorem dX9_isSet_11 : decode cX9_isSet 11 = .ok (.i2l, 1) := by decide +kernel
theorem dX9_isSet_12 : decode cX9_isSet 12 = .ok (.invokestatic 59, 3) := by decide +kernel
theorem dX9_isSet_15 : decode cX9_isSet 15 = .ok (.ireturn, 1) := by decide +kernel
theorem dX9_pairOf_0 : decode cX9_pairOf 0 = .ok (.iload_n 0, 1) := by decide +kernel
theorem dX9_pairOf_1 : decode cX9_pairOf 1 = .ok (.iload_n 1, 1) := by decide +kernel
theorem dX9_pairOf_2 : decode cX9_pairOf 2 = .ok (.if_icmp .ge 12, 3) := by decide +kernel
theorem dX9_pairOf_5 : decode cX9_pairOf 5 = .ok (.bipush 7, 2) := by decide +kernel
theorem dX9_pairOf_7 : decode cX9_pairOf 7 = .ok (.iload_n 0, 1) := by decide +kernel
theorem dX9_pairOf_8 : decode cX9_pairOf 8 = .ok (.imul, 1) := by decide +kernel
theorem dX9_pairOf_9 : decode cX9_pairOf 9 = .ok (.iload_n 1, 1) := by decide +kernel
theorem dX9_pairOf_10 : decode cX9_pairOf 10 = .ok (.iadd, 1) := by decide +kernel
theorem dX9_pairOf_11 : decode cX9_pairOf 11 = .ok (.goto 9, 3) := by decide +kernel
theorem dX9_pairOf_14 : decode cX9_pairOf 14 = .ok (.bipush 7, 2) := by decide +kernel
theorem dX9_pairOf_16 : decode cX9_pairOf 16 = .ok (.iload_n 1, 1) := by decide +kernel
theorem dX9_pairOf_17 : decode cX9_pairOf 17 = .ok (.imul, 1) := by decide +kernel
theorem dX9_pairOf_18 : decode cX9_pairOf 18 = .ok (.iload_n 0, 1) := by decide +kernel
theorem dX9_pairOf_19 : decode cX9_pairOf 19 = .ok (.iadd, 1) := by decide +kernel
theorem dX9_pairOf_20 : decode cX9_pairOf 20 = .ok (.ireturn, 1) := by decide +kernel
theorem dX9_believed_0 : decode cX9_believed 0 = .ok (.aload_n 0, 1) := by decide +kernel
theorem dX9_believed_1 : decode cX9_believed 1 = .ok (.sipush 155, 3) := by decide +kernel
theorem dX9_believed_4 : decode cX9_believed 4 = .ok (.iload_n 1, 1) := by decide +kernel
theorem dX9_believed_5 : decode cX9_believed 5 = .ok (.iadd, 1) := by decide +kernel
theorem dX9_believed_6 : decode cX9_believed 6 = .ok (.laload, 1) := by decide +kernel
theorem dX9_believed_7 : decode cX9_believed 7 = .ok (.lconst 0, 1) := by decide +kernel
theorem dX9_believed_8 : decode cX9_believed 8 = .ok (.lcmp, 1) := by decide +kernel
theorem dX9_believed_9 : decode cX9_believed 9 = .ok (.ifCond .le 13, 3) := by decide +kernel
theorem dX9_believed_12 : decode cX9_believed 12 = .ok (.aload_n 0, 1) := by decide +kernel
theorem dX9_believed_13 : decode cX9_believed 13 = .ok (.sipush 155, 3) := by decide +kernel
theorem dX9_believed_16 : decode cX9_believed 16 = .ok (.iload_n 1, 1) := by decide +kernel
theorem dX9_believed_17 : decode cX9_believed 17 = .ok (.iadd, 1) := by decide +kernel
theorem dX9_believed_18 : decode cX9_believed 18 = .ok (.laload, 1) := by decide +kernel
theorem dX9_believed_19 : decode cX9_believed 19 = .ok (.goto 9, 3) := by decide +kernel
theorem dX9_believed_22 : decode cX9_believed 22 = .ok (.aload_n 0, 1) := by decide +kernel
theorem dX9_believed_23 : decode cX9_believed 23 = .ok (.bipush 57, 2) := by decide +kernel
theorem dX9_believed_25 : decode cX9_believed 25 = .ok (.iload_n 1, 1) := by decide +kernel
theorem dX9_believed_26 : decode cX9_believed 26 = .ok (.iadd, 1) := by decide +kernel
theorem dX9_believed_27 : decode cX9_believed 27 = .ok (.laload, 1) := by decide +kernel
theorem dX9_believed_28 : decode cX9_believed 28 = .ok (.lreturn, 1) := by decide +kernel
theorem dX9_shareOf_0 : decode cX9_shareOf 0 = .ok (.iload_n 2, 1) := by decide +kernel
theorem dX9_shareOf_1 : decode cX9_shareOf 1 = .ok (.ifCond .ne 12, 3) := by decide +kernel
theorem dX9_shareOf_4 : decode cX9_shareOf 4 = .ok (.aload_n 0, 1) := by decide +kernel
theorem dX9_shareOf_5 : decode cX9_shareOf 5 = .ok (.bipush 57, 2) := by decide +kernel
theorem dX9_shareOf_7 : decode cX9_shareOf 7 = .ok (.iload_n 1, 1) := by decide +kernel
theorem dX9_shareOf_8 : decode cX9_shareOf 8 = .ok (.iadd, 1) := by decide +kernel
theorem dX9_shareOf_9 : decode cX9_shareOf 9 = .ok (.laload, 1) := by decide +kernel
theorem dX9_shareOf_10 : decode cX9_shareOf 10 = .ok (.goto 22, 3) := by decide +kernel
theorem dX9_shareOf_13 : decode cX9_shareOf 13 = .ok (.iload_n 2, 1) := by decide +kernel
theorem dX9_shareOf_14 : decode cX9_shareOf 14 = .ok (.iconst 1, 1) := by decide +kernel
theorem dX9_shareOf_15 : decode cX9_shareOf 15 = .ok (.if_icmp .ne 11, 3) := by decide +kernel
theorem dX9_shareOf_18 : decode cX9_shareOf 18 = .ok (.aload_n 0, 1) := by decide +kernel
theorem dX9_shareOf_19 : decode cX9_shareOf 19 = .ok (.iload_n 1, 1) := by decide +kernel
theorem dX9_shareOf_20 : decode cX9_shareOf 20 = .ok (.invokestatic 63, 3) := by decide +kernel
theorem dX9_shareOf_23 : decode cX9_shareOf 23 = .ok (.goto 9, 3) := by decide +kernel
theorem dX9_shareOf_26 : decode cX9_shareOf 26 = .ok (.aload_n 0, 1) := by decide +kernel
theorem dX9_shareOf_27 : decode cX9_shareOf 27 = .ok (.bipush 106, 2) := by decide +kernel
theorem dX9_shareOf_29 : decode cX9_shareOf 29 = .ok (.iload_n 1, 1) := by decide +kernel
theorem dX9_shareOf_30 : decode cX9_shareOf 30 = .ok (.iadd, 1) := by decide +kernel
theorem dX9_shareOf_31 : decode cX9_shareOf 31 = .ok (.laload, 1) := by decide +kernel
theorem dX9_shareOf_32 : decode cX9_shareOf 32 = .ok (.lreturn, 1) := by decide +kernel
theorem dX9_count_0 : decode cX9_count 0 = .ok (.lconst 0, 1) := by decide +kernel
theorem dX9_count_1 : decode cX9_count 1 = .ok (.lstore_n 2, 1) := by decide +kernel
theorem dX9_count_2 : decode cX9_count 2 = .ok (.iconst 0, 1) := by decide +kernel
theorem dX9_count_3 : decode cX9_count 3 = .ok (.istore 4, 2) := by decide +kernel
theorem dX9_count_5 : decode cX9_count 5 = .ok (.iload 4, 2) := by decide +kernel
theorem dX9_count_7 : decode cX9_count 7 = .ok (.bipush 49, 2) := by decide +kernel
theorem dX9_count_9 : decode cX9_count 9 = .ok (.if_icmp .ge 28, 3) := by decide +kernel
theorem dX9_count_12 : decode cX9_count 12 = .ok (.lload_n 2, 1) := by decide +kernel
theorem dX9_count_13 : decode cX9_count 13 = .ok (.aload_n 0, 1) := by decide +kernel
theorem dX9_count_14 : decode cX9_count 14 = .ok (.iload_n 1, 1) := by decide +kernel
theorem dX9_count_15 : decode cX9_count 15 = .ok (.iload 4, 2) := by decide +kernel
theorem dX9_count_17 : decode cX9_count 17 = .ok (.iadd, 1) := by decide +kernel
theorem dX9_count_18 : decode cX9_count 18 = .ok (.laload, 1) := by decide +kernel
theorem dX9_count_19 : decode cX9_count 19 = .ok (.lconst 0, 1) := by decide +kernel
theorem dX9_count_20 : decode cX9_count 20 = .ok (.lcmp, 1) := by decide +kernel
theorem dX9_count_21 : decode cX9_count 21 = .ok (.ifCond .le 7, 3) := by decide +kernel
theorem dX9_count_24 : decode cX9_count 24 = .ok (.lconst 1, 1) := by decide +kernel
theorem dX9_count_25 : decode cX9_count 25 = .ok (.goto 4, 3) := by decide +kernel
theorem dX9_count_28 : decode cX9_count 28 = .ok (.lconst 0, 1) := by decide +kernel
theorem dX9_count_29 : decode cX9_count 29 = .ok (.ladd, 1) := by decide +kernel
theorem dX9_count_30 : decode cX9_count 30 = .ok (.lstore_n 2, 1) := by decide +kernel
theorem dX9_count_31 : decode cX9_count 31 = .ok (.iinc 4 1, 3) := by decide +kernel
theorem dX9_count_34 : decode cX9_count 34 = .ok (.goto (-29), 3) := by decide +kernel
theorem dX9_count_37 : decode cX9_count 37 = .ok (.lload_n 2, 1) := by decide +kernel
theorem dX9_count_38 : decode cX9_count 38 = .ok (.lreturn, 1) := by decide +kernel
theorem dX9_rowsOn_0 : decode cX9_rowsOn 0 = .ok (.lconst 1, 1) := by decide +kernel
theorem dX9_rowsOn_1 : decode cX9_rowsOn 1 = .ok (.lstore_n 3, 1) := by decide +kernel
theorem dX9_rowsOn_2 : decode cX9_rowsOn 2 = .ok (.iconst 0, 1) := by decide +kernel
theorem dX9_rowsOn_3 : decode cX9_rowsOn 3 = .ok (.istore 5, 2) := by decide +kernel
theorem dX9_rowsOn_5 : decode cX9_rowsOn 5 = .ok (.iload 5, 2) := by decide +kernel
theorem dX9_rowsOn_7 : decode cX9_rowsOn 7 = .ok (.i2l, 1) := by decide +kernel
theorem dX9_rowsOn_8 : decode cX9_rowsOn 8 = .ok (.aload_n 0, 1) := by decide +kernel
theorem dX9_rowsOn_9 : decode cX9_rowsOn 9 = .ok (.iconst 0, 1) := by decide +kernel
theorem dX9_rowsOn_10 : decode cX9_rowsOn 10 = .ok (.laload, 1) := by decide +kernel
theorem dX9_rowsOn_11 : decode cX9_rowsOn 11 = .ok (.lcmp, 1) := by decide +kernel
theorem dX9_rowsOn_12 : decode cX9_rowsOn 12 = .ok (.ifCond .ge 107, 3) := by decide +kernel
theorem dX9_rowsOn_15 : decode cX9_rowsOn 15 = .ok (.iload_n 1, 1) := by decide +kernel
theorem dX9_rowsOn_16 : decode cX9_rowsOn 16 = .ok (.iload 5, 2) := by decide +kernel
theorem dX9_rowsOn_18 : decode cX9_rowsOn 18 = .ok (.ishr, 1) := by decide +kernel
theorem dX9_rowsOn_19 : decode cX9_rowsOn 19 = .ok (.iconst 1, 1) := by decide +kernel
theorem dX9_rowsOn_20 : decode cX9_rowsOn 20 = .ok (.iand, 1) := by decide +kernel
theorem dX9_rowsOn_21 : decode cX9_rowsOn 21 = .ok (.iconst 1, 1) := by decide +kernel
theorem dX9_rowsOn_22 : decode cX9_rowsOn 22 = .ok (.if_icmp .ne 91, 3) := by decide +kernel
theorem dX9_rowsOn_25 : decode cX9_rowsOn 25 = .ok (.ldc2_w 67, 3) := by decide +kernel
theorem dX9_rowsOn_28 : decode cX9_rowsOn 28 = .ok (.lload_n 3, 1) := by decide +kernel
theorem dX9_rowsOn_29 : decode cX9_rowsOn 29 = .ok (.aload_n 0, 1) := by decide +kernel
theorem dX9_rowsOn_30 : decode cX9_rowsOn 30 = .ok (.iconst 1, 1) := by decide +kernel
theorem dX9_rowsOn_31 : decode cX9_rowsOn 31 = .ok (.iload 5, 2) := by decide +kernel
theorem dX9_rowsOn_33 : decode cX9_rowsOn 33 = .ok (.iadd, 1) := by decide +kernel
theorem dX9_rowsOn_34 : decode cX9_rowsOn 34 = .ok (.laload, 1) := by decide +kernel
theorem dX9_rowsOn_35 : decode cX9_rowsOn 35 = .ok (.lmul, 1) := by decide +kernel
theorem dX9_rowsOn_36 : decode cX9_rowsOn 36 = .ok (.invokestatic 69, 3) := by decide +kernel
theorem dX9_rowsOn_39 : decode cX9_rowsOn 39 = .ok (.lstore_n 3, 1) := by decide +kernel
theorem dX9_rowsOn_40 : decode cX9_rowsOn 40 = .ok (.iconst 0, 1) := by decide +kernel
theorem dX9_rowsOn_41 : decode cX9_rowsOn 41 = .ok (.istore 6, 2) := by decide +kernel
theorem dX9_rowsOn_43 : decode cX9_rowsOn 43 = .ok (.iload 6, 2) := by decide +kernel
theorem dX9_rowsOn_45 : decode cX9_rowsOn 45 = .ok (.iload 5, 2) := by decide +kernel
theorem dX9_rowsOn_47 : decode cX9_rowsOn 47 = .ok (.if_icmp .ge 66, 3) := by decide +kernel
theorem dX9_rowsOn_50 : decode cX9_rowsOn 50 = .ok (.iload 6, 2) := by decide +kernel
theorem dX9_rowsOn_52 : decode cX9_rowsOn 52 = .ok (.iload 5, 2) := by decide +kernel
theorem dX9_rowsOn_54 : decode cX9_rowsOn 54 = .ok (.invokestatic 73, 3) := by decide +kernel
theorem dX9_rowsOn_57 : decode cX9_rowsOn 57 = .ok (.istore 7, 2) := by decide +kernel
theorem dX9_rowsOn_59 : decode cX9_rowsOn 59 = .ok (.iload_n 1, 1) := by decide +kernel
theorem dX9_rowsOn_60 : decode cX9_rowsOn 60 = .ok (.iload 6, 2) := by decide +kernel
theorem dX9_rowsOn_62 : decode cX9_rowsOn 62 = .ok (.ishr, 1) := by decide +kernel
theorem dX9_rowsOn_63 : decode cX9_rowsOn 63 = .ok (.iconst 1, 1) := by decide +kernel
theorem dX9_rowsOn_64 : decode cX9_rowsOn 64 = .ok (.iand, 1) := by decide +kernel
theorem dX9_rowsOn_65 : decode cX9_rowsOn 65 = .ok (.iconst 1, 1) := by decide +kernel
theorem dX9_rowsOn_66 : decode cX9_rowsOn 66 = .ok (.if_icmp .ne 41, 3) := by decide +kernel
theorem dX9_rowsOn_69 : decode cX9_rowsOn 69 = .ok (.aload_n 0, 1) := by decide +kernel
theorem dX9_rowsOn_70 : decode cX9_rowsOn 70 = .ok (.bipush 8, 2) := by decide +kernel
theorem dX9_rowsOn_72 : decode cX9_rowsOn 72 = .ok (.iload 7, 2) := by decide +kernel
theorem dX9_rowsOn_74 : decode cX9_rowsOn 74 = .ok (.iadd, 1) := by decide +kernel
theorem dX9_rowsOn_75 : decode cX9_rowsOn 75 = .ok (.laload, 1) := by decide +kernel
theorem dX9_rowsOn_76 : decode cX9_rowsOn 76 = .ok (.lconst 0, 1) := by decide +kernel
theorem dX9_rowsOn_77 : decode cX9_rowsOn 77 = .ok (.lcmp, 1) := by decide +kernel
theorem dX9_rowsOn_78 : decode cX9_rowsOn 78 = .ok (.ifCond .le 29, 3) := by decide +kernel
theorem dX9_rowsOn_81 : decode cX9_rowsOn 81 = .ok (.lload_n 3, 1) := by decide +kernel
theorem dX9_rowsOn_82 : decode cX9_rowsOn 82 = .ok (.aload_n 0, 1) := by decide +kernel
theorem dX9_rowsOn_83 : decode cX9_rowsOn 83 = .ok (.iload 7, 2) := by decide +kernel
theorem dX9_rowsOn_85 : decode cX9_rowsOn 85 = .ok (.iload_n 2, 1) := by decide +kernel
theorem dX9_rowsOn_86 : decode cX9_rowsOn 86 = .ok (.invokestatic 77, 3) := by decide +kernel
theorem dX9_rowsOn_89 : decode cX9_rowsOn 89 = .ok (.lmul, 1) := by decide +kernel
theorem dX9_rowsOn_90 : decode cX9_rowsOn 90 = .ok (.ldc2_w 81, 3) := by decide +kernel
theorem dX9_rowsOn_93 : decode cX9_rowsOn 93 = .ok (.ldiv, 1) := by decide +kernel
theorem dX9_rowsOn_94 : decode cX9_rowsOn 94 = .ok (.lstore_n 3, 1) := by decide +kernel
theorem dX9_rowsOn_95 : decode cX9_rowsOn 95 = .ok (.lload_n 3, 1) := by decide +kernel
theorem dX9_rowsOn_96 : decode cX9_rowsOn 96 = .ok (.lconst 1, 1) := by decide +kernel
theorem dX9_rowsOn_97 : decode cX9_rowsOn 97 = .ok (.lcmp, 1) := by decide +kernel
theorem dX9_rowsOn_98 : decode cX9_rowsOn 98 = .ok (.ifCond .ge 7, 3) := by decide +kernel
theorem dX9_rowsOn_101 : decode cX9_rowsOn 101 = .ok (.lconst 1, 1) := by decide +kernel
theorem dX9_rowsOn_102 : decode cX9_rowsOn 102 = .ok (.goto 4, 3) := by decide +kernel
theorem dX9_rowsOn_105 : decode cX9_rowsOn 105 = .ok (.lload_n 3, 1) := by decide +kernel
theorem dX9_rowsOn_106 : decode cX9_rowsOn 106 = .ok (.lstore_n 3, 1) := by decide +kernel
theorem dX9_rowsOn_107 : decode cX9_rowsOn 107 = .ok (.iinc 6 1, 3) := by decide +kernel
theorem dX9_rowsOn_110 : decode cX9_rowsOn 110 = .ok (.goto (-67), 3) := by decide +kernel
theorem dX9_rowsOn_113 : decode cX9_rowsOn 113 = .ok (.iinc 5 1, 3) := by decide +kernel
theorem dX9_rowsOn_116 : decode cX9_rowsOn 116 = .ok (.goto (-111), 3) := by decide +kernel
theorem dX9_rowsOn_119 : decode cX9_rowsOn 119 = .ok (.lload_n 3, 1) := by decide +kernel
theorem dX9_rowsOn_120 : decode cX9_rowsOn 120 = .ok (.lreturn, 1) := by decide +kernel
theorem dX9_layRows_0 : decode cX9_layRows 0 = .ok (.iconst 0, 1) := by decide +kernel
theorem dX9_layRows_1 : decode cX9_layRows 1 = .ok (.istore 4, 2) := by decide +kernel
theorem dX9_layRows_3 : decode cX9_layRows 3 = .ok (.iload 4, 2) := by decide +kernel
theorem dX9_layRows_5 : decode cX9_layRows 5 = .ok (.iconst 1, 1) := by decide +kernel
theorem dX9_layRows_6 : decode cX9_layRows 6 = .ok (.aload_n 1, 1) := by decide +kernel
theorem dX9_layRows_7 : decode cX9_layRows 7 = .ok (.iconst 0, 1) := by decide +kernel
theorem dX9_layRows_8 : decode cX9_layRows 8 = .ok (.laload, 1) := by decide +kernel
theorem dX9_layRows_9 : decode cX9_layRows 9 = .ok (.l2i, 1) := by decide +kernel
theorem dX9_layRows_10 : decode cX9_layRows 10 = .ok (.ishl, 1) := by decide +kernel
theorem dX9_layRows_11 : decode cX9_layRows 11 = .ok (.if_icmp .ge 20, 3) := by decide +kernel
theorem dX9_layRows_14 : decode cX9_layRows 14 = .ok (.aload_n 2, 1) := by decide +kernel
theorem dX9_layRows_15 : decode cX9_layRows 15 = .ok (.iload 4, 2) := by decide +kernel
theorem dX9_layRows_17 : decode cX9_layRows 17 = .ok (.aload_n 1, 1) := by decide +kernel
theorem dX9_layRows_18 : decode cX9_layRows 18 = .ok (.iload 4, 2) := by decide +kernel
theorem dX9_layRows_20 : decode cX9_layRows 20 = .ok (.iload_n 3, 1) := by decide +kernel
theorem dX9_layRows_21 : decode cX9_layRows 21 = .ok (.invokestatic 83, 3) := by decide +kernel
theorem dX9_layRows_24 : decode cX9_layRows 24 = .ok (.lastore, 1) := by decide +kernel
theorem dX9_layRows_25 : decode cX9_layRows 25 = .ok (.iinc 4 1, 3) := by decide +kernel
theorem dX9_layRows_28 : decode cX9_layRows 28 = .ok (.goto (-25), 3) := by decide +kernel
theorem dX9_layRows_31 : decode cX9_layRows 31 = .ok (.return_, 1) := by decide +kernel
theorem dX9_isByList_0 : decode cX9_isByList 0 = .ok (.ldc2_w 86, 3) := by decide +kernel
theorem dX9_isByList_3 : decode cX9_isByList 3 = .ok (.aload_n 1, 1) := by decide +kernel
theorem dX9_isByList_4 : decode cX9_isByList 4 = .ok (.iload_n 2, 1) := by decide +kernel
theorem dX9_isByList_5 : decode cX9_isByList 5 = .ok (.laload, 1) := by decide +kernel
theorem dX9_isByList_6 : decode cX9_isByList 6 = .ok (.aload_n 0, 1) := by decide +kernel
theorem dX9_isByList_7 : decode cX9_isByList 7 = .ok (.iconst 1, 1) := by decide +kernel
theorem dX9_isByList_8 : decode cX9_isByList 8 = .ok (.iload_n 3, 1) := by decide +kernel
theorem dX9_isByList_9 : decode cX9_isByList 9 = .ok (.iadd, 1) := by decide +kernel
theorem dX9_isByList_10 : decode cX9_isByList 10 = .ok (.laload, 1) := by decide +kernel
theorem dX9_isByList_11 : decode cX9_isByList 11 = .ok (.ladd, 1) := by decide +kernel
theorem dX9_isByList_12 : decode cX9_isByList 12 = .ok (.lmul, 1) := by decide +kernel
theorem dX9_isByList_13 : decode cX9_isByList 13 = .ok (.aload_n 1, 1) := by decide +kernel
theorem dX9_isByList_14 : decode cX9_isByList 14 = .ok (.iload_n 2, 1) := by decide +kernel
theorem dX9_isByList_15 : decode cX9_isByList 15 = .ok (.laload, 1) := by decide +kernel
theorem dX9_isByList_16 : decode cX9_isByList 16 = .ok (.aload_n 0, 1) := by decide +kernel
theorem dX9_isByList_17 : decode cX9_isByList 17 = .ok (.iconst 1, 1) := by decide +kernel
theorem dX9_isByList_18 : decode cX9_isByList 18 = .ok (.iload_n 3, 1) := by decide +kernel
theorem dX9_isByList_19 : decode cX9_isByList 19 = .ok (.iadd, 1) := by decide +kernel
theorem dX9_isByList_20 : decode cX9_isByList 20 = .ok (.laload, 1) := by decide +kernel
theorem dX9_isByList_21 : decode cX9_isByList 21 = .ok (.lmul, 1) := by decide +kernel
theorem dX9_isByList_22 : decode cX9_isByList 22 = .ok (.lcmp, 1) := by decide +kernel
theorem dX9_isByList_23 : decode cX9_isByList 23 = .ok (.ifCond .ge 7, 3) := by decide +kernel
theorem dX9_isByList_26 : decode cX9_isByList 26 = .ok (.iconst 1, 1) := by decide +kernel
theorem dX9_isByList_27 : decode cX9_isByList 27 = .ok (.goto 4, 3) := by decide +kernel
theorem dX9_isByList_30 : decode cX9_isByList 30 = .ok (.iconst 0, 1) := by decide +kernel
theorem dX9_isByList_31 : decode cX9_isByList 31 = .ok (.ireturn, 1) := by decide +kernel
theorem dX9_stepCost_0 : decode cX9_stepCost 0 = .ok (.iload_n 3, 1) := by decide +kernel
theorem dX9_stepCost_1 : decode cX9_stepCost 1 = .ok (.ifCond .ne 5, 3) := by decide +kernel
theorem dX9_stepCost_4 : decode cX9_stepCost 4 = .ok (.lconst 0, 1) := by decide +kernel
theorem dX9_stepCost_5 : decode cX9_stepCost 5 = .ok (.lreturn, 1) := by decide +kernel
theorem dX9_stepCost_6 : decode cX9_stepCost 6 = .ok (.aload_n 0, 1) := by decide +kernel
theorem dX9_stepCost_7 : decode cX9_stepCost 7 = .ok (.aload_n 1, 1) := by decide +kernel
theorem dX9_stepCost_8 : decode cX9_stepCost 8 = .ok (.iload_n 3, 1) := by decide +kernel
theorem dX9_stepCost_9 : decode cX9_stepCost 9 = .ok (.iload 4, 2) := by decide +kernel
theorem dX9_stepCost_11 : decode cX9_stepCost 11 = .ok (.invokestatic 88, 3) := by decide +kernel
theorem dX9_stepCost_14 : decode cX9_stepCost 14 = .ok (.ifCond .eq 20, 3) := by decide +kernel
theorem dX9_stepCost_17 : decode cX9_stepCost 17 = .ok (.ldc2_w 86, 3) := by decide +kernel
theorem dX9_stepCost_20 : decode cX9_stepCost 20 = .ok (.aload_n 2, 1) := by decide +kernel
theorem dX9_stepCost_21 : decode cX9_stepCost 21 = .ok (.iload_n 3, 1) := by decide +kernel
theorem dX9_stepCost_22 : decode cX9_stepCost 22 = .ok (.laload, 1) := by decide +kernel
theorem dX9_stepCost_23 : decode cX9_stepCost 23 = .ok (.aload_n 0, 1) := by decide +kernel
theorem dX9_stepCost_24 : decode cX9_stepCost 24 = .ok (.iconst 1, 1) := by decide +kernel
theorem dX9_stepCost_25 : decode cX9_stepCost 25 = .ok (.iload 4, 2) := by decide +kernel
theorem dX9_stepCost_27 : decode cX9_stepCost 27 = .ok (.iadd, 1) := by decide +kernel
theorem dX9_stepCost_28 : decode cX9_stepCost 28 = .ok (.laload, 1) := by decide +kernel
theorem dX9_stepCost_29 : decode cX9_stepCost 29 = .ok (.ladd, 1) := by decide +kernel
theorem dX9_stepCost_30 : decode cX9_stepCost 30 = .ok (.lmul, 1) := by decide +kernel
theorem dX9_stepCost_31 : decode cX9_stepCost 31 = .ok (.goto 13, 3) := by decide +kernel
theorem dX9_stepCost_34 : decode cX9_stepCost 34 = .ok (.aload_n 2, 1) := by decide +kernel
theorem dX9_stepCost_35 : decode cX9_stepCost 35 = .ok (.iload_n 3, 1) := by decide +kernel
theorem dX9_stepCost_36 : decode cX9_stepCost 36 = .ok (.laload, 1) := by decide +kernel
theorem dX9_stepCost_37 : decode cX9_stepCost 37 = .ok (.aload_n 0, 1) := by decide +kernel
theorem dX9_stepCost_38 : decode cX9_stepCost 38 = .ok (.iconst 1, 1) := by decide +kernel
theorem dX9_stepCost_39 : decode cX9_stepCost 39 = .ok (.iload 4, 2) := by decide +kernel
theorem dX9_stepCost_41 : decode cX9_stepCost 41 = .ok (.iadd, 1) := by decide +kernel
theorem dX9_stepCost_42 : decode cX9_stepCost 42 = .ok (.laload, 1) := by decide +kernel
theorem dX9_stepCost_43 : decode cX9_stepCost 43 = .ok (.lmul, 1) := by decide +kernel
theorem dX9_stepCost_44 : decode cX9_stepCost 44 = .ok (.lstore 5, 2) := by decide +kernel
theorem dX9_stepCost_46 : decode cX9_stepCost 46 = .ok (.ldc2_w 92, 3) := by decide +kernel
theorem dX9_stepCost_49 : decode cX9_stepCost 49 = .ok (.lload 5, 2) := by decide +kernel
theorem dX9_stepCost_51 : decode cX9_stepCost 51 = .ok (.aload_n 2, 1) := by decide +kernel
theorem dX9_stepCost_52 : decode cX9_stepCost 52 = .ok (.iload_n 3, 1) := by decide +kernel
theorem dX9_stepCost_53 : decode cX9_stepCost 53 = .ok (.iconst 1, 1) := by decide +kernel
theorem dX9_stepCost_54 : decode cX9_stepCost 54 = .ok (.iload 4, 2) := by decide +kernel
theorem dX9_stepCost_56 : decode cX9_stepCost 56 = .ok (.ishl, 1) := by decide +kernel
theorem dX9_stepCost_57 : decode cX9_stepCost 57 = .ok (.ior, 1) := by decide +kernel
theorem dX9_stepCost_58 : decode cX9_stepCost 58 = .ok (.laload, 1) := by decide +kernel
theorem dX9_stepCost_59 : decode cX9_stepCost 59 = .ok (.ladd, 1) := by decide +kernel
theorem dX9_stepCost_60 : decode cX9_stepCost 60 = .ok (.invokestatic 69, 3) := by decide +kernel
theorem dX9_stepCost_63 : decode cX9_stepCost 63 = .ok (.lreturn, 1) := by decide +kernel
theorem dX9_choose_0 : decode cX9_choose 0 = .ok (.aload_n 0, 1) := by decide +kernel
theorem dX9_choose_1 : decode cX9_choose 1 = .ok (.aload_n 1, 1) := by decide +kernel
theorem dX9_choose_2 : decode cX9_choose 2 = .ok (.aload_n 0, 1) := by decide +kernel
theorem dX9_choose_3 : decode cX9_choose 3 = .ok (.getfield 30, 3) := by decide +kernel
theorem dX9_choose_6 : decode cX9_choose 6 = .ok (.iload_n 3, 1) := by decide +kernel
theorem dX9_choose_7 : decode cX9_choose 7 = .ok (.invokevirtual 94, 3) := by decide +kernel
theorem dX9_choose_10 : decode cX9_choose 10 = .ok (.aload_n 0, 1) := by decide +kernel
theorem dX9_choose_11 : decode cX9_choose 11 = .ok (.iconst 0, 1) := by decide +kernel
theorem dX9_choose_12 : decode cX9_choose 12 = .ok (.putfield 98, 3) := by decide +kernel
theorem dX9_choose_15 : decode cX9_choose 15 = .ok (.aload_n 0, 1) := by decide +kernel
theorem dX9_choose_16 : decode cX9_choose 16 = .ok (.getfield 36, 3) := by decide +kernel
theorem dX9_choose_19 : decode cX9_choose 19 = .ok (.iload_n 2, 1) := by decide +kernel
theorem dX9_choose_20 : decode cX9_choose 20 = .ok (.lconst 0, 1) := by decide +kernel
theorem dX9_choose_21 : decode cX9_choose 21 = .ok (.lastore, 1) := by decide +kernel
theorem dX9_choose_22 : decode cX9_choose 22 = .ok (.iload_n 2, 1) := by decide +kernel
theorem dX9_choose_23 : decode cX9_choose 23 = .ok (.iconst 1, 1) := by decide +kernel
theorem dX9_choose_24 : decode cX9_choose 24 = .ok (.isub, 1) := by decide +kernel
theorem dX9_choose_25 : decode cX9_choose 25 = .ok (.istore 4, 2) := by decide +kernel
theorem dX9_choose_27 : decode cX9_choose 27 = .ok (.iload 4, 2) := by decide +kernel
theorem dX9_choose_29 : decode cX9_choose 29 = .ok (.ifCond .lt 139, 3) := by decide +kernel
theorem dX9_choose_32 : decode cX9_choose 32 = .ok (.iload 4, 2) := by decide +kernel
theorem dX9_choose_34 : decode cX9_choose 34 = .ok (.iload_n 2, 1) := by decide +kernel
theorem dX9_choose_35 : decode cX9_choose 35 = .ok (.iconst (-1), 1) := by decide +kernel
theorem dX9_choose_36 : decode cX9_choose 36 = .ok (.ixor, 1) := by decide +kernel
theorem dX9_choose_37 : decode cX9_choose 37 = .ok (.iand, 1) := by decide +kernel
theorem dX9_choose_38 : decode cX9_choose 38 = .ok (.ifCond .ne 124, 3) := by decide +kernel
theorem dX9_choose_41 : decode cX9_choose 41 = .ok (.aload_n 0, 1) := by decide +kernel
theorem dX9_choose_42 : decode cX9_choose 42 = .ok (.getfield 36, 3) := by decide +kernel
theorem dX9_choose_45 : decode cX9_choose 45 = .ok (.iload 4, 2) := by decide +kernel
theorem dX9_choose_47 : decode cX9_choose 47 = .ok (.ldc2_w 101, 3) := by decide +kernel
theorem dX9_choose_50 : decode cX9_choose 50 = .ok (.lastore, 1) := by decide +kernel
theorem dX9_choose_51 : decode cX9_choose 51 = .ok (.iconst 0, 1) := by decide +kernel
theorem dX9_choose_52 : decode cX9_choose 52 = .ok (.istore 5, 2) := by decide +kernel
theorem dX9_choose_54 : decode cX9_choose 54 = .ok (.iload 5, 2) := by decide +kernel
theorem dX9_choose_56 : decode cX9_choose 56 = .ok (.bipush 7, 2) := by decide +kernel
theorem dX9_choose_58 : decode cX9_choose 58 = .ok (.if_icmp .ge 104, 3) := by decide +kernel
theorem dX9_choose_61 : decode cX9_choose 61 = .ok (.iload_n 2, 1) := by decide +kernel
theorem dX9_choose_62 : decode cX9_choose 62 = .ok (.iload 5, 2) := by decide +kernel
theorem dX9_choose_64 : decode cX9_choose 64 = .ok (.ishr, 1) := by decide +kernel
theorem dX9_choose_65 : decode cX9_choose 65 = .ok (.iconst 1, 1) := by decide +kernel
theorem dX9_choose_66 : decode cX9_choose 66 = .ok (.iand, 1) := by decide +kernel
theorem dX9_choose_67 : decode cX9_choose 67 = .ok (.iconst 1, 1) := by decide +kernel
theorem dX9_choose_68 : decode cX9_choose 68 = .ok (.if_icmp .ne 88, 3) := by decide +kernel
theorem dX9_choose_71 : decode cX9_choose 71 = .ok (.iload 4, 2) := by decide +kernel
theorem dX9_choose_73 : decode cX9_choose 73 = .ok (.iload 5, 2) := by decide +kernel
theorem dX9_choose_75 : decode cX9_choose 75 = .ok (.ishr, 1) := by decide +kernel
theorem dX9_choose_76 : decode cX9_choose 76 = .ok (.iconst 1, 1) := by decide +kernel
theorem dX9_choose_77 : decode cX9_choose 77 = .ok (.iand, 1) := by decide +kernel
theorem dX9_choose_78 : decode cX9_choose 78 = .ok (.ifCond .ne 78, 3) := by decide +kernel
theorem dX9_choose_81 : decode cX9_choose 81 = .ok (.aload_n 1, 1) := by decide +kernel
theorem dX9_choose_82 : decode cX9_choose 82 = .ok (.aload_n 0, 1) := by decide +kernel
theorem dX9_choose_83 : decode cX9_choose 83 = .ok (.getfield 30, 3) := by decide +kernel
theorem dX9_choose_86 : decode cX9_choose 86 = .ok (.aload_n 0, 1) := by decide +kernel
theorem dX9_choose_87 : decode cX9_choose 87 = .ok (.getfield 30, 3) := by decide +kernel
theorem dX9_choose_90 : decode cX9_choose 90 = .ok (.iload 4, 2) := by decide +kernel
theorem dX9_choose_92 : decode cX9_choose 92 = .ok (.iload 5, 2) := by decide +kernel
theorem dX9_choose_94 : decode cX9_choose 94 = .ok (.invokestatic 103, 3) := by decide +kernel
theorem dX9_choose_97 : decode cX9_choose 97 = .ok (.aload_n 0, 1) := by decide +kernel
theorem dX9_choose_98 : decode cX9_choose 98 = .ok (.getfield 36, 3) := by decide +kernel
theorem dX9_choose_101 : decode cX9_choose 101 = .ok (.iload 4, 2) := by decide +kernel
theorem dX9_choose_103 : decode cX9_choose 103 = .ok (.iconst 1, 1) := by decide +kernel
theorem dX9_choose_104 : decode cX9_choose 104 = .ok (.iload 5, 2) := by decide +kernel
theorem dX9_choose_106 : decode cX9_choose 106 = .ok (.ishl, 1) := by decide +kernel
theorem dX9_choose_107 : decode cX9_choose 107 = .ok (.ior, 1) := by decide +kernel
theorem dX9_choose_108 : decode cX9_choose 108 = .ok (.laload, 1) := by decide +kernel
theorem dX9_choose_109 : decode cX9_choose 109 = .ok (.ladd, 1) := by decide +kernel
theorem dX9_choose_110 : decode cX9_choose 110 = .ok (.lstore 6, 2) := by decide +kernel
theorem dX9_choose_112 : decode cX9_choose 112 = .ok (.aload_n 0, 1) := by decide +kernel
theorem dX9_choose_113 : decode cX9_choose 113 = .ok (.getfield 36, 3) := by decide +kernel
theorem dX9_choose_116 : decode cX9_choose 116 = .ok (.iload 4, 2) := by decide +kernel
theorem dX9_choose_118 : decode cX9_choose 118 = .ok (.aload_n 0, 1) := by decide +kernel
theorem dX9_choose_119 : decode cX9_choose 119 = .ok (.getfield 36, 3) := by decide +kernel
theorem dX9_choose_122 : decode cX9_choose 122 = .ok (.iload 4, 2) := by decide +kernel
theorem dX9_choose_124 : decode cX9_choose 124 = .ok (.laload, 1) := by decide +kernel
theorem dX9_choose_125 : decode cX9_choose 125 = .ok (.lconst 0, 1) := by decide +kernel
theorem dX9_choose_126 : decode cX9_choose 126 = .ok (.lcmp, 1) := by decide +kernel
theorem dX9_choose_127 : decode cX9_choose 127 = .ok (.ifCond .lt 16, 3) := by decide +kernel
theorem dX9_choose_130 : decode cX9_choose 130 = .ok (.lload 6, 2) := by decide +kernel
theorem dX9_choose_132 : decode cX9_choose 132 = .ok (.aload_n 0, 1) := by decide +kernel
theorem dX9_choose_133 : decode cX9_choose 133 = .ok (.getfield 36, 3) := by decide +kernel
theorem dX9_choose_136 : decode cX9_choose 136 = .ok (.iload 4, 2) := by decide +kernel
theorem dX9_choose_138 : decode cX9_choose 138 = .ok (.laload, 1) := by decide +kernel
theorem dX9_choose_139 : decode cX9_choose 139 = .ok (.lcmp, 1) := by decide +kernel
theorem dX9_choose_140 : decode cX9_choose 140 = .ok (.ifCond .ge 8, 3) := by decide +kernel
theorem dX9_choose_143 : decode cX9_choose 143 = .ok (.lload 6, 2) := by decide +kernel
theorem dX9_choose_145 : decode cX9_choose 145 = .ok (.goto 10, 3) := by decide +kernel
theorem dX9_choose_148 : decode cX9_choose 148 = .ok (.aload_n 0, 1) := by decide +kernel
theorem dX9_choose_149 : decode cX9_choose 149 = .ok (.getfield 36, 3) := by decide +kernel
theorem dX9_choose_152 : decode cX9_choose 152 = .ok (.iload 4, 2) := by decide +kernel
theorem dX9_choose_154 : decode cX9_choose 154 = .ok (.laload, 1) := by decide +kernel
theorem dX9_choose_155 : decode cX9_choose 155 = .ok (.lastore, 1) := by decide +kernel
theorem dX9_choose_156 : decode cX9_choose 156 = .ok (.iinc 5 1, 3) := by decide +kernel
theorem dX9_choose_159 : decode cX9_choose 159 = .ok (.goto (-105), 3) := by decide +kernel
theorem dX9_choose_162 : decode cX9_choose 162 = .ok (.iinc 4 (-1), 3) := by decide +kernel
theorem dX9_choose_165 : decode cX9_choose 165 = .ok (.goto (-138), 3) := by decide +kernel
theorem dX9_choose_168 : decode cX9_choose 168 = .ok (.iconst 0, 1) := by decide +kernel
theorem dX9_choose_169 : decode cX9_choose 169 = .ok (.istore 4, 2) := by decide +kernel
theorem dX9_choose_171 : decode cX9_choose 171 = .ok (.iload 4, 2) := by decide +kernel
theorem dX9_choose_173 : decode cX9_choose 173 = .ok (.iload_n 2, 1) := by decide +kernel
theorem dX9_choose_174 : decode cX9_choose 174 = .ok (.if_icmp .eq 105, 3) := by decide +kernel
theorem dX9_choose_177 : decode cX9_choose 177 = .ok (.iconst 0, 1) := by decide +kernel
theorem dX9_choose_178 : decode cX9_choose 178 = .ok (.istore 5, 2) := by decide +kernel
theorem dX9_choose_180 : decode cX9_choose 180 = .ok (.iload_n 2, 1) := by decide +kernel
theorem dX9_choose_181 : decode cX9_choose 181 = .ok (.iload 5, 2) := by decide +kernel
theorem dX9_choose_183 : decode cX9_choose 183 = .ok (.ishr, 1) := by decide +kernel
theorem dX9_choose_184 : decode cX9_choose 184 = .ok (.iconst 1, 1) := by decide +kernel
theorem dX9_choose_185 : decode cX9_choose 185 = .ok (.iand, 1) := by decide +kernel
theorem dX9_choose_186 : decode cX9_choose 186 = .ok (.ifCond .eq 54, 3) := by decide +kernel
theorem dX9_choose_189 : decode cX9_choose 189 = .ok (.iload 4, 2) := by decide +kernel
theorem dX9_choose_191 : decode cX9_choose 191 = .ok (.iload 5, 2) := by decide +kernel
theorem dX9_choose_193 : decode cX9_choose 193 = .ok (.ishr, 1) := by decide +kernel
theorem dX9_choose_194 : decode cX9_choose 194 = .ok (.iconst 1, 1) := by decide +kernel
theorem dX9_choose_195 : decode cX9_choose 195 = .ok (.iand, 1) := by decide +kernel
theorem dX9_choose_196 : decode cX9_choose 196 = .ok (.iconst 1, 1) := by decide +kernel
theorem dX9_choose_197 : decode cX9_choose 197 = .ok (.if_icmp .eq 43, 3) := by decide +kernel
theorem dX9_choose_200 : decode cX9_choose 200 = .ok (.aload_n 1, 1) := by decide +kernel
theorem dX9_choose_201 : decode cX9_choose 201 = .ok (.aload_n 0, 1) := by decide +kernel
theorem dX9_choose_202 : decode cX9_choose 202 = .ok (.getfield 30, 3) := by decide +kernel
theorem dX9_choose_205 : decode cX9_choose 205 = .ok (.aload_n 0, 1) := by decide +kernel
theorem dX9_choose_206 : decode cX9_choose 206 = .ok (.getfield 30, 3) := by decide +kernel
theorem dX9_choose_209 : decode cX9_choose 209 = .ok (.iload 4, 2) := by decide +kernel
theorem dX9_choose_211 : decode cX9_choose 211 = .ok (.iload 5, 2) := by decide +kernel
theorem dX9_choose_213 : decode cX9_choose 213 = .ok (.invokestatic 103, 3) := by decide +kernel
theorem dX9_choose_216 : decode cX9_choose 216 = .ok (.aload_n 0, 1) := by decide +kernel
theorem dX9_choose_217 : decode cX9_choose 217 = .ok (.getfield 36, 3) := by decide +kernel
theorem dX9_choose_220 : decode cX9_choose 220 = .ok (.iload 4, 2) := by decide +kernel
theorem dX9_choose_222 : decode cX9_choose 222 = .ok (.iconst 1, 1) := by decide +kernel
theorem dX9_choose_223 : decode cX9_choose 223 = .ok (.iload 5, 2) := by decide +kernel
theorem dX9_choose_225 : decode cX9_choose 225 = .ok (.ishl, 1) := by decide +kernel
theorem dX9_choose_226 : decode cX9_choose 226 = .ok (.ior, 1) := by decide +kernel
theorem dX9_choose_227 : decode cX9_choose 227 = .ok (.laload, 1) := by decide +kernel
theorem dX9_choose_228 : decode cX9_choose 228 = .ok (.ladd, 1) := by decide +kernel
theorem dX9_choose_229 : decode cX9_choose 229 = .ok (.aload_n 0, 1) := by decide +kernel
theorem dX9_choose_230 : decode cX9_choose 230 = .ok (.getfield 36, 3) := by decide +kernel
theorem dX9_choose_233 : decode cX9_choose 233 = .ok (.iload 4, 2) := by decide +kernel
theorem dX9_choose_235 : decode cX9_choose 235 = .ok (.laload, 1) := by decide +kernel
theorem dX9_choose_236 : decode cX9_choose 236 = .ok (.lcmp, 1) := by decide +kernel
theorem dX9_choose_237 : decode cX9_choose 237 = .ok (.ifCond .eq 9, 3) := by decide +kernel
theorem dX9_choose_240 : decode cX9_choose 240 = .ok (.iinc 5 1, 3) := by decide +kernel
theorem dX9_choose_243 : decode cX9_choose 243 = .ok (.goto (-63), 3) := by decide +kernel
theorem dX9_choose_246 : decode cX9_choose 246 = .ok (.aload_n 0, 1) := by decide +kernel
theorem dX9_choose_247 : decode cX9_choose 247 = .ok (.getfield 39, 3) := by decide +kernel
theorem dX9_choose_250 : decode cX9_choose 250 = .ok (.aload_n 0, 1) := by decide +kernel
theorem dX9_choose_251 : decode cX9_choose 251 = .ok (.getfield 98, 3) := by decide +kernel
theorem dX9_choose_254 : decode cX9_choose 254 = .ok (.iload 5, 2) := by decide +kernel
theorem dX9_choose_256 : decode cX9_choose 256 = .ok (.iastore, 1) := by decide +kernel
theorem dX9_choose_257 : decode cX9_choose 257 = .ok (.aload_n 0, 1) := by decide +kernel
theorem dX9_choose_258 : decode cX9_choose 258 = .ok (.dup, 1) := by decide +kernel
theorem dX9_choose_259 : decode cX9_choose 259 = .ok (.getfield 98, 3) := by decide +kernel
theorem dX9_choose_262 : decode cX9_choose 262 = .ok (.iconst 1, 1) := by decide +kernel
theorem dX9_choose_263 : decode cX9_choose 263 = .ok (.iadd, 1) := by decide +kernel
theorem dX9_choose_264 : decode cX9_choose 264 = .ok (.putfield 98, 3) := by decide +kernel
theorem dX9_choose_267 : decode cX9_choose 267 = .ok (.iload 4, 2) := by decide +kernel
theorem dX9_choose_269 : decode cX9_choose 269 = .ok (.iconst 1, 1) := by decide +kernel
theorem dX9_choose_270 : decode cX9_choose 270 = .ok (.iload 5, 2) := by decide +kernel
theorem dX9_choose_272 : decode cX9_choose 272 = .ok (.ishl, 1) := by decide +kernel
theorem dX9_choose_273 : decode cX9_choose 273 = .ok (.ior, 1) := by decide +kernel
theorem dX9_choose_274 : decode cX9_choose 274 = .ok (.istore 4, 2) := by decide +kernel
theorem dX9_choose_276 : decode cX9_choose 276 = .ok (.goto (-105), 3) := by decide +kernel
theorem dX9_choose_279 : decode cX9_choose 279 = .ok (.aload_n 0, 1) := by decide +kernel
theorem dX9_choose_280 : decode cX9_choose 280 = .ok (.getfield 36, 3) := by decide +kernel
theorem dX9_choose_283 : decode cX9_choose 283 = .ok (.iconst 0, 1) := by decide +kernel
theorem dX9_choose_284 : decode cX9_choose 284 = .ok (.laload, 1) := by decide +kernel
theorem dX9_choose_285 : decode cX9_choose 285 = .ok (.lreturn, 1) := by decide +kernel
theorem dX9_payFor_0 : decode cX9_payFor 0 = .ok (.aload_n 0, 1) := by decide +kernel
theorem dX9_payFor_1 : decode cX9_payFor 1 = .ok (.aload_n 1, 1) := by decide +kernel
theorem dX9_payFor_2 : decode cX9_payFor 2 = .ok (.aload_n 0, 1) := by decide +kernel
theorem dX9_payFor_3 : decode cX9_payFor 3 = .ok (.getfield 33, 3) := by decide +kernel
theorem dX9_payFor_6 : decode cX9_payFor 6 = .ok (.iload_n 2, 1) := by decide +kernel
theorem dX9_payFor_7 : decode cX9_payFor 7 = .ok (.invokevirtual 94, 3) := by decide +kernel
theorem dX9_payFor_10 : decode cX9_payFor 10 = .ok (.lconst 0, 1) := by decide +kernel
theorem dX9_payFor_11 : decode cX9_payFor 11 = .ok (.lstore_n 3, 1) := by decide +kernel
theorem dX9_payFor_12 : decode cX9_payFor 12 = .ok (.iconst 0, 1) := by decide +kernel
theorem dX9_payFor_13 : decode cX9_payFor 13 = .ok (.istore 5, 2) := by decide +kernel
theorem dX9_payFor_15 : decode cX9_payFor 15 = .ok (.iconst 0, 1) := by decide +kernel
theorem dX9_payFor_16 : decode cX9_payFor 16 = .ok (.istore 6, 2) := by decide +kernel
theorem dX9_payFor_18 : decode cX9_payFor 18 = .ok (.iload 6, 2) := by decide +kernel
theorem dX9_payFor_20 : decode cX9_payFor 20 = .ok (.aload_n 0, 1) := by decide +kernel
theorem dX9_payFor_21 : decode cX9_payFor 21 = .ok (.getfield 98, 3) := by decide +kernel
theorem dX9_payFor_24 : decode cX9_payFor 24 = .ok (.if_icmp .ge 47, 3) := by decide +kernel
theorem dX9_payFor_27 : decode cX9_payFor 27 = .ok (.lload_n 3, 1) := by decide +kernel
theorem dX9_payFor_28 : decode cX9_payFor 28 = .ok (.aload_n 1, 1) := by decide +kernel
theorem dX9_payFor_29 : decode cX9_payFor 29 = .ok (.aload_n 0, 1) := by decide +kernel
theorem dX9_payFor_30 : decode cX9_payFor 30 = .ok (.getfield 30, 3) := by decide +kernel
theorem dX9_payFor_33 : decode cX9_payFor 33 = .ok (.aload_n 0, 1) := by decide +kernel
theorem dX9_payFor_34 : decode cX9_payFor 34 = .ok (.getfield 33, 3) := by decide +kernel
theorem dX9_payFor_37 : decode cX9_payFor 37 = .ok (.iload 5, 2) := by decide +kernel
theorem dX9_payFor_39 : decode cX9_payFor 39 = .ok (.aload_n 0, 1) := by decide +kernel
theorem dX9_payFor_40 : decode cX9_payFor 40 = .ok (.getfield 39, 3) := by decide +kernel
theorem dX9_payFor_43 : decode cX9_payFor 43 = .ok (.iload 6, 2) := by decide +kernel
theorem dX9_payFor_45 : decode cX9_payFor 45 = .ok (.iaload, 1) := by decide +kernel
theorem dX9_payFor_46 : decode cX9_payFor 46 = .ok (.invokestatic 103, 3) := by decide +kernel
theorem dX9_payFor_49 : decode cX9_payFor 49 = .ok (.ladd, 1) := by decide +kernel
theorem dX9_payFor_50 : decode cX9_payFor 50 = .ok (.lstore_n 3, 1) := by decide +kernel
theorem dX9_payFor_51 : decode cX9_payFor 51 = .ok (.iload 5, 2) := by decide +kernel
theorem dX9_payFor_53 : decode cX9_payFor 53 = .ok (.iconst 1, 1) := by decide +kernel
theorem dX9_payFor_54 : decode cX9_payFor 54 = .ok (.aload_n 0, 1) := by decide +kernel
theorem dX9_payFor_55 : decode cX9_payFor 55 = .ok (.getfield 39, 3) := by decide +kernel
theorem dX9_payFor_58 : decode cX9_payFor 58 = .ok (.iload 6, 2) := by decide +kernel
theorem dX9_payFor_60 : decode cX9_payFor 60 = .ok (.iaload, 1) := by decide +kernel
theorem dX9_payFor_61 : decode cX9_payFor 61 = .ok (.ishl, 1) := by decide +kernel
theorem dX9_payFor_62 : decode cX9_payFor 62 = .ok (.ior, 1) := by decide +kernel
theorem dX9_payFor_63 : decode cX9_payFor 63 = .ok (.istore 5, 2) := by decide +kernel
theorem dX9_payFor_65 : decode cX9_payFor 65 = .ok (.iinc 6 1, 3) := by decide +kernel
theorem dX9_payFor_68 : decode cX9_payFor 68 = .ok (.goto (-50), 3) := by decide +kernel
theorem dX9_payFor_71 : decode cX9_payFor 71 = .ok (.lload_n 3, 1) := by decide +kernel
theorem dX9_payFor_72 : decode cX9_payFor 72 = .ok (.lreturn, 1) := by decide +kernel
theorem dX9_costOn_0 : decode cX9_costOn 0 = .ok (.aload_n 0, 1) := by decide +kernel
theorem dX9_costOn_1 : decode cX9_costOn 1 = .ok (.aload_n 1, 1) := by decide +kernel
theorem dX9_costOn_2 : decode cX9_costOn 2 = .ok (.iload_n 2, 1) := by decide +kernel
theorem dX9_costOn_3 : decode cX9_costOn 3 = .ok (.iconst 1, 1) := by decide +kernel
theorem dX9_costOn_4 : decode cX9_costOn 4 = .ok (.invokevirtual 107, 3) := by decide +kernel
theorem dX9_costOn_7 : decode cX9_costOn 7 = .ok (.lstore 4, 2) := by decide +kernel
theorem dX9_costOn_9 : decode cX9_costOn 9 = .ok (.iload_n 3, 1) := by decide +kernel
theorem dX9_costOn_10 : decode cX9_costOn 10 = .ok (.ifCond .ne 6, 3) := by decide +kernel
theorem dX9_costOn_13 : decode cX9_costOn 13 = .ok (.lload 4, 2) := by decide +kernel
theorem dX9_costOn_15 : decode cX9_costOn 15 = .ok (.lreturn, 1) := by decide +kernel
theorem dX9_costOn_16 : decode cX9_costOn 16 = .ok (.aload_n 0, 1) := by decide +kernel
theorem dX9_costOn_17 : decode cX9_costOn 17 = .ok (.aload_n 1, 1) := by decide +kernel
theorem dX9_costOn_18 : decode cX9_costOn 18 = .ok (.iconst 2, 1) := by decide +kernel
theorem dX9_costOn_19 : decode cX9_costOn 19 = .ok (.invokevirtual 110, 3) := by decide +kernel
theorem dX9_costOn_22 : decode cX9_costOn 22 = .ok (.lstore 6, 2) := by decide +kernel
theorem dX9_costOn_24 : decode cX9_costOn 24 = .ok (.iload_n 3, 1) := by decide +kernel
theorem dX9_costOn_25 : decode cX9_costOn 25 = .ok (.iconst 1, 1) := by decide +kernel
theorem dX9_costOn_26 : decode cX9_costOn 26 = .ok (.if_icmp .ne 8, 3) := by decide +kernel
theorem dX9_costOn_29 : decode cX9_costOn 29 = .ok (.lload 6, 2) := by decide +kernel
theorem dX9_costOn_31 : decode cX9_costOn 31 = .ok (.goto 13, 3) := by decide +kernel
theorem dX9_costOn_34 : decode cX9_costOn 34 = .ok (.lload 6, 2) := by decide +kernel
theorem dX9_costOn_36 : decode cX9_costOn 36 = .ok (.aload_n 0, 1) := by decide +kernel
theorem dX9_costOn_37 : decode cX9_costOn 37 = .ok (.aload_n 1, 1) := by decide +kernel
theorem dX9_costOn_38 : decode cX9_costOn 38 = .ok (.iload_n 2, 1) := by decide +kernel
theorem dX9_costOn_39 : decode cX9_costOn 39 = .ok (.iconst 2, 1) := by decide +kernel
theorem dX9_costOn_40 : decode cX9_costOn 40 = .ok (.invokevirtual 107, 3) := by decide +kernel
theorem dX9_costOn_43 : decode cX9_costOn 43 = .ok (.lsub, 1) := by decide +kernel
theorem dX9_costOn_44 : decode cX9_costOn 44 = .ok (.lreturn, 1) := by decide +kernel
theorem dX9_append_0 : decode cX9_append 0 = .ok (.aload_n 0, 1) := by decide +kernel
theorem dX9_append_1 : decode cX9_append 1 = .ok (.iload_n 1, 1) := by decide +kernel
theorem dX9_append_2 : decode cX9_append 2 = .ok (.i2l, 1) := by decide +kernel
theorem dX9_append_3 : decode cX9_append 3 = .ok (.lconst 0, 1) := by decide +kernel
theorem dX9_append_4 : decode cX9_append 4 = .ok (.ldc2_w 113, 3) := by decide +kernel
theorem dX9_append_7 : decode cX9_append 7 = .ok (.invokestatic 59, 3) := by decide +kernel
theorem dX9_append_10 : decode cX9_append 10 = .ok (.ifCond .ne 7, 3) := by decide +kernel
theorem dX9_append_13 : decode cX9_append 13 = .ok (.iconst 1, 1) := by decide +kernel
theorem dX9_append_14 : decode cX9_append 14 = .ok (.goto 17, 3) := by decide +kernel
theorem dX9_append_17 : decode cX9_append 17 = .ok (.aload_n 0, 1) := by decide +kernel
theorem dX9_append_18 : decode cX9_append 18 = .ok (.getfield 115, 3) := by decide +kernel
theorem dX9_append_21 : decode cX9_append 21 = .ok (.bipush 100, 2) := by decide +kernel
theorem dX9_append_23 : decode cX9_append 23 = .ok (.if_icmp .ne 7, 3) := by decide +kernel
theorem dX9_append_26 : decode cX9_append 26 = .ok (.iconst 2, 1) := by decide +kernel
theorem dX9_append_27 : decode cX9_append 27 = .ok (.goto 4, 3) := by decide +kernel
theorem dX9_append_30 : decode cX9_append 30 = .ok (.iconst 0, 1) := by decide +kernel
theorem dX9_append_31 : decode cX9_append 31 = .ok (.invokevirtual 118, 3) := by decide +kernel
theorem dX9_append_34 : decode cX9_append 34 = .ok (.ifCond .eq 5, 3) := by decide +kernel
theorem dX9_append_37 : decode cX9_append 37 = .ok (.iconst 0, 1) := by decide +kernel
theorem dX9_append_38 : decode cX9_append 38 = .ok (.ireturn, 1) := by decide +kernel
theorem dX9_append_39 : decode cX9_append 39 = .ok (.aload_n 0, 1) := by decide +kernel
theorem dX9_append_40 : decode cX9_append 40 = .ok (.getfield 7, 3) := by decide +kernel
theorem dX9_append_43 : decode cX9_append 43 = .ok (.aload_n 0, 1) := by decide +kernel
theorem dX9_append_44 : decode cX9_append 44 = .ok (.getfield 115, 3) := by decide +kernel
theorem dX9_append_47 : decode cX9_append 47 = .ok (.iload_n 1, 1) := by decide +kernel
theorem dX9_append_48 : decode cX9_append 48 = .ok (.iastore, 1) := by decide +kernel
theorem dX9_append_49 : decode cX9_append 49 = .ok (.aload_n 0, 1) := by decide +kernel
theorem dX9_append_50 : decode cX9_append 50 = .ok (.dup, 1) := by decide +kernel
theorem dX9_append_51 : decode cX9_append 51 = .ok (.getfield 115, 3) := by decide +kernel
theorem dX9_append_54 : decode cX9_append 54 = .ok (.iconst 1, 1) := by decide +kernel
theorem dX9_append_55 : decode cX9_append 55 = .ok (.iadd, 1) := by decide +kernel
theorem dX9_append_56 : decode cX9_append 56 = .ok (.putfield 115, 3) := by decide +kernel
theorem dX9_append_59 : decode cX9_append 59 = .ok (.aload_n 0, 1) := by decide +kernel
theorem dX9_append_60 : decode cX9_append 60 = .ok (.getfield 115, 3) := by decide +kernel
theorem dX9_append_63 : decode cX9_append 63 = .ok (.ireturn, 1) := by decide +kernel
theorem dX9_clearText_0 : decode cX9_clearText 0 = .ok (.aload_n 0, 1) := by decide +kernel
theorem dX9_clearText_1 : decode cX9_clearText 1 = .ok (.iconst 0, 1) := by decide +kernel
theorem dX9_clearText_2 : decode cX9_clearText 2 = .ok (.putfield 55, 3) := by decide +kernel
theorem dX9_clearText_5 : decode cX9_clearText 5 = .ok (.aload_n 0, 1) := by decide +kernel
theorem dX9_clearText_6 : decode cX9_clearText 6 = .ok (.getfield 115, 3) := by decide +kernel
theorem dX9_clearText_9 : decode cX9_clearText 9 = .ok (.istore_n 1, 1) := by decide +kernel
theorem dX9_clearText_10 : decode cX9_clearText 10 = .ok (.aload_n 0, 1) := by decide +kernel
theorem dX9_clearText_11 : decode cX9_clearText 11 = .ok (.iconst 0, 1) := by decide +kernel
theorem dX9_clearText_12 : decode cX9_clearText 12 = .ok (.putfield 115, 3) := by decide +kernel
theorem dX9_clearText_15 : decode cX9_clearText 15 = .ok (.iload_n 1, 1) := by decide +kernel
theorem dX9_clearText_16 : decode cX9_clearText 16 = .ok (.ireturn, 1) := by decide +kernel
theorem dX9_sign_0 : decode cX9_sign 0 = .ok (.aload_n 0, 1) := by decide +kernel
theorem dX9_sign_1 : decode cX9_sign 1 = .ok (.getfield 122, 3) := by decide +kernel
theorem dX9_sign_4 : decode cX9_sign 4 = .ok (.aload_n 0, 1) := by decide +kernel
theorem dX9_sign_5 : decode cX9_sign 5 = .ok (.getfield 115, 3) := by decide +kernel
theorem dX9_sign_8 : decode cX9_sign 8 = .ok (.if_icmp .ge 15, 3) := by decide +kernel
theorem dX9_sign_11 : decode cX9_sign 11 = .ok (.aload_n 0, 1) := by decide +kernel
theorem dX9_sign_12 : decode cX9_sign 12 = .ok (.getfield 7, 3) := by decide +kernel
theorem dX9_sign_15 : decode cX9_sign 15 = .ok (.aload_n 0, 1) := by decide +kernel
theorem dX9_sign_16 : decode cX9_sign 16 = .ok (.getfield 122, 3) := by decide +kernel
theorem dX9_sign_19 : decode cX9_sign 19 = .ok (.iaload, 1) := by decide +kernel
theorem dX9_sign_20 : decode cX9_sign 20 = .ok (.goto 4, 3) := by decide +kernel
theorem dX9_sign_23 : decode cX9_sign 23 = .ok (.iconst (-1), 1) := by decide +kernel
theorem dX9_sign_24 : decode cX9_sign 24 = .ok (.ireturn, 1) := by decide +kernel
theorem dX9_taken_0 : decode cX9_taken 0 = .ok (.aload_n 0, 1) := by decide +kernel
theorem dX9_taken_1 : decode cX9_taken 1 = .ok (.invokevirtual 125, 3) := by decide +kernel
theorem dX9_taken_4 : decode cX9_taken 4 = .ok (.istore_n 3, 1) := by decide +kernel
theorem dX9_taken_5 : decode cX9_taken 5 = .ok (.iload_n 3, 1) := by decide +kernel
theorem dX9_taken_6 : decode cX9_taken 6 = .ok (.i2l, 1) := by decide +kernel
theorem dX9_taken_7 : decode cX9_taken 7 = .ok (.iload_n 1, 1) := by decide +kernel
theorem dX9_taken_8 : decode cX9_taken 8 = .ok (.i2l, 1) := by decide +kernel
theorem dX9_taken_9 : decode cX9_taken 9 = .ok (.iload_n 2, 1) := by decide +kernel
theorem dX9_taken_10 : decode cX9_taken 10 = .ok (.i2l, 1) := by decide +kernel
theorem dX9_taken_11 : decode cX9_taken 11 = .ok (.invokestatic 59, 3) := by decide +kernel
theorem dX9_taken_14 : decode cX9_taken 14 = .ok (.ifCond .ne 5, 3) := by decide +kernel
theorem dX9_taken_17 : decode cX9_taken 17 = .ok (.iconst (-1), 1) := by decide +kernel
theorem dX9_taken_18 : decode cX9_taken 18 = .ok (.ireturn, 1) := by decide +kernel
theorem dX9_taken_19 : decode cX9_taken 19 = .ok (.aload_n 0, 1) := by decide +kernel
theorem dX9_taken_20 : decode cX9_taken 20 = .ok (.dup, 1) := by decide +kernel
theorem dX9_taken_21 : decode cX9_taken 21 = .ok (.getfield 122, 3) := by decide +kernel
theorem dX9_taken_24 : decode cX9_taken 24 = .ok (.iconst 1, 1) := by decide +kernel
theorem dX9_taken_25 : decode cX9_taken 25 = .ok (.iadd, 1) := by decide +kernel
theorem dX9_taken_26 : decode cX9_taken 26 = .ok (.putfield 122, 3) := by decide +kernel
theorem dX9_taken_29 : decode cX9_taken 29 = .ok (.iload_n 3, 1) := by decide +kernel
theorem dX9_taken_30 : decode cX9_taken 30 = .ok (.iload_n 1, 1) := by decide +kernel
theorem dX9_taken_31 : decode cX9_taken 31 = .ok (.isub, 1) := by decide +kernel
theorem dX9_taken_32 : decode cX9_taken 32 = .ok (.ireturn, 1) := by decide +kernel
theorem dX9_number_0 : decode cX9_number 0 = .ok (.aload_n 0, 1) := by decide +kernel
theorem dX9_number_1 : decode cX9_number 1 = .ok (.bipush 49, 2) := by decide +kernel
theorem dX9_number_3 : decode cX9_number 3 = .ok (.bipush 57, 2) := by decide +kernel
theorem dX9_number_5 : decode cX9_number 5 = .ok (.invokevirtual 129, 3) := by decide +kernel
theorem dX9_number_8 : decode cX9_number 8 = .ok (.istore_n 2, 1) := by decide +kernel
theorem dX9_number_9 : decode cX9_number 9 = .ok (.iload_n 2, 1) := by decide +kernel
theorem dX9_number_10 : decode cX9_number 10 = .ok (.iconst (-1), 1) := by decide +kernel
theorem dX9_number_11 : decode cX9_number 11 = .ok (.if_icmp .ne 5, 3) := by decide +kernel
theorem dX9_number_14 : decode cX9_number 14 = .ok (.iconst (-1), 1) := by decide +kernel
theorem dX9_number_15 : decode cX9_number 15 = .ok (.ireturn, 1) := by decide +kernel
theorem dX9_number_16 : decode cX9_number 16 = .ok (.iinc 2 1, 3) := by decide +kernel
theorem dX9_number_19 : decode cX9_number 19 = .ok (.aload_n 0, 1) := by decide +kernel
theorem dX9_number_20 : decode cX9_number 20 = .ok (.invokevirtual 125, 3) := by decide +kernel
theorem dX9_number_23 : decode cX9_number 23 = .ok (.i2l, 1) := by decide +kernel
theorem dX9_number_24 : decode cX9_number 24 = .ok (.ldc2_w 132, 3) := by decide +kernel
theorem dX9_number_27 : decode cX9_number 27 = .ok (.ldc2_w 134, 3) := by decide +kernel
theorem dX9_number_30 : decode cX9_number 30 = .ok (.invokestatic 59, 3) := by decide +kernel
theorem dX9_number_33 : decode cX9_number 33 = .ok (.ifCond .eq 47, 3) := by decide +kernel
theorem dX9_number_36 : decode cX9_number 36 = .ok (.bipush 10, 2) := by decide +kernel
theorem dX9_number_38 : decode cX9_number 38 = .ok (.iload_n 2, 1) := by decide +kernel
theorem dX9_number_39 : decode cX9_number 39 = .ok (.imul, 1) := by decide +kernel
theorem dX9_number_40 : decode cX9_number 40 = .ok (.aload_n 0, 1) := by decide +kernel
theorem dX9_number_41 : decode cX9_number 41 = .ok (.invokevirtual 125, 3) := by decide +kernel
theorem dX9_number_44 : decode cX9_number 44 = .ok (.iadd, 1) := by decide +kernel
theorem dX9_number_45 : decode cX9_number 45 = .ok (.bipush 48, 2) := by decide +kernel
theorem dX9_number_47 : decode cX9_number 47 = .ok (.isub, 1) := by decide +kernel
theorem dX9_number_48 : decode cX9_number 48 = .ok (.iload_n 1, 1) := by decide +kernel
theorem dX9_number_49 : decode cX9_number 49 = .ok (.if_icmp .le 5, 3) := by decide +kernel
theorem dX9_number_52 : decode cX9_number 52 = .ok (.iconst (-1), 1) := by decide +kernel
theorem dX9_number_53 : decode cX9_number 53 = .ok (.ireturn, 1) := by decide +kernel
theorem dX9_number_54 : decode cX9_number 54 = .ok (.bipush 10, 2) := by decide +kernel
theorem dX9_number_56 : decode cX9_number 56 = .ok (.iload_n 2, 1) := by decide +kernel
theorem dX9_number_57 : decode cX9_number 57 = .ok (.imul, 1) := by decide +kernel
theorem dX9_number_58 : decode cX9_number 58 = .ok (.aload_n 0, 1) := by decide +kernel
theorem dX9_number_59 : decode cX9_number 59 = .ok (.invokevirtual 125, 3) := by decide +kernel
theorem dX9_number_62 : decode cX9_number 62 = .ok (.iadd, 1) := by decide +kernel
theorem dX9_number_63 : decode cX9_number 63 = .ok (.bipush 48, 2) := by decide +kernel
theorem dX9_number_65 : decode cX9_number 65 = .ok (.isub, 1) := by decide +kernel
theorem dX9_number_66 : decode cX9_number 66 = .ok (.istore_n 2, 1) := by decide +kernel
theorem dX9_number_67 : decode cX9_number 67 = .ok (.aload_n 0, 1) := by decide +kernel
theorem dX9_number_68 : decode cX9_number 68 = .ok (.dup, 1) := by decide +kernel
theorem dX9_number_69 : decode cX9_number 69 = .ok (.getfield 122, 3) := by decide +kernel
theorem dX9_number_72 : decode cX9_number 72 = .ok (.iconst 1, 1) := by decide +kernel
theorem dX9_number_73 : decode cX9_number 73 = .ok (.iadd, 1) := by decide +kernel
theorem dX9_number_74 : decode cX9_number 74 = .ok (.putfield 122, 3) := by decide +kernel
theorem dX9_number_77 : decode cX9_number 77 = .ok (.goto (-58), 3) := by decide +kernel
theorem dX9_number_80 : decode cX9_number 80 = .ok (.iload_n 2, 1) := by decide +kernel
theorem dX9_number_81 : decode cX9_number 81 = .ok (.ireturn, 1) := by decide +kernel
theorem dX9_wrongPlan_0 : decode cX9_wrongPlan 0 = .ok (.aload_n 0, 1) := by decide +kernel
theorem dX9_wrongPlan_1 : decode cX9_wrongPlan 1 = .ok (.iconst 0, 1) := by decide +kernel
theorem dX9_wrongPlan_2 : decode cX9_wrongPlan 2 = .ok (.putfield 122, 3) := by decide +kernel
theorem dX9_wrongPlan_5 : decode cX9_wrongPlan 5 = .ok (.iconst 0, 1) := by decide +kernel
theorem dX9_wrongPlan_6 : decode cX9_wrongPlan 6 = .ok (.istore_n 1, 1) := by decide +kernel
theorem dX9_wrongPlan_7 : decode cX9_wrongPlan 7 = .ok (.iconst 1, 1) := by decide +kernel
theorem dX9_wrongPlan_8 : decode cX9_wrongPlan 8 = .ok (.istore_n 2, 1) := by decide +kernel
theorem dX9_wrongPlan_9 : decode cX9_wrongPlan 9 = .ok (.iload_n 2, 1) := by decide +kernel
theorem dX9_wrongPlan_10 : decode cX9_wrongPlan 10 = .ok (.ifCond .eq 94, 3) := by decide +kernel
theorem dX9_wrongPlan_13 : decode cX9_wrongPlan 13 = .ok (.aload_n 0, 1) := by decide +kernel
theorem dX9_wrongPlan_14 : decode cX9_wrongPlan 14 = .ok (.invokevirtual 125, 3) := by decide +kernel
theorem dX9_wrongPlan_17 : decode cX9_wrongPlan 17 = .ok (.i2l, 1) := by decide +kernel
theorem dX9_wrongPlan_18 : decode cX9_wrongPlan 18 = .ok (.ldc2_w 132, 3) := by decide +kernel
theorem dX9_wrongPlan_21 : decode cX9_wrongPlan 21 = .ok (.ldc2_w 136, 3) := by decide +kernel
theorem dX9_wrongPlan_24 : decode cX9_wrongPlan 24 = .ok (.invokestatic 59, 3) := by decide +kernel
theorem dX9_wrongPlan_27 : decode cX9_wrongPlan 27 = .ok (.ifCond .eq 13, 3) := by decide +kernel
theorem dX9_wrongPlan_30 : decode cX9_wrongPlan 30 = .ok (.aload_n 0, 1) := by decide +kernel
theorem dX9_wrongPlan_31 : decode cX9_wrongPlan 31 = .ok (.invokevirtual 125, 3) := by decide +kernel
theorem dX9_wrongPlan_34 : decode cX9_wrongPlan 34 = .ok (.bipush 48, 2) := by decide +kernel
theorem dX9_wrongPlan_36 : decode cX9_wrongPlan 36 = .ok (.isub, 1) := by decide +kernel
theorem dX9_wrongPlan_37 : decode cX9_wrongPlan 37 = .ok (.goto 4, 3) := by decide +kernel
theorem dX9_wrongPlan_40 : decode cX9_wrongPlan 40 = .ok (.iconst (-1), 1) := by decide +kernel
theorem dX9_wrongPlan_41 : decode cX9_wrongPlan 41 = .ok (.istore_n 3, 1) := by decide +kernel
theorem dX9_wrongPlan_42 : decode cX9_wrongPlan 42 = .ok (.iload_n 3, 1) := by decide +kernel
theorem dX9_wrongPlan_43 : decode cX9_wrongPlan 43 = .ok (.iconst (-1), 1) := by decide +kernel
theorem dX9_wrongPlan_44 : decode cX9_wrongPlan 44 = .ok (.if_icmp .eq 12, 3) := by decide +kernel
theorem dX9_wrongPlan_47 : decode cX9_wrongPlan 47 = .ok (.iload_n 1, 1) := by decide +kernel
theorem dX9_wrongPlan_48 : decode cX9_wrongPlan 48 = .ok (.iload_n 3, 1) := by decide +kernel
theorem dX9_wrongPlan_49 : decode cX9_wrongPlan 49 = .ok (.ishr, 1) := by decide +kernel
theorem dX9_wrongPlan_50 : decode cX9_wrongPlan 50 = .ok (.iconst 1, 1) := by decide +kernel
theorem dX9_wrongPlan_51 : decode cX9_wrongPlan 51 = .ok (.iand, 1) := by decide +kernel
theorem dX9_wrongPlan_52 : decode cX9_wrongPlan 52 = .ok (.iconst 1, 1) := by decide +kernel
theorem dX9_wrongPlan_53 : decode cX9_wrongPlan 53 = .ok (.if_icmp .ne 8, 3) := by decide +kernel
theorem dX9_wrongPlan_56 : decode cX9_wrongPlan 56 = .ok (.aload_n 0, 1) := by decide +kernel
theorem dX9_wrongPlan_57 : decode cX9_wrongPlan 57 = .ok (.getfield 122, 3) := by decide +kernel
theorem dX9_wrongPlan_60 : decode cX9_wrongPlan 60 = .ok (.ireturn, 1) := by decide +kernel
theorem dX9_wrongPlan_61 : decode cX9_wrongPlan 61 = .ok (.iload_n 1, 1) := by decide +kernel
theorem dX9_wrongPlan_62 : decode cX9_wrongPlan 62 = .ok (.iconst 1, 1) := by decide +kernel
theorem dX9_wrongPlan_63 : decode cX9_wrongPlan 63 = .ok (.iload_n 3, 1) := by decide +kernel
theorem dX9_wrongPlan_64 : decode cX9_wrongPlan 64 = .ok (.ishl, 1) := by decide +kernel
theorem dX9_wrongPlan_65 : decode cX9_wrongPlan 65 = .ok (.ior, 1) := by decide +kernel
theorem dX9_wrongPlan_66 : decode cX9_wrongPlan 66 = .ok (.istore_n 1, 1) := by decide +kernel
theorem dX9_wrongPlan_67 : decode cX9_wrongPlan 67 = .ok (.aload_n 0, 1) := by decide +kernel
theorem dX9_wrongPlan_68 : decode cX9_wrongPlan 68 = .ok (.dup, 1) := by decide +kernel
theorem dX9_wrongPlan_69 : decode cX9_wrongPlan 69 = .ok (.getfield 122, 3) := by decide +kernel
theorem dX9_wrongPlan_72 : decode cX9_wrongPlan 72 = .ok (.iconst 1, 1) := by decide +kernel
theorem dX9_wrongPlan_73 : decode cX9_wrongPlan 73 = .ok (.iadd, 1) := by decide +kernel
theorem dX9_wrongPlan_74 : decode cX9_wrongPlan 74 = .ok (.putfield 122, 3) := by decide +kernel
theorem dX9_wrongPlan_77 : decode cX9_wrongPlan 77 = .ok (.iload_n 1, 1) := by decide +kernel
theorem dX9_wrongPlan_78 : decode cX9_wrongPlan 78 = .ok (.bipush 127, 2) := by decide +kernel
theorem dX9_wrongPlan_80 : decode cX9_wrongPlan 80 = .ok (.if_icmp .eq 19, 3) := by decide +kernel
theorem dX9_wrongPlan_83 : decode cX9_wrongPlan 83 = .ok (.aload_n 0, 1) := by decide +kernel
theorem dX9_wrongPlan_84 : decode cX9_wrongPlan 84 = .ok (.bipush 62, 2) := by decide +kernel
theorem dX9_wrongPlan_86 : decode cX9_wrongPlan 86 = .ok (.bipush 62, 2) := by decide +kernel
theorem dX9_wrongPlan_88 : decode cX9_wrongPlan 88 = .ok (.invokevirtual 129, 3) := by decide +kernel
theorem dX9_wrongPlan_91 : decode cX9_wrongPlan 91 = .ok (.iconst (-1), 1) := by decide +kernel
theorem dX9_wrongPlan_92 : decode cX9_wrongPlan 92 = .ok (.if_icmp .eq 7, 3) := by decide +kernel
theorem dX9_wrongPlan_95 : decode cX9_wrongPlan 95 = .ok (.iconst 1, 1) := by decide +kernel
theorem dX9_wrongPlan_96 : decode cX9_wrongPlan 96 = .ok (.goto 4, 3) := by decide +kernel
theorem dX9_wrongPlan_99 : decode cX9_wrongPlan 99 = .ok (.iconst 0, 1) := by decide +kernel
theorem dX9_wrongPlan_100 : decode cX9_wrongPlan 100 = .ok (.istore_n 2, 1) := by decide +kernel
theorem dX9_wrongPlan_101 : decode cX9_wrongPlan 101 = .ok (.goto (-92), 3) := by decide +kernel
theorem dX9_wrongPlan_104 : decode cX9_wrongPlan 104 = .ok (.aload_n 0, 1) := by decide +kernel
theorem dX9_wrongPlan_105 : decode cX9_wrongPlan 105 = .ok (.getfield 122, 3) := by decide +kernel
theorem dX9_wrongPlan_108 : decode cX9_wrongPlan 108 = .ok (.aload_n 0, 1) := by decide +kernel
theorem dX9_wrongPlan_109 : decode cX9_wrongPlan 109 = .ok (.getfield 115, 3) := by decide +kernel
theorem dX9_wrongPlan_112 : decode cX9_wrongPlan 112 = .ok (.if_icmp .ge 10, 3) := by decide +kernel
theorem dX9_wrongPlan_115 : decode cX9_wrongPlan 115 = .ok (.aload_n 0, 1) := by decide +kernel
theorem dX9_wrongPlan_116 : decode cX9_wrongPlan 116 = .ok (.getfield 122, 3) := by decide +kernel
theorem dX9_wrongPlan_119 : decode cX9_wrongPlan 119 = .ok (.goto 4, 3) := by decide +kernel
theorem dX9_wrongPlan_122 : decode cX9_wrongPlan 122 = .ok (.iconst (-1), 1) := by decide +kernel
theorem dX9_wrongPlan_123 : decode cX9_wrongPlan 123 = .ok (.ireturn, 1) := by decide +kernel
theorem dX9_linkOn_0 : decode cX9_linkOn 0 = .ok (.iload_n 1, 1) := by decide +kernel
theorem dX9_linkOn_1 : decode cX9_linkOn 1 = .ok (.iload_n 2, 1) := by decide +kernel
theorem dX9_linkOn_2 : decode cX9_linkOn 2 = .ok (.invokestatic 73, 3) := by decide +kernel
theorem dX9_linkOn_5 : decode cX9_linkOn 5 = .ok (.istore 5, 2) := by decide +kernel
theorem dX9_linkOn_7 : decode cX9_linkOn 7 = .ok (.aload_n 0, 1) := by decide +kernel
theorem dX9_linkOn_8 : decode cX9_linkOn 8 = .ok (.bipush 8, 2) := by decide +kernel
theorem dX9_linkOn_10 : decode cX9_linkOn 10 = .ok (.iload 5, 2) := by decide +kernel
theorem dX9_linkOn_12 : decode cX9_linkOn 12 = .ok (.iadd, 1) := by decide +kernel
theorem dX9_linkOn_13 : decode cX9_linkOn 13 = .ok (.lconst 1, 1) := by decide +kernel
theorem dX9_linkOn_14 : decode cX9_linkOn 14 = .ok (.lastore, 1) := by decide +kernel
theorem dX9_linkOn_15 : decode cX9_linkOn 15 = .ok (.aload_n 0, 1) := by decide +kernel
theorem dX9_linkOn_16 : decode cX9_linkOn 16 = .ok (.bipush 57, 2) := by decide +kernel
theorem dX9_linkOn_18 : decode cX9_linkOn 18 = .ok (.iload 5, 2) := by decide +kernel
theorem dX9_linkOn_20 : decode cX9_linkOn 20 = .ok (.iadd, 1) := by decide +kernel
theorem dX9_linkOn_21 : decode cX9_linkOn 21 = .ok (.iload_n 3, 1) := by decide +kernel
theorem dX9_linkOn_22 : decode cX9_linkOn 22 = .ok (.i2l, 1) := by decide +kernel
theorem dX9_linkOn_23 : decode cX9_linkOn 23 = .ok (.lastore, 1) := by decide +kernel
theorem dX9_linkOn_24 : decode cX9_linkOn 24 = .ok (.aload_n 0, 1) := by decide +kernel
theorem dX9_linkOn_25 : decode cX9_linkOn 25 = .ok (.bipush 106, 2) := by decide +kernel
theorem dX9_linkOn_27 : decode cX9_linkOn 27 = .ok (.iload 5, 2) := by decide +kernel
theorem dX9_linkOn_29 : decode cX9_linkOn 29 = .ok (.iadd, 1) := by decide +kernel
theorem dX9_linkOn_30 : decode cX9_linkOn 30 = .ok (.iload 4, 2) := by decide +kernel
theorem dX9_linkOn_32 : decode cX9_linkOn 32 = .ok (.i2l, 1) := by decide +kernel
theorem dX9_linkOn_33 : decode cX9_linkOn 33 = .ok (.lastore, 1) := by decide +kernel
theorem dX9_linkOn_34 : decode cX9_linkOn 34 = .ok (.aload_n 0, 1) := by decide +kernel
theorem dX9_linkOn_35 : decode cX9_linkOn 35 = .ok (.sipush 155, 3) := by decide +kernel
theorem dX9_linkOn_38 : decode cX9_linkOn 38 = .ok (.iload 5, 2) := by decide +kernel
theorem dX9_linkOn_40 : decode cX9_linkOn 40 = .ok (.iadd, 1) := by decide +kernel
theorem dX9_linkOn_41 : decode cX9_linkOn 41 = .ok (.lconst 0, 1) := by decide +kernel
theorem dX9_linkOn_42 : decode cX9_linkOn 42 = .ok (.lastore, 1) := by decide +kernel
theorem dX9_linkOn_43 : decode cX9_linkOn 43 = .ok (.aload_n 0, 1) := by decide +kernel
theorem dX9_linkOn_44 : decode cX9_linkOn 44 = .ok (.sipush 204, 3) := by decide +kernel
theorem dX9_linkOn_47 : decode cX9_linkOn 47 = .ok (.iload 5, 2) := by decide +kernel
theorem dX9_linkOn_49 : decode cX9_linkOn 49 = .ok (.iadd, 1) := by decide +kernel
theorem dX9_linkOn_50 : decode cX9_linkOn 50 = .ok (.lconst 0, 1) := by decide +kernel
theorem dX9_linkOn_51 : decode cX9_linkOn 51 = .ok (.lastore, 1) := by decide +kernel
theorem dX9_linkOn_52 : decode cX9_linkOn 52 = .ok (.aload_n 0, 1) := by decide +kernel
theorem dX9_linkOn_53 : decode cX9_linkOn 53 = .ok (.bipush 8, 2) := by decide +kernel
theorem dX9_linkOn_55 : decode cX9_linkOn 55 = .ok (.invokestatic 138, 3) := by decide +kernel
theorem dX9_linkOn_58 : decode cX9_linkOn 58 = .ok (.l2i, 1) := by decide +kernel
theorem dX9_linkOn_59 : decode cX9_linkOn 59 = .ok (.ireturn, 1) := by decide +kernel
theorem dX9_addOn_0 : decode cX9_addOn 0 = .ok (.aload_n 0, 1) := by decide +kernel
theorem dX9_addOn_1 : decode cX9_addOn 1 = .ok (.iconst 0, 1) := by decide +kernel
theorem dX9_addOn_2 : decode cX9_addOn 2 = .ok (.laload, 1) := by decide +kernel
theorem dX9_addOn_3 : decode cX9_addOn 3 = .ok (.l2i, 1) := by decide +kernel
theorem dX9_addOn_4 : decode cX9_addOn 4 = .ok (.istore_n 2, 1) := by decide +kernel
theorem dX9_addOn_5 : decode cX9_addOn 5 = .ok (.aload_n 0, 1) := by decide +kernel
theorem dX9_addOn_6 : decode cX9_addOn 6 = .ok (.iconst 1, 1) := by decide +kernel
theorem dX9_addOn_7 : decode cX9_addOn 7 = .ok (.iload_n 2, 1) := by decide +kernel
theorem dX9_addOn_8 : decode cX9_addOn 8 = .ok (.iadd, 1) := by decide +kernel
theorem dX9_addOn_9 : decode cX9_addOn 9 = .ok (.iload_n 1, 1) := by decide +kernel
theorem dX9_addOn_10 : decode cX9_addOn 10 = .ok (.i2l, 1) := by decide +kernel
theorem dX9_addOn_11 : decode cX9_addOn 11 = .ok (.lastore, 1) := by decide +kernel
theorem dX9_addOn_12 : decode cX9_addOn 12 = .ok (.aload_n 0, 1) := by decide +kernel
theorem dX9_addOn_13 : decode cX9_addOn 13 = .ok (.iconst 0, 1) := by decide +kernel
theorem dX9_addOn_14 : decode cX9_addOn 14 = .ok (.dup2, 1) := by decide +kernel
theorem dX9_addOn_15 : decode cX9_addOn 15 = .ok (.laload, 1) := by decide +kernel
theorem dX9_addOn_16 : decode cX9_addOn 16 = .ok (.lconst 1, 1) := by decide +kernel
theorem dX9_addOn_17 : decode cX9_addOn 17 = .ok (.ladd, 1) := by decide +kernel
theorem dX9_addOn_18 : decode cX9_addOn 18 = .ok (.lastore, 1) := by decide +kernel
theorem dX9_addOn_19 : decode cX9_addOn 19 = .ok (.iload_n 2, 1) := by decide +kernel
theorem dX9_addOn_20 : decode cX9_addOn 20 = .ok (.ireturn, 1) := by decide +kernel
theorem dX9_readEntry_0 : decode cX9_readEntry 0 = .ok (.aload_n 0, 1) := by decide +kernel
theorem dX9_readEntry_1 : decode cX9_readEntry 1 = .ok (.bipush 116, 2) := by decide +kernel
theorem dX9_readEntry_3 : decode cX9_readEntry 3 = .ok (.bipush 116, 2) := by decide +kernel
theorem dX9_readEntry_5 : decode cX9_readEntry 5 = .ok (.invokevirtual 129, 3) := by decide +kernel
theorem dX9_readEntry_8 : decode cX9_readEntry 8 = .ok (.iconst (-1), 1) := by decide +kernel
theorem dX9_readEntry_9 : decode cX9_readEntry 9 = .ok (.if_icmp .eq 56, 3) := by decide +kernel
theorem dX9_readEntry_12 : decode cX9_readEntry 12 = .ok (.aload_n 0, 1) := by decide +kernel
theorem dX9_readEntry_13 : decode cX9_readEntry 13 = .ok (.sipush 9999, 3) := by decide +kernel
theorem dX9_readEntry_16 : decode cX9_readEntry 16 = .ok (.invokevirtual 141, 3) := by decide +kernel
theorem dX9_readEntry_19 : decode cX9_readEntry 19 = .ok (.istore_n 2, 1) := by decide +kernel
theorem dX9_readEntry_20 : decode cX9_readEntry 20 = .ok (.iload_n 2, 1) := by decide +kernel
theorem dX9_readEntry_21 : decode cX9_readEntry 21 = .ok (.iconst (-1), 1) := by decide +kernel
theorem dX9_readEntry_22 : decode cX9_readEntry 22 = .ok (.if_icmp .eq 22, 3) := by decide +kernel
theorem dX9_readEntry_25 : decode cX9_readEntry 25 = .ok (.aload_n 1, 1) := by decide +kernel
theorem dX9_readEntry_26 : decode cX9_readEntry 26 = .ok (.iconst 0, 1) := by decide +kernel
theorem dX9_readEntry_27 : decode cX9_readEntry 27 = .ok (.laload, 1) := by decide +kernel
theorem dX9_readEntry_28 : decode cX9_readEntry 28 = .ok (.ldc2_w 145, 3) := by decide +kernel
theorem dX9_readEntry_31 : decode cX9_readEntry 31 = .ok (.lcmp, 1) := by decide +kernel
theorem dX9_readEntry_32 : decode cX9_readEntry 32 = .ok (.ifCond .ge 12, 3) := by decide +kernel
theorem dX9_readEntry_35 : decode cX9_readEntry 35 = .ok (.aload_n 1, 1) := by decide +kernel
theorem dX9_readEntry_36 : decode cX9_readEntry 36 = .ok (.iload_n 2, 1) := by decide +kernel
theorem dX9_readEntry_37 : decode cX9_readEntry 37 = .ok (.invokestatic 147, 3) := by decide +kernel
theorem dX9_readEntry_40 : decode cX9_readEntry 40 = .ok (.pop, 1) := by decide +kernel
theorem dX9_readEntry_41 : decode cX9_readEntry 41 = .ok (.goto 13, 3) := by decide +kernel
theorem dX9_readEntry_44 : decode cX9_readEntry 44 = .ok (.aload_n 0, 1) := by decide +kernel
theorem dX9_readEntry_45 : decode cX9_readEntry 45 = .ok (.dup, 1) := by decide +kernel
theorem dX9_readEntry_46 : decode cX9_readEntry 46 = .ok (.getfield 151, 3) := by decide +kernel
theorem dX9_readEntry_49 : decode cX9_readEntry 49 = .ok (.iconst 1, 1) := by decide +kernel
theorem dX9_readEntry_50 : decode cX9_readEntry 50 = .ok (.iadd, 1) := by decide +kernel
theorem dX9_readEntry_51 : decode cX9_readEntry 51 = .ok (.putfield 151, 3) := by decide +kernel
theorem dX9_readEntry_54 : decode cX9_readEntry 54 = .ok (.iload_n 2, 1) := by decide +kernel
theorem dX9_readEntry_55 : decode cX9_readEntry 55 = .ok (.iconst (-1), 1) := by decide +kernel
theorem dX9_readEntry_56 : decode cX9_readEntry 56 = .ok (.if_icmp .eq 7, 3) := by decide +kernel
theorem dX9_readEntry_59 : decode cX9_readEntry 59 = .ok (.iconst 1, 1) := by decide +kernel
theorem dX9_readEntry_60 : decode cX9_readEntry 60 = .ok (.goto 4, 3) := by decide +kernel
theorem dX9_readEntry_63 : decode cX9_readEntry 63 = .ok (.iconst 0, 1) := by decide +kernel
theorem dX9_readEntry_64 : decode cX9_readEntry 64 = .ok (.ireturn, 1) := by decide +kernel
theorem dX9_readEntry_65 : decode cX9_readEntry 65 = .ok (.aload_n 0, 1) := by decide +kernel
theorem dX9_readEntry_66 : decode cX9_readEntry 66 = .ok (.bipush 112, 2) := by decide +kernel
theorem dX9_readEntry_68 : decode cX9_readEntry 68 = .ok (.bipush 112, 2) := by decide +kernel
theorem dX9_readEntry_70 : decode cX9_readEntry 70 = .ok (.invokevirtual 129, 3) := by decide +kernel
theorem dX9_readEntry_73 : decode cX9_readEntry 73 = .ok (.iconst (-1), 1) := by decide +kernel
theorem dX9_readEntry_74 : decode cX9_readEntry 74 = .ok (.if_icmp .ne 5, 3) := by decide +kernel
theorem dX9_readEntry_77 : decode cX9_readEntry 77 = .ok (.iconst 0, 1) := by decide +kernel
theorem dX9_readEntry_78 : decode cX9_readEntry 78 = .ok (.ireturn, 1) := by decide +kernel
theorem dX9_readEntry_79 : decode cX9_readEntry 79 = .ok (.aload_n 0, 1) := by decide +kernel
theorem dX9_readEntry_80 : decode cX9_readEntry 80 = .ok (.bipush 48, 2) := by decide +kernel
theorem dX9_readEntry_82 : decode cX9_readEntry 82 = .ok (.bipush 54, 2) := by decide +kernel
theorem dX9_readEntry_84 : decode cX9_readEntry 84 = .ok (.invokevirtual 129, 3) := by decide +kernel
theorem dX9_readEntry_87 : decode cX9_readEntry 87 = .ok (.istore_n 2, 1) := by decide +kernel
theorem dX9_readEntry_88 : decode cX9_readEntry 88 = .ok (.iload_n 2, 1) := by decide +kernel
theorem dX9_readEntry_89 : decode cX9_readEntry 89 = .ok (.iconst (-1), 1) := by decide +kernel
theorem dX9_readEntry_90 : decode cX9_readEntry 90 = .ok (.if_icmp .eq 14, 3) := by decide +kernel
theorem dX9_readEntry_93 : decode cX9_readEntry 93 = .ok (.aload_n 0, 1) := by decide +kernel
theorem dX9_readEntry_94 : decode cX9_readEntry 94 = .ok (.invokevirtual 125, 3) := by decide +kernel
theorem dX9_readEntry_97 : decode cX9_readEntry 97 = .ok (.bipush 48, 2) := by decide +kernel
theorem dX9_readEntry_99 : decode cX9_readEntry 99 = .ok (.iload_n 2, 1) := by decide +kernel
theorem dX9_readEntry_100 : decode cX9_readEntry 100 = .ok (.iadd, 1) := by decide +kernel
theorem dX9_readEntry_101 : decode cX9_readEntry 101 = .ok (.if_icmp .ne 5, 3) := by decide +kernel
theorem dX9_readEntry_104 : decode cX9_readEntry 104 = .ok (.iconst 0, 1) := by decide +kernel
theorem dX9_readEntry_105 : decode cX9_readEntry 105 = .ok (.ireturn, 1) := by decide +kernel
theorem dX9_readEntry_106 : decode cX9_readEntry 106 = .ok (.aload_n 0, 1) := by decide +kernel
theorem dX9_readEntry_107 : decode cX9_readEntry 107 = .ok (.bipush 48, 2) := by decide +kernel
theorem dX9_readEntry_109 : decode cX9_readEntry 109 = .ok (.bipush 54, 2) := by decide +kernel
theorem dX9_readEntry_111 : decode cX9_readEntry 111 = .ok (.invokevirtual 129, 3) := by decide +kernel
theorem dX9_readEntry_114 : decode cX9_readEntry 114 = .ok (.istore_n 3, 1) := by decide +kernel
theorem dX9_readEntry_115 : decode cX9_readEntry 115 = .ok (.iload_n 3, 1) := by decide +kernel
theorem dX9_readEntry_116 : decode cX9_readEntry 116 = .ok (.iconst (-1), 1) := by decide +kernel
theorem dX9_readEntry_117 : decode cX9_readEntry 117 = .ok (.if_icmp .ne 7, 3) := by decide +kernel
theorem dX9_readEntry_120 : decode cX9_readEntry 120 = .ok (.iconst (-1), 1) := by decide +kernel
theorem dX9_readEntry_121 : decode cX9_readEntry 121 = .ok (.goto 10, 3) := by decide +kernel
theorem dX9_readEntry_124 : decode cX9_readEntry 124 = .ok (.aload_n 0, 1) := by decide +kernel
theorem dX9_readEntry_125 : decode cX9_readEntry 125 = .ok (.sipush 1000, 3) := by decide +kernel
theorem dX9_readEntry_128 : decode cX9_readEntry 128 = .ok (.invokevirtual 141, 3) := by decide +kernel
theorem dX9_readEntry_131 : decode cX9_readEntry 131 = .ok (.istore 4, 2) := by decide +kernel
theorem dX9_readEntry_133 : decode cX9_readEntry 133 = .ok (.iload 4, 2) := by decide +kernel
theorem dX9_readEntry_135 : decode cX9_readEntry 135 = .ok (.iconst (-1), 1) := by decide +kernel
theorem dX9_readEntry_136 : decode cX9_readEntry 136 = .ok (.if_icmp .eq 15, 3) := by decide +kernel
theorem dX9_readEntry_139 : decode cX9_readEntry 139 = .ok (.aload_n 0, 1) := by decide +kernel
theorem dX9_readEntry_140 : decode cX9_readEntry 140 = .ok (.bipush 44, 2) := by decide +kernel
theorem dX9_readEntry_142 : decode cX9_readEntry 142 = .ok (.bipush 44, 2) := by decide +kernel
theorem dX9_readEntry_144 : decode cX9_readEntry 144 = .ok (.invokevirtual 129, 3) := by decide +kernel
theorem dX9_readEntry_147 : decode cX9_readEntry 147 = .ok (.iconst (-1), 1) := by decide +kernel
theorem dX9_readEntry_148 : decode cX9_readEntry 148 = .ok (.if_icmp .ne 5, 3) := by decide +kernel
theorem dX9_readEntry_151 : decode cX9_readEntry 151 = .ok (.iconst 0, 1) := by decide +kernel
theorem dX9_readEntry_152 : decode cX9_readEntry 152 = .ok (.ireturn, 1) := by decide +kernel
theorem dX9_readEntry_153 : decode cX9_readEntry 153 = .ok (.aload_n 0, 1) := by decide +kernel
theorem dX9_readEntry_154 : decode cX9_readEntry 154 = .ok (.sipush 1000, 3) := by decide +kernel
theorem dX9_readEntry_157 : decode cX9_readEntry 157 = .ok (.invokevirtual 141, 3) := by decide +kernel
theorem dX9_readEntry_160 : decode cX9_readEntry 160 = .ok (.istore 5, 2) := by decide +kernel
theorem dX9_readEntry_162 : decode cX9_readEntry 162 = .ok (.iload 5, 2) := by decide +kernel
theorem dX9_readEntry_164 : decode cX9_readEntry 164 = .ok (.iconst (-1), 1) := by decide +kernel
theorem dX9_readEntry_165 : decode cX9_readEntry 165 = .ok (.if_icmp .eq 33, 3) := by decide +kernel
theorem dX9_readEntry_168 : decode cX9_readEntry 168 = .ok (.aload_n 1, 1) := by decide +kernel
theorem dX9_readEntry_169 : decode cX9_readEntry 169 = .ok (.iload_n 2, 1) := by decide +kernel
theorem dX9_readEntry_170 : decode cX9_readEntry 170 = .ok (.invokestatic 154, 3) := by decide +kernel
theorem dX9_readEntry_173 : decode cX9_readEntry 173 = .ok (.ifCond .eq 25, 3) := by decide +kernel
theorem dX9_readEntry_176 : decode cX9_readEntry 176 = .ok (.aload_n 1, 1) := by decide +kernel
theorem dX9_readEntry_177 : decode cX9_readEntry 177 = .ok (.iload_n 3, 1) := by decide +kernel
theorem dX9_readEntry_178 : decode cX9_readEntry 178 = .ok (.invokestatic 154, 3) := by decide +kernel
theorem dX9_readEntry_181 : decode cX9_readEntry 181 = .ok (.ifCond .eq 17, 3) := by decide +kernel
theorem dX9_readEntry_184 : decode cX9_readEntry 184 = .ok (.aload_n 1, 1) := by decide +kernel
theorem dX9_readEntry_185 : decode cX9_readEntry 185 = .ok (.iload_n 2, 1) := by decide +kernel
theorem dX9_readEntry_186 : decode cX9_readEntry 186 = .ok (.iload_n 3, 1) := by decide +kernel
theorem dX9_readEntry_187 : decode cX9_readEntry 187 = .ok (.iload 4, 2) := by decide +kernel
theorem dX9_readEntry_189 : decode cX9_readEntry 189 = .ok (.iload 5, 2) := by decide +kernel
theorem dX9_readEntry_191 : decode cX9_readEntry 191 = .ok (.invokestatic 158, 3) := by decide +kernel
theorem dX9_readEntry_194 : decode cX9_readEntry 194 = .ok (.pop, 1) := by decide +kernel
theorem dX9_readEntry_195 : decode cX9_readEntry 195 = .ok (.goto 13, 3) := by decide +kernel
theorem dX9_readEntry_198 : decode cX9_readEntry 198 = .ok (.aload_n 0, 1) := by decide +kernel
theorem dX9_readEntry_199 : decode cX9_readEntry 199 = .ok (.dup, 1) := by decide +kernel
theorem dX9_readEntry_200 : decode cX9_readEntry 200 = .ok (.getfield 151, 3) := by decide +kernel
theorem dX9_readEntry_203 : decode cX9_readEntry 203 = .ok (.iconst 1, 1) := by decide +kernel
theorem dX9_readEntry_204 : decode cX9_readEntry 204 = .ok (.iadd, 1) := by decide +kernel
theorem dX9_readEntry_205 : decode cX9_readEntry 205 = .ok (.putfield 151, 3) := by decide +kernel
theorem dX9_readEntry_208 : decode cX9_readEntry 208 = .ok (.iload 5, 2) := by decide +kernel
theorem dX9_readEntry_210 : decode cX9_readEntry 210 = .ok (.iconst (-1), 1) := by decide +kernel
theorem dX9_readEntry_211 : decode cX9_readEntry 211 = .ok (.if_icmp .eq 7, 3) := by decide +kernel
theorem dX9_readEntry_214 : decode cX9_readEntry 214 = .ok (.iconst 1, 1) := by decide +kernel
theorem dX9_readEntry_215 : decode cX9_readEntry 215 = .ok (.goto 4, 3) := by decide +kernel
theorem dX9_readEntry_218 : decode cX9_readEntry 218 = .ok (.iconst 0, 1) := by decide +kernel
theorem dX9_readEntry_219 : decode cX9_readEntry 219 = .ok (.ireturn, 1) := by decide +kernel
theorem dX9_wrongWorld_0 : decode cX9_wrongWorld 0 = .ok (.aload_n 1, 1) := by decide +kernel
theorem dX9_wrongWorld_1 : decode cX9_wrongWorld 1 = .ok (.invokestatic 45, 3) := by decide +kernel
theorem dX9_wrongWorld_4 : decode cX9_wrongWorld 4 = .ok (.aload_n 0, 1) := by decide +kernel
theorem dX9_wrongWorld_5 : decode cX9_wrongWorld 5 = .ok (.iconst 0, 1) := by decide +kernel
theorem dX9_wrongWorld_6 : decode cX9_wrongWorld 6 = .ok (.putfield 122, 3) := by decide +kernel
theorem dX9_wrongWorld_9 : decode cX9_wrongWorld 9 = .ok (.aload_n 0, 1) := by decide +kernel
theorem dX9_wrongWorld_10 : decode cX9_wrongWorld 10 = .ok (.iconst 0, 1) := by decide +kernel
theorem dX9_wrongWorld_11 : decode cX9_wrongWorld 11 = .ok (.putfield 151, 3) := by decide +kernel
theorem dX9_wrongWorld_14 : decode cX9_wrongWorld 14 = .ok (.iconst 1, 1) := by decide +kernel
theorem dX9_wrongWorld_15 : decode cX9_wrongWorld 15 = .ok (.istore_n 2, 1) := by decide +kernel
theorem dX9_wrongWorld_16 : decode cX9_wrongWorld 16 = .ok (.iload_n 2, 1) := by decide +kernel
theorem dX9_wrongWorld_17 : decode cX9_wrongWorld 17 = .ok (.ifCond .eq 37, 3) := by decide +kernel
theorem dX9_wrongWorld_20 : decode cX9_wrongWorld 20 = .ok (.aload_n 0, 1) := by decide +kernel
theorem dX9_wrongWorld_21 : decode cX9_wrongWorld 21 = .ok (.aload_n 1, 1) := by decide +kernel
theorem dX9_wrongWorld_22 : decode cX9_wrongWorld 22 = .ok (.invokevirtual 162, 3) := by decide +kernel
theorem dX9_wrongWorld_25 : decode cX9_wrongWorld 25 = .ok (.ifCond .ne 8, 3) := by decide +kernel
theorem dX9_wrongWorld_28 : decode cX9_wrongWorld 28 = .ok (.aload_n 0, 1) := by decide +kernel
theorem dX9_wrongWorld_29 : decode cX9_wrongWorld 29 = .ok (.getfield 122, 3) := by decide +kernel
theorem dX9_wrongWorld_32 : decode cX9_wrongWorld 32 = .ok (.ireturn, 1) := by decide +kernel
theorem dX9_wrongWorld_33 : decode cX9_wrongWorld 33 = .ok (.aload_n 0, 1) := by decide +kernel
theorem dX9_wrongWorld_34 : decode cX9_wrongWorld 34 = .ok (.bipush 59, 2) := by decide +kernel
theorem dX9_wrongWorld_36 : decode cX9_wrongWorld 36 = .ok (.bipush 59, 2) := by decide +kernel
theorem dX9_wrongWorld_38 : decode cX9_wrongWorld 38 = .ok (.invokevirtual 129, 3) := by decide +kernel
theorem dX9_wrongWorld_41 : decode cX9_wrongWorld 41 = .ok (.iconst (-1), 1) := by decide +kernel
theorem dX9_wrongWorld_42 : decode cX9_wrongWorld 42 = .ok (.if_icmp .eq 7, 3) := by decide +kernel
theorem dX9_wrongWorld_45 : decode cX9_wrongWorld 45 = .ok (.iconst 1, 1) := by decide +kernel
theorem dX9_wrongWorld_46 : decode cX9_wrongWorld 46 = .ok (.goto 4, 3) := by decide +kernel
theorem dX9_wrongWorld_49 : decode cX9_wrongWorld 49 = .ok (.iconst 0, 1) := by decide +kernel
theorem dX9_wrongWorld_50 : decode cX9_wrongWorld 50 = .ok (.istore_n 2, 1) := by decide +kernel
theorem dX9_wrongWorld_51 : decode cX9_wrongWorld 51 = .ok (.goto (-35), 3) := by decide +kernel
theorem dX9_wrongWorld_54 : decode cX9_wrongWorld 54 = .ok (.aload_n 0, 1) := by decide +kernel
theorem dX9_wrongWorld_55 : decode cX9_wrongWorld 55 = .ok (.getfield 122, 3) := by decide +kernel
theorem dX9_wrongWorld_58 : decode cX9_wrongWorld 58 = .ok (.aload_n 0, 1) := by decide +kernel
theorem dX9_wrongWorld_59 : decode cX9_wrongWorld 59 = .ok (.getfield 115, 3) := by decide +kernel
theorem dX9_wrongWorld_62 : decode cX9_wrongWorld 62 = .ok (.if_icmp .ge 10, 3) := by decide +kernel
theorem dX9_wrongWorld_65 : decode cX9_wrongWorld 65 = .ok (.aload_n 0, 1) := by decide +kernel
theorem dX9_wrongWorld_66 : decode cX9_wrongWorld 66 = .ok (.getfield 122, 3) := by decide +kernel
theorem dX9_wrongWorld_69 : decode cX9_wrongWorld 69 = .ok (.goto 4, 3) := by decide +kernel
theorem dX9_wrongWorld_72 : decode cX9_wrongWorld 72 = .ok (.iconst (-1), 1) := by decide +kernel
theorem dX9_wrongWorld_73 : decode cX9_wrongWorld 73 = .ok (.ireturn, 1) := by decide +kernel
theorem dX9_errorPosition_0 : decode cX9_errorPosition 0 = .ok (.aload_n 0, 1) := by decide +kernel
theorem dX9_errorPosition_1 : decode cX9_errorPosition 1 = .ok (.iconst 0, 1) := by decide +kernel
theorem dX9_errorPosition_2 : decode cX9_errorPosition 2 = .ok (.putfield 55, 3) := by decide +kernel
theorem dX9_errorPosition_5 : decode cX9_errorPosition 5 = .ok (.iload_n 1, 1) := by decide +kernel
theorem dX9_errorPosition_6 : decode cX9_errorPosition 6 = .ok (.ifCond .eq 10, 3) := by decide +kernel
theorem dX9_errorPosition_9 : decode cX9_errorPosition 9 = .ok (.aload_n 0, 1) := by decide +kernel
theorem dX9_errorPosition_10 : decode cX9_errorPosition 10 = .ok (.invokevirtual 166, 3) := by decide +kernel
theorem dX9_errorPosition_13 : decode cX9_errorPosition 13 = .ok (.goto 11, 3) := by decide +kernel
theorem dX9_errorPosition_16 : decode cX9_errorPosition 16 = .ok (.aload_n 0, 1) := by decide +kernel
theorem dX9_errorPosition_17 : decode cX9_errorPosition 17 = .ok (.aload_n 0, 1) := by decide +kernel
theorem dX9_errorPosition_18 : decode cX9_errorPosition 18 = .ok (.getfield 17, 3) := by decide +kernel
theorem dX9_errorPosition_21 : decode cX9_errorPosition 21 = .ok (.invokevirtual 169, 3) := by decide +kernel
theorem dX9_errorPosition_24 : decode cX9_errorPosition 24 = .ok (.ireturn, 1) := by decide +kernel
theorem dX9_load_0 : decode cX9_load 0 = .ok (.aload_n 0, 1) := by decide +kernel
theorem dX9_load_1 : decode cX9_load 1 = .ok (.aload_n 0, 1) := by decide +kernel
theorem dX9_load_2 : decode cX9_load 2 = .ok (.aload_n 0, 1) := by decide +kernel
theorem dX9_load_3 : decode cX9_load 3 = .ok (.getfield 17, 3) := by decide +kernel
theorem dX9_load_6 : decode cX9_load 6 = .ok (.invokevirtual 169, 3) := by decide +kernel
theorem dX9_load_9 : decode cX9_load 9 = .ok (.iconst (-1), 1) := by decide +kernel
theorem dX9_load_10 : decode cX9_load 10 = .ok (.if_icmp .ne 7, 3) := by decide +kernel
theorem dX9_load_13 : decode cX9_load 13 = .ok (.iconst 0, 1) := by decide +kernel
theorem dX9_load_14 : decode cX9_load 14 = .ok (.goto 4, 3) := by decide +kernel
theorem dX9_load_17 : decode cX9_load 17 = .ok (.iconst 1, 1) := by decide +kernel
theorem dX9_load_18 : decode cX9_load 18 = .ok (.invokevirtual 118, 3) := by decide +kernel
theorem dX9_load_21 : decode cX9_load 21 = .ok (.ifCond .eq 5, 3) := by decide +kernel
theorem dX9_load_24 : decode cX9_load 24 = .ok (.iconst 0, 1) := by decide +kernel
theorem dX9_load_25 : decode cX9_load 25 = .ok (.ireturn, 1) := by decide +kernel
theorem dX9_load_26 : decode cX9_load 26 = .ok (.aload_n 0, 1) := by decide +kernel
theorem dX9_load_27 : decode cX9_load 27 = .ok (.getfield 17, 3) := by decide +kernel
theorem dX9_load_30 : decode cX9_load 30 = .ok (.iconst 0, 1) := by decide +kernel
theorem dX9_load_31 : decode cX9_load 31 = .ok (.aload_n 0, 1) := by decide +kernel
theorem dX9_load_32 : decode cX9_load 32 = .ok (.getfield 13, 3) := by decide +kernel
theorem dX9_load_35 : decode cX9_load 35 = .ok (.iconst 0, 1) := by decide +kernel
theorem dX9_load_36 : decode cX9_load 36 = .ok (.invokestatic 173, 3) := by decide +kernel
theorem dX9_load_39 : decode cX9_load 39 = .ok (.aload_n 0, 1) := by decide +kernel
theorem dX9_load_40 : decode cX9_load 40 = .ok (.iconst 0, 1) := by decide +kernel
theorem dX9_load_41 : decode cX9_load 41 = .ok (.putfield 177, 3) := by decide +kernel
theorem dX9_load_44 : decode cX9_load 44 = .ok (.aload_n 0, 1) := by decide +kernel
theorem dX9_load_45 : decode cX9_load 45 = .ok (.getfield 26, 3) := by decide +kernel
theorem dX9_load_48 : decode cX9_load 48 = .ok (.iconst 0, 1) := by decide +kernel
theorem dX9_load_49 : decode cX9_load 49 = .ok (.iconst 0, 1) := by decide +kernel
theorem dX9_load_50 : decode cX9_load 50 = .ok (.bastore, 1) := by decide +kernel
theorem dX9_load_51 : decode cX9_load 51 = .ok (.aload_n 0, 1) := by decide +kernel
theorem dX9_load_52 : decode cX9_load 52 = .ok (.getfield 26, 3) := by decide +kernel
theorem dX9_load_55 : decode cX9_load 55 = .ok (.iconst 1, 1) := by decide +kernel
theorem dX9_load_56 : decode cX9_load 56 = .ok (.iconst 0, 1) := by decide +kernel
theorem dX9_load_57 : decode cX9_load 57 = .ok (.bastore, 1) := by decide +kernel
theorem dX9_load_58 : decode cX9_load 58 = .ok (.aload_n 0, 1) := by decide +kernel
theorem dX9_load_59 : decode cX9_load 59 = .ok (.getfield 151, 3) := by decide +kernel
theorem dX9_load_62 : decode cX9_load 62 = .ok (.ireturn, 1) := by decide +kernel
theorem dX9_about_0 : decode cX9_about 0 = .ok (.aload_n 0, 1) := by decide +kernel
theorem dX9_about_1 : decode cX9_about 1 = .ok (.iload_n 1, 1) := by decide +kernel
theorem dX9_about_2 : decode cX9_about 2 = .ok (.i2l, 1) := by decide +kernel
theorem dX9_about_3 : decode cX9_about 3 = .ok (.lconst 0, 1) := by decide +kernel
theorem dX9_about_4 : decode cX9_about 4 = .ok (.ldc2_w 180, 3) := by decide +kernel
theorem dX9_about_7 : decode cX9_about 7 = .ok (.invokestatic 59, 3) := by decide +kernel
theorem dX9_about_10 : decode cX9_about 10 = .ok (.ifCond .eq 7, 3) := by decide +kernel
theorem dX9_about_13 : decode cX9_about 13 = .ok (.iconst 0, 1) := by decide +kernel
theorem dX9_about_14 : decode cX9_about 14 = .ok (.goto 4, 3) := by decide +kernel
theorem dX9_about_17 : decode cX9_about 17 = .ok (.iconst 1, 1) := by decide +kernel
theorem dX9_about_18 : decode cX9_about 18 = .ok (.invokevirtual 118, 3) := by decide +kernel
theorem dX9_about_21 : decode cX9_about 21 = .ok (.ifCond .eq 5, 3) := by decide +kernel
theorem dX9_about_24 : decode cX9_about 24 = .ok (.iconst 0, 1) := by decide +kernel
theorem dX9_about_25 : decode cX9_about 25 = .ok (.ireturn, 1) := by decide +kernel
theorem dX9_about_26 : decode cX9_about 26 = .ok (.iload_n 1, 1) := by decide +kernel
theorem dX9_about_27 : decode cX9_about 27 = .ok (.ifCond .ne 12, 3) := by decide +kernel
theorem dX9_about_30 : decode cX9_about 30 = .ok (.aload_n 0, 1) := by decide +kernel
theorem dX9_about_31 : decode cX9_about 31 = .ok (.getfield 13, 3) := by decide +kernel
theorem dX9_about_34 : decode cX9_about 34 = .ok (.iconst 0, 1) := by decide +kernel
theorem dX9_about_35 : decode cX9_about 35 = .ok (.laload, 1) := by decide +kernel
theorem dX9_about_36 : decode cX9_about 36 = .ok (.goto 50, 3) := by decide +kernel
theorem dX9_about_39 : decode cX9_about 39 = .ok (.iload_n 1, 1) := by decide +kernel
theorem dX9_about_40 : decode cX9_about 40 = .ok (.iconst 1, 1) := by decide +kernel
theorem dX9_about_41 : decode cX9_about 41 = .ok (.if_icmp .ne 15, 3) := by decide +kernel
theorem dX9_about_44 : decode cX9_about 44 = .ok (.aload_n 0, 1) := by decide +kernel
theorem dX9_about_45 : decode cX9_about 45 = .ok (.getfield 13, 3) := by decide +kernel
theorem dX9_about_48 : decode cX9_about 48 = .ok (.bipush 8, 2) := by decide +kernel
theorem dX9_about_50 : decode cX9_about 50 = .ok (.invokestatic 138, 3) := by decide +kernel
theorem dX9_about_53 : decode cX9_about 53 = .ok (.goto 33, 3) := by decide +kernel
theorem dX9_about_56 : decode cX9_about 56 = .ok (.iload_n 1, 1) := by decide +kernel
theorem dX9_about_57 : decode cX9_about 57 = .ok (.iconst 2, 1) := by decide +kernel
theorem dX9_about_58 : decode cX9_about 58 = .ok (.if_icmp .ne 16, 3) := by decide +kernel
theorem dX9_about_61 : decode cX9_about 61 = .ok (.aload_n 0, 1) := by decide +kernel
theorem dX9_about_62 : decode cX9_about 62 = .ok (.getfield 13, 3) := by decide +kernel
theorem dX9_about_65 : decode cX9_about 65 = .ok (.sipush 155, 3) := by decide +kernel
theorem dX9_about_68 : decode cX9_about 68 = .ok (.invokestatic 138, 3) := by decide +kernel
theorem dX9_about_71 : decode cX9_about 71 = .ok (.goto 15, 3) := by decide +kernel
theorem dX9_about_74 : decode cX9_about 74 = .ok (.aload_n 0, 1) := by decide +kernel
theorem dX9_about_75 : decode cX9_about 75 = .ok (.getfield 13, 3) := by decide +kernel
theorem dX9_about_78 : decode cX9_about 78 = .ok (.sipush 305, 3) := by decide +kernel
theorem dX9_about_81 : decode cX9_about 81 = .ok (.iload_n 1, 1) := by decide +kernel
theorem dX9_about_82 : decode cX9_about 82 = .ok (.iadd, 1) := by decide +kernel
theorem dX9_about_83 : decode cX9_about 83 = .ok (.iconst 3, 1) := by decide +kernel
theorem dX9_about_84 : decode cX9_about 84 = .ok (.isub, 1) := by decide +kernel
theorem dX9_about_85 : decode cX9_about 85 = .ok (.laload, 1) := by decide +kernel
theorem dX9_about_86 : decode cX9_about 86 = .ok (.l2i, 1) := by decide +kernel
theorem dX9_about_87 : decode cX9_about 87 = .ok (.ireturn, 1) := by decide +kernel
theorem dX9_sum_0 : decode cX9_sum 0 = .ok (.aload_n 0, 1) := by decide +kernel
theorem dX9_sum_1 : decode cX9_sum 1 = .ok (.iload_n 1, 1) := by decide +kernel
theorem dX9_sum_2 : decode cX9_sum 2 = .ok (.i2l, 1) := by decide +kernel
theorem dX9_sum_3 : decode cX9_sum 3 = .ok (.lconst 0, 1) := by decide +kernel
theorem dX9_sum_4 : decode cX9_sum 4 = .ok (.ldc2_w 86, 3) := by decide +kernel
theorem dX9_sum_7 : decode cX9_sum 7 = .ok (.invokestatic 59, 3) := by decide +kernel
theorem dX9_sum_10 : decode cX9_sum 10 = .ok (.ifCond .eq 7, 3) := by decide +kernel
theorem dX9_sum_13 : decode cX9_sum 13 = .ok (.iconst 0, 1) := by decide +kernel
theorem dX9_sum_14 : decode cX9_sum 14 = .ok (.goto 4, 3) := by decide +kernel
theorem dX9_sum_17 : decode cX9_sum 17 = .ok (.iconst 1, 1) := by decide +kernel
theorem dX9_sum_18 : decode cX9_sum 18 = .ok (.invokevirtual 118, 3) := by decide +kernel
theorem dX9_sum_21 : decode cX9_sum 21 = .ok (.ifCond .eq 5, 3) := by decide +kernel
theorem dX9_sum_24 : decode cX9_sum 24 = .ok (.lconst 0, 1) := by decide +kernel
theorem dX9_sum_25 : decode cX9_sum 25 = .ok (.lreturn, 1) := by decide +kernel
theorem dX9_sum_26 : decode cX9_sum 26 = .ok (.aload_n 0, 1) := by decide +kernel
theorem dX9_sum_27 : decode cX9_sum 27 = .ok (.getfield 13, 3) := by decide +kernel
theorem dX9_sum_30 : decode cX9_sum 30 = .ok (.sipush 308, 3) := by decide +kernel
theorem dX9_sum_33 : decode cX9_sum 33 = .ok (.iload_n 1, 1) := by decide +kernel
theorem dX9_sum_34 : decode cX9_sum 34 = .ok (.iadd, 1) := by decide +kernel
theorem dX9_sum_35 : decode cX9_sum 35 = .ok (.laload, 1) := by decide +kernel
theorem dX9_sum_36 : decode cX9_sum 36 = .ok (.lreturn, 1) := by decide +kernel
theorem dX9_size_0 : decode cX9_size 0 = .ok (.aload_n 0, 1) := by decide +kernel
theorem dX9_size_1 : decode cX9_size 1 = .ok (.aload_n 0, 1) := by decide +kernel
theorem dX9_size_2 : decode cX9_size 2 = .ok (.getfield 13, 3) := by decide +kernel
theorem dX9_size_5 : decode cX9_size 5 = .ok (.iload_n 1, 1) := by decide +kernel
theorem dX9_size_6 : decode cX9_size 6 = .ok (.invokestatic 154, 3) := by decide +kernel
theorem dX9_size_9 : decode cX9_size 9 = .ok (.ifCond .eq 7, 3) := by decide +kernel
theorem dX9_size_12 : decode cX9_size 12 = .ok (.iconst 0, 1) := by decide +kernel
theorem dX9_size_13 : decode cX9_size 13 = .ok (.goto 4, 3) := by decide +kernel
theorem dX9_size_16 : decode cX9_size 16 = .ok (.iconst 1, 1) := by decide +kernel
theorem dX9_size_17 : decode cX9_size 17 = .ok (.invokevirtual 118, 3) := by decide +kernel
theorem dX9_size_20 : decode cX9_size 20 = .ok (.ifCond .eq 5, 3) := by decide +kernel
theorem dX9_size_23 : decode cX9_size 23 = .ok (.iconst 0, 1) := by decide +kernel
theorem dX9_size_24 : decode cX9_size 24 = .ok (.ireturn, 1) := by decide +kernel
theorem dX9_size_25 : decode cX9_size 25 = .ok (.aload_n 0, 1) := by decide +kernel
theorem dX9_size_26 : decode cX9_size 26 = .ok (.getfield 13, 3) := by decide +kernel
theorem dX9_size_29 : decode cX9_size 29 = .ok (.iconst 1, 1) := by decide +kernel
theorem dX9_size_30 : decode cX9_size 30 = .ok (.iload_n 1, 1) := by decide +kernel
theorem dX9_size_31 : decode cX9_size 31 = .ok (.iadd, 1) := by decide +kernel
theorem dX9_size_32 : decode cX9_size 32 = .ok (.laload, 1) := by decide +kernel
theorem dX9_size_33 : decode cX9_size 33 = .ok (.l2i, 1) := by decide +kernel
theorem dX9_size_34 : decode cX9_size 34 = .ok (.ireturn, 1) := by decide +kernel
theorem dX9_arePair_0 : decode cX9_arePair 0 = .ok (.aload_n 0, 1) := by decide +kernel
theorem dX9_arePair_1 : decode cX9_arePair 1 = .ok (.iload_n 1, 1) := by decide +kernel
theorem dX9_arePair_2 : decode cX9_arePair 2 = .ok (.invokestatic 154, 3) := by decide +kernel
theorem dX9_arePair_5 : decode cX9_arePair 5 = .ok (.ifCond .eq 15, 3) := by decide +kernel
theorem dX9_arePair_8 : decode cX9_arePair 8 = .ok (.aload_n 0, 1) := by decide +kernel
theorem dX9_arePair_9 : decode cX9_arePair 9 = .ok (.iload_n 2, 1) := by decide +kernel
theorem dX9_arePair_10 : decode cX9_arePair 10 = .ok (.invokestatic 154, 3) := by decide +kernel
theorem dX9_arePair_13 : decode cX9_arePair 13 = .ok (.ifCond .eq 7, 3) := by decide +kernel
theorem dX9_arePair_16 : decode cX9_arePair 16 = .ok (.iconst 1, 1) := by decide +kernel
theorem dX9_arePair_17 : decode cX9_arePair 17 = .ok (.goto 4, 3) := by decide +kernel
theorem dX9_arePair_20 : decode cX9_arePair 20 = .ok (.iconst 0, 1) := by decide +kernel
theorem dX9_arePair_21 : decode cX9_arePair 21 = .ok (.ireturn, 1) := by decide +kernel
theorem dX9_pair_0 : decode cX9_pair 0 = .ok (.aload_n 0, 1) := by decide +kernel
theorem dX9_pair_1 : decode cX9_pair 1 = .ok (.aload_n 0, 1) := by decide +kernel
theorem dX9_pair_2 : decode cX9_pair 2 = .ok (.getfield 13, 3) := by decide +kernel
theorem dX9_pair_5 : decode cX9_pair 5 = .ok (.iload_n 1, 1) := by decide +kernel
theorem dX9_pair_6 : decode cX9_pair 6 = .ok (.iload_n 2, 1) := by decide +kernel
theorem dX9_pair_7 : decode cX9_pair 7 = .ok (.invokestatic 182, 3) := by decide +kernel
theorem dX9_pair_10 : decode cX9_pair 10 = .ok (.ifCond .ne 7, 3) := by decide +kernel
theorem dX9_pair_13 : decode cX9_pair 13 = .ok (.iconst 1, 1) := by decide +kernel
theorem dX9_pair_14 : decode cX9_pair 14 = .ok (.goto 25, 3) := by decide +kernel
theorem dX9_pair_17 : decode cX9_pair 17 = .ok (.iload_n 1, 1) := by decide +kernel
theorem dX9_pair_18 : decode cX9_pair 18 = .ok (.iload_n 2, 1) := by decide +kernel
theorem dX9_pair_19 : decode cX9_pair 19 = .ok (.if_icmp .eq 15, 3) := by decide +kernel
theorem dX9_pair_22 : decode cX9_pair 22 = .ok (.iload_n 3, 1) := by decide +kernel
theorem dX9_pair_23 : decode cX9_pair 23 = .ok (.i2l, 1) := by decide +kernel
theorem dX9_pair_24 : decode cX9_pair 24 = .ok (.lconst 0, 1) := by decide +kernel
theorem dX9_pair_25 : decode cX9_pair 25 = .ok (.ldc2_w 53, 3) := by decide +kernel
theorem dX9_pair_28 : decode cX9_pair 28 = .ok (.invokestatic 59, 3) := by decide +kernel
theorem dX9_pair_31 : decode cX9_pair 31 = .ok (.ifCond .ne 7, 3) := by decide +kernel
theorem dX9_pair_34 : decode cX9_pair 34 = .ok (.iconst 2, 1) := by decide +kernel
theorem dX9_pair_35 : decode cX9_pair 35 = .ok (.goto 4, 3) := by decide +kernel
theorem dX9_pair_38 : decode cX9_pair 38 = .ok (.iconst 0, 1) := by decide +kernel
theorem dX9_pair_39 : decode cX9_pair 39 = .ok (.invokevirtual 118, 3) := by decide +kernel
theorem dX9_pair_42 : decode cX9_pair 42 = .ok (.ifCond .eq 5, 3) := by decide +kernel
theorem dX9_pair_45 : decode cX9_pair 45 = .ok (.iconst 0, 1) := by decide +kernel
theorem dX9_pair_46 : decode cX9_pair 46 = .ok (.ireturn, 1) := by decide +kernel
theorem dX9_pair_47 : decode cX9_pair 47 = .ok (.iload_n 1, 1) := by decide +kernel
theorem dX9_pair_48 : decode cX9_pair 48 = .ok (.iload_n 2, 1) := by decide +kernel
theorem dX9_pair_49 : decode cX9_pair 49 = .ok (.invokestatic 73, 3) := by decide +kernel
theorem dX9_pair_52 : decode cX9_pair 52 = .ok (.istore 4, 2) := by decide +kernel
theorem dX9_pair_54 : decode cX9_pair 54 = .ok (.aload_n 0, 1) := by decide +kernel
theorem dX9_pair_55 : decode cX9_pair 55 = .ok (.getfield 13, 3) := by decide +kernel
theorem dX9_pair_58 : decode cX9_pair 58 = .ok (.bipush 8, 2) := by decide +kernel
theorem dX9_pair_60 : decode cX9_pair 60 = .ok (.iload 4, 2) := by decide +kernel
theorem dX9_pair_62 : decode cX9_pair 62 = .ok (.iadd, 1) := by decide +kernel
theorem dX9_pair_63 : decode cX9_pair 63 = .ok (.laload, 1) := by decide +kernel
theorem dX9_pair_64 : decode cX9_pair 64 = .ok (.lconst 0, 1) := by decide +kernel
theorem dX9_pair_65 : decode cX9_pair 65 = .ok (.lcmp, 1) := by decide +kernel
theorem dX9_pair_66 : decode cX9_pair 66 = .ok (.ifCond .ne 5, 3) := by decide +kernel
theorem dX9_pair_69 : decode cX9_pair 69 = .ok (.iconst (-1), 1) := by decide +kernel
theorem dX9_pair_70 : decode cX9_pair 70 = .ok (.ireturn, 1) := by decide +kernel
theorem dX9_pair_71 : decode cX9_pair 71 = .ok (.iload_n 3, 1) := by decide +kernel
theorem dX9_pair_72 : decode cX9_pair 72 = .ok (.tableswitch 100 0 3 #[32, 44, 56, 67], 32) := by decide +kernel
theorem dX9_pair_104 : decode cX9_pair 104 = .ok (.aload_n 0, 1) := by decide +kernel
theorem dX9_pair_105 : decode cX9_pair 105 = .ok (.getfield 13, 3) := by decide +kernel
theorem dX9_pair_108 : decode cX9_pair 108 = .ok (.bipush 57, 2) := by decide +kernel
theorem dX9_pair_110 : decode cX9_pair 110 = .ok (.iload 4, 2) := by decide +kernel
theorem dX9_pair_112 : decode cX9_pair 112 = .ok (.iadd, 1) := by decide +kernel
theorem dX9_pair_113 : decode cX9_pair 113 = .ok (.laload, 1) := by decide +kernel
theorem dX9_pair_114 : decode cX9_pair 114 = .ok (.l2i, 1) := by decide +kernel
theorem dX9_pair_115 : decode cX9_pair 115 = .ok (.ireturn, 1) := by decide +kernel
theorem dX9_pair_116 : decode cX9_pair 116 = .ok (.aload_n 0, 1) := by decide +kernel
theorem dX9_pair_117 : decode cX9_pair 117 = .ok (.getfield 13, 3) := by decide +kernel
theorem dX9_pair_120 : decode cX9_pair 120 = .ok (.bipush 106, 2) := by decide +kernel
theorem dX9_pair_122 : decode cX9_pair 122 = .ok (.iload 4, 2) := by decide +kernel
theorem dX9_pair_124 : decode cX9_pair 124 = .ok (.iadd, 1) := by decide +kernel
theorem dX9_pair_125 : decode cX9_pair 125 = .ok (.laload, 1) := by decide +kernel
theorem dX9_pair_126 : decode cX9_pair 126 = .ok (.l2i, 1) := by decide +kernel
theorem dX9_pair_127 : decode cX9_pair 127 = .ok (.ireturn, 1) := by decide +kernel
theorem dX9_pair_128 : decode cX9_pair 128 = .ok (.aload_n 0, 1) := by decide +kernel
theorem dX9_pair_129 : decode cX9_pair 129 = .ok (.getfield 13, 3) := by decide +kernel
theorem dX9_pair_132 : decode cX9_pair 132 = .ok (.iload 4, 2) := by decide +kernel
theorem dX9_pair_134 : decode cX9_pair 134 = .ok (.invokestatic 63, 3) := by decide +kernel
theorem dX9_pair_137 : decode cX9_pair 137 = .ok (.l2i, 1) := by decide +kernel
theorem dX9_pair_138 : decode cX9_pair 138 = .ok (.ireturn, 1) := by decide +kernel
theorem dX9_pair_139 : decode cX9_pair 139 = .ok (.aload_n 0, 1) := by decide +kernel
theorem dX9_pair_140 : decode cX9_pair 140 = .ok (.getfield 13, 3) := by decide +kernel
theorem dX9_pair_143 : decode cX9_pair 143 = .ok (.sipush 155, 3) := by decide +kernel
theorem dX9_pair_146 : decode cX9_pair 146 = .ok (.iload 4, 2) := by decide +kernel
theorem dX9_pair_148 : decode cX9_pair 148 = .ok (.iadd, 1) := by decide +kernel
theorem dX9_pair_149 : decode cX9_pair 149 = .ok (.laload, 1) := by decide +kernel
theorem dX9_pair_150 : decode cX9_pair 150 = .ok (.lconst 0, 1) := by decide +kernel
theorem dX9_pair_151 : decode cX9_pair 151 = .ok (.lcmp, 1) := by decide +kernel
theorem dX9_pair_152 : decode cX9_pair 152 = .ok (.ifCond .le 18, 3) := by decide +kernel
theorem dX9_pair_155 : decode cX9_pair 155 = .ok (.aload_n 0, 1) := by decide +kernel
theorem dX9_pair_156 : decode cX9_pair 156 = .ok (.getfield 13, 3) := by decide +kernel
theorem dX9_pair_159 : decode cX9_pair 159 = .ok (.sipush 204, 3) := by decide +kernel
theorem dX9_pair_162 : decode cX9_pair 162 = .ok (.iload 4, 2) := by decide +kernel
theorem dX9_pair_164 : decode cX9_pair 164 = .ok (.iadd, 1) := by decide +kernel
theorem dX9_pair_165 : decode cX9_pair 165 = .ok (.laload, 1) := by decide +kernel
theorem dX9_pair_166 : decode cX9_pair 166 = .ok (.l2i, 1) := by decide +kernel
theorem dX9_pair_167 : decode cX9_pair 167 = .ok (.goto 4, 3) := by decide +kernel
theorem dX9_pair_170 : decode cX9_pair 170 = .ok (.iconst (-1), 1) := by decide +kernel
theorem dX9_pair_171 : decode cX9_pair 171 = .ok (.ireturn, 1) := by decide +kernel
theorem dX9_pair_172 : decode cX9_pair 172 = .ok (.aload_n 0, 1) := by decide +kernel
theorem dX9_pair_173 : decode cX9_pair 173 = .ok (.getfield 13, 3) := by decide +kernel
theorem dX9_pair_176 : decode cX9_pair 176 = .ok (.sipush 253, 3) := by decide +kernel
theorem dX9_pair_179 : decode cX9_pair 179 = .ok (.iload 4, 2) := by decide +kernel
theorem dX9_pair_181 : decode cX9_pair 181 = .ok (.iadd, 1) := by decide +kernel
theorem dX9_pair_182 : decode cX9_pair 182 = .ok (.laload, 1) := by decide +kernel
theorem dX9_pair_183 : decode cX9_pair 183 = .ok (.l2i, 1) := by decide +kernel
theorem dX9_pair_184 : decode cX9_pair 184 = .ok (.ireturn, 1) := by decide +kernel
theorem dX9_surprise_0 : decode cX9_surprise 0 = .ok (.aload_n 0, 1) := by decide +kernel
theorem dX9_surprise_1 : decode cX9_surprise 1 = .ok (.iload_n 1, 1) := by decide +kernel
theorem dX9_surprise_2 : decode cX9_surprise 2 = .ok (.i2l, 1) := by decide +kernel
theorem dX9_surprise_3 : decode cX9_surprise 3 = .ok (.lconst 0, 1) := by decide +kernel
theorem dX9_surprise_4 : decode cX9_surprise 4 = .ok (.ldc2_w 186, 3) := by decide +kernel
theorem dX9_surprise_7 : decode cX9_surprise 7 = .ok (.invokestatic 59, 3) := by decide +kernel
theorem dX9_surprise_10 : decode cX9_surprise 10 = .ok (.ifCond .eq 19, 3) := by decide +kernel
theorem dX9_surprise_13 : decode cX9_surprise 13 = .ok (.iload_n 2, 1) := by decide +kernel
theorem dX9_surprise_14 : decode cX9_surprise 14 = .ok (.i2l, 1) := by decide +kernel
theorem dX9_surprise_15 : decode cX9_surprise 15 = .ok (.lconst 0, 1) := by decide +kernel
theorem dX9_surprise_16 : decode cX9_surprise 16 = .ok (.ldc2_w 86, 3) := by decide +kernel
theorem dX9_surprise_19 : decode cX9_surprise 19 = .ok (.invokestatic 59, 3) := by decide +kernel
theorem dX9_surprise_22 : decode cX9_surprise 22 = .ok (.ifCond .eq 7, 3) := by decide +kernel
theorem dX9_surprise_25 : decode cX9_surprise 25 = .ok (.iconst 0, 1) := by decide +kernel
theorem dX9_surprise_26 : decode cX9_surprise 26 = .ok (.goto 4, 3) := by decide +kernel
theorem dX9_surprise_29 : decode cX9_surprise 29 = .ok (.iconst 1, 1) := by decide +kernel
theorem dX9_surprise_30 : decode cX9_surprise 30 = .ok (.invokevirtual 118, 3) := by decide +kernel
theorem dX9_surprise_33 : decode cX9_surprise 33 = .ok (.ifCond .eq 5, 3) := by decide +kernel
theorem dX9_surprise_36 : decode cX9_surprise 36 = .ok (.iconst 0, 1) := by decide +kernel
theorem dX9_surprise_37 : decode cX9_surprise 37 = .ok (.ireturn, 1) := by decide +kernel
theorem dX9_surprise_38 : decode cX9_surprise 38 = .ok (.iload_n 1, 1) := by decide +kernel
theorem dX9_surprise_39 : decode cX9_surprise 39 = .ok (.i2l, 1) := by decide +kernel
theorem dX9_surprise_40 : decode cX9_surprise 40 = .ok (.aload_n 0, 1) := by decide +kernel
theorem dX9_surprise_41 : decode cX9_surprise 41 = .ok (.getfield 13, 3) := by decide +kernel
theorem dX9_surprise_44 : decode cX9_surprise 44 = .ok (.sipush 312, 3) := by decide +kernel
theorem dX9_surprise_47 : decode cX9_surprise 47 = .ok (.laload, 1) := by decide +kernel
theorem dX9_surprise_48 : decode cX9_surprise 48 = .ok (.lcmp, 1) := by decide +kernel
theorem dX9_surprise_49 : decode cX9_surprise 49 = .ok (.ifCond .ge 21, 3) := by decide +kernel
theorem dX9_surprise_52 : decode cX9_surprise 52 = .ok (.aload_n 0, 1) := by decide +kernel
theorem dX9_surprise_53 : decode cX9_surprise 53 = .ok (.getfield 13, 3) := by decide +kernel
theorem dX9_surprise_56 : decode cX9_surprise 56 = .ok (.sipush 313, 3) := by decide +kernel
theorem dX9_surprise_59 : decode cX9_surprise 59 = .ok (.iconst 4, 1) := by decide +kernel
theorem dX9_surprise_60 : decode cX9_surprise 60 = .ok (.iload_n 1, 1) := by decide +kernel
theorem dX9_surprise_61 : decode cX9_surprise 61 = .ok (.imul, 1) := by decide +kernel
theorem dX9_surprise_62 : decode cX9_surprise 62 = .ok (.iadd, 1) := by decide +kernel
theorem dX9_surprise_63 : decode cX9_surprise 63 = .ok (.iload_n 2, 1) := by decide +kernel
theorem dX9_surprise_64 : decode cX9_surprise 64 = .ok (.iadd, 1) := by decide +kernel
theorem dX9_surprise_65 : decode cX9_surprise 65 = .ok (.laload, 1) := by decide +kernel
theorem dX9_surprise_66 : decode cX9_surprise 66 = .ok (.l2i, 1) := by decide +kernel
theorem dX9_surprise_67 : decode cX9_surprise 67 = .ok (.goto 4, 3) := by decide +kernel
theorem dX9_surprise_70 : decode cX9_surprise 70 = .ok (.iconst (-1), 1) := by decide +kernel
theorem dX9_surprise_71 : decode cX9_surprise 71 = .ok (.ireturn, 1) := by decide +kernel
theorem dX9_setting_0 : decode cX9_setting 0 = .ok (.aload_n 0, 1) := by decide +kernel
theorem dX9_setting_1 : decode cX9_setting 1 = .ok (.iload_n 1, 1) := by decide +kernel
theorem dX9_setting_2 : decode cX9_setting 2 = .ok (.i2l, 1) := by decide +kernel
theorem dX9_setting_3 : decode cX9_setting 3 = .ok (.lconst 0, 1) := by decide +kernel
theorem dX9_setting_4 : decode cX9_setting 4 = .ok (.ldc2_w 188, 3) := by decide +kernel
theorem dX9_setting_7 : decode cX9_setting 7 = .ok (.invokestatic 59, 3) := by decide +kernel
theorem dX9_setting_10 : decode cX9_setting 10 = .ok (.ifCond .eq 7, 3) := by decide +kernel
theorem dX9_setting_13 : decode cX9_setting 13 = .ok (.iconst 0, 1) := by decide +kernel
theorem dX9_setting_14 : decode cX9_setting 14 = .ok (.goto 4, 3) := by decide +kernel
theorem dX9_setting_17 : decode cX9_setting 17 = .ok (.iconst 1, 1) := by decide +kernel
theorem dX9_setting_18 : decode cX9_setting 18 = .ok (.invokevirtual 118, 3) := by decide +kernel
theorem dX9_setting_21 : decode cX9_setting 21 = .ok (.ifCond .eq 5, 3) := by decide +kernel
theorem dX9_setting_24 : decode cX9_setting 24 = .ok (.iconst 0, 1) := by decide +kernel
theorem dX9_setting_25 : decode cX9_setting 25 = .ok (.ireturn, 1) := by decide +kernel
theorem dX9_setting_26 : decode cX9_setting 26 = .ok (.aload_n 0, 1) := by decide +kernel
theorem dX9_setting_27 : decode cX9_setting 27 = .ok (.getfield 13, 3) := by decide +kernel
theorem dX9_setting_30 : decode cX9_setting 30 = .ok (.sipush 302, 3) := by decide +kernel
theorem dX9_setting_33 : decode cX9_setting 33 = .ok (.iload_n 1, 1) := by decide +kernel
theorem dX9_setting_34 : decode cX9_setting 34 = .ok (.iadd, 1) := by decide +kernel
theorem dX9_setting_35 : decode cX9_setting 35 = .ok (.laload, 1) := by decide +kernel
theorem dX9_setting_36 : decode cX9_setting 36 = .ok (.l2i, 1) := by decide +kernel
theorem dX9_setting_37 : decode cX9_setting 37 = .ok (.ireturn, 1) := by decide +kernel
theorem dX9_remember_0 : decode cX9_remember 0 = .ok (.aload_n 0, 1) := by decide +kernel
theorem dX9_remember_1 : decode cX9_remember 1 = .ok (.getfield 177, 3) := by decide +kernel
theorem dX9_remember_4 : decode cX9_remember 4 = .ok (.bipush 14, 2) := by decide +kernel
theorem dX9_remember_6 : decode cX9_remember 6 = .ok (.if_icmp .ne 44, 3) := by decide +kernel
theorem dX9_remember_9 : decode cX9_remember 9 = .ok (.iconst 0, 1) := by decide +kernel
theorem dX9_remember_10 : decode cX9_remember 10 = .ok (.istore_n 1, 1) := by decide +kernel
theorem dX9_remember_11 : decode cX9_remember 11 = .ok (.iload_n 1, 1) := by decide +kernel
theorem dX9_remember_12 : decode cX9_remember 12 = .ok (.sipush 4589, 3) := by decide +kernel
theorem dX9_remember_15 : decode cX9_remember 15 = .ok (.if_icmp .ge 25, 3) := by decide +kernel
theorem dX9_remember_18 : decode cX9_remember 18 = .ok (.aload_n 0, 1) := by decide +kernel
theorem dX9_remember_19 : decode cX9_remember 19 = .ok (.getfield 20, 3) := by decide +kernel
theorem dX9_remember_22 : decode cX9_remember 22 = .ok (.iload_n 1, 1) := by decide +kernel
theorem dX9_remember_23 : decode cX9_remember 23 = .ok (.aload_n 0, 1) := by decide +kernel
theorem dX9_remember_24 : decode cX9_remember 24 = .ok (.getfield 20, 3) := by decide +kernel
theorem dX9_remember_27 : decode cX9_remember 27 = .ok (.iload_n 1, 1) := by decide +kernel
theorem dX9_remember_28 : decode cX9_remember 28 = .ok (.sipush 353, 3) := by decide +kernel
theorem dX9_remember_31 : decode cX9_remember 31 = .ok (.iadd, 1) := by decide +kernel
theorem dX9_remember_32 : decode cX9_remember 32 = .ok (.laload, 1) := by decide +kernel
theorem dX9_remember_33 : decode cX9_remember 33 = .ok (.lastore, 1) := by decide +kernel
theorem dX9_remember_34 : decode cX9_remember 34 = .ok (.iinc 1 1, 3) := by decide +kernel
theorem dX9_remember_37 : decode cX9_remember 37 = .ok (.goto (-26), 3) := by decide +kernel
theorem dX9_remember_40 : decode cX9_remember 40 = .ok (.aload_n 0, 1) := by decide +kernel
theorem dX9_remember_41 : decode cX9_remember 41 = .ok (.dup, 1) := by decide +kernel
theorem dX9_remember_42 : decode cX9_remember 42 = .ok (.getfield 177, 3) := by decide +kernel
theorem dX9_remember_45 : decode cX9_remember 45 = .ok (.iconst 1, 1) := by decide +kernel
theorem dX9_remember_46 : decode cX9_remember 46 = .ok (.isub, 1) := by decide +kernel
theorem dX9_remember_47 : decode cX9_remember 47 = .ok (.putfield 177, 3) := by decide +kernel
theorem dX9_remember_50 : decode cX9_remember 50 = .ok (.aload_n 0, 1) := by decide +kernel
theorem dX9_remember_51 : decode cX9_remember 51 = .ok (.getfield 13, 3) := by decide +kernel
theorem dX9_remember_54 : decode cX9_remember 54 = .ok (.iconst 0, 1) := by decide +kernel
theorem dX9_remember_55 : decode cX9_remember 55 = .ok (.aload_n 0, 1) := by decide +kernel
theorem dX9_remember_56 : decode cX9_remember 56 = .ok (.getfield 20, 3) := by decide +kernel
theorem dX9_remember_59 : decode cX9_remember 59 = .ok (.sipush 353, 3) := by decide +kernel
theorem dX9_remember_62 : decode cX9_remember 62 = .ok (.aload_n 0, 1) := by decide +kernel
theorem dX9_remember_63 : decode cX9_remember 63 = .ok (.getfield 177, 3) := by decide +kernel
theorem dX9_remember_66 : decode cX9_remember 66 = .ok (.imul, 1) := by decide +kernel
theorem dX9_remember_67 : decode cX9_remember 67 = .ok (.invokestatic 173, 3) := by decide +kernel
theorem dX9_remember_70 : decode cX9_remember 70 = .ok (.aload_n 0, 1) := by decide +kernel
theorem dX9_remember_71 : decode cX9_remember 71 = .ok (.dup, 1) := by decide +kernel
theorem dX9_remember_72 : decode cX9_remember 72 = .ok (.getfield 177, 3) := by decide +kernel
theorem dX9_remember_75 : decode cX9_remember 75 = .ok (.iconst 1, 1) := by decide +kernel
theorem dX9_remember_76 : decode cX9_remember 76 = .ok (.iadd, 1) := by decide +kernel
theorem dX9_remember_77 : decode cX9_remember 77 = .ok (.putfield 177, 3) := by decide +kernel
theorem dX9_remember_80 : decode cX9_remember 80 = .ok (.return_, 1) := by decide +kernel
theorem dX9_add_0 : decode cX9_add 0 = .ok (.aload_n 0, 1) := by decide +kernel
theorem dX9_add_1 : decode cX9_add 1 = .ok (.iload_n 1, 1) := by decide +kernel
theorem dX9_add_2 : decode cX9_add 2 = .ok (.i2l, 1) := by decide +kernel
theorem dX9_add_3 : decode cX9_add 3 = .ok (.lconst 1, 1) := by decide +kernel
theorem dX9_add_4 : decode cX9_add 4 = .ok (.ldc2_w 190, 3) := by decide +kernel
theorem dX9_add_7 : decode cX9_add 7 = .ok (.invokestatic 59, 3) := by decide +kernel
theorem dX9_add_10 : decode cX9_add 10 = .ok (.ifCond .ne 7, 3) := by decide +kernel
theorem dX9_add_13 : decode cX9_add 13 = .ok (.iconst 1, 1) := by decide +kernel
theorem dX9_add_14 : decode cX9_add 14 = .ok (.goto 21, 3) := by decide +kernel
theorem dX9_add_17 : decode cX9_add 17 = .ok (.aload_n 0, 1) := by decide +kernel
theorem dX9_add_18 : decode cX9_add 18 = .ok (.getfield 13, 3) := by decide +kernel
theorem dX9_add_21 : decode cX9_add 21 = .ok (.iconst 0, 1) := by decide +kernel
theorem dX9_add_22 : decode cX9_add 22 = .ok (.laload, 1) := by decide +kernel
theorem dX9_add_23 : decode cX9_add 23 = .ok (.ldc2_w 145, 3) := by decide +kernel
theorem dX9_add_26 : decode cX9_add 26 = .ok (.lcmp, 1) := by decide +kernel
theorem dX9_add_27 : decode cX9_add 27 = .ok (.ifCond .ge 7, 3) := by decide +kernel
theorem dX9_add_30 : decode cX9_add 30 = .ok (.iconst 0, 1) := by decide +kernel
theorem dX9_add_31 : decode cX9_add 31 = .ok (.goto 4, 3) := by decide +kernel
theorem dX9_add_34 : decode cX9_add 34 = .ok (.iconst 2, 1) := by decide +kernel
theorem dX9_add_35 : decode cX9_add 35 = .ok (.invokevirtual 118, 3) := by decide +kernel
theorem dX9_add_38 : decode cX9_add 38 = .ok (.ifCond .eq 5, 3) := by decide +kernel
theorem dX9_add_41 : decode cX9_add 41 = .ok (.iconst 0, 1) := by decide +kernel
theorem dX9_add_42 : decode cX9_add 42 = .ok (.ireturn, 1) := by decide +kernel
theorem dX9_add_43 : decode cX9_add 43 = .ok (.aload_n 0, 1) := by decide +kernel
theorem dX9_add_44 : decode cX9_add 44 = .ok (.invokevirtual 192, 3) := by decide +kernel
theorem dX9_add_47 : decode cX9_add 47 = .ok (.aload_n 0, 1) := by decide +kernel
theorem dX9_add_48 : decode cX9_add 48 = .ok (.getfield 13, 3) := by decide +kernel
theorem dX9_add_51 : decode cX9_add 51 = .ok (.iload_n 1, 1) := by decide +kernel
theorem dX9_add_52 : decode cX9_add 52 = .ok (.invokestatic 147, 3) := by decide +kernel
theorem dX9_add_55 : decode cX9_add 55 = .ok (.ireturn, 1) := by decide +kernel
theorem dX9_resize_0 : decode cX9_resize 0 = .ok (.aload_n 0, 1) := by decide +kernel
theorem dX9_resize_1 : decode cX9_resize 1 = .ok (.aload_n 0, 1) := by decide +kernel
theorem dX9_resize_2 : decode cX9_resize 2 = .ok (.getfield 13, 3) := by decide +kernel
theorem dX9_resize_5 : decode cX9_resize 5 = .ok (.iload_n 1, 1) := by decide +kernel
theorem dX9_resize_6 : decode cX9_resize 6 = .ok (.invokestatic 154, 3) := by decide +kernel
theorem dX9_resize_9 : decode cX9_resize 9 = .ok (.ifCond .ne 7, 3) := by decide +kernel
theorem dX9_resize_12 : decode cX9_resize 12 = .ok (.iconst 1, 1) := by decide +kernel
theorem dX9_resize_13 : decode cX9_resize 13 = .ok (.goto 20, 3) := by decide +kernel
theorem dX9_resize_16 : decode cX9_resize 16 = .ok (.iload_n 2, 1) := by decide +kernel
theorem dX9_resize_17 : decode cX9_resize 17 = .ok (.i2l, 1) := by decide +kernel
theorem dX9_resize_18 : decode cX9_resize 18 = .ok (.lconst 1, 1) := by decide +kernel
theorem dX9_resize_19 : decode cX9_resize 19 = .ok (.ldc2_w 190, 3) := by decide +kernel
theorem dX9_resize_22 : decode cX9_resize 22 = .ok (.invokestatic 59, 3) := by decide +kernel
theorem dX9_resize_25 : decode cX9_resize 25 = .ok (.ifCond .eq 7, 3) := by decide +kernel
theorem dX9_resize_28 : decode cX9_resize 28 = .ok (.iconst 0, 1) := by decide +kernel
theorem dX9_resize_29 : decode cX9_resize 29 = .ok (.goto 4, 3) := by decide +kernel
theorem dX9_resize_32 : decode cX9_resize 32 = .ok (.iconst 2, 1) := by decide +kernel
theorem dX9_resize_33 : decode cX9_resize 33 = .ok (.invokevirtual 118, 3) := by decide +kernel
theorem dX9_resize_36 : decode cX9_resize 36 = .ok (.ifCond .eq 5, 3) := by decide +kernel
theorem dX9_resize_39 : decode cX9_resize 39 = .ok (.iconst 0, 1) := by decide +kernel
theorem dX9_resize_40 : decode cX9_resize 40 = .ok (.ireturn, 1) := by decide +kernel
theorem dX9_resize_41 : decode cX9_resize 41 = .ok (.aload_n 0, 1) := by decide +kernel
theorem dX9_resize_42 : decode cX9_resize 42 = .ok (.invokevirtual 192, 3) := by decide +kernel
theorem dX9_resize_45 : decode cX9_resize 45 = .ok (.aload_n 0, 1) := by decide +kernel
theorem dX9_resize_46 : decode cX9_resize 46 = .ok (.getfield 13, 3) := by decide +kernel
theorem dX9_resize_49 : decode cX9_resize 49 = .ok (.iconst 1, 1) := by decide +kernel
theorem dX9_resize_50 : decode cX9_resize 50 = .ok (.iload_n 1, 1) := by decide +kernel
theorem dX9_resize_51 : decode cX9_resize 51 = .ok (.iadd, 1) := by decide +kernel
theorem dX9_resize_52 : decode cX9_resize 52 = .ok (.laload, 1) := by decide +kernel
theorem dX9_resize_53 : decode cX9_resize 53 = .ok (.l2i, 1) := by decide +kernel
theorem dX9_resize_54 : decode cX9_resize 54 = .ok (.istore_n 3, 1) := by decide +kernel
theorem dX9_resize_55 : decode cX9_resize 55 = .ok (.aload_n 0, 1) := by decide +kernel
theorem dX9_resize_56 : decode cX9_resize 56 = .ok (.getfield 13, 3) := by decide +kernel
theorem dX9_resize_59 : decode cX9_resize 59 = .ok (.iconst 1, 1) := by decide +kernel
theorem dX9_resize_60 : decode cX9_resize 60 = .ok (.iload_n 1, 1) := by decide +kernel
theorem dX9_resize_61 : decode cX9_resize 61 = .ok (.iadd, 1) := by decide +kernel
theorem dX9_resize_62 : decode cX9_resize 62 = .ok (.iload_n 2, 1) := by decide +kernel
theorem dX9_resize_63 : decode cX9_resize 63 = .ok (.i2l, 1) := by decide +kernel
theorem dX9_resize_64 : decode cX9_resize 64 = .ok (.lastore, 1) := by decide +kernel
theorem dX9_resize_65 : decode cX9_resize 65 = .ok (.iload_n 3, 1) := by decide +kernel
theorem dX9_resize_66 : decode cX9_resize 66 = .ok (.ireturn, 1) := by decide +kernel
theorem dX9_isShare_0 : decode cX9_isShare 0 = .ok (.iload_n 0, 1) := by decide +kernel
theorem dX9_isShare_1 : decode cX9_isShare 1 = .ok (.i2l, 1) := by decide +kernel
theorem dX9_isShare_2 : decode cX9_isShare 2 = .ok (.lconst 1, 1) := by decide +kernel
theorem dX9_isShare_3 : decode cX9_isShare 3 = .ok (.ldc2_w 81, 3) := by decide +kernel
theorem dX9_isShare_6 : decode cX9_isShare 6 = .ok (.invokestatic 59, 3) := by decide +kernel
theorem dX9_isShare_9 : decode cX9_isShare 9 = .ok (.ireturn, 1) := by decide +kernel
theorem dX9_link_0 : decode cX9_link 0 = .ok (.aload_n 0, 1) := by decide +kernel
theorem dX9_link_1 : decode cX9_link 1 = .ok (.aload_n 0, 1) := by decide +kernel
theorem dX9_link_2 : decode cX9_link 2 = .ok (.getfield 13, 3) := by decide +kernel
theorem dX9_link_5 : decode cX9_link 5 = .ok (.iload_n 1, 1) := by decide +kernel
theorem dX9_link_6 : decode cX9_link 6 = .ok (.iload_n 2, 1) := by decide +kernel
theorem dX9_link_7 : decode cX9_link 7 = .ok (.invokestatic 182, 3) := by decide +kernel
theorem dX9_link_10 : decode cX9_link 10 = .ok (.ifCond .ne 7, 3) := by decide +kernel
theorem dX9_link_13 : decode cX9_link 13 = .ok (.iconst 1, 1) := by decide +kernel
theorem dX9_link_14 : decode cX9_link 14 = .ok (.goto 28, 3) := by decide +kernel
theorem dX9_link_17 : decode cX9_link 17 = .ok (.iload_n 1, 1) := by decide +kernel
theorem dX9_link_18 : decode cX9_link 18 = .ok (.iload_n 2, 1) := by decide +kernel
theorem dX9_link_19 : decode cX9_link 19 = .ok (.if_icmp .eq 22, 3) := by decide +kernel
theorem dX9_link_22 : decode cX9_link 22 = .ok (.iload_n 3, 1) := by decide +kernel
theorem dX9_link_23 : decode cX9_link 23 = .ok (.invokestatic 195, 3) := by decide +kernel
theorem dX9_link_26 : decode cX9_link 26 = .ok (.ifCond .eq 15, 3) := by decide +kernel
theorem dX9_link_29 : decode cX9_link 29 = .ok (.iload 4, 2) := by decide +kernel
theorem dX9_link_31 : decode cX9_link 31 = .ok (.invokestatic 195, 3) := by decide +kernel
theorem dX9_link_34 : decode cX9_link 34 = .ok (.ifCond .eq 7, 3) := by decide +kernel
theorem dX9_link_37 : decode cX9_link 37 = .ok (.iconst 0, 1) := by decide +kernel
theorem dX9_link_38 : decode cX9_link 38 = .ok (.goto 4, 3) := by decide +kernel
theorem dX9_link_41 : decode cX9_link 41 = .ok (.iconst 2, 1) := by decide +kernel
theorem dX9_link_42 : decode cX9_link 42 = .ok (.invokevirtual 118, 3) := by decide +kernel
theorem dX9_link_45 : decode cX9_link 45 = .ok (.ifCond .eq 5, 3) := by decide +kernel
theorem dX9_link_48 : decode cX9_link 48 = .ok (.iconst 0, 1) := by decide +kernel
theorem dX9_link_49 : decode cX9_link 49 = .ok (.ireturn, 1) := by decide +kernel
theorem dX9_link_50 : decode cX9_link 50 = .ok (.aload_n 0, 1) := by decide +kernel
theorem dX9_link_51 : decode cX9_link 51 = .ok (.invokevirtual 192, 3) := by decide +kernel
theorem dX9_link_54 : decode cX9_link 54 = .ok (.aload_n 0, 1) := by decide +kernel
theorem dX9_link_55 : decode cX9_link 55 = .ok (.getfield 13, 3) := by decide +kernel
theorem dX9_link_58 : decode cX9_link 58 = .ok (.iload_n 1, 1) := by decide +kernel
theorem dX9_link_59 : decode cX9_link 59 = .ok (.iload_n 2, 1) := by decide +kernel
theorem dX9_link_60 : decode cX9_link 60 = .ok (.iload_n 3, 1) := by decide +kernel
theorem dX9_link_61 : decode cX9_link 61 = .ok (.iload 4, 2) := by decide +kernel
theorem dX9_link_63 : decode cX9_link 63 = .ok (.invokestatic 158, 3) := by decide +kernel
theorem dX9_link_66 : decode cX9_link 66 = .ok (.ireturn, 1) := by decide +kernel
theorem dX9_whyNotDrift_0 : decode cX9_whyNotDrift 0 = .ok (.aload_n 0, 1) := by decide +kernel
theorem dX9_whyNotDrift_1 : decode cX9_whyNotDrift 1 = .ok (.iload_n 1, 1) := by decide +kernel
theorem dX9_whyNotDrift_2 : decode cX9_whyNotDrift 2 = .ok (.iload_n 2, 1) := by decide +kernel
theorem dX9_whyNotDrift_3 : decode cX9_whyNotDrift 3 = .ok (.invokestatic 182, 3) := by decide +kernel
theorem dX9_whyNotDrift_6 : decode cX9_whyNotDrift 6 = .ok (.ifCond .ne 7, 3) := by decide +kernel
theorem dX9_whyNotDrift_9 : decode cX9_whyNotDrift 9 = .ok (.iconst 1, 1) := by decide +kernel
theorem dX9_whyNotDrift_10 : decode cX9_whyNotDrift 10 = .ok (.goto 39, 3) := by decide +kernel
theorem dX9_whyNotDrift_13 : decode cX9_whyNotDrift 13 = .ok (.iload_n 1, 1) := by decide +kernel
theorem dX9_whyNotDrift_14 : decode cX9_whyNotDrift 14 = .ok (.iload_n 2, 1) := by decide +kernel
theorem dX9_whyNotDrift_15 : decode cX9_whyNotDrift 15 = .ok (.if_icmp .eq 10, 3) := by decide +kernel
theorem dX9_whyNotDrift_18 : decode cX9_whyNotDrift 18 = .ok (.iload_n 3, 1) := by decide +kernel
theorem dX9_whyNotDrift_19 : decode cX9_whyNotDrift 19 = .ok (.invokestatic 195, 3) := by decide +kernel
theorem dX9_whyNotDrift_22 : decode cX9_whyNotDrift 22 = .ok (.ifCond .ne 7, 3) := by decide +kernel
theorem dX9_whyNotDrift_25 : decode cX9_whyNotDrift 25 = .ok (.iconst 2, 1) := by decide +kernel
theorem dX9_whyNotDrift_26 : decode cX9_whyNotDrift 26 = .ok (.goto 23, 3) := by decide +kernel
theorem dX9_whyNotDrift_29 : decode cX9_whyNotDrift 29 = .ok (.aload_n 0, 1) := by decide +kernel
theorem dX9_whyNotDrift_30 : decode cX9_whyNotDrift 30 = .ok (.bipush 8, 2) := by decide +kernel
theorem dX9_whyNotDrift_32 : decode cX9_whyNotDrift 32 = .ok (.iload_n 1, 1) := by decide +kernel
theorem dX9_whyNotDrift_33 : decode cX9_whyNotDrift 33 = .ok (.iload_n 2, 1) := by decide +kernel
theorem dX9_whyNotDrift_34 : decode cX9_whyNotDrift 34 = .ok (.invokestatic 73, 3) := by decide +kernel
theorem dX9_whyNotDrift_37 : decode cX9_whyNotDrift 37 = .ok (.iadd, 1) := by decide +kernel
theorem dX9_whyNotDrift_38 : decode cX9_whyNotDrift 38 = .ok (.laload, 1) := by decide +kernel
theorem dX9_whyNotDrift_39 : decode cX9_whyNotDrift 39 = .ok (.lconst 0, 1) := by decide +kernel
theorem dX9_whyNotDrift_40 : decode cX9_whyNotDrift 40 = .ok (.lcmp, 1) := by decide +kernel
theorem dX9_whyNotDrift_41 : decode cX9_whyNotDrift 41 = .ok (.ifCond .ne 7, 3) := by decide +kernel
theorem dX9_whyNotDrift_44 : decode cX9_whyNotDrift 44 = .ok (.iconst 3, 1) := by decide +kernel
theorem dX9_whyNotDrift_45 : decode cX9_whyNotDrift 45 = .ok (.goto 4, 3) := by decide +kernel
theorem dX9_whyNotDrift_48 : decode cX9_whyNotDrift 48 = .ok (.iconst 0, 1) := by decide +kernel
theorem dX9_whyNotDrift_49 : decode cX9_whyNotDrift 49 = .ok (.ireturn, 1) := by decide +kernel
theorem dX9_driftOn_0 : decode cX9_driftOn 0 = .ok (.aload_n 0, 1) := by decide +kernel
theorem dX9_driftOn_1 : decode cX9_driftOn 1 = .ok (.bipush 106, 2) := by decide +kernel
theorem dX9_driftOn_3 : decode cX9_driftOn 3 = .ok (.iload_n 1, 1) := by decide +kernel
theorem dX9_driftOn_4 : decode cX9_driftOn 4 = .ok (.iload_n 2, 1) := by decide +kernel
theorem dX9_driftOn_5 : decode cX9_driftOn 5 = .ok (.invokestatic 73, 3) := by decide +kernel
theorem dX9_driftOn_8 : decode cX9_driftOn 8 = .ok (.iadd, 1) := by decide +kernel
theorem dX9_driftOn_9 : decode cX9_driftOn 9 = .ok (.laload, 1) := by decide +kernel
theorem dX9_driftOn_10 : decode cX9_driftOn 10 = .ok (.l2i, 1) := by decide +kernel
theorem dX9_driftOn_11 : decode cX9_driftOn 11 = .ok (.istore 4, 2) := by decide +kernel
theorem dX9_driftOn_13 : decode cX9_driftOn 13 = .ok (.aload_n 0, 1) := by decide +kernel
theorem dX9_driftOn_14 : decode cX9_driftOn 14 = .ok (.bipush 106, 2) := by decide +kernel
theorem dX9_driftOn_16 : decode cX9_driftOn 16 = .ok (.iload_n 1, 1) := by decide +kernel
theorem dX9_driftOn_17 : decode cX9_driftOn 17 = .ok (.iload_n 2, 1) := by decide +kernel
theorem dX9_driftOn_18 : decode cX9_driftOn 18 = .ok (.invokestatic 73, 3) := by decide +kernel
theorem dX9_driftOn_21 : decode cX9_driftOn 21 = .ok (.iadd, 1) := by decide +kernel
theorem dX9_driftOn_22 : decode cX9_driftOn 22 = .ok (.iload_n 3, 1) := by decide +kernel
theorem dX9_driftOn_23 : decode cX9_driftOn 23 = .ok (.i2l, 1) := by decide +kernel
theorem dX9_driftOn_24 : decode cX9_driftOn 24 = .ok (.lastore, 1) := by decide +kernel
theorem dX9_driftOn_25 : decode cX9_driftOn 25 = .ok (.iload 4, 2) := by decide +kernel
theorem dX9_driftOn_27 : decode cX9_driftOn 27 = .ok (.ireturn, 1) := by decide +kernel
theorem dX9_drift_0 : decode cX9_drift 0 = .ok (.aload_n 0, 1) := by decide +kernel
theorem dX9_drift_1 : decode cX9_drift 1 = .ok (.aload_n 0, 1) := by decide +kernel
theorem dX9_drift_2 : decode cX9_drift 2 = .ok (.getfield 13, 3) := by decide +kernel
theorem dX9_drift_5 : decode cX9_drift 5 = .ok (.iload_n 1, 1) := by decide +kernel
theorem dX9_drift_6 : decode cX9_drift 6 = .ok (.iload_n 2, 1) := by decide +kernel
theorem dX9_drift_7 : decode cX9_drift 7 = .ok (.iload_n 3, 1) := by decide +kernel
theorem dX9_drift_8 : decode cX9_drift 8 = .ok (.invokestatic 198, 3) := by decide +kernel
theorem dX9_drift_11 : decode cX9_drift 11 = .ok (.invokevirtual 118, 3) := by decide +kernel
theorem dX9_drift_14 : decode cX9_drift 14 = .ok (.ifCond .eq 5, 3) := by decide +kernel
theorem dX9_drift_17 : decode cX9_drift 17 = .ok (.iconst 0, 1) := by decide +kernel
theorem dX9_drift_18 : decode cX9_drift 18 = .ok (.ireturn, 1) := by decide +kernel
theorem dX9_drift_19 : decode cX9_drift 19 = .ok (.aload_n 0, 1) := by decide +kernel
theorem dX9_drift_20 : decode cX9_drift 20 = .ok (.invokevirtual 192, 3) := by decide +kernel
theorem dX9_drift_23 : decode cX9_drift 23 = .ok (.aload_n 0, 1) := by decide +kernel
theorem dX9_drift_24 : decode cX9_drift 24 = .ok (.getfield 13, 3) := by decide +kernel
theorem dX9_drift_27 : decode cX9_drift 27 = .ok (.iload_n 1, 1) := by decide +kernel
theorem dX9_drift_28 : decode cX9_drift 28 = .ok (.iload_n 2, 1) := by decide +kernel
theorem dX9_drift_29 : decode cX9_drift 29 = .ok (.iload_n 3, 1) := by decide +kernel
theorem dX9_drift_30 : decode cX9_drift 30 = .ok (.invokestatic 202, 3) := by decide +kernel
theorem dX9_drift_33 : decode cX9_drift 33 = .ok (.ireturn, 1) := by decide +kernel
theorem dX9_find_0 : decode cX9_find 0 = .ok (.iload_n 1, 1) := by decide +kernel
theorem dX9_find_1 : decode cX9_find 1 = .ok (.iload_n 2, 1) := by decide +kernel
theorem dX9_find_2 : decode cX9_find 2 = .ok (.invokestatic 73, 3) := by decide +kernel
theorem dX9_find_5 : decode cX9_find 5 = .ok (.istore_n 3, 1) := by decide +kernel
theorem dX9_find_6 : decode cX9_find 6 = .ok (.aload_n 0, 1) := by decide +kernel
theorem dX9_find_7 : decode cX9_find 7 = .ok (.iload_n 3, 1) := by decide +kernel
theorem dX9_find_8 : decode cX9_find 8 = .ok (.invokestatic 63, 3) := by decide +kernel
theorem dX9_find_11 : decode cX9_find 11 = .ok (.lstore 4, 2) := by decide +kernel
theorem dX9_find_13 : decode cX9_find 13 = .ok (.lload 4, 2) := by decide +kernel
theorem dX9_find_15 : decode cX9_find 15 = .ok (.aload_n 0, 1) := by decide +kernel
theorem dX9_find_16 : decode cX9_find 16 = .ok (.bipush 106, 2) := by decide +kernel
theorem dX9_find_18 : decode cX9_find 18 = .ok (.iload_n 3, 1) := by decide +kernel
theorem dX9_find_19 : decode cX9_find 19 = .ok (.iadd, 1) := by decide +kernel
theorem dX9_find_20 : decode cX9_find 20 = .ok (.laload, 1) := by decide +kernel
theorem dX9_find_21 : decode cX9_find 21 = .ok (.lcmp, 1) := by decide +kernel
theorem dX9_find_22 : decode cX9_find 22 = .ok (.ifCond .ge 15, 3) := by decide +kernel
theorem dX9_find_25 : decode cX9_find 25 = .ok (.aload_n 0, 1) := by decide +kernel
theorem dX9_find_26 : decode cX9_find 26 = .ok (.bipush 106, 2) := by decide +kernel
theorem dX9_find_28 : decode cX9_find 28 = .ok (.iload_n 3, 1) := by decide +kernel
theorem dX9_find_29 : decode cX9_find 29 = .ok (.iadd, 1) := by decide +kernel
theorem dX9_find_30 : decode cX9_find 30 = .ok (.laload, 1) := by decide +kernel
theorem dX9_find_31 : decode cX9_find 31 = .ok (.lload 4, 2) := by decide +kernel
theorem dX9_find_33 : decode cX9_find 33 = .ok (.lsub, 1) := by decide +kernel
theorem dX9_find_34 : decode cX9_find 34 = .ok (.goto 12, 3) := by decide +kernel
theorem dX9_find_37 : decode cX9_find 37 = .ok (.lload 4, 2) := by decide +kernel
theorem dX9_find_39 : decode cX9_find 39 = .ok (.aload_n 0, 1) := by decide +kernel
theorem dX9_find_40 : decode cX9_find 40 = .ok (.bipush 106, 2) := by decide +kernel
theorem dX9_find_42 : decode cX9_find 42 = .ok (.iload_n 3, 1) := by decide +kernel
theorem dX9_find_43 : decode cX9_find 43 = .ok (.iadd, 1) := by decide +kernel
theorem dX9_find_44 : decode cX9_find 44 = .ok (.laload, 1) := by decide +kernel
theorem dX9_find_45 : decode cX9_find 45 = .ok (.lsub, 1) := by decide +kernel
theorem dX9_find_46 : decode cX9_find 46 = .ok (.lstore 6, 2) := by decide +kernel
theorem dX9_find_48 : decode cX9_find 48 = .ok (.lload 6, 2) := by decide +kernel
theorem dX9_find_50 : decode cX9_find 50 = .ok (.aload_n 0, 1) := by decide +kernel
theorem dX9_find_51 : decode cX9_find 51 = .ok (.sipush 302, 3) := by decide +kernel
theorem dX9_find_54 : decode cX9_find 54 = .ok (.laload, 1) := by decide +kernel
theorem dX9_find_55 : decode cX9_find 55 = .ok (.lcmp, 1) := by decide +kernel
theorem dX9_find_56 : decode cX9_find 56 = .ok (.ifCond .ge 13, 3) := by decide +kernel
theorem dX9_find_59 : decode cX9_find 59 = .ok (.aload_n 0, 1) := by decide +kernel
theorem dX9_find_60 : decode cX9_find 60 = .ok (.sipush 204, 3) := by decide +kernel
theorem dX9_find_63 : decode cX9_find 63 = .ok (.iload_n 3, 1) := by decide +kernel
theorem dX9_find_64 : decode cX9_find 64 = .ok (.iadd, 1) := by decide +kernel
theorem dX9_find_65 : decode cX9_find 65 = .ok (.lconst 0, 1) := by decide +kernel
theorem dX9_find_66 : decode cX9_find 66 = .ok (.lastore, 1) := by decide +kernel
theorem dX9_find_67 : decode cX9_find 67 = .ok (.iconst 0, 1) := by decide +kernel
theorem dX9_find_68 : decode cX9_find 68 = .ok (.ireturn, 1) := by decide +kernel
theorem dX9_find_69 : decode cX9_find 69 = .ok (.lload 6, 2) := by decide +kernel
theorem dX9_find_71 : decode cX9_find 71 = .ok (.aload_n 0, 1) := by decide +kernel
theorem dX9_find_72 : decode cX9_find 72 = .ok (.sipush 303, 3) := by decide +kernel
theorem dX9_find_75 : decode cX9_find 75 = .ok (.laload, 1) := by decide +kernel
theorem dX9_find_76 : decode cX9_find 76 = .ok (.lmul, 1) := by decide +kernel
theorem dX9_find_77 : decode cX9_find 77 = .ok (.ldc2_w 51, 3) := by decide +kernel
theorem dX9_find_80 : decode cX9_find 80 = .ok (.ldiv, 1) := by decide +kernel
theorem dX9_find_81 : decode cX9_find 81 = .ok (.lstore 8, 2) := by decide +kernel
theorem dX9_find_83 : decode cX9_find 83 = .ok (.lload 8, 2) := by decide +kernel
theorem dX9_find_85 : decode cX9_find 85 = .ok (.lconst 1, 1) := by decide +kernel
theorem dX9_find_86 : decode cX9_find 86 = .ok (.lcmp, 1) := by decide +kernel
theorem dX9_find_87 : decode cX9_find 87 = .ok (.ifCond .ge 7, 3) := by decide +kernel
theorem dX9_find_90 : decode cX9_find 90 = .ok (.lconst 1, 1) := by decide +kernel
theorem dX9_find_91 : decode cX9_find 91 = .ok (.goto 5, 3) := by decide +kernel
theorem dX9_find_94 : decode cX9_find 94 = .ok (.lload 8, 2) := by decide +kernel
theorem dX9_find_96 : decode cX9_find 96 = .ok (.lstore 8, 2) := by decide +kernel
theorem dX9_find_98 : decode cX9_find 98 = .ok (.aload_n 0, 1) := by decide +kernel
theorem dX9_find_99 : decode cX9_find 99 = .ok (.sipush 155, 3) := by decide +kernel
theorem dX9_find_102 : decode cX9_find 102 = .ok (.iload_n 3, 1) := by decide +kernel
theorem dX9_find_103 : decode cX9_find 103 = .ok (.iadd, 1) := by decide +kernel
theorem dX9_find_104 : decode cX9_find 104 = .ok (.lload 4, 2) := by decide +kernel
theorem dX9_find_106 : decode cX9_find 106 = .ok (.aload_n 0, 1) := by decide +kernel
theorem dX9_find_107 : decode cX9_find 107 = .ok (.bipush 106, 2) := by decide +kernel
theorem dX9_find_109 : decode cX9_find 109 = .ok (.iload_n 3, 1) := by decide +kernel
theorem dX9_find_110 : decode cX9_find 110 = .ok (.iadd, 1) := by decide +kernel
theorem dX9_find_111 : decode cX9_find 111 = .ok (.laload, 1) := by decide +kernel
theorem dX9_find_112 : decode cX9_find 112 = .ok (.lcmp, 1) := by decide +kernel
theorem dX9_find_113 : decode cX9_find 113 = .ok (.ifCond .ge 11, 3) := by decide +kernel
theorem dX9_find_116 : decode cX9_find 116 = .ok (.lload 4, 2) := by decide +kernel
theorem dX9_find_118 : decode cX9_find 118 = .ok (.lload 8, 2) := by decide +kernel
theorem dX9_find_120 : decode cX9_find 120 = .ok (.ladd, 1) := by decide +kernel
theorem dX9_find_121 : decode cX9_find 121 = .ok (.goto 8, 3) := by decide +kernel
theorem dX9_find_124 : decode cX9_find 124 = .ok (.lload 4, 2) := by decide +kernel
theorem dX9_find_126 : decode cX9_find 126 = .ok (.lload 8, 2) := by decide +kernel
theorem dX9_find_128 : decode cX9_find 128 = .ok (.lsub, 1) := by decide +kernel
theorem dX9_find_129 : decode cX9_find 129 = .ok (.lastore, 1) := by decide +kernel
theorem dX9_find_130 : decode cX9_find 130 = .ok (.aload_n 0, 1) := by decide +kernel
theorem dX9_find_131 : decode cX9_find 131 = .ok (.sipush 204, 3) := by decide +kernel
theorem dX9_find_134 : decode cX9_find 134 = .ok (.iload_n 3, 1) := by decide +kernel
theorem dX9_find_135 : decode cX9_find 135 = .ok (.iadd, 1) := by decide +kernel
theorem dX9_find_136 : decode cX9_find 136 = .ok (.lconst 0, 1) := by decide +kernel
theorem dX9_find_137 : decode cX9_find 137 = .ok (.lastore, 1) := by decide +kernel
theorem dX9_find_138 : decode cX9_find 138 = .ok (.aload_n 0, 1) := by decide +kernel
theorem dX9_find_139 : decode cX9_find 139 = .ok (.sipush 253, 3) := by decide +kernel
theorem dX9_find_142 : decode cX9_find 142 = .ok (.iload_n 3, 1) := by decide +kernel
theorem dX9_find_143 : decode cX9_find 143 = .ok (.iadd, 1) := by decide +kernel
theorem dX9_find_144 : decode cX9_find 144 = .ok (.dup2, 1) := by decide +kernel
theorem dX9_find_145 : decode cX9_find 145 = .ok (.laload, 1) := by decide +kernel
theorem dX9_find_146 : decode cX9_find 146 = .ok (.lconst 1, 1) := by decide +kernel
theorem dX9_find_147 : decode cX9_find 147 = .ok (.ladd, 1) := by decide +kernel
theorem dX9_find_148 : decode cX9_find 148 = .ok (.lastore, 1) := by decide +kernel
theorem dX9_find_149 : decode cX9_find 149 = .ok (.aload_n 0, 1) := by decide +kernel
theorem dX9_find_150 : decode cX9_find 150 = .ok (.sipush 307, 3) := by decide +kernel
theorem dX9_find_153 : decode cX9_find 153 = .ok (.dup2, 1) := by decide +kernel
theorem dX9_find_154 : decode cX9_find 154 = .ok (.laload, 1) := by decide +kernel
theorem dX9_find_155 : decode cX9_find 155 = .ok (.lconst 1, 1) := by decide +kernel
theorem dX9_find_156 : decode cX9_find 156 = .ok (.ladd, 1) := by decide +kernel
theorem dX9_find_157 : decode cX9_find 157 = .ok (.lastore, 1) := by decide +kernel
theorem dX9_find_158 : decode cX9_find 158 = .ok (.bipush 39, 2) := by decide +kernel
theorem dX9_find_160 : decode cX9_find 160 = .ok (.istore 10, 2) := by decide +kernel
theorem dX9_find_162 : decode cX9_find 162 = .ok (.iload 10, 2) := by decide +kernel
theorem dX9_find_164 : decode cX9_find 164 = .ok (.iconst 3, 1) := by decide +kernel
theorem dX9_find_165 : decode cX9_find 165 = .ok (.if_icmp .le 27, 3) := by decide +kernel
theorem dX9_find_168 : decode cX9_find 168 = .ok (.aload_n 0, 1) := by decide +kernel
theorem dX9_find_169 : decode cX9_find 169 = .ok (.sipush 313, 3) := by decide +kernel
theorem dX9_find_172 : decode cX9_find 172 = .ok (.iload 10, 2) := by decide +kernel
theorem dX9_find_174 : decode cX9_find 174 = .ok (.iadd, 1) := by decide +kernel
theorem dX9_find_175 : decode cX9_find 175 = .ok (.aload_n 0, 1) := by decide +kernel
theorem dX9_find_176 : decode cX9_find 176 = .ok (.sipush 313, 3) := by decide +kernel
theorem dX9_find_179 : decode cX9_find 179 = .ok (.iload 10, 2) := by decide +kernel
theorem dX9_find_181 : decode cX9_find 181 = .ok (.iadd, 1) := by decide +kernel
theorem dX9_find_182 : decode cX9_find 182 = .ok (.iconst 4, 1) := by decide +kernel
theorem dX9_find_183 : decode cX9_find 183 = .ok (.isub, 1) := by decide +kernel
theorem dX9_find_184 : decode cX9_find 184 = .ok (.laload, 1) := by decide +kernel
theorem dX9_find_185 : decode cX9_find 185 = .ok (.lastore, 1) := by decide +kernel
theorem dX9_find_186 : decode cX9_find 186 = .ok (.iinc 10 (-1), 3) := by decide +kernel
theorem dX9_find_189 : decode cX9_find 189 = .ok (.goto (-27), 3) := by decide +kernel
theorem dX9_find_192 : decode cX9_find 192 = .ok (.aload_n 0, 1) := by decide +kernel
theorem dX9_find_193 : decode cX9_find 193 = .ok (.sipush 313, 3) := by decide +kernel
theorem dX9_find_196 : decode cX9_find 196 = .ok (.ldc2_w 51, 3) := by decide +kernel
theorem dX9_find_199 : decode cX9_find 199 = .ok (.iload_n 1, 1) := by decide +kernel
theorem dX9_find_200 : decode cX9_find 200 = .ok (.i2l, 1) := by decide +kernel
theorem dX9_find_201 : decode cX9_find 201 = .ok (.lmul, 1) := by decide +kernel
theorem dX9_find_202 : decode cX9_find 202 = .ok (.iload_n 2, 1) := by decide +kernel
theorem dX9_find_203 : decode cX9_find 203 = .ok (.i2l, 1) := by decide +kernel
theorem dX9_find_204 : decode cX9_find 204 = .ok (.ladd, 1) := by decide +kernel
theorem dX9_find_205 : decode cX9_find 205 = .ok (.lastore, 1) := by decide +kernel
theorem dX9_find_206 : decode cX9_find 206 = .ok (.aload_n 0, 1) := by decide +kernel
theorem dX9_find_207 : decode cX9_find 207 = .ok (.sipush 314, 3) := by decide +kernel
theorem dX9_find_210 : decode cX9_find 210 = .ok (.lload 4, 2) := by decide +kernel
theorem dX9_find_212 : decode cX9_find 212 = .ok (.lastore, 1) := by decide +kernel
theorem dX9_find_213 : decode cX9_find 213 = .ok (.aload_n 0, 1) := by decide +kernel
theorem dX9_find_214 : decode cX9_find 214 = .ok (.sipush 315, 3) := by decide +kernel
theorem dX9_find_217 : decode cX9_find 217 = .ok (.aload_n 0, 1) := by decide +kernel
theorem dX9_find_218 : decode cX9_find 218 = .ok (.bipush 106, 2) := by decide +kernel
theorem dX9_find_220 : decode cX9_find 220 = .ok (.iload_n 3, 1) := by decide +kernel
theorem dX9_find_221 : decode cX9_find 221 = .ok (.iadd, 1) := by decide +kernel
theorem dX9_find_222 : decode cX9_find 222 = .ok (.laload, 1) := by decide +kernel
theorem dX9_find_223 : decode cX9_find 223 = .ok (.lastore, 1) := by decide +kernel
theorem dX9_find_224 : decode cX9_find 224 = .ok (.aload_n 0, 1) := by decide +kernel
theorem dX9_find_225 : decode cX9_find 225 = .ok (.sipush 316, 3) := by decide +kernel
theorem dX9_find_228 : decode cX9_find 228 = .ok (.aload_n 0, 1) := by decide +kernel
theorem dX9_find_229 : decode cX9_find 229 = .ok (.sipush 305, 3) := by decide +kernel
theorem dX9_find_232 : decode cX9_find 232 = .ok (.laload, 1) := by decide +kernel
theorem dX9_find_233 : decode cX9_find 233 = .ok (.lastore, 1) := by decide +kernel
theorem dX9_find_234 : decode cX9_find 234 = .ok (.aload_n 0, 1) := by decide +kernel
theorem dX9_find_235 : decode cX9_find 235 = .ok (.sipush 312, 3) := by decide +kernel
theorem dX9_find_238 : decode cX9_find 238 = .ok (.ldc2_w 51, 3) := by decide +kernel
theorem dX9_find_241 : decode cX9_find 241 = .ok (.aload_n 0, 1) := by decide +kernel
theorem dX9_find_242 : decode cX9_find 242 = .ok (.sipush 312, 3) := by decide +kernel
theorem dX9_find_245 : decode cX9_find 245 = .ok (.laload, 1) := by decide +kernel
theorem dX9_find_246 : decode cX9_find 246 = .ok (.lconst 1, 1) := by decide +kernel
theorem dX9_find_247 : decode cX9_find 247 = .ok (.ladd, 1) := by decide +kernel
theorem dX9_find_248 : decode cX9_find 248 = .ok (.invokestatic 69, 3) := by decide +kernel
theorem dX9_find_251 : decode cX9_find 251 = .ok (.lastore, 1) := by decide +kernel
theorem dX9_find_252 : decode cX9_find 252 = .ok (.iconst 1, 1) := by decide +kernel
theorem dX9_find_253 : decode cX9_find 253 = .ok (.ireturn, 1) := by decide +kernel
theorem dX9_runOn_0 : decode cX9_runOn 0 = .ok (.aload_n 0, 1) := by decide +kernel
theorem dX9_runOn_1 : decode cX9_runOn 1 = .ok (.aload_n 1, 1) := by decide +kernel
theorem dX9_runOn_2 : decode cX9_runOn 2 = .ok (.iload_n 2, 1) := by decide +kernel
theorem dX9_runOn_3 : decode cX9_runOn 3 = .ok (.iconst 1, 1) := by decide +kernel
theorem dX9_runOn_4 : decode cX9_runOn 4 = .ok (.invokevirtual 205, 3) := by decide +kernel
theorem dX9_runOn_7 : decode cX9_runOn 7 = .ok (.lstore_n 3, 1) := by decide +kernel
theorem dX9_runOn_8 : decode cX9_runOn 8 = .ok (.aload_n 0, 1) := by decide +kernel
theorem dX9_runOn_9 : decode cX9_runOn 9 = .ok (.aload_n 1, 1) := by decide +kernel
theorem dX9_runOn_10 : decode cX9_runOn 10 = .ok (.iload_n 2, 1) := by decide +kernel
theorem dX9_runOn_11 : decode cX9_runOn 11 = .ok (.iconst 2, 1) := by decide +kernel
theorem dX9_runOn_12 : decode cX9_runOn 12 = .ok (.invokevirtual 205, 3) := by decide +kernel
theorem dX9_runOn_15 : decode cX9_runOn 15 = .ok (.lstore 5, 2) := by decide +kernel
theorem dX9_runOn_17 : decode cX9_runOn 17 = .ok (.aload_n 1, 1) := by decide +kernel
theorem dX9_runOn_18 : decode cX9_runOn 18 = .ok (.sipush 308, 3) := by decide +kernel
theorem dX9_runOn_21 : decode cX9_runOn 21 = .ok (.dup2, 1) := by decide +kernel
theorem dX9_runOn_22 : decode cX9_runOn 22 = .ok (.laload, 1) := by decide +kernel
theorem dX9_runOn_23 : decode cX9_runOn 23 = .ok (.lload_n 3, 1) := by decide +kernel
theorem dX9_runOn_24 : decode cX9_runOn 24 = .ok (.ladd, 1) := by decide +kernel
theorem dX9_runOn_25 : decode cX9_runOn 25 = .ok (.lastore, 1) := by decide +kernel
theorem dX9_runOn_26 : decode cX9_runOn 26 = .ok (.aload_n 1, 1) := by decide +kernel
theorem dX9_runOn_27 : decode cX9_runOn 27 = .ok (.sipush 309, 3) := by decide +kernel
theorem dX9_runOn_30 : decode cX9_runOn 30 = .ok (.dup2, 1) := by decide +kernel
theorem dX9_runOn_31 : decode cX9_runOn 31 = .ok (.laload, 1) := by decide +kernel
theorem dX9_runOn_32 : decode cX9_runOn 32 = .ok (.lload 5, 2) := by decide +kernel
theorem dX9_runOn_34 : decode cX9_runOn 34 = .ok (.ladd, 1) := by decide +kernel
theorem dX9_runOn_35 : decode cX9_runOn 35 = .ok (.lastore, 1) := by decide +kernel
theorem dX9_runOn_36 : decode cX9_runOn 36 = .ok (.aload_n 1, 1) := by decide +kernel
theorem dX9_runOn_37 : decode cX9_runOn 37 = .ok (.sipush 310, 3) := by decide +kernel
theorem dX9_runOn_40 : decode cX9_runOn 40 = .ok (.lload_n 3, 1) := by decide +kernel
theorem dX9_runOn_41 : decode cX9_runOn 41 = .ok (.lastore, 1) := by decide +kernel
theorem dX9_runOn_42 : decode cX9_runOn 42 = .ok (.aload_n 1, 1) := by decide +kernel
theorem dX9_runOn_43 : decode cX9_runOn 43 = .ok (.sipush 311, 3) := by decide +kernel
theorem dX9_runOn_46 : decode cX9_runOn 46 = .ok (.lload 5, 2) := by decide +kernel
theorem dX9_runOn_48 : decode cX9_runOn 48 = .ok (.lastore, 1) := by decide +kernel
theorem dX9_runOn_49 : decode cX9_runOn 49 = .ok (.aload_n 1, 1) := by decide +kernel
theorem dX9_runOn_50 : decode cX9_runOn 50 = .ok (.sipush 306, 3) := by decide +kernel
theorem dX9_runOn_53 : decode cX9_runOn 53 = .ok (.dup2, 1) := by decide +kernel
theorem dX9_runOn_54 : decode cX9_runOn 54 = .ok (.laload, 1) := by decide +kernel
theorem dX9_runOn_55 : decode cX9_runOn 55 = .ok (.lconst 1, 1) := by decide +kernel
theorem dX9_runOn_56 : decode cX9_runOn 56 = .ok (.ladd, 1) := by decide +kernel
theorem dX9_runOn_57 : decode cX9_runOn 57 = .ok (.lastore, 1) := by decide +kernel
theorem dX9_runOn_58 : decode cX9_runOn 58 = .ok (.iconst 0, 1) := by decide +kernel
theorem dX9_runOn_59 : decode cX9_runOn 59 = .ok (.istore 7, 2) := by decide +kernel
theorem dX9_runOn_61 : decode cX9_runOn 61 = .ok (.iconst 0, 1) := by decide +kernel
theorem dX9_runOn_62 : decode cX9_runOn 62 = .ok (.istore 8, 2) := by decide +kernel
theorem dX9_runOn_64 : decode cX9_runOn 64 = .ok (.iload 8, 2) := by decide +kernel
theorem dX9_runOn_66 : decode cX9_runOn 66 = .ok (.bipush 7, 2) := by decide +kernel
theorem dX9_runOn_68 : decode cX9_runOn 68 = .ok (.if_icmp .ge 79, 3) := by decide +kernel
theorem dX9_runOn_71 : decode cX9_runOn 71 = .ok (.iload 8, 2) := by decide +kernel
theorem dX9_runOn_73 : decode cX9_runOn 73 = .ok (.iconst 1, 1) := by decide +kernel
theorem dX9_runOn_74 : decode cX9_runOn 74 = .ok (.iadd, 1) := by decide +kernel
theorem dX9_runOn_75 : decode cX9_runOn 75 = .ok (.istore 9, 2) := by decide +kernel
theorem dX9_runOn_77 : decode cX9_runOn 77 = .ok (.iload 9, 2) := by decide +kernel
theorem dX9_runOn_79 : decode cX9_runOn 79 = .ok (.bipush 7, 2) := by decide +kernel
theorem dX9_runOn_81 : decode cX9_runOn 81 = .ok (.if_icmp .ge 60, 3) := by decide +kernel
theorem dX9_runOn_84 : decode cX9_runOn 84 = .ok (.iload_n 2, 1) := by decide +kernel
theorem dX9_runOn_85 : decode cX9_runOn 85 = .ok (.iload 8, 2) := by decide +kernel
theorem dX9_runOn_87 : decode cX9_runOn 87 = .ok (.ishr, 1) := by decide +kernel
theorem dX9_runOn_88 : decode cX9_runOn 88 = .ok (.iconst 1, 1) := by decide +kernel
theorem dX9_runOn_89 : decode cX9_runOn 89 = .ok (.iand, 1) := by decide +kernel
theorem dX9_runOn_90 : decode cX9_runOn 90 = .ok (.iconst 1, 1) := by decide +kernel
theorem dX9_runOn_91 : decode cX9_runOn 91 = .ok (.if_icmp .ne 44, 3) := by decide +kernel
theorem dX9_runOn_94 : decode cX9_runOn 94 = .ok (.iload_n 2, 1) := by decide +kernel
theorem dX9_runOn_95 : decode cX9_runOn 95 = .ok (.iload 9, 2) := by decide +kernel
theorem dX9_runOn_97 : decode cX9_runOn 97 = .ok (.ishr, 1) := by decide +kernel
theorem dX9_runOn_98 : decode cX9_runOn 98 = .ok (.iconst 1, 1) := by decide +kernel
theorem dX9_runOn_99 : decode cX9_runOn 99 = .ok (.iand, 1) := by decide +kernel
theorem dX9_runOn_100 : decode cX9_runOn 100 = .ok (.iconst 1, 1) := by decide +kernel
theorem dX9_runOn_101 : decode cX9_runOn 101 = .ok (.if_icmp .ne 34, 3) := by decide +kernel
theorem dX9_runOn_104 : decode cX9_runOn 104 = .ok (.aload_n 1, 1) := by decide +kernel
theorem dX9_runOn_105 : decode cX9_runOn 105 = .ok (.bipush 8, 2) := by decide +kernel
theorem dX9_runOn_107 : decode cX9_runOn 107 = .ok (.iload 8, 2) := by decide +kernel
theorem dX9_runOn_109 : decode cX9_runOn 109 = .ok (.iload 9, 2) := by decide +kernel
theorem dX9_runOn_111 : decode cX9_runOn 111 = .ok (.invokestatic 73, 3) := by decide +kernel
theorem dX9_runOn_114 : decode cX9_runOn 114 = .ok (.iadd, 1) := by decide +kernel
theorem dX9_runOn_115 : decode cX9_runOn 115 = .ok (.laload, 1) := by decide +kernel
theorem dX9_runOn_116 : decode cX9_runOn 116 = .ok (.lconst 0, 1) := by decide +kernel
theorem dX9_runOn_117 : decode cX9_runOn 117 = .ok (.lcmp, 1) := by decide +kernel
theorem dX9_runOn_118 : decode cX9_runOn 118 = .ok (.ifCond .le 17, 3) := by decide +kernel
theorem dX9_runOn_121 : decode cX9_runOn 121 = .ok (.aload_n 1, 1) := by decide +kernel
theorem dX9_runOn_122 : decode cX9_runOn 122 = .ok (.iload 8, 2) := by decide +kernel
theorem dX9_runOn_124 : decode cX9_runOn 124 = .ok (.iload 9, 2) := by decide +kernel
theorem dX9_runOn_126 : decode cX9_runOn 126 = .ok (.invokestatic 208, 3) := by decide +kernel
theorem dX9_runOn_129 : decode cX9_runOn 129 = .ok (.ifCond .eq 6, 3) := by decide +kernel
theorem dX9_runOn_132 : decode cX9_runOn 132 = .ok (.iinc 7 1, 3) := by decide +kernel
theorem dX9_runOn_135 : decode cX9_runOn 135 = .ok (.iinc 9 1, 3) := by decide +kernel
theorem dX9_runOn_138 : decode cX9_runOn 138 = .ok (.goto (-61), 3) := by decide +kernel
theorem dX9_runOn_141 : decode cX9_runOn 141 = .ok (.iinc 8 1, 3) := by decide +kernel
theorem dX9_runOn_144 : decode cX9_runOn 144 = .ok (.goto (-80), 3) := by decide +kernel
theorem dX9_runOn_147 : decode cX9_runOn 147 = .ok (.iload 7, 2) := by decide +kernel
theorem dX9_runOn_149 : decode cX9_runOn 149 = .ok (.ireturn, 1) := by decide +kernel
theorem dX9_whyNotRun_0 : decode cX9_whyNotRun 0 = .ok (.aload_n 0, 1) := by decide +kernel
theorem dX9_whyNotRun_1 : decode cX9_whyNotRun 1 = .ok (.iload_n 1, 1) := by decide +kernel
theorem dX9_whyNotRun_2 : decode cX9_whyNotRun 2 = .ok (.invokestatic 211, 3) := by decide +kernel
theorem dX9_whyNotRun_5 : decode cX9_whyNotRun 5 = .ok (.ifCond .ne 7, 3) := by decide +kernel
theorem dX9_whyNotRun_8 : decode cX9_whyNotRun 8 = .ok (.iconst 1, 1) := by decide +kernel
theorem dX9_whyNotRun_9 : decode cX9_whyNotRun 9 = .ok (.goto 12, 3) := by decide +kernel
theorem dX9_whyNotRun_12 : decode cX9_whyNotRun 12 = .ok (.iload_n 1, 1) := by decide +kernel
theorem dX9_whyNotRun_13 : decode cX9_whyNotRun 13 = .ok (.ifCond .ne 7, 3) := by decide +kernel
theorem dX9_whyNotRun_16 : decode cX9_whyNotRun 16 = .ok (.iconst 2, 1) := by decide +kernel
theorem dX9_whyNotRun_17 : decode cX9_whyNotRun 17 = .ok (.goto 4, 3) := by decide +kernel
theorem dX9_whyNotRun_20 : decode cX9_whyNotRun 20 = .ok (.iconst 0, 1) := by decide +kernel
theorem dX9_whyNotRun_21 : decode cX9_whyNotRun 21 = .ok (.ireturn, 1) := by decide +kernel
theorem dX9_run_0 : decode cX9_run 0 = .ok (.aload_n 0, 1) := by decide +kernel
theorem dX9_run_1 : decode cX9_run 1 = .ok (.aload_n 0, 1) := by decide +kernel
theorem dX9_run_2 : decode cX9_run 2 = .ok (.getfield 13, 3) := by decide +kernel
theorem dX9_run_5 : decode cX9_run 5 = .ok (.iload_n 1, 1) := by decide +kernel
theorem dX9_run_6 : decode cX9_run 6 = .ok (.invokestatic 214, 3) := by decide +kernel
theorem dX9_run_9 : decode cX9_run 9 = .ok (.invokevirtual 118, 3) := by decide +kernel
theorem dX9_run_12 : decode cX9_run 12 = .ok (.ifCond .eq 5, 3) := by decide +kernel
theorem dX9_run_15 : decode cX9_run 15 = .ok (.iconst 0, 1) := by decide +kernel
theorem dX9_run_16 : decode cX9_run 16 = .ok (.ireturn, 1) := by decide +kernel
theorem dX9_run_17 : decode cX9_run 17 = .ok (.aload_n 0, 1) := by decide +kernel
theorem dX9_run_18 : decode cX9_run 18 = .ok (.invokevirtual 192, 3) := by decide +kernel
theorem dX9_run_21 : decode cX9_run 21 = .ok (.aload_n 0, 1) := by decide +kernel
theorem dX9_run_22 : decode cX9_run 22 = .ok (.aload_n 0, 1) := by decide +kernel
theorem dX9_run_23 : decode cX9_run 23 = .ok (.getfield 13, 3) := by decide +kernel
theorem dX9_run_26 : decode cX9_run 26 = .ok (.iload_n 1, 1) := by decide +kernel
theorem dX9_run_27 : decode cX9_run 27 = .ok (.invokevirtual 217, 3) := by decide +kernel
theorem dX9_run_30 : decode cX9_run 30 = .ok (.ireturn, 1) := by decide +kernel
theorem dX9_weeksOn_0 : decode cX9_weeksOn 0 = .ok (.iconst 0, 1) := by decide +kernel
theorem dX9_weeksOn_1 : decode cX9_weeksOn 1 = .ok (.istore_n 2, 1) := by decide +kernel
theorem dX9_weeksOn_2 : decode cX9_weeksOn 2 = .ok (.iload_n 2, 1) := by decide +kernel
theorem dX9_weeksOn_3 : decode cX9_weeksOn 3 = .ok (.iload_n 1, 1) := by decide +kernel
theorem dX9_weeksOn_4 : decode cX9_weeksOn 4 = .ok (.if_icmp .ge 123, 3) := by decide +kernel
theorem dX9_weeksOn_7 : decode cX9_weeksOn 7 = .ok (.iconst 0, 1) := by decide +kernel
theorem dX9_weeksOn_8 : decode cX9_weeksOn 8 = .ok (.istore_n 3, 1) := by decide +kernel
theorem dX9_weeksOn_9 : decode cX9_weeksOn 9 = .ok (.iload_n 3, 1) := by decide +kernel
theorem dX9_weeksOn_10 : decode cX9_weeksOn 10 = .ok (.bipush 49, 2) := by decide +kernel
theorem dX9_weeksOn_12 : decode cX9_weeksOn 12 = .ok (.if_icmp .ge 100, 3) := by decide +kernel
theorem dX9_weeksOn_15 : decode cX9_weeksOn 15 = .ok (.aload_n 0, 1) := by decide +kernel
theorem dX9_weeksOn_16 : decode cX9_weeksOn 16 = .ok (.sipush 204, 3) := by decide +kernel
theorem dX9_weeksOn_19 : decode cX9_weeksOn 19 = .ok (.iload_n 3, 1) := by decide +kernel
theorem dX9_weeksOn_20 : decode cX9_weeksOn 20 = .ok (.iadd, 1) := by decide +kernel
theorem dX9_weeksOn_21 : decode cX9_weeksOn 21 = .ok (.dup2, 1) := by decide +kernel
theorem dX9_weeksOn_22 : decode cX9_weeksOn 22 = .ok (.laload, 1) := by decide +kernel
theorem dX9_weeksOn_23 : decode cX9_weeksOn 23 = .ok (.aload_n 0, 1) := by decide +kernel
theorem dX9_weeksOn_24 : decode cX9_weeksOn 24 = .ok (.sipush 155, 3) := by decide +kernel
theorem dX9_weeksOn_27 : decode cX9_weeksOn 27 = .ok (.iload_n 3, 1) := by decide +kernel
theorem dX9_weeksOn_28 : decode cX9_weeksOn 28 = .ok (.iadd, 1) := by decide +kernel
theorem dX9_weeksOn_29 : decode cX9_weeksOn 29 = .ok (.laload, 1) := by decide +kernel
theorem dX9_weeksOn_30 : decode cX9_weeksOn 30 = .ok (.lconst 0, 1) := by decide +kernel
theorem dX9_weeksOn_31 : decode cX9_weeksOn 31 = .ok (.lcmp, 1) := by decide +kernel
theorem dX9_weeksOn_32 : decode cX9_weeksOn 32 = .ok (.ifCond .le 7, 3) := by decide +kernel
theorem dX9_weeksOn_35 : decode cX9_weeksOn 35 = .ok (.lconst 1, 1) := by decide +kernel
theorem dX9_weeksOn_36 : decode cX9_weeksOn 36 = .ok (.goto 4, 3) := by decide +kernel
theorem dX9_weeksOn_39 : decode cX9_weeksOn 39 = .ok (.lconst 0, 1) := by decide +kernel
theorem dX9_weeksOn_40 : decode cX9_weeksOn 40 = .ok (.ladd, 1) := by decide +kernel
theorem dX9_weeksOn_41 : decode cX9_weeksOn 41 = .ok (.lastore, 1) := by decide +kernel
theorem dX9_weeksOn_42 : decode cX9_weeksOn 42 = .ok (.aload_n 0, 1) := by decide +kernel
theorem dX9_weeksOn_43 : decode cX9_weeksOn 43 = .ok (.sipush 155, 3) := by decide +kernel
theorem dX9_weeksOn_46 : decode cX9_weeksOn 46 = .ok (.iload_n 3, 1) := by decide +kernel
theorem dX9_weeksOn_47 : decode cX9_weeksOn 47 = .ok (.iadd, 1) := by decide +kernel
theorem dX9_weeksOn_48 : decode cX9_weeksOn 48 = .ok (.aload_n 0, 1) := by decide +kernel
theorem dX9_weeksOn_49 : decode cX9_weeksOn 49 = .ok (.sipush 204, 3) := by decide +kernel
theorem dX9_weeksOn_52 : decode cX9_weeksOn 52 = .ok (.iload_n 3, 1) := by decide +kernel
theorem dX9_weeksOn_53 : decode cX9_weeksOn 53 = .ok (.iadd, 1) := by decide +kernel
theorem dX9_weeksOn_54 : decode cX9_weeksOn 54 = .ok (.laload, 1) := by decide +kernel
theorem dX9_weeksOn_55 : decode cX9_weeksOn 55 = .ok (.aload_n 0, 1) := by decide +kernel
theorem dX9_weeksOn_56 : decode cX9_weeksOn 56 = .ok (.sipush 304, 3) := by decide +kernel
theorem dX9_weeksOn_59 : decode cX9_weeksOn 59 = .ok (.laload, 1) := by decide +kernel
theorem dX9_weeksOn_60 : decode cX9_weeksOn 60 = .ok (.lcmp, 1) := by decide +kernel
theorem dX9_weeksOn_61 : decode cX9_weeksOn 61 = .ok (.ifCond .le 7, 3) := by decide +kernel
theorem dX9_weeksOn_64 : decode cX9_weeksOn 64 = .ok (.lconst 0, 1) := by decide +kernel
theorem dX9_weeksOn_65 : decode cX9_weeksOn 65 = .ok (.goto 10, 3) := by decide +kernel
theorem dX9_weeksOn_68 : decode cX9_weeksOn 68 = .ok (.aload_n 0, 1) := by decide +kernel
theorem dX9_weeksOn_69 : decode cX9_weeksOn 69 = .ok (.sipush 155, 3) := by decide +kernel
theorem dX9_weeksOn_72 : decode cX9_weeksOn 72 = .ok (.iload_n 3, 1) := by decide +kernel
theorem dX9_weeksOn_73 : decode cX9_weeksOn 73 = .ok (.iadd, 1) := by decide +kernel
theorem dX9_weeksOn_74 : decode cX9_weeksOn 74 = .ok (.laload, 1) := by decide +kernel
theorem dX9_weeksOn_75 : decode cX9_weeksOn 75 = .ok (.lastore, 1) := by decide +kernel
theorem dX9_weeksOn_76 : decode cX9_weeksOn 76 = .ok (.aload_n 0, 1) := by decide +kernel
theorem dX9_weeksOn_77 : decode cX9_weeksOn 77 = .ok (.sipush 204, 3) := by decide +kernel
theorem dX9_weeksOn_80 : decode cX9_weeksOn 80 = .ok (.iload_n 3, 1) := by decide +kernel
theorem dX9_weeksOn_81 : decode cX9_weeksOn 81 = .ok (.iadd, 1) := by decide +kernel
theorem dX9_weeksOn_82 : decode cX9_weeksOn 82 = .ok (.aload_n 0, 1) := by decide +kernel
theorem dX9_weeksOn_83 : decode cX9_weeksOn 83 = .ok (.sipush 155, 3) := by decide +kernel
theorem dX9_weeksOn_86 : decode cX9_weeksOn 86 = .ok (.iload_n 3, 1) := by decide +kernel
theorem dX9_weeksOn_87 : decode cX9_weeksOn 87 = .ok (.iadd, 1) := by decide +kernel
theorem dX9_weeksOn_88 : decode cX9_weeksOn 88 = .ok (.laload, 1) := by decide +kernel
theorem dX9_weeksOn_89 : decode cX9_weeksOn 89 = .ok (.lconst 0, 1) := by decide +kernel
theorem dX9_weeksOn_90 : decode cX9_weeksOn 90 = .ok (.lcmp, 1) := by decide +kernel
theorem dX9_weeksOn_91 : decode cX9_weeksOn 91 = .ok (.ifCond .ne 7, 3) := by decide +kernel
theorem dX9_weeksOn_94 : decode cX9_weeksOn 94 = .ok (.lconst 0, 1) := by decide +kernel
theorem dX9_weeksOn_95 : decode cX9_weeksOn 95 = .ok (.goto 10, 3) := by decide +kernel
theorem dX9_weeksOn_98 : decode cX9_weeksOn 98 = .ok (.aload_n 0, 1) := by decide +kernel
theorem dX9_weeksOn_99 : decode cX9_weeksOn 99 = .ok (.sipush 204, 3) := by decide +kernel
theorem dX9_weeksOn_102 : decode cX9_weeksOn 102 = .ok (.iload_n 3, 1) := by decide +kernel
theorem dX9_weeksOn_103 : decode cX9_weeksOn 103 = .ok (.iadd, 1) := by decide +kernel
theorem dX9_weeksOn_104 : decode cX9_weeksOn 104 = .ok (.laload, 1) := by decide +kernel
theorem dX9_weeksOn_105 : decode cX9_weeksOn 105 = .ok (.lastore, 1) := by decide +kernel
theorem dX9_weeksOn_106 : decode cX9_weeksOn 106 = .ok (.iinc 3 1, 3) := by decide +kernel
theorem dX9_weeksOn_109 : decode cX9_weeksOn 109 = .ok (.goto (-100), 3) := by decide +kernel
theorem dX9_weeksOn_112 : decode cX9_weeksOn 112 = .ok (.aload_n 0, 1) := by decide +kernel
theorem dX9_weeksOn_113 : decode cX9_weeksOn 113 = .ok (.sipush 305, 3) := by decide +kernel
theorem dX9_weeksOn_116 : decode cX9_weeksOn 116 = .ok (.dup2, 1) := by decide +kernel
theorem dX9_weeksOn_117 : decode cX9_weeksOn 117 = .ok (.laload, 1) := by decide +kernel
theorem dX9_weeksOn_118 : decode cX9_weeksOn 118 = .ok (.lconst 1, 1) := by decide +kernel
theorem dX9_weeksOn_119 : decode cX9_weeksOn 119 = .ok (.ladd, 1) := by decide +kernel
theorem dX9_weeksOn_120 : decode cX9_weeksOn 120 = .ok (.lastore, 1) := by decide +kernel
theorem dX9_weeksOn_121 : decode cX9_weeksOn 121 = .ok (.iinc 2 1, 3) := by decide +kernel
theorem dX9_weeksOn_124 : decode cX9_weeksOn 124 = .ok (.goto (-122), 3) := by decide +kernel
theorem dX9_weeksOn_127 : decode cX9_weeksOn 127 = .ok (.aload_n 0, 1) := by decide +kernel
theorem dX9_weeksOn_128 : decode cX9_weeksOn 128 = .ok (.sipush 155, 3) := by decide +kernel
theorem dX9_weeksOn_131 : decode cX9_weeksOn 131 = .ok (.invokestatic 138, 3) := by decide +kernel
theorem dX9_weeksOn_134 : decode cX9_weeksOn 134 = .ok (.l2i, 1) := by decide +kernel
theorem dX9_weeksOn_135 : decode cX9_weeksOn 135 = .ok (.ireturn, 1) := by decide +kernel
theorem dX9_weeks_0 : decode cX9_weeks 0 = .ok (.aload_n 0, 1) := by decide +kernel
theorem dX9_weeks_1 : decode cX9_weeks 1 = .ok (.iload_n 1, 1) := by decide +kernel
theorem dX9_weeks_2 : decode cX9_weeks 2 = .ok (.i2l, 1) := by decide +kernel
theorem dX9_weeks_3 : decode cX9_weeks 3 = .ok (.lconst 1, 1) := by decide +kernel
theorem dX9_weeks_4 : decode cX9_weeks 4 = .ok (.ldc2_w 220, 3) := by decide +kernel
theorem dX9_weeks_7 : decode cX9_weeks 7 = .ok (.invokestatic 59, 3) := by decide +kernel
theorem dX9_weeks_10 : decode cX9_weeks 10 = .ok (.ifCond .eq 7, 3) := by decide +kernel
theorem dX9_weeks_13 : decode cX9_weeks 13 = .ok (.iconst 0, 1) := by decide +kernel
theorem dX9_weeks_14 : decode cX9_weeks 14 = .ok (.goto 4, 3) := by decide +kernel
theorem dX9_weeks_17 : decode cX9_weeks 17 = .ok (.iconst 1, 1) := by decide +kernel
theorem dX9_weeks_18 : decode cX9_weeks 18 = .ok (.invokevirtual 118, 3) := by decide +kernel
theorem dX9_weeks_21 : decode cX9_weeks 21 = .ok (.ifCond .eq 5, 3) := by decide +kernel
theorem dX9_weeks_24 : decode cX9_weeks 24 = .ok (.iconst 0, 1) := by decide +kernel
theorem dX9_weeks_25 : decode cX9_weeks 25 = .ok (.ireturn, 1) := by decide +kernel
theorem dX9_weeks_26 : decode cX9_weeks 26 = .ok (.aload_n 0, 1) := by decide +kernel
theorem dX9_weeks_27 : decode cX9_weeks 27 = .ok (.invokevirtual 192, 3) := by decide +kernel
theorem dX9_weeks_30 : decode cX9_weeks 30 = .ok (.aload_n 0, 1) := by decide +kernel
theorem dX9_weeks_31 : decode cX9_weeks 31 = .ok (.getfield 13, 3) := by decide +kernel
theorem dX9_weeks_34 : decode cX9_weeks 34 = .ok (.iload_n 1, 1) := by decide +kernel
theorem dX9_weeks_35 : decode cX9_weeks 35 = .ok (.invokestatic 222, 3) := by decide +kernel
theorem dX9_weeks_38 : decode cX9_weeks 38 = .ok (.ireturn, 1) := by decide +kernel
theorem dX9_isSetting_0 : decode cX9_isSetting 0 = .ok (.iload_n 0, 1) := by decide +kernel
theorem dX9_isSetting_1 : decode cX9_isSetting 1 = .ok (.ifCond .ne 15, 3) := by decide +kernel
theorem dX9_isSetting_4 : decode cX9_isSetting 4 = .ok (.iload_n 1, 1) := by decide +kernel
theorem dX9_isSetting_5 : decode cX9_isSetting 5 = .ok (.i2l, 1) := by decide +kernel
theorem dX9_isSetting_6 : decode cX9_isSetting 6 = .ok (.lconst 1, 1) := by decide +kernel
theorem dX9_isSetting_7 : decode cX9_isSetting 7 = .ok (.ldc2_w 81, 3) := by decide +kernel
theorem dX9_isSetting_10 : decode cX9_isSetting 10 = .ok (.invokestatic 59, 3) := by decide +kernel
theorem dX9_isSetting_13 : decode cX9_isSetting 13 = .ok (.ifCond .ne 37, 3) := by decide +kernel
theorem dX9_isSetting_16 : decode cX9_isSetting 16 = .ok (.iload_n 0, 1) := by decide +kernel
theorem dX9_isSetting_17 : decode cX9_isSetting 17 = .ok (.iconst 1, 1) := by decide +kernel
theorem dX9_isSetting_18 : decode cX9_isSetting 18 = .ok (.if_icmp .ne 15, 3) := by decide +kernel
theorem dX9_isSetting_21 : decode cX9_isSetting 21 = .ok (.iload_n 1, 1) := by decide +kernel
theorem dX9_isSetting_22 : decode cX9_isSetting 22 = .ok (.i2l, 1) := by decide +kernel
theorem dX9_isSetting_23 : decode cX9_isSetting 23 = .ok (.lconst 1, 1) := by decide +kernel
theorem dX9_isSetting_24 : decode cX9_isSetting 24 = .ok (.ldc2_w 51, 3) := by decide +kernel
theorem dX9_isSetting_27 : decode cX9_isSetting 27 = .ok (.invokestatic 59, 3) := by decide +kernel
theorem dX9_isSetting_30 : decode cX9_isSetting 30 = .ok (.ifCond .ne 20, 3) := by decide +kernel
theorem dX9_isSetting_33 : decode cX9_isSetting 33 = .ok (.iload_n 0, 1) := by decide +kernel
theorem dX9_isSetting_34 : decode cX9_isSetting 34 = .ok (.iconst 2, 1) := by decide +kernel
theorem dX9_isSetting_35 : decode cX9_isSetting 35 = .ok (.if_icmp .ne 19, 3) := by decide +kernel
theorem dX9_isSetting_38 : decode cX9_isSetting 38 = .ok (.iload_n 1, 1) := by decide +kernel
theorem dX9_isSetting_39 : decode cX9_isSetting 39 = .ok (.i2l, 1) := by decide +kernel
theorem dX9_isSetting_40 : decode cX9_isSetting 40 = .ok (.lconst 0, 1) := by decide +kernel
theorem dX9_isSetting_41 : decode cX9_isSetting 41 = .ok (.ldc2_w 220, 3) := by decide +kernel
theorem dX9_isSetting_44 : decode cX9_isSetting 44 = .ok (.invokestatic 59, 3) := by decide +kernel
theorem dX9_isSetting_47 : decode cX9_isSetting 47 = .ok (.ifCond .eq 7, 3) := by decide +kernel
theorem dX9_isSetting_50 : decode cX9_isSetting 50 = .ok (.iconst 1, 1) := by decide +kernel
theorem dX9_isSetting_51 : decode cX9_isSetting 51 = .ok (.goto 4, 3) := by decide +kernel
theorem dX9_isSetting_54 : decode cX9_isSetting 54 = .ok (.iconst 0, 1) := by decide +kernel
theorem dX9_isSetting_55 : decode cX9_isSetting 55 = .ok (.ireturn, 1) := by decide +kernel
theorem dX9_set_0 : decode cX9_set 0 = .ok (.aload_n 0, 1) := by decide +kernel
theorem dX9_set_1 : decode cX9_set 1 = .ok (.iload_n 1, 1) := by decide +kernel
theorem dX9_set_2 : decode cX9_set 2 = .ok (.iload_n 2, 1) := by decide +kernel
theorem dX9_set_3 : decode cX9_set 3 = .ok (.invokestatic 225, 3) := by decide +kernel
theorem dX9_set_6 : decode cX9_set 6 = .ok (.ifCond .eq 7, 3) := by decide +kernel
theorem dX9_set_9 : decode cX9_set 9 = .ok (.iconst 0, 1) := by decide +kernel
theorem dX9_set_10 : decode cX9_set 10 = .ok (.goto 4, 3) := by decide +kernel
theorem dX9_set_13 : decode cX9_set 13 = .ok (.iconst 1, 1) := by decide +kernel
theorem dX9_set_14 : decode cX9_set 14 = .ok (.invokevirtual 118, 3) := by decide +kernel
theorem dX9_set_17 : decode cX9_set 17 = .ok (.ifCond .eq 5, 3) := by decide +kernel
theorem dX9_set_20 : decode cX9_set 20 = .ok (.iconst 0, 1) := by decide +kernel
theorem dX9_set_21 : decode cX9_set 21 = .ok (.ireturn, 1) := by decide +kernel
theorem dX9_set_22 : decode cX9_set 22 = .ok (.aload_n 0, 1) := by decide +kernel
theorem dX9_set_23 : decode cX9_set 23 = .ok (.invokevirtual 192, 3) := by decide +kernel
theorem dX9_set_26 : decode cX9_set 26 = .ok (.aload_n 0, 1) := by decide +kernel
theorem dX9_set_27 : decode cX9_set 27 = .ok (.getfield 13, 3) := by decide +kernel
theorem dX9_set_30 : decode cX9_set 30 = .ok (.sipush 302, 3) := by decide +kernel
theorem dX9_set_33 : decode cX9_set 33 = .ok (.iload_n 1, 1) := by decide +kernel
theorem dX9_set_34 : decode cX9_set 34 = .ok (.iadd, 1) := by decide +kernel
theorem dX9_set_35 : decode cX9_set 35 = .ok (.laload, 1) := by decide +kernel
theorem dX9_set_36 : decode cX9_set 36 = .ok (.l2i, 1) := by decide +kernel
theorem dX9_set_37 : decode cX9_set 37 = .ok (.istore_n 3, 1) := by decide +kernel
theorem dX9_set_38 : decode cX9_set 38 = .ok (.aload_n 0, 1) := by decide +kernel
theorem dX9_set_39 : decode cX9_set 39 = .ok (.getfield 13, 3) := by decide +kernel
theorem dX9_set_42 : decode cX9_set 42 = .ok (.sipush 302, 3) := by decide +kernel
theorem dX9_set_45 : decode cX9_set 45 = .ok (.iload_n 1, 1) := by decide +kernel
theorem dX9_set_46 : decode cX9_set 46 = .ok (.iadd, 1) := by decide +kernel
theorem dX9_set_47 : decode cX9_set 47 = .ok (.iload_n 2, 1) := by decide +kernel
theorem dX9_set_48 : decode cX9_set 48 = .ok (.i2l, 1) := by decide +kernel
theorem dX9_set_49 : decode cX9_set 49 = .ok (.lastore, 1) := by decide +kernel
theorem dX9_set_50 : decode cX9_set 50 = .ok (.iload_n 3, 1) := by decide +kernel
theorem dX9_set_51 : decode cX9_set 51 = .ok (.ireturn, 1) := by decide +kernel
theorem dX9_undo_0 : decode cX9_undo 0 = .ok (.aload_n 0, 1) := by decide +kernel
theorem dX9_undo_1 : decode cX9_undo 1 = .ok (.aload_n 0, 1) := by decide +kernel
theorem dX9_undo_2 : decode cX9_undo 2 = .ok (.getfield 177, 3) := by decide +kernel
theorem dX9_undo_5 : decode cX9_undo 5 = .ok (.ifCond .ne 7, 3) := by decide +kernel
theorem dX9_undo_8 : decode cX9_undo 8 = .ok (.iconst 1, 1) := by decide +kernel
theorem dX9_undo_9 : decode cX9_undo 9 = .ok (.goto 4, 3) := by decide +kernel
theorem dX9_undo_12 : decode cX9_undo 12 = .ok (.iconst 0, 1) := by decide +kernel
theorem dX9_undo_13 : decode cX9_undo 13 = .ok (.invokevirtual 118, 3) := by decide +kernel
theorem dX9_undo_16 : decode cX9_undo 16 = .ok (.ifCond .eq 5, 3) := by decide +kernel
theorem dX9_undo_19 : decode cX9_undo 19 = .ok (.iconst 0, 1) := by decide +kernel
theorem dX9_undo_20 : decode cX9_undo 20 = .ok (.ireturn, 1) := by decide +kernel
theorem dX9_undo_21 : decode cX9_undo 21 = .ok (.aload_n 0, 1) := by decide +kernel
theorem dX9_undo_22 : decode cX9_undo 22 = .ok (.dup, 1) := by decide +kernel
theorem dX9_undo_23 : decode cX9_undo 23 = .ok (.getfield 177, 3) := by decide +kernel
theorem dX9_undo_26 : decode cX9_undo 26 = .ok (.iconst 1, 1) := by decide +kernel
theorem dX9_undo_27 : decode cX9_undo 27 = .ok (.isub, 1) := by decide +kernel
theorem dX9_undo_28 : decode cX9_undo 28 = .ok (.putfield 177, 3) := by decide +kernel
theorem dX9_undo_31 : decode cX9_undo 31 = .ok (.aload_n 0, 1) := by decide +kernel
theorem dX9_undo_32 : decode cX9_undo 32 = .ok (.getfield 20, 3) := by decide +kernel
theorem dX9_undo_35 : decode cX9_undo 35 = .ok (.sipush 353, 3) := by decide +kernel
theorem dX9_undo_38 : decode cX9_undo 38 = .ok (.aload_n 0, 1) := by decide +kernel
theorem dX9_undo_39 : decode cX9_undo 39 = .ok (.getfield 177, 3) := by decide +kernel
theorem dX9_undo_42 : decode cX9_undo 42 = .ok (.imul, 1) := by decide +kernel
theorem dX9_undo_43 : decode cX9_undo 43 = .ok (.aload_n 0, 1) := by decide +kernel
theorem dX9_undo_44 : decode cX9_undo 44 = .ok (.getfield 13, 3) := by decide +kernel
theorem dX9_undo_47 : decode cX9_undo 47 = .ok (.iconst 0, 1) := by decide +kernel
theorem dX9_undo_48 : decode cX9_undo 48 = .ok (.invokestatic 173, 3) := by decide +kernel
theorem dX9_undo_51 : decode cX9_undo 51 = .ok (.aload_n 0, 1) := by decide +kernel
theorem dX9_undo_52 : decode cX9_undo 52 = .ok (.getfield 177, 3) := by decide +kernel
theorem dX9_undo_55 : decode cX9_undo 55 = .ok (.ireturn, 1) := by decide +kernel
theorem dX9_rows_0 : decode cX9_rows 0 = .ok (.aload_n 0, 1) := by decide +kernel
theorem dX9_rows_1 : decode cX9_rows 1 = .ok (.aload_n 0, 1) := by decide +kernel
theorem dX9_rows_2 : decode cX9_rows 2 = .ok (.getfield 13, 3) := by decide +kernel
theorem dX9_rows_5 : decode cX9_rows 5 = .ok (.iload_n 1, 1) := by decide +kernel
theorem dX9_rows_6 : decode cX9_rows 6 = .ok (.invokestatic 211, 3) := by decide +kernel
theorem dX9_rows_9 : decode cX9_rows 9 = .ok (.ifCond .ne 7, 3) := by decide +kernel
theorem dX9_rows_12 : decode cX9_rows 12 = .ok (.iconst 1, 1) := by decide +kernel
theorem dX9_rows_13 : decode cX9_rows 13 = .ok (.goto 20, 3) := by decide +kernel
theorem dX9_rows_16 : decode cX9_rows 16 = .ok (.iload_n 2, 1) := by decide +kernel
theorem dX9_rows_17 : decode cX9_rows 17 = .ok (.i2l, 1) := by decide +kernel
theorem dX9_rows_18 : decode cX9_rows 18 = .ok (.lconst 0, 1) := by decide +kernel
theorem dX9_rows_19 : decode cX9_rows 19 = .ok (.ldc2_w 188, 3) := by decide +kernel
theorem dX9_rows_22 : decode cX9_rows 22 = .ok (.invokestatic 59, 3) := by decide +kernel
theorem dX9_rows_25 : decode cX9_rows 25 = .ok (.ifCond .eq 7, 3) := by decide +kernel
theorem dX9_rows_28 : decode cX9_rows 28 = .ok (.iconst 0, 1) := by decide +kernel
theorem dX9_rows_29 : decode cX9_rows 29 = .ok (.goto 4, 3) := by decide +kernel
theorem dX9_rows_32 : decode cX9_rows 32 = .ok (.iconst 2, 1) := by decide +kernel
theorem dX9_rows_33 : decode cX9_rows 33 = .ok (.invokevirtual 118, 3) := by decide +kernel
theorem dX9_rows_36 : decode cX9_rows 36 = .ok (.ifCond .eq 5, 3) := by decide +kernel
theorem dX9_rows_39 : decode cX9_rows 39 = .ok (.lconst 0, 1) := by decide +kernel
theorem dX9_rows_40 : decode cX9_rows 40 = .ok (.lreturn, 1) := by decide +kernel
theorem dX9_rows_41 : decode cX9_rows 41 = .ok (.aload_n 0, 1) := by decide +kernel
theorem dX9_rows_42 : decode cX9_rows 42 = .ok (.getfield 13, 3) := by decide +kernel
theorem dX9_rows_45 : decode cX9_rows 45 = .ok (.iload_n 1, 1) := by decide +kernel
theorem dX9_rows_46 : decode cX9_rows 46 = .ok (.iload_n 2, 1) := by decide +kernel
theorem dX9_rows_47 : decode cX9_rows 47 = .ok (.invokestatic 83, 3) := by decide +kernel
theorem dX9_rows_50 : decode cX9_rows 50 = .ok (.lreturn, 1) := by decide +kernel
theorem dX9_order_0 : decode cX9_order 0 = .ok (.aload_n 0, 1) := by decide +kernel
theorem dX9_order_1 : decode cX9_order 1 = .ok (.aload_n 0, 1) := by decide +kernel
theorem dX9_order_2 : decode cX9_order 2 = .ok (.getfield 13, 3) := by decide +kernel
theorem dX9_order_5 : decode cX9_order 5 = .ok (.iload_n 1, 1) := by decide +kernel
theorem dX9_order_6 : decode cX9_order 6 = .ok (.invokestatic 211, 3) := by decide +kernel
theorem dX9_order_9 : decode cX9_order 9 = .ok (.ifCond .ne 7, 3) := by decide +kernel
theorem dX9_order_12 : decode cX9_order 12 = .ok (.iconst 1, 1) := by decide +kernel
theorem dX9_order_13 : decode cX9_order 13 = .ok (.goto 24, 3) := by decide +kernel
theorem dX9_order_16 : decode cX9_order 16 = .ok (.iload_n 2, 1) := by decide +kernel
theorem dX9_order_17 : decode cX9_order 17 = .ok (.i2l, 1) := by decide +kernel
theorem dX9_order_18 : decode cX9_order 18 = .ok (.lconst 0, 1) := by decide +kernel
theorem dX9_order_19 : decode cX9_order 19 = .ok (.ldc2_w 188, 3) := by decide +kernel
theorem dX9_order_22 : decode cX9_order 22 = .ok (.invokestatic 59, 3) := by decide +kernel
theorem dX9_order_25 : decode cX9_order 25 = .ok (.ifCond .eq 11, 3) := by decide +kernel
theorem dX9_order_28 : decode cX9_order 28 = .ok (.iload_n 3, 1) := by decide +kernel
theorem dX9_order_29 : decode cX9_order 29 = .ok (.ifCond .lt 7, 3) := by decide +kernel
theorem dX9_order_32 : decode cX9_order 32 = .ok (.iconst 0, 1) := by decide +kernel
theorem dX9_order_33 : decode cX9_order 33 = .ok (.goto 4, 3) := by decide +kernel
theorem dX9_order_36 : decode cX9_order 36 = .ok (.iconst 2, 1) := by decide +kernel
theorem dX9_order_37 : decode cX9_order 37 = .ok (.invokevirtual 118, 3) := by decide +kernel
theorem dX9_order_40 : decode cX9_order 40 = .ok (.ifCond .eq 5, 3) := by decide +kernel
theorem dX9_order_43 : decode cX9_order 43 = .ok (.iconst 0, 1) := by decide +kernel
theorem dX9_order_44 : decode cX9_order 44 = .ok (.ireturn, 1) := by decide +kernel
theorem dX9_order_45 : decode cX9_order 45 = .ok (.aload_n 0, 1) := by decide +kernel
theorem dX9_order_46 : decode cX9_order 46 = .ok (.aload_n 0, 1) := by decide +kernel
theorem dX9_order_47 : decode cX9_order 47 = .ok (.getfield 13, 3) := by decide +kernel
theorem dX9_order_50 : decode cX9_order 50 = .ok (.iload_n 1, 1) := by decide +kernel
theorem dX9_order_51 : decode cX9_order 51 = .ok (.iload_n 2, 1) := by decide +kernel
theorem dX9_order_52 : decode cX9_order 52 = .ok (.invokevirtual 107, 3) := by decide +kernel
theorem dX9_order_55 : decode cX9_order 55 = .ok (.pop2, 1) := by decide +kernel
theorem dX9_order_56 : decode cX9_order 56 = .ok (.iload_n 3, 1) := by decide +kernel
theorem dX9_order_57 : decode cX9_order 57 = .ok (.aload_n 0, 1) := by decide +kernel
theorem dX9_order_58 : decode cX9_order 58 = .ok (.getfield 98, 3) := by decide +kernel
theorem dX9_order_61 : decode cX9_order 61 = .ok (.if_icmp .ge 12, 3) := by decide +kernel
theorem dX9_order_64 : decode cX9_order 64 = .ok (.aload_n 0, 1) := by decide +kernel
theorem dX9_order_65 : decode cX9_order 65 = .ok (.getfield 39, 3) := by decide +kernel
theorem dX9_order_68 : decode cX9_order 68 = .ok (.iload_n 3, 1) := by decide +kernel
theorem dX9_order_69 : decode cX9_order 69 = .ok (.iaload, 1) := by decide +kernel
theorem dX9_order_70 : decode cX9_order 70 = .ok (.goto 4, 3) := by decide +kernel
theorem dX9_order_73 : decode cX9_order 73 = .ok (.iconst (-1), 1) := by decide +kernel
theorem dX9_order_74 : decode cX9_order 74 = .ok (.ireturn, 1) := by decide +kernel
theorem dX9_way_0 : decode cX9_way 0 = .ok (.aload_n 0, 1) := by decide +kernel
theorem dX9_way_1 : decode cX9_way 1 = .ok (.aload_n 0, 1) := by decide +kernel
theorem dX9_way_2 : decode cX9_way 2 = .ok (.getfield 13, 3) := by decide +kernel
theorem dX9_way_5 : decode cX9_way 5 = .ok (.iload_n 1, 1) := by decide +kernel
theorem dX9_way_6 : decode cX9_way 6 = .ok (.invokestatic 211, 3) := by decide +kernel
theorem dX9_way_9 : decode cX9_way 9 = .ok (.ifCond .ne 7, 3) := by decide +kernel
theorem dX9_way_12 : decode cX9_way 12 = .ok (.iconst 1, 1) := by decide +kernel
theorem dX9_way_13 : decode cX9_way 13 = .ok (.goto 13, 3) := by decide +kernel
theorem dX9_way_16 : decode cX9_way 16 = .ok (.iload_n 2, 1) := by decide +kernel
theorem dX9_way_17 : decode cX9_way 17 = .ok (.iconst 1, 1) := by decide +kernel
theorem dX9_way_18 : decode cX9_way 18 = .ok (.if_icmp .lt 7, 3) := by decide +kernel
theorem dX9_way_21 : decode cX9_way 21 = .ok (.iconst 0, 1) := by decide +kernel
theorem dX9_way_22 : decode cX9_way 22 = .ok (.goto 4, 3) := by decide +kernel
theorem dX9_way_25 : decode cX9_way 25 = .ok (.iconst 2, 1) := by decide +kernel
theorem dX9_way_26 : decode cX9_way 26 = .ok (.invokevirtual 118, 3) := by decide +kernel
theorem dX9_way_29 : decode cX9_way 29 = .ok (.ifCond .eq 5, 3) := by decide +kernel
theorem dX9_way_32 : decode cX9_way 32 = .ok (.iconst 0, 1) := by decide +kernel
theorem dX9_way_33 : decode cX9_way 33 = .ok (.ireturn, 1) := by decide +kernel
theorem dX9_way_34 : decode cX9_way 34 = .ok (.aload_n 0, 1) := by decide +kernel
theorem dX9_way_35 : decode cX9_way 35 = .ok (.aload_n 0, 1) := by decide +kernel
theorem dX9_way_36 : decode cX9_way 36 = .ok (.getfield 13, 3) := by decide +kernel
theorem dX9_way_39 : decode cX9_way 39 = .ok (.iload_n 1, 1) := by decide +kernel
theorem dX9_way_40 : decode cX9_way 40 = .ok (.iconst 1, 1) := by decide +kernel
theorem dX9_way_41 : decode cX9_way 41 = .ok (.invokevirtual 107, 3) := by decide +kernel
theorem dX9_way_44 : decode cX9_way 44 = .ok (.pop2, 1) := by decide +kernel
theorem dX9_way_45 : decode cX9_way 45 = .ok (.iload_n 2, 1) := by decide +kernel
theorem dX9_way_46 : decode cX9_way 46 = .ok (.aload_n 0, 1) := by decide +kernel
theorem dX9_way_47 : decode cX9_way 47 = .ok (.getfield 98, 3) := by decide +kernel
theorem dX9_way_50 : decode cX9_way 50 = .ok (.if_icmp .lt 5, 3) := by decide +kernel
theorem dX9_way_53 : decode cX9_way 53 = .ok (.iconst (-1), 1) := by decide +kernel
theorem dX9_way_54 : decode cX9_way 54 = .ok (.ireturn, 1) := by decide +kernel
theorem dX9_way_55 : decode cX9_way 55 = .ok (.iconst 0, 1) := by decide +kernel
theorem dX9_way_56 : decode cX9_way 56 = .ok (.istore_n 3, 1) := by decide +kernel
theorem dX9_way_57 : decode cX9_way 57 = .ok (.iconst 0, 1) := by decide +kernel
theorem dX9_way_58 : decode cX9_way 58 = .ok (.istore 4, 2) := by decide +kernel
theorem dX9_way_60 : decode cX9_way 60 = .ok (.iload 4, 2) := by decide +kernel
theorem dX9_way_62 : decode cX9_way 62 = .ok (.iload_n 2, 1) := by decide +kernel
theorem dX9_way_63 : decode cX9_way 63 = .ok (.if_icmp .ge 21, 3) := by decide +kernel
theorem dX9_way_66 : decode cX9_way 66 = .ok (.iload_n 3, 1) := by decide +kernel
theorem dX9_way_67 : decode cX9_way 67 = .ok (.iconst 1, 1) := by decide +kernel
theorem dX9_way_68 : decode cX9_way 68 = .ok (.aload_n 0, 1) := by decide +kernel
theorem dX9_way_69 : decode cX9_way 69 = .ok (.getfield 39, 3) := by decide +kernel
theorem dX9_way_72 : decode cX9_way 72 = .ok (.iload 4, 2) := by decide +kernel
theorem dX9_way_74 : decode cX9_way 74 = .ok (.iaload, 1) := by decide +kernel
theorem dX9_way_75 : decode cX9_way 75 = .ok (.ishl, 1) := by decide +kernel
theorem dX9_way_76 : decode cX9_way 76 = .ok (.ior, 1) := by decide +kernel
theorem dX9_way_77 : decode cX9_way 77 = .ok (.istore_n 3, 1) := by decide +kernel
theorem dX9_way_78 : decode cX9_way 78 = .ok (.iinc 4 1, 3) := by decide +kernel
theorem dX9_way_81 : decode cX9_way 81 = .ok (.goto (-21), 3) := by decide +kernel
theorem dX9_way_84 : decode cX9_way 84 = .ok (.aload_n 0, 1) := by decide +kernel
theorem dX9_way_85 : decode cX9_way 85 = .ok (.getfield 13, 3) := by decide +kernel
theorem dX9_way_88 : decode cX9_way 88 = .ok (.aload_n 0, 1) := by decide +kernel
theorem dX9_way_89 : decode cX9_way 89 = .ok (.getfield 30, 3) := by decide +kernel
theorem dX9_way_92 : decode cX9_way 92 = .ok (.iload_n 3, 1) := by decide +kernel
theorem dX9_way_93 : decode cX9_way 93 = .ok (.aload_n 0, 1) := by decide +kernel
theorem dX9_way_94 : decode cX9_way 94 = .ok (.getfield 39, 3) := by decide +kernel
theorem dX9_way_97 : decode cX9_way 97 = .ok (.iload_n 2, 1) := by decide +kernel
theorem dX9_way_98 : decode cX9_way 98 = .ok (.iaload, 1) := by decide +kernel
theorem dX9_way_99 : decode cX9_way 99 = .ok (.invokestatic 88, 3) := by decide +kernel
theorem dX9_way_102 : decode cX9_way 102 = .ok (.ifCond .eq 7, 3) := by decide +kernel
theorem dX9_way_105 : decode cX9_way 105 = .ok (.iconst 1, 1) := by decide +kernel
theorem dX9_way_106 : decode cX9_way 106 = .ok (.goto 4, 3) := by decide +kernel
theorem dX9_way_109 : decode cX9_way 109 = .ok (.iconst 0, 1) := by decide +kernel
theorem dX9_way_110 : decode cX9_way 110 = .ok (.ireturn, 1) := by decide +kernel
theorem dX9_cost_0 : decode cX9_cost 0 = .ok (.aload_n 0, 1) := by decide +kernel
theorem dX9_cost_1 : decode cX9_cost 1 = .ok (.aload_n 0, 1) := by decide +kernel
theorem dX9_cost_2 : decode cX9_cost 2 = .ok (.getfield 13, 3) := by decide +kernel
theorem dX9_cost_5 : decode cX9_cost 5 = .ok (.iload_n 1, 1) := by decide +kernel
theorem dX9_cost_6 : decode cX9_cost 6 = .ok (.invokestatic 211, 3) := by decide +kernel
theorem dX9_cost_9 : decode cX9_cost 9 = .ok (.ifCond .ne 7, 3) := by decide +kernel
theorem dX9_cost_12 : decode cX9_cost 12 = .ok (.iconst 1, 1) := by decide +kernel
theorem dX9_cost_13 : decode cX9_cost 13 = .ok (.goto 20, 3) := by decide +kernel
theorem dX9_cost_16 : decode cX9_cost 16 = .ok (.iload_n 2, 1) := by decide +kernel
theorem dX9_cost_17 : decode cX9_cost 17 = .ok (.i2l, 1) := by decide +kernel
theorem dX9_cost_18 : decode cX9_cost 18 = .ok (.lconst 0, 1) := by decide +kernel
theorem dX9_cost_19 : decode cX9_cost 19 = .ok (.ldc2_w 188, 3) := by decide +kernel
theorem dX9_cost_22 : decode cX9_cost 22 = .ok (.invokestatic 59, 3) := by decide +kernel
theorem dX9_cost_25 : decode cX9_cost 25 = .ok (.ifCond .eq 7, 3) := by decide +kernel
theorem dX9_cost_28 : decode cX9_cost 28 = .ok (.iconst 0, 1) := by decide +kernel
theorem dX9_cost_29 : decode cX9_cost 29 = .ok (.goto 4, 3) := by decide +kernel
theorem dX9_cost_32 : decode cX9_cost 32 = .ok (.iconst 2, 1) := by decide +kernel
theorem dX9_cost_33 : decode cX9_cost 33 = .ok (.invokevirtual 118, 3) := by decide +kernel
theorem dX9_cost_36 : decode cX9_cost 36 = .ok (.ifCond .eq 5, 3) := by decide +kernel
theorem dX9_cost_39 : decode cX9_cost 39 = .ok (.lconst 0, 1) := by decide +kernel
theorem dX9_cost_40 : decode cX9_cost 40 = .ok (.lreturn, 1) := by decide +kernel
theorem dX9_cost_41 : decode cX9_cost 41 = .ok (.aload_n 0, 1) := by decide +kernel
theorem dX9_cost_42 : decode cX9_cost 42 = .ok (.aload_n 0, 1) := by decide +kernel
theorem dX9_cost_43 : decode cX9_cost 43 = .ok (.getfield 13, 3) := by decide +kernel
theorem dX9_cost_46 : decode cX9_cost 46 = .ok (.iload_n 1, 1) := by decide +kernel
theorem dX9_cost_47 : decode cX9_cost 47 = .ok (.iload_n 2, 1) := by decide +kernel
theorem dX9_cost_48 : decode cX9_cost 48 = .ok (.invokevirtual 205, 3) := by decide +kernel
theorem dX9_cost_51 : decode cX9_cost 51 = .ok (.lreturn, 1) := by decide +kernel
theorem dX9_layText_0 : decode cX9_layText 0 = .ok (.aload_n 0, 1) := by decide +kernel
theorem dX9_layText_1 : decode cX9_layText 1 = .ok (.iconst 0, 1) := by decide +kernel
theorem dX9_layText_2 : decode cX9_layText 2 = .ok (.putfield 98, 3) := by decide +kernel
theorem dX9_layText_5 : decode cX9_layText 5 = .ok (.aload_n 0, 1) := by decide +kernel
theorem dX9_layText_6 : decode cX9_layText 6 = .ok (.invokevirtual 166, 3) := by decide +kernel
theorem dX9_layText_9 : decode cX9_layText 9 = .ok (.iconst (-1), 1) := by decide +kernel
theorem dX9_layText_10 : decode cX9_layText 10 = .ok (.if_icmp .eq 5, 3) := by decide +kernel
theorem dX9_layText_13 : decode cX9_layText 13 = .ok (.iconst 0, 1) := by decide +kernel
theorem dX9_layText_14 : decode cX9_layText 14 = .ok (.ireturn, 1) := by decide +kernel
theorem dX9_layText_15 : decode cX9_layText 15 = .ok (.iconst 1, 1) := by decide +kernel
theorem dX9_layText_16 : decode cX9_layText 16 = .ok (.istore_n 1, 1) := by decide +kernel
theorem dX9_layText_17 : decode cX9_layText 17 = .ok (.iconst 0, 1) := by decide +kernel
theorem dX9_layText_18 : decode cX9_layText 18 = .ok (.istore_n 2, 1) := by decide +kernel
theorem dX9_layText_19 : decode cX9_layText 19 = .ok (.iload_n 2, 1) := by decide +kernel
theorem dX9_layText_20 : decode cX9_layText 20 = .ok (.aload_n 0, 1) := by decide +kernel
theorem dX9_layText_21 : decode cX9_layText 21 = .ok (.getfield 115, 3) := by decide +kernel
theorem dX9_layText_24 : decode cX9_layText 24 = .ok (.if_icmp .ge 66, 3) := by decide +kernel
theorem dX9_layText_27 : decode cX9_layText 27 = .ok (.aload_n 0, 1) := by decide +kernel
theorem dX9_layText_28 : decode cX9_layText 28 = .ok (.getfield 39, 3) := by decide +kernel
theorem dX9_layText_31 : decode cX9_layText 31 = .ok (.aload_n 0, 1) := by decide +kernel
theorem dX9_layText_32 : decode cX9_layText 32 = .ok (.getfield 98, 3) := by decide +kernel
theorem dX9_layText_35 : decode cX9_layText 35 = .ok (.aload_n 0, 1) := by decide +kernel
theorem dX9_layText_36 : decode cX9_layText 36 = .ok (.getfield 7, 3) := by decide +kernel
theorem dX9_layText_39 : decode cX9_layText 39 = .ok (.iload_n 2, 1) := by decide +kernel
theorem dX9_layText_40 : decode cX9_layText 40 = .ok (.iaload, 1) := by decide +kernel
theorem dX9_layText_41 : decode cX9_layText 41 = .ok (.bipush 48, 2) := by decide +kernel
theorem dX9_layText_43 : decode cX9_layText 43 = .ok (.isub, 1) := by decide +kernel
theorem dX9_layText_44 : decode cX9_layText 44 = .ok (.iastore, 1) := by decide +kernel
theorem dX9_layText_45 : decode cX9_layText 45 = .ok (.iload_n 1, 1) := by decide +kernel
theorem dX9_layText_46 : decode cX9_layText 46 = .ok (.ifCond .eq 26, 3) := by decide +kernel
theorem dX9_layText_49 : decode cX9_layText 49 = .ok (.aload_n 0, 1) := by decide +kernel
theorem dX9_layText_50 : decode cX9_layText 50 = .ok (.getfield 13, 3) := by decide +kernel
theorem dX9_layText_53 : decode cX9_layText 53 = .ok (.aload_n 0, 1) := by decide +kernel
theorem dX9_layText_54 : decode cX9_layText 54 = .ok (.getfield 39, 3) := by decide +kernel
theorem dX9_layText_57 : decode cX9_layText 57 = .ok (.aload_n 0, 1) := by decide +kernel
theorem dX9_layText_58 : decode cX9_layText 58 = .ok (.getfield 98, 3) := by decide +kernel
theorem dX9_layText_61 : decode cX9_layText 61 = .ok (.iaload, 1) := by decide +kernel
theorem dX9_layText_62 : decode cX9_layText 62 = .ok (.invokestatic 154, 3) := by decide +kernel
theorem dX9_layText_65 : decode cX9_layText 65 = .ok (.ifCond .eq 7, 3) := by decide +kernel
theorem dX9_layText_68 : decode cX9_layText 68 = .ok (.iconst 1, 1) := by decide +kernel
theorem dX9_layText_69 : decode cX9_layText 69 = .ok (.goto 4, 3) := by decide +kernel
theorem dX9_layText_72 : decode cX9_layText 72 = .ok (.iconst 0, 1) := by decide +kernel
theorem dX9_layText_73 : decode cX9_layText 73 = .ok (.istore_n 1, 1) := by decide +kernel
theorem dX9_layText_74 : decode cX9_layText 74 = .ok (.aload_n 0, 1) := by decide +kernel
theorem dX9_layText_75 : decode cX9_layText 75 = .ok (.dup, 1) := by decide +kernel
theorem dX9_layText_76 : decode cX9_layText 76 = .ok (.getfield 98, 3) := by decide +kernel
theorem dX9_layText_79 : decode cX9_layText 79 = .ok (.iconst 1, 1) := by decide +kernel
theorem dX9_layText_80 : decode cX9_layText 80 = .ok (.iadd, 1) := by decide +kernel
theorem dX9_layText_81 : decode cX9_layText 81 = .ok (.putfield 98, 3) := by decide +kernel
theorem dX9_layText_84 : decode cX9_layText 84 = .ok (.iinc 2 2, 3) := by decide +kernel
theorem dX9_layText_87 : decode cX9_layText 87 = .ok (.goto (-68), 3) := by decide +kernel
theorem dX9_layText_90 : decode cX9_layText 90 = .ok (.iload_n 1, 1) := by decide +kernel
theorem dX9_layText_91 : decode cX9_layText 91 = .ok (.ireturn, 1) := by decide +kernel
theorem dX9_costOfText_0 : decode cX9_costOfText 0 = .ok (.aload_n 0, 1) := by decide +kernel
theorem dX9_costOfText_1 : decode cX9_costOfText 1 = .ok (.iload_n 1, 1) := by decide +kernel
theorem dX9_costOfText_2 : decode cX9_costOfText 2 = .ok (.i2l, 1) := by decide +kernel
theorem dX9_costOfText_3 : decode cX9_costOfText 3 = .ok (.lconst 0, 1) := by decide +kernel
theorem dX9_costOfText_4 : decode cX9_costOfText 4 = .ok (.ldc2_w 188, 3) := by decide +kernel
theorem dX9_costOfText_7 : decode cX9_costOfText 7 = .ok (.invokestatic 59, 3) := by decide +kernel
theorem dX9_costOfText_10 : decode cX9_costOfText 10 = .ok (.ifCond .ne 7, 3) := by decide +kernel
theorem dX9_costOfText_13 : decode cX9_costOfText 13 = .ok (.iconst 1, 1) := by decide +kernel
theorem dX9_costOfText_14 : decode cX9_costOfText 14 = .ok (.goto 15, 3) := by decide +kernel
theorem dX9_costOfText_17 : decode cX9_costOfText 17 = .ok (.aload_n 0, 1) := by decide +kernel
theorem dX9_costOfText_18 : decode cX9_costOfText 18 = .ok (.invokevirtual 229, 3) := by decide +kernel
theorem dX9_costOfText_21 : decode cX9_costOfText 21 = .ok (.ifCond .eq 7, 3) := by decide +kernel
theorem dX9_costOfText_24 : decode cX9_costOfText 24 = .ok (.iconst 0, 1) := by decide +kernel
theorem dX9_costOfText_25 : decode cX9_costOfText 25 = .ok (.goto 4, 3) := by decide +kernel
theorem dX9_costOfText_28 : decode cX9_costOfText 28 = .ok (.iconst 2, 1) := by decide +kernel
theorem dX9_costOfText_29 : decode cX9_costOfText 29 = .ok (.invokevirtual 118, 3) := by decide +kernel
theorem dX9_costOfText_32 : decode cX9_costOfText 32 = .ok (.ifCond .eq 5, 3) := by decide +kernel
theorem dX9_costOfText_35 : decode cX9_costOfText 35 = .ok (.lconst 0, 1) := by decide +kernel
theorem dX9_costOfText_36 : decode cX9_costOfText 36 = .ok (.lreturn, 1) := by decide +kernel
theorem dX9_costOfText_37 : decode cX9_costOfText 37 = .ok (.aload_n 0, 1) := by decide +kernel
theorem dX9_costOfText_38 : decode cX9_costOfText 38 = .ok (.aload_n 0, 1) := by decide +kernel
theorem dX9_costOfText_39 : decode cX9_costOfText 39 = .ok (.getfield 13, 3) := by decide +kernel
theorem dX9_costOfText_42 : decode cX9_costOfText 42 = .ok (.aload_n 0, 1) := by decide +kernel
theorem dX9_costOfText_43 : decode cX9_costOfText 43 = .ok (.getfield 30, 3) := by decide +kernel
theorem dX9_costOfText_46 : decode cX9_costOfText 46 = .ok (.iload_n 1, 1) := by decide +kernel
theorem dX9_costOfText_47 : decode cX9_costOfText 47 = .ok (.invokevirtual 94, 3) := by decide +kernel
theorem dX9_costOfText_50 : decode cX9_costOfText 50 = .ok (.aload_n 0, 1) := by decide +kernel
theorem dX9_costOfText_51 : decode cX9_costOfText 51 = .ok (.aload_n 0, 1) := by decide +kernel
theorem dX9_costOfText_52 : decode cX9_costOfText 52 = .ok (.getfield 13, 3) := by decide +kernel
theorem dX9_costOfText_55 : decode cX9_costOfText 55 = .ok (.iload_n 1, 1) := by decide +kernel
theorem dX9_costOfText_56 : decode cX9_costOfText 56 = .ok (.invokevirtual 110, 3) := by decide +kernel
theorem dX9_costOfText_59 : decode cX9_costOfText 59 = .ok (.lreturn, 1) := by decide +kernel
theorem dX9_matters_0 : decode cX9_matters 0 = .ok (.aload_n 0, 1) := by decide +kernel
theorem dX9_matters_1 : decode cX9_matters 1 = .ok (.aload_n 0, 1) := by decide +kernel
theorem dX9_matters_2 : decode cX9_matters 2 = .ok (.getfield 13, 3) := by decide +kernel
theorem dX9_matters_5 : decode cX9_matters 5 = .ok (.iload_n 1, 1) := by decide +kernel
theorem dX9_matters_6 : decode cX9_matters 6 = .ok (.iload_n 2, 1) := by decide +kernel
theorem dX9_matters_7 : decode cX9_matters 7 = .ok (.invokestatic 182, 3) := by decide +kernel
theorem dX9_matters_10 : decode cX9_matters 10 = .ok (.ifCond .eq 14, 3) := by decide +kernel
theorem dX9_matters_13 : decode cX9_matters 13 = .ok (.aload_n 0, 1) := by decide +kernel
theorem dX9_matters_14 : decode cX9_matters 14 = .ok (.getfield 13, 3) := by decide +kernel
theorem dX9_matters_17 : decode cX9_matters 17 = .ok (.iload_n 3, 1) := by decide +kernel
theorem dX9_matters_18 : decode cX9_matters 18 = .ok (.invokestatic 211, 3) := by decide +kernel
theorem dX9_matters_21 : decode cX9_matters 21 = .ok (.ifCond .ne 7, 3) := by decide +kernel
theorem dX9_matters_24 : decode cX9_matters 24 = .ok (.iconst 1, 1) := by decide +kernel
theorem dX9_matters_25 : decode cX9_matters 25 = .ok (.goto 13, 3) := by decide +kernel
theorem dX9_matters_28 : decode cX9_matters 28 = .ok (.iload_n 1, 1) := by decide +kernel
theorem dX9_matters_29 : decode cX9_matters 29 = .ok (.iload_n 2, 1) := by decide +kernel
theorem dX9_matters_30 : decode cX9_matters 30 = .ok (.if_icmp .ne 7, 3) := by decide +kernel
theorem dX9_matters_33 : decode cX9_matters 33 = .ok (.iconst 2, 1) := by decide +kernel
theorem dX9_matters_34 : decode cX9_matters 34 = .ok (.goto 4, 3) := by decide +kernel
theorem dX9_matters_37 : decode cX9_matters 37 = .ok (.iconst 0, 1) := by decide +kernel
theorem dX9_matters_38 : decode cX9_matters 38 = .ok (.invokevirtual 118, 3) := by decide +kernel
theorem dX9_matters_41 : decode cX9_matters 41 = .ok (.ifCond .eq 5, 3) := by decide +kernel
theorem dX9_matters_44 : decode cX9_matters 44 = .ok (.iconst 0, 1) := by decide +kernel
theorem dX9_matters_45 : decode cX9_matters 45 = .ok (.ireturn, 1) := by decide +kernel
theorem dX9_matters_46 : decode cX9_matters 46 = .ok (.iload_n 1, 1) := by decide +kernel
theorem dX9_matters_47 : decode cX9_matters 47 = .ok (.iload_n 2, 1) := by decide +kernel
theorem dX9_matters_48 : decode cX9_matters 48 = .ok (.invokestatic 73, 3) := by decide +kernel
theorem dX9_matters_51 : decode cX9_matters 51 = .ok (.istore 4, 2) := by decide +kernel
theorem dX9_matters_53 : decode cX9_matters 53 = .ok (.aload_n 0, 1) := by decide +kernel
theorem dX9_matters_54 : decode cX9_matters 54 = .ok (.getfield 13, 3) := by decide +kernel
theorem dX9_matters_57 : decode cX9_matters 57 = .ok (.sipush 155, 3) := by decide +kernel
theorem dX9_matters_60 : decode cX9_matters 60 = .ok (.iload 4, 2) := by decide +kernel
theorem dX9_matters_62 : decode cX9_matters 62 = .ok (.iadd, 1) := by decide +kernel
theorem dX9_matters_63 : decode cX9_matters 63 = .ok (.laload, 1) := by decide +kernel
theorem dX9_matters_64 : decode cX9_matters 64 = .ok (.lconst 0, 1) := by decide +kernel
theorem dX9_matters_65 : decode cX9_matters 65 = .ok (.lcmp, 1) := by decide +kernel
theorem dX9_matters_66 : decode cX9_matters 66 = .ok (.ifCond .ne 5, 3) := by decide +kernel
theorem dX9_matters_69 : decode cX9_matters 69 = .ok (.iconst 0, 1) := by decide +kernel
theorem dX9_matters_70 : decode cX9_matters 70 = .ok (.ireturn, 1) := by decide +kernel
theorem dX9_matters_71 : decode cX9_matters 71 = .ok (.aload_n 0, 1) := by decide +kernel
theorem dX9_matters_72 : decode cX9_matters 72 = .ok (.aload_n 0, 1) := by decide +kernel
theorem dX9_matters_73 : decode cX9_matters 73 = .ok (.getfield 13, 3) := by decide +kernel
theorem dX9_matters_76 : decode cX9_matters 76 = .ok (.iload_n 3, 1) := by decide +kernel
theorem dX9_matters_77 : decode cX9_matters 77 = .ok (.iconst 1, 1) := by decide +kernel
theorem dX9_matters_78 : decode cX9_matters 78 = .ok (.invokevirtual 107, 3) := by decide +kernel
theorem dX9_matters_81 : decode cX9_matters 81 = .ok (.pop2, 1) := by decide +kernel
theorem dX9_matters_82 : decode cX9_matters 82 = .ok (.iconst 0, 1) := by decide +kernel
theorem dX9_matters_83 : decode cX9_matters 83 = .ok (.istore 5, 2) := by decide +kernel
theorem dX9_matters_85 : decode cX9_matters 85 = .ok (.iload 5, 2) := by decide +kernel
theorem dX9_matters_87 : decode cX9_matters 87 = .ok (.aload_n 0, 1) := by decide +kernel
theorem dX9_matters_88 : decode cX9_matters 88 = .ok (.getfield 98, 3) := by decide +kernel
theorem dX9_matters_91 : decode cX9_matters 91 = .ok (.if_icmp .ge 23, 3) := by decide +kernel
theorem dX9_matters_94 : decode cX9_matters 94 = .ok (.aload_n 0, 1) := by decide +kernel
theorem dX9_matters_95 : decode cX9_matters 95 = .ok (.getfield 42, 3) := by decide +kernel
theorem dX9_matters_98 : decode cX9_matters 98 = .ok (.iload 5, 2) := by decide +kernel
theorem dX9_matters_100 : decode cX9_matters 100 = .ok (.aload_n 0, 1) := by decide +kernel
theorem dX9_matters_101 : decode cX9_matters 101 = .ok (.getfield 39, 3) := by decide +kernel
theorem dX9_matters_104 : decode cX9_matters 104 = .ok (.iload 5, 2) := by decide +kernel
theorem dX9_matters_106 : decode cX9_matters 106 = .ok (.iaload, 1) := by decide +kernel
theorem dX9_matters_107 : decode cX9_matters 107 = .ok (.iastore, 1) := by decide +kernel
theorem dX9_matters_108 : decode cX9_matters 108 = .ok (.iinc 5 1, 3) := by decide +kernel
theorem dX9_matters_111 : decode cX9_matters 111 = .ok (.goto (-26), 3) := by decide +kernel
theorem dX9_matters_114 : decode cX9_matters 114 = .ok (.aload_n 0, 1) := by decide +kernel
theorem dX9_matters_115 : decode cX9_matters 115 = .ok (.getfield 13, 3) := by decide +kernel
theorem dX9_matters_118 : decode cX9_matters 118 = .ok (.iconst 0, 1) := by decide +kernel
theorem dX9_matters_119 : decode cX9_matters 119 = .ok (.aload_n 0, 1) := by decide +kernel
theorem dX9_matters_120 : decode cX9_matters 120 = .ok (.getfield 17, 3) := by decide +kernel
theorem dX9_matters_123 : decode cX9_matters 123 = .ok (.iconst 0, 1) := by decide +kernel
theorem dX9_matters_124 : decode cX9_matters 124 = .ok (.invokestatic 173, 3) := by decide +kernel
theorem dX9_matters_127 : decode cX9_matters 127 = .ok (.aload_n 0, 1) := by decide +kernel
theorem dX9_matters_128 : decode cX9_matters 128 = .ok (.getfield 17, 3) := by decide +kernel
theorem dX9_matters_131 : decode cX9_matters 131 = .ok (.sipush 155, 3) := by decide +kernel
theorem dX9_matters_134 : decode cX9_matters 134 = .ok (.iload 4, 2) := by decide +kernel
theorem dX9_matters_136 : decode cX9_matters 136 = .ok (.iadd, 1) := by decide +kernel
theorem dX9_matters_137 : decode cX9_matters 137 = .ok (.lconst 0, 1) := by decide +kernel
theorem dX9_matters_138 : decode cX9_matters 138 = .ok (.lastore, 1) := by decide +kernel
theorem dX9_matters_139 : decode cX9_matters 139 = .ok (.aload_n 0, 1) := by decide +kernel
theorem dX9_matters_140 : decode cX9_matters 140 = .ok (.aload_n 0, 1) := by decide +kernel
theorem dX9_matters_141 : decode cX9_matters 141 = .ok (.getfield 17, 3) := by decide +kernel
theorem dX9_matters_144 : decode cX9_matters 144 = .ok (.iload_n 3, 1) := by decide +kernel
theorem dX9_matters_145 : decode cX9_matters 145 = .ok (.iconst 1, 1) := by decide +kernel
theorem dX9_matters_146 : decode cX9_matters 146 = .ok (.invokevirtual 107, 3) := by decide +kernel
theorem dX9_matters_149 : decode cX9_matters 149 = .ok (.pop2, 1) := by decide +kernel
theorem dX9_matters_150 : decode cX9_matters 150 = .ok (.iconst 1, 1) := by decide +kernel
theorem dX9_matters_151 : decode cX9_matters 151 = .ok (.istore 5, 2) := by decide +kernel
theorem dX9_matters_153 : decode cX9_matters 153 = .ok (.iconst 0, 1) := by decide +kernel
theorem dX9_matters_154 : decode cX9_matters 154 = .ok (.istore 6, 2) := by decide +kernel
theorem dX9_matters_156 : decode cX9_matters 156 = .ok (.iload 6, 2) := by decide +kernel
theorem dX9_matters_158 : decode cX9_matters 158 = .ok (.aload_n 0, 1) := by decide +kernel
theorem dX9_matters_159 : decode cX9_matters 159 = .ok (.getfield 98, 3) := by decide +kernel
theorem dX9_matters_162 : decode cX9_matters 162 = .ok (.if_icmp .ge 38, 3) := by decide +kernel
theorem dX9_matters_165 : decode cX9_matters 165 = .ok (.iload 5, 2) := by decide +kernel
theorem dX9_matters_167 : decode cX9_matters 167 = .ok (.ifCond .eq 24, 3) := by decide +kernel
theorem dX9_matters_170 : decode cX9_matters 170 = .ok (.aload_n 0, 1) := by decide +kernel
theorem dX9_matters_171 : decode cX9_matters 171 = .ok (.getfield 42, 3) := by decide +kernel
theorem dX9_matters_174 : decode cX9_matters 174 = .ok (.iload 6, 2) := by decide +kernel
theorem dX9_matters_176 : decode cX9_matters 176 = .ok (.iaload, 1) := by decide +kernel
theorem dX9_matters_177 : decode cX9_matters 177 = .ok (.aload_n 0, 1) := by decide +kernel
theorem dX9_matters_178 : decode cX9_matters 178 = .ok (.getfield 39, 3) := by decide +kernel
theorem dX9_matters_181 : decode cX9_matters 181 = .ok (.iload 6, 2) := by decide +kernel
theorem dX9_matters_183 : decode cX9_matters 183 = .ok (.iaload, 1) := by decide +kernel
theorem dX9_matters_184 : decode cX9_matters 184 = .ok (.if_icmp .ne 7, 3) := by decide +kernel
theorem dX9_matters_187 : decode cX9_matters 187 = .ok (.iconst 1, 1) := by decide +kernel
theorem dX9_matters_188 : decode cX9_matters 188 = .ok (.goto 4, 3) := by decide +kernel
theorem dX9_matters_191 : decode cX9_matters 191 = .ok (.iconst 0, 1) := by decide +kernel
theorem dX9_matters_192 : decode cX9_matters 192 = .ok (.istore 5, 2) := by decide +kernel
theorem dX9_matters_194 : decode cX9_matters 194 = .ok (.iinc 6 1, 3) := by decide +kernel
theorem dX9_matters_197 : decode cX9_matters 197 = .ok (.goto (-41), 3) := by decide +kernel
theorem dX9_matters_200 : decode cX9_matters 200 = .ok (.iload 5, 2) := by decide +kernel
theorem dX9_matters_202 : decode cX9_matters 202 = .ok (.ifCond .eq 7, 3) := by decide +kernel
theorem dX9_matters_205 : decode cX9_matters 205 = .ok (.iconst 0, 1) := by decide +kernel
theorem dX9_matters_206 : decode cX9_matters 206 = .ok (.goto 4, 3) := by decide +kernel
theorem dX9_matters_209 : decode cX9_matters 209 = .ok (.iconst 1, 1) := by decide +kernel
theorem dX9_matters_210 : decode cX9_matters 210 = .ok (.ireturn, 1) := by decide +kernel
theorem dX9_worst_0 : decode cX9_worst 0 = .ok (.aload_n 0, 1) := by decide +kernel
theorem dX9_worst_1 : decode cX9_worst 1 = .ok (.iconst 0, 1) := by decide +kernel
theorem dX9_worst_2 : decode cX9_worst 2 = .ok (.putfield 55, 3) := by decide +kernel
theorem dX9_worst_5 : decode cX9_worst 5 = .ok (.iconst (-1), 1) := by decide +kernel
theorem dX9_worst_6 : decode cX9_worst 6 = .ok (.istore_n 1, 1) := by decide +kernel
theorem dX9_worst_7 : decode cX9_worst 7 = .ok (.ldc2_w 101, 3) := by decide +kernel
theorem dX9_worst_10 : decode cX9_worst 10 = .ok (.lstore_n 2, 1) := by decide +kernel
theorem dX9_worst_11 : decode cX9_worst 11 = .ok (.iconst 0, 1) := by decide +kernel
theorem dX9_worst_12 : decode cX9_worst 12 = .ok (.istore 4, 2) := by decide +kernel
theorem dX9_worst_14 : decode cX9_worst 14 = .ok (.iload 4, 2) := by decide +kernel
theorem dX9_worst_16 : decode cX9_worst 16 = .ok (.bipush 7, 2) := by decide +kernel
theorem dX9_worst_18 : decode cX9_worst 18 = .ok (.if_icmp .ge 110, 3) := by decide +kernel
theorem dX9_worst_21 : decode cX9_worst 21 = .ok (.iload 4, 2) := by decide +kernel
theorem dX9_worst_23 : decode cX9_worst 23 = .ok (.iconst 1, 1) := by decide +kernel
theorem dX9_worst_24 : decode cX9_worst 24 = .ok (.iadd, 1) := by decide +kernel
theorem dX9_worst_25 : decode cX9_worst 25 = .ok (.istore 5, 2) := by decide +kernel
theorem dX9_worst_27 : decode cX9_worst 27 = .ok (.iload 5, 2) := by decide +kernel
theorem dX9_worst_29 : decode cX9_worst 29 = .ok (.bipush 7, 2) := by decide +kernel
theorem dX9_worst_31 : decode cX9_worst 31 = .ok (.if_icmp .ge 91, 3) := by decide +kernel
theorem dX9_worst_34 : decode cX9_worst 34 = .ok (.iload 4, 2) := by decide +kernel
theorem dX9_worst_36 : decode cX9_worst 36 = .ok (.iload 5, 2) := by decide +kernel
theorem dX9_worst_38 : decode cX9_worst 38 = .ok (.invokestatic 73, 3) := by decide +kernel
theorem dX9_worst_41 : decode cX9_worst 41 = .ok (.istore 6, 2) := by decide +kernel
theorem dX9_worst_43 : decode cX9_worst 43 = .ok (.aload_n 0, 1) := by decide +kernel
theorem dX9_worst_44 : decode cX9_worst 44 = .ok (.getfield 13, 3) := by decide +kernel
theorem dX9_worst_47 : decode cX9_worst 47 = .ok (.iload 6, 2) := by decide +kernel
theorem dX9_worst_49 : decode cX9_worst 49 = .ok (.invokestatic 63, 3) := by decide +kernel
theorem dX9_worst_52 : decode cX9_worst 52 = .ok (.aload_n 0, 1) := by decide +kernel
theorem dX9_worst_53 : decode cX9_worst 53 = .ok (.getfield 13, 3) := by decide +kernel
theorem dX9_worst_56 : decode cX9_worst 56 = .ok (.bipush 106, 2) := by decide +kernel
theorem dX9_worst_58 : decode cX9_worst 58 = .ok (.iload 6, 2) := by decide +kernel
theorem dX9_worst_60 : decode cX9_worst 60 = .ok (.iadd, 1) := by decide +kernel
theorem dX9_worst_61 : decode cX9_worst 61 = .ok (.laload, 1) := by decide +kernel
theorem dX9_worst_62 : decode cX9_worst 62 = .ok (.lsub, 1) := by decide +kernel
theorem dX9_worst_63 : decode cX9_worst 63 = .ok (.lstore 7, 2) := by decide +kernel
theorem dX9_worst_65 : decode cX9_worst 65 = .ok (.lload 7, 2) := by decide +kernel
theorem dX9_worst_67 : decode cX9_worst 67 = .ok (.lconst 0, 1) := by decide +kernel
theorem dX9_worst_68 : decode cX9_worst 68 = .ok (.lcmp, 1) := by decide +kernel
theorem dX9_worst_69 : decode cX9_worst 69 = .ok (.ifCond .ge 9, 3) := by decide +kernel
theorem dX9_worst_72 : decode cX9_worst 72 = .ok (.lload 7, 2) := by decide +kernel
theorem dX9_worst_74 : decode cX9_worst 74 = .ok (.lneg, 1) := by decide +kernel
theorem dX9_worst_75 : decode cX9_worst 75 = .ok (.goto 5, 3) := by decide +kernel
theorem dX9_worst_78 : decode cX9_worst 78 = .ok (.lload 7, 2) := by decide +kernel
theorem dX9_worst_80 : decode cX9_worst 80 = .ok (.lstore 7, 2) := by decide +kernel
theorem dX9_worst_82 : decode cX9_worst 82 = .ok (.aload_n 0, 1) := by decide +kernel
theorem dX9_worst_83 : decode cX9_worst 83 = .ok (.getfield 13, 3) := by decide +kernel
theorem dX9_worst_86 : decode cX9_worst 86 = .ok (.bipush 8, 2) := by decide +kernel
theorem dX9_worst_88 : decode cX9_worst 88 = .ok (.iload 6, 2) := by decide +kernel
theorem dX9_worst_90 : decode cX9_worst 90 = .ok (.iadd, 1) := by decide +kernel
theorem dX9_worst_91 : decode cX9_worst 91 = .ok (.laload, 1) := by decide +kernel
theorem dX9_worst_92 : decode cX9_worst 92 = .ok (.lconst 0, 1) := by decide +kernel
theorem dX9_worst_93 : decode cX9_worst 93 = .ok (.lcmp, 1) := by decide +kernel
theorem dX9_worst_94 : decode cX9_worst 94 = .ok (.ifCond .le 22, 3) := by decide +kernel
theorem dX9_worst_97 : decode cX9_worst 97 = .ok (.lload 7, 2) := by decide +kernel
theorem dX9_worst_99 : decode cX9_worst 99 = .ok (.lload_n 2, 1) := by decide +kernel
theorem dX9_worst_100 : decode cX9_worst 100 = .ok (.lcmp, 1) := by decide +kernel
theorem dX9_worst_101 : decode cX9_worst 101 = .ok (.ifCond .le 15, 3) := by decide +kernel
theorem dX9_worst_104 : decode cX9_worst 104 = .ok (.bipush 10, 2) := by decide +kernel
theorem dX9_worst_106 : decode cX9_worst 106 = .ok (.iload 4, 2) := by decide +kernel
theorem dX9_worst_108 : decode cX9_worst 108 = .ok (.imul, 1) := by decide +kernel
theorem dX9_worst_109 : decode cX9_worst 109 = .ok (.iload 5, 2) := by decide +kernel
theorem dX9_worst_111 : decode cX9_worst 111 = .ok (.iadd, 1) := by decide +kernel
theorem dX9_worst_112 : decode cX9_worst 112 = .ok (.istore_n 1, 1) := by decide +kernel
theorem dX9_worst_113 : decode cX9_worst 113 = .ok (.lload 7, 2) := by decide +kernel
theorem dX9_worst_115 : decode cX9_worst 115 = .ok (.lstore_n 2, 1) := by decide +kernel
theorem dX9_worst_116 : decode cX9_worst 116 = .ok (.iinc 5 1, 3) := by decide +kernel
theorem dX9_worst_119 : decode cX9_worst 119 = .ok (.goto (-92), 3) := by decide +kernel
theorem dX9_worst_122 : decode cX9_worst 122 = .ok (.iinc 4 1, 3) := by decide +kernel
theorem dX9_worst_125 : decode cX9_worst 125 = .ok (.goto (-111), 3) := by decide +kernel
theorem dX9_worst_128 : decode cX9_worst 128 = .ok (.iload_n 1, 1) := by decide +kernel
theorem dX9_worst_129 : decode cX9_worst 129 = .ok (.ireturn, 1) := by decide +kernel
theorem dX9_learnsIn_0 : decode cX9_learnsIn 0 = .ok (.aload_n 0, 1) := by decide +kernel
theorem dX9_learnsIn_1 : decode cX9_learnsIn 1 = .ok (.aload_n 0, 1) := by decide +kernel
theorem dX9_learnsIn_2 : decode cX9_learnsIn 2 = .ok (.getfield 13, 3) := by decide +kernel
theorem dX9_learnsIn_5 : decode cX9_learnsIn 5 = .ok (.iload_n 1, 1) := by decide +kernel
theorem dX9_learnsIn_6 : decode cX9_learnsIn 6 = .ok (.invokestatic 214, 3) := by decide +kernel
theorem dX9_learnsIn_9 : decode cX9_learnsIn 9 = .ok (.invokevirtual 118, 3) := by decide +kernel
theorem dX9_learnsIn_12 : decode cX9_learnsIn 12 = .ok (.ifCond .eq 5, 3) := by decide +kernel
theorem dX9_learnsIn_15 : decode cX9_learnsIn 15 = .ok (.iconst 0, 1) := by decide +kernel
theorem dX9_learnsIn_16 : decode cX9_learnsIn 16 = .ok (.ireturn, 1) := by decide +kernel
theorem dX9_learnsIn_17 : decode cX9_learnsIn 17 = .ok (.aload_n 0, 1) := by decide +kernel
theorem dX9_learnsIn_18 : decode cX9_learnsIn 18 = .ok (.getfield 13, 3) := by decide +kernel
theorem dX9_learnsIn_21 : decode cX9_learnsIn 21 = .ok (.iconst 0, 1) := by decide +kernel
theorem dX9_learnsIn_22 : decode cX9_learnsIn 22 = .ok (.aload_n 0, 1) := by decide +kernel
theorem dX9_learnsIn_23 : decode cX9_learnsIn 23 = .ok (.getfield 17, 3) := by decide +kernel
theorem dX9_learnsIn_26 : decode cX9_learnsIn 26 = .ok (.iconst 0, 1) := by decide +kernel
theorem dX9_learnsIn_27 : decode cX9_learnsIn 27 = .ok (.invokestatic 173, 3) := by decide +kernel
theorem dX9_learnsIn_30 : decode cX9_learnsIn 30 = .ok (.iconst 0, 1) := by decide +kernel
theorem dX9_learnsIn_31 : decode cX9_learnsIn 31 = .ok (.istore_n 2, 1) := by decide +kernel
theorem dX9_learnsIn_32 : decode cX9_learnsIn 32 = .ok (.iload_n 2, 1) := by decide +kernel
theorem dX9_learnsIn_33 : decode cX9_learnsIn 33 = .ok (.bipush 30, 2) := by decide +kernel
theorem dX9_learnsIn_35 : decode cX9_learnsIn 35 = .ok (.if_icmp .gt 36, 3) := by decide +kernel
theorem dX9_learnsIn_38 : decode cX9_learnsIn 38 = .ok (.aload_n 0, 1) := by decide +kernel
theorem dX9_learnsIn_39 : decode cX9_learnsIn 39 = .ok (.aload_n 0, 1) := by decide +kernel
theorem dX9_learnsIn_40 : decode cX9_learnsIn 40 = .ok (.getfield 17, 3) := by decide +kernel
theorem dX9_learnsIn_43 : decode cX9_learnsIn 43 = .ok (.iload_n 1, 1) := by decide +kernel
theorem dX9_learnsIn_44 : decode cX9_learnsIn 44 = .ok (.iconst 2, 1) := by decide +kernel
theorem dX9_learnsIn_45 : decode cX9_learnsIn 45 = .ok (.invokevirtual 205, 3) := by decide +kernel
theorem dX9_learnsIn_48 : decode cX9_learnsIn 48 = .ok (.lconst 0, 1) := by decide +kernel
theorem dX9_learnsIn_49 : decode cX9_learnsIn 49 = .ok (.lcmp, 1) := by decide +kernel
theorem dX9_learnsIn_50 : decode cX9_learnsIn 50 = .ok (.ifCond .ne 5, 3) := by decide +kernel
theorem dX9_learnsIn_53 : decode cX9_learnsIn 53 = .ok (.iload_n 2, 1) := by decide +kernel
theorem dX9_learnsIn_54 : decode cX9_learnsIn 54 = .ok (.ireturn, 1) := by decide +kernel
theorem dX9_learnsIn_55 : decode cX9_learnsIn 55 = .ok (.aload_n 0, 1) := by decide +kernel
theorem dX9_learnsIn_56 : decode cX9_learnsIn 56 = .ok (.aload_n 0, 1) := by decide +kernel
theorem dX9_learnsIn_57 : decode cX9_learnsIn 57 = .ok (.getfield 17, 3) := by decide +kernel
theorem dX9_learnsIn_60 : decode cX9_learnsIn 60 = .ok (.iload_n 1, 1) := by decide +kernel
theorem dX9_learnsIn_61 : decode cX9_learnsIn 61 = .ok (.invokevirtual 217, 3) := by decide +kernel
theorem dX9_learnsIn_64 : decode cX9_learnsIn 64 = .ok (.pop, 1) := by decide +kernel
theorem dX9_learnsIn_65 : decode cX9_learnsIn 65 = .ok (.iinc 2 1, 3) := by decide +kernel
theorem dX9_learnsIn_68 : decode cX9_learnsIn 68 = .ok (.goto (-36), 3) := by decide +kernel
theorem dX9_learnsIn_71 : decode cX9_learnsIn 71 = .ok (.iconst (-1), 1) := by decide +kernel
theorem dX9_learnsIn_72 : decode cX9_learnsIn 72 = .ok (.ireturn, 1) := by decide +kernel
theorem dX9_isChosen_0 : decode cX9_isChosen 0 = .ok (.aload_n 0, 1) := by decide +kernel
theorem dX9_isChosen_1 : decode cX9_isChosen 1 = .ok (.getfield 17, 3) := by decide +kernel
theorem dX9_isChosen_4 : decode cX9_isChosen 4 = .ok (.iload_n 1, 1) := by decide +kernel
theorem dX9_isChosen_5 : decode cX9_isChosen 5 = .ok (.invokestatic 154, 3) := by decide +kernel
theorem dX9_isChosen_8 : decode cX9_isChosen 8 = .ok (.ifCond .eq 14, 3) := by decide +kernel
theorem dX9_isChosen_11 : decode cX9_isChosen 11 = .ok (.aload_n 0, 1) := by decide +kernel
theorem dX9_isChosen_12 : decode cX9_isChosen 12 = .ok (.getfield 17, 3) := by decide +kernel
theorem dX9_isChosen_15 : decode cX9_isChosen 15 = .ok (.iload_n 3, 1) := by decide +kernel
theorem dX9_isChosen_16 : decode cX9_isChosen 16 = .ok (.invokestatic 211, 3) := by decide +kernel
theorem dX9_isChosen_19 : decode cX9_isChosen 19 = .ok (.ifCond .ne 5, 3) := by decide +kernel
theorem dX9_isChosen_22 : decode cX9_isChosen 22 = .ok (.iconst 0, 1) := by decide +kernel
theorem dX9_isChosen_23 : decode cX9_isChosen 23 = .ok (.ireturn, 1) := by decide +kernel
theorem dX9_isChosen_24 : decode cX9_isChosen 24 = .ok (.aload_n 0, 1) := by decide +kernel
theorem dX9_isChosen_25 : decode cX9_isChosen 25 = .ok (.aload_n 0, 1) := by decide +kernel
theorem dX9_isChosen_26 : decode cX9_isChosen 26 = .ok (.getfield 17, 3) := by decide +kernel
theorem dX9_isChosen_29 : decode cX9_isChosen 29 = .ok (.iload_n 3, 1) := by decide +kernel
theorem dX9_isChosen_30 : decode cX9_isChosen 30 = .ok (.iconst 1, 1) := by decide +kernel
theorem dX9_isChosen_31 : decode cX9_isChosen 31 = .ok (.invokevirtual 107, 3) := by decide +kernel
theorem dX9_isChosen_34 : decode cX9_isChosen 34 = .ok (.pop2, 1) := by decide +kernel
theorem dX9_isChosen_35 : decode cX9_isChosen 35 = .ok (.iload_n 2, 1) := by decide +kernel
theorem dX9_isChosen_36 : decode cX9_isChosen 36 = .ok (.aload_n 0, 1) := by decide +kernel
theorem dX9_isChosen_37 : decode cX9_isChosen 37 = .ok (.getfield 98, 3) := by decide +kernel
theorem dX9_isChosen_40 : decode cX9_isChosen 40 = .ok (.if_icmp .ge 17, 3) := by decide +kernel
theorem dX9_isChosen_43 : decode cX9_isChosen 43 = .ok (.aload_n 0, 1) := by decide +kernel
theorem dX9_isChosen_44 : decode cX9_isChosen 44 = .ok (.getfield 39, 3) := by decide +kernel
theorem dX9_isChosen_47 : decode cX9_isChosen 47 = .ok (.iload_n 2, 1) := by decide +kernel
theorem dX9_isChosen_48 : decode cX9_isChosen 48 = .ok (.iaload, 1) := by decide +kernel
theorem dX9_isChosen_49 : decode cX9_isChosen 49 = .ok (.iload_n 1, 1) := by decide +kernel
theorem dX9_isChosen_50 : decode cX9_isChosen 50 = .ok (.if_icmp .ne 7, 3) := by decide +kernel
theorem dX9_isChosen_53 : decode cX9_isChosen 53 = .ok (.iconst 1, 1) := by decide +kernel
theorem dX9_isChosen_54 : decode cX9_isChosen 54 = .ok (.goto 4, 3) := by decide +kernel
theorem dX9_isChosen_57 : decode cX9_isChosen 57 = .ok (.iconst 0, 1) := by decide +kernel
theorem dX9_isChosen_58 : decode cX9_isChosen 58 = .ok (.ireturn, 1) := by decide +kernel
theorem dX9_command_0 : decode cX9_command 0 = .ok (.iload_n 1, 1) := by decide +kernel
theorem dX9_command_1 : decode cX9_command 1 = .ok (.tableswitch 389 1 9 #[51, 88, 125, 159, 189, 236, 245, 315, 349], 51) := by decide +kernel
theorem dX9_command_52 : decode cX9_command 52 = .ok (.iload_n 2, 1) := by decide +kernel
theorem dX9_command_53 : decode cX9_command 53 = .ok (.iload_n 3, 1) := by decide +kernel
theorem dX9_command_54 : decode cX9_command 54 = .ok (.iadd, 1) := by decide +kernel
theorem dX9_command_55 : decode cX9_command 55 = .ok (.ifCond .ne 32, 3) := by decide +kernel
theorem dX9_command_58 : decode cX9_command 58 = .ok (.aload_n 0, 1) := by decide +kernel
theorem dX9_command_59 : decode cX9_command 59 = .ok (.getfield 17, 3) := by decide +kernel
theorem dX9_command_62 : decode cX9_command 62 = .ok (.iload 4, 2) := by decide +kernel
theorem dX9_command_64 : decode cX9_command 64 = .ok (.invokestatic 214, 3) := by decide +kernel
theorem dX9_command_67 : decode cX9_command 67 = .ok (.ifCond .ne 20, 3) := by decide +kernel
theorem dX9_command_70 : decode cX9_command 70 = .ok (.aload_n 0, 1) := by decide +kernel
theorem dX9_command_71 : decode cX9_command 71 = .ok (.aload_n 0, 1) := by decide +kernel
theorem dX9_command_72 : decode cX9_command 72 = .ok (.getfield 17, 3) := by decide +kernel
theorem dX9_command_75 : decode cX9_command 75 = .ok (.iload 4, 2) := by decide +kernel
theorem dX9_command_77 : decode cX9_command 77 = .ok (.invokevirtual 217, 3) := by decide +kernel
theorem dX9_command_80 : decode cX9_command 80 = .ok (.ifCond .lt 7, 3) := by decide +kernel
theorem dX9_command_83 : decode cX9_command 83 = .ok (.iconst 1, 1) := by decide +kernel
theorem dX9_command_84 : decode cX9_command 84 = .ok (.goto 4, 3) := by decide +kernel
theorem dX9_command_87 : decode cX9_command 87 = .ok (.iconst 0, 1) := by decide +kernel
theorem dX9_command_88 : decode cX9_command 88 = .ok (.ireturn, 1) := by decide +kernel
theorem dX9_command_89 : decode cX9_command 89 = .ok (.iload_n 2, 1) := by decide +kernel
theorem dX9_command_90 : decode cX9_command 90 = .ok (.iload_n 3, 1) := by decide +kernel
theorem dX9_command_91 : decode cX9_command 91 = .ok (.iadd, 1) := by decide +kernel
theorem dX9_command_92 : decode cX9_command 92 = .ok (.ifCond .ne 32, 3) := by decide +kernel
theorem dX9_command_95 : decode cX9_command 95 = .ok (.iload 4, 2) := by decide +kernel
theorem dX9_command_97 : decode cX9_command 97 = .ok (.i2l, 1) := by decide +kernel
theorem dX9_command_98 : decode cX9_command 98 = .ok (.lconst 1, 1) := by decide +kernel
theorem dX9_command_99 : decode cX9_command 99 = .ok (.ldc2_w 220, 3) := by decide +kernel
theorem dX9_command_102 : decode cX9_command 102 = .ok (.invokestatic 59, 3) := by decide +kernel
theorem dX9_command_105 : decode cX9_command 105 = .ok (.ifCond .eq 19, 3) := by decide +kernel
theorem dX9_command_108 : decode cX9_command 108 = .ok (.aload_n 0, 1) := by decide +kernel
theorem dX9_command_109 : decode cX9_command 109 = .ok (.getfield 17, 3) := by decide +kernel
theorem dX9_command_112 : decode cX9_command 112 = .ok (.iload 4, 2) := by decide +kernel
theorem dX9_command_114 : decode cX9_command 114 = .ok (.invokestatic 222, 3) := by decide +kernel
theorem dX9_command_117 : decode cX9_command 117 = .ok (.ifCond .lt 7, 3) := by decide +kernel
theorem dX9_command_120 : decode cX9_command 120 = .ok (.iconst 1, 1) := by decide +kernel
theorem dX9_command_121 : decode cX9_command 121 = .ok (.goto 4, 3) := by decide +kernel
theorem dX9_command_124 : decode cX9_command 124 = .ok (.iconst 0, 1) := by decide +kernel
theorem dX9_command_125 : decode cX9_command 125 = .ok (.ireturn, 1) := by decide +kernel
theorem dX9_command_126 : decode cX9_command 126 = .ok (.aload_n 0, 1) := by decide +kernel
theorem dX9_command_127 : decode cX9_command 127 = .ok (.getfield 17, 3) := by decide +kernel
theorem dX9_command_130 : decode cX9_command 130 = .ok (.iload_n 2, 1) := by decide +kernel
theorem dX9_command_131 : decode cX9_command 131 = .ok (.iload_n 3, 1) := by decide +kernel
theorem dX9_command_132 : decode cX9_command 132 = .ok (.iload 4, 2) := by decide +kernel
theorem dX9_command_134 : decode cX9_command 134 = .ok (.invokestatic 198, 3) := by decide +kernel
theorem dX9_command_137 : decode cX9_command 137 = .ok (.ifCond .ne 21, 3) := by decide +kernel
theorem dX9_command_140 : decode cX9_command 140 = .ok (.aload_n 0, 1) := by decide +kernel
theorem dX9_command_141 : decode cX9_command 141 = .ok (.getfield 17, 3) := by decide +kernel
theorem dX9_command_144 : decode cX9_command 144 = .ok (.iload_n 2, 1) := by decide +kernel
theorem dX9_command_145 : decode cX9_command 145 = .ok (.iload_n 3, 1) := by decide +kernel
theorem dX9_command_146 : decode cX9_command 146 = .ok (.iload 4, 2) := by decide +kernel
theorem dX9_command_148 : decode cX9_command 148 = .ok (.invokestatic 202, 3) := by decide +kernel
theorem dX9_command_151 : decode cX9_command 151 = .ok (.ifCond .le 7, 3) := by decide +kernel
theorem dX9_command_154 : decode cX9_command 154 = .ok (.iconst 1, 1) := by decide +kernel
theorem dX9_command_155 : decode cX9_command 155 = .ok (.goto 4, 3) := by decide +kernel
theorem dX9_command_158 : decode cX9_command 158 = .ok (.iconst 0, 1) := by decide +kernel
theorem dX9_command_159 : decode cX9_command 159 = .ok (.ireturn, 1) := by decide +kernel
theorem dX9_command_160 : decode cX9_command 160 = .ok (.iload_n 3, 1) := by decide +kernel
theorem dX9_command_161 : decode cX9_command 161 = .ok (.ifCond .gt 12, 3) := by decide +kernel
theorem dX9_command_164 : decode cX9_command 164 = .ok (.iload_n 2, 1) := by decide +kernel
theorem dX9_command_165 : decode cX9_command 165 = .ok (.iload 4, 2) := by decide +kernel
theorem dX9_command_167 : decode cX9_command 167 = .ok (.invokestatic 225, 3) := by decide +kernel
theorem dX9_command_170 : decode cX9_command 170 = .ok (.ifCond .ne 5, 3) := by decide +kernel
theorem dX9_command_173 : decode cX9_command 173 = .ok (.iconst 0, 1) := by decide +kernel
theorem dX9_command_174 : decode cX9_command 174 = .ok (.ireturn, 1) := by decide +kernel
theorem dX9_command_175 : decode cX9_command 175 = .ok (.aload_n 0, 1) := by decide +kernel
theorem dX9_command_176 : decode cX9_command 176 = .ok (.getfield 17, 3) := by decide +kernel
theorem dX9_command_179 : decode cX9_command 179 = .ok (.sipush 302, 3) := by decide +kernel
theorem dX9_command_182 : decode cX9_command 182 = .ok (.iload_n 2, 1) := by decide +kernel
theorem dX9_command_183 : decode cX9_command 183 = .ok (.iadd, 1) := by decide +kernel
theorem dX9_command_184 : decode cX9_command 184 = .ok (.iload 4, 2) := by decide +kernel
theorem dX9_command_186 : decode cX9_command 186 = .ok (.i2l, 1) := by decide +kernel
theorem dX9_command_187 : decode cX9_command 187 = .ok (.lastore, 1) := by decide +kernel
theorem dX9_command_188 : decode cX9_command 188 = .ok (.iconst 1, 1) := by decide +kernel
theorem dX9_command_189 : decode cX9_command 189 = .ok (.ireturn, 1) := by decide +kernel
theorem dX9_command_190 : decode cX9_command 190 = .ok (.aload_n 0, 1) := by decide +kernel
theorem dX9_command_191 : decode cX9_command 191 = .ok (.getfield 17, 3) := by decide +kernel
theorem dX9_command_194 : decode cX9_command 194 = .ok (.iload_n 2, 1) := by decide +kernel
theorem dX9_command_195 : decode cX9_command 195 = .ok (.iload_n 3, 1) := by decide +kernel
theorem dX9_command_196 : decode cX9_command 196 = .ok (.invokestatic 182, 3) := by decide +kernel
theorem dX9_command_199 : decode cX9_command 199 = .ok (.ifCond .eq 36, 3) := by decide +kernel
theorem dX9_command_202 : decode cX9_command 202 = .ok (.iload_n 2, 1) := by decide +kernel
theorem dX9_command_203 : decode cX9_command 203 = .ok (.iload_n 3, 1) := by decide +kernel
theorem dX9_command_204 : decode cX9_command 204 = .ok (.if_icmp .eq 31, 3) := by decide +kernel
theorem dX9_command_207 : decode cX9_command 207 = .ok (.iload 4, 2) := by decide +kernel
theorem dX9_command_209 : decode cX9_command 209 = .ok (.invokestatic 195, 3) := by decide +kernel
theorem dX9_command_212 : decode cX9_command 212 = .ok (.ifCond .eq 23, 3) := by decide +kernel
theorem dX9_command_215 : decode cX9_command 215 = .ok (.aload_n 0, 1) := by decide +kernel
theorem dX9_command_216 : decode cX9_command 216 = .ok (.getfield 17, 3) := by decide +kernel
theorem dX9_command_219 : decode cX9_command 219 = .ok (.iload_n 2, 1) := by decide +kernel
theorem dX9_command_220 : decode cX9_command 220 = .ok (.iload_n 3, 1) := by decide +kernel
theorem dX9_command_221 : decode cX9_command 221 = .ok (.iload 4, 2) := by decide +kernel
theorem dX9_command_223 : decode cX9_command 223 = .ok (.iload 4, 2) := by decide +kernel
theorem dX9_command_225 : decode cX9_command 225 = .ok (.invokestatic 158, 3) := by decide +kernel
theorem dX9_command_228 : decode cX9_command 228 = .ok (.ifCond .le 7, 3) := by decide +kernel
theorem dX9_command_231 : decode cX9_command 231 = .ok (.iconst 1, 1) := by decide +kernel
theorem dX9_command_232 : decode cX9_command 232 = .ok (.goto 4, 3) := by decide +kernel
theorem dX9_command_235 : decode cX9_command 235 = .ok (.iconst 0, 1) := by decide +kernel
theorem dX9_command_236 : decode cX9_command 236 = .ok (.ireturn, 1) := by decide +kernel
theorem dX9_command_237 : decode cX9_command 237 = .ok (.aload_n 0, 1) := by decide +kernel
theorem dX9_command_238 : decode cX9_command 238 = .ok (.iload_n 2, 1) := by decide +kernel
theorem dX9_command_239 : decode cX9_command 239 = .ok (.iload_n 3, 1) := by decide +kernel
theorem dX9_command_240 : decode cX9_command 240 = .ok (.iload 4, 2) := by decide +kernel
theorem dX9_command_242 : decode cX9_command 242 = .ok (.invokevirtual 233, 3) := by decide +kernel
theorem dX9_command_245 : decode cX9_command 245 = .ok (.ireturn, 1) := by decide +kernel
theorem dX9_command_246 : decode cX9_command 246 = .ok (.aload_n 0, 1) := by decide +kernel
theorem dX9_command_247 : decode cX9_command 247 = .ok (.getfield 17, 3) := by decide +kernel
theorem dX9_command_250 : decode cX9_command 250 = .ok (.iload_n 2, 1) := by decide +kernel
theorem dX9_command_251 : decode cX9_command 251 = .ok (.iload_n 3, 1) := by decide +kernel
theorem dX9_command_252 : decode cX9_command 252 = .ok (.invokestatic 182, 3) := by decide +kernel
theorem dX9_command_255 : decode cX9_command 255 = .ok (.ifCond .eq 59, 3) := by decide +kernel
theorem dX9_command_258 : decode cX9_command 258 = .ok (.iload_n 2, 1) := by decide +kernel
theorem dX9_command_259 : decode cX9_command 259 = .ok (.iload_n 3, 1) := by decide +kernel
theorem dX9_command_260 : decode cX9_command 260 = .ok (.if_icmp .eq 54, 3) := by decide +kernel
theorem dX9_command_263 : decode cX9_command 263 = .ok (.iload 4, 2) := by decide +kernel
theorem dX9_command_265 : decode cX9_command 265 = .ok (.bipush 100, 2) := by decide +kernel
theorem dX9_command_267 : decode cX9_command 267 = .ok (.if_icmp .ge 47, 3) := by decide +kernel
theorem dX9_command_270 : decode cX9_command 270 = .ok (.aload_n 0, 1) := by decide +kernel
theorem dX9_command_271 : decode cX9_command 271 = .ok (.getfield 17, 3) := by decide +kernel
theorem dX9_command_274 : decode cX9_command 274 = .ok (.sipush 155, 3) := by decide +kernel
theorem dX9_command_277 : decode cX9_command 277 = .ok (.iload_n 2, 1) := by decide +kernel
theorem dX9_command_278 : decode cX9_command 278 = .ok (.iload_n 3, 1) := by decide +kernel
theorem dX9_command_279 : decode cX9_command 279 = .ok (.invokestatic 73, 3) := by decide +kernel
theorem dX9_command_282 : decode cX9_command 282 = .ok (.iadd, 1) := by decide +kernel
theorem dX9_command_283 : decode cX9_command 283 = .ok (.laload, 1) := by decide +kernel
theorem dX9_command_284 : decode cX9_command 284 = .ok (.lconst 0, 1) := by decide +kernel
theorem dX9_command_285 : decode cX9_command 285 = .ok (.lcmp, 1) := by decide +kernel
theorem dX9_command_286 : decode cX9_command 286 = .ok (.ifCond .le 28, 3) := by decide +kernel
theorem dX9_command_289 : decode cX9_command 289 = .ok (.aload_n 0, 1) := by decide +kernel
theorem dX9_command_290 : decode cX9_command 290 = .ok (.getfield 17, 3) := by decide +kernel
theorem dX9_command_293 : decode cX9_command 293 = .ok (.sipush 204, 3) := by decide +kernel
theorem dX9_command_296 : decode cX9_command 296 = .ok (.iload_n 2, 1) := by decide +kernel
theorem dX9_command_297 : decode cX9_command 297 = .ok (.iload_n 3, 1) := by decide +kernel
theorem dX9_command_298 : decode cX9_command 298 = .ok (.invokestatic 73, 3) := by decide +kernel
theorem dX9_command_301 : decode cX9_command 301 = .ok (.iadd, 1) := by decide +kernel
theorem dX9_command_302 : decode cX9_command 302 = .ok (.laload, 1) := by decide +kernel
theorem dX9_command_303 : decode cX9_command 303 = .ok (.iload 4, 2) := by decide +kernel
theorem dX9_command_305 : decode cX9_command 305 = .ok (.i2l, 1) := by decide +kernel
theorem dX9_command_306 : decode cX9_command 306 = .ok (.lcmp, 1) := by decide +kernel
theorem dX9_command_307 : decode cX9_command 307 = .ok (.ifCond .gt 7, 3) := by decide +kernel
theorem dX9_command_310 : decode cX9_command 310 = .ok (.iconst 1, 1) := by decide +kernel
theorem dX9_command_311 : decode cX9_command 311 = .ok (.goto 4, 3) := by decide +kernel
theorem dX9_command_314 : decode cX9_command 314 = .ok (.iconst 0, 1) := by decide +kernel
theorem dX9_command_315 : decode cX9_command 315 = .ok (.ireturn, 1) := by decide +kernel
theorem dX9_command_316 : decode cX9_command 316 = .ok (.iload_n 2, 1) := by decide +kernel
theorem dX9_command_317 : decode cX9_command 317 = .ok (.iload_n 3, 1) := by decide +kernel
theorem dX9_command_318 : decode cX9_command 318 = .ok (.iadd, 1) := by decide +kernel
theorem dX9_command_319 : decode cX9_command 319 = .ok (.ifCond .ne 29, 3) := by decide +kernel
theorem dX9_command_322 : decode cX9_command 322 = .ok (.iload 4, 2) := by decide +kernel
theorem dX9_command_324 : decode cX9_command 324 = .ok (.bipush 100, 2) := by decide +kernel
theorem dX9_command_326 : decode cX9_command 326 = .ok (.if_icmp .ge 22, 3) := by decide +kernel
theorem dX9_command_329 : decode cX9_command 329 = .ok (.aload_n 0, 1) := by decide +kernel
theorem dX9_command_330 : decode cX9_command 330 = .ok (.getfield 17, 3) := by decide +kernel
theorem dX9_command_333 : decode cX9_command 333 = .ok (.sipush 307, 3) := by decide +kernel
theorem dX9_command_336 : decode cX9_command 336 = .ok (.laload, 1) := by decide +kernel
theorem dX9_command_337 : decode cX9_command 337 = .ok (.iload 4, 2) := by decide +kernel
theorem dX9_command_339 : decode cX9_command 339 = .ok (.i2l, 1) := by decide +kernel
theorem dX9_command_340 : decode cX9_command 340 = .ok (.lcmp, 1) := by decide +kernel
theorem dX9_command_341 : decode cX9_command 341 = .ok (.ifCond .lt 7, 3) := by decide +kernel
theorem dX9_command_344 : decode cX9_command 344 = .ok (.iconst 1, 1) := by decide +kernel
theorem dX9_command_345 : decode cX9_command 345 = .ok (.goto 4, 3) := by decide +kernel
theorem dX9_command_348 : decode cX9_command 348 = .ok (.iconst 0, 1) := by decide +kernel
theorem dX9_command_349 : decode cX9_command 349 = .ok (.ireturn, 1) := by decide +kernel
theorem dX9_command_350 : decode cX9_command 350 = .ok (.iload_n 2, 1) := by decide +kernel
theorem dX9_command_351 : decode cX9_command 351 = .ok (.iload_n 3, 1) := by decide +kernel
theorem dX9_command_352 : decode cX9_command 352 = .ok (.iadd, 1) := by decide +kernel
theorem dX9_command_353 : decode cX9_command 353 = .ok (.ifCond .ne 35, 3) := by decide +kernel
theorem dX9_command_356 : decode cX9_command 356 = .ok (.aload_n 0, 1) := by decide +kernel
theorem dX9_command_357 : decode cX9_command 357 = .ok (.getfield 17, 3) := by decide +kernel
theorem dX9_command_360 : decode cX9_command 360 = .ok (.iload 4, 2) := by decide +kernel
theorem dX9_command_362 : decode cX9_command 362 = .ok (.invokestatic 211, 3) := by decide +kernel
theorem dX9_command_365 : decode cX9_command 365 = .ok (.ifCond .eq 23, 3) := by decide +kernel
theorem dX9_command_368 : decode cX9_command 368 = .ok (.aload_n 0, 1) := by decide +kernel
theorem dX9_command_369 : decode cX9_command 369 = .ok (.aload_n 0, 1) := by decide +kernel
theorem dX9_command_370 : decode cX9_command 370 = .ok (.getfield 17, 3) := by decide +kernel
theorem dX9_command_373 : decode cX9_command 373 = .ok (.iload 4, 2) := by decide +kernel
theorem dX9_command_375 : decode cX9_command 375 = .ok (.iconst 2, 1) := by decide +kernel
theorem dX9_command_376 : decode cX9_command 376 = .ok (.invokevirtual 205, 3) := by decide +kernel
theorem dX9_command_379 : decode cX9_command 379 = .ok (.lconst 0, 1) := by decide +kernel
theorem dX9_command_380 : decode cX9_command 380 = .ok (.lcmp, 1) := by decide +kernel
theorem dX9_command_381 : decode cX9_command 381 = .ok (.ifCond .ne 7, 3) := by decide +kernel
theorem dX9_command_384 : decode cX9_command 384 = .ok (.iconst 1, 1) := by decide +kernel
theorem dX9_command_385 : decode cX9_command 385 = .ok (.goto 4, 3) := by decide +kernel
theorem dX9_command_388 : decode cX9_command 388 = .ok (.iconst 0, 1) := by decide +kernel
theorem dX9_command_389 : decode cX9_command 389 = .ok (.ireturn, 1) := by decide +kernel
theorem dX9_command_390 : decode cX9_command 390 = .ok (.iconst 0, 1) := by decide +kernel
theorem dX9_command_391 : decode cX9_command 391 = .ok (.ireturn, 1) := by decide +kernel
theorem dX9_runScript_0 : decode cX9_runScript 0 = .ok (.lconst 1, 1) := by decide +kernel
theorem dX9_runScript_1 : decode cX9_runScript 1 = .ok (.lstore 4, 2) := by decide +kernel
theorem dX9_runScript_3 : decode cX9_runScript 3 = .ok (.iconst 0, 1) := by decide +kernel
theorem dX9_runScript_4 : decode cX9_runScript 4 = .ok (.istore 6, 2) := by decide +kernel
theorem dX9_runScript_6 : decode cX9_runScript 6 = .ok (.iload 6, 2) := by decide +kernel
theorem dX9_runScript_8 : decode cX9_runScript 8 = .ok (.iload_n 1, 1) := by decide +kernel
theorem dX9_runScript_9 : decode cX9_runScript 9 = .ok (.if_icmp .ge 23, 3) := by decide +kernel
theorem dX9_runScript_12 : decode cX9_runScript 12 = .ok (.iload 6, 2) := by decide +kernel
theorem dX9_runScript_14 : decode cX9_runScript 14 = .ok (.iconst 3, 1) := by decide +kernel
theorem dX9_runScript_15 : decode cX9_runScript 15 = .ok (.if_icmp .ge 17, 3) := by decide +kernel
theorem dX9_runScript_18 : decode cX9_runScript 18 = .ok (.lload 4, 2) := by decide +kernel
theorem dX9_runScript_20 : decode cX9_runScript 20 = .ok (.ldc2_w 237, 3) := by decide +kernel
theorem dX9_runScript_23 : decode cX9_runScript 23 = .ok (.lmul, 1) := by decide +kernel
theorem dX9_runScript_24 : decode cX9_runScript 24 = .ok (.lstore 4, 2) := by decide +kernel
theorem dX9_runScript_26 : decode cX9_runScript 26 = .ok (.iinc 6 1, 3) := by decide +kernel
theorem dX9_runScript_29 : decode cX9_runScript 29 = .ok (.goto (-23), 3) := by decide +kernel
theorem dX9_runScript_32 : decode cX9_runScript 32 = .ok (.aload_n 0, 1) := by decide +kernel
theorem dX9_runScript_33 : decode cX9_runScript 33 = .ok (.iload_n 1, 1) := by decide +kernel
theorem dX9_runScript_34 : decode cX9_runScript 34 = .ok (.i2l, 1) := by decide +kernel
theorem dX9_runScript_35 : decode cX9_runScript 35 = .ok (.lconst 1, 1) := by decide +kernel
theorem dX9_runScript_36 : decode cX9_runScript 36 = .ok (.ldc2_w 86, 3) := by decide +kernel
theorem dX9_runScript_39 : decode cX9_runScript 39 = .ok (.invokestatic 59, 3) := by decide +kernel
theorem dX9_runScript_42 : decode cX9_runScript 42 = .ok (.ifCond .eq 19, 3) := by decide +kernel
theorem dX9_runScript_45 : decode cX9_runScript 45 = .ok (.lload_n 2, 1) := by decide +kernel
theorem dX9_runScript_46 : decode cX9_runScript 46 = .ok (.lconst 0, 1) := by decide +kernel
theorem dX9_runScript_47 : decode cX9_runScript 47 = .ok (.lload 4, 2) := by decide +kernel
theorem dX9_runScript_49 : decode cX9_runScript 49 = .ok (.lconst 1, 1) := by decide +kernel
theorem dX9_runScript_50 : decode cX9_runScript 50 = .ok (.lsub, 1) := by decide +kernel
theorem dX9_runScript_51 : decode cX9_runScript 51 = .ok (.invokestatic 59, 3) := by decide +kernel
theorem dX9_runScript_54 : decode cX9_runScript 54 = .ok (.ifCond .eq 7, 3) := by decide +kernel
theorem dX9_runScript_57 : decode cX9_runScript 57 = .ok (.iconst 0, 1) := by decide +kernel
theorem dX9_runScript_58 : decode cX9_runScript 58 = .ok (.goto 4, 3) := by decide +kernel
theorem dX9_runScript_61 : decode cX9_runScript 61 = .ok (.iconst 1, 1) := by decide +kernel
theorem dX9_runScript_62 : decode cX9_runScript 62 = .ok (.invokevirtual 118, 3) := by decide +kernel
theorem dX9_runScript_65 : decode cX9_runScript 65 = .ok (.ifCond .eq 5, 3) := by decide +kernel
theorem dX9_runScript_68 : decode cX9_runScript 68 = .ok (.iconst 0, 1) := by decide +kernel
theorem dX9_runScript_69 : decode cX9_runScript 69 = .ok (.ireturn, 1) := by decide +kernel
theorem dX9_runScript_70 : decode cX9_runScript 70 = .ok (.aload_n 0, 1) := by decide +kernel
theorem dX9_runScript_71 : decode cX9_runScript 71 = .ok (.getfield 13, 3) := by decide +kernel
theorem dX9_runScript_74 : decode cX9_runScript 74 = .ok (.iconst 0, 1) := by decide +kernel
theorem dX9_runScript_75 : decode cX9_runScript 75 = .ok (.aload_n 0, 1) := by decide +kernel
theorem dX9_runScript_76 : decode cX9_runScript 76 = .ok (.getfield 17, 3) := by decide +kernel
theorem dX9_runScript_79 : decode cX9_runScript 79 = .ok (.iconst 0, 1) := by decide +kernel
theorem dX9_runScript_80 : decode cX9_runScript 80 = .ok (.invokestatic 173, 3) := by decide +kernel
theorem dX9_runScript_83 : decode cX9_runScript 83 = .ok (.iconst 0, 1) := by decide +kernel
theorem dX9_runScript_84 : decode cX9_runScript 84 = .ok (.istore 6, 2) := by decide +kernel
theorem dX9_runScript_86 : decode cX9_runScript 86 = .ok (.iload 6, 2) := by decide +kernel
theorem dX9_runScript_88 : decode cX9_runScript 88 = .ok (.iload_n 1, 1) := by decide +kernel
theorem dX9_runScript_89 : decode cX9_runScript 89 = .ok (.if_icmp .ge 67, 3) := by decide +kernel
theorem dX9_runScript_92 : decode cX9_runScript 92 = .ok (.lload 4, 2) := by decide +kernel
theorem dX9_runScript_94 : decode cX9_runScript 94 = .ok (.ldc2_w 237, 3) := by decide +kernel
theorem dX9_runScript_97 : decode cX9_runScript 97 = .ok (.ldiv, 1) := by decide +kernel
theorem dX9_runScript_98 : decode cX9_runScript 98 = .ok (.lstore 4, 2) := by decide +kernel
theorem dX9_runScript_100 : decode cX9_runScript 100 = .ok (.lload_n 2, 1) := by decide +kernel
theorem dX9_runScript_101 : decode cX9_runScript 101 = .ok (.lload 4, 2) := by decide +kernel
theorem dX9_runScript_103 : decode cX9_runScript 103 = .ok (.ldiv, 1) := by decide +kernel
theorem dX9_runScript_104 : decode cX9_runScript 104 = .ok (.ldc2_w 237, 3) := by decide +kernel
theorem dX9_runScript_107 : decode cX9_runScript 107 = .ok (.lrem, 1) := by decide +kernel
theorem dX9_runScript_108 : decode cX9_runScript 108 = .ok (.l2i, 1) := by decide +kernel
theorem dX9_runScript_109 : decode cX9_runScript 109 = .ok (.istore 7, 2) := by decide +kernel
theorem dX9_runScript_111 : decode cX9_runScript 111 = .ok (.aload_n 0, 1) := by decide +kernel
theorem dX9_runScript_112 : decode cX9_runScript 112 = .ok (.iload 7, 2) := by decide +kernel
theorem dX9_runScript_114 : decode cX9_runScript 114 = .ok (.ldc 239, 2) := by decide +kernel
theorem dX9_runScript_116 : decode cX9_runScript 116 = .ok (.idiv, 1) := by decide +kernel
theorem dX9_runScript_117 : decode cX9_runScript 117 = .ok (.iload 7, 2) := by decide +kernel
theorem dX9_runScript_119 : decode cX9_runScript 119 = .ok (.sipush 10000, 3) := by decide +kernel
theorem dX9_runScript_122 : decode cX9_runScript 122 = .ok (.idiv, 1) := by decide +kernel
theorem dX9_runScript_123 : decode cX9_runScript 123 = .ok (.bipush 10, 2) := by decide +kernel
theorem dX9_runScript_125 : decode cX9_runScript 125 = .ok (.irem, 1) := by decide +kernel
theorem dX9_runScript_126 : decode cX9_runScript 126 = .ok (.iload 7, 2) := by decide +kernel
theorem dX9_runScript_128 : decode cX9_runScript 128 = .ok (.sipush 1000, 3) := by decide +kernel
theorem dX9_runScript_131 : decode cX9_runScript 131 = .ok (.idiv, 1) := by decide +kernel
theorem dX9_runScript_132 : decode cX9_runScript 132 = .ok (.bipush 10, 2) := by decide +kernel
theorem dX9_runScript_134 : decode cX9_runScript 134 = .ok (.irem, 1) := by decide +kernel
theorem dX9_runScript_135 : decode cX9_runScript 135 = .ok (.iload 7, 2) := by decide +kernel
theorem dX9_runScript_137 : decode cX9_runScript 137 = .ok (.sipush 1000, 3) := by decide +kernel
theorem dX9_runScript_140 : decode cX9_runScript 140 = .ok (.irem, 1) := by decide +kernel
theorem dX9_runScript_141 : decode cX9_runScript 141 = .ok (.invokevirtual 240, 3) := by decide +kernel
theorem dX9_runScript_144 : decode cX9_runScript 144 = .ok (.ifCond .ne 6, 3) := by decide +kernel
theorem dX9_runScript_147 : decode cX9_runScript 147 = .ok (.iload 6, 2) := by decide +kernel
theorem dX9_runScript_149 : decode cX9_runScript 149 = .ok (.ireturn, 1) := by decide +kernel
theorem dX9_runScript_150 : decode cX9_runScript 150 = .ok (.iinc 6 1, 3) := by decide +kernel
theorem dX9_runScript_153 : decode cX9_runScript 153 = .ok (.goto (-67), 3) := by decide +kernel
theorem dX9_runScript_156 : decode cX9_runScript 156 = .ok (.iconst (-1), 1) := by decide +kernel
theorem dX9_runScript_157 : decode cX9_runScript 157 = .ok (.ireturn, 1) := by decide +kernel
theorem dX9_turn_0 : decode cX9_turn 0 = .ok (.aload_n 0, 1) := by decide +kernel
theorem dX9_turn_1 : decode cX9_turn 1 = .ok (.getfield 17, 3) := by decide +kernel
theorem dX9_turn_4 : decode cX9_turn 4 = .ok (.iconst 0, 1) := by decide +kernel
theorem dX9_turn_5 : decode cX9_turn 5 = .ok (.laload, 1) := by decide +kernel
theorem dX9_turn_6 : decode cX9_turn 6 = .ok (.l2i, 1) := by decide +kernel
theorem dX9_turn_7 : decode cX9_turn 7 = .ok (.istore_n 2, 1) := by decide +kernel
theorem dX9_turn_8 : decode cX9_turn 8 = .ok (.iload_n 1, 1) := by decide +kernel
theorem dX9_turn_9 : decode cX9_turn 9 = .ok (.bipush 8, 2) := by decide +kernel
theorem dX9_turn_11 : decode cX9_turn 11 = .ok (.idiv, 1) := by decide +kernel
theorem dX9_turn_12 : decode cX9_turn 12 = .ok (.iload_n 2, 1) := by decide +kernel
theorem dX9_turn_13 : decode cX9_turn 13 = .ok (.irem, 1) := by decide +kernel
theorem dX9_turn_14 : decode cX9_turn 14 = .ok (.istore_n 3, 1) := by decide +kernel
theorem dX9_turn_15 : decode cX9_turn 15 = .ok (.iload_n 1, 1) := by decide +kernel
theorem dX9_turn_16 : decode cX9_turn 16 = .ok (.bipush 64, 2) := by decide +kernel
theorem dX9_turn_18 : decode cX9_turn 18 = .ok (.idiv, 1) := by decide +kernel
theorem dX9_turn_19 : decode cX9_turn 19 = .ok (.iload_n 2, 1) := by decide +kernel
theorem dX9_turn_20 : decode cX9_turn 20 = .ok (.irem, 1) := by decide +kernel
theorem dX9_turn_21 : decode cX9_turn 21 = .ok (.istore 4, 2) := by decide +kernel
theorem dX9_turn_23 : decode cX9_turn 23 = .ok (.iload_n 1, 1) := by decide +kernel
theorem dX9_turn_24 : decode cX9_turn 24 = .ok (.bipush 8, 2) := by decide +kernel
theorem dX9_turn_26 : decode cX9_turn 26 = .ok (.irem, 1) := by decide +kernel
theorem dX9_turn_27 : decode cX9_turn 27 = .ok (.istore 5, 2) := by decide +kernel
theorem dX9_turn_29 : decode cX9_turn 29 = .ok (.iload 5, 2) := by decide +kernel
theorem dX9_turn_31 : decode cX9_turn 31 = .ok (.iconst 4, 1) := by decide +kernel
theorem dX9_turn_32 : decode cX9_turn 32 = .ok (.if_icmp .ge 27, 3) := by decide +kernel
theorem dX9_turn_35 : decode cX9_turn 35 = .ok (.aload_n 0, 1) := by decide +kernel
theorem dX9_turn_36 : decode cX9_turn 36 = .ok (.aload_n 0, 1) := by decide +kernel
theorem dX9_turn_37 : decode cX9_turn 37 = .ok (.getfield 17, 3) := by decide +kernel
theorem dX9_turn_40 : decode cX9_turn 40 = .ok (.iconst 1, 1) := by decide +kernel
theorem dX9_turn_41 : decode cX9_turn 41 = .ok (.iload_n 1, 1) := by decide +kernel
theorem dX9_turn_42 : decode cX9_turn 42 = .ok (.bipush 8, 2) := by decide +kernel
theorem dX9_turn_44 : decode cX9_turn 44 = .ok (.idiv, 1) := by decide +kernel
theorem dX9_turn_45 : decode cX9_turn 45 = .ok (.iconst 1, 1) := by decide +kernel
theorem dX9_turn_46 : decode cX9_turn 46 = .ok (.iload_n 2, 1) := by decide +kernel
theorem dX9_turn_47 : decode cX9_turn 47 = .ok (.ishl, 1) := by decide +kernel
theorem dX9_turn_48 : decode cX9_turn 48 = .ok (.iconst 1, 1) := by decide +kernel
theorem dX9_turn_49 : decode cX9_turn 49 = .ok (.isub, 1) := by decide +kernel
theorem dX9_turn_50 : decode cX9_turn 50 = .ok (.irem, 1) := by decide +kernel
theorem dX9_turn_51 : decode cX9_turn 51 = .ok (.iadd, 1) := by decide +kernel
theorem dX9_turn_52 : decode cX9_turn 52 = .ok (.invokevirtual 217, 3) := by decide +kernel
theorem dX9_turn_55 : decode cX9_turn 55 = .ok (.pop, 1) := by decide +kernel
theorem dX9_turn_56 : decode cX9_turn 56 = .ok (.goto 96, 3) := by decide +kernel
theorem dX9_turn_59 : decode cX9_turn 59 = .ok (.iload 5, 2) := by decide +kernel
theorem dX9_turn_61 : decode cX9_turn 61 = .ok (.iconst 4, 1) := by decide +kernel
theorem dX9_turn_62 : decode cX9_turn 62 = .ok (.if_icmp .ne 15, 3) := by decide +kernel
theorem dX9_turn_65 : decode cX9_turn 65 = .ok (.aload_n 0, 1) := by decide +kernel
theorem dX9_turn_66 : decode cX9_turn 66 = .ok (.getfield 17, 3) := by decide +kernel
theorem dX9_turn_69 : decode cX9_turn 69 = .ok (.iconst 1, 1) := by decide +kernel
theorem dX9_turn_70 : decode cX9_turn 70 = .ok (.invokestatic 222, 3) := by decide +kernel
theorem dX9_turn_73 : decode cX9_turn 73 = .ok (.pop, 1) := by decide +kernel
theorem dX9_turn_74 : decode cX9_turn 74 = .ok (.goto 78, 3) := by decide +kernel
theorem dX9_turn_77 : decode cX9_turn 77 = .ok (.iload 5, 2) := by decide +kernel
theorem dX9_turn_79 : decode cX9_turn 79 = .ok (.bipush 7, 2) := by decide +kernel
theorem dX9_turn_81 : decode cX9_turn 81 = .ok (.if_icmp .ne 25, 3) := by decide +kernel
theorem dX9_turn_84 : decode cX9_turn 84 = .ok (.aload_n 0, 1) := by decide +kernel
theorem dX9_turn_85 : decode cX9_turn 85 = .ok (.getfield 17, 3) := by decide +kernel
theorem dX9_turn_88 : decode cX9_turn 88 = .ok (.sipush 302, 3) := by decide +kernel
theorem dX9_turn_91 : decode cX9_turn 91 = .ok (.iconst 1, 1) := by decide +kernel
theorem dX9_turn_92 : decode cX9_turn 92 = .ok (.iload_n 1, 1) := by decide +kernel
theorem dX9_turn_93 : decode cX9_turn 93 = .ok (.bipush 8, 2) := by decide +kernel
theorem dX9_turn_95 : decode cX9_turn 95 = .ok (.idiv, 1) := by decide +kernel
theorem dX9_turn_96 : decode cX9_turn 96 = .ok (.sipush 200, 3) := by decide +kernel
theorem dX9_turn_99 : decode cX9_turn 99 = .ok (.irem, 1) := by decide +kernel
theorem dX9_turn_100 : decode cX9_turn 100 = .ok (.iadd, 1) := by decide +kernel
theorem dX9_turn_101 : decode cX9_turn 101 = .ok (.i2l, 1) := by decide +kernel
theorem dX9_turn_102 : decode cX9_turn 102 = .ok (.lastore, 1) := by decide +kernel
theorem dX9_turn_103 : decode cX9_turn 103 = .ok (.goto 49, 3) := by decide +kernel
theorem dX9_turn_106 : decode cX9_turn 106 = .ok (.aload_n 0, 1) := by decide +kernel
theorem dX9_turn_107 : decode cX9_turn 107 = .ok (.getfield 17, 3) := by decide +kernel
theorem dX9_turn_110 : decode cX9_turn 110 = .ok (.iload_n 3, 1) := by decide +kernel
theorem dX9_turn_111 : decode cX9_turn 111 = .ok (.iload 4, 2) := by decide +kernel
theorem dX9_turn_113 : decode cX9_turn 113 = .ok (.iconst 1, 1) := by decide +kernel
theorem dX9_turn_114 : decode cX9_turn 114 = .ok (.iload_n 1, 1) := by decide +kernel
theorem dX9_turn_115 : decode cX9_turn 115 = .ok (.sipush 512, 3) := by decide +kernel
theorem dX9_turn_118 : decode cX9_turn 118 = .ok (.idiv, 1) := by decide +kernel
theorem dX9_turn_119 : decode cX9_turn 119 = .ok (.sipush 1000, 3) := by decide +kernel
theorem dX9_turn_122 : decode cX9_turn 122 = .ok (.irem, 1) := by decide +kernel
theorem dX9_turn_123 : decode cX9_turn 123 = .ok (.iadd, 1) := by decide +kernel
theorem dX9_turn_124 : decode cX9_turn 124 = .ok (.invokestatic 198, 3) := by decide +kernel
theorem dX9_turn_127 : decode cX9_turn 127 = .ok (.ifCond .ne 25, 3) := by decide +kernel
theorem dX9_turn_130 : decode cX9_turn 130 = .ok (.aload_n 0, 1) := by decide +kernel
theorem dX9_turn_131 : decode cX9_turn 131 = .ok (.getfield 17, 3) := by decide +kernel
theorem dX9_turn_134 : decode cX9_turn 134 = .ok (.iload_n 3, 1) := by decide +kernel
theorem dX9_turn_135 : decode cX9_turn 135 = .ok (.iload 4, 2) := by decide +kernel
theorem dX9_turn_137 : decode cX9_turn 137 = .ok (.iconst 1, 1) := by decide +kernel
theorem dX9_turn_138 : decode cX9_turn 138 = .ok (.iload_n 1, 1) := by decide +kernel
theorem dX9_turn_139 : decode cX9_turn 139 = .ok (.sipush 512, 3) := by decide +kernel
theorem dX9_turn_142 : decode cX9_turn 142 = .ok (.idiv, 1) := by decide +kernel
theorem dX9_turn_143 : decode cX9_turn 143 = .ok (.sipush 1000, 3) := by decide +kernel
theorem dX9_turn_146 : decode cX9_turn 146 = .ok (.irem, 1) := by decide +kernel
theorem dX9_turn_147 : decode cX9_turn 147 = .ok (.iadd, 1) := by decide +kernel
theorem dX9_turn_148 : decode cX9_turn 148 = .ok (.invokestatic 202, 3) := by decide +kernel
theorem dX9_turn_151 : decode cX9_turn 151 = .ok (.pop, 1) := by decide +kernel
theorem dX9_turn_152 : decode cX9_turn 152 = .ok (.return_, 1) := by decide +kernel
theorem dX9_simulate_0 : decode cX9_simulate 0 = .ok (.aload_n 0, 1) := by decide +kernel
theorem dX9_simulate_1 : decode cX9_simulate 1 = .ok (.iload_n 3, 1) := by decide +kernel
theorem dX9_simulate_2 : decode cX9_simulate 2 = .ok (.i2l, 1) := by decide +kernel
theorem dX9_simulate_3 : decode cX9_simulate 3 = .ok (.lconst 1, 1) := by decide +kernel
theorem dX9_simulate_4 : decode cX9_simulate 4 = .ok (.ldc2_w 244, 3) := by decide +kernel
theorem dX9_simulate_7 : decode cX9_simulate 7 = .ok (.invokestatic 59, 3) := by decide +kernel
theorem dX9_simulate_10 : decode cX9_simulate 10 = .ok (.ifCond .eq 7, 3) := by decide +kernel
theorem dX9_simulate_13 : decode cX9_simulate 13 = .ok (.iconst 0, 1) := by decide +kernel
theorem dX9_simulate_14 : decode cX9_simulate 14 = .ok (.goto 4, 3) := by decide +kernel
theorem dX9_simulate_17 : decode cX9_simulate 17 = .ok (.iconst 1, 1) := by decide +kernel
theorem dX9_simulate_18 : decode cX9_simulate 18 = .ok (.invokevirtual 118, 3) := by decide +kernel
theorem dX9_simulate_21 : decode cX9_simulate 21 = .ok (.ifCond .eq 5, 3) := by decide +kernel
theorem dX9_simulate_24 : decode cX9_simulate 24 = .ok (.iconst 0, 1) := by decide +kernel
theorem dX9_simulate_25 : decode cX9_simulate 25 = .ok (.ireturn, 1) := by decide +kernel
theorem dX9_simulate_26 : decode cX9_simulate 26 = .ok (.aload_n 0, 1) := by decide +kernel
theorem dX9_simulate_27 : decode cX9_simulate 27 = .ok (.getfield 13, 3) := by decide +kernel
theorem dX9_simulate_30 : decode cX9_simulate 30 = .ok (.iconst 0, 1) := by decide +kernel
theorem dX9_simulate_31 : decode cX9_simulate 31 = .ok (.aload_n 0, 1) := by decide +kernel
theorem dX9_simulate_32 : decode cX9_simulate 32 = .ok (.getfield 17, 3) := by decide +kernel
theorem dX9_simulate_35 : decode cX9_simulate 35 = .ok (.iconst 0, 1) := by decide +kernel
theorem dX9_simulate_36 : decode cX9_simulate 36 = .ok (.invokestatic 173, 3) := by decide +kernel
theorem dX9_simulate_39 : decode cX9_simulate 39 = .ok (.lload_n 1, 1) := by decide +kernel
theorem dX9_simulate_40 : decode cX9_simulate 40 = .ok (.lstore 4, 2) := by decide +kernel
theorem dX9_simulate_42 : decode cX9_simulate 42 = .ok (.iconst 0, 1) := by decide +kernel
theorem dX9_simulate_43 : decode cX9_simulate 43 = .ok (.istore 6, 2) := by decide +kernel
theorem dX9_simulate_45 : decode cX9_simulate 45 = .ok (.iload 6, 2) := by decide +kernel
theorem dX9_simulate_47 : decode cX9_simulate 47 = .ok (.iload_n 3, 1) := by decide +kernel
theorem dX9_simulate_48 : decode cX9_simulate 48 = .ok (.if_icmp .ge 42, 3) := by decide +kernel
theorem dX9_simulate_51 : decode cX9_simulate 51 = .ok (.aload_n 0, 1) := by decide +kernel
theorem dX9_simulate_52 : decode cX9_simulate 52 = .ok (.getfield 17, 3) := by decide +kernel
theorem dX9_simulate_55 : decode cX9_simulate 55 = .ok (.iconst 0, 1) := by decide +kernel
theorem dX9_simulate_56 : decode cX9_simulate 56 = .ok (.laload, 1) := by decide +kernel
theorem dX9_simulate_57 : decode cX9_simulate 57 = .ok (.lconst 0, 1) := by decide +kernel
theorem dX9_simulate_58 : decode cX9_simulate 58 = .ok (.lcmp, 1) := by decide +kernel
theorem dX9_simulate_59 : decode cX9_simulate 59 = .ok (.ifCond .le 31, 3) := by decide +kernel
theorem dX9_simulate_62 : decode cX9_simulate 62 = .ok (.lload 4, 2) := by decide +kernel
theorem dX9_simulate_64 : decode cX9_simulate 64 = .ok (.ldc2_w 246, 3) := by decide +kernel
theorem dX9_simulate_67 : decode cX9_simulate 67 = .ok (.lmul, 1) := by decide +kernel
theorem dX9_simulate_68 : decode cX9_simulate 68 = .ok (.ldc2_w 248, 3) := by decide +kernel
theorem dX9_simulate_71 : decode cX9_simulate 71 = .ok (.ladd, 1) := by decide +kernel
theorem dX9_simulate_72 : decode cX9_simulate 72 = .ok (.lstore 4, 2) := by decide +kernel
theorem dX9_simulate_74 : decode cX9_simulate 74 = .ok (.aload_n 0, 1) := by decide +kernel
theorem dX9_simulate_75 : decode cX9_simulate 75 = .ok (.lload 4, 2) := by decide +kernel
theorem dX9_simulate_77 : decode cX9_simulate 77 = .ok (.bipush 33, 2) := by decide +kernel
theorem dX9_simulate_79 : decode cX9_simulate 79 = .ok (.lushr, 1) := by decide +kernel
theorem dX9_simulate_80 : decode cX9_simulate 80 = .ok (.l2i, 1) := by decide +kernel
theorem dX9_simulate_81 : decode cX9_simulate 81 = .ok (.invokevirtual 250, 3) := by decide +kernel
theorem dX9_simulate_84 : decode cX9_simulate 84 = .ok (.iinc 6 1, 3) := by decide +kernel
theorem dX9_simulate_87 : decode cX9_simulate 87 = .ok (.goto (-42), 3) := by decide +kernel
theorem dX9_simulate_90 : decode cX9_simulate 90 = .ok (.ldc2_w 254, 3) := by decide +kernel
theorem dX9_simulate_93 : decode cX9_simulate 93 = .ok (.aload_n 0, 1) := by decide +kernel
theorem dX9_simulate_94 : decode cX9_simulate 94 = .ok (.getfield 17, 3) := by decide +kernel
theorem dX9_simulate_97 : decode cX9_simulate 97 = .ok (.sipush 307, 3) := by decide +kernel
theorem dX9_simulate_100 : decode cX9_simulate 100 = .ok (.laload, 1) := by decide +kernel
theorem dX9_simulate_101 : decode cX9_simulate 101 = .ok (.aload_n 0, 1) := by decide +kernel
theorem dX9_simulate_102 : decode cX9_simulate 102 = .ok (.getfield 13, 3) := by decide +kernel
theorem dX9_simulate_105 : decode cX9_simulate 105 = .ok (.sipush 307, 3) := by decide +kernel
theorem dX9_simulate_108 : decode cX9_simulate 108 = .ok (.laload, 1) := by decide +kernel
theorem dX9_simulate_109 : decode cX9_simulate 109 = .ok (.lsub, 1) := by decide +kernel
theorem dX9_simulate_110 : decode cX9_simulate 110 = .ok (.lmul, 1) := by decide +kernel
theorem dX9_simulate_111 : decode cX9_simulate 111 = .ok (.aload_n 0, 1) := by decide +kernel
theorem dX9_simulate_112 : decode cX9_simulate 112 = .ok (.getfield 17, 3) := by decide +kernel
theorem dX9_simulate_115 : decode cX9_simulate 115 = .ok (.sipush 155, 3) := by decide +kernel
theorem dX9_simulate_118 : decode cX9_simulate 118 = .ok (.invokestatic 138, 3) := by decide +kernel
theorem dX9_simulate_121 : decode cX9_simulate 121 = .ok (.ladd, 1) := by decide +kernel
theorem dX9_simulate_122 : decode cX9_simulate 122 = .ok (.l2i, 1) := by decide +kernel
theorem dX9_simulate_123 : decode cX9_simulate 123 = .ok (.ireturn, 1) := by decide +kernel
theorem dX9_save_0 : decode cX9_save 0 = .ok (.aload_n 0, 1) := by decide +kernel
theorem dX9_save_1 : decode cX9_save 1 = .ok (.iload_n 1, 1) := by decide +kernel
theorem dX9_save_2 : decode cX9_save 2 = .ok (.i2l, 1) := by decide +kernel
theorem dX9_save_3 : decode cX9_save 3 = .ok (.lconst 0, 1) := by decide +kernel
theorem dX9_save_4 : decode cX9_save 4 = .ok (.lconst 1, 1) := by decide +kernel
theorem dX9_save_5 : decode cX9_save 5 = .ok (.invokestatic 59, 3) := by decide +kernel
theorem dX9_save_8 : decode cX9_save 8 = .ok (.ifCond .eq 7, 3) := by decide +kernel
theorem dX9_save_11 : decode cX9_save 11 = .ok (.iconst 0, 1) := by decide +kernel
theorem dX9_save_12 : decode cX9_save 12 = .ok (.goto 4, 3) := by decide +kernel
theorem dX9_save_15 : decode cX9_save 15 = .ok (.iconst 1, 1) := by decide +kernel
theorem dX9_save_16 : decode cX9_save 16 = .ok (.invokevirtual 118, 3) := by decide +kernel
theorem dX9_save_19 : decode cX9_save 19 = .ok (.ifCond .eq 5, 3) := by decide +kernel
theorem dX9_save_22 : decode cX9_save 22 = .ok (.iconst 0, 1) := by decide +kernel
theorem dX9_save_23 : decode cX9_save 23 = .ok (.ireturn, 1) := by decide +kernel
theorem dX9_save_24 : decode cX9_save 24 = .ok (.aload_n 0, 1) := by decide +kernel
theorem dX9_save_25 : decode cX9_save 25 = .ok (.getfield 13, 3) := by decide +kernel
theorem dX9_save_28 : decode cX9_save 28 = .ok (.iconst 0, 1) := by decide +kernel
theorem dX9_save_29 : decode cX9_save 29 = .ok (.aload_n 0, 1) := by decide +kernel
theorem dX9_save_30 : decode cX9_save 30 = .ok (.getfield 23, 3) := by decide +kernel
theorem dX9_save_33 : decode cX9_save 33 = .ok (.sipush 353, 3) := by decide +kernel
theorem dX9_save_36 : decode cX9_save 36 = .ok (.iload_n 1, 1) := by decide +kernel
theorem dX9_save_37 : decode cX9_save 37 = .ok (.imul, 1) := by decide +kernel
theorem dX9_save_38 : decode cX9_save 38 = .ok (.invokestatic 173, 3) := by decide +kernel
theorem dX9_save_41 : decode cX9_save 41 = .ok (.aload_n 0, 1) := by decide +kernel
theorem dX9_save_42 : decode cX9_save 42 = .ok (.getfield 26, 3) := by decide +kernel
theorem dX9_save_45 : decode cX9_save 45 = .ok (.iload_n 1, 1) := by decide +kernel
theorem dX9_save_46 : decode cX9_save 46 = .ok (.iconst 1, 1) := by decide +kernel
theorem dX9_save_47 : decode cX9_save 47 = .ok (.bastore, 1) := by decide +kernel
theorem dX9_save_48 : decode cX9_save 48 = .ok (.aload_n 0, 1) := by decide +kernel
theorem dX9_save_49 : decode cX9_save 49 = .ok (.getfield 13, 3) := by decide +kernel
theorem dX9_save_52 : decode cX9_save 52 = .ok (.sipush 305, 3) := by decide +kernel
theorem dX9_save_55 : decode cX9_save 55 = .ok (.laload, 1) := by decide +kernel
theorem dX9_save_56 : decode cX9_save 56 = .ok (.l2i, 1) := by decide +kernel
theorem dX9_save_57 : decode cX9_save 57 = .ok (.ireturn, 1) := by decide +kernel
theorem dX9_restore_0 : decode cX9_restore 0 = .ok (.aload_n 0, 1) := by decide +kernel
theorem dX9_restore_1 : decode cX9_restore 1 = .ok (.iload_n 1, 1) := by decide +kernel
theorem dX9_restore_2 : decode cX9_restore 2 = .ok (.i2l, 1) := by decide +kernel
theorem dX9_restore_3 : decode cX9_restore 3 = .ok (.lconst 0, 1) := by decide +kernel
theorem dX9_restore_4 : decode cX9_restore 4 = .ok (.lconst 1, 1) := by decide +kernel
theorem dX9_restore_5 : decode cX9_restore 5 = .ok (.invokestatic 59, 3) := by decide +kernel
theorem dX9_restore_8 : decode cX9_restore 8 = .ok (.ifCond .ne 7, 3) := by decide +kernel
theorem dX9_restore_11 : decode cX9_restore 11 = .ok (.iconst 1, 1) := by decide +kernel
theorem dX9_restore_12 : decode cX9_restore 12 = .ok (.goto 17, 3) := by decide +kernel
theorem dX9_restore_15 : decode cX9_restore 15 = .ok (.aload_n 0, 1) := by decide +kernel
theorem dX9_restore_16 : decode cX9_restore 16 = .ok (.getfield 26, 3) := by decide +kernel
theorem dX9_restore_19 : decode cX9_restore 19 = .ok (.iload_n 1, 1) := by decide +kernel
theorem dX9_restore_20 : decode cX9_restore 20 = .ok (.baload, 1) := by decide +kernel
theorem dX9_restore_21 : decode cX9_restore 21 = .ok (.ifCond .ne 7, 3) := by decide +kernel
theorem dX9_restore_24 : decode cX9_restore 24 = .ok (.iconst 2, 1) := by decide +kernel
theorem dX9_restore_25 : decode cX9_restore 25 = .ok (.goto 4, 3) := by decide +kernel
theorem dX9_restore_28 : decode cX9_restore 28 = .ok (.iconst 0, 1) := by decide +kernel
theorem dX9_restore_29 : decode cX9_restore 29 = .ok (.invokevirtual 118, 3) := by decide +kernel
theorem dX9_restore_32 : decode cX9_restore 32 = .ok (.ifCond .eq 5, 3) := by decide +kernel
theorem dX9_restore_35 : decode cX9_restore 35 = .ok (.iconst 0, 1) := by decide +kernel
theorem dX9_restore_36 : decode cX9_restore 36 = .ok (.ireturn, 1) := by decide +kernel
theorem dX9_restore_37 : decode cX9_restore 37 = .ok (.aload_n 0, 1) := by decide +kernel
theorem dX9_restore_38 : decode cX9_restore 38 = .ok (.getfield 23, 3) := by decide +kernel
theorem dX9_restore_41 : decode cX9_restore 41 = .ok (.sipush 353, 3) := by decide +kernel
theorem dX9_restore_44 : decode cX9_restore 44 = .ok (.iload_n 1, 1) := by decide +kernel
theorem dX9_restore_45 : decode cX9_restore 45 = .ok (.imul, 1) := by decide +kernel
theorem dX9_restore_46 : decode cX9_restore 46 = .ok (.aload_n 0, 1) := by decide +kernel
theorem dX9_restore_47 : decode cX9_restore 47 = .ok (.getfield 13, 3) := by decide +kernel
theorem dX9_restore_50 : decode cX9_restore 50 = .ok (.iconst 0, 1) := by decide +kernel
theorem dX9_restore_51 : decode cX9_restore 51 = .ok (.invokestatic 173, 3) := by decide +kernel
theorem dX9_restore_54 : decode cX9_restore 54 = .ok (.aload_n 0, 1) := by decide +kernel
theorem dX9_restore_55 : decode cX9_restore 55 = .ok (.iconst 0, 1) := by decide +kernel
theorem dX9_restore_56 : decode cX9_restore 56 = .ok (.putfield 177, 3) := by decide +kernel
theorem dX9_restore_59 : decode cX9_restore 59 = .ok (.aload_n 0, 1) := by decide +kernel
theorem dX9_restore_60 : decode cX9_restore 60 = .ok (.getfield 13, 3) := by decide +kernel
theorem dX9_restore_63 : decode cX9_restore 63 = .ok (.sipush 305, 3) := by decide +kernel
theorem dX9_restore_66 : decode cX9_restore 66 = .ok (.laload, 1) := by decide +kernel
theorem dX9_restore_67 : decode cX9_restore 67 = .ok (.l2i, 1) := by decide +kernel
theorem dX9_restore_68 : decode cX9_restore 68 = .ok (.ireturn, 1) := by decide +kernel
