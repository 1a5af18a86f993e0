theorem dX0_init_0 : decode cX0_init 0 = .ok (.aload_n 0, 1) := by decide +kernel
theorem dX0_init_1 : decode cX0_init 1 = .ok (.invokespecial 3, 3) := by decide +kernel
theorem dX0_init_4 : decode cX0_init 4 = .ok (.return_, 1) := by decide +kernel
theorem dX0_begin_0 : decode cX0_begin 0 = .ok (.aload_n 0, 1) := by decide +kernel
theorem dX0_begin_1 : decode cX0_begin 1 = .ok (.iconst 0, 1) := by decide +kernel
theorem dX0_begin_2 : decode cX0_begin 2 = .ok (.invokevirtual 11, 3) := by decide +kernel
theorem dX0_begin_5 : decode cX0_begin 5 = .ok (.pop, 1) := by decide +kernel
theorem dX0_begin_6 : decode cX0_begin 6 = .ok (.return_, 1) := by decide +kernel
theorem dX0_isComplete_0 : decode cX0_isComplete 0 = .ok (.aload_n 0, 1) := by decide +kernel
theorem dX0_isComplete_1 : decode cX0_isComplete 1 = .ok (.getfield 15, 3) := by decide +kernel
theorem dX0_isComplete_4 : decode cX0_isComplete 4 = .ok (.ifCond .le 23, 3) := by decide +kernel
theorem dX0_isComplete_7 : decode cX0_isComplete 7 = .ok (.aload_n 0, 1) := by decide +kernel
theorem dX0_isComplete_8 : decode cX0_isComplete 8 = .ok (.getfield 19, 3) := by decide +kernel
theorem dX0_isComplete_11 : decode cX0_isComplete 11 = .ok (.iconst 3, 1) := by decide +kernel
theorem dX0_isComplete_12 : decode cX0_isComplete 12 = .ok (.if_icmp .eq 11, 3) := by decide +kernel
theorem dX0_isComplete_15 : decode cX0_isComplete 15 = .ok (.aload_n 0, 1) := by decide +kernel
theorem dX0_isComplete_16 : decode cX0_isComplete 16 = .ok (.getfield 19, 3) := by decide +kernel
theorem dX0_isComplete_19 : decode cX0_isComplete 19 = .ok (.iconst 5, 1) := by decide +kernel
theorem dX0_isComplete_20 : decode cX0_isComplete 20 = .ok (.if_icmp .ne 7, 3) := by decide +kernel
theorem dX0_isComplete_23 : decode cX0_isComplete 23 = .ok (.iconst 1, 1) := by decide +kernel
theorem dX0_isComplete_24 : decode cX0_isComplete 24 = .ok (.goto 4, 3) := by decide +kernel
theorem dX0_isComplete_27 : decode cX0_isComplete 27 = .ok (.iconst 0, 1) := by decide +kernel
theorem dX0_isComplete_28 : decode cX0_isComplete 28 = .ok (.ireturn, 1) := by decide +kernel
theorem dX0_isTable_0 : decode cX0_isTable 0 = .ok (.aload_n 0, 1) := by decide +kernel
theorem dX0_isTable_1 : decode cX0_isTable 1 = .ok (.getfield 19, 3) := by decide +kernel
theorem dX0_isTable_4 : decode cX0_isTable 4 = .ok (.iconst 3, 1) := by decide +kernel
theorem dX0_isTable_5 : decode cX0_isTable 5 = .ok (.if_icmp .ne 7, 3) := by decide +kernel
theorem dX0_isTable_8 : decode cX0_isTable 8 = .ok (.iconst 1, 1) := by decide +kernel
theorem dX0_isTable_9 : decode cX0_isTable 9 = .ok (.goto 4, 3) := by decide +kernel
theorem dX0_isTable_12 : decode cX0_isTable 12 = .ok (.iconst 0, 1) := by decide +kernel
theorem dX0_isTable_13 : decode cX0_isTable 13 = .ok (.ireturn, 1) := by decide +kernel
theorem dX0_takes_0 : decode cX0_takes 0 = .ok (.aload_n 0, 1) := by decide +kernel
theorem dX0_takes_1 : decode cX0_takes 1 = .ok (.getfield 19, 3) := by decide +kernel
theorem dX0_takes_4 : decode cX0_takes 4 = .ok (.tableswitch 173 0 4 #[36, 42, 77, 123, 148], 36) := by decide +kernel
theorem dX0_takes_40 : decode cX0_takes 40 = .ok (.aload_n 0, 1) := by decide +kernel
theorem dX0_takes_41 : decode cX0_takes 41 = .ok (.iload_n 1, 1) := by decide +kernel
theorem dX0_takes_42 : decode cX0_takes 42 = .ok (.invokevirtual 22, 3) := by decide +kernel
theorem dX0_takes_45 : decode cX0_takes 45 = .ok (.ireturn, 1) := by decide +kernel
theorem dX0_takes_46 : decode cX0_takes 46 = .ok (.aload_n 0, 1) := by decide +kernel
theorem dX0_takes_47 : decode cX0_takes 47 = .ok (.iload_n 1, 1) := by decide +kernel
theorem dX0_takes_48 : decode cX0_takes 48 = .ok (.bipush 48, 2) := by decide +kernel
theorem dX0_takes_50 : decode cX0_takes 50 = .ok (.isub, 1) := by decide +kernel
theorem dX0_takes_51 : decode cX0_takes 51 = .ok (.putfield 25, 3) := by decide +kernel
theorem dX0_takes_54 : decode cX0_takes 54 = .ok (.aload_n 0, 1) := by decide +kernel
theorem dX0_takes_55 : decode cX0_takes 55 = .ok (.getfield 25, 3) := by decide +kernel
theorem dX0_takes_58 : decode cX0_takes 58 = .ok (.iconst 0, 1) := by decide +kernel
theorem dX0_takes_59 : decode cX0_takes 59 = .ok (.bipush 6, 2) := by decide +kernel
theorem dX0_takes_61 : decode cX0_takes 61 = .ok (.invokestatic 28, 3) := by decide +kernel
theorem dX0_takes_64 : decode cX0_takes 64 = .ok (.ifCond .eq 15, 3) := by decide +kernel
theorem dX0_takes_67 : decode cX0_takes 67 = .ok (.aload_n 0, 1) := by decide +kernel
theorem dX0_takes_68 : decode cX0_takes 68 = .ok (.iconst 2, 1) := by decide +kernel
theorem dX0_takes_69 : decode cX0_takes 69 = .ok (.invokevirtual 11, 3) := by decide +kernel
theorem dX0_takes_72 : decode cX0_takes 72 = .ok (.ifCond .eq 7, 3) := by decide +kernel
theorem dX0_takes_75 : decode cX0_takes 75 = .ok (.iconst 1, 1) := by decide +kernel
theorem dX0_takes_76 : decode cX0_takes 76 = .ok (.goto 4, 3) := by decide +kernel
theorem dX0_takes_79 : decode cX0_takes 79 = .ok (.iconst 0, 1) := by decide +kernel
theorem dX0_takes_80 : decode cX0_takes 80 = .ok (.ireturn, 1) := by decide +kernel
theorem dX0_takes_81 : decode cX0_takes 81 = .ok (.aload_n 0, 1) := by decide +kernel
theorem dX0_takes_82 : decode cX0_takes 82 = .ok (.iload_n 1, 1) := by decide +kernel
theorem dX0_takes_83 : decode cX0_takes 83 = .ok (.bipush 48, 2) := by decide +kernel
theorem dX0_takes_85 : decode cX0_takes 85 = .ok (.isub, 1) := by decide +kernel
theorem dX0_takes_86 : decode cX0_takes 86 = .ok (.putfield 32, 3) := by decide +kernel
theorem dX0_takes_89 : decode cX0_takes 89 = .ok (.aload_n 0, 1) := by decide +kernel
theorem dX0_takes_90 : decode cX0_takes 90 = .ok (.getfield 32, 3) := by decide +kernel
theorem dX0_takes_93 : decode cX0_takes 93 = .ok (.iconst 0, 1) := by decide +kernel
theorem dX0_takes_94 : decode cX0_takes 94 = .ok (.bipush 6, 2) := by decide +kernel
theorem dX0_takes_96 : decode cX0_takes 96 = .ok (.invokestatic 28, 3) := by decide +kernel
theorem dX0_takes_99 : decode cX0_takes 99 = .ok (.ifCond .eq 26, 3) := by decide +kernel
theorem dX0_takes_102 : decode cX0_takes 102 = .ok (.aload_n 0, 1) := by decide +kernel
theorem dX0_takes_103 : decode cX0_takes 103 = .ok (.getfield 32, 3) := by decide +kernel
theorem dX0_takes_106 : decode cX0_takes 106 = .ok (.aload_n 0, 1) := by decide +kernel
theorem dX0_takes_107 : decode cX0_takes 107 = .ok (.getfield 25, 3) := by decide +kernel
theorem dX0_takes_110 : decode cX0_takes 110 = .ok (.if_icmp .eq 15, 3) := by decide +kernel
theorem dX0_takes_113 : decode cX0_takes 113 = .ok (.aload_n 0, 1) := by decide +kernel
theorem dX0_takes_114 : decode cX0_takes 114 = .ok (.iconst 4, 1) := by decide +kernel
theorem dX0_takes_115 : decode cX0_takes 115 = .ok (.invokevirtual 11, 3) := by decide +kernel
theorem dX0_takes_118 : decode cX0_takes 118 = .ok (.ifCond .eq 7, 3) := by decide +kernel
theorem dX0_takes_121 : decode cX0_takes 121 = .ok (.iconst 1, 1) := by decide +kernel
theorem dX0_takes_122 : decode cX0_takes 122 = .ok (.goto 4, 3) := by decide +kernel
theorem dX0_takes_125 : decode cX0_takes 125 = .ok (.iconst 0, 1) := by decide +kernel
theorem dX0_takes_126 : decode cX0_takes 126 = .ok (.ireturn, 1) := by decide +kernel
theorem dX0_takes_127 : decode cX0_takes 127 = .ok (.aload_n 0, 1) := by decide +kernel
theorem dX0_takes_128 : decode cX0_takes 128 = .ok (.iload_n 1, 1) := by decide +kernel
theorem dX0_takes_129 : decode cX0_takes 129 = .ok (.sipush 9999, 3) := by decide +kernel
theorem dX0_takes_132 : decode cX0_takes 132 = .ok (.invokevirtual 35, 3) := by decide +kernel
theorem dX0_takes_135 : decode cX0_takes 135 = .ok (.ifCond .ne 11, 3) := by decide +kernel
theorem dX0_takes_138 : decode cX0_takes 138 = .ok (.aload_n 0, 1) := by decide +kernel
theorem dX0_takes_139 : decode cX0_takes 139 = .ok (.iload_n 1, 1) := by decide +kernel
theorem dX0_takes_140 : decode cX0_takes 140 = .ok (.invokevirtual 39, 3) := by decide +kernel
theorem dX0_takes_143 : decode cX0_takes 143 = .ok (.ifCond .eq 7, 3) := by decide +kernel
theorem dX0_takes_146 : decode cX0_takes 146 = .ok (.iconst 1, 1) := by decide +kernel
theorem dX0_takes_147 : decode cX0_takes 147 = .ok (.goto 4, 3) := by decide +kernel
theorem dX0_takes_150 : decode cX0_takes 150 = .ok (.iconst 0, 1) := by decide +kernel
theorem dX0_takes_151 : decode cX0_takes 151 = .ok (.ireturn, 1) := by decide +kernel
theorem dX0_takes_152 : decode cX0_takes 152 = .ok (.aload_n 0, 1) := by decide +kernel
theorem dX0_takes_153 : decode cX0_takes 153 = .ok (.iload_n 1, 1) := by decide +kernel
theorem dX0_takes_154 : decode cX0_takes 154 = .ok (.sipush 1000, 3) := by decide +kernel
theorem dX0_takes_157 : decode cX0_takes 157 = .ok (.invokevirtual 35, 3) := by decide +kernel
theorem dX0_takes_160 : decode cX0_takes 160 = .ok (.ifCond .ne 11, 3) := by decide +kernel
theorem dX0_takes_163 : decode cX0_takes 163 = .ok (.aload_n 0, 1) := by decide +kernel
theorem dX0_takes_164 : decode cX0_takes 164 = .ok (.iload_n 1, 1) := by decide +kernel
theorem dX0_takes_165 : decode cX0_takes 165 = .ok (.invokevirtual 42, 3) := by decide +kernel
theorem dX0_takes_168 : decode cX0_takes 168 = .ok (.ifCond .eq 7, 3) := by decide +kernel
theorem dX0_takes_171 : decode cX0_takes 171 = .ok (.iconst 1, 1) := by decide +kernel
theorem dX0_takes_172 : decode cX0_takes 172 = .ok (.goto 4, 3) := by decide +kernel
theorem dX0_takes_175 : decode cX0_takes 175 = .ok (.iconst 0, 1) := by decide +kernel
theorem dX0_takes_176 : decode cX0_takes 176 = .ok (.ireturn, 1) := by decide +kernel
theorem dX0_takes_177 : decode cX0_takes 177 = .ok (.aload_n 0, 1) := by decide +kernel
theorem dX0_takes_178 : decode cX0_takes 178 = .ok (.iload_n 1, 1) := by decide +kernel
theorem dX0_takes_179 : decode cX0_takes 179 = .ok (.sipush 1000, 3) := by decide +kernel
theorem dX0_takes_182 : decode cX0_takes 182 = .ok (.invokevirtual 35, 3) := by decide +kernel
theorem dX0_takes_185 : decode cX0_takes 185 = .ok (.ifCond .ne 11, 3) := by decide +kernel
theorem dX0_takes_188 : decode cX0_takes 188 = .ok (.aload_n 0, 1) := by decide +kernel
theorem dX0_takes_189 : decode cX0_takes 189 = .ok (.iload_n 1, 1) := by decide +kernel
theorem dX0_takes_190 : decode cX0_takes 190 = .ok (.invokevirtual 39, 3) := by decide +kernel
theorem dX0_takes_193 : decode cX0_takes 193 = .ok (.ifCond .eq 7, 3) := by decide +kernel
theorem dX0_takes_196 : decode cX0_takes 196 = .ok (.iconst 1, 1) := by decide +kernel
theorem dX0_takes_197 : decode cX0_takes 197 = .ok (.goto 4, 3) := by decide +kernel
theorem dX0_takes_200 : decode cX0_takes 200 = .ok (.iconst 0, 1) := by decide +kernel
theorem dX0_takes_201 : decode cX0_takes 201 = .ok (.ireturn, 1) := by decide +kernel
theorem dX0_expect_0 : decode cX0_expect 0 = .ok (.aload_n 0, 1) := by decide +kernel
theorem dX0_expect_1 : decode cX0_expect 1 = .ok (.iload_n 1, 1) := by decide +kernel
theorem dX0_expect_2 : decode cX0_expect 2 = .ok (.putfield 19, 3) := by decide +kernel
theorem dX0_expect_5 : decode cX0_expect 5 = .ok (.aload_n 0, 1) := by decide +kernel
theorem dX0_expect_6 : decode cX0_expect 6 = .ok (.iconst 0, 1) := by decide +kernel
theorem dX0_expect_7 : decode cX0_expect 7 = .ok (.putfield 15, 3) := by decide +kernel
theorem dX0_expect_10 : decode cX0_expect 10 = .ok (.iconst 1, 1) := by decide +kernel
theorem dX0_expect_11 : decode cX0_expect 11 = .ok (.ireturn, 1) := by decide +kernel
theorem dX0_takesEntry_0 : decode cX0_takesEntry 0 = .ok (.iload_n 1, 1) := by decide +kernel
theorem dX0_takesEntry_1 : decode cX0_takesEntry 1 = .ok (.bipush 116, 2) := by decide +kernel
theorem dX0_takesEntry_3 : decode cX0_takesEntry 3 = .ok (.if_icmp .ne 11, 3) := by decide +kernel
theorem dX0_takesEntry_6 : decode cX0_takesEntry 6 = .ok (.aload_n 0, 1) := by decide +kernel
theorem dX0_takesEntry_7 : decode cX0_takesEntry 7 = .ok (.iconst 3, 1) := by decide +kernel
theorem dX0_takesEntry_8 : decode cX0_takesEntry 8 = .ok (.invokevirtual 11, 3) := by decide +kernel
theorem dX0_takesEntry_11 : decode cX0_takesEntry 11 = .ok (.ifCond .ne 17, 3) := by decide +kernel
theorem dX0_takesEntry_14 : decode cX0_takesEntry 14 = .ok (.iload_n 1, 1) := by decide +kernel
theorem dX0_takesEntry_15 : decode cX0_takesEntry 15 = .ok (.bipush 112, 2) := by decide +kernel
theorem dX0_takesEntry_17 : decode cX0_takesEntry 17 = .ok (.if_icmp .ne 15, 3) := by decide +kernel
theorem dX0_takesEntry_20 : decode cX0_takesEntry 20 = .ok (.aload_n 0, 1) := by decide +kernel
theorem dX0_takesEntry_21 : decode cX0_takesEntry 21 = .ok (.iconst 1, 1) := by decide +kernel
theorem dX0_takesEntry_22 : decode cX0_takesEntry 22 = .ok (.invokevirtual 11, 3) := by decide +kernel
theorem dX0_takesEntry_25 : decode cX0_takesEntry 25 = .ok (.ifCond .eq 7, 3) := by decide +kernel
theorem dX0_takesEntry_28 : decode cX0_takesEntry 28 = .ok (.iconst 1, 1) := by decide +kernel
theorem dX0_takesEntry_29 : decode cX0_takesEntry 29 = .ok (.goto 4, 3) := by decide +kernel
theorem dX0_takesEntry_32 : decode cX0_takesEntry 32 = .ok (.iconst 0, 1) := by decide +kernel
theorem dX0_takesEntry_33 : decode cX0_takesEntry 33 = .ok (.ireturn, 1) := by decide +kernel
theorem dX0_takesEnd_0 : decode cX0_takesEnd 0 = .ok (.iload_n 1, 1) := by decide +kernel
theorem dX0_takesEnd_1 : decode cX0_takesEnd 1 = .ok (.bipush 59, 2) := by decide +kernel
theorem dX0_takesEnd_3 : decode cX0_takesEnd 3 = .ok (.if_icmp .ne 22, 3) := by decide +kernel
theorem dX0_takesEnd_6 : decode cX0_takesEnd 6 = .ok (.aload_n 0, 1) := by decide +kernel
theorem dX0_takesEnd_7 : decode cX0_takesEnd 7 = .ok (.invokevirtual 45, 3) := by decide +kernel
theorem dX0_takesEnd_10 : decode cX0_takesEnd 10 = .ok (.ifCond .eq 15, 3) := by decide +kernel
theorem dX0_takesEnd_13 : decode cX0_takesEnd 13 = .ok (.aload_n 0, 1) := by decide +kernel
theorem dX0_takesEnd_14 : decode cX0_takesEnd 14 = .ok (.iconst 0, 1) := by decide +kernel
theorem dX0_takesEnd_15 : decode cX0_takesEnd 15 = .ok (.invokevirtual 11, 3) := by decide +kernel
theorem dX0_takesEnd_18 : decode cX0_takesEnd 18 = .ok (.ifCond .eq 7, 3) := by decide +kernel
theorem dX0_takesEnd_21 : decode cX0_takesEnd 21 = .ok (.iconst 1, 1) := by decide +kernel
theorem dX0_takesEnd_22 : decode cX0_takesEnd 22 = .ok (.goto 4, 3) := by decide +kernel
theorem dX0_takesEnd_25 : decode cX0_takesEnd 25 = .ok (.iconst 0, 1) := by decide +kernel
theorem dX0_takesEnd_26 : decode cX0_takesEnd 26 = .ok (.ireturn, 1) := by decide +kernel
theorem dX0_takesComma_0 : decode cX0_takesComma 0 = .ok (.iload_n 1, 1) := by decide +kernel
theorem dX0_takesComma_1 : decode cX0_takesComma 1 = .ok (.bipush 44, 2) := by decide +kernel
theorem dX0_takesComma_3 : decode cX0_takesComma 3 = .ok (.if_icmp .ne 10, 3) := by decide +kernel
theorem dX0_takesComma_6 : decode cX0_takesComma 6 = .ok (.aload_n 0, 1) := by decide +kernel
theorem dX0_takesComma_7 : decode cX0_takesComma 7 = .ok (.getfield 15, 3) := by decide +kernel
theorem dX0_takesComma_10 : decode cX0_takesComma 10 = .ok (.ifCond .ne 5, 3) := by decide +kernel
theorem dX0_takesComma_13 : decode cX0_takesComma 13 = .ok (.iconst 0, 1) := by decide +kernel
theorem dX0_takesComma_14 : decode cX0_takesComma 14 = .ok (.ireturn, 1) := by decide +kernel
theorem dX0_takesComma_15 : decode cX0_takesComma 15 = .ok (.aload_n 0, 1) := by decide +kernel
theorem dX0_takesComma_16 : decode cX0_takesComma 16 = .ok (.aload_n 0, 1) := by decide +kernel
theorem dX0_takesComma_17 : decode cX0_takesComma 17 = .ok (.getfield 15, 3) := by decide +kernel
theorem dX0_takesComma_20 : decode cX0_takesComma 20 = .ok (.putfield 49, 3) := by decide +kernel
theorem dX0_takesComma_23 : decode cX0_takesComma 23 = .ok (.aload_n 0, 1) := by decide +kernel
theorem dX0_takesComma_24 : decode cX0_takesComma 24 = .ok (.iconst 5, 1) := by decide +kernel
theorem dX0_takesComma_25 : decode cX0_takesComma 25 = .ok (.invokevirtual 11, 3) := by decide +kernel
theorem dX0_takesComma_28 : decode cX0_takesComma 28 = .ok (.ireturn, 1) := by decide +kernel
theorem dX0_takesDigit_0 : decode cX0_takesDigit 0 = .ok (.iload_n 1, 1) := by decide +kernel
theorem dX0_takesDigit_1 : decode cX0_takesDigit 1 = .ok (.bipush 48, 2) := by decide +kernel
theorem dX0_takesDigit_3 : decode cX0_takesDigit 3 = .ok (.bipush 57, 2) := by decide +kernel
theorem dX0_takesDigit_5 : decode cX0_takesDigit 5 = .ok (.invokestatic 28, 3) := by decide +kernel
theorem dX0_takesDigit_8 : decode cX0_takesDigit 8 = .ok (.ifCond .eq 23, 3) := by decide +kernel
theorem dX0_takesDigit_11 : decode cX0_takesDigit 11 = .ok (.aload_n 0, 1) := by decide +kernel
theorem dX0_takesDigit_12 : decode cX0_takesDigit 12 = .ok (.getfield 15, 3) := by decide +kernel
theorem dX0_takesDigit_15 : decode cX0_takesDigit 15 = .ok (.bipush 10, 2) := by decide +kernel
theorem dX0_takesDigit_17 : decode cX0_takesDigit 17 = .ok (.imul, 1) := by decide +kernel
theorem dX0_takesDigit_18 : decode cX0_takesDigit 18 = .ok (.iload_n 1, 1) := by decide +kernel
theorem dX0_takesDigit_19 : decode cX0_takesDigit 19 = .ok (.iadd, 1) := by decide +kernel
theorem dX0_takesDigit_20 : decode cX0_takesDigit 20 = .ok (.bipush 48, 2) := by decide +kernel
theorem dX0_takesDigit_22 : decode cX0_takesDigit 22 = .ok (.isub, 1) := by decide +kernel
theorem dX0_takesDigit_23 : decode cX0_takesDigit 23 = .ok (.iconst 1, 1) := by decide +kernel
theorem dX0_takesDigit_24 : decode cX0_takesDigit 24 = .ok (.iload_n 2, 1) := by decide +kernel
theorem dX0_takesDigit_25 : decode cX0_takesDigit 25 = .ok (.invokestatic 28, 3) := by decide +kernel
theorem dX0_takesDigit_28 : decode cX0_takesDigit 28 = .ok (.ifCond .ne 5, 3) := by decide +kernel
theorem dX0_takesDigit_31 : decode cX0_takesDigit 31 = .ok (.iconst 0, 1) := by decide +kernel
theorem dX0_takesDigit_32 : decode cX0_takesDigit 32 = .ok (.ireturn, 1) := by decide +kernel
theorem dX0_takesDigit_33 : decode cX0_takesDigit 33 = .ok (.aload_n 0, 1) := by decide +kernel
theorem dX0_takesDigit_34 : decode cX0_takesDigit 34 = .ok (.aload_n 0, 1) := by decide +kernel
theorem dX0_takesDigit_35 : decode cX0_takesDigit 35 = .ok (.getfield 15, 3) := by decide +kernel
theorem dX0_takesDigit_38 : decode cX0_takesDigit 38 = .ok (.bipush 10, 2) := by decide +kernel
theorem dX0_takesDigit_40 : decode cX0_takesDigit 40 = .ok (.imul, 1) := by decide +kernel
theorem dX0_takesDigit_41 : decode cX0_takesDigit 41 = .ok (.iload_n 1, 1) := by decide +kernel
theorem dX0_takesDigit_42 : decode cX0_takesDigit 42 = .ok (.iadd, 1) := by decide +kernel
theorem dX0_takesDigit_43 : decode cX0_takesDigit 43 = .ok (.bipush 48, 2) := by decide +kernel
theorem dX0_takesDigit_45 : decode cX0_takesDigit 45 = .ok (.isub, 1) := by decide +kernel
theorem dX0_takesDigit_46 : decode cX0_takesDigit 46 = .ok (.putfield 15, 3) := by decide +kernel
theorem dX0_takesDigit_49 : decode cX0_takesDigit 49 = .ok (.iconst 1, 1) := by decide +kernel
theorem dX0_takesDigit_50 : decode cX0_takesDigit 50 = .ok (.ireturn, 1) := by decide +kernel
theorem dX1_init_0 : decode cX1_init 0 = .ok (.aload_n 0, 1) := by decide +kernel
theorem dX1_init_1 : decode cX1_init 1 = .ok (.invokespecial 3, 3) := by decide +kernel
theorem dX1_init_4 : decode cX1_init 4 = .ok (.aload_n 0, 1) := by decide +kernel
theorem dX1_init_5 : decode cX1_init 5 = .ok (.bipush 14, 2) := by decide +kernel
theorem dX1_init_7 : decode cX1_init 7 = .ok (.anewarray 9, 3) := by decide +kernel
theorem dX1_init_10 : decode cX1_init 10 = .ok (.putfield 11, 3) := by decide +kernel
theorem dX1_init_13 : decode cX1_init 13 = .ok (.iconst 0, 1) := by decide +kernel
theorem dX1_init_14 : decode cX1_init 14 = .ok (.istore_n 1, 1) := by decide +kernel
theorem dX1_init_15 : decode cX1_init 15 = .ok (.iload_n 1, 1) := by decide +kernel
theorem dX1_init_16 : decode cX1_init 16 = .ok (.bipush 14, 2) := by decide +kernel
theorem dX1_init_18 : decode cX1_init 18 = .ok (.if_icmp .ge 22, 3) := by decide +kernel
theorem dX1_init_21 : decode cX1_init 21 = .ok (.aload_n 0, 1) := by decide +kernel
theorem dX1_init_22 : decode cX1_init 22 = .ok (.getfield 11, 3) := by decide +kernel
theorem dX1_init_25 : decode cX1_init 25 = .ok (.iload_n 1, 1) := by decide +kernel
theorem dX1_init_26 : decode cX1_init 26 = .ok (.new 9, 3) := by decide +kernel
theorem dX1_init_29 : decode cX1_init 29 = .ok (.dup, 1) := by decide +kernel
theorem dX1_init_30 : decode cX1_init 30 = .ok (.invokespecial 17, 3) := by decide +kernel
theorem dX1_init_33 : decode cX1_init 33 = .ok (.aastore, 1) := by decide +kernel
theorem dX1_init_34 : decode cX1_init 34 = .ok (.iinc 1 1, 3) := by decide +kernel
theorem dX1_init_37 : decode cX1_init 37 = .ok (.goto (-22), 3) := by decide +kernel
theorem dX1_init_40 : decode cX1_init 40 = .ok (.return_, 1) := by decide +kernel
theorem dX1_isEmpty_0 : decode cX1_isEmpty 0 = .ok (.aload_n 0, 1) := by decide +kernel
theorem dX1_isEmpty_1 : decode cX1_isEmpty 1 = .ok (.getfield 18, 3) := by decide +kernel
theorem dX1_isEmpty_4 : decode cX1_isEmpty 4 = .ok (.ifCond .ne 7, 3) := by decide +kernel
theorem dX1_isEmpty_7 : decode cX1_isEmpty 7 = .ok (.iconst 1, 1) := by decide +kernel
theorem dX1_isEmpty_8 : decode cX1_isEmpty 8 = .ok (.goto 4, 3) := by decide +kernel
theorem dX1_isEmpty_11 : decode cX1_isEmpty 11 = .ok (.iconst 0, 1) := by decide +kernel
theorem dX1_isEmpty_12 : decode cX1_isEmpty 12 = .ok (.ireturn, 1) := by decide +kernel
theorem dX1_forgetAll_0 : decode cX1_forgetAll 0 = .ok (.aload_n 0, 1) := by decide +kernel
theorem dX1_forgetAll_1 : decode cX1_forgetAll 1 = .ok (.iconst 0, 1) := by decide +kernel
theorem dX1_forgetAll_2 : decode cX1_forgetAll 2 = .ok (.putfield 18, 3) := by decide +kernel
theorem dX1_forgetAll_5 : decode cX1_forgetAll 5 = .ok (.return_, 1) := by decide +kernel
theorem dX1_remember_0 : decode cX1_remember 0 = .ok (.aload_n 0, 1) := by decide +kernel
theorem dX1_remember_1 : decode cX1_remember 1 = .ok (.aload_n 0, 1) := by decide +kernel
theorem dX1_remember_2 : decode cX1_remember 2 = .ok (.getfield 22, 3) := by decide +kernel
theorem dX1_remember_5 : decode cX1_remember 5 = .ok (.invokevirtual 25, 3) := by decide +kernel
theorem dX1_remember_8 : decode cX1_remember 8 = .ok (.astore_n 2, 1) := by decide +kernel
theorem dX1_remember_9 : decode cX1_remember 9 = .ok (.aload_n 2, 1) := by decide +kernel
theorem dX1_remember_10 : decode cX1_remember 10 = .ok (.ifnull 36, 3) := by decide +kernel
theorem dX1_remember_13 : decode cX1_remember 13 = .ok (.aload_n 2, 1) := by decide +kernel
theorem dX1_remember_14 : decode cX1_remember 14 = .ok (.aload_n 1, 1) := by decide +kernel
theorem dX1_remember_15 : decode cX1_remember 15 = .ok (.invokevirtual 29, 3) := by decide +kernel
theorem dX1_remember_18 : decode cX1_remember 18 = .ok (.aload_n 0, 1) := by decide +kernel
theorem dX1_remember_19 : decode cX1_remember 19 = .ok (.aload_n 0, 1) := by decide +kernel
theorem dX1_remember_20 : decode cX1_remember 20 = .ok (.getfield 22, 3) := by decide +kernel
theorem dX1_remember_23 : decode cX1_remember 23 = .ok (.iconst 1, 1) := by decide +kernel
theorem dX1_remember_24 : decode cX1_remember 24 = .ok (.iadd, 1) := by decide +kernel
theorem dX1_remember_25 : decode cX1_remember 25 = .ok (.bipush 14, 2) := by decide +kernel
theorem dX1_remember_27 : decode cX1_remember 27 = .ok (.irem, 1) := by decide +kernel
theorem dX1_remember_28 : decode cX1_remember 28 = .ok (.putfield 22, 3) := by decide +kernel
theorem dX1_remember_31 : decode cX1_remember 31 = .ok (.aload_n 0, 1) := by decide +kernel
theorem dX1_remember_32 : decode cX1_remember 32 = .ok (.aload_n 0, 1) := by decide +kernel
theorem dX1_remember_33 : decode cX1_remember 33 = .ok (.getfield 18, 3) := by decide +kernel
theorem dX1_remember_36 : decode cX1_remember 36 = .ok (.iconst 1, 1) := by decide +kernel
theorem dX1_remember_37 : decode cX1_remember 37 = .ok (.iadd, 1) := by decide +kernel
theorem dX1_remember_38 : decode cX1_remember 38 = .ok (.bipush 14, 2) := by decide +kernel
theorem dX1_remember_40 : decode cX1_remember 40 = .ok (.invokestatic 33, 3) := by decide +kernel
theorem dX1_remember_43 : decode cX1_remember 43 = .ok (.putfield 18, 3) := by decide +kernel
theorem dX1_remember_46 : decode cX1_remember 46 = .ok (.return_, 1) := by decide +kernel
theorem dX1_takeBack_0 : decode cX1_takeBack 0 = .ok (.aload_n 0, 1) := by decide +kernel
theorem dX1_takeBack_1 : decode cX1_takeBack 1 = .ok (.getfield 22, 3) := by decide +kernel
theorem dX1_takeBack_4 : decode cX1_takeBack 4 = .ok (.bipush 14, 2) := by decide +kernel
theorem dX1_takeBack_6 : decode cX1_takeBack 6 = .ok (.iadd, 1) := by decide +kernel
theorem dX1_takeBack_7 : decode cX1_takeBack 7 = .ok (.iconst 1, 1) := by decide +kernel
theorem dX1_takeBack_8 : decode cX1_takeBack 8 = .ok (.isub, 1) := by decide +kernel
theorem dX1_takeBack_9 : decode cX1_takeBack 9 = .ok (.bipush 14, 2) := by decide +kernel
theorem dX1_takeBack_11 : decode cX1_takeBack 11 = .ok (.irem, 1) := by decide +kernel
theorem dX1_takeBack_12 : decode cX1_takeBack 12 = .ok (.istore_n 2, 1) := by decide +kernel
theorem dX1_takeBack_13 : decode cX1_takeBack 13 = .ok (.aload_n 0, 1) := by decide +kernel
theorem dX1_takeBack_14 : decode cX1_takeBack 14 = .ok (.iload_n 2, 1) := by decide +kernel
theorem dX1_takeBack_15 : decode cX1_takeBack 15 = .ok (.invokevirtual 25, 3) := by decide +kernel
theorem dX1_takeBack_18 : decode cX1_takeBack 18 = .ok (.astore_n 3, 1) := by decide +kernel
theorem dX1_takeBack_19 : decode cX1_takeBack 19 = .ok (.aload_n 3, 1) := by decide +kernel
theorem dX1_takeBack_20 : decode cX1_takeBack 20 = .ok (.ifnull 30, 3) := by decide +kernel
theorem dX1_takeBack_23 : decode cX1_takeBack 23 = .ok (.aload_n 0, 1) := by decide +kernel
theorem dX1_takeBack_24 : decode cX1_takeBack 24 = .ok (.getfield 18, 3) := by decide +kernel
theorem dX1_takeBack_27 : decode cX1_takeBack 27 = .ok (.ifCond .le 23, 3) := by decide +kernel
theorem dX1_takeBack_30 : decode cX1_takeBack 30 = .ok (.aload_n 1, 1) := by decide +kernel
theorem dX1_takeBack_31 : decode cX1_takeBack 31 = .ok (.aload_n 3, 1) := by decide +kernel
theorem dX1_takeBack_32 : decode cX1_takeBack 32 = .ok (.invokevirtual 29, 3) := by decide +kernel
theorem dX1_takeBack_35 : decode cX1_takeBack 35 = .ok (.aload_n 0, 1) := by decide +kernel
theorem dX1_takeBack_36 : decode cX1_takeBack 36 = .ok (.iload_n 2, 1) := by decide +kernel
theorem dX1_takeBack_37 : decode cX1_takeBack 37 = .ok (.putfield 22, 3) := by decide +kernel
theorem dX1_takeBack_40 : decode cX1_takeBack 40 = .ok (.aload_n 0, 1) := by decide +kernel
theorem dX1_takeBack_41 : decode cX1_takeBack 41 = .ok (.dup, 1) := by decide +kernel
theorem dX1_takeBack_42 : decode cX1_takeBack 42 = .ok (.getfield 18, 3) := by decide +kernel
theorem dX1_takeBack_45 : decode cX1_takeBack 45 = .ok (.iconst 1, 1) := by decide +kernel
theorem dX1_takeBack_46 : decode cX1_takeBack 46 = .ok (.isub, 1) := by decide +kernel
theorem dX1_takeBack_47 : decode cX1_takeBack 47 = .ok (.putfield 18, 3) := by decide +kernel
theorem dX1_takeBack_50 : decode cX1_takeBack 50 = .ok (.aload_n 0, 1) := by decide +kernel
theorem dX1_takeBack_51 : decode cX1_takeBack 51 = .ok (.getfield 18, 3) := by decide +kernel
theorem dX1_takeBack_54 : decode cX1_takeBack 54 = .ok (.ireturn, 1) := by decide +kernel
theorem dX1_stateAt_0 : decode cX1_stateAt 0 = .ok (.iload_n 1, 1) := by decide +kernel
theorem dX1_stateAt_1 : decode cX1_stateAt 1 = .ok (.iconst 0, 1) := by decide +kernel
theorem dX1_stateAt_2 : decode cX1_stateAt 2 = .ok (.bipush 13, 2) := by decide +kernel
theorem dX1_stateAt_4 : decode cX1_stateAt 4 = .ok (.invokestatic 39, 3) := by decide +kernel
theorem dX1_stateAt_7 : decode cX1_stateAt 7 = .ok (.ifCond .eq 12, 3) := by decide +kernel
theorem dX1_stateAt_10 : decode cX1_stateAt 10 = .ok (.aload_n 0, 1) := by decide +kernel
theorem dX1_stateAt_11 : decode cX1_stateAt 11 = .ok (.getfield 11, 3) := by decide +kernel
theorem dX1_stateAt_14 : decode cX1_stateAt 14 = .ok (.iload_n 1, 1) := by decide +kernel
theorem dX1_stateAt_15 : decode cX1_stateAt 15 = .ok (.aaload, 1) := by decide +kernel
theorem dX1_stateAt_16 : decode cX1_stateAt 16 = .ok (.goto 4, 3) := by decide +kernel
theorem dX1_stateAt_19 : decode cX1_stateAt 19 = .ok (.aconst_null, 1) := by decide +kernel
theorem dX1_stateAt_20 : decode cX1_stateAt 20 = .ok (.areturn, 1) := by decide +kernel
theorem dX2_init_0 : decode cX2_init 0 = .ok (.aload_n 0, 1) := by decide +kernel
theorem dX2_init_1 : decode cX2_init 1 = .ok (.invokespecial 3, 3) := by decide +kernel
theorem dX2_init_4 : decode cX2_init 4 = .ok (.aload_n 0, 1) := by decide +kernel
theorem dX2_init_5 : decode cX2_init 5 = .ok (.bipush 7, 2) := by decide +kernel
theorem dX2_init_7 : decode cX2_init 7 = .ok (.newarray .int, 2) := by decide +kernel
theorem dX2_init_9 : decode cX2_init 9 = .ok (.putfield 9, 3) := by decide +kernel
theorem dX2_init_12 : decode cX2_init 12 = .ok (.return_, 1) := by decide +kernel
theorem dX2_begin_0 : decode cX2_begin 0 = .ok (.aload_n 0, 1) := by decide +kernel
theorem dX2_begin_1 : decode cX2_begin 1 = .ok (.iconst 0, 1) := by decide +kernel
theorem dX2_begin_2 : decode cX2_begin 2 = .ok (.putfield 15, 3) := by decide +kernel
theorem dX2_begin_5 : decode cX2_begin 5 = .ok (.aload_n 0, 1) := by decide +kernel
theorem dX2_begin_6 : decode cX2_begin 6 = .ok (.iconst 0, 1) := by decide +kernel
theorem dX2_begin_7 : decode cX2_begin 7 = .ok (.putfield 19, 3) := by decide +kernel
theorem dX2_begin_10 : decode cX2_begin 10 = .ok (.aload_n 0, 1) := by decide +kernel
theorem dX2_begin_11 : decode cX2_begin 11 = .ok (.iconst 1, 1) := by decide +kernel
theorem dX2_begin_12 : decode cX2_begin 12 = .ok (.putfield 22, 3) := by decide +kernel
theorem dX2_begin_15 : decode cX2_begin 15 = .ok (.return_, 1) := by decide +kernel
theorem dX2_isComplete_0 : decode cX2_isComplete 0 = .ok (.aload_n 0, 1) := by decide +kernel
theorem dX2_isComplete_1 : decode cX2_isComplete 1 = .ok (.getfield 22, 3) := by decide +kernel
theorem dX2_isComplete_4 : decode cX2_isComplete 4 = .ok (.ifCond .ne 7, 3) := by decide +kernel
theorem dX2_isComplete_7 : decode cX2_isComplete 7 = .ok (.iconst 1, 1) := by decide +kernel
theorem dX2_isComplete_8 : decode cX2_isComplete 8 = .ok (.goto 4, 3) := by decide +kernel
theorem dX2_isComplete_11 : decode cX2_isComplete 11 = .ok (.iconst 0, 1) := by decide +kernel
theorem dX2_isComplete_12 : decode cX2_isComplete 12 = .ok (.ireturn, 1) := by decide +kernel
theorem dX2_takes_0 : decode cX2_takes 0 = .ok (.aload_n 0, 1) := by decide +kernel
theorem dX2_takes_1 : decode cX2_takes 1 = .ok (.getfield 22, 3) := by decide +kernel
theorem dX2_takes_4 : decode cX2_takes 4 = .ok (.ifCond .ne 32, 3) := by decide +kernel
theorem dX2_takes_7 : decode cX2_takes 7 = .ok (.aload_n 0, 1) := by decide +kernel
theorem dX2_takes_8 : decode cX2_takes 8 = .ok (.iload_n 1, 1) := by decide +kernel
theorem dX2_takes_9 : decode cX2_takes 9 = .ok (.bipush 62, 2) := by decide +kernel
theorem dX2_takes_11 : decode cX2_takes 11 = .ok (.if_icmp .ne 16, 3) := by decide +kernel
theorem dX2_takes_14 : decode cX2_takes 14 = .ok (.aload_n 0, 1) := by decide +kernel
theorem dX2_takes_15 : decode cX2_takes 15 = .ok (.getfield 15, 3) := by decide +kernel
theorem dX2_takes_18 : decode cX2_takes 18 = .ok (.bipush 7, 2) := by decide +kernel
theorem dX2_takes_20 : decode cX2_takes 20 = .ok (.if_icmp .ge 7, 3) := by decide +kernel
theorem dX2_takes_23 : decode cX2_takes 23 = .ok (.iconst 1, 1) := by decide +kernel
theorem dX2_takes_24 : decode cX2_takes 24 = .ok (.goto 4, 3) := by decide +kernel
theorem dX2_takes_27 : decode cX2_takes 27 = .ok (.iconst 0, 1) := by decide +kernel
theorem dX2_takes_28 : decode cX2_takes 28 = .ok (.putfield 22, 3) := by decide +kernel
theorem dX2_takes_31 : decode cX2_takes 31 = .ok (.aload_n 0, 1) := by decide +kernel
theorem dX2_takes_32 : decode cX2_takes 32 = .ok (.getfield 22, 3) := by decide +kernel
theorem dX2_takes_35 : decode cX2_takes 35 = .ok (.ireturn, 1) := by decide +kernel
theorem dX2_takes_36 : decode cX2_takes 36 = .ok (.iload_n 1, 1) := by decide +kernel
theorem dX2_takes_37 : decode cX2_takes 37 = .ok (.bipush 48, 2) := by decide +kernel
theorem dX2_takes_39 : decode cX2_takes 39 = .ok (.isub, 1) := by decide +kernel
theorem dX2_takes_40 : decode cX2_takes 40 = .ok (.istore_n 2, 1) := by decide +kernel
theorem dX2_takes_41 : decode cX2_takes 41 = .ok (.iload_n 2, 1) := by decide +kernel
theorem dX2_takes_42 : decode cX2_takes 42 = .ok (.iconst 0, 1) := by decide +kernel
theorem dX2_takes_43 : decode cX2_takes 43 = .ok (.bipush 6, 2) := by decide +kernel
theorem dX2_takes_45 : decode cX2_takes 45 = .ok (.invokestatic 26, 3) := by decide +kernel
theorem dX2_takes_48 : decode cX2_takes 48 = .ok (.ifCond .eq 27, 3) := by decide +kernel
theorem dX2_takes_51 : decode cX2_takes 51 = .ok (.aload_n 0, 1) := by decide +kernel
theorem dX2_takes_52 : decode cX2_takes 52 = .ok (.getfield 19, 3) := by decide +kernel
theorem dX2_takes_55 : decode cX2_takes 55 = .ok (.iload_n 2, 1) := by decide +kernel
theorem dX2_takes_56 : decode cX2_takes 56 = .ok (.invokestatic 30, 3) := by decide +kernel
theorem dX2_takes_59 : decode cX2_takes 59 = .ok (.ifCond .ne 16, 3) := by decide +kernel
theorem dX2_takes_62 : decode cX2_takes 62 = .ok (.aload_n 0, 1) := by decide +kernel
theorem dX2_takes_63 : decode cX2_takes 63 = .ok (.getfield 15, 3) := by decide +kernel
theorem dX2_takes_66 : decode cX2_takes 66 = .ok (.iconst 0, 1) := by decide +kernel
theorem dX2_takes_67 : decode cX2_takes 67 = .ok (.bipush 6, 2) := by decide +kernel
theorem dX2_takes_69 : decode cX2_takes 69 = .ok (.invokestatic 26, 3) := by decide +kernel
theorem dX2_takes_72 : decode cX2_takes 72 = .ok (.ifCond .ne 5, 3) := by decide +kernel
theorem dX2_takes_75 : decode cX2_takes 75 = .ok (.iconst 0, 1) := by decide +kernel
theorem dX2_takes_76 : decode cX2_takes 76 = .ok (.ireturn, 1) := by decide +kernel
theorem dX2_takes_77 : decode cX2_takes 77 = .ok (.aload_n 0, 1) := by decide +kernel
theorem dX2_takes_78 : decode cX2_takes 78 = .ok (.getfield 9, 3) := by decide +kernel
theorem dX2_takes_81 : decode cX2_takes 81 = .ok (.aload_n 0, 1) := by decide +kernel
theorem dX2_takes_82 : decode cX2_takes 82 = .ok (.getfield 15, 3) := by decide +kernel
theorem dX2_takes_85 : decode cX2_takes 85 = .ok (.iload_n 2, 1) := by decide +kernel
theorem dX2_takes_86 : decode cX2_takes 86 = .ok (.iastore, 1) := by decide +kernel
theorem dX2_takes_87 : decode cX2_takes 87 = .ok (.aload_n 0, 1) := by decide +kernel
theorem dX2_takes_88 : decode cX2_takes 88 = .ok (.dup, 1) := by decide +kernel
theorem dX2_takes_89 : decode cX2_takes 89 = .ok (.getfield 15, 3) := by decide +kernel
theorem dX2_takes_92 : decode cX2_takes 92 = .ok (.iconst 1, 1) := by decide +kernel
theorem dX2_takes_93 : decode cX2_takes 93 = .ok (.iadd, 1) := by decide +kernel
theorem dX2_takes_94 : decode cX2_takes 94 = .ok (.putfield 15, 3) := by decide +kernel
theorem dX2_takes_97 : decode cX2_takes 97 = .ok (.aload_n 0, 1) := by decide +kernel
theorem dX2_takes_98 : decode cX2_takes 98 = .ok (.dup, 1) := by decide +kernel
theorem dX2_takes_99 : decode cX2_takes 99 = .ok (.getfield 19, 3) := by decide +kernel
theorem dX2_takes_102 : decode cX2_takes 102 = .ok (.iconst 1, 1) := by decide +kernel
theorem dX2_takes_103 : decode cX2_takes 103 = .ok (.iload_n 2, 1) := by decide +kernel
theorem dX2_takes_104 : decode cX2_takes 104 = .ok (.ishl, 1) := by decide +kernel
theorem dX2_takes_105 : decode cX2_takes 105 = .ok (.ior, 1) := by decide +kernel
theorem dX2_takes_106 : decode cX2_takes 106 = .ok (.putfield 19, 3) := by decide +kernel
theorem dX2_takes_109 : decode cX2_takes 109 = .ok (.aload_n 0, 1) := by decide +kernel
theorem dX2_takes_110 : decode cX2_takes 110 = .ok (.iconst 0, 1) := by decide +kernel
theorem dX2_takes_111 : decode cX2_takes 111 = .ok (.putfield 22, 3) := by decide +kernel
theorem dX2_takes_114 : decode cX2_takes 114 = .ok (.iconst 1, 1) := by decide +kernel
theorem dX2_takes_115 : decode cX2_takes 115 = .ok (.ireturn, 1) := by decide +kernel
theorem dX2_tables_0 : decode cX2_tables 0 = .ok (.aload_n 0, 1) := by decide +kernel
theorem dX2_tables_1 : decode cX2_tables 1 = .ok (.getfield 19, 3) := by decide +kernel
theorem dX2_tables_4 : decode cX2_tables 4 = .ok (.ireturn, 1) := by decide +kernel
theorem dX2_tableAt_0 : decode cX2_tableAt 0 = .ok (.iload_n 1, 1) := by decide +kernel
theorem dX2_tableAt_1 : decode cX2_tableAt 1 = .ok (.iconst 0, 1) := by decide +kernel
theorem dX2_tableAt_2 : decode cX2_tableAt 2 = .ok (.bipush 6, 2) := by decide +kernel
theorem dX2_tableAt_4 : decode cX2_tableAt 4 = .ok (.invokestatic 26, 3) := by decide +kernel
theorem dX2_tableAt_7 : decode cX2_tableAt 7 = .ok (.ifCond .eq 20, 3) := by decide +kernel
theorem dX2_tableAt_10 : decode cX2_tableAt 10 = .ok (.iload_n 1, 1) := by decide +kernel
theorem dX2_tableAt_11 : decode cX2_tableAt 11 = .ok (.aload_n 0, 1) := by decide +kernel
theorem dX2_tableAt_12 : decode cX2_tableAt 12 = .ok (.getfield 15, 3) := by decide +kernel
theorem dX2_tableAt_15 : decode cX2_tableAt 15 = .ok (.if_icmp .ge 12, 3) := by decide +kernel
theorem dX2_tableAt_18 : decode cX2_tableAt 18 = .ok (.aload_n 0, 1) := by decide +kernel
theorem dX2_tableAt_19 : decode cX2_tableAt 19 = .ok (.getfield 9, 3) := by decide +kernel
theorem dX2_tableAt_22 : decode cX2_tableAt 22 = .ok (.iload_n 1, 1) := by decide +kernel
theorem dX2_tableAt_23 : decode cX2_tableAt 23 = .ok (.iaload, 1) := by decide +kernel
theorem dX2_tableAt_24 : decode cX2_tableAt 24 = .ok (.goto 4, 3) := by decide +kernel
theorem dX2_tableAt_27 : decode cX2_tableAt 27 = .ok (.iconst (-1), 1) := by decide +kernel
theorem dX2_tableAt_28 : decode cX2_tableAt 28 = .ok (.ireturn, 1) := by decide +kernel
theorem dX3_init_0 : decode cX3_init 0 = .ok (.aload_n 0, 1) := by decide +kernel
theorem dX3_init_1 : decode cX3_init 1 = .ok (.invokespecial 3, 3) := by decide +kernel
theorem dX3_init_4 : decode cX3_init 4 = .ok (.aload_n 0, 1) := by decide +kernel
theorem dX3_init_5 : decode cX3_init 5 = .ok (.bipush 7, 2) := by decide +kernel
theorem dX3_init_7 : decode cX3_init 7 = .ok (.newarray .int, 2) := by decide +kernel
theorem dX3_init_9 : decode cX3_init 9 = .ok (.putfield 9, 3) := by decide +kernel
theorem dX3_init_12 : decode cX3_init 12 = .ok (.aload_n 0, 1) := by decide +kernel
theorem dX3_init_13 : decode cX3_init 13 = .ok (.bipush 21, 2) := by decide +kernel
theorem dX3_init_15 : decode cX3_init 15 = .ok (.newarray .int, 2) := by decide +kernel
theorem dX3_init_17 : decode cX3_init 17 = .ok (.putfield 15, 3) := by decide +kernel
theorem dX3_init_20 : decode cX3_init 20 = .ok (.aload_n 0, 1) := by decide +kernel
theorem dX3_init_21 : decode cX3_init 21 = .ok (.sipush 128, 3) := by decide +kernel
theorem dX3_init_24 : decode cX3_init 24 = .ok (.newarray .long, 2) := by decide +kernel
theorem dX3_init_26 : decode cX3_init 26 = .ok (.putfield 18, 3) := by decide +kernel
theorem dX3_init_29 : decode cX3_init 29 = .ok (.aload_n 0, 1) := by decide +kernel
theorem dX3_init_30 : decode cX3_init 30 = .ok (.sipush 128, 3) := by decide +kernel
theorem dX3_init_33 : decode cX3_init 33 = .ok (.newarray .long, 2) := by decide +kernel
theorem dX3_init_35 : decode cX3_init 35 = .ok (.putfield 22, 3) := by decide +kernel
theorem dX3_init_38 : decode cX3_init 38 = .ok (.aload_n 0, 1) := by decide +kernel
theorem dX3_init_39 : decode cX3_init 39 = .ok (.sipush 128, 3) := by decide +kernel
theorem dX3_init_42 : decode cX3_init 42 = .ok (.newarray .int, 2) := by decide +kernel
theorem dX3_init_44 : decode cX3_init 44 = .ok (.putfield 25, 3) := by decide +kernel
theorem dX3_init_47 : decode cX3_init 47 = .ok (.aload_n 0, 1) := by decide +kernel
theorem dX3_init_48 : decode cX3_init 48 = .ok (.bipush 7, 2) := by decide +kernel
theorem dX3_init_50 : decode cX3_init 50 = .ok (.newarray .int, 2) := by decide +kernel
theorem dX3_init_52 : decode cX3_init 52 = .ok (.putfield 28, 3) := by decide +kernel
theorem dX3_init_55 : decode cX3_init 55 = .ok (.aload_n 0, 1) := by decide +kernel
theorem dX3_init_56 : decode cX3_init 56 = .ok (.bipush 7, 2) := by decide +kernel
theorem dX3_init_58 : decode cX3_init 58 = .ok (.newarray .int, 2) := by decide +kernel
theorem dX3_init_60 : decode cX3_init 60 = .ok (.putfield 31, 3) := by decide +kernel
theorem dX3_init_63 : decode cX3_init 63 = .ok (.return_, 1) := by decide +kernel
theorem dX3_weigh_0 : decode cX3_weigh 0 = .ok (.aload_n 0, 1) := by decide +kernel
theorem dX3_weigh_1 : decode cX3_weigh 1 = .ok (.iload_n 2, 1) := by decide +kernel
theorem dX3_weigh_2 : decode cX3_weigh 2 = .ok (.putfield 34, 3) := by decide +kernel
theorem dX3_weigh_5 : decode cX3_weigh 5 = .ok (.aload_n 0, 1) := by decide +kernel
theorem dX3_weigh_6 : decode cX3_weigh 6 = .ok (.iconst 0, 1) := by decide +kernel
theorem dX3_weigh_7 : decode cX3_weigh 7 = .ok (.putfield 38, 3) := by decide +kernel
theorem dX3_weigh_10 : decode cX3_weigh 10 = .ok (.iconst 0, 1) := by decide +kernel
theorem dX3_weigh_11 : decode cX3_weigh 11 = .ok (.istore 4, 2) := by decide +kernel
theorem dX3_weigh_13 : decode cX3_weigh 13 = .ok (.iload 4, 2) := by decide +kernel
theorem dX3_weigh_15 : decode cX3_weigh 15 = .ok (.bipush 7, 2) := by decide +kernel
theorem dX3_weigh_17 : decode cX3_weigh 17 = .ok (.if_icmp .ge 22, 3) := by decide +kernel
theorem dX3_weigh_20 : decode cX3_weigh 20 = .ok (.aload_n 0, 1) := by decide +kernel
theorem dX3_weigh_21 : decode cX3_weigh 21 = .ok (.getfield 9, 3) := by decide +kernel
theorem dX3_weigh_24 : decode cX3_weigh 24 = .ok (.iload 4, 2) := by decide +kernel
theorem dX3_weigh_26 : decode cX3_weigh 26 = .ok (.aload_n 1, 1) := by decide +kernel
theorem dX3_weigh_27 : decode cX3_weigh 27 = .ok (.iload 4, 2) := by decide +kernel
theorem dX3_weigh_29 : decode cX3_weigh 29 = .ok (.invokevirtual 41, 3) := by decide +kernel
theorem dX3_weigh_32 : decode cX3_weigh 32 = .ok (.iastore, 1) := by decide +kernel
theorem dX3_weigh_33 : decode cX3_weigh 33 = .ok (.iinc 4 1, 3) := by decide +kernel
theorem dX3_weigh_36 : decode cX3_weigh 36 = .ok (.goto (-23), 3) := by decide +kernel
theorem dX3_weigh_39 : decode cX3_weigh 39 = .ok (.iconst 0, 1) := by decide +kernel
theorem dX3_weigh_40 : decode cX3_weigh 40 = .ok (.istore 4, 2) := by decide +kernel
theorem dX3_weigh_42 : decode cX3_weigh 42 = .ok (.iload 4, 2) := by decide +kernel
theorem dX3_weigh_44 : decode cX3_weigh 44 = .ok (.bipush 21, 2) := by decide +kernel
theorem dX3_weigh_46 : decode cX3_weigh 46 = .ok (.if_icmp .ge 23, 3) := by decide +kernel
theorem dX3_weigh_49 : decode cX3_weigh 49 = .ok (.aload_n 0, 1) := by decide +kernel
theorem dX3_weigh_50 : decode cX3_weigh 50 = .ok (.getfield 15, 3) := by decide +kernel
theorem dX3_weigh_53 : decode cX3_weigh 53 = .ok (.iload 4, 2) := by decide +kernel
theorem dX3_weigh_55 : decode cX3_weigh 55 = .ok (.aload_n 1, 1) := by decide +kernel
theorem dX3_weigh_56 : decode cX3_weigh 56 = .ok (.iload 4, 2) := by decide +kernel
theorem dX3_weigh_58 : decode cX3_weigh 58 = .ok (.iload_n 3, 1) := by decide +kernel
theorem dX3_weigh_59 : decode cX3_weigh 59 = .ok (.invokevirtual 47, 3) := by decide +kernel
theorem dX3_weigh_62 : decode cX3_weigh 62 = .ok (.iastore, 1) := by decide +kernel
theorem dX3_weigh_63 : decode cX3_weigh 63 = .ok (.iinc 4 1, 3) := by decide +kernel
theorem dX3_weigh_66 : decode cX3_weigh 66 = .ok (.goto (-24), 3) := by decide +kernel
theorem dX3_weigh_69 : decode cX3_weigh 69 = .ok (.aload_n 0, 1) := by decide +kernel
theorem dX3_weigh_70 : decode cX3_weigh 70 = .ok (.getfield 18, 3) := by decide +kernel
theorem dX3_weigh_73 : decode cX3_weigh 73 = .ok (.iconst 0, 1) := by decide +kernel
theorem dX3_weigh_74 : decode cX3_weigh 74 = .ok (.lconst 1, 1) := by decide +kernel
theorem dX3_weigh_75 : decode cX3_weigh 75 = .ok (.lastore, 1) := by decide +kernel
theorem dX3_weigh_76 : decode cX3_weigh 76 = .ok (.iconst 0, 1) := by decide +kernel
theorem dX3_weigh_77 : decode cX3_weigh 77 = .ok (.istore 4, 2) := by decide +kernel
theorem dX3_weigh_79 : decode cX3_weigh 79 = .ok (.iconst 1, 1) := by decide +kernel
theorem dX3_weigh_80 : decode cX3_weigh 80 = .ok (.istore 5, 2) := by decide +kernel
theorem dX3_weigh_82 : decode cX3_weigh 82 = .ok (.iload 5, 2) := by decide +kernel
theorem dX3_weigh_84 : decode cX3_weigh 84 = .ok (.sipush 128, 3) := by decide +kernel
theorem dX3_weigh_87 : decode cX3_weigh 87 = .ok (.if_icmp .ge 55, 3) := by decide +kernel
theorem dX3_weigh_90 : decode cX3_weigh 90 = .ok (.iload 5, 2) := by decide +kernel
theorem dX3_weigh_92 : decode cX3_weigh 92 = .ok (.iload 4, 2) := by decide +kernel
theorem dX3_weigh_94 : decode cX3_weigh 94 = .ok (.ishr, 1) := by decide +kernel
theorem dX3_weigh_95 : decode cX3_weigh 95 = .ok (.iconst 1, 1) := by decide +kernel
theorem dX3_weigh_96 : decode cX3_weigh 96 = .ok (.if_icmp .le 6, 3) := by decide +kernel
theorem dX3_weigh_99 : decode cX3_weigh 99 = .ok (.iinc 4 1, 3) := by decide +kernel
theorem dX3_weigh_102 : decode cX3_weigh 102 = .ok (.iload 5, 2) := by decide +kernel
theorem dX3_weigh_104 : decode cX3_weigh 104 = .ok (.aload_n 0, 1) := by decide +kernel
theorem dX3_weigh_105 : decode cX3_weigh 105 = .ok (.getfield 34, 3) := by decide +kernel
theorem dX3_weigh_108 : decode cX3_weigh 108 = .ok (.iand, 1) := by decide +kernel
theorem dX3_weigh_109 : decode cX3_weigh 109 = .ok (.iload 5, 2) := by decide +kernel
theorem dX3_weigh_111 : decode cX3_weigh 111 = .ok (.if_icmp .ne 25, 3) := by decide +kernel
theorem dX3_weigh_114 : decode cX3_weigh 114 = .ok (.aload_n 0, 1) := by decide +kernel
theorem dX3_weigh_115 : decode cX3_weigh 115 = .ok (.getfield 18, 3) := by decide +kernel
theorem dX3_weigh_118 : decode cX3_weigh 118 = .ok (.iload 5, 2) := by decide +kernel
theorem dX3_weigh_120 : decode cX3_weigh 120 = .ok (.aload_n 0, 1) := by decide +kernel
theorem dX3_weigh_121 : decode cX3_weigh 121 = .ok (.iload 5, 2) := by decide +kernel
theorem dX3_weigh_123 : decode cX3_weigh 123 = .ok (.iconst 1, 1) := by decide +kernel
theorem dX3_weigh_124 : decode cX3_weigh 124 = .ok (.iload 4, 2) := by decide +kernel
theorem dX3_weigh_126 : decode cX3_weigh 126 = .ok (.ishl, 1) := by decide +kernel
theorem dX3_weigh_127 : decode cX3_weigh 127 = .ok (.iconst (-1), 1) := by decide +kernel
theorem dX3_weigh_128 : decode cX3_weigh 128 = .ok (.ixor, 1) := by decide +kernel
theorem dX3_weigh_129 : decode cX3_weigh 129 = .ok (.iand, 1) := by decide +kernel
theorem dX3_weigh_130 : decode cX3_weigh 130 = .ok (.iload 4, 2) := by decide +kernel
theorem dX3_weigh_132 : decode cX3_weigh 132 = .ok (.invokevirtual 51, 3) := by decide +kernel
theorem dX3_weigh_135 : decode cX3_weigh 135 = .ok (.lastore, 1) := by decide +kernel
theorem dX3_weigh_136 : decode cX3_weigh 136 = .ok (.iinc 5 1, 3) := by decide +kernel
theorem dX3_weigh_139 : decode cX3_weigh 139 = .ok (.goto (-57), 3) := by decide +kernel
theorem dX3_weigh_142 : decode cX3_weigh 142 = .ok (.return_, 1) := by decide +kernel
theorem dX3_rowsJoined_0 : decode cX3_rowsJoined 0 = .ok (.aload_n 0, 1) := by decide +kernel
theorem dX3_rowsJoined_1 : decode cX3_rowsJoined 1 = .ok (.iload_n 1, 1) := by decide +kernel
theorem dX3_rowsJoined_2 : decode cX3_rowsJoined 2 = .ok (.invokevirtual 55, 3) := by decide +kernel
theorem dX3_rowsJoined_5 : decode cX3_rowsJoined 5 = .ok (.aload_n 0, 1) := by decide +kernel
theorem dX3_rowsJoined_6 : decode cX3_rowsJoined 6 = .ok (.iload_n 2, 1) := by decide +kernel
theorem dX3_rowsJoined_7 : decode cX3_rowsJoined 7 = .ok (.invokevirtual 58, 3) := by decide +kernel
theorem dX3_rowsJoined_10 : decode cX3_rowsJoined 10 = .ok (.i2l, 1) := by decide +kernel
theorem dX3_rowsJoined_11 : decode cX3_rowsJoined 11 = .ok (.lmul, 1) := by decide +kernel
theorem dX3_rowsJoined_12 : decode cX3_rowsJoined 12 = .ok (.lstore_n 3, 1) := by decide +kernel
theorem dX3_rowsJoined_13 : decode cX3_rowsJoined 13 = .ok (.lload_n 3, 1) := by decide +kernel
theorem dX3_rowsJoined_14 : decode cX3_rowsJoined 14 = .ok (.ldc2_w 59, 3) := by decide +kernel
theorem dX3_rowsJoined_17 : decode cX3_rowsJoined 17 = .ok (.lcmp, 1) := by decide +kernel
theorem dX3_rowsJoined_18 : decode cX3_rowsJoined 18 = .ok (.ifCond .le 7, 3) := by decide +kernel
theorem dX3_rowsJoined_21 : decode cX3_rowsJoined 21 = .ok (.ldc2_w 59, 3) := by decide +kernel
theorem dX3_rowsJoined_24 : decode cX3_rowsJoined 24 = .ok (.lstore_n 3, 1) := by decide +kernel
theorem dX3_rowsJoined_25 : decode cX3_rowsJoined 25 = .ok (.iload_n 2, 1) := by decide +kernel
theorem dX3_rowsJoined_26 : decode cX3_rowsJoined 26 = .ok (.iload_n 2, 1) := by decide +kernel
theorem dX3_rowsJoined_27 : decode cX3_rowsJoined 27 = .ok (.iconst 1, 1) := by decide +kernel
theorem dX3_rowsJoined_28 : decode cX3_rowsJoined 28 = .ok (.isub, 1) := by decide +kernel
theorem dX3_rowsJoined_29 : decode cX3_rowsJoined 29 = .ok (.imul, 1) := by decide +kernel
theorem dX3_rowsJoined_30 : decode cX3_rowsJoined 30 = .ok (.iconst 2, 1) := by decide +kernel
theorem dX3_rowsJoined_31 : decode cX3_rowsJoined 31 = .ok (.idiv, 1) := by decide +kernel
theorem dX3_rowsJoined_32 : decode cX3_rowsJoined 32 = .ok (.istore 5, 2) := by decide +kernel
theorem dX3_rowsJoined_34 : decode cX3_rowsJoined 34 = .ok (.iconst 0, 1) := by decide +kernel
theorem dX3_rowsJoined_35 : decode cX3_rowsJoined 35 = .ok (.istore 6, 2) := by decide +kernel
theorem dX3_rowsJoined_37 : decode cX3_rowsJoined 37 = .ok (.iload 6, 2) := by decide +kernel
theorem dX3_rowsJoined_39 : decode cX3_rowsJoined 39 = .ok (.iload_n 2, 1) := by decide +kernel
theorem dX3_rowsJoined_40 : decode cX3_rowsJoined 40 = .ok (.if_icmp .ge 70, 3) := by decide +kernel
theorem dX3_rowsJoined_43 : decode cX3_rowsJoined 43 = .ok (.iload 5, 2) := by decide +kernel
theorem dX3_rowsJoined_45 : decode cX3_rowsJoined 45 = .ok (.ifCond .lt 20, 3) := by decide +kernel
theorem dX3_rowsJoined_48 : decode cX3_rowsJoined 48 = .ok (.iload 5, 2) := by decide +kernel
theorem dX3_rowsJoined_50 : decode cX3_rowsJoined 50 = .ok (.bipush 21, 2) := by decide +kernel
theorem dX3_rowsJoined_52 : decode cX3_rowsJoined 52 = .ok (.if_icmp .ge 13, 3) := by decide +kernel
theorem dX3_rowsJoined_55 : decode cX3_rowsJoined 55 = .ok (.aload_n 0, 1) := by decide +kernel
theorem dX3_rowsJoined_56 : decode cX3_rowsJoined 56 = .ok (.getfield 15, 3) := by decide +kernel
theorem dX3_rowsJoined_59 : decode cX3_rowsJoined 59 = .ok (.iload 5, 2) := by decide +kernel
theorem dX3_rowsJoined_61 : decode cX3_rowsJoined 61 = .ok (.iaload, 1) := by decide +kernel
theorem dX3_rowsJoined_62 : decode cX3_rowsJoined 62 = .ok (.goto 4, 3) := by decide +kernel
theorem dX3_rowsJoined_65 : decode cX3_rowsJoined 65 = .ok (.iconst 0, 1) := by decide +kernel
theorem dX3_rowsJoined_66 : decode cX3_rowsJoined 66 = .ok (.istore 7, 2) := by decide +kernel
theorem dX3_rowsJoined_68 : decode cX3_rowsJoined 68 = .ok (.iload_n 1, 1) := by decide +kernel
theorem dX3_rowsJoined_69 : decode cX3_rowsJoined 69 = .ok (.iload 6, 2) := by decide +kernel
theorem dX3_rowsJoined_71 : decode cX3_rowsJoined 71 = .ok (.ishr, 1) := by decide +kernel
theorem dX3_rowsJoined_72 : decode cX3_rowsJoined 72 = .ok (.iconst 1, 1) := by decide +kernel
theorem dX3_rowsJoined_73 : decode cX3_rowsJoined 73 = .ok (.iand, 1) := by decide +kernel
theorem dX3_rowsJoined_74 : decode cX3_rowsJoined 74 = .ok (.iconst 1, 1) := by decide +kernel
theorem dX3_rowsJoined_75 : decode cX3_rowsJoined 75 = .ok (.if_icmp .ne 26, 3) := by decide +kernel
theorem dX3_rowsJoined_78 : decode cX3_rowsJoined 78 = .ok (.iload 7, 2) := by decide +kernel
theorem dX3_rowsJoined_80 : decode cX3_rowsJoined 80 = .ok (.ifCond .le 21, 3) := by decide +kernel
theorem dX3_rowsJoined_83 : decode cX3_rowsJoined 83 = .ok (.lload_n 3, 1) := by decide +kernel
theorem dX3_rowsJoined_84 : decode cX3_rowsJoined 84 = .ok (.iload 7, 2) := by decide +kernel
theorem dX3_rowsJoined_86 : decode cX3_rowsJoined 86 = .ok (.i2l, 1) := by decide +kernel
theorem dX3_rowsJoined_87 : decode cX3_rowsJoined 87 = .ok (.lmul, 1) := by decide +kernel
theorem dX3_rowsJoined_88 : decode cX3_rowsJoined 88 = .ok (.ldc2_w 61, 3) := by decide +kernel
theorem dX3_rowsJoined_91 : decode cX3_rowsJoined 91 = .ok (.ldiv, 1) := by decide +kernel
theorem dX3_rowsJoined_92 : decode cX3_rowsJoined 92 = .ok (.lstore_n 3, 1) := by decide +kernel
theorem dX3_rowsJoined_93 : decode cX3_rowsJoined 93 = .ok (.lload_n 3, 1) := by decide +kernel
theorem dX3_rowsJoined_94 : decode cX3_rowsJoined 94 = .ok (.lconst 1, 1) := by decide +kernel
theorem dX3_rowsJoined_95 : decode cX3_rowsJoined 95 = .ok (.lcmp, 1) := by decide +kernel
theorem dX3_rowsJoined_96 : decode cX3_rowsJoined 96 = .ok (.ifCond .ge 5, 3) := by decide +kernel
theorem dX3_rowsJoined_99 : decode cX3_rowsJoined 99 = .ok (.lconst 1, 1) := by decide +kernel
theorem dX3_rowsJoined_100 : decode cX3_rowsJoined 100 = .ok (.lstore_n 3, 1) := by decide +kernel
theorem dX3_rowsJoined_101 : decode cX3_rowsJoined 101 = .ok (.iinc 5 1, 3) := by decide +kernel
theorem dX3_rowsJoined_104 : decode cX3_rowsJoined 104 = .ok (.iinc 6 1, 3) := by decide +kernel
theorem dX3_rowsJoined_107 : decode cX3_rowsJoined 107 = .ok (.goto (-70), 3) := by decide +kernel
theorem dX3_rowsJoined_110 : decode cX3_rowsJoined 110 = .ok (.lload_n 3, 1) := by decide +kernel
theorem dX3_rowsJoined_111 : decode cX3_rowsJoined 111 = .ok (.lreturn, 1) := by decide +kernel
theorem dX3_choose_0 : decode cX3_choose 0 = .ok (.aload_n 0, 1) := by decide +kernel
theorem dX3_choose_1 : decode cX3_choose 1 = .ok (.aload_n 1, 1) := by decide +kernel
theorem dX3_choose_2 : decode cX3_choose 2 = .ok (.iload_n 2, 1) := by decide +kernel
theorem dX3_choose_3 : decode cX3_choose 3 = .ok (.iload_n 3, 1) := by decide +kernel
theorem dX3_choose_4 : decode cX3_choose 4 = .ok (.invokevirtual 63, 3) := by decide +kernel
theorem dX3_choose_7 : decode cX3_choose 7 = .ok (.bipush 127, 2) := by decide +kernel
theorem dX3_choose_9 : decode cX3_choose 9 = .ok (.istore 4, 2) := by decide +kernel
theorem dX3_choose_11 : decode cX3_choose 11 = .ok (.iload 4, 2) := by decide +kernel
theorem dX3_choose_13 : decode cX3_choose 13 = .ok (.ifCond .lt 27, 3) := by decide +kernel
theorem dX3_choose_16 : decode cX3_choose 16 = .ok (.iload 4, 2) := by decide +kernel
theorem dX3_choose_18 : decode cX3_choose 18 = .ok (.aload_n 0, 1) := by decide +kernel
theorem dX3_choose_19 : decode cX3_choose 19 = .ok (.getfield 34, 3) := by decide +kernel
theorem dX3_choose_22 : decode cX3_choose 22 = .ok (.iand, 1) := by decide +kernel
theorem dX3_choose_23 : decode cX3_choose 23 = .ok (.iload 4, 2) := by decide +kernel
theorem dX3_choose_25 : decode cX3_choose 25 = .ok (.if_icmp .ne 9, 3) := by decide +kernel
theorem dX3_choose_28 : decode cX3_choose 28 = .ok (.aload_n 0, 1) := by decide +kernel
theorem dX3_choose_29 : decode cX3_choose 29 = .ok (.iload 4, 2) := by decide +kernel
theorem dX3_choose_31 : decode cX3_choose 31 = .ok (.invokevirtual 67, 3) := by decide +kernel
theorem dX3_choose_34 : decode cX3_choose 34 = .ok (.iinc 4 (-1), 3) := by decide +kernel
theorem dX3_choose_37 : decode cX3_choose 37 = .ok (.goto (-26), 3) := by decide +kernel
theorem dX3_choose_40 : decode cX3_choose 40 = .ok (.aload_n 0, 1) := by decide +kernel
theorem dX3_choose_41 : decode cX3_choose 41 = .ok (.invokevirtual 71, 3) := by decide +kernel
theorem dX3_choose_44 : decode cX3_choose 44 = .ok (.return_, 1) := by decide +kernel
theorem dX3_findNext_0 : decode cX3_findNext 0 = .ok (.lconst 0, 1) := by decide +kernel
theorem dX3_findNext_1 : decode cX3_findNext 1 = .ok (.lstore_n 2, 1) := by decide +kernel
theorem dX3_findNext_2 : decode cX3_findNext 2 = .ok (.iconst (-1), 1) := by decide +kernel
theorem dX3_findNext_3 : decode cX3_findNext 3 = .ok (.istore 4, 2) := by decide +kernel
theorem dX3_findNext_5 : decode cX3_findNext 5 = .ok (.iconst 0, 1) := by decide +kernel
theorem dX3_findNext_6 : decode cX3_findNext 6 = .ok (.istore 5, 2) := by decide +kernel
theorem dX3_findNext_8 : decode cX3_findNext 8 = .ok (.iload 5, 2) := by decide +kernel
theorem dX3_findNext_10 : decode cX3_findNext 10 = .ok (.bipush 7, 2) := by decide +kernel
theorem dX3_findNext_12 : decode cX3_findNext 12 = .ok (.if_icmp .ge 78, 3) := by decide +kernel
theorem dX3_findNext_15 : decode cX3_findNext 15 = .ok (.iload_n 1, 1) := by decide +kernel
theorem dX3_findNext_16 : decode cX3_findNext 16 = .ok (.iconst 1, 1) := by decide +kernel
theorem dX3_findNext_17 : decode cX3_findNext 17 = .ok (.iload 5, 2) := by decide +kernel
theorem dX3_findNext_19 : decode cX3_findNext 19 = .ok (.ishl, 1) := by decide +kernel
theorem dX3_findNext_20 : decode cX3_findNext 20 = .ok (.ior, 1) := by decide +kernel
theorem dX3_findNext_21 : decode cX3_findNext 21 = .ok (.istore 6, 2) := by decide +kernel
theorem dX3_findNext_23 : decode cX3_findNext 23 = .ok (.iload 6, 2) := by decide +kernel
theorem dX3_findNext_25 : decode cX3_findNext 25 = .ok (.iload_n 1, 1) := by decide +kernel
theorem dX3_findNext_26 : decode cX3_findNext 26 = .ok (.if_icmp .eq 58, 3) := by decide +kernel
theorem dX3_findNext_29 : decode cX3_findNext 29 = .ok (.iload 6, 2) := by decide +kernel
theorem dX3_findNext_31 : decode cX3_findNext 31 = .ok (.aload_n 0, 1) := by decide +kernel
theorem dX3_findNext_32 : decode cX3_findNext 32 = .ok (.getfield 34, 3) := by decide +kernel
theorem dX3_findNext_35 : decode cX3_findNext 35 = .ok (.iand, 1) := by decide +kernel
theorem dX3_findNext_36 : decode cX3_findNext 36 = .ok (.iload 6, 2) := by decide +kernel
theorem dX3_findNext_38 : decode cX3_findNext 38 = .ok (.if_icmp .ne 46, 3) := by decide +kernel
theorem dX3_findNext_41 : decode cX3_findNext 41 = .ok (.aload_n 0, 1) := by decide +kernel
theorem dX3_findNext_42 : decode cX3_findNext 42 = .ok (.iload_n 1, 1) := by decide +kernel
theorem dX3_findNext_43 : decode cX3_findNext 43 = .ok (.iload 5, 2) := by decide +kernel
theorem dX3_findNext_45 : decode cX3_findNext 45 = .ok (.aload_n 0, 1) := by decide +kernel
theorem dX3_findNext_46 : decode cX3_findNext 46 = .ok (.iload_n 1, 1) := by decide +kernel
theorem dX3_findNext_47 : decode cX3_findNext 47 = .ok (.iload 5, 2) := by decide +kernel
theorem dX3_findNext_49 : decode cX3_findNext 49 = .ok (.invokevirtual 74, 3) := by decide +kernel
theorem dX3_findNext_52 : decode cX3_findNext 52 = .ok (.invokevirtual 77, 3) := by decide +kernel
theorem dX3_findNext_55 : decode cX3_findNext 55 = .ok (.aload_n 0, 1) := by decide +kernel
theorem dX3_findNext_56 : decode cX3_findNext 56 = .ok (.iload 6, 2) := by decide +kernel
theorem dX3_findNext_58 : decode cX3_findNext 58 = .ok (.invokevirtual 81, 3) := by decide +kernel
theorem dX3_findNext_61 : decode cX3_findNext 61 = .ok (.ladd, 1) := by decide +kernel
theorem dX3_findNext_62 : decode cX3_findNext 62 = .ok (.lstore 7, 2) := by decide +kernel
theorem dX3_findNext_64 : decode cX3_findNext 64 = .ok (.iload 4, 2) := by decide +kernel
theorem dX3_findNext_66 : decode cX3_findNext 66 = .ok (.iconst (-1), 1) := by decide +kernel
theorem dX3_findNext_67 : decode cX3_findNext 67 = .ok (.if_icmp .eq 10, 3) := by decide +kernel
theorem dX3_findNext_70 : decode cX3_findNext 70 = .ok (.lload 7, 2) := by decide +kernel
theorem dX3_findNext_72 : decode cX3_findNext 72 = .ok (.lload_n 2, 1) := by decide +kernel
theorem dX3_findNext_73 : decode cX3_findNext 73 = .ok (.lcmp, 1) := by decide +kernel
theorem dX3_findNext_74 : decode cX3_findNext 74 = .ok (.ifCond .ge 10, 3) := by decide +kernel
theorem dX3_findNext_77 : decode cX3_findNext 77 = .ok (.lload 7, 2) := by decide +kernel
theorem dX3_findNext_79 : decode cX3_findNext 79 = .ok (.lstore_n 2, 1) := by decide +kernel
theorem dX3_findNext_80 : decode cX3_findNext 80 = .ok (.iload 5, 2) := by decide +kernel
theorem dX3_findNext_82 : decode cX3_findNext 82 = .ok (.istore 4, 2) := by decide +kernel
theorem dX3_findNext_84 : decode cX3_findNext 84 = .ok (.iinc 5 1, 3) := by decide +kernel
theorem dX3_findNext_87 : decode cX3_findNext 87 = .ok (.goto (-79), 3) := by decide +kernel
theorem dX3_findNext_90 : decode cX3_findNext 90 = .ok (.iload_n 1, 1) := by decide +kernel
theorem dX3_findNext_91 : decode cX3_findNext 91 = .ok (.ifCond .lt 25, 3) := by decide +kernel
theorem dX3_findNext_94 : decode cX3_findNext 94 = .ok (.iload_n 1, 1) := by decide +kernel
theorem dX3_findNext_95 : decode cX3_findNext 95 = .ok (.sipush 128, 3) := by decide +kernel
theorem dX3_findNext_98 : decode cX3_findNext 98 = .ok (.if_icmp .ge 18, 3) := by decide +kernel
theorem dX3_findNext_101 : decode cX3_findNext 101 = .ok (.aload_n 0, 1) := by decide +kernel
theorem dX3_findNext_102 : decode cX3_findNext 102 = .ok (.getfield 22, 3) := by decide +kernel
theorem dX3_findNext_105 : decode cX3_findNext 105 = .ok (.iload_n 1, 1) := by decide +kernel
theorem dX3_findNext_106 : decode cX3_findNext 106 = .ok (.lload_n 2, 1) := by decide +kernel
theorem dX3_findNext_107 : decode cX3_findNext 107 = .ok (.lastore, 1) := by decide +kernel
theorem dX3_findNext_108 : decode cX3_findNext 108 = .ok (.aload_n 0, 1) := by decide +kernel
theorem dX3_findNext_109 : decode cX3_findNext 109 = .ok (.getfield 25, 3) := by decide +kernel
theorem dX3_findNext_112 : decode cX3_findNext 112 = .ok (.iload_n 1, 1) := by decide +kernel
theorem dX3_findNext_113 : decode cX3_findNext 113 = .ok (.iload 4, 2) := by decide +kernel
theorem dX3_findNext_115 : decode cX3_findNext 115 = .ok (.iastore, 1) := by decide +kernel
theorem dX3_findNext_116 : decode cX3_findNext 116 = .ok (.return_, 1) := by decide +kernel
theorem dX3_followNext_0 : decode cX3_followNext 0 = .ok (.iconst 0, 1) := by decide +kernel
theorem dX3_followNext_1 : decode cX3_followNext 1 = .ok (.istore_n 1, 1) := by decide +kernel
theorem dX3_followNext_2 : decode cX3_followNext 2 = .ok (.iconst 0, 1) := by decide +kernel
theorem dX3_followNext_3 : decode cX3_followNext 3 = .ok (.istore_n 2, 1) := by decide +kernel
theorem dX3_followNext_4 : decode cX3_followNext 4 = .ok (.iload_n 2, 1) := by decide +kernel
theorem dX3_followNext_5 : decode cX3_followNext 5 = .ok (.bipush 7, 2) := by decide +kernel
theorem dX3_followNext_7 : decode cX3_followNext 7 = .ok (.if_icmp .ge 73, 3) := by decide +kernel
theorem dX3_followNext_10 : decode cX3_followNext 10 = .ok (.iload_n 1, 1) := by decide +kernel
theorem dX3_followNext_11 : decode cX3_followNext 11 = .ok (.iconst 0, 1) := by decide +kernel
theorem dX3_followNext_12 : decode cX3_followNext 12 = .ok (.bipush 127, 2) := by decide +kernel
theorem dX3_followNext_14 : decode cX3_followNext 14 = .ok (.invokestatic 83, 3) := by decide +kernel
theorem dX3_followNext_17 : decode cX3_followNext 17 = .ok (.ifCond .eq 12, 3) := by decide +kernel
theorem dX3_followNext_20 : decode cX3_followNext 20 = .ok (.aload_n 0, 1) := by decide +kernel
theorem dX3_followNext_21 : decode cX3_followNext 21 = .ok (.getfield 25, 3) := by decide +kernel
theorem dX3_followNext_24 : decode cX3_followNext 24 = .ok (.iload_n 1, 1) := by decide +kernel
theorem dX3_followNext_25 : decode cX3_followNext 25 = .ok (.iaload, 1) := by decide +kernel
theorem dX3_followNext_26 : decode cX3_followNext 26 = .ok (.goto 4, 3) := by decide +kernel
theorem dX3_followNext_29 : decode cX3_followNext 29 = .ok (.iconst (-1), 1) := by decide +kernel
theorem dX3_followNext_30 : decode cX3_followNext 30 = .ok (.istore_n 3, 1) := by decide +kernel
theorem dX3_followNext_31 : decode cX3_followNext 31 = .ok (.iload_n 3, 1) := by decide +kernel
theorem dX3_followNext_32 : decode cX3_followNext 32 = .ok (.ifCond .lt 9, 3) := by decide +kernel
theorem dX3_followNext_35 : decode cX3_followNext 35 = .ok (.iload_n 3, 1) := by decide +kernel
theorem dX3_followNext_36 : decode cX3_followNext 36 = .ok (.bipush 7, 2) := by decide +kernel
theorem dX3_followNext_38 : decode cX3_followNext 38 = .ok (.if_icmp .lt 4, 3) := by decide +kernel
theorem dX3_followNext_41 : decode cX3_followNext 41 = .ok (.return_, 1) := by decide +kernel
theorem dX3_followNext_42 : decode cX3_followNext 42 = .ok (.aload_n 0, 1) := by decide +kernel
theorem dX3_followNext_43 : decode cX3_followNext 43 = .ok (.getfield 28, 3) := by decide +kernel
theorem dX3_followNext_46 : decode cX3_followNext 46 = .ok (.iload_n 2, 1) := by decide +kernel
theorem dX3_followNext_47 : decode cX3_followNext 47 = .ok (.iload_n 3, 1) := by decide +kernel
theorem dX3_followNext_48 : decode cX3_followNext 48 = .ok (.iastore, 1) := by decide +kernel
theorem dX3_followNext_49 : decode cX3_followNext 49 = .ok (.aload_n 0, 1) := by decide +kernel
theorem dX3_followNext_50 : decode cX3_followNext 50 = .ok (.getfield 31, 3) := by decide +kernel
theorem dX3_followNext_53 : decode cX3_followNext 53 = .ok (.iload_n 2, 1) := by decide +kernel
theorem dX3_followNext_54 : decode cX3_followNext 54 = .ok (.aload_n 0, 1) := by decide +kernel
theorem dX3_followNext_55 : decode cX3_followNext 55 = .ok (.iload_n 1, 1) := by decide +kernel
theorem dX3_followNext_56 : decode cX3_followNext 56 = .ok (.iload_n 3, 1) := by decide +kernel
theorem dX3_followNext_57 : decode cX3_followNext 57 = .ok (.invokevirtual 74, 3) := by decide +kernel
theorem dX3_followNext_60 : decode cX3_followNext 60 = .ok (.iastore, 1) := by decide +kernel
theorem dX3_followNext_61 : decode cX3_followNext 61 = .ok (.aload_n 0, 1) := by decide +kernel
theorem dX3_followNext_62 : decode cX3_followNext 62 = .ok (.iload_n 2, 1) := by decide +kernel
theorem dX3_followNext_63 : decode cX3_followNext 63 = .ok (.iconst 1, 1) := by decide +kernel
theorem dX3_followNext_64 : decode cX3_followNext 64 = .ok (.iadd, 1) := by decide +kernel
theorem dX3_followNext_65 : decode cX3_followNext 65 = .ok (.putfield 38, 3) := by decide +kernel
theorem dX3_followNext_68 : decode cX3_followNext 68 = .ok (.iload_n 1, 1) := by decide +kernel
theorem dX3_followNext_69 : decode cX3_followNext 69 = .ok (.iconst 1, 1) := by decide +kernel
theorem dX3_followNext_70 : decode cX3_followNext 70 = .ok (.iload_n 3, 1) := by decide +kernel
theorem dX3_followNext_71 : decode cX3_followNext 71 = .ok (.ishl, 1) := by decide +kernel
theorem dX3_followNext_72 : decode cX3_followNext 72 = .ok (.ior, 1) := by decide +kernel
theorem dX3_followNext_73 : decode cX3_followNext 73 = .ok (.istore_n 1, 1) := by decide +kernel
theorem dX3_followNext_74 : decode cX3_followNext 74 = .ok (.iinc 2 1, 3) := by decide +kernel
theorem dX3_followNext_77 : decode cX3_followNext 77 = .ok (.goto (-73), 3) := by decide +kernel
theorem dX3_followNext_80 : decode cX3_followNext 80 = .ok (.return_, 1) := by decide +kernel
theorem dX3_rowsOf_0 : decode cX3_rowsOf 0 = .ok (.iload_n 1, 1) := by decide +kernel
theorem dX3_rowsOf_1 : decode cX3_rowsOf 1 = .ok (.ifCond .lt 19, 3) := by decide +kernel
theorem dX3_rowsOf_4 : decode cX3_rowsOf 4 = .ok (.iload_n 1, 1) := by decide +kernel
theorem dX3_rowsOf_5 : decode cX3_rowsOf 5 = .ok (.sipush 128, 3) := by decide +kernel
theorem dX3_rowsOf_8 : decode cX3_rowsOf 8 = .ok (.if_icmp .ge 12, 3) := by decide +kernel
theorem dX3_rowsOf_11 : decode cX3_rowsOf 11 = .ok (.aload_n 0, 1) := by decide +kernel
theorem dX3_rowsOf_12 : decode cX3_rowsOf 12 = .ok (.getfield 18, 3) := by decide +kernel
theorem dX3_rowsOf_15 : decode cX3_rowsOf 15 = .ok (.iload_n 1, 1) := by decide +kernel
theorem dX3_rowsOf_16 : decode cX3_rowsOf 16 = .ok (.laload, 1) := by decide +kernel
theorem dX3_rowsOf_17 : decode cX3_rowsOf 17 = .ok (.goto 4, 3) := by decide +kernel
theorem dX3_rowsOf_20 : decode cX3_rowsOf 20 = .ok (.lconst 1, 1) := by decide +kernel
theorem dX3_rowsOf_21 : decode cX3_rowsOf 21 = .ok (.lreturn, 1) := by decide +kernel
theorem dX3_restOf_0 : decode cX3_restOf 0 = .ok (.iload_n 1, 1) := by decide +kernel
theorem dX3_restOf_1 : decode cX3_restOf 1 = .ok (.ifCond .lt 19, 3) := by decide +kernel
theorem dX3_restOf_4 : decode cX3_restOf 4 = .ok (.iload_n 1, 1) := by decide +kernel
theorem dX3_restOf_5 : decode cX3_restOf 5 = .ok (.sipush 128, 3) := by decide +kernel
theorem dX3_restOf_8 : decode cX3_restOf 8 = .ok (.if_icmp .ge 12, 3) := by decide +kernel
theorem dX3_restOf_11 : decode cX3_restOf 11 = .ok (.aload_n 0, 1) := by decide +kernel
theorem dX3_restOf_12 : decode cX3_restOf 12 = .ok (.getfield 22, 3) := by decide +kernel
theorem dX3_restOf_15 : decode cX3_restOf 15 = .ok (.iload_n 1, 1) := by decide +kernel
theorem dX3_restOf_16 : decode cX3_restOf 16 = .ok (.laload, 1) := by decide +kernel
theorem dX3_restOf_17 : decode cX3_restOf 17 = .ok (.goto 4, 3) := by decide +kernel
theorem dX3_restOf_20 : decode cX3_restOf 20 = .ok (.lconst 0, 1) := by decide +kernel
theorem dX3_restOf_21 : decode cX3_restOf 21 = .ok (.lreturn, 1) := by decide +kernel
theorem dX3_sizeOf_0 : decode cX3_sizeOf 0 = .ok (.iload_n 1, 1) := by decide +kernel
theorem dX3_sizeOf_1 : decode cX3_sizeOf 1 = .ok (.ifCond .lt 18, 3) := by decide +kernel
theorem dX3_sizeOf_4 : decode cX3_sizeOf 4 = .ok (.iload_n 1, 1) := by decide +kernel
theorem dX3_sizeOf_5 : decode cX3_sizeOf 5 = .ok (.bipush 7, 2) := by decide +kernel
theorem dX3_sizeOf_7 : decode cX3_sizeOf 7 = .ok (.if_icmp .ge 12, 3) := by decide +kernel
theorem dX3_sizeOf_10 : decode cX3_sizeOf 10 = .ok (.aload_n 0, 1) := by decide +kernel
theorem dX3_sizeOf_11 : decode cX3_sizeOf 11 = .ok (.getfield 9, 3) := by decide +kernel
theorem dX3_sizeOf_14 : decode cX3_sizeOf 14 = .ok (.iload_n 1, 1) := by decide +kernel
theorem dX3_sizeOf_15 : decode cX3_sizeOf 15 = .ok (.iaload, 1) := by decide +kernel
theorem dX3_sizeOf_16 : decode cX3_sizeOf 16 = .ok (.goto 4, 3) := by decide +kernel
theorem dX3_sizeOf_19 : decode cX3_sizeOf 19 = .ok (.iconst 0, 1) := by decide +kernel
theorem dX3_sizeOf_20 : decode cX3_sizeOf 20 = .ok (.ireturn, 1) := by decide +kernel
theorem dX3_tableAt_0 : decode cX3_tableAt 0 = .ok (.iload_n 1, 1) := by decide +kernel
theorem dX3_tableAt_1 : decode cX3_tableAt 1 = .ok (.ifCond .lt 26, 3) := by decide +kernel
theorem dX3_tableAt_4 : decode cX3_tableAt 4 = .ok (.iload_n 1, 1) := by decide +kernel
theorem dX3_tableAt_5 : decode cX3_tableAt 5 = .ok (.aload_n 0, 1) := by decide +kernel
theorem dX3_tableAt_6 : decode cX3_tableAt 6 = .ok (.getfield 38, 3) := by decide +kernel
theorem dX3_tableAt_9 : decode cX3_tableAt 9 = .ok (.if_icmp .ge 18, 3) := by decide +kernel
theorem dX3_tableAt_12 : decode cX3_tableAt 12 = .ok (.iload_n 1, 1) := by decide +kernel
theorem dX3_tableAt_13 : decode cX3_tableAt 13 = .ok (.bipush 7, 2) := by decide +kernel
theorem dX3_tableAt_15 : decode cX3_tableAt 15 = .ok (.if_icmp .ge 12, 3) := by decide +kernel
theorem dX3_tableAt_18 : decode cX3_tableAt 18 = .ok (.aload_n 0, 1) := by decide +kernel
theorem dX3_tableAt_19 : decode cX3_tableAt 19 = .ok (.getfield 28, 3) := by decide +kernel
theorem dX3_tableAt_22 : decode cX3_tableAt 22 = .ok (.iload_n 1, 1) := by decide +kernel
theorem dX3_tableAt_23 : decode cX3_tableAt 23 = .ok (.iaload, 1) := by decide +kernel
theorem dX3_tableAt_24 : decode cX3_tableAt 24 = .ok (.goto 4, 3) := by decide +kernel
theorem dX3_tableAt_27 : decode cX3_tableAt 27 = .ok (.iconst (-1), 1) := by decide +kernel
theorem dX3_tableAt_28 : decode cX3_tableAt 28 = .ok (.ireturn, 1) := by decide +kernel
theorem dX3_wayAt_0 : decode cX3_wayAt 0 = .ok (.iload_n 1, 1) := by decide +kernel
theorem dX3_wayAt_1 : decode cX3_wayAt 1 = .ok (.ifCond .lt 26, 3) := by decide +kernel
theorem dX3_wayAt_4 : decode cX3_wayAt 4 = .ok (.iload_n 1, 1) := by decide +kernel
theorem dX3_wayAt_5 : decode cX3_wayAt 5 = .ok (.aload_n 0, 1) := by decide +kernel
theorem dX3_wayAt_6 : decode cX3_wayAt 6 = .ok (.getfield 38, 3) := by decide +kernel
theorem dX3_wayAt_9 : decode cX3_wayAt 9 = .ok (.if_icmp .ge 18, 3) := by decide +kernel
theorem dX3_wayAt_12 : decode cX3_wayAt 12 = .ok (.iload_n 1, 1) := by decide +kernel
theorem dX3_wayAt_13 : decode cX3_wayAt 13 = .ok (.bipush 7, 2) := by decide +kernel
theorem dX3_wayAt_15 : decode cX3_wayAt 15 = .ok (.if_icmp .ge 12, 3) := by decide +kernel
theorem dX3_wayAt_18 : decode cX3_wayAt 18 = .ok (.aload_n 0, 1) := by decide +kernel
theorem dX3_wayAt_19 : decode cX3_wayAt 19 = .ok (.getfield 31, 3) := by decide +kernel
theorem dX3_wayAt_22 : decode cX3_wayAt 22 = .ok (.iload_n 1, 1) := by decide +kernel
theorem dX3_wayAt_23 : decode cX3_wayAt 23 = .ok (.iaload, 1) := by decide +kernel
theorem dX3_wayAt_24 : decode cX3_wayAt 24 = .ok (.goto 4, 3) := by decide +kernel
theorem dX3_wayAt_27 : decode cX3_wayAt 27 = .ok (.iconst (-1), 1) := by decide +kernel
theorem dX3_wayAt_28 : decode cX3_wayAt 28 = .ok (.ireturn, 1) := by decide +kernel
theorem dX3_leastCost_0 : decode cX3_leastCost 0 = .ok (.aload_n 0, 1) := by decide +kernel
theorem dX3_leastCost_1 : decode cX3_leastCost 1 = .ok (.getfield 22, 3) := by decide +kernel
theorem dX3_leastCost_4 : decode cX3_leastCost 4 = .ok (.iconst 0, 1) := by decide +kernel
theorem dX3_leastCost_5 : decode cX3_leastCost 5 = .ok (.laload, 1) := by decide +kernel
theorem dX3_leastCost_6 : decode cX3_leastCost 6 = .ok (.lreturn, 1) := by decide +kernel
theorem dX3_cheaperWay_0 : decode cX3_cheaperWay 0 = .ok (.aload_n 0, 1) := by decide +kernel
theorem dX3_cheaperWay_1 : decode cX3_cheaperWay 1 = .ok (.iload_n 1, 1) := by decide +kernel
theorem dX3_cheaperWay_2 : decode cX3_cheaperWay 2 = .ok (.invokevirtual 55, 3) := by decide +kernel
theorem dX3_cheaperWay_5 : decode cX3_cheaperWay 5 = .ok (.lstore_n 3, 1) := by decide +kernel
theorem dX3_cheaperWay_6 : decode cX3_cheaperWay 6 = .ok (.aload_n 0, 1) := by decide +kernel
theorem dX3_cheaperWay_7 : decode cX3_cheaperWay 7 = .ok (.iload_n 2, 1) := by decide +kernel
theorem dX3_cheaperWay_8 : decode cX3_cheaperWay 8 = .ok (.invokevirtual 58, 3) := by decide +kernel
theorem dX3_cheaperWay_11 : decode cX3_cheaperWay 11 = .ok (.istore 5, 2) := by decide +kernel
theorem dX3_cheaperWay_13 : decode cX3_cheaperWay 13 = .ok (.lload_n 3, 1) := by decide +kernel
theorem dX3_cheaperWay_14 : decode cX3_cheaperWay 14 = .ok (.iload 5, 2) := by decide +kernel
theorem dX3_cheaperWay_16 : decode cX3_cheaperWay 16 = .ok (.i2l, 1) := by decide +kernel
theorem dX3_cheaperWay_17 : decode cX3_cheaperWay 17 = .ok (.lmul, 1) := by decide +kernel
theorem dX3_cheaperWay_18 : decode cX3_cheaperWay 18 = .ok (.ldc2_w 87, 3) := by decide +kernel
theorem dX3_cheaperWay_21 : decode cX3_cheaperWay 21 = .ok (.lload_n 3, 1) := by decide +kernel
theorem dX3_cheaperWay_22 : decode cX3_cheaperWay 22 = .ok (.iload 5, 2) := by decide +kernel
theorem dX3_cheaperWay_24 : decode cX3_cheaperWay 24 = .ok (.i2l, 1) := by decide +kernel
theorem dX3_cheaperWay_25 : decode cX3_cheaperWay 25 = .ok (.ladd, 1) := by decide +kernel
theorem dX3_cheaperWay_26 : decode cX3_cheaperWay 26 = .ok (.lmul, 1) := by decide +kernel
theorem dX3_cheaperWay_27 : decode cX3_cheaperWay 27 = .ok (.lcmp, 1) := by decide +kernel
theorem dX3_cheaperWay_28 : decode cX3_cheaperWay 28 = .ok (.ifCond .gt 7, 3) := by decide +kernel
theorem dX3_cheaperWay_31 : decode cX3_cheaperWay 31 = .ok (.iconst 0, 1) := by decide +kernel
theorem dX3_cheaperWay_32 : decode cX3_cheaperWay 32 = .ok (.goto 4, 3) := by decide +kernel
theorem dX3_cheaperWay_35 : decode cX3_cheaperWay 35 = .ok (.iconst 1, 1) := by decide +kernel
theorem dX3_cheaperWay_36 : decode cX3_cheaperWay 36 = .ok (.ireturn, 1) := by decide +kernel
theorem dX3_stepCost_0 : decode cX3_stepCost 0 = .ok (.iload_n 1, 1) := by decide +kernel
theorem dX3_stepCost_1 : decode cX3_stepCost 1 = .ok (.ifCond .ne 5, 3) := by decide +kernel
theorem dX3_stepCost_4 : decode cX3_stepCost 4 = .ok (.lconst 0, 1) := by decide +kernel
theorem dX3_stepCost_5 : decode cX3_stepCost 5 = .ok (.lreturn, 1) := by decide +kernel
theorem dX3_stepCost_6 : decode cX3_stepCost 6 = .ok (.aload_n 0, 1) := by decide +kernel
theorem dX3_stepCost_7 : decode cX3_stepCost 7 = .ok (.iload_n 1, 1) := by decide +kernel
theorem dX3_stepCost_8 : decode cX3_stepCost 8 = .ok (.invokevirtual 55, 3) := by decide +kernel
theorem dX3_stepCost_11 : decode cX3_stepCost 11 = .ok (.lstore 4, 2) := by decide +kernel
theorem dX3_stepCost_13 : decode cX3_stepCost 13 = .ok (.aload_n 0, 1) := by decide +kernel
theorem dX3_stepCost_14 : decode cX3_stepCost 14 = .ok (.iload_n 2, 1) := by decide +kernel
theorem dX3_stepCost_15 : decode cX3_stepCost 15 = .ok (.invokevirtual 58, 3) := by decide +kernel
theorem dX3_stepCost_18 : decode cX3_stepCost 18 = .ok (.istore 6, 2) := by decide +kernel
theorem dX3_stepCost_20 : decode cX3_stepCost 20 = .ok (.iload_n 3, 1) := by decide +kernel
theorem dX3_stepCost_21 : decode cX3_stepCost 21 = .ok (.ifCond .ne 12, 3) := by decide +kernel
theorem dX3_stepCost_24 : decode cX3_stepCost 24 = .ok (.lload 4, 2) := by decide +kernel
theorem dX3_stepCost_26 : decode cX3_stepCost 26 = .ok (.iload 6, 2) := by decide +kernel
theorem dX3_stepCost_28 : decode cX3_stepCost 28 = .ok (.i2l, 1) := by decide +kernel
theorem dX3_stepCost_29 : decode cX3_stepCost 29 = .ok (.lmul, 1) := by decide +kernel
theorem dX3_stepCost_30 : decode cX3_stepCost 30 = .ok (.goto 13, 3) := by decide +kernel
theorem dX3_stepCost_33 : decode cX3_stepCost 33 = .ok (.ldc2_w 87, 3) := by decide +kernel
theorem dX3_stepCost_36 : decode cX3_stepCost 36 = .ok (.lload 4, 2) := by decide +kernel
theorem dX3_stepCost_38 : decode cX3_stepCost 38 = .ok (.iload 6, 2) := by decide +kernel
theorem dX3_stepCost_40 : decode cX3_stepCost 40 = .ok (.i2l, 1) := by decide +kernel
theorem dX3_stepCost_41 : decode cX3_stepCost 41 = .ok (.ladd, 1) := by decide +kernel
theorem dX3_stepCost_42 : decode cX3_stepCost 42 = .ok (.lmul, 1) := by decide +kernel
theorem dX3_stepCost_43 : decode cX3_stepCost 43 = .ok (.lstore 7, 2) := by decide +kernel
theorem dX3_stepCost_45 : decode cX3_stepCost 45 = .ok (.lload 7, 2) := by decide +kernel
theorem dX3_stepCost_47 : decode cX3_stepCost 47 = .ok (.aload_n 0, 1) := by decide +kernel
theorem dX3_stepCost_48 : decode cX3_stepCost 48 = .ok (.iload_n 1, 1) := by decide +kernel
theorem dX3_stepCost_49 : decode cX3_stepCost 49 = .ok (.iconst 1, 1) := by decide +kernel
theorem dX3_stepCost_50 : decode cX3_stepCost 50 = .ok (.iload_n 2, 1) := by decide +kernel
theorem dX3_stepCost_51 : decode cX3_stepCost 51 = .ok (.ishl, 1) := by decide +kernel
theorem dX3_stepCost_52 : decode cX3_stepCost 52 = .ok (.ior, 1) := by decide +kernel
theorem dX3_stepCost_53 : decode cX3_stepCost 53 = .ok (.invokevirtual 55, 3) := by decide +kernel
theorem dX3_stepCost_56 : decode cX3_stepCost 56 = .ok (.ladd, 1) := by decide +kernel
theorem dX3_stepCost_57 : decode cX3_stepCost 57 = .ok (.lstore 7, 2) := by decide +kernel
theorem dX3_stepCost_59 : decode cX3_stepCost 59 = .ok (.lload 7, 2) := by decide +kernel
theorem dX3_stepCost_61 : decode cX3_stepCost 61 = .ok (.ldc2_w 89, 3) := by decide +kernel
theorem dX3_stepCost_64 : decode cX3_stepCost 64 = .ok (.lcmp, 1) := by decide +kernel
theorem dX3_stepCost_65 : decode cX3_stepCost 65 = .ok (.ifCond .le 9, 3) := by decide +kernel
theorem dX3_stepCost_68 : decode cX3_stepCost 68 = .ok (.ldc2_w 89, 3) := by decide +kernel
theorem dX3_stepCost_71 : decode cX3_stepCost 71 = .ok (.goto 5, 3) := by decide +kernel
theorem dX3_stepCost_74 : decode cX3_stepCost 74 = .ok (.lload 7, 2) := by decide +kernel
theorem dX3_stepCost_76 : decode cX3_stepCost 76 = .ok (.lreturn, 1) := by decide +kernel
theorem dX3_costAsPlannedBy_0 : decode cX3_costAsPlannedBy 0 = .ok (.lconst 0, 1) := by decide +kernel
theorem dX3_costAsPlannedBy_1 : decode cX3_costAsPlannedBy 1 = .ok (.lstore_n 2, 1) := by decide +kernel
theorem dX3_costAsPlannedBy_2 : decode cX3_costAsPlannedBy 2 = .ok (.iconst 0, 1) := by decide +kernel
theorem dX3_costAsPlannedBy_3 : decode cX3_costAsPlannedBy 3 = .ok (.istore 4, 2) := by decide +kernel
theorem dX3_costAsPlannedBy_5 : decode cX3_costAsPlannedBy 5 = .ok (.iconst 0, 1) := by decide +kernel
theorem dX3_costAsPlannedBy_6 : decode cX3_costAsPlannedBy 6 = .ok (.istore 5, 2) := by decide +kernel
theorem dX3_costAsPlannedBy_8 : decode cX3_costAsPlannedBy 8 = .ok (.iload 5, 2) := by decide +kernel
theorem dX3_costAsPlannedBy_10 : decode cX3_costAsPlannedBy 10 = .ok (.bipush 7, 2) := by decide +kernel
theorem dX3_costAsPlannedBy_12 : decode cX3_costAsPlannedBy 12 = .ok (.if_icmp .ge 52, 3) := by decide +kernel
theorem dX3_costAsPlannedBy_15 : decode cX3_costAsPlannedBy 15 = .ok (.iload 5, 2) := by decide +kernel
theorem dX3_costAsPlannedBy_17 : decode cX3_costAsPlannedBy 17 = .ok (.aload_n 1, 1) := by decide +kernel
theorem dX3_costAsPlannedBy_18 : decode cX3_costAsPlannedBy 18 = .ok (.getfield 38, 3) := by decide +kernel
theorem dX3_costAsPlannedBy_21 : decode cX3_costAsPlannedBy 21 = .ok (.if_icmp .ge 43, 3) := by decide +kernel
theorem dX3_costAsPlannedBy_24 : decode cX3_costAsPlannedBy 24 = .ok (.aload_n 1, 1) := by decide +kernel
theorem dX3_costAsPlannedBy_25 : decode cX3_costAsPlannedBy 25 = .ok (.iload 5, 2) := by decide +kernel
theorem dX3_costAsPlannedBy_27 : decode cX3_costAsPlannedBy 27 = .ok (.invokevirtual 91, 3) := by decide +kernel
theorem dX3_costAsPlannedBy_30 : decode cX3_costAsPlannedBy 30 = .ok (.istore 6, 2) := by decide +kernel
theorem dX3_costAsPlannedBy_32 : decode cX3_costAsPlannedBy 32 = .ok (.lload_n 2, 1) := by decide +kernel
theorem dX3_costAsPlannedBy_33 : decode cX3_costAsPlannedBy 33 = .ok (.aload_n 0, 1) := by decide +kernel
theorem dX3_costAsPlannedBy_34 : decode cX3_costAsPlannedBy 34 = .ok (.iload 4, 2) := by decide +kernel
theorem dX3_costAsPlannedBy_36 : decode cX3_costAsPlannedBy 36 = .ok (.iload 6, 2) := by decide +kernel
theorem dX3_costAsPlannedBy_38 : decode cX3_costAsPlannedBy 38 = .ok (.aload_n 1, 1) := by decide +kernel
theorem dX3_costAsPlannedBy_39 : decode cX3_costAsPlannedBy 39 = .ok (.iload 5, 2) := by decide +kernel
theorem dX3_costAsPlannedBy_41 : decode cX3_costAsPlannedBy 41 = .ok (.invokevirtual 93, 3) := by decide +kernel
theorem dX3_costAsPlannedBy_44 : decode cX3_costAsPlannedBy 44 = .ok (.invokevirtual 77, 3) := by decide +kernel
theorem dX3_costAsPlannedBy_47 : decode cX3_costAsPlannedBy 47 = .ok (.ladd, 1) := by decide +kernel
theorem dX3_costAsPlannedBy_48 : decode cX3_costAsPlannedBy 48 = .ok (.lstore_n 2, 1) := by decide +kernel
theorem dX3_costAsPlannedBy_49 : decode cX3_costAsPlannedBy 49 = .ok (.iload 4, 2) := by decide +kernel
theorem dX3_costAsPlannedBy_51 : decode cX3_costAsPlannedBy 51 = .ok (.iconst 1, 1) := by decide +kernel
theorem dX3_costAsPlannedBy_52 : decode cX3_costAsPlannedBy 52 = .ok (.iload 6, 2) := by decide +kernel
theorem dX3_costAsPlannedBy_54 : decode cX3_costAsPlannedBy 54 = .ok (.ishl, 1) := by decide +kernel
theorem dX3_costAsPlannedBy_55 : decode cX3_costAsPlannedBy 55 = .ok (.ior, 1) := by decide +kernel
theorem dX3_costAsPlannedBy_56 : decode cX3_costAsPlannedBy 56 = .ok (.istore 4, 2) := by decide +kernel
theorem dX3_costAsPlannedBy_58 : decode cX3_costAsPlannedBy 58 = .ok (.iinc 5 1, 3) := by decide +kernel
theorem dX3_costAsPlannedBy_61 : decode cX3_costAsPlannedBy 61 = .ok (.goto (-53), 3) := by decide +kernel
theorem dX3_costAsPlannedBy_64 : decode cX3_costAsPlannedBy 64 = .ok (.lload_n 2, 1) := by decide +kernel
theorem dX3_costAsPlannedBy_65 : decode cX3_costAsPlannedBy 65 = .ok (.lreturn, 1) := by decide +kernel
theorem dX3_costOfRead_0 : decode cX3_costOfRead 0 = .ok (.lconst 0, 1) := by decide +kernel
theorem dX3_costOfRead_1 : decode cX3_costOfRead 1 = .ok (.lstore_n 2, 1) := by decide +kernel
theorem dX3_costOfRead_2 : decode cX3_costOfRead 2 = .ok (.iconst 0, 1) := by decide +kernel
theorem dX3_costOfRead_3 : decode cX3_costOfRead 3 = .ok (.istore 4, 2) := by decide +kernel
theorem dX3_costOfRead_5 : decode cX3_costOfRead 5 = .ok (.iconst 0, 1) := by decide +kernel
theorem dX3_costOfRead_6 : decode cX3_costOfRead 6 = .ok (.istore 5, 2) := by decide +kernel
theorem dX3_costOfRead_8 : decode cX3_costOfRead 8 = .ok (.iload 5, 2) := by decide +kernel
theorem dX3_costOfRead_10 : decode cX3_costOfRead 10 = .ok (.bipush 7, 2) := by decide +kernel
theorem dX3_costOfRead_12 : decode cX3_costOfRead 12 = .ok (.if_icmp .ge 54, 3) := by decide +kernel
theorem dX3_costOfRead_15 : decode cX3_costOfRead 15 = .ok (.iload 5, 2) := by decide +kernel
theorem dX3_costOfRead_17 : decode cX3_costOfRead 17 = .ok (.aload_n 1, 1) := by decide +kernel
theorem dX3_costOfRead_18 : decode cX3_costOfRead 18 = .ok (.getfield 95, 3) := by decide +kernel
theorem dX3_costOfRead_21 : decode cX3_costOfRead 21 = .ok (.if_icmp .ge 45, 3) := by decide +kernel
theorem dX3_costOfRead_24 : decode cX3_costOfRead 24 = .ok (.aload_n 1, 1) := by decide +kernel
theorem dX3_costOfRead_25 : decode cX3_costOfRead 25 = .ok (.iload 5, 2) := by decide +kernel
theorem dX3_costOfRead_27 : decode cX3_costOfRead 27 = .ok (.invokevirtual 98, 3) := by decide +kernel
theorem dX3_costOfRead_30 : decode cX3_costOfRead 30 = .ok (.istore 6, 2) := by decide +kernel
theorem dX3_costOfRead_32 : decode cX3_costOfRead 32 = .ok (.lload_n 2, 1) := by decide +kernel
theorem dX3_costOfRead_33 : decode cX3_costOfRead 33 = .ok (.aload_n 0, 1) := by decide +kernel
theorem dX3_costOfRead_34 : decode cX3_costOfRead 34 = .ok (.iload 4, 2) := by decide +kernel
theorem dX3_costOfRead_36 : decode cX3_costOfRead 36 = .ok (.iload 6, 2) := by decide +kernel
theorem dX3_costOfRead_38 : decode cX3_costOfRead 38 = .ok (.aload_n 0, 1) := by decide +kernel
theorem dX3_costOfRead_39 : decode cX3_costOfRead 39 = .ok (.iload 4, 2) := by decide +kernel
theorem dX3_costOfRead_41 : decode cX3_costOfRead 41 = .ok (.iload 6, 2) := by decide +kernel
theorem dX3_costOfRead_43 : decode cX3_costOfRead 43 = .ok (.invokevirtual 74, 3) := by decide +kernel
theorem dX3_costOfRead_46 : decode cX3_costOfRead 46 = .ok (.invokevirtual 77, 3) := by decide +kernel
theorem dX3_costOfRead_49 : decode cX3_costOfRead 49 = .ok (.ladd, 1) := by decide +kernel
theorem dX3_costOfRead_50 : decode cX3_costOfRead 50 = .ok (.lstore_n 2, 1) := by decide +kernel
theorem dX3_costOfRead_51 : decode cX3_costOfRead 51 = .ok (.iload 4, 2) := by decide +kernel
theorem dX3_costOfRead_53 : decode cX3_costOfRead 53 = .ok (.iconst 1, 1) := by decide +kernel
theorem dX3_costOfRead_54 : decode cX3_costOfRead 54 = .ok (.iload 6, 2) := by decide +kernel
theorem dX3_costOfRead_56 : decode cX3_costOfRead 56 = .ok (.ishl, 1) := by decide +kernel
theorem dX3_costOfRead_57 : decode cX3_costOfRead 57 = .ok (.ior, 1) := by decide +kernel
theorem dX3_costOfRead_58 : decode cX3_costOfRead 58 = .ok (.istore 4, 2) := by decide +kernel
theorem dX3_costOfRead_60 : decode cX3_costOfRead 60 = .ok (.iinc 5 1, 3) := by decide +kernel
theorem dX3_costOfRead_63 : decode cX3_costOfRead 63 = .ok (.goto (-55), 3) := by decide +kernel
theorem dX3_costOfRead_66 : decode cX3_costOfRead 66 = .ok (.lload_n 2, 1) := by decide +kernel
theorem dX3_costOfRead_67 : decode cX3_costOfRead 67 = .ok (.lreturn, 1) := by decide +kernel
theorem dX3_hasOrderOf_0 : decode cX3_hasOrderOf 0 = .ok (.iconst 0, 1) := by decide +kernel
theorem dX3_hasOrderOf_1 : decode cX3_hasOrderOf 1 = .ok (.istore_n 2, 1) := by decide +kernel
theorem dX3_hasOrderOf_2 : decode cX3_hasOrderOf 2 = .ok (.iload_n 2, 1) := by decide +kernel
theorem dX3_hasOrderOf_3 : decode cX3_hasOrderOf 3 = .ok (.bipush 7, 2) := by decide +kernel
theorem dX3_hasOrderOf_5 : decode cX3_hasOrderOf 5 = .ok (.if_icmp .ge 24, 3) := by decide +kernel
theorem dX3_hasOrderOf_8 : decode cX3_hasOrderOf 8 = .ok (.aload_n 0, 1) := by decide +kernel
theorem dX3_hasOrderOf_9 : decode cX3_hasOrderOf 9 = .ok (.iload_n 2, 1) := by decide +kernel
theorem dX3_hasOrderOf_10 : decode cX3_hasOrderOf 10 = .ok (.invokevirtual 91, 3) := by decide +kernel
theorem dX3_hasOrderOf_13 : decode cX3_hasOrderOf 13 = .ok (.aload_n 1, 1) := by decide +kernel
theorem dX3_hasOrderOf_14 : decode cX3_hasOrderOf 14 = .ok (.iload_n 2, 1) := by decide +kernel
theorem dX3_hasOrderOf_15 : decode cX3_hasOrderOf 15 = .ok (.invokevirtual 91, 3) := by decide +kernel
theorem dX3_hasOrderOf_18 : decode cX3_hasOrderOf 18 = .ok (.if_icmp .eq 5, 3) := by decide +kernel
theorem dX3_hasOrderOf_21 : decode cX3_hasOrderOf 21 = .ok (.iconst 0, 1) := by decide +kernel
theorem dX3_hasOrderOf_22 : decode cX3_hasOrderOf 22 = .ok (.ireturn, 1) := by decide +kernel
theorem dX3_hasOrderOf_23 : decode cX3_hasOrderOf 23 = .ok (.iinc 2 1, 3) := by decide +kernel
theorem dX3_hasOrderOf_26 : decode cX3_hasOrderOf 26 = .ok (.goto (-24), 3) := by decide +kernel
theorem dX3_hasOrderOf_29 : decode cX3_hasOrderOf 29 = .ok (.iconst 1, 1) := by decide +kernel
theorem dX3_hasOrderOf_30 : decode cX3_hasOrderOf 30 = .ok (.ireturn, 1) := by decide +kernel
theorem dX4_init_0 : decode cX4_init 0 = .ok (.aload_n 0, 1) := by decide +kernel
theorem dX4_init_1 : decode cX4_init 1 = .ok (.invokespecial 1, 3) := by decide +kernel
theorem dX4_init_4 : decode cX4_init 4 = .ok (.return_, 1) := by decide +kernel
theorem dX5_init_0 : decode cX5_init 0 = .ok (.aload_n 0, 1) := by decide +kernel
theorem dX5_init_1 : decode cX5_init 1 = .ok (.invokespecial 3, 3) := by decide +kernel
theorem dX5_init_4 : decode cX5_init 4 = .ok (.aload_n 0, 1) := by decide +kernel
theorem dX5_init_5 : decode cX5_init 5 = .ok (.iconst 2, 1) := by decide +kernel
theorem dX5_init_6 : decode cX5_init 6 = .ok (.anewarray 9, 3) := by decide +kernel
theorem dX5_init_9 : decode cX5_init 9 = .ok (.putfield 11, 3) := by decide +kernel
theorem dX5_init_12 : decode cX5_init 12 = .ok (.aload_n 0, 1) := by decide +kernel
theorem dX5_init_13 : decode cX5_init 13 = .ok (.iconst 2, 1) := by decide +kernel
theorem dX5_init_14 : decode cX5_init 14 = .ok (.newarray .boolean, 2) := by decide +kernel
theorem dX5_init_16 : decode cX5_init 16 = .ok (.putfield 17, 3) := by decide +kernel
theorem dX5_init_19 : decode cX5_init 19 = .ok (.iconst 0, 1) := by decide +kernel
theorem dX5_init_20 : decode cX5_init 20 = .ok (.istore_n 1, 1) := by decide +kernel
theorem dX5_init_21 : decode cX5_init 21 = .ok (.iload_n 1, 1) := by decide +kernel
theorem dX5_init_22 : decode cX5_init 22 = .ok (.iconst 2, 1) := by decide +kernel
theorem dX5_init_23 : decode cX5_init 23 = .ok (.if_icmp .ge 22, 3) := by decide +kernel
theorem dX5_init_26 : decode cX5_init 26 = .ok (.aload_n 0, 1) := by decide +kernel
theorem dX5_init_27 : decode cX5_init 27 = .ok (.getfield 11, 3) := by decide +kernel
theorem dX5_init_30 : decode cX5_init 30 = .ok (.iload_n 1, 1) := by decide +kernel
theorem dX5_init_31 : decode cX5_init 31 = .ok (.new 9, 3) := by decide +kernel
theorem dX5_init_34 : decode cX5_init 34 = .ok (.dup, 1) := by decide +kernel
theorem dX5_init_35 : decode cX5_init 35 = .ok (.invokespecial 21, 3) := by decide +kernel
theorem dX5_init_38 : decode cX5_init 38 = .ok (.aastore, 1) := by decide +kernel
theorem dX5_init_39 : decode cX5_init 39 = .ok (.iinc 1 1, 3) := by decide +kernel
theorem dX5_init_42 : decode cX5_init 42 = .ok (.goto (-21), 3) := by decide +kernel
theorem dX5_init_45 : decode cX5_init 45 = .ok (.return_, 1) := by decide +kernel
theorem dX5_emptyAll_0 : decode cX5_emptyAll 0 = .ok (.iconst 0, 1) := by decide +kernel
theorem dX5_emptyAll_1 : decode cX5_emptyAll 1 = .ok (.istore_n 1, 1) := by decide +kernel
theorem dX5_emptyAll_2 : decode cX5_emptyAll 2 = .ok (.iload_n 1, 1) := by decide +kernel
theorem dX5_emptyAll_3 : decode cX5_emptyAll 3 = .ok (.iconst 2, 1) := by decide +kernel
theorem dX5_emptyAll_4 : decode cX5_emptyAll 4 = .ok (.if_icmp .ge 16, 3) := by decide +kernel
theorem dX5_emptyAll_7 : decode cX5_emptyAll 7 = .ok (.aload_n 0, 1) := by decide +kernel
theorem dX5_emptyAll_8 : decode cX5_emptyAll 8 = .ok (.getfield 17, 3) := by decide +kernel
theorem dX5_emptyAll_11 : decode cX5_emptyAll 11 = .ok (.iload_n 1, 1) := by decide +kernel
theorem dX5_emptyAll_12 : decode cX5_emptyAll 12 = .ok (.iconst 0, 1) := by decide +kernel
theorem dX5_emptyAll_13 : decode cX5_emptyAll 13 = .ok (.bastore, 1) := by decide +kernel
theorem dX5_emptyAll_14 : decode cX5_emptyAll 14 = .ok (.iinc 1 1, 3) := by decide +kernel
theorem dX5_emptyAll_17 : decode cX5_emptyAll 17 = .ok (.goto (-15), 3) := by decide +kernel
theorem dX5_emptyAll_20 : decode cX5_emptyAll 20 = .ok (.return_, 1) := by decide +kernel
theorem dX5_isFilled_0 : decode cX5_isFilled 0 = .ok (.iload_n 1, 1) := by decide +kernel
theorem dX5_isFilled_1 : decode cX5_isFilled 1 = .ok (.iconst 0, 1) := by decide +kernel
theorem dX5_isFilled_2 : decode cX5_isFilled 2 = .ok (.iconst 1, 1) := by decide +kernel
theorem dX5_isFilled_3 : decode cX5_isFilled 3 = .ok (.invokestatic 22, 3) := by decide +kernel
theorem dX5_isFilled_6 : decode cX5_isFilled 6 = .ok (.ifCond .eq 16, 3) := by decide +kernel
theorem dX5_isFilled_9 : decode cX5_isFilled 9 = .ok (.aload_n 0, 1) := by decide +kernel
theorem dX5_isFilled_10 : decode cX5_isFilled 10 = .ok (.getfield 17, 3) := by decide +kernel
theorem dX5_isFilled_13 : decode cX5_isFilled 13 = .ok (.iload_n 1, 1) := by decide +kernel
theorem dX5_isFilled_14 : decode cX5_isFilled 14 = .ok (.baload, 1) := by decide +kernel
theorem dX5_isFilled_15 : decode cX5_isFilled 15 = .ok (.ifCond .eq 7, 3) := by decide +kernel
theorem dX5_isFilled_18 : decode cX5_isFilled 18 = .ok (.iconst 1, 1) := by decide +kernel
theorem dX5_isFilled_19 : decode cX5_isFilled 19 = .ok (.goto 4, 3) := by decide +kernel
theorem dX5_isFilled_22 : decode cX5_isFilled 22 = .ok (.iconst 0, 1) := by decide +kernel
theorem dX5_isFilled_23 : decode cX5_isFilled 23 = .ok (.ireturn, 1) := by decide +kernel
theorem dX5_put_0 : decode cX5_put 0 = .ok (.iload_n 1, 1) := by decide +kernel
theorem dX5_put_1 : decode cX5_put 1 = .ok (.iconst 0, 1) := by decide +kernel
theorem dX5_put_2 : decode cX5_put 2 = .ok (.iconst 1, 1) := by decide +kernel
theorem dX5_put_3 : decode cX5_put 3 = .ok (.invokestatic 22, 3) := by decide +kernel
theorem dX5_put_6 : decode cX5_put 6 = .ok (.ifCond .eq 12, 3) := by decide +kernel
theorem dX5_put_9 : decode cX5_put 9 = .ok (.aload_n 0, 1) := by decide +kernel
theorem dX5_put_10 : decode cX5_put 10 = .ok (.getfield 11, 3) := by decide +kernel
theorem dX5_put_13 : decode cX5_put 13 = .ok (.iload_n 1, 1) := by decide +kernel
theorem dX5_put_14 : decode cX5_put 14 = .ok (.aaload, 1) := by decide +kernel
theorem dX5_put_15 : decode cX5_put 15 = .ok (.goto 4, 3) := by decide +kernel
theorem dX5_put_18 : decode cX5_put 18 = .ok (.aconst_null, 1) := by decide +kernel
theorem dX5_put_19 : decode cX5_put 19 = .ok (.astore_n 3, 1) := by decide +kernel
theorem dX5_put_20 : decode cX5_put 20 = .ok (.aload_n 3, 1) := by decide +kernel
theorem dX5_put_21 : decode cX5_put 21 = .ok (.ifnull 15, 3) := by decide +kernel
theorem dX5_put_24 : decode cX5_put 24 = .ok (.aload_n 3, 1) := by decide +kernel
theorem dX5_put_25 : decode cX5_put 25 = .ok (.aload_n 2, 1) := by decide +kernel
theorem dX5_put_26 : decode cX5_put 26 = .ok (.invokevirtual 26, 3) := by decide +kernel
theorem dX5_put_29 : decode cX5_put 29 = .ok (.aload_n 0, 1) := by decide +kernel
theorem dX5_put_30 : decode cX5_put 30 = .ok (.getfield 17, 3) := by decide +kernel
theorem dX5_put_33 : decode cX5_put 33 = .ok (.iload_n 1, 1) := by decide +kernel
theorem dX5_put_34 : decode cX5_put 34 = .ok (.iconst 1, 1) := by decide +kernel
theorem dX5_put_35 : decode cX5_put 35 = .ok (.bastore, 1) := by decide +kernel
theorem dX5_put_36 : decode cX5_put 36 = .ok (.return_, 1) := by decide +kernel
theorem dX5_takeOut_0 : decode cX5_takeOut 0 = .ok (.aload_n 0, 1) := by decide +kernel
theorem dX5_takeOut_1 : decode cX5_takeOut 1 = .ok (.iload_n 1, 1) := by decide +kernel
theorem dX5_takeOut_2 : decode cX5_takeOut 2 = .ok (.invokevirtual 30, 3) := by decide +kernel
theorem dX5_takeOut_5 : decode cX5_takeOut 5 = .ok (.ifCond .eq 12, 3) := by decide +kernel
theorem dX5_takeOut_8 : decode cX5_takeOut 8 = .ok (.aload_n 0, 1) := by decide +kernel
theorem dX5_takeOut_9 : decode cX5_takeOut 9 = .ok (.getfield 11, 3) := by decide +kernel
theorem dX5_takeOut_12 : decode cX5_takeOut 12 = .ok (.iload_n 1, 1) := by decide +kernel
theorem dX5_takeOut_13 : decode cX5_takeOut 13 = .ok (.aaload, 1) := by decide +kernel
theorem dX5_takeOut_14 : decode cX5_takeOut 14 = .ok (.goto 4, 3) := by decide +kernel
theorem dX5_takeOut_17 : decode cX5_takeOut 17 = .ok (.aconst_null, 1) := by decide +kernel
theorem dX5_takeOut_18 : decode cX5_takeOut 18 = .ok (.astore_n 3, 1) := by decide +kernel
theorem dX5_takeOut_19 : decode cX5_takeOut 19 = .ok (.aload_n 3, 1) := by decide +kernel
theorem dX5_takeOut_20 : decode cX5_takeOut 20 = .ok (.ifnull 8, 3) := by decide +kernel
theorem dX5_takeOut_23 : decode cX5_takeOut 23 = .ok (.aload_n 2, 1) := by decide +kernel
theorem dX5_takeOut_24 : decode cX5_takeOut 24 = .ok (.aload_n 3, 1) := by decide +kernel
theorem dX5_takeOut_25 : decode cX5_takeOut 25 = .ok (.invokevirtual 26, 3) := by decide +kernel
theorem dX5_takeOut_28 : decode cX5_takeOut 28 = .ok (.return_, 1) := by decide +kernel
theorem dX6_init_0 : decode cX6_init 0 = .ok (.aload_n 0, 1) := by decide +kernel
theorem dX6_init_1 : decode cX6_init 1 = .ok (.invokespecial 3, 3) := by decide +kernel
theorem dX6_init_4 : decode cX6_init 4 = .ok (.aload_n 0, 1) := by decide +kernel
theorem dX6_init_5 : decode cX6_init 5 = .ok (.bipush 100, 2) := by decide +kernel
theorem dX6_init_7 : decode cX6_init 7 = .ok (.newarray .char, 2) := by decide +kernel
theorem dX6_init_9 : decode cX6_init 9 = .ok (.putfield 9, 3) := by decide +kernel
theorem dX6_init_12 : decode cX6_init 12 = .ok (.return_, 1) := by decide +kernel
theorem dX6_isFull_0 : decode cX6_isFull 0 = .ok (.aload_n 0, 1) := by decide +kernel
theorem dX6_isFull_1 : decode cX6_isFull 1 = .ok (.getfield 15, 3) := by decide +kernel
theorem dX6_isFull_4 : decode cX6_isFull 4 = .ok (.bipush 100, 2) := by decide +kernel
theorem dX6_isFull_6 : decode cX6_isFull 6 = .ok (.if_icmp .lt 7, 3) := by decide +kernel
theorem dX6_isFull_9 : decode cX6_isFull 9 = .ok (.iconst 1, 1) := by decide +kernel
theorem dX6_isFull_10 : decode cX6_isFull 10 = .ok (.goto 4, 3) := by decide +kernel
theorem dX6_isFull_13 : decode cX6_isFull 13 = .ok (.iconst 0, 1) := by decide +kernel
theorem dX6_isFull_14 : decode cX6_isFull 14 = .ok (.ireturn, 1) := by decide +kernel
theorem dX6_put_0 : decode cX6_put 0 = .ok (.aload_n 0, 1) := by decide +kernel
theorem dX6_put_1 : decode cX6_put 1 = .ok (.getfield 15, 3) := by decide +kernel
theorem dX6_put_4 : decode cX6_put 4 = .ok (.iconst 0, 1) := by decide +kernel
theorem dX6_put_5 : decode cX6_put 5 = .ok (.bipush 99, 2) := by decide +kernel
theorem dX6_put_7 : decode cX6_put 7 = .ok (.invokestatic 19, 3) := by decide +kernel
theorem dX6_put_10 : decode cX6_put 10 = .ok (.ifCond .eq 23, 3) := by decide +kernel
theorem dX6_put_13 : decode cX6_put 13 = .ok (.aload_n 0, 1) := by decide +kernel
theorem dX6_put_14 : decode cX6_put 14 = .ok (.getfield 9, 3) := by decide +kernel
theorem dX6_put_17 : decode cX6_put 17 = .ok (.aload_n 0, 1) := by decide +kernel
theorem dX6_put_18 : decode cX6_put 18 = .ok (.getfield 15, 3) := by decide +kernel
theorem dX6_put_21 : decode cX6_put 21 = .ok (.iload_n 1, 1) := by decide +kernel
theorem dX6_put_22 : decode cX6_put 22 = .ok (.castore, 1) := by decide +kernel
theorem dX6_put_23 : decode cX6_put 23 = .ok (.aload_n 0, 1) := by decide +kernel
theorem dX6_put_24 : decode cX6_put 24 = .ok (.dup, 1) := by decide +kernel
theorem dX6_put_25 : decode cX6_put 25 = .ok (.getfield 15, 3) := by decide +kernel
theorem dX6_put_28 : decode cX6_put 28 = .ok (.iconst 1, 1) := by decide +kernel
theorem dX6_put_29 : decode cX6_put 29 = .ok (.iadd, 1) := by decide +kernel
theorem dX6_put_30 : decode cX6_put 30 = .ok (.putfield 15, 3) := by decide +kernel
theorem dX6_put_33 : decode cX6_put 33 = .ok (.aload_n 0, 1) := by decide +kernel
theorem dX6_put_34 : decode cX6_put 34 = .ok (.getfield 15, 3) := by decide +kernel
theorem dX6_put_37 : decode cX6_put 37 = .ok (.ireturn, 1) := by decide +kernel
theorem dX6_empty_0 : decode cX6_empty 0 = .ok (.aload_n 0, 1) := by decide +kernel
theorem dX6_empty_1 : decode cX6_empty 1 = .ok (.getfield 15, 3) := by decide +kernel
theorem dX6_empty_4 : decode cX6_empty 4 = .ok (.istore_n 1, 1) := by decide +kernel
theorem dX6_empty_5 : decode cX6_empty 5 = .ok (.aload_n 0, 1) := by decide +kernel
theorem dX6_empty_6 : decode cX6_empty 6 = .ok (.iconst 0, 1) := by decide +kernel
theorem dX6_empty_7 : decode cX6_empty 7 = .ok (.putfield 15, 3) := by decide +kernel
theorem dX6_empty_10 : decode cX6_empty 10 = .ok (.iload_n 1, 1) := by decide +kernel
theorem dX6_empty_11 : decode cX6_empty 11 = .ok (.ireturn, 1) := by decide +kernel
theorem dX6_signAt_0 : decode cX6_signAt 0 = .ok (.iload_n 1, 1) := by decide +kernel
theorem dX6_signAt_1 : decode cX6_signAt 1 = .ok (.iconst 0, 1) := by decide +kernel
theorem dX6_signAt_2 : decode cX6_signAt 2 = .ok (.bipush 99, 2) := by decide +kernel
theorem dX6_signAt_4 : decode cX6_signAt 4 = .ok (.invokestatic 19, 3) := by decide +kernel
theorem dX6_signAt_7 : decode cX6_signAt 7 = .ok (.ifCond .eq 20, 3) := by decide +kernel
theorem dX6_signAt_10 : decode cX6_signAt 10 = .ok (.iload_n 1, 1) := by decide +kernel
theorem dX6_signAt_11 : decode cX6_signAt 11 = .ok (.aload_n 0, 1) := by decide +kernel
theorem dX6_signAt_12 : decode cX6_signAt 12 = .ok (.getfield 15, 3) := by decide +kernel
theorem dX6_signAt_15 : decode cX6_signAt 15 = .ok (.if_icmp .ge 12, 3) := by decide +kernel
theorem dX6_signAt_18 : decode cX6_signAt 18 = .ok (.aload_n 0, 1) := by decide +kernel
theorem dX6_signAt_19 : decode cX6_signAt 19 = .ok (.getfield 9, 3) := by decide +kernel
theorem dX6_signAt_22 : decode cX6_signAt 22 = .ok (.iload_n 1, 1) := by decide +kernel
theorem dX6_signAt_23 : decode cX6_signAt 23 = .ok (.caload, 1) := by decide +kernel
theorem dX6_signAt_24 : decode cX6_signAt 24 = .ok (.goto 4, 3) := by decide +kernel
theorem dX6_signAt_27 : decode cX6_signAt 27 = .ok (.iconst (-1), 1) := by decide +kernel
theorem dX6_signAt_28 : decode cX6_signAt 28 = .ok (.ireturn, 1) := by decide +kernel
theorem dX6_firstErrorFor_0 : decode cX6_firstErrorFor 0 = .ok (.aload_n 1, 1) := by decide +kernel
theorem dX6_firstErrorFor_1 : decode cX6_firstErrorFor 1 = .ok (.invokevirtual 23, 3) := by decide +kernel
theorem dX6_firstErrorFor_4 : decode cX6_firstErrorFor 4 = .ok (.iconst 0, 1) := by decide +kernel
theorem dX6_firstErrorFor_5 : decode cX6_firstErrorFor 5 = .ok (.istore_n 2, 1) := by decide +kernel
theorem dX6_firstErrorFor_6 : decode cX6_firstErrorFor 6 = .ok (.iload_n 2, 1) := by decide +kernel
theorem dX6_firstErrorFor_7 : decode cX6_firstErrorFor 7 = .ok (.aload_n 0, 1) := by decide +kernel
theorem dX6_firstErrorFor_8 : decode cX6_firstErrorFor 8 = .ok (.getfield 15, 3) := by decide +kernel
theorem dX6_firstErrorFor_11 : decode cX6_firstErrorFor 11 = .ok (.if_icmp .ge 23, 3) := by decide +kernel
theorem dX6_firstErrorFor_14 : decode cX6_firstErrorFor 14 = .ok (.aload_n 1, 1) := by decide +kernel
theorem dX6_firstErrorFor_15 : decode cX6_firstErrorFor 15 = .ok (.aload_n 0, 1) := by decide +kernel
theorem dX6_firstErrorFor_16 : decode cX6_firstErrorFor 16 = .ok (.iload_n 2, 1) := by decide +kernel
theorem dX6_firstErrorFor_17 : decode cX6_firstErrorFor 17 = .ok (.invokevirtual 28, 3) := by decide +kernel
theorem dX6_firstErrorFor_20 : decode cX6_firstErrorFor 20 = .ok (.invokevirtual 32, 3) := by decide +kernel
theorem dX6_firstErrorFor_23 : decode cX6_firstErrorFor 23 = .ok (.ifCond .ne 5, 3) := by decide +kernel
theorem dX6_firstErrorFor_26 : decode cX6_firstErrorFor 26 = .ok (.iload_n 2, 1) := by decide +kernel
theorem dX6_firstErrorFor_27 : decode cX6_firstErrorFor 27 = .ok (.ireturn, 1) := by decide +kernel
theorem dX6_firstErrorFor_28 : decode cX6_firstErrorFor 28 = .ok (.iinc 2 1, 3) := by decide +kernel
theorem dX6_firstErrorFor_31 : decode cX6_firstErrorFor 31 = .ok (.goto (-25), 3) := by decide +kernel
theorem dX6_firstErrorFor_34 : decode cX6_firstErrorFor 34 = .ok (.aload_n 1, 1) := by decide +kernel
theorem dX6_firstErrorFor_35 : decode cX6_firstErrorFor 35 = .ok (.invokevirtual 36, 3) := by decide +kernel
theorem dX6_firstErrorFor_38 : decode cX6_firstErrorFor 38 = .ok (.ifCond .eq 7, 3) := by decide +kernel
theorem dX6_firstErrorFor_41 : decode cX6_firstErrorFor 41 = .ok (.iconst (-1), 1) := by decide +kernel
theorem dX6_firstErrorFor_42 : decode cX6_firstErrorFor 42 = .ok (.goto 7, 3) := by decide +kernel
theorem dX6_firstErrorFor_45 : decode cX6_firstErrorFor 45 = .ok (.aload_n 0, 1) := by decide +kernel
theorem dX6_firstErrorFor_46 : decode cX6_firstErrorFor 46 = .ok (.getfield 15, 3) := by decide +kernel
theorem dX6_firstErrorFor_49 : decode cX6_firstErrorFor 49 = .ok (.ireturn, 1) := by decide +kernel
theorem dX7_init_0 : decode cX7_init 0 = .ok (.aload_n 0, 1) := by decide +kernel
theorem dX7_init_1 : decode cX7_init 1 = .ok (.invokespecial 3, 3) := by decide +kernel
theorem dX7_init_4 : decode cX7_init 4 = .ok (.aload_n 0, 1) := by decide +kernel
theorem dX7_init_5 : decode cX7_init 5 = .ok (.iconst 4, 1) := by decide +kernel
theorem dX7_init_6 : decode cX7_init 6 = .ok (.newarray .long, 2) := by decide +kernel
theorem dX7_init_8 : decode cX7_init 8 = .ok (.putfield 9, 3) := by decide +kernel
theorem dX7_init_11 : decode cX7_init 11 = .ok (.aload_n 0, 1) := by decide +kernel
theorem dX7_init_12 : decode cX7_init 12 = .ok (.getstatic 15, 3) := by decide +kernel
theorem dX7_init_15 : decode cX7_init 15 = .ok (.invokevirtual 19, 3) := by decide +kernel
theorem dX7_init_18 : decode cX7_init 18 = .ok (.checkcast 20, 3) := by decide +kernel
theorem dX7_init_21 : decode cX7_init 21 = .ok (.putfield 24, 3) := by decide +kernel
theorem dX7_init_24 : decode cX7_init 24 = .ok (.aload_n 0, 1) := by decide +kernel
theorem dX7_init_25 : decode cX7_init 25 = .ok (.bipush 7, 2) := by decide +kernel
theorem dX7_init_27 : decode cX7_init 27 = .ok (.newarray .int, 2) := by decide +kernel
theorem dX7_init_29 : decode cX7_init 29 = .ok (.putfield 27, 3) := by decide +kernel
theorem dX7_init_32 : decode cX7_init 32 = .ok (.aload_n 0, 1) := by decide +kernel
theorem dX7_init_33 : decode cX7_init 33 = .ok (.bipush 21, 2) := by decide +kernel
theorem dX7_init_35 : decode cX7_init 35 = .ok (.newarray .int, 2) := by decide +kernel
theorem dX7_init_37 : decode cX7_init 37 = .ok (.putfield 30, 3) := by decide +kernel
theorem dX7_init_40 : decode cX7_init 40 = .ok (.aload_n 0, 1) := by decide +kernel
theorem dX7_init_41 : decode cX7_init 41 = .ok (.bipush 21, 2) := by decide +kernel
theorem dX7_init_43 : decode cX7_init 43 = .ok (.newarray .int, 2) := by decide +kernel
theorem dX7_init_45 : decode cX7_init 45 = .ok (.putfield 33, 3) := by decide +kernel
theorem dX7_init_48 : decode cX7_init 48 = .ok (.aload_n 0, 1) := by decide +kernel
theorem dX7_init_49 : decode cX7_init 49 = .ok (.bipush 21, 2) := by decide +kernel
theorem dX7_init_51 : decode cX7_init 51 = .ok (.newarray .int, 2) := by decide +kernel
theorem dX7_init_53 : decode cX7_init 53 = .ok (.putfield 36, 3) := by decide +kernel
theorem dX7_init_56 : decode cX7_init 56 = .ok (.aload_n 0, 1) := by decide +kernel
theorem dX7_init_57 : decode cX7_init 57 = .ok (.bipush 21, 2) := by decide +kernel
theorem dX7_init_59 : decode cX7_init 59 = .ok (.newarray .int, 2) := by decide +kernel
theorem dX7_init_61 : decode cX7_init 61 = .ok (.putfield 39, 3) := by decide +kernel
theorem dX7_init_64 : decode cX7_init 64 = .ok (.aload_n 0, 1) := by decide +kernel
theorem dX7_init_65 : decode cX7_init 65 = .ok (.bipush 21, 2) := by decide +kernel
theorem dX7_init_67 : decode cX7_init 67 = .ok (.newarray .int, 2) := by decide +kernel
theorem dX7_init_69 : decode cX7_init 69 = .ok (.putfield 42, 3) := by decide +kernel
theorem dX7_init_72 : decode cX7_init 72 = .ok (.aload_n 0, 1) := by decide +kernel
theorem dX7_init_73 : decode cX7_init 73 = .ok (.bipush 40, 2) := by decide +kernel
theorem dX7_init_75 : decode cX7_init 75 = .ok (.newarray .int, 2) := by decide +kernel
theorem dX7_init_77 : decode cX7_init 77 = .ok (.putfield 45, 3) := by decide +kernel
theorem dX7_init_80 : decode cX7_init 80 = .ok (.return_, 1) := by decide +kernel
theorem dX7_makeNew_0 : decode cX7_makeNew 0 = .ok (.aload_n 0, 1) := by decide +kernel
theorem dX7_makeNew_1 : decode cX7_makeNew 1 = .ok (.iconst 0, 1) := by decide +kernel
theorem dX7_makeNew_2 : decode cX7_makeNew 2 = .ok (.putfield 48, 3) := by decide +kernel
theorem dX7_makeNew_5 : decode cX7_makeNew 5 = .ok (.aload_n 0, 1) := by decide +kernel
theorem dX7_makeNew_6 : decode cX7_makeNew 6 = .ok (.iconst 0, 1) := by decide +kernel
theorem dX7_makeNew_7 : decode cX7_makeNew 7 = .ok (.putfield 52, 3) := by decide +kernel
theorem dX7_makeNew_10 : decode cX7_makeNew 10 = .ok (.aload_n 0, 1) := by decide +kernel
theorem dX7_makeNew_11 : decode cX7_makeNew 11 = .ok (.iconst 0, 1) := by decide +kernel
theorem dX7_makeNew_12 : decode cX7_makeNew 12 = .ok (.putfield 55, 3) := by decide +kernel
theorem dX7_makeNew_15 : decode cX7_makeNew 15 = .ok (.aload_n 0, 1) := by decide +kernel
theorem dX7_makeNew_16 : decode cX7_makeNew 16 = .ok (.iconst 0, 1) := by decide +kernel
theorem dX7_makeNew_17 : decode cX7_makeNew 17 = .ok (.putfield 58, 3) := by decide +kernel
theorem dX7_makeNew_20 : decode cX7_makeNew 20 = .ok (.iconst 0, 1) := by decide +kernel
theorem dX7_makeNew_21 : decode cX7_makeNew 21 = .ok (.istore_n 1, 1) := by decide +kernel
theorem dX7_makeNew_22 : decode cX7_makeNew 22 = .ok (.iload_n 1, 1) := by decide +kernel
theorem dX7_makeNew_23 : decode cX7_makeNew 23 = .ok (.iconst 4, 1) := by decide +kernel
theorem dX7_makeNew_24 : decode cX7_makeNew 24 = .ok (.if_icmp .ge 16, 3) := by decide +kernel
theorem dX7_makeNew_27 : decode cX7_makeNew 27 = .ok (.aload_n 0, 1) := by decide +kernel
theorem dX7_makeNew_28 : decode cX7_makeNew 28 = .ok (.getfield 9, 3) := by decide +kernel
theorem dX7_makeNew_31 : decode cX7_makeNew 31 = .ok (.iload_n 1, 1) := by decide +kernel
theorem dX7_makeNew_32 : decode cX7_makeNew 32 = .ok (.lconst 0, 1) := by decide +kernel
theorem dX7_makeNew_33 : decode cX7_makeNew 33 = .ok (.lastore, 1) := by decide +kernel
theorem dX7_makeNew_34 : decode cX7_makeNew 34 = .ok (.iinc 1 1, 3) := by decide +kernel
theorem dX7_makeNew_37 : decode cX7_makeNew 37 = .ok (.goto (-15), 3) := by decide +kernel
theorem dX7_makeNew_40 : decode cX7_makeNew 40 = .ok (.getstatic 15, 3) := by decide +kernel
theorem dX7_makeNew_43 : decode cX7_makeNew 43 = .ok (.iconst 0, 1) := by decide +kernel
theorem dX7_makeNew_44 : decode cX7_makeNew 44 = .ok (.aload_n 0, 1) := by decide +kernel
theorem dX7_makeNew_45 : decode cX7_makeNew 45 = .ok (.getfield 24, 3) := by decide +kernel
theorem dX7_makeNew_48 : decode cX7_makeNew 48 = .ok (.iconst 0, 1) := by decide +kernel
theorem dX7_makeNew_49 : decode cX7_makeNew 49 = .ok (.iconst 3, 1) := by decide +kernel
theorem dX7_makeNew_50 : decode cX7_makeNew 50 = .ok (.invokestatic 61, 3) := by decide +kernel
theorem dX7_makeNew_53 : decode cX7_makeNew 53 = .ok (.iconst 0, 1) := by decide +kernel
theorem dX7_makeNew_54 : decode cX7_makeNew 54 = .ok (.istore_n 1, 1) := by decide +kernel
theorem dX7_makeNew_55 : decode cX7_makeNew 55 = .ok (.iload_n 1, 1) := by decide +kernel
theorem dX7_makeNew_56 : decode cX7_makeNew 56 = .ok (.bipush 21, 2) := by decide +kernel
theorem dX7_makeNew_58 : decode cX7_makeNew 58 = .ok (.if_icmp .ge 44, 3) := by decide +kernel
theorem dX7_makeNew_61 : decode cX7_makeNew 61 = .ok (.aload_n 0, 1) := by decide +kernel
theorem dX7_makeNew_62 : decode cX7_makeNew 62 = .ok (.getfield 30, 3) := by decide +kernel
theorem dX7_makeNew_65 : decode cX7_makeNew 65 = .ok (.iload_n 1, 1) := by decide +kernel
theorem dX7_makeNew_66 : decode cX7_makeNew 66 = .ok (.iconst 0, 1) := by decide +kernel
theorem dX7_makeNew_67 : decode cX7_makeNew 67 = .ok (.iastore, 1) := by decide +kernel
theorem dX7_makeNew_68 : decode cX7_makeNew 68 = .ok (.aload_n 0, 1) := by decide +kernel
theorem dX7_makeNew_69 : decode cX7_makeNew 69 = .ok (.getfield 33, 3) := by decide +kernel
theorem dX7_makeNew_72 : decode cX7_makeNew 72 = .ok (.iload_n 1, 1) := by decide +kernel
theorem dX7_makeNew_73 : decode cX7_makeNew 73 = .ok (.iconst 0, 1) := by decide +kernel
theorem dX7_makeNew_74 : decode cX7_makeNew 74 = .ok (.iastore, 1) := by decide +kernel
theorem dX7_makeNew_75 : decode cX7_makeNew 75 = .ok (.aload_n 0, 1) := by decide +kernel
theorem dX7_makeNew_76 : decode cX7_makeNew 76 = .ok (.getfield 36, 3) := by decide +kernel
theorem dX7_makeNew_79 : decode cX7_makeNew 79 = .ok (.iload_n 1, 1) := by decide +kernel
theorem dX7_makeNew_80 : decode cX7_makeNew 80 = .ok (.iconst 0, 1) := by decide +kernel
theorem dX7_makeNew_81 : decode cX7_makeNew 81 = .ok (.iastore, 1) := by decide +kernel
theorem dX7_makeNew_82 : decode cX7_makeNew 82 = .ok (.aload_n 0, 1) := by decide +kernel
theorem dX7_makeNew_83 : decode cX7_makeNew 83 = .ok (.getfield 39, 3) := by decide +kernel
theorem dX7_makeNew_86 : decode cX7_makeNew 86 = .ok (.iload_n 1, 1) := by decide +kernel
theorem dX7_makeNew_87 : decode cX7_makeNew 87 = .ok (.iconst 0, 1) := by decide +kernel
theorem dX7_makeNew_88 : decode cX7_makeNew 88 = .ok (.iastore, 1) := by decide +kernel
theorem dX7_makeNew_89 : decode cX7_makeNew 89 = .ok (.aload_n 0, 1) := by decide +kernel
theorem dX7_makeNew_90 : decode cX7_makeNew 90 = .ok (.getfield 42, 3) := by decide +kernel
theorem dX7_makeNew_93 : decode cX7_makeNew 93 = .ok (.iload_n 1, 1) := by decide +kernel
theorem dX7_makeNew_94 : decode cX7_makeNew 94 = .ok (.iconst 0, 1) := by decide +kernel
theorem dX7_makeNew_95 : decode cX7_makeNew 95 = .ok (.iastore, 1) := by decide +kernel
theorem dX7_makeNew_96 : decode cX7_makeNew 96 = .ok (.iinc 1 1, 3) := by decide +kernel
theorem dX7_makeNew_99 : decode cX7_makeNew 99 = .ok (.goto (-44), 3) := by decide +kernel
theorem dX7_makeNew_102 : decode cX7_makeNew 102 = .ok (.return_, 1) := by decide +kernel
theorem dX7_takeFrom_0 : decode cX7_takeFrom 0 = .ok (.aload_n 0, 1) := by decide +kernel
theorem dX7_takeFrom_1 : decode cX7_takeFrom 1 = .ok (.aload_n 1, 1) := by decide +kernel
theorem dX7_takeFrom_2 : decode cX7_takeFrom 2 = .ok (.getfield 48, 3) := by decide +kernel
theorem dX7_takeFrom_5 : decode cX7_takeFrom 5 = .ok (.putfield 48, 3) := by decide +kernel
theorem dX7_takeFrom_8 : decode cX7_takeFrom 8 = .ok (.aload_n 0, 1) := by decide +kernel
theorem dX7_takeFrom_9 : decode cX7_takeFrom 9 = .ok (.aload_n 1, 1) := by decide +kernel
theorem dX7_takeFrom_10 : decode cX7_takeFrom 10 = .ok (.getfield 52, 3) := by decide +kernel
theorem dX7_takeFrom_13 : decode cX7_takeFrom 13 = .ok (.putfield 52, 3) := by decide +kernel
theorem dX7_takeFrom_16 : decode cX7_takeFrom 16 = .ok (.aload_n 0, 1) := by decide +kernel
theorem dX7_takeFrom_17 : decode cX7_takeFrom 17 = .ok (.aload_n 1, 1) := by decide +kernel
theorem dX7_takeFrom_18 : decode cX7_takeFrom 18 = .ok (.getfield 55, 3) := by decide +kernel
theorem dX7_takeFrom_21 : decode cX7_takeFrom 21 = .ok (.putfield 55, 3) := by decide +kernel
theorem dX7_takeFrom_24 : decode cX7_takeFrom 24 = .ok (.aload_n 0, 1) := by decide +kernel
theorem dX7_takeFrom_25 : decode cX7_takeFrom 25 = .ok (.aload_n 1, 1) := by decide +kernel
theorem dX7_takeFrom_26 : decode cX7_takeFrom 26 = .ok (.getfield 58, 3) := by decide +kernel
theorem dX7_takeFrom_29 : decode cX7_takeFrom 29 = .ok (.putfield 58, 3) := by decide +kernel
theorem dX7_takeFrom_32 : decode cX7_takeFrom 32 = .ok (.aload_n 1, 1) := by decide +kernel
theorem dX7_takeFrom_33 : decode cX7_takeFrom 33 = .ok (.getfield 9, 3) := by decide +kernel
theorem dX7_takeFrom_36 : decode cX7_takeFrom 36 = .ok (.iconst 0, 1) := by decide +kernel
theorem dX7_takeFrom_37 : decode cX7_takeFrom 37 = .ok (.aload_n 0, 1) := by decide +kernel
theorem dX7_takeFrom_38 : decode cX7_takeFrom 38 = .ok (.getfield 9, 3) := by decide +kernel
theorem dX7_takeFrom_41 : decode cX7_takeFrom 41 = .ok (.iconst 0, 1) := by decide +kernel
theorem dX7_takeFrom_42 : decode cX7_takeFrom 42 = .ok (.iconst 4, 1) := by decide +kernel
theorem dX7_takeFrom_43 : decode cX7_takeFrom 43 = .ok (.invokestatic 61, 3) := by decide +kernel
theorem dX7_takeFrom_46 : decode cX7_takeFrom 46 = .ok (.aload_n 1, 1) := by decide +kernel
theorem dX7_takeFrom_47 : decode cX7_takeFrom 47 = .ok (.getfield 24, 3) := by decide +kernel
theorem dX7_takeFrom_50 : decode cX7_takeFrom 50 = .ok (.iconst 0, 1) := by decide +kernel
theorem dX7_takeFrom_51 : decode cX7_takeFrom 51 = .ok (.aload_n 0, 1) := by decide +kernel
theorem dX7_takeFrom_52 : decode cX7_takeFrom 52 = .ok (.getfield 24, 3) := by decide +kernel
theorem dX7_takeFrom_55 : decode cX7_takeFrom 55 = .ok (.iconst 0, 1) := by decide +kernel
theorem dX7_takeFrom_56 : decode cX7_takeFrom 56 = .ok (.iconst 3, 1) := by decide +kernel
theorem dX7_takeFrom_57 : decode cX7_takeFrom 57 = .ok (.invokestatic 61, 3) := by decide +kernel
theorem dX7_takeFrom_60 : decode cX7_takeFrom 60 = .ok (.aload_n 1, 1) := by decide +kernel
theorem dX7_takeFrom_61 : decode cX7_takeFrom 61 = .ok (.getfield 27, 3) := by decide +kernel
theorem dX7_takeFrom_64 : decode cX7_takeFrom 64 = .ok (.iconst 0, 1) := by decide +kernel
theorem dX7_takeFrom_65 : decode cX7_takeFrom 65 = .ok (.aload_n 0, 1) := by decide +kernel
theorem dX7_takeFrom_66 : decode cX7_takeFrom 66 = .ok (.getfield 27, 3) := by decide +kernel
theorem dX7_takeFrom_69 : decode cX7_takeFrom 69 = .ok (.iconst 0, 1) := by decide +kernel
theorem dX7_takeFrom_70 : decode cX7_takeFrom 70 = .ok (.bipush 7, 2) := by decide +kernel
theorem dX7_takeFrom_72 : decode cX7_takeFrom 72 = .ok (.invokestatic 61, 3) := by decide +kernel
theorem dX7_takeFrom_75 : decode cX7_takeFrom 75 = .ok (.aload_n 1, 1) := by decide +kernel
theorem dX7_takeFrom_76 : decode cX7_takeFrom 76 = .ok (.getfield 30, 3) := by decide +kernel
theorem dX7_takeFrom_79 : decode cX7_takeFrom 79 = .ok (.iconst 0, 1) := by decide +kernel
theorem dX7_takeFrom_80 : decode cX7_takeFrom 80 = .ok (.aload_n 0, 1) := by decide +kernel
theorem dX7_takeFrom_81 : decode cX7_takeFrom 81 = .ok (.getfield 30, 3) := by decide +kernel
theorem dX7_takeFrom_84 : decode cX7_takeFrom 84 = .ok (.iconst 0, 1) := by decide +kernel
theorem dX7_takeFrom_85 : decode cX7_takeFrom 85 = .ok (.bipush 21, 2) := by decide +kernel
theorem dX7_takeFrom_87 : decode cX7_takeFrom 87 = .ok (.invokestatic 61, 3) := by decide +kernel
theorem dX7_takeFrom_90 : decode cX7_takeFrom 90 = .ok (.aload_n 1, 1) := by decide +kernel
theorem dX7_takeFrom_91 : decode cX7_takeFrom 91 = .ok (.getfield 33, 3) := by decide +kernel
theorem dX7_takeFrom_94 : decode cX7_takeFrom 94 = .ok (.iconst 0, 1) := by decide +kernel
theorem dX7_takeFrom_95 : decode cX7_takeFrom 95 = .ok (.aload_n 0, 1) := by decide +kernel
theorem dX7_takeFrom_96 : decode cX7_takeFrom 96 = .ok (.getfield 33, 3) := by decide +kernel
theorem dX7_takeFrom_99 : decode cX7_takeFrom 99 = .ok (.iconst 0, 1) := by decide +kernel
theorem dX7_takeFrom_100 : decode cX7_takeFrom 100 = .ok (.bipush 21, 2) := by decide +kernel
theorem dX7_takeFrom_102 : decode cX7_takeFrom 102 = .ok (.invokestatic 61, 3) := by decide +kernel
theorem dX7_takeFrom_105 : decode cX7_takeFrom 105 = .ok (.aload_n 1, 1) := by decide +kernel
theorem dX7_takeFrom_106 : decode cX7_takeFrom 106 = .ok (.getfield 36, 3) := by decide +kernel
theorem dX7_takeFrom_109 : decode cX7_takeFrom 109 = .ok (.iconst 0, 1) := by decide +kernel
theorem dX7_takeFrom_110 : decode cX7_takeFrom 110 = .ok (.aload_n 0, 1) := by decide +kernel
theorem dX7_takeFrom_111 : decode cX7_takeFrom 111 = .ok (.getfield 36, 3) := by decide +kernel
theorem dX7_takeFrom_114 : decode cX7_takeFrom 114 = .ok (.iconst 0, 1) := by decide +kernel
theorem dX7_takeFrom_115 : decode cX7_takeFrom 115 = .ok (.bipush 21, 2) := by decide +kernel
theorem dX7_takeFrom_117 : decode cX7_takeFrom 117 = .ok (.invokestatic 61, 3) := by decide +kernel
theorem dX7_takeFrom_120 : decode cX7_takeFrom 120 = .ok (.aload_n 1, 1) := by decide +kernel
theorem dX7_takeFrom_121 : decode cX7_takeFrom 121 = .ok (.getfield 39, 3) := by decide +kernel
theorem dX7_takeFrom_124 : decode cX7_takeFrom 124 = .ok (.iconst 0, 1) := by decide +kernel
theorem dX7_takeFrom_125 : decode cX7_takeFrom 125 = .ok (.aload_n 0, 1) := by decide +kernel
theorem dX7_takeFrom_126 : decode cX7_takeFrom 126 = .ok (.getfield 39, 3) := by decide +kernel
theorem dX7_takeFrom_129 : decode cX7_takeFrom 129 = .ok (.iconst 0, 1) := by decide +kernel
theorem dX7_takeFrom_130 : decode cX7_takeFrom 130 = .ok (.bipush 21, 2) := by decide +kernel
theorem dX7_takeFrom_132 : decode cX7_takeFrom 132 = .ok (.invokestatic 61, 3) := by decide +kernel
theorem dX7_takeFrom_135 : decode cX7_takeFrom 135 = .ok (.aload_n 1, 1) := by decide +kernel
theorem dX7_takeFrom_136 : decode cX7_takeFrom 136 = .ok (.getfield 42, 3) := by decide +kernel
theorem dX7_takeFrom_139 : decode cX7_takeFrom 139 = .ok (.iconst 0, 1) := by decide +kernel
theorem dX7_takeFrom_140 : decode cX7_takeFrom 140 = .ok (.aload_n 0, 1) := by decide +kernel
theorem dX7_takeFrom_141 : decode cX7_takeFrom 141 = .ok (.getfield 42, 3) := by decide +kernel
theorem dX7_takeFrom_144 : decode cX7_takeFrom 144 = .ok (.iconst 0, 1) := by decide +kernel
theorem dX7_takeFrom_145 : decode cX7_takeFrom 145 = .ok (.bipush 21, 2) := by decide +kernel
theorem dX7_takeFrom_147 : decode cX7_takeFrom 147 = .ok (.invokestatic 61, 3) := by decide +kernel
theorem dX7_takeFrom_150 : decode cX7_takeFrom 150 = .ok (.aload_n 1, 1) := by decide +kernel
theorem dX7_takeFrom_151 : decode cX7_takeFrom 151 = .ok (.getfield 45, 3) := by decide +kernel
theorem dX7_takeFrom_154 : decode cX7_takeFrom 154 = .ok (.iconst 0, 1) := by decide +kernel
theorem dX7_takeFrom_155 : decode cX7_takeFrom 155 = .ok (.aload_n 0, 1) := by decide +kernel
theorem dX7_takeFrom_156 : decode cX7_takeFrom 156 = .ok (.getfield 45, 3) := by decide +kernel
theorem dX7_takeFrom_159 : decode cX7_takeFrom 159 = .ok (.iconst 0, 1) := by decide +kernel
theorem dX7_takeFrom_160 : decode cX7_takeFrom 160 = .ok (.bipush 40, 2) := by decide +kernel
theorem dX7_takeFrom_162 : decode cX7_takeFrom 162 = .ok (.invokestatic 61, 3) := by decide +kernel
theorem dX7_takeFrom_165 : decode cX7_takeFrom 165 = .ok (.return_, 1) := by decide +kernel
theorem dX7_hasTable_0 : decode cX7_hasTable 0 = .ok (.iload_n 1, 1) := by decide +kernel
theorem dX7_hasTable_1 : decode cX7_hasTable 1 = .ok (.ifCond .lt 15, 3) := by decide +kernel
theorem dX7_hasTable_4 : decode cX7_hasTable 4 = .ok (.iload_n 1, 1) := by decide +kernel
theorem dX7_hasTable_5 : decode cX7_hasTable 5 = .ok (.aload_n 0, 1) := by decide +kernel
theorem dX7_hasTable_6 : decode cX7_hasTable 6 = .ok (.getfield 48, 3) := by decide +kernel
theorem dX7_hasTable_9 : decode cX7_hasTable 9 = .ok (.if_icmp .ge 7, 3) := by decide +kernel
theorem dX7_hasTable_12 : decode cX7_hasTable 12 = .ok (.iconst 1, 1) := by decide +kernel
theorem dX7_hasTable_13 : decode cX7_hasTable 13 = .ok (.goto 4, 3) := by decide +kernel
theorem dX7_hasTable_16 : decode cX7_hasTable 16 = .ok (.iconst 0, 1) := by decide +kernel
theorem dX7_hasTable_17 : decode cX7_hasTable 17 = .ok (.ireturn, 1) := by decide +kernel
theorem dX7_hasTables_0 : decode cX7_hasTables 0 = .ok (.iload_n 1, 1) := by decide +kernel
theorem dX7_hasTables_1 : decode cX7_hasTables 1 = .ok (.ifCond .lt 16, 3) := by decide +kernel
theorem dX7_hasTables_4 : decode cX7_hasTables 4 = .ok (.iload_n 1, 1) := by decide +kernel
theorem dX7_hasTables_5 : decode cX7_hasTables 5 = .ok (.aload_n 0, 1) := by decide +kernel
theorem dX7_hasTables_6 : decode cX7_hasTables 6 = .ok (.getfield 48, 3) := by decide +kernel
theorem dX7_hasTables_9 : decode cX7_hasTables 9 = .ok (.ishr, 1) := by decide +kernel
theorem dX7_hasTables_10 : decode cX7_hasTables 10 = .ok (.ifCond .ne 7, 3) := by decide +kernel
theorem dX7_hasTables_13 : decode cX7_hasTables 13 = .ok (.iconst 1, 1) := by decide +kernel
theorem dX7_hasTables_14 : decode cX7_hasTables 14 = .ok (.goto 4, 3) := by decide +kernel
theorem dX7_hasTables_17 : decode cX7_hasTables 17 = .ok (.iconst 0, 1) := by decide +kernel
theorem dX7_hasTables_18 : decode cX7_hasTables 18 = .ok (.ireturn, 1) := by decide +kernel
theorem dX7_hasTwoTables_0 : decode cX7_hasTwoTables 0 = .ok (.aload_n 0, 1) := by decide +kernel
theorem dX7_hasTwoTables_1 : decode cX7_hasTwoTables 1 = .ok (.iload_n 1, 1) := by decide +kernel
theorem dX7_hasTwoTables_2 : decode cX7_hasTwoTables 2 = .ok (.invokevirtual 67, 3) := by decide +kernel
theorem dX7_hasTwoTables_5 : decode cX7_hasTwoTables 5 = .ok (.ifCond .eq 20, 3) := by decide +kernel
theorem dX7_hasTwoTables_8 : decode cX7_hasTwoTables 8 = .ok (.aload_n 0, 1) := by decide +kernel
theorem dX7_hasTwoTables_9 : decode cX7_hasTwoTables 9 = .ok (.iload_n 2, 1) := by decide +kernel
theorem dX7_hasTwoTables_10 : decode cX7_hasTwoTables 10 = .ok (.invokevirtual 67, 3) := by decide +kernel
theorem dX7_hasTwoTables_13 : decode cX7_hasTwoTables 13 = .ok (.ifCond .eq 12, 3) := by decide +kernel
theorem dX7_hasTwoTables_16 : decode cX7_hasTwoTables 16 = .ok (.iload_n 1, 1) := by decide +kernel
theorem dX7_hasTwoTables_17 : decode cX7_hasTwoTables 17 = .ok (.iload_n 2, 1) := by decide +kernel
theorem dX7_hasTwoTables_18 : decode cX7_hasTwoTables 18 = .ok (.if_icmp .eq 7, 3) := by decide +kernel
theorem dX7_hasTwoTables_21 : decode cX7_hasTwoTables 21 = .ok (.iconst 1, 1) := by decide +kernel
theorem dX7_hasTwoTables_22 : decode cX7_hasTwoTables 22 = .ok (.goto 4, 3) := by decide +kernel
theorem dX7_hasTwoTables_25 : decode cX7_hasTwoTables 25 = .ok (.iconst 0, 1) := by decide +kernel
theorem dX7_hasTwoTables_26 : decode cX7_hasTwoTables 26 = .ok (.ireturn, 1) := by decide +kernel
theorem dX7_isFull_0 : decode cX7_isFull 0 = .ok (.aload_n 0, 1) := by decide +kernel
theorem dX7_isFull_1 : decode cX7_isFull 1 = .ok (.getfield 48, 3) := by decide +kernel
theorem dX7_isFull_4 : decode cX7_isFull 4 = .ok (.bipush 7, 2) := by decide +kernel
theorem dX7_isFull_6 : decode cX7_isFull 6 = .ok (.if_icmp .lt 7, 3) := by decide +kernel
theorem dX7_isFull_9 : decode cX7_isFull 9 = .ok (.iconst 1, 1) := by decide +kernel
theorem dX7_isFull_10 : decode cX7_isFull 10 = .ok (.goto 4, 3) := by decide +kernel
theorem dX7_isFull_13 : decode cX7_isFull 13 = .ok (.iconst 0, 1) := by decide +kernel
theorem dX7_isFull_14 : decode cX7_isFull 14 = .ok (.ireturn, 1) := by decide +kernel
theorem dX7_isLinked_0 : decode cX7_isLinked 0 = .ok (.iload_n 1, 1) := by decide +kernel
theorem dX7_isLinked_1 : decode cX7_isLinked 1 = .ok (.iconst 0, 1) := by decide +kernel
theorem dX7_isLinked_2 : decode cX7_isLinked 2 = .ok (.bipush 20, 2) := by decide +kernel
theorem dX7_isLinked_4 : decode cX7_isLinked 4 = .ok (.invokestatic 71, 3) := by decide +kernel
theorem dX7_isLinked_7 : decode cX7_isLinked 7 = .ok (.ifCond .eq 16, 3) := by decide +kernel
theorem dX7_isLinked_10 : decode cX7_isLinked 10 = .ok (.aload_n 0, 1) := by decide +kernel
theorem dX7_isLinked_11 : decode cX7_isLinked 11 = .ok (.getfield 30, 3) := by decide +kernel
theorem dX7_isLinked_14 : decode cX7_isLinked 14 = .ok (.iload_n 1, 1) := by decide +kernel
theorem dX7_isLinked_15 : decode cX7_isLinked 15 = .ok (.iaload, 1) := by decide +kernel
theorem dX7_isLinked_16 : decode cX7_isLinked 16 = .ok (.ifCond .le 7, 3) := by decide +kernel
theorem dX7_isLinked_19 : decode cX7_isLinked 19 = .ok (.iconst 1, 1) := by decide +kernel
theorem dX7_isLinked_20 : decode cX7_isLinked 20 = .ok (.goto 4, 3) := by decide +kernel
theorem dX7_isLinked_23 : decode cX7_isLinked 23 = .ok (.iconst 0, 1) := by decide +kernel
theorem dX7_isLinked_24 : decode cX7_isLinked 24 = .ok (.ireturn, 1) := by decide +kernel
theorem dX7_hasMemory_0 : decode cX7_hasMemory 0 = .ok (.iload_n 1, 1) := by decide +kernel
theorem dX7_hasMemory_1 : decode cX7_hasMemory 1 = .ok (.iconst 0, 1) := by decide +kernel
theorem dX7_hasMemory_2 : decode cX7_hasMemory 2 = .ok (.bipush 20, 2) := by decide +kernel
theorem dX7_hasMemory_4 : decode cX7_hasMemory 4 = .ok (.invokestatic 71, 3) := by decide +kernel
theorem dX7_hasMemory_7 : decode cX7_hasMemory 7 = .ok (.ifCond .eq 16, 3) := by decide +kernel
theorem dX7_hasMemory_10 : decode cX7_hasMemory 10 = .ok (.aload_n 0, 1) := by decide +kernel
theorem dX7_hasMemory_11 : decode cX7_hasMemory 11 = .ok (.getfield 36, 3) := by decide +kernel
theorem dX7_hasMemory_14 : decode cX7_hasMemory 14 = .ok (.iload_n 1, 1) := by decide +kernel
theorem dX7_hasMemory_15 : decode cX7_hasMemory 15 = .ok (.iaload, 1) := by decide +kernel
theorem dX7_hasMemory_16 : decode cX7_hasMemory 16 = .ok (.ifCond .le 7, 3) := by decide +kernel
theorem dX7_hasMemory_19 : decode cX7_hasMemory 19 = .ok (.iconst 1, 1) := by decide +kernel
theorem dX7_hasMemory_20 : decode cX7_hasMemory 20 = .ok (.goto 4, 3) := by decide +kernel
theorem dX7_hasMemory_23 : decode cX7_hasMemory 23 = .ok (.iconst 0, 1) := by decide +kernel
theorem dX7_hasMemory_24 : decode cX7_hasMemory 24 = .ok (.ireturn, 1) := by decide +kernel
theorem dX7_remembersSince_0 : decode cX7_remembersSince 0 = .ok (.aload_n 0, 1) := by decide +kernel
theorem dX7_remembersSince_1 : decode cX7_remembersSince 1 = .ok (.iload_n 1, 1) := by decide +kernel
theorem dX7_remembersSince_2 : decode cX7_remembersSince 2 = .ok (.invokevirtual 75, 3) := by decide +kernel
theorem dX7_remembersSince_5 : decode cX7_remembersSince 5 = .ok (.ifCond .eq 17, 3) := by decide +kernel
theorem dX7_remembersSince_8 : decode cX7_remembersSince 8 = .ok (.aload_n 0, 1) := by decide +kernel
theorem dX7_remembersSince_9 : decode cX7_remembersSince 9 = .ok (.getfield 39, 3) := by decide +kernel
theorem dX7_remembersSince_12 : decode cX7_remembersSince 12 = .ok (.iload_n 1, 1) := by decide +kernel
theorem dX7_remembersSince_13 : decode cX7_remembersSince 13 = .ok (.iaload, 1) := by decide +kernel
theorem dX7_remembersSince_14 : decode cX7_remembersSince 14 = .ok (.iload_n 2, 1) := by decide +kernel
theorem dX7_remembersSince_15 : decode cX7_remembersSince 15 = .ok (.if_icmp .gt 7, 3) := by decide +kernel
theorem dX7_remembersSince_18 : decode cX7_remembersSince 18 = .ok (.iconst 1, 1) := by decide +kernel
theorem dX7_remembersSince_19 : decode cX7_remembersSince 19 = .ok (.goto 4, 3) := by decide +kernel
theorem dX7_remembersSince_22 : decode cX7_remembersSince 22 = .ok (.iconst 0, 1) := by decide +kernel
theorem dX7_remembersSince_23 : decode cX7_remembersSince 23 = .ok (.ireturn, 1) := by decide +kernel
theorem dX7_numberOf_0 : decode cX7_numberOf 0 = .ok (.iload_n 1, 1) := by decide +kernel
theorem dX7_numberOf_1 : decode cX7_numberOf 1 = .ok (.tableswitch 60 0 4 #[35, 40, 45, 50, 55], 35) := by decide +kernel
theorem dX7_numberOf_36 : decode cX7_numberOf 36 = .ok (.aload_n 0, 1) := by decide +kernel
theorem dX7_numberOf_37 : decode cX7_numberOf 37 = .ok (.getfield 48, 3) := by decide +kernel
theorem dX7_numberOf_40 : decode cX7_numberOf 40 = .ok (.ireturn, 1) := by decide +kernel
theorem dX7_numberOf_41 : decode cX7_numberOf 41 = .ok (.aload_n 0, 1) := by decide +kernel
theorem dX7_numberOf_42 : decode cX7_numberOf 42 = .ok (.invokevirtual 78, 3) := by decide +kernel
theorem dX7_numberOf_45 : decode cX7_numberOf 45 = .ok (.ireturn, 1) := by decide +kernel
theorem dX7_numberOf_46 : decode cX7_numberOf 46 = .ok (.aload_n 0, 1) := by decide +kernel
theorem dX7_numberOf_47 : decode cX7_numberOf 47 = .ok (.invokevirtual 82, 3) := by decide +kernel
theorem dX7_numberOf_50 : decode cX7_numberOf 50 = .ok (.ireturn, 1) := by decide +kernel
theorem dX7_numberOf_51 : decode cX7_numberOf 51 = .ok (.aload_n 0, 1) := by decide +kernel
theorem dX7_numberOf_52 : decode cX7_numberOf 52 = .ok (.getfield 52, 3) := by decide +kernel
theorem dX7_numberOf_55 : decode cX7_numberOf 55 = .ok (.ireturn, 1) := by decide +kernel
theorem dX7_numberOf_56 : decode cX7_numberOf 56 = .ok (.aload_n 0, 1) := by decide +kernel
theorem dX7_numberOf_57 : decode cX7_numberOf 57 = .ok (.getfield 55, 3) := by decide +kernel
theorem dX7_numberOf_60 : decode cX7_numberOf 60 = .ok (.ireturn, 1) := by decide +kernel
theorem dX7_numberOf_61 : decode cX7_numberOf 61 = .ok (.aload_n 0, 1) := by decide +kernel
theorem dX7_numberOf_62 : decode cX7_numberOf 62 = .ok (.getfield 58, 3) := by decide +kernel
theorem dX7_numberOf_65 : decode cX7_numberOf 65 = .ok (.ireturn, 1) := by decide +kernel
theorem dX7_linkCount_0 : decode cX7_linkCount 0 = .ok (.iconst 0, 1) := by decide +kernel
theorem dX7_linkCount_1 : decode cX7_linkCount 1 = .ok (.istore_n 1, 1) := by decide +kernel
theorem dX7_linkCount_2 : decode cX7_linkCount 2 = .ok (.iconst 0, 1) := by decide +kernel
theorem dX7_linkCount_3 : decode cX7_linkCount 3 = .ok (.istore_n 2, 1) := by decide +kernel
theorem dX7_linkCount_4 : decode cX7_linkCount 4 = .ok (.iload_n 2, 1) := by decide +kernel
theorem dX7_linkCount_5 : decode cX7_linkCount 5 = .ok (.bipush 21, 2) := by decide +kernel
theorem dX7_linkCount_7 : decode cX7_linkCount 7 = .ok (.if_icmp .ge 21, 3) := by decide +kernel
theorem dX7_linkCount_10 : decode cX7_linkCount 10 = .ok (.aload_n 0, 1) := by decide +kernel
theorem dX7_linkCount_11 : decode cX7_linkCount 11 = .ok (.getfield 30, 3) := by decide +kernel
theorem dX7_linkCount_14 : decode cX7_linkCount 14 = .ok (.iload_n 2, 1) := by decide +kernel
theorem dX7_linkCount_15 : decode cX7_linkCount 15 = .ok (.iaload, 1) := by decide +kernel
theorem dX7_linkCount_16 : decode cX7_linkCount 16 = .ok (.ifCond .le 6, 3) := by decide +kernel
theorem dX7_linkCount_19 : decode cX7_linkCount 19 = .ok (.iinc 1 1, 3) := by decide +kernel
theorem dX7_linkCount_22 : decode cX7_linkCount 22 = .ok (.iinc 2 1, 3) := by decide +kernel
theorem dX7_linkCount_25 : decode cX7_linkCount 25 = .ok (.goto (-21), 3) := by decide +kernel
theorem dX7_linkCount_28 : decode cX7_linkCount 28 = .ok (.iload_n 1, 1) := by decide +kernel
theorem dX7_linkCount_29 : decode cX7_linkCount 29 = .ok (.ireturn, 1) := by decide +kernel
theorem dX7_memoryCount_0 : decode cX7_memoryCount 0 = .ok (.iconst 0, 1) := by decide +kernel
theorem dX7_memoryCount_1 : decode cX7_memoryCount 1 = .ok (.istore_n 1, 1) := by decide +kernel
theorem dX7_memoryCount_2 : decode cX7_memoryCount 2 = .ok (.iconst 0, 1) := by decide +kernel
theorem dX7_memoryCount_3 : decode cX7_memoryCount 3 = .ok (.istore_n 2, 1) := by decide +kernel
theorem dX7_memoryCount_4 : decode cX7_memoryCount 4 = .ok (.iload_n 2, 1) := by decide +kernel
theorem dX7_memoryCount_5 : decode cX7_memoryCount 5 = .ok (.bipush 21, 2) := by decide +kernel
theorem dX7_memoryCount_7 : decode cX7_memoryCount 7 = .ok (.if_icmp .ge 21, 3) := by decide +kernel
theorem dX7_memoryCount_10 : decode cX7_memoryCount 10 = .ok (.aload_n 0, 1) := by decide +kernel
theorem dX7_memoryCount_11 : decode cX7_memoryCount 11 = .ok (.getfield 36, 3) := by decide +kernel
theorem dX7_memoryCount_14 : decode cX7_memoryCount 14 = .ok (.iload_n 2, 1) := by decide +kernel
theorem dX7_memoryCount_15 : decode cX7_memoryCount 15 = .ok (.iaload, 1) := by decide +kernel
theorem dX7_memoryCount_16 : decode cX7_memoryCount 16 = .ok (.ifCond .le 6, 3) := by decide +kernel
theorem dX7_memoryCount_19 : decode cX7_memoryCount 19 = .ok (.iinc 1 1, 3) := by decide +kernel
theorem dX7_memoryCount_22 : decode cX7_memoryCount 22 = .ok (.iinc 2 1, 3) := by decide +kernel
theorem dX7_memoryCount_25 : decode cX7_memoryCount 25 = .ok (.goto (-21), 3) := by decide +kernel
theorem dX7_memoryCount_28 : decode cX7_memoryCount 28 = .ok (.iload_n 1, 1) := by decide +kernel
theorem dX7_memoryCount_29 : decode cX7_memoryCount 29 = .ok (.ireturn, 1) := by decide +kernel
theorem dX7_sumOf_0 : decode cX7_sumOf 0 = .ok (.iload_n 1, 1) := by decide +kernel
theorem dX7_sumOf_1 : decode cX7_sumOf 1 = .ok (.iconst 0, 1) := by decide +kernel
theorem dX7_sumOf_2 : decode cX7_sumOf 2 = .ok (.iconst 3, 1) := by decide +kernel
theorem dX7_sumOf_3 : decode cX7_sumOf 3 = .ok (.invokestatic 71, 3) := by decide +kernel
theorem dX7_sumOf_6 : decode cX7_sumOf 6 = .ok (.ifCond .eq 12, 3) := by decide +kernel
theorem dX7_sumOf_9 : decode cX7_sumOf 9 = .ok (.aload_n 0, 1) := by decide +kernel
theorem dX7_sumOf_10 : decode cX7_sumOf 10 = .ok (.getfield 9, 3) := by decide +kernel
theorem dX7_sumOf_13 : decode cX7_sumOf 13 = .ok (.iload_n 1, 1) := by decide +kernel
theorem dX7_sumOf_14 : decode cX7_sumOf 14 = .ok (.laload, 1) := by decide +kernel
theorem dX7_sumOf_15 : decode cX7_sumOf 15 = .ok (.goto 4, 3) := by decide +kernel
theorem dX7_sumOf_18 : decode cX7_sumOf 18 = .ok (.lconst 0, 1) := by decide +kernel
theorem dX7_sumOf_19 : decode cX7_sumOf 19 = .ok (.lreturn, 1) := by decide +kernel
theorem dX7_settingOf_0 : decode cX7_settingOf 0 = .ok (.iload_n 1, 1) := by decide +kernel
theorem dX7_settingOf_1 : decode cX7_settingOf 1 = .ok (.iconst 0, 1) := by decide +kernel
theorem dX7_settingOf_2 : decode cX7_settingOf 2 = .ok (.iconst 2, 1) := by decide +kernel
theorem dX7_settingOf_3 : decode cX7_settingOf 3 = .ok (.invokestatic 71, 3) := by decide +kernel
theorem dX7_settingOf_6 : decode cX7_settingOf 6 = .ok (.ifCond .eq 12, 3) := by decide +kernel
theorem dX7_settingOf_9 : decode cX7_settingOf 9 = .ok (.aload_n 0, 1) := by decide +kernel
theorem dX7_settingOf_10 : decode cX7_settingOf 10 = .ok (.getfield 24, 3) := by decide +kernel
theorem dX7_settingOf_13 : decode cX7_settingOf 13 = .ok (.iload_n 1, 1) := by decide +kernel
theorem dX7_settingOf_14 : decode cX7_settingOf 14 = .ok (.iaload, 1) := by decide +kernel
theorem dX7_settingOf_15 : decode cX7_settingOf 15 = .ok (.goto 4, 3) := by decide +kernel
theorem dX7_settingOf_18 : decode cX7_settingOf 18 = .ok (.iconst 0, 1) := by decide +kernel
theorem dX7_settingOf_19 : decode cX7_settingOf 19 = .ok (.ireturn, 1) := by decide +kernel
theorem dX7_sizeOf_0 : decode cX7_sizeOf 0 = .ok (.iload_n 1, 1) := by decide +kernel
theorem dX7_sizeOf_1 : decode cX7_sizeOf 1 = .ok (.iconst 0, 1) := by decide +kernel
theorem dX7_sizeOf_2 : decode cX7_sizeOf 2 = .ok (.bipush 6, 2) := by decide +kernel
theorem dX7_sizeOf_4 : decode cX7_sizeOf 4 = .ok (.invokestatic 71, 3) := by decide +kernel
theorem dX7_sizeOf_7 : decode cX7_sizeOf 7 = .ok (.ifCond .eq 12, 3) := by decide +kernel
theorem dX7_sizeOf_10 : decode cX7_sizeOf 10 = .ok (.aload_n 0, 1) := by decide +kernel
theorem dX7_sizeOf_11 : decode cX7_sizeOf 11 = .ok (.getfield 27, 3) := by decide +kernel
theorem dX7_sizeOf_14 : decode cX7_sizeOf 14 = .ok (.iload_n 1, 1) := by decide +kernel
theorem dX7_sizeOf_15 : decode cX7_sizeOf 15 = .ok (.iaload, 1) := by decide +kernel
theorem dX7_sizeOf_16 : decode cX7_sizeOf 16 = .ok (.goto 4, 3) := by decide +kernel
theorem dX7_sizeOf_19 : decode cX7_sizeOf 19 = .ok (.iconst 0, 1) := by decide +kernel
theorem dX7_sizeOf_20 : decode cX7_sizeOf 20 = .ok (.ireturn, 1) := by decide +kernel
theorem dX7_shareOf_0 : decode cX7_shareOf 0 = .ok (.iload_n 1, 1) := by decide +kernel
theorem dX7_shareOf_1 : decode cX7_shareOf 1 = .ok (.iconst 0, 1) := by decide +kernel
theorem dX7_shareOf_2 : decode cX7_shareOf 2 = .ok (.bipush 20, 2) := by decide +kernel
theorem dX7_shareOf_4 : decode cX7_shareOf 4 = .ok (.invokestatic 71, 3) := by decide +kernel
theorem dX7_shareOf_7 : decode cX7_shareOf 7 = .ok (.ifCond .ne 5, 3) := by decide +kernel
theorem dX7_shareOf_10 : decode cX7_shareOf 10 = .ok (.iconst 0, 1) := by decide +kernel
theorem dX7_shareOf_11 : decode cX7_shareOf 11 = .ok (.ireturn, 1) := by decide +kernel
theorem dX7_shareOf_12 : decode cX7_shareOf 12 = .ok (.iload_n 2, 1) := by decide +kernel
theorem dX7_shareOf_13 : decode cX7_shareOf 13 = .ok (.iconst 2, 1) := by decide +kernel
theorem dX7_shareOf_14 : decode cX7_shareOf 14 = .ok (.if_icmp .ne 10, 3) := by decide +kernel
theorem dX7_shareOf_17 : decode cX7_shareOf 17 = .ok (.aload_n 0, 1) := by decide +kernel
theorem dX7_shareOf_18 : decode cX7_shareOf 18 = .ok (.getfield 33, 3) := by decide +kernel
theorem dX7_shareOf_21 : decode cX7_shareOf 21 = .ok (.iload_n 1, 1) := by decide +kernel
theorem dX7_shareOf_22 : decode cX7_shareOf 22 = .ok (.iaload, 1) := by decide +kernel
theorem dX7_shareOf_23 : decode cX7_shareOf 23 = .ok (.ireturn, 1) := by decide +kernel
theorem dX7_shareOf_24 : decode cX7_shareOf 24 = .ok (.iload_n 2, 1) := by decide +kernel
theorem dX7_shareOf_25 : decode cX7_shareOf 25 = .ok (.iconst 1, 1) := by decide +kernel
theorem dX7_shareOf_26 : decode cX7_shareOf 26 = .ok (.if_icmp .ne 21, 3) := by decide +kernel
theorem dX7_shareOf_29 : decode cX7_shareOf 29 = .ok (.aload_n 0, 1) := by decide +kernel
theorem dX7_shareOf_30 : decode cX7_shareOf 30 = .ok (.getfield 36, 3) := by decide +kernel
theorem dX7_shareOf_33 : decode cX7_shareOf 33 = .ok (.iload_n 1, 1) := by decide +kernel
theorem dX7_shareOf_34 : decode cX7_shareOf 34 = .ok (.iaload, 1) := by decide +kernel
theorem dX7_shareOf_35 : decode cX7_shareOf 35 = .ok (.ifCond .le 12, 3) := by decide +kernel
theorem dX7_shareOf_38 : decode cX7_shareOf 38 = .ok (.aload_n 0, 1) := by decide +kernel
theorem dX7_shareOf_39 : decode cX7_shareOf 39 = .ok (.getfield 36, 3) := by decide +kernel
theorem dX7_shareOf_42 : decode cX7_shareOf 42 = .ok (.iload_n 1, 1) := by decide +kernel
theorem dX7_shareOf_43 : decode cX7_shareOf 43 = .ok (.iaload, 1) := by decide +kernel
theorem dX7_shareOf_44 : decode cX7_shareOf 44 = .ok (.goto 9, 3) := by decide +kernel
theorem dX7_shareOf_47 : decode cX7_shareOf 47 = .ok (.aload_n 0, 1) := by decide +kernel
theorem dX7_shareOf_48 : decode cX7_shareOf 48 = .ok (.getfield 30, 3) := by decide +kernel
theorem dX7_shareOf_51 : decode cX7_shareOf 51 = .ok (.iload_n 1, 1) := by decide +kernel
theorem dX7_shareOf_52 : decode cX7_shareOf 52 = .ok (.iaload, 1) := by decide +kernel
theorem dX7_shareOf_53 : decode cX7_shareOf 53 = .ok (.ireturn, 1) := by decide +kernel
theorem dX7_pairNumberOf_0 : decode cX7_pairNumberOf 0 = .ok (.aload_n 0, 1) := by decide +kernel
theorem dX7_pairNumberOf_1 : decode cX7_pairNumberOf 1 = .ok (.iload_n 1, 1) := by decide +kernel
theorem dX7_pairNumberOf_2 : decode cX7_pairNumberOf 2 = .ok (.invokevirtual 85, 3) := by decide +kernel
theorem dX7_pairNumberOf_5 : decode cX7_pairNumberOf 5 = .ok (.ifCond .ne 5, 3) := by decide +kernel
theorem dX7_pairNumberOf_8 : decode cX7_pairNumberOf 8 = .ok (.iconst (-1), 1) := by decide +kernel
theorem dX7_pairNumberOf_9 : decode cX7_pairNumberOf 9 = .ok (.ireturn, 1) := by decide +kernel
theorem dX7_pairNumberOf_10 : decode cX7_pairNumberOf 10 = .ok (.iload_n 2, 1) := by decide +kernel
theorem dX7_pairNumberOf_11 : decode cX7_pairNumberOf 11 = .ok (.tableswitch 69 0 3 #[29, 36, 43, 50], 29) := by decide +kernel
theorem dX7_pairNumberOf_40 : decode cX7_pairNumberOf 40 = .ok (.aload_n 0, 1) := by decide +kernel
theorem dX7_pairNumberOf_41 : decode cX7_pairNumberOf 41 = .ok (.iload_n 1, 1) := by decide +kernel
theorem dX7_pairNumberOf_42 : decode cX7_pairNumberOf 42 = .ok (.iconst 0, 1) := by decide +kernel
theorem dX7_pairNumberOf_43 : decode cX7_pairNumberOf 43 = .ok (.invokevirtual 88, 3) := by decide +kernel
theorem dX7_pairNumberOf_46 : decode cX7_pairNumberOf 46 = .ok (.ireturn, 1) := by decide +kernel
theorem dX7_pairNumberOf_47 : decode cX7_pairNumberOf 47 = .ok (.aload_n 0, 1) := by decide +kernel
theorem dX7_pairNumberOf_48 : decode cX7_pairNumberOf 48 = .ok (.iload_n 1, 1) := by decide +kernel
theorem dX7_pairNumberOf_49 : decode cX7_pairNumberOf 49 = .ok (.iconst 2, 1) := by decide +kernel
theorem dX7_pairNumberOf_50 : decode cX7_pairNumberOf 50 = .ok (.invokevirtual 88, 3) := by decide +kernel
theorem dX7_pairNumberOf_53 : decode cX7_pairNumberOf 53 = .ok (.ireturn, 1) := by decide +kernel
theorem dX7_pairNumberOf_54 : decode cX7_pairNumberOf 54 = .ok (.aload_n 0, 1) := by decide +kernel
theorem dX7_pairNumberOf_55 : decode cX7_pairNumberOf 55 = .ok (.iload_n 1, 1) := by decide +kernel
theorem dX7_pairNumberOf_56 : decode cX7_pairNumberOf 56 = .ok (.iconst 1, 1) := by decide +kernel
theorem dX7_pairNumberOf_57 : decode cX7_pairNumberOf 57 = .ok (.invokevirtual 88, 3) := by decide +kernel
theorem dX7_pairNumberOf_60 : decode cX7_pairNumberOf 60 = .ok (.ireturn, 1) := by decide +kernel
theorem dX7_pairNumberOf_61 : decode cX7_pairNumberOf 61 = .ok (.aload_n 0, 1) := by decide +kernel
theorem dX7_pairNumberOf_62 : decode cX7_pairNumberOf 62 = .ok (.iload_n 1, 1) := by decide +kernel
theorem dX7_pairNumberOf_63 : decode cX7_pairNumberOf 63 = .ok (.invokevirtual 75, 3) := by decide +kernel
theorem dX7_pairNumberOf_66 : decode cX7_pairNumberOf 66 = .ok (.ifCond .eq 12, 3) := by decide +kernel
theorem dX7_pairNumberOf_69 : decode cX7_pairNumberOf 69 = .ok (.aload_n 0, 1) := by decide +kernel
theorem dX7_pairNumberOf_70 : decode cX7_pairNumberOf 70 = .ok (.getfield 39, 3) := by decide +kernel
theorem dX7_pairNumberOf_73 : decode cX7_pairNumberOf 73 = .ok (.iload_n 1, 1) := by decide +kernel
theorem dX7_pairNumberOf_74 : decode cX7_pairNumberOf 74 = .ok (.iaload, 1) := by decide +kernel
theorem dX7_pairNumberOf_75 : decode cX7_pairNumberOf 75 = .ok (.goto 4, 3) := by decide +kernel
theorem dX7_pairNumberOf_78 : decode cX7_pairNumberOf 78 = .ok (.iconst (-1), 1) := by decide +kernel
theorem dX7_pairNumberOf_79 : decode cX7_pairNumberOf 79 = .ok (.ireturn, 1) := by decide +kernel
theorem dX7_pairNumberOf_80 : decode cX7_pairNumberOf 80 = .ok (.aload_n 0, 1) := by decide +kernel
theorem dX7_pairNumberOf_81 : decode cX7_pairNumberOf 81 = .ok (.getfield 42, 3) := by decide +kernel
theorem dX7_pairNumberOf_84 : decode cX7_pairNumberOf 84 = .ok (.iload_n 1, 1) := by decide +kernel
theorem dX7_pairNumberOf_85 : decode cX7_pairNumberOf 85 = .ok (.iaload, 1) := by decide +kernel
theorem dX7_pairNumberOf_86 : decode cX7_pairNumberOf 86 = .ok (.ireturn, 1) := by decide +kernel
theorem dX7_surpriseNumberOf_0 : decode cX7_surpriseNumberOf 0 = .ok (.iload_n 1, 1) := by decide +kernel
theorem dX7_surpriseNumberOf_1 : decode cX7_surpriseNumberOf 1 = .ok (.ifCond .lt 26, 3) := by decide +kernel
theorem dX7_surpriseNumberOf_4 : decode cX7_surpriseNumberOf 4 = .ok (.iload_n 1, 1) := by decide +kernel
theorem dX7_surpriseNumberOf_5 : decode cX7_surpriseNumberOf 5 = .ok (.bipush 10, 2) := by decide +kernel
theorem dX7_surpriseNumberOf_7 : decode cX7_surpriseNumberOf 7 = .ok (.if_icmp .ge 20, 3) := by decide +kernel
theorem dX7_surpriseNumberOf_10 : decode cX7_surpriseNumberOf 10 = .ok (.iload_n 1, 1) := by decide +kernel
theorem dX7_surpriseNumberOf_11 : decode cX7_surpriseNumberOf 11 = .ok (.aload_n 0, 1) := by decide +kernel
theorem dX7_surpriseNumberOf_12 : decode cX7_surpriseNumberOf 12 = .ok (.getfield 58, 3) := by decide +kernel
theorem dX7_surpriseNumberOf_15 : decode cX7_surpriseNumberOf 15 = .ok (.if_icmp .ge 12, 3) := by decide +kernel
theorem dX7_surpriseNumberOf_18 : decode cX7_surpriseNumberOf 18 = .ok (.iload_n 2, 1) := by decide +kernel
theorem dX7_surpriseNumberOf_19 : decode cX7_surpriseNumberOf 19 = .ok (.iconst 0, 1) := by decide +kernel
theorem dX7_surpriseNumberOf_20 : decode cX7_surpriseNumberOf 20 = .ok (.iconst 3, 1) := by decide +kernel
theorem dX7_surpriseNumberOf_21 : decode cX7_surpriseNumberOf 21 = .ok (.invokestatic 71, 3) := by decide +kernel
theorem dX7_surpriseNumberOf_24 : decode cX7_surpriseNumberOf 24 = .ok (.ifCond .ne 5, 3) := by decide +kernel
theorem dX7_surpriseNumberOf_27 : decode cX7_surpriseNumberOf 27 = .ok (.iconst (-1), 1) := by decide +kernel
theorem dX7_surpriseNumberOf_28 : decode cX7_surpriseNumberOf 28 = .ok (.ireturn, 1) := by decide +kernel
theorem dX7_surpriseNumberOf_29 : decode cX7_surpriseNumberOf 29 = .ok (.aload_n 0, 1) := by decide +kernel
theorem dX7_surpriseNumberOf_30 : decode cX7_surpriseNumberOf 30 = .ok (.getfield 45, 3) := by decide +kernel
theorem dX7_surpriseNumberOf_33 : decode cX7_surpriseNumberOf 33 = .ok (.aload_n 0, 1) := by decide +kernel
theorem dX7_surpriseNumberOf_34 : decode cX7_surpriseNumberOf 34 = .ok (.getfield 58, 3) := by decide +kernel
theorem dX7_surpriseNumberOf_37 : decode cX7_surpriseNumberOf 37 = .ok (.iconst 1, 1) := by decide +kernel
theorem dX7_surpriseNumberOf_38 : decode cX7_surpriseNumberOf 38 = .ok (.isub, 1) := by decide +kernel
theorem dX7_surpriseNumberOf_39 : decode cX7_surpriseNumberOf 39 = .ok (.iload_n 1, 1) := by decide +kernel
theorem dX7_surpriseNumberOf_40 : decode cX7_surpriseNumberOf 40 = .ok (.isub, 1) := by decide +kernel
theorem dX7_surpriseNumberOf_41 : decode cX7_surpriseNumberOf 41 = .ok (.bipush 10, 2) := by decide +kernel
theorem dX7_surpriseNumberOf_43 : decode cX7_surpriseNumberOf 43 = .ok (.irem, 1) := by decide +kernel
theorem dX7_surpriseNumberOf_44 : decode cX7_surpriseNumberOf 44 = .ok (.iconst 4, 1) := by decide +kernel
theorem dX7_surpriseNumberOf_45 : decode cX7_surpriseNumberOf 45 = .ok (.imul, 1) := by decide +kernel
theorem dX7_surpriseNumberOf_46 : decode cX7_surpriseNumberOf 46 = .ok (.iload_n 2, 1) := by decide +kernel
theorem dX7_surpriseNumberOf_47 : decode cX7_surpriseNumberOf 47 = .ok (.iadd, 1) := by decide +kernel
theorem dX7_surpriseNumberOf_48 : decode cX7_surpriseNumberOf 48 = .ok (.iaload, 1) := by decide +kernel
theorem dX7_surpriseNumberOf_49 : decode cX7_surpriseNumberOf 49 = .ok (.ireturn, 1) := by decide +kernel
theorem dX7_addTable_0 : decode cX7_addTable 0 = .ok (.aload_n 0, 1) := by decide +kernel
theorem dX7_addTable_1 : decode cX7_addTable 1 = .ok (.getfield 48, 3) := by decide +kernel
theorem dX7_addTable_4 : decode cX7_addTable 4 = .ok (.iconst 0, 1) := by decide +kernel
theorem dX7_addTable_5 : decode cX7_addTable 5 = .ok (.bipush 6, 2) := by decide +kernel
theorem dX7_addTable_7 : decode cX7_addTable 7 = .ok (.invokestatic 71, 3) := by decide +kernel
theorem dX7_addTable_10 : decode cX7_addTable 10 = .ok (.ifCond .eq 23, 3) := by decide +kernel
theorem dX7_addTable_13 : decode cX7_addTable 13 = .ok (.aload_n 0, 1) := by decide +kernel
theorem dX7_addTable_14 : decode cX7_addTable 14 = .ok (.getfield 27, 3) := by decide +kernel
theorem dX7_addTable_17 : decode cX7_addTable 17 = .ok (.aload_n 0, 1) := by decide +kernel
theorem dX7_addTable_18 : decode cX7_addTable 18 = .ok (.getfield 48, 3) := by decide +kernel
theorem dX7_addTable_21 : decode cX7_addTable 21 = .ok (.iload_n 1, 1) := by decide +kernel
theorem dX7_addTable_22 : decode cX7_addTable 22 = .ok (.iastore, 1) := by decide +kernel
theorem dX7_addTable_23 : decode cX7_addTable 23 = .ok (.aload_n 0, 1) := by decide +kernel
theorem dX7_addTable_24 : decode cX7_addTable 24 = .ok (.dup, 1) := by decide +kernel
theorem dX7_addTable_25 : decode cX7_addTable 25 = .ok (.getfield 48, 3) := by decide +kernel
theorem dX7_addTable_28 : decode cX7_addTable 28 = .ok (.iconst 1, 1) := by decide +kernel
theorem dX7_addTable_29 : decode cX7_addTable 29 = .ok (.iadd, 1) := by decide +kernel
theorem dX7_addTable_30 : decode cX7_addTable 30 = .ok (.putfield 48, 3) := by decide +kernel
theorem dX7_addTable_33 : decode cX7_addTable 33 = .ok (.aload_n 0, 1) := by decide +kernel
theorem dX7_addTable_34 : decode cX7_addTable 34 = .ok (.getfield 48, 3) := by decide +kernel
theorem dX7_addTable_37 : decode cX7_addTable 37 = .ok (.iconst 1, 1) := by decide +kernel
theorem dX7_addTable_38 : decode cX7_addTable 38 = .ok (.isub, 1) := by decide +kernel
theorem dX7_addTable_39 : decode cX7_addTable 39 = .ok (.ireturn, 1) := by decide +kernel
theorem dX7_changeSize_0 : decode cX7_changeSize 0 = .ok (.aload_n 0, 1) := by decide +kernel
theorem dX7_changeSize_1 : decode cX7_changeSize 1 = .ok (.iload_n 1, 1) := by decide +kernel
theorem dX7_changeSize_2 : decode cX7_changeSize 2 = .ok (.invokevirtual 92, 3) := by decide +kernel
theorem dX7_changeSize_5 : decode cX7_changeSize 5 = .ok (.istore_n 3, 1) := by decide +kernel
theorem dX7_changeSize_6 : decode cX7_changeSize 6 = .ok (.iload_n 1, 1) := by decide +kernel
theorem dX7_changeSize_7 : decode cX7_changeSize 7 = .ok (.iconst 0, 1) := by decide +kernel
theorem dX7_changeSize_8 : decode cX7_changeSize 8 = .ok (.bipush 6, 2) := by decide +kernel
theorem dX7_changeSize_10 : decode cX7_changeSize 10 = .ok (.invokestatic 71, 3) := by decide +kernel
theorem dX7_changeSize_13 : decode cX7_changeSize 13 = .ok (.ifCond .eq 10, 3) := by decide +kernel
theorem dX7_changeSize_16 : decode cX7_changeSize 16 = .ok (.aload_n 0, 1) := by decide +kernel
theorem dX7_changeSize_17 : decode cX7_changeSize 17 = .ok (.getfield 27, 3) := by decide +kernel
theorem dX7_changeSize_20 : decode cX7_changeSize 20 = .ok (.iload_n 1, 1) := by decide +kernel
theorem dX7_changeSize_21 : decode cX7_changeSize 21 = .ok (.iload_n 2, 1) := by decide +kernel
theorem dX7_changeSize_22 : decode cX7_changeSize 22 = .ok (.iastore, 1) := by decide +kernel
theorem dX7_changeSize_23 : decode cX7_changeSize 23 = .ok (.iload_n 3, 1) := by decide +kernel
theorem dX7_changeSize_24 : decode cX7_changeSize 24 = .ok (.ireturn, 1) := by decide +kernel
theorem dX7_linkPair_0 : decode cX7_linkPair 0 = .ok (.iload_n 1, 1) := by decide +kernel
theorem dX7_linkPair_1 : decode cX7_linkPair 1 = .ok (.iconst 0, 1) := by decide +kernel
theorem dX7_linkPair_2 : decode cX7_linkPair 2 = .ok (.bipush 20, 2) := by decide +kernel
theorem dX7_linkPair_4 : decode cX7_linkPair 4 = .ok (.invokestatic 71, 3) := by decide +kernel
theorem dX7_linkPair_7 : decode cX7_linkPair 7 = .ok (.ifCond .eq 22, 3) := by decide +kernel
theorem dX7_linkPair_10 : decode cX7_linkPair 10 = .ok (.aload_n 0, 1) := by decide +kernel
theorem dX7_linkPair_11 : decode cX7_linkPair 11 = .ok (.getfield 30, 3) := by decide +kernel
theorem dX7_linkPair_14 : decode cX7_linkPair 14 = .ok (.iload_n 1, 1) := by decide +kernel
theorem dX7_linkPair_15 : decode cX7_linkPair 15 = .ok (.iload_n 2, 1) := by decide +kernel
theorem dX7_linkPair_16 : decode cX7_linkPair 16 = .ok (.iastore, 1) := by decide +kernel
theorem dX7_linkPair_17 : decode cX7_linkPair 17 = .ok (.aload_n 0, 1) := by decide +kernel
theorem dX7_linkPair_18 : decode cX7_linkPair 18 = .ok (.getfield 33, 3) := by decide +kernel
theorem dX7_linkPair_21 : decode cX7_linkPair 21 = .ok (.iload_n 1, 1) := by decide +kernel
theorem dX7_linkPair_22 : decode cX7_linkPair 22 = .ok (.iload_n 3, 1) := by decide +kernel
theorem dX7_linkPair_23 : decode cX7_linkPair 23 = .ok (.iastore, 1) := by decide +kernel
theorem dX7_linkPair_24 : decode cX7_linkPair 24 = .ok (.aload_n 0, 1) := by decide +kernel
theorem dX7_linkPair_25 : decode cX7_linkPair 25 = .ok (.iload_n 1, 1) := by decide +kernel
theorem dX7_linkPair_26 : decode cX7_linkPair 26 = .ok (.invokevirtual 96, 3) := by decide +kernel
theorem dX7_linkPair_29 : decode cX7_linkPair 29 = .ok (.aload_n 0, 1) := by decide +kernel
theorem dX7_linkPair_30 : decode cX7_linkPair 30 = .ok (.invokevirtual 78, 3) := by decide +kernel
theorem dX7_linkPair_33 : decode cX7_linkPair 33 = .ok (.ireturn, 1) := by decide +kernel
theorem dX7_changeShare_0 : decode cX7_changeShare 0 = .ok (.aload_n 0, 1) := by decide +kernel
theorem dX7_changeShare_1 : decode cX7_changeShare 1 = .ok (.iload_n 1, 1) := by decide +kernel
theorem dX7_changeShare_2 : decode cX7_changeShare 2 = .ok (.iconst 2, 1) := by decide +kernel
theorem dX7_changeShare_3 : decode cX7_changeShare 3 = .ok (.invokevirtual 88, 3) := by decide +kernel
theorem dX7_changeShare_6 : decode cX7_changeShare 6 = .ok (.istore_n 3, 1) := by decide +kernel
theorem dX7_changeShare_7 : decode cX7_changeShare 7 = .ok (.iload_n 1, 1) := by decide +kernel
theorem dX7_changeShare_8 : decode cX7_changeShare 8 = .ok (.iconst 0, 1) := by decide +kernel
theorem dX7_changeShare_9 : decode cX7_changeShare 9 = .ok (.bipush 20, 2) := by decide +kernel
theorem dX7_changeShare_11 : decode cX7_changeShare 11 = .ok (.invokestatic 71, 3) := by decide +kernel
theorem dX7_changeShare_14 : decode cX7_changeShare 14 = .ok (.ifCond .eq 10, 3) := by decide +kernel
theorem dX7_changeShare_17 : decode cX7_changeShare 17 = .ok (.aload_n 0, 1) := by decide +kernel
theorem dX7_changeShare_18 : decode cX7_changeShare 18 = .ok (.getfield 33, 3) := by decide +kernel
theorem dX7_changeShare_21 : decode cX7_changeShare 21 = .ok (.iload_n 1, 1) := by decide +kernel
theorem dX7_changeShare_22 : decode cX7_changeShare 22 = .ok (.iload_n 2, 1) := by decide +kernel
theorem dX7_changeShare_23 : decode cX7_changeShare 23 = .ok (.iastore, 1) := by decide +kernel
theorem dX7_changeShare_24 : decode cX7_changeShare 24 = .ok (.iload_n 3, 1) := by decide +kernel
theorem dX7_changeShare_25 : decode cX7_changeShare 25 = .ok (.ireturn, 1) := by decide +kernel
theorem dX7_changeSetting_0 : decode cX7_changeSetting 0 = .ok (.aload_n 0, 1) := by decide +kernel
theorem dX7_changeSetting_1 : decode cX7_changeSetting 1 = .ok (.iload_n 1, 1) := by decide +kernel
theorem dX7_changeSetting_2 : decode cX7_changeSetting 2 = .ok (.invokevirtual 100, 3) := by decide +kernel
theorem dX7_changeSetting_5 : decode cX7_changeSetting 5 = .ok (.istore_n 3, 1) := by decide +kernel
theorem dX7_changeSetting_6 : decode cX7_changeSetting 6 = .ok (.iload_n 1, 1) := by decide +kernel
theorem dX7_changeSetting_7 : decode cX7_changeSetting 7 = .ok (.iconst 0, 1) := by decide +kernel
theorem dX7_changeSetting_8 : decode cX7_changeSetting 8 = .ok (.iconst 2, 1) := by decide +kernel
theorem dX7_changeSetting_9 : decode cX7_changeSetting 9 = .ok (.invokestatic 71, 3) := by decide +kernel
theorem dX7_changeSetting_12 : decode cX7_changeSetting 12 = .ok (.ifCond .eq 10, 3) := by decide +kernel
theorem dX7_changeSetting_15 : decode cX7_changeSetting 15 = .ok (.aload_n 0, 1) := by decide +kernel
theorem dX7_changeSetting_16 : decode cX7_changeSetting 16 = .ok (.getfield 24, 3) := by decide +kernel
theorem dX7_changeSetting_19 : decode cX7_changeSetting 19 = .ok (.iload_n 1, 1) := by decide +kernel
theorem dX7_changeSetting_20 : decode cX7_changeSetting 20 = .ok (.iload_n 2, 1) := by decide +kernel
theorem dX7_changeSetting_21 : decode cX7_changeSetting 21 = .ok (.iastore, 1) := by decide +kernel
theorem dX7_changeSetting_22 : decode cX7_changeSetting 22 = .ok (.iload_n 3, 1) := by decide +kernel
theorem dX7_changeSetting_23 : decode cX7_changeSetting 23 = .ok (.ireturn, 1) := by decide +kernel
theorem dX7_forget_0 : decode cX7_forget 0 = .ok (.iload_n 1, 1) := by decide +kernel
theorem dX7_forget_1 : decode cX7_forget 1 = .ok (.iconst 0, 1) := by decide +kernel
theorem dX7_forget_2 : decode cX7_forget 2 = .ok (.bipush 20, 2) := by decide +kernel
theorem dX7_forget_4 : decode cX7_forget 4 = .ok (.invokestatic 71, 3) := by decide +kernel
theorem dX7_forget_7 : decode cX7_forget 7 = .ok (.ifCond .eq 17, 3) := by decide +kernel
theorem dX7_forget_10 : decode cX7_forget 10 = .ok (.aload_n 0, 1) := by decide +kernel
theorem dX7_forget_11 : decode cX7_forget 11 = .ok (.getfield 36, 3) := by decide +kernel
theorem dX7_forget_14 : decode cX7_forget 14 = .ok (.iload_n 1, 1) := by decide +kernel
theorem dX7_forget_15 : decode cX7_forget 15 = .ok (.iconst 0, 1) := by decide +kernel
theorem dX7_forget_16 : decode cX7_forget 16 = .ok (.iastore, 1) := by decide +kernel
theorem dX7_forget_17 : decode cX7_forget 17 = .ok (.aload_n 0, 1) := by decide +kernel
theorem dX7_forget_18 : decode cX7_forget 18 = .ok (.getfield 39, 3) := by decide +kernel
theorem dX7_forget_21 : decode cX7_forget 21 = .ok (.iload_n 1, 1) := by decide +kernel
theorem dX7_forget_22 : decode cX7_forget 22 = .ok (.iconst 0, 1) := by decide +kernel
theorem dX7_forget_23 : decode cX7_forget 23 = .ok (.iastore, 1) := by decide +kernel
theorem dX7_forget_24 : decode cX7_forget 24 = .ok (.return_, 1) := by decide +kernel
theorem dX7_passWeeks_0 : decode cX7_passWeeks 0 = .ok (.aload_n 0, 1) := by decide +kernel
theorem dX7_passWeeks_1 : decode cX7_passWeeks 1 = .ok (.dup, 1) := by decide +kernel
theorem dX7_passWeeks_2 : decode cX7_passWeeks 2 = .ok (.getfield 52, 3) := by decide +kernel
theorem dX7_passWeeks_5 : decode cX7_passWeeks 5 = .ok (.iload_n 1, 1) := by decide +kernel
theorem dX7_passWeeks_6 : decode cX7_passWeeks 6 = .ok (.iadd, 1) := by decide +kernel
theorem dX7_passWeeks_7 : decode cX7_passWeeks 7 = .ok (.putfield 52, 3) := by decide +kernel
theorem dX7_passWeeks_10 : decode cX7_passWeeks 10 = .ok (.iconst 0, 1) := by decide +kernel
theorem dX7_passWeeks_11 : decode cX7_passWeeks 11 = .ok (.istore_n 2, 1) := by decide +kernel
theorem dX7_passWeeks_12 : decode cX7_passWeeks 12 = .ok (.iload_n 2, 1) := by decide +kernel
theorem dX7_passWeeks_13 : decode cX7_passWeeks 13 = .ok (.iload_n 1, 1) := by decide +kernel
theorem dX7_passWeeks_14 : decode cX7_passWeeks 14 = .ok (.if_icmp .ge 28, 3) := by decide +kernel
theorem dX7_passWeeks_17 : decode cX7_passWeeks 17 = .ok (.iconst 0, 1) := by decide +kernel
theorem dX7_passWeeks_18 : decode cX7_passWeeks 18 = .ok (.istore_n 3, 1) := by decide +kernel
theorem dX7_passWeeks_19 : decode cX7_passWeeks 19 = .ok (.iload_n 3, 1) := by decide +kernel
theorem dX7_passWeeks_20 : decode cX7_passWeeks 20 = .ok (.bipush 21, 2) := by decide +kernel
theorem dX7_passWeeks_22 : decode cX7_passWeeks 22 = .ok (.if_icmp .ge 14, 3) := by decide +kernel
theorem dX7_passWeeks_25 : decode cX7_passWeeks 25 = .ok (.aload_n 0, 1) := by decide +kernel
theorem dX7_passWeeks_26 : decode cX7_passWeeks 26 = .ok (.iload_n 3, 1) := by decide +kernel
theorem dX7_passWeeks_27 : decode cX7_passWeeks 27 = .ok (.invokevirtual 103, 3) := by decide +kernel
theorem dX7_passWeeks_30 : decode cX7_passWeeks 30 = .ok (.iinc 3 1, 3) := by decide +kernel
theorem dX7_passWeeks_33 : decode cX7_passWeeks 33 = .ok (.goto (-14), 3) := by decide +kernel
theorem dX7_passWeeks_36 : decode cX7_passWeeks 36 = .ok (.iinc 2 1, 3) := by decide +kernel
theorem dX7_passWeeks_39 : decode cX7_passWeeks 39 = .ok (.goto (-27), 3) := by decide +kernel
theorem dX7_passWeeks_42 : decode cX7_passWeeks 42 = .ok (.aload_n 0, 1) := by decide +kernel
theorem dX7_passWeeks_43 : decode cX7_passWeeks 43 = .ok (.invokevirtual 82, 3) := by decide +kernel
theorem dX7_passWeeks_46 : decode cX7_passWeeks 46 = .ok (.ireturn, 1) := by decide +kernel
theorem dX7_makeOlder_0 : decode cX7_makeOlder 0 = .ok (.aload_n 0, 1) := by decide +kernel
theorem dX7_makeOlder_1 : decode cX7_makeOlder 1 = .ok (.iload_n 1, 1) := by decide +kernel
theorem dX7_makeOlder_2 : decode cX7_makeOlder 2 = .ok (.invokevirtual 75, 3) := by decide +kernel
theorem dX7_makeOlder_5 : decode cX7_makeOlder 5 = .ok (.ifCond .eq 33, 3) := by decide +kernel
theorem dX7_makeOlder_8 : decode cX7_makeOlder 8 = .ok (.aload_n 0, 1) := by decide +kernel
theorem dX7_makeOlder_9 : decode cX7_makeOlder 9 = .ok (.getfield 39, 3) := by decide +kernel
theorem dX7_makeOlder_12 : decode cX7_makeOlder 12 = .ok (.iload_n 1, 1) := by decide +kernel
theorem dX7_makeOlder_13 : decode cX7_makeOlder 13 = .ok (.dup2, 1) := by decide +kernel
theorem dX7_makeOlder_14 : decode cX7_makeOlder 14 = .ok (.iaload, 1) := by decide +kernel
theorem dX7_makeOlder_15 : decode cX7_makeOlder 15 = .ok (.iconst 1, 1) := by decide +kernel
theorem dX7_makeOlder_16 : decode cX7_makeOlder 16 = .ok (.iadd, 1) := by decide +kernel
theorem dX7_makeOlder_17 : decode cX7_makeOlder 17 = .ok (.iastore, 1) := by decide +kernel
theorem dX7_makeOlder_18 : decode cX7_makeOlder 18 = .ok (.aload_n 0, 1) := by decide +kernel
theorem dX7_makeOlder_19 : decode cX7_makeOlder 19 = .ok (.getfield 39, 3) := by decide +kernel
theorem dX7_makeOlder_22 : decode cX7_makeOlder 22 = .ok (.iload_n 1, 1) := by decide +kernel
theorem dX7_makeOlder_23 : decode cX7_makeOlder 23 = .ok (.iaload, 1) := by decide +kernel
theorem dX7_makeOlder_24 : decode cX7_makeOlder 24 = .ok (.aload_n 0, 1) := by decide +kernel
theorem dX7_makeOlder_25 : decode cX7_makeOlder 25 = .ok (.getfield 24, 3) := by decide +kernel
theorem dX7_makeOlder_28 : decode cX7_makeOlder 28 = .ok (.iconst 2, 1) := by decide +kernel
theorem dX7_makeOlder_29 : decode cX7_makeOlder 29 = .ok (.iaload, 1) := by decide +kernel
theorem dX7_makeOlder_30 : decode cX7_makeOlder 30 = .ok (.if_icmp .le 8, 3) := by decide +kernel
theorem dX7_makeOlder_33 : decode cX7_makeOlder 33 = .ok (.aload_n 0, 1) := by decide +kernel
theorem dX7_makeOlder_34 : decode cX7_makeOlder 34 = .ok (.iload_n 1, 1) := by decide +kernel
theorem dX7_makeOlder_35 : decode cX7_makeOlder 35 = .ok (.invokevirtual 96, 3) := by decide +kernel
theorem dX7_makeOlder_38 : decode cX7_makeOlder 38 = .ok (.return_, 1) := by decide +kernel
theorem dX7_noteRun_0 : decode cX7_noteRun 0 = .ok (.aload_n 0, 1) := by decide +kernel
theorem dX7_noteRun_1 : decode cX7_noteRun 1 = .ok (.dup, 1) := by decide +kernel
theorem dX7_noteRun_2 : decode cX7_noteRun 2 = .ok (.getfield 55, 3) := by decide +kernel
theorem dX7_noteRun_5 : decode cX7_noteRun 5 = .ok (.iconst 1, 1) := by decide +kernel
theorem dX7_noteRun_6 : decode cX7_noteRun 6 = .ok (.iadd, 1) := by decide +kernel
theorem dX7_noteRun_7 : decode cX7_noteRun 7 = .ok (.putfield 55, 3) := by decide +kernel
theorem dX7_noteRun_10 : decode cX7_noteRun 10 = .ok (.aload_n 0, 1) := by decide +kernel
theorem dX7_noteRun_11 : decode cX7_noteRun 11 = .ok (.getfield 9, 3) := by decide +kernel
theorem dX7_noteRun_14 : decode cX7_noteRun 14 = .ok (.iconst 0, 1) := by decide +kernel
theorem dX7_noteRun_15 : decode cX7_noteRun 15 = .ok (.dup2, 1) := by decide +kernel
theorem dX7_noteRun_16 : decode cX7_noteRun 16 = .ok (.laload, 1) := by decide +kernel
theorem dX7_noteRun_17 : decode cX7_noteRun 17 = .ok (.lload_n 1, 1) := by decide +kernel
theorem dX7_noteRun_18 : decode cX7_noteRun 18 = .ok (.ladd, 1) := by decide +kernel
theorem dX7_noteRun_19 : decode cX7_noteRun 19 = .ok (.lastore, 1) := by decide +kernel
theorem dX7_noteRun_20 : decode cX7_noteRun 20 = .ok (.aload_n 0, 1) := by decide +kernel
theorem dX7_noteRun_21 : decode cX7_noteRun 21 = .ok (.getfield 9, 3) := by decide +kernel
theorem dX7_noteRun_24 : decode cX7_noteRun 24 = .ok (.iconst 1, 1) := by decide +kernel
theorem dX7_noteRun_25 : decode cX7_noteRun 25 = .ok (.dup2, 1) := by decide +kernel
theorem dX7_noteRun_26 : decode cX7_noteRun 26 = .ok (.laload, 1) := by decide +kernel
theorem dX7_noteRun_27 : decode cX7_noteRun 27 = .ok (.lload_n 3, 1) := by decide +kernel
theorem dX7_noteRun_28 : decode cX7_noteRun 28 = .ok (.ladd, 1) := by decide +kernel
theorem dX7_noteRun_29 : decode cX7_noteRun 29 = .ok (.lastore, 1) := by decide +kernel
theorem dX7_noteRun_30 : decode cX7_noteRun 30 = .ok (.aload_n 0, 1) := by decide +kernel
theorem dX7_noteRun_31 : decode cX7_noteRun 31 = .ok (.getfield 9, 3) := by decide +kernel
theorem dX7_noteRun_34 : decode cX7_noteRun 34 = .ok (.iconst 2, 1) := by decide +kernel
theorem dX7_noteRun_35 : decode cX7_noteRun 35 = .ok (.lload_n 1, 1) := by decide +kernel
theorem dX7_noteRun_36 : decode cX7_noteRun 36 = .ok (.lastore, 1) := by decide +kernel
theorem dX7_noteRun_37 : decode cX7_noteRun 37 = .ok (.aload_n 0, 1) := by decide +kernel
theorem dX7_noteRun_38 : decode cX7_noteRun 38 = .ok (.getfield 9, 3) := by decide +kernel
theorem dX7_noteRun_41 : decode cX7_noteRun 41 = .ok (.iconst 3, 1) := by decide +kernel
theorem dX7_noteRun_42 : decode cX7_noteRun 42 = .ok (.lload_n 3, 1) := by decide +kernel
theorem dX7_noteRun_43 : decode cX7_noteRun 43 = .ok (.lastore, 1) := by decide +kernel
theorem dX7_noteRun_44 : decode cX7_noteRun 44 = .ok (.return_, 1) := by decide +kernel
theorem dX7_learn_0 : decode cX7_learn 0 = .ok (.aload_n 0, 1) := by decide +kernel
theorem dX7_learn_1 : decode cX7_learn 1 = .ok (.getfield 58, 3) := by decide +kernel
theorem dX7_learn_4 : decode cX7_learn 4 = .ok (.istore_n 2, 1) := by decide +kernel
theorem dX7_learn_5 : decode cX7_learn 5 = .ok (.iconst 0, 1) := by decide +kernel
theorem dX7_learn_6 : decode cX7_learn 6 = .ok (.istore_n 3, 1) := by decide +kernel
theorem dX7_learn_7 : decode cX7_learn 7 = .ok (.iload_n 3, 1) := by decide +kernel
theorem dX7_learn_8 : decode cX7_learn 8 = .ok (.bipush 7, 2) := by decide +kernel
theorem dX7_learn_10 : decode cX7_learn 10 = .ok (.if_icmp .ge 51, 3) := by decide +kernel
theorem dX7_learn_13 : decode cX7_learn 13 = .ok (.iload_n 3, 1) := by decide +kernel
theorem dX7_learn_14 : decode cX7_learn 14 = .ok (.iconst 1, 1) := by decide +kernel
theorem dX7_learn_15 : decode cX7_learn 15 = .ok (.iadd, 1) := by decide +kernel
theorem dX7_learn_16 : decode cX7_learn 16 = .ok (.istore 4, 2) := by decide +kernel
theorem dX7_learn_18 : decode cX7_learn 18 = .ok (.iload 4, 2) := by decide +kernel
theorem dX7_learn_20 : decode cX7_learn 20 = .ok (.bipush 7, 2) := by decide +kernel
theorem dX7_learn_22 : decode cX7_learn 22 = .ok (.if_icmp .ge 33, 3) := by decide +kernel
theorem dX7_learn_25 : decode cX7_learn 25 = .ok (.iload_n 1, 1) := by decide +kernel
theorem dX7_learn_26 : decode cX7_learn 26 = .ok (.iload_n 3, 1) := by decide +kernel
theorem dX7_learn_27 : decode cX7_learn 27 = .ok (.invokestatic 106, 3) := by decide +kernel
theorem dX7_learn_30 : decode cX7_learn 30 = .ok (.ifCond .eq 19, 3) := by decide +kernel
theorem dX7_learn_33 : decode cX7_learn 33 = .ok (.iload_n 1, 1) := by decide +kernel
theorem dX7_learn_34 : decode cX7_learn 34 = .ok (.iload 4, 2) := by decide +kernel
theorem dX7_learn_36 : decode cX7_learn 36 = .ok (.invokestatic 106, 3) := by decide +kernel
theorem dX7_learn_39 : decode cX7_learn 39 = .ok (.ifCond .eq 10, 3) := by decide +kernel
theorem dX7_learn_42 : decode cX7_learn 42 = .ok (.aload_n 0, 1) := by decide +kernel
theorem dX7_learn_43 : decode cX7_learn 43 = .ok (.iload_n 3, 1) := by decide +kernel
theorem dX7_learn_44 : decode cX7_learn 44 = .ok (.iload 4, 2) := by decide +kernel
theorem dX7_learn_46 : decode cX7_learn 46 = .ok (.invokevirtual 110, 3) := by decide +kernel
theorem dX7_learn_49 : decode cX7_learn 49 = .ok (.iinc 4 1, 3) := by decide +kernel
theorem dX7_learn_52 : decode cX7_learn 52 = .ok (.goto (-34), 3) := by decide +kernel
theorem dX7_learn_55 : decode cX7_learn 55 = .ok (.iinc 3 1, 3) := by decide +kernel
theorem dX7_learn_58 : decode cX7_learn 58 = .ok (.goto (-51), 3) := by decide +kernel
theorem dX7_learn_61 : decode cX7_learn 61 = .ok (.aload_n 0, 1) := by decide +kernel
theorem dX7_learn_62 : decode cX7_learn 62 = .ok (.getfield 58, 3) := by decide +kernel
theorem dX7_learn_65 : decode cX7_learn 65 = .ok (.iload_n 2, 1) := by decide +kernel
theorem dX7_learn_66 : decode cX7_learn 66 = .ok (.isub, 1) := by decide +kernel
theorem dX7_learn_67 : decode cX7_learn 67 = .ok (.ireturn, 1) := by decide +kernel
theorem dX7_learnPair_0 : decode cX7_learnPair 0 = .ok (.iload_n 1, 1) := by decide +kernel
theorem dX7_learnPair_1 : decode cX7_learnPair 1 = .ok (.iload_n 2, 1) := by decide +kernel
theorem dX7_learnPair_2 : decode cX7_learnPair 2 = .ok (.invokestatic 114, 3) := by decide +kernel
theorem dX7_learnPair_5 : decode cX7_learnPair 5 = .ok (.istore_n 3, 1) := by decide +kernel
theorem dX7_learnPair_6 : decode cX7_learnPair 6 = .ok (.aload_n 0, 1) := by decide +kernel
theorem dX7_learnPair_7 : decode cX7_learnPair 7 = .ok (.iload_n 3, 1) := by decide +kernel
theorem dX7_learnPair_8 : decode cX7_learnPair 8 = .ok (.invokevirtual 85, 3) := by decide +kernel
theorem dX7_learnPair_11 : decode cX7_learnPair 11 = .ok (.ifCond .ne 4, 3) := by decide +kernel
theorem dX7_learnPair_14 : decode cX7_learnPair 14 = .ok (.return_, 1) := by decide +kernel
theorem dX7_learnPair_15 : decode cX7_learnPair 15 = .ok (.aload_n 0, 1) := by decide +kernel
theorem dX7_learnPair_16 : decode cX7_learnPair 16 = .ok (.getfield 39, 3) := by decide +kernel
theorem dX7_learnPair_19 : decode cX7_learnPair 19 = .ok (.iload_n 3, 1) := by decide +kernel
theorem dX7_learnPair_20 : decode cX7_learnPair 20 = .ok (.iconst 0, 1) := by decide +kernel
theorem dX7_learnPair_21 : decode cX7_learnPair 21 = .ok (.iastore, 1) := by decide +kernel
theorem dX7_learnPair_22 : decode cX7_learnPair 22 = .ok (.aload_n 0, 1) := by decide +kernel
theorem dX7_learnPair_23 : decode cX7_learnPair 23 = .ok (.iload_n 3, 1) := by decide +kernel
theorem dX7_learnPair_24 : decode cX7_learnPair 24 = .ok (.invokevirtual 117, 3) := by decide +kernel
theorem dX7_learnPair_27 : decode cX7_learnPair 27 = .ok (.istore 4, 2) := by decide +kernel
theorem dX7_learnPair_29 : decode cX7_learnPair 29 = .ok (.iload 4, 2) := by decide +kernel
theorem dX7_learnPair_31 : decode cX7_learnPair 31 = .ok (.aload_n 0, 1) := by decide +kernel
theorem dX7_learnPair_32 : decode cX7_learnPair 32 = .ok (.getfield 24, 3) := by decide +kernel
theorem dX7_learnPair_35 : decode cX7_learnPair 35 = .ok (.iconst 0, 1) := by decide +kernel
theorem dX7_learnPair_36 : decode cX7_learnPair 36 = .ok (.iaload, 1) := by decide +kernel
theorem dX7_learnPair_37 : decode cX7_learnPair 37 = .ok (.if_icmp .ge 4, 3) := by decide +kernel
theorem dX7_learnPair_40 : decode cX7_learnPair 40 = .ok (.return_, 1) := by decide +kernel
theorem dX7_learnPair_41 : decode cX7_learnPair 41 = .ok (.aload_n 0, 1) := by decide +kernel
theorem dX7_learnPair_42 : decode cX7_learnPair 42 = .ok (.iload_n 3, 1) := by decide +kernel
theorem dX7_learnPair_43 : decode cX7_learnPair 43 = .ok (.iconst 1, 1) := by decide +kernel
theorem dX7_learnPair_44 : decode cX7_learnPair 44 = .ok (.invokevirtual 88, 3) := by decide +kernel
theorem dX7_learnPair_47 : decode cX7_learnPair 47 = .ok (.istore 5, 2) := by decide +kernel
theorem dX7_learnPair_49 : decode cX7_learnPair 49 = .ok (.aload_n 0, 1) := by decide +kernel
theorem dX7_learnPair_50 : decode cX7_learnPair 50 = .ok (.bipush 10, 2) := by decide +kernel
theorem dX7_learnPair_52 : decode cX7_learnPair 52 = .ok (.iload_n 1, 1) := by decide +kernel
theorem dX7_learnPair_53 : decode cX7_learnPair 53 = .ok (.imul, 1) := by decide +kernel
theorem dX7_learnPair_54 : decode cX7_learnPair 54 = .ok (.iload_n 2, 1) := by decide +kernel
theorem dX7_learnPair_55 : decode cX7_learnPair 55 = .ok (.iadd, 1) := by decide +kernel
theorem dX7_learnPair_56 : decode cX7_learnPair 56 = .ok (.iload 5, 2) := by decide +kernel
theorem dX7_learnPair_58 : decode cX7_learnPair 58 = .ok (.aload_n 0, 1) := by decide +kernel
theorem dX7_learnPair_59 : decode cX7_learnPair 59 = .ok (.getfield 33, 3) := by decide +kernel
theorem dX7_learnPair_62 : decode cX7_learnPair 62 = .ok (.iload_n 3, 1) := by decide +kernel
theorem dX7_learnPair_63 : decode cX7_learnPair 63 = .ok (.iaload, 1) := by decide +kernel
theorem dX7_learnPair_64 : decode cX7_learnPair 64 = .ok (.invokevirtual 120, 3) := by decide +kernel
theorem dX7_learnPair_67 : decode cX7_learnPair 67 = .ok (.aload_n 0, 1) := by decide +kernel
theorem dX7_learnPair_68 : decode cX7_learnPair 68 = .ok (.getfield 42, 3) := by decide +kernel
theorem dX7_learnPair_71 : decode cX7_learnPair 71 = .ok (.iload_n 3, 1) := by decide +kernel
theorem dX7_learnPair_72 : decode cX7_learnPair 72 = .ok (.dup2, 1) := by decide +kernel
theorem dX7_learnPair_73 : decode cX7_learnPair 73 = .ok (.iaload, 1) := by decide +kernel
theorem dX7_learnPair_74 : decode cX7_learnPair 74 = .ok (.iconst 1, 1) := by decide +kernel
theorem dX7_learnPair_75 : decode cX7_learnPair 75 = .ok (.iadd, 1) := by decide +kernel
theorem dX7_learnPair_76 : decode cX7_learnPair 76 = .ok (.iastore, 1) := by decide +kernel
theorem dX7_learnPair_77 : decode cX7_learnPair 77 = .ok (.iconst 1, 1) := by decide +kernel
theorem dX7_learnPair_78 : decode cX7_learnPair 78 = .ok (.iload 4, 2) := by decide +kernel
theorem dX7_learnPair_80 : decode cX7_learnPair 80 = .ok (.aload_n 0, 1) := by decide +kernel
theorem dX7_learnPair_81 : decode cX7_learnPair 81 = .ok (.getfield 24, 3) := by decide +kernel
theorem dX7_learnPair_84 : decode cX7_learnPair 84 = .ok (.iconst 1, 1) := by decide +kernel
theorem dX7_learnPair_85 : decode cX7_learnPair 85 = .ok (.iaload, 1) := by decide +kernel
theorem dX7_learnPair_86 : decode cX7_learnPair 86 = .ok (.imul, 1) := by decide +kernel
theorem dX7_learnPair_87 : decode cX7_learnPair 87 = .ok (.bipush 10, 2) := by decide +kernel
theorem dX7_learnPair_89 : decode cX7_learnPair 89 = .ok (.idiv, 1) := by decide +kernel
theorem dX7_learnPair_90 : decode cX7_learnPair 90 = .ok (.invokestatic 124, 3) := by decide +kernel
theorem dX7_learnPair_93 : decode cX7_learnPair 93 = .ok (.istore 6, 2) := by decide +kernel
theorem dX7_learnPair_95 : decode cX7_learnPair 95 = .ok (.aload_n 0, 1) := by decide +kernel
theorem dX7_learnPair_96 : decode cX7_learnPair 96 = .ok (.getfield 36, 3) := by decide +kernel
theorem dX7_learnPair_99 : decode cX7_learnPair 99 = .ok (.iload_n 3, 1) := by decide +kernel
theorem dX7_learnPair_100 : decode cX7_learnPair 100 = .ok (.iload 5, 2) := by decide +kernel
theorem dX7_learnPair_102 : decode cX7_learnPair 102 = .ok (.aload_n 0, 1) := by decide +kernel
theorem dX7_learnPair_103 : decode cX7_learnPair 103 = .ok (.getfield 33, 3) := by decide +kernel
theorem dX7_learnPair_106 : decode cX7_learnPair 106 = .ok (.iload_n 3, 1) := by decide +kernel
theorem dX7_learnPair_107 : decode cX7_learnPair 107 = .ok (.iaload, 1) := by decide +kernel
theorem dX7_learnPair_108 : decode cX7_learnPair 108 = .ok (.if_icmp .ge 11, 3) := by decide +kernel
theorem dX7_learnPair_111 : decode cX7_learnPair 111 = .ok (.iload 5, 2) := by decide +kernel
theorem dX7_learnPair_113 : decode cX7_learnPair 113 = .ok (.iload 6, 2) := by decide +kernel
theorem dX7_learnPair_115 : decode cX7_learnPair 115 = .ok (.iadd, 1) := by decide +kernel
theorem dX7_learnPair_116 : decode cX7_learnPair 116 = .ok (.goto 8, 3) := by decide +kernel
theorem dX7_learnPair_119 : decode cX7_learnPair 119 = .ok (.iload 5, 2) := by decide +kernel
theorem dX7_learnPair_121 : decode cX7_learnPair 121 = .ok (.iload 6, 2) := by decide +kernel
theorem dX7_learnPair_123 : decode cX7_learnPair 123 = .ok (.isub, 1) := by decide +kernel
theorem dX7_learnPair_124 : decode cX7_learnPair 124 = .ok (.iastore, 1) := by decide +kernel
theorem dX7_learnPair_125 : decode cX7_learnPair 125 = .ok (.return_, 1) := by decide +kernel
theorem dX7_differenceOf_0 : decode cX7_differenceOf 0 = .ok (.aload_n 0, 1) := by decide +kernel
theorem dX7_differenceOf_1 : decode cX7_differenceOf 1 = .ok (.iload_n 1, 1) := by decide +kernel
theorem dX7_differenceOf_2 : decode cX7_differenceOf 2 = .ok (.iconst 1, 1) := by decide +kernel
theorem dX7_differenceOf_3 : decode cX7_differenceOf 3 = .ok (.invokevirtual 88, 3) := by decide +kernel
theorem dX7_differenceOf_6 : decode cX7_differenceOf 6 = .ok (.aload_n 0, 1) := by decide +kernel
theorem dX7_differenceOf_7 : decode cX7_differenceOf 7 = .ok (.iload_n 1, 1) := by decide +kernel
theorem dX7_differenceOf_8 : decode cX7_differenceOf 8 = .ok (.iconst 2, 1) := by decide +kernel
theorem dX7_differenceOf_9 : decode cX7_differenceOf 9 = .ok (.invokevirtual 88, 3) := by decide +kernel
theorem dX7_differenceOf_12 : decode cX7_differenceOf 12 = .ok (.isub, 1) := by decide +kernel
theorem dX7_differenceOf_13 : decode cX7_differenceOf 13 = .ok (.invokestatic 129, 3) := by decide +kernel
theorem dX7_differenceOf_16 : decode cX7_differenceOf 16 = .ok (.ireturn, 1) := by decide +kernel
theorem dX7_noteSurprise_0 : decode cX7_noteSurprise 0 = .ok (.aload_n 0, 1) := by decide +kernel
theorem dX7_noteSurprise_1 : decode cX7_noteSurprise 1 = .ok (.getfield 58, 3) := by decide +kernel
theorem dX7_noteSurprise_4 : decode cX7_noteSurprise 4 = .ok (.bipush 10, 2) := by decide +kernel
theorem dX7_noteSurprise_6 : decode cX7_noteSurprise 6 = .ok (.irem, 1) := by decide +kernel
theorem dX7_noteSurprise_7 : decode cX7_noteSurprise 7 = .ok (.iconst 4, 1) := by decide +kernel
theorem dX7_noteSurprise_8 : decode cX7_noteSurprise 8 = .ok (.imul, 1) := by decide +kernel
theorem dX7_noteSurprise_9 : decode cX7_noteSurprise 9 = .ok (.istore 4, 2) := by decide +kernel
theorem dX7_noteSurprise_11 : decode cX7_noteSurprise 11 = .ok (.iload 4, 2) := by decide +kernel
theorem dX7_noteSurprise_13 : decode cX7_noteSurprise 13 = .ok (.ifCond .lt 56, 3) := by decide +kernel
theorem dX7_noteSurprise_16 : decode cX7_noteSurprise 16 = .ok (.iload 4, 2) := by decide +kernel
theorem dX7_noteSurprise_18 : decode cX7_noteSurprise 18 = .ok (.iconst 3, 1) := by decide +kernel
theorem dX7_noteSurprise_19 : decode cX7_noteSurprise 19 = .ok (.iadd, 1) := by decide +kernel
theorem dX7_noteSurprise_20 : decode cX7_noteSurprise 20 = .ok (.aload_n 0, 1) := by decide +kernel
theorem dX7_noteSurprise_21 : decode cX7_noteSurprise 21 = .ok (.getfield 45, 3) := by decide +kernel
theorem dX7_noteSurprise_24 : decode cX7_noteSurprise 24 = .ok (.arraylength, 1) := by decide +kernel
theorem dX7_noteSurprise_25 : decode cX7_noteSurprise 25 = .ok (.if_icmp .ge 44, 3) := by decide +kernel
theorem dX7_noteSurprise_28 : decode cX7_noteSurprise 28 = .ok (.aload_n 0, 1) := by decide +kernel
theorem dX7_noteSurprise_29 : decode cX7_noteSurprise 29 = .ok (.getfield 45, 3) := by decide +kernel
theorem dX7_noteSurprise_32 : decode cX7_noteSurprise 32 = .ok (.iload 4, 2) := by decide +kernel
theorem dX7_noteSurprise_34 : decode cX7_noteSurprise 34 = .ok (.iload_n 1, 1) := by decide +kernel
theorem dX7_noteSurprise_35 : decode cX7_noteSurprise 35 = .ok (.iastore, 1) := by decide +kernel
theorem dX7_noteSurprise_36 : decode cX7_noteSurprise 36 = .ok (.aload_n 0, 1) := by decide +kernel
theorem dX7_noteSurprise_37 : decode cX7_noteSurprise 37 = .ok (.getfield 45, 3) := by decide +kernel
theorem dX7_noteSurprise_40 : decode cX7_noteSurprise 40 = .ok (.iload 4, 2) := by decide +kernel
theorem dX7_noteSurprise_42 : decode cX7_noteSurprise 42 = .ok (.iconst 1, 1) := by decide +kernel
theorem dX7_noteSurprise_43 : decode cX7_noteSurprise 43 = .ok (.iadd, 1) := by decide +kernel
theorem dX7_noteSurprise_44 : decode cX7_noteSurprise 44 = .ok (.iload_n 2, 1) := by decide +kernel
theorem dX7_noteSurprise_45 : decode cX7_noteSurprise 45 = .ok (.iastore, 1) := by decide +kernel
theorem dX7_noteSurprise_46 : decode cX7_noteSurprise 46 = .ok (.aload_n 0, 1) := by decide +kernel
theorem dX7_noteSurprise_47 : decode cX7_noteSurprise 47 = .ok (.getfield 45, 3) := by decide +kernel
theorem dX7_noteSurprise_50 : decode cX7_noteSurprise 50 = .ok (.iload 4, 2) := by decide +kernel
theorem dX7_noteSurprise_52 : decode cX7_noteSurprise 52 = .ok (.iconst 2, 1) := by decide +kernel
theorem dX7_noteSurprise_53 : decode cX7_noteSurprise 53 = .ok (.iadd, 1) := by decide +kernel
theorem dX7_noteSurprise_54 : decode cX7_noteSurprise 54 = .ok (.iload_n 3, 1) := by decide +kernel
theorem dX7_noteSurprise_55 : decode cX7_noteSurprise 55 = .ok (.iastore, 1) := by decide +kernel
theorem dX7_noteSurprise_56 : decode cX7_noteSurprise 56 = .ok (.aload_n 0, 1) := by decide +kernel
theorem dX7_noteSurprise_57 : decode cX7_noteSurprise 57 = .ok (.getfield 45, 3) := by decide +kernel
theorem dX7_noteSurprise_60 : decode cX7_noteSurprise 60 = .ok (.iload 4, 2) := by decide +kernel
theorem dX7_noteSurprise_62 : decode cX7_noteSurprise 62 = .ok (.iconst 3, 1) := by decide +kernel
theorem dX7_noteSurprise_63 : decode cX7_noteSurprise 63 = .ok (.iadd, 1) := by decide +kernel
theorem dX7_noteSurprise_64 : decode cX7_noteSurprise 64 = .ok (.aload_n 0, 1) := by decide +kernel
theorem dX7_noteSurprise_65 : decode cX7_noteSurprise 65 = .ok (.getfield 52, 3) := by decide +kernel
theorem dX7_noteSurprise_68 : decode cX7_noteSurprise 68 = .ok (.iastore, 1) := by decide +kernel
theorem dX7_noteSurprise_69 : decode cX7_noteSurprise 69 = .ok (.aload_n 0, 1) := by decide +kernel
theorem dX7_noteSurprise_70 : decode cX7_noteSurprise 70 = .ok (.dup, 1) := by decide +kernel
theorem dX7_noteSurprise_71 : decode cX7_noteSurprise 71 = .ok (.getfield 58, 3) := by decide +kernel
theorem dX7_noteSurprise_74 : decode cX7_noteSurprise 74 = .ok (.iconst 1, 1) := by decide +kernel
theorem dX7_noteSurprise_75 : decode cX7_noteSurprise 75 = .ok (.iadd, 1) := by decide +kernel
theorem dX7_noteSurprise_76 : decode cX7_noteSurprise 76 = .ok (.putfield 58, 3) := by decide +kernel
theorem dX7_noteSurprise_79 : decode cX7_noteSurprise 79 = .ok (.return_, 1) := by decide +kernel
theorem dX7_mostWronglyBelieved_0 : decode cX7_mostWronglyBelieved 0 = .ok (.iconst (-1), 1) := by decide +kernel
theorem dX7_mostWronglyBelieved_1 : decode cX7_mostWronglyBelieved 1 = .ok (.istore_n 1, 1) := by decide +kernel
theorem dX7_mostWronglyBelieved_2 : decode cX7_mostWronglyBelieved 2 = .ok (.iconst (-1), 1) := by decide +kernel
theorem dX7_mostWronglyBelieved_3 : decode cX7_mostWronglyBelieved 3 = .ok (.istore_n 2, 1) := by decide +kernel
theorem dX7_mostWronglyBelieved_4 : decode cX7_mostWronglyBelieved 4 = .ok (.iconst 0, 1) := by decide +kernel
theorem dX7_mostWronglyBelieved_5 : decode cX7_mostWronglyBelieved 5 = .ok (.istore_n 3, 1) := by decide +kernel
theorem dX7_mostWronglyBelieved_6 : decode cX7_mostWronglyBelieved 6 = .ok (.iload_n 3, 1) := by decide +kernel
theorem dX7_mostWronglyBelieved_7 : decode cX7_mostWronglyBelieved 7 = .ok (.bipush 7, 2) := by decide +kernel
theorem dX7_mostWronglyBelieved_9 : decode cX7_mostWronglyBelieved 9 = .ok (.if_icmp .ge 69, 3) := by decide +kernel
theorem dX7_mostWronglyBelieved_12 : decode cX7_mostWronglyBelieved 12 = .ok (.iload_n 3, 1) := by decide +kernel
theorem dX7_mostWronglyBelieved_13 : decode cX7_mostWronglyBelieved 13 = .ok (.iconst 1, 1) := by decide +kernel
theorem dX7_mostWronglyBelieved_14 : decode cX7_mostWronglyBelieved 14 = .ok (.iadd, 1) := by decide +kernel
theorem dX7_mostWronglyBelieved_15 : decode cX7_mostWronglyBelieved 15 = .ok (.istore 4, 2) := by decide +kernel
theorem dX7_mostWronglyBelieved_17 : decode cX7_mostWronglyBelieved 17 = .ok (.iload 4, 2) := by decide +kernel
theorem dX7_mostWronglyBelieved_19 : decode cX7_mostWronglyBelieved 19 = .ok (.bipush 7, 2) := by decide +kernel
theorem dX7_mostWronglyBelieved_21 : decode cX7_mostWronglyBelieved 21 = .ok (.if_icmp .ge 51, 3) := by decide +kernel
theorem dX7_mostWronglyBelieved_24 : decode cX7_mostWronglyBelieved 24 = .ok (.iload_n 3, 1) := by decide +kernel
theorem dX7_mostWronglyBelieved_25 : decode cX7_mostWronglyBelieved 25 = .ok (.iload 4, 2) := by decide +kernel
theorem dX7_mostWronglyBelieved_27 : decode cX7_mostWronglyBelieved 27 = .ok (.invokestatic 114, 3) := by decide +kernel
theorem dX7_mostWronglyBelieved_30 : decode cX7_mostWronglyBelieved 30 = .ok (.istore 5, 2) := by decide +kernel
theorem dX7_mostWronglyBelieved_32 : decode cX7_mostWronglyBelieved 32 = .ok (.aload_n 0, 1) := by decide +kernel
theorem dX7_mostWronglyBelieved_33 : decode cX7_mostWronglyBelieved 33 = .ok (.iload 5, 2) := by decide +kernel
theorem dX7_mostWronglyBelieved_35 : decode cX7_mostWronglyBelieved 35 = .ok (.invokevirtual 85, 3) := by decide +kernel
theorem dX7_mostWronglyBelieved_38 : decode cX7_mostWronglyBelieved 38 = .ok (.ifCond .eq 28, 3) := by decide +kernel
theorem dX7_mostWronglyBelieved_41 : decode cX7_mostWronglyBelieved 41 = .ok (.aload_n 0, 1) := by decide +kernel
theorem dX7_mostWronglyBelieved_42 : decode cX7_mostWronglyBelieved 42 = .ok (.iload 5, 2) := by decide +kernel
theorem dX7_mostWronglyBelieved_44 : decode cX7_mostWronglyBelieved 44 = .ok (.invokevirtual 117, 3) := by decide +kernel
theorem dX7_mostWronglyBelieved_47 : decode cX7_mostWronglyBelieved 47 = .ok (.iload_n 2, 1) := by decide +kernel
theorem dX7_mostWronglyBelieved_48 : decode cX7_mostWronglyBelieved 48 = .ok (.if_icmp .le 18, 3) := by decide +kernel
theorem dX7_mostWronglyBelieved_51 : decode cX7_mostWronglyBelieved 51 = .ok (.aload_n 0, 1) := by decide +kernel
theorem dX7_mostWronglyBelieved_52 : decode cX7_mostWronglyBelieved 52 = .ok (.iload 5, 2) := by decide +kernel
theorem dX7_mostWronglyBelieved_54 : decode cX7_mostWronglyBelieved 54 = .ok (.invokevirtual 117, 3) := by decide +kernel
theorem dX7_mostWronglyBelieved_57 : decode cX7_mostWronglyBelieved 57 = .ok (.istore_n 2, 1) := by decide +kernel
theorem dX7_mostWronglyBelieved_58 : decode cX7_mostWronglyBelieved 58 = .ok (.bipush 10, 2) := by decide +kernel
theorem dX7_mostWronglyBelieved_60 : decode cX7_mostWronglyBelieved 60 = .ok (.iload_n 3, 1) := by decide +kernel
theorem dX7_mostWronglyBelieved_61 : decode cX7_mostWronglyBelieved 61 = .ok (.imul, 1) := by decide +kernel
theorem dX7_mostWronglyBelieved_62 : decode cX7_mostWronglyBelieved 62 = .ok (.iload 4, 2) := by decide +kernel
theorem dX7_mostWronglyBelieved_64 : decode cX7_mostWronglyBelieved 64 = .ok (.iadd, 1) := by decide +kernel
theorem dX7_mostWronglyBelieved_65 : decode cX7_mostWronglyBelieved 65 = .ok (.istore_n 1, 1) := by decide +kernel
theorem dX7_mostWronglyBelieved_66 : decode cX7_mostWronglyBelieved 66 = .ok (.iinc 4 1, 3) := by decide +kernel
theorem dX7_mostWronglyBelieved_69 : decode cX7_mostWronglyBelieved 69 = .ok (.goto (-52), 3) := by decide +kernel
theorem dX7_mostWronglyBelieved_72 : decode cX7_mostWronglyBelieved 72 = .ok (.iinc 3 1, 3) := by decide +kernel
theorem dX7_mostWronglyBelieved_75 : decode cX7_mostWronglyBelieved 75 = .ok (.goto (-69), 3) := by decide +kernel
theorem dX7_mostWronglyBelieved_78 : decode cX7_mostWronglyBelieved 78 = .ok (.iload_n 1, 1) := by decide +kernel
theorem dX7_mostWronglyBelieved_79 : decode cX7_mostWronglyBelieved 79 = .ok (.ireturn, 1) := by decide +kernel
theorem dX8_init_0 : decode cX8_init 0 = .ok (.aload_n 0, 1) := by decide +kernel
theorem dX8_init_1 : decode cX8_init 1 = .ok (.invokespecial 1, 3) := by decide +kernel
theorem dX8_init_4 : decode cX8_init 4 = .ok (.aload_n 0, 1) := by decide +kernel
theorem dX8_init_5 : decode cX8_init 5 = .ok (.new 7, 3) := by decide +kernel
theorem dX8_init_8 : decode cX8_init 8 = .ok (.dup, 1) := by decide +kernel
theorem dX8_init_9 : decode cX8_init 9 = .ok (.invokespecial 9, 3) := by decide +kernel
theorem dX8_init_12 : decode cX8_init 12 = .ok (.putfield 10, 3) := by decide +kernel
theorem dX8_init_15 : decode cX8_init 15 = .ok (.aload_n 0, 1) := by decide +kernel
theorem dX8_init_16 : decode cX8_init 16 = .ok (.new 16, 3) := by decide +kernel
theorem dX8_init_19 : decode cX8_init 19 = .ok (.dup, 1) := by decide +kernel
theorem dX8_init_20 : decode cX8_init 20 = .ok (.invokespecial 18, 3) := by decide +kernel
theorem dX8_init_23 : decode cX8_init 23 = .ok (.putfield 19, 3) := by decide +kernel
theorem dX8_init_26 : decode cX8_init 26 = .ok (.aload_n 0, 1) := by decide +kernel
theorem dX8_init_27 : decode cX8_init 27 = .ok (.new 23, 3) := by decide +kernel
theorem dX8_init_30 : decode cX8_init 30 = .ok (.dup, 1) := by decide +kernel
theorem dX8_init_31 : decode cX8_init 31 = .ok (.invokespecial 25, 3) := by decide +kernel
theorem dX8_init_34 : decode cX8_init 34 = .ok (.putfield 26, 3) := by decide +kernel
theorem dX8_init_37 : decode cX8_init 37 = .ok (.aload_n 0, 1) := by decide +kernel
theorem dX8_init_38 : decode cX8_init 38 = .ok (.new 30, 3) := by decide +kernel
theorem dX8_init_41 : decode cX8_init 41 = .ok (.dup, 1) := by decide +kernel
theorem dX8_init_42 : decode cX8_init 42 = .ok (.invokespecial 32, 3) := by decide +kernel
theorem dX8_init_45 : decode cX8_init 45 = .ok (.putfield 33, 3) := by decide +kernel
theorem dX8_init_48 : decode cX8_init 48 = .ok (.aload_n 0, 1) := by decide +kernel
theorem dX8_init_49 : decode cX8_init 49 = .ok (.new 30, 3) := by decide +kernel
theorem dX8_init_52 : decode cX8_init 52 = .ok (.dup, 1) := by decide +kernel
theorem dX8_init_53 : decode cX8_init 53 = .ok (.invokespecial 32, 3) := by decide +kernel
theorem dX8_init_56 : decode cX8_init 56 = .ok (.putfield 37, 3) := by decide +kernel
theorem dX8_init_59 : decode cX8_init 59 = .ok (.aload_n 0, 1) := by decide +kernel
theorem dX8_init_60 : decode cX8_init 60 = .ok (.new 40, 3) := by decide +kernel
theorem dX8_init_63 : decode cX8_init 63 = .ok (.dup, 1) := by decide +kernel
theorem dX8_init_64 : decode cX8_init 64 = .ok (.invokespecial 42, 3) := by decide +kernel
theorem dX8_init_67 : decode cX8_init 67 = .ok (.putfield 43, 3) := by decide +kernel
theorem dX8_init_70 : decode cX8_init 70 = .ok (.aload_n 0, 1) := by decide +kernel
theorem dX8_init_71 : decode cX8_init 71 = .ok (.new 47, 3) := by decide +kernel
theorem dX8_init_74 : decode cX8_init 74 = .ok (.dup, 1) := by decide +kernel
theorem dX8_init_75 : decode cX8_init 75 = .ok (.invokespecial 49, 3) := by decide +kernel
theorem dX8_init_78 : decode cX8_init 78 = .ok (.putfield 50, 3) := by decide +kernel
theorem dX8_init_81 : decode cX8_init 81 = .ok (.aload_n 0, 1) := by decide +kernel
theorem dX8_init_82 : decode cX8_init 82 = .ok (.new 54, 3) := by decide +kernel
theorem dX8_init_85 : decode cX8_init 85 = .ok (.dup, 1) := by decide +kernel
theorem dX8_init_86 : decode cX8_init 86 = .ok (.invokespecial 56, 3) := by decide +kernel
theorem dX8_init_89 : decode cX8_init 89 = .ok (.putfield 57, 3) := by decide +kernel
theorem dX8_init_92 : decode cX8_init 92 = .ok (.aload_n 0, 1) := by decide +kernel
theorem dX8_init_93 : decode cX8_init 93 = .ok (.new 54, 3) := by decide +kernel
theorem dX8_init_96 : decode cX8_init 96 = .ok (.dup, 1) := by decide +kernel
theorem dX8_init_97 : decode cX8_init 97 = .ok (.invokespecial 56, 3) := by decide +kernel
theorem dX8_init_100 : decode cX8_init 100 = .ok (.putfield 61, 3) := by decide +kernel
theorem dX8_init_103 : decode cX8_init 103 = .ok (.return_, 1) := by decide +kernel
theorem dX8_append_0 : decode cX8_append 0 = .ok (.iload_n 1, 1) := by decide +kernel
theorem dX8_append_1 : decode cX8_append 1 = .ok (.iconst 0, 1) := by decide +kernel
theorem dX8_append_2 : decode cX8_append 2 = .ok (.sipush 255, 3) := by decide +kernel
theorem dX8_append_5 : decode cX8_append 5 = .ok (.invokestatic 64, 3) := by decide +kernel
theorem dX8_append_8 : decode cX8_append 8 = .ok (.aload_n 0, 1) := by decide +kernel
theorem dX8_append_9 : decode cX8_append 9 = .ok (.getfield 10, 3) := by decide +kernel
theorem dX8_append_12 : decode cX8_append 12 = .ok (.invokevirtual 68, 3) := by decide +kernel
theorem dX8_append_15 : decode cX8_append 15 = .ok (.ifCond .eq 13, 3) := by decide +kernel
theorem dX8_append_18 : decode cX8_append 18 = .ok (.new 72, 3) := by decide +kernel
theorem dX8_append_21 : decode cX8_append 21 = .ok (.dup, 1) := by decide +kernel
theorem dX8_append_22 : decode cX8_append 22 = .ok (.ldc 74, 2) := by decide +kernel
theorem dX8_append_24 : decode cX8_append 24 = .ok (.invokespecial 76, 3) := by decide +kernel
theorem dX8_append_27 : decode cX8_append 27 = .ok (.athrow, 1) := by decide +kernel
theorem dX8_append_28 : decode cX8_append 28 = .ok (.aload_n 0, 1) := by decide +kernel
theorem dX8_append_29 : decode cX8_append 29 = .ok (.getfield 10, 3) := by decide +kernel
theorem dX8_append_32 : decode cX8_append 32 = .ok (.iload_n 1, 1) := by decide +kernel
theorem dX8_append_33 : decode cX8_append 33 = .ok (.i2c, 1) := by decide +kernel
theorem dX8_append_34 : decode cX8_append 34 = .ok (.invokevirtual 79, 3) := by decide +kernel
theorem dX8_append_37 : decode cX8_append 37 = .ok (.ireturn, 1) := by decide +kernel
theorem dX8_clearText_0 : decode cX8_clearText 0 = .ok (.aload_n 0, 1) := by decide +kernel
theorem dX8_clearText_1 : decode cX8_clearText 1 = .ok (.getfield 10, 3) := by decide +kernel
theorem dX8_clearText_4 : decode cX8_clearText 4 = .ok (.invokevirtual 83, 3) := by decide +kernel
theorem dX8_clearText_7 : decode cX8_clearText 7 = .ok (.ireturn, 1) := by decide +kernel
theorem dX8_errorPosition_0 : decode cX8_errorPosition 0 = .ok (.iload_n 1, 1) := by decide +kernel
theorem dX8_errorPosition_1 : decode cX8_errorPosition 1 = .ok (.ifCond .eq 17, 3) := by decide +kernel
theorem dX8_errorPosition_4 : decode cX8_errorPosition 4 = .ok (.aload_n 0, 1) := by decide +kernel
theorem dX8_errorPosition_5 : decode cX8_errorPosition 5 = .ok (.getfield 10, 3) := by decide +kernel
theorem dX8_errorPosition_8 : decode cX8_errorPosition 8 = .ok (.aload_n 0, 1) := by decide +kernel
theorem dX8_errorPosition_9 : decode cX8_errorPosition 9 = .ok (.getfield 26, 3) := by decide +kernel
theorem dX8_errorPosition_12 : decode cX8_errorPosition 12 = .ok (.invokevirtual 87, 3) := by decide +kernel
theorem dX8_errorPosition_15 : decode cX8_errorPosition 15 = .ok (.goto 14, 3) := by decide +kernel
theorem dX8_errorPosition_18 : decode cX8_errorPosition 18 = .ok (.aload_n 0, 1) := by decide +kernel
theorem dX8_errorPosition_19 : decode cX8_errorPosition 19 = .ok (.getfield 10, 3) := by decide +kernel
theorem dX8_errorPosition_22 : decode cX8_errorPosition 22 = .ok (.aload_n 0, 1) := by decide +kernel
theorem dX8_errorPosition_23 : decode cX8_errorPosition 23 = .ok (.getfield 19, 3) := by decide +kernel
theorem dX8_errorPosition_26 : decode cX8_errorPosition 26 = .ok (.invokevirtual 87, 3) := by decide +kernel
theorem dX8_errorPosition_29 : decode cX8_errorPosition 29 = .ok (.ireturn, 1) := by decide +kernel
theorem dX8_load_0 : decode cX8_load 0 = .ok (.aload_n 0, 1) := by decide +kernel
theorem dX8_load_1 : decode cX8_load 1 = .ok (.getfield 10, 3) := by decide +kernel
theorem dX8_load_4 : decode cX8_load 4 = .ok (.aload_n 0, 1) := by decide +kernel
theorem dX8_load_5 : decode cX8_load 5 = .ok (.getfield 19, 3) := by decide +kernel
theorem dX8_load_8 : decode cX8_load 8 = .ok (.invokevirtual 87, 3) := by decide +kernel
theorem dX8_load_11 : decode cX8_load 11 = .ok (.iconst (-1), 1) := by decide +kernel
theorem dX8_load_12 : decode cX8_load 12 = .ok (.if_icmp .eq 13, 3) := by decide +kernel
theorem dX8_load_15 : decode cX8_load 15 = .ok (.new 72, 3) := by decide +kernel
theorem dX8_load_18 : decode cX8_load 18 = .ok (.dup, 1) := by decide +kernel
theorem dX8_load_19 : decode cX8_load 19 = .ok (.ldc 91, 2) := by decide +kernel
theorem dX8_load_21 : decode cX8_load 21 = .ok (.invokespecial 76, 3) := by decide +kernel
theorem dX8_load_24 : decode cX8_load 24 = .ok (.athrow, 1) := by decide +kernel
theorem dX8_load_25 : decode cX8_load 25 = .ok (.aload_n 0, 1) := by decide +kernel
theorem dX8_load_26 : decode cX8_load 26 = .ok (.getfield 33, 3) := by decide +kernel
theorem dX8_load_29 : decode cX8_load 29 = .ok (.invokevirtual 93, 3) := by decide +kernel
theorem dX8_load_32 : decode cX8_load 32 = .ok (.aload_n 0, 1) := by decide +kernel
theorem dX8_load_33 : decode cX8_load 33 = .ok (.getfield 43, 3) := by decide +kernel
theorem dX8_load_36 : decode cX8_load 36 = .ok (.invokevirtual 96, 3) := by decide +kernel
theorem dX8_load_39 : decode cX8_load 39 = .ok (.aload_n 0, 1) := by decide +kernel
theorem dX8_load_40 : decode cX8_load 40 = .ok (.getfield 50, 3) := by decide +kernel
theorem dX8_load_43 : decode cX8_load 43 = .ok (.invokevirtual 99, 3) := by decide +kernel
theorem dX8_load_46 : decode cX8_load 46 = .ok (.aload_n 0, 1) := by decide +kernel
theorem dX8_load_47 : decode cX8_load 47 = .ok (.invokevirtual 102, 3) := by decide +kernel
theorem dX8_load_50 : decode cX8_load 50 = .ok (.ireturn, 1) := by decide +kernel
theorem dX8_about_0 : decode cX8_about 0 = .ok (.iload_n 1, 1) := by decide +kernel
theorem dX8_about_1 : decode cX8_about 1 = .ok (.iconst 0, 1) := by decide +kernel
theorem dX8_about_2 : decode cX8_about 2 = .ok (.iconst 5, 1) := by decide +kernel
theorem dX8_about_3 : decode cX8_about 3 = .ok (.invokestatic 64, 3) := by decide +kernel
theorem dX8_about_6 : decode cX8_about 6 = .ok (.aload_n 0, 1) := by decide +kernel
theorem dX8_about_7 : decode cX8_about 7 = .ok (.getfield 33, 3) := by decide +kernel
theorem dX8_about_10 : decode cX8_about 10 = .ok (.iload_n 1, 1) := by decide +kernel
theorem dX8_about_11 : decode cX8_about 11 = .ok (.invokevirtual 105, 3) := by decide +kernel
theorem dX8_about_14 : decode cX8_about 14 = .ok (.ireturn, 1) := by decide +kernel
theorem dX8_sum_0 : decode cX8_sum 0 = .ok (.iload_n 1, 1) := by decide +kernel
theorem dX8_sum_1 : decode cX8_sum 1 = .ok (.iconst 0, 1) := by decide +kernel
theorem dX8_sum_2 : decode cX8_sum 2 = .ok (.iconst 3, 1) := by decide +kernel
theorem dX8_sum_3 : decode cX8_sum 3 = .ok (.invokestatic 64, 3) := by decide +kernel
theorem dX8_sum_6 : decode cX8_sum 6 = .ok (.aload_n 0, 1) := by decide +kernel
theorem dX8_sum_7 : decode cX8_sum 7 = .ok (.getfield 33, 3) := by decide +kernel
theorem dX8_sum_10 : decode cX8_sum 10 = .ok (.iload_n 1, 1) := by decide +kernel
theorem dX8_sum_11 : decode cX8_sum 11 = .ok (.invokevirtual 109, 3) := by decide +kernel
theorem dX8_sum_14 : decode cX8_sum 14 = .ok (.lreturn, 1) := by decide +kernel
theorem dX8_size_0 : decode cX8_size 0 = .ok (.aload_n 0, 1) := by decide +kernel
theorem dX8_size_1 : decode cX8_size 1 = .ok (.iload_n 1, 1) := by decide +kernel
theorem dX8_size_2 : decode cX8_size 2 = .ok (.invokevirtual 113, 3) := by decide +kernel
theorem dX8_size_5 : decode cX8_size 5 = .ok (.aload_n 0, 1) := by decide +kernel
theorem dX8_size_6 : decode cX8_size 6 = .ok (.getfield 33, 3) := by decide +kernel
theorem dX8_size_9 : decode cX8_size 9 = .ok (.iload_n 1, 1) := by decide +kernel
theorem dX8_size_10 : decode cX8_size 10 = .ok (.invokevirtual 117, 3) := by decide +kernel
theorem dX8_size_13 : decode cX8_size 13 = .ok (.ireturn, 1) := by decide +kernel
theorem dX8_pair_0 : decode cX8_pair 0 = .ok (.aload_n 0, 1) := by decide +kernel
theorem dX8_pair_1 : decode cX8_pair 1 = .ok (.iload_n 1, 1) := by decide +kernel
theorem dX8_pair_2 : decode cX8_pair 2 = .ok (.iload_n 2, 1) := by decide +kernel
theorem dX8_pair_3 : decode cX8_pair 3 = .ok (.invokevirtual 120, 3) := by decide +kernel
theorem dX8_pair_6 : decode cX8_pair 6 = .ok (.iload_n 3, 1) := by decide +kernel
theorem dX8_pair_7 : decode cX8_pair 7 = .ok (.iconst 0, 1) := by decide +kernel
theorem dX8_pair_8 : decode cX8_pair 8 = .ok (.iconst 4, 1) := by decide +kernel
theorem dX8_pair_9 : decode cX8_pair 9 = .ok (.invokestatic 64, 3) := by decide +kernel
theorem dX8_pair_12 : decode cX8_pair 12 = .ok (.aload_n 0, 1) := by decide +kernel
theorem dX8_pair_13 : decode cX8_pair 13 = .ok (.getfield 33, 3) := by decide +kernel
theorem dX8_pair_16 : decode cX8_pair 16 = .ok (.iload_n 1, 1) := by decide +kernel
theorem dX8_pair_17 : decode cX8_pair 17 = .ok (.iload_n 2, 1) := by decide +kernel
theorem dX8_pair_18 : decode cX8_pair 18 = .ok (.invokestatic 124, 3) := by decide +kernel
theorem dX8_pair_21 : decode cX8_pair 21 = .ok (.iload_n 3, 1) := by decide +kernel
theorem dX8_pair_22 : decode cX8_pair 22 = .ok (.invokevirtual 128, 3) := by decide +kernel
theorem dX8_pair_25 : decode cX8_pair 25 = .ok (.ireturn, 1) := by decide +kernel
theorem dX8_surprise_0 : decode cX8_surprise 0 = .ok (.iload_n 1, 1) := by decide +kernel
theorem dX8_surprise_1 : decode cX8_surprise 1 = .ok (.iconst 0, 1) := by decide +kernel
theorem dX8_surprise_2 : decode cX8_surprise 2 = .ok (.bipush 9, 2) := by decide +kernel
theorem dX8_surprise_4 : decode cX8_surprise 4 = .ok (.invokestatic 64, 3) := by decide +kernel
theorem dX8_surprise_7 : decode cX8_surprise 7 = .ok (.iload_n 2, 1) := by decide +kernel
theorem dX8_surprise_8 : decode cX8_surprise 8 = .ok (.iconst 0, 1) := by decide +kernel
theorem dX8_surprise_9 : decode cX8_surprise 9 = .ok (.iconst 3, 1) := by decide +kernel
theorem dX8_surprise_10 : decode cX8_surprise 10 = .ok (.invokestatic 64, 3) := by decide +kernel
theorem dX8_surprise_13 : decode cX8_surprise 13 = .ok (.aload_n 0, 1) := by decide +kernel
theorem dX8_surprise_14 : decode cX8_surprise 14 = .ok (.getfield 33, 3) := by decide +kernel
theorem dX8_surprise_17 : decode cX8_surprise 17 = .ok (.iload_n 1, 1) := by decide +kernel
theorem dX8_surprise_18 : decode cX8_surprise 18 = .ok (.iload_n 2, 1) := by decide +kernel
theorem dX8_surprise_19 : decode cX8_surprise 19 = .ok (.invokevirtual 131, 3) := by decide +kernel
theorem dX8_surprise_22 : decode cX8_surprise 22 = .ok (.ireturn, 1) := by decide +kernel
theorem dX8_setting_0 : decode cX8_setting 0 = .ok (.iload_n 1, 1) := by decide +kernel
theorem dX8_setting_1 : decode cX8_setting 1 = .ok (.iconst 0, 1) := by decide +kernel
theorem dX8_setting_2 : decode cX8_setting 2 = .ok (.iconst 2, 1) := by decide +kernel
theorem dX8_setting_3 : decode cX8_setting 3 = .ok (.invokestatic 64, 3) := by decide +kernel
theorem dX8_setting_6 : decode cX8_setting 6 = .ok (.aload_n 0, 1) := by decide +kernel
theorem dX8_setting_7 : decode cX8_setting 7 = .ok (.getfield 33, 3) := by decide +kernel
theorem dX8_setting_10 : decode cX8_setting 10 = .ok (.iload_n 1, 1) := by decide +kernel
theorem dX8_setting_11 : decode cX8_setting 11 = .ok (.invokevirtual 134, 3) := by decide +kernel
theorem dX8_setting_14 : decode cX8_setting 14 = .ok (.ireturn, 1) := by decide +kernel
theorem dX8_add_0 : decode cX8_add 0 = .ok (.iload_n 1, 1) := by decide +kernel
theorem dX8_add_1 : decode cX8_add 1 = .ok (.iconst 1, 1) := by decide +kernel
theorem dX8_add_2 : decode cX8_add 2 = .ok (.sipush 9999, 3) := by decide +kernel
theorem dX8_add_5 : decode cX8_add 5 = .ok (.invokestatic 64, 3) := by decide +kernel
theorem dX8_add_8 : decode cX8_add 8 = .ok (.aload_n 0, 1) := by decide +kernel
theorem dX8_add_9 : decode cX8_add 9 = .ok (.getfield 33, 3) := by decide +kernel
theorem dX8_add_12 : decode cX8_add 12 = .ok (.invokevirtual 137, 3) := by decide +kernel
theorem dX8_add_15 : decode cX8_add 15 = .ok (.ifCond .eq 13, 3) := by decide +kernel
theorem dX8_add_18 : decode cX8_add 18 = .ok (.new 72, 3) := by decide +kernel
theorem dX8_add_21 : decode cX8_add 21 = .ok (.dup, 1) := by decide +kernel
theorem dX8_add_22 : decode cX8_add 22 = .ok (.ldc 138, 2) := by decide +kernel
theorem dX8_add_24 : decode cX8_add 24 = .ok (.invokespecial 76, 3) := by decide +kernel
theorem dX8_add_27 : decode cX8_add 27 = .ok (.athrow, 1) := by decide +kernel
theorem dX8_add_28 : decode cX8_add 28 = .ok (.aload_n 0, 1) := by decide +kernel
theorem dX8_add_29 : decode cX8_add 29 = .ok (.getfield 43, 3) := by decide +kernel
theorem dX8_add_32 : decode cX8_add 32 = .ok (.aload_n 0, 1) := by decide +kernel
theorem dX8_add_33 : decode cX8_add 33 = .ok (.getfield 33, 3) := by decide +kernel
theorem dX8_add_36 : decode cX8_add 36 = .ok (.invokevirtual 140, 3) := by decide +kernel
theorem dX8_add_39 : decode cX8_add 39 = .ok (.aload_n 0, 1) := by decide +kernel
theorem dX8_add_40 : decode cX8_add 40 = .ok (.getfield 33, 3) := by decide +kernel
theorem dX8_add_43 : decode cX8_add 43 = .ok (.iload_n 1, 1) := by decide +kernel
theorem dX8_add_44 : decode cX8_add 44 = .ok (.invokevirtual 144, 3) := by decide +kernel
theorem dX8_add_47 : decode cX8_add 47 = .ok (.ireturn, 1) := by decide +kernel
theorem dX8_resize_0 : decode cX8_resize 0 = .ok (.aload_n 0, 1) := by decide +kernel
theorem dX8_resize_1 : decode cX8_resize 1 = .ok (.iload_n 1, 1) := by decide +kernel
theorem dX8_resize_2 : decode cX8_resize 2 = .ok (.invokevirtual 113, 3) := by decide +kernel
theorem dX8_resize_5 : decode cX8_resize 5 = .ok (.iload_n 2, 1) := by decide +kernel
theorem dX8_resize_6 : decode cX8_resize 6 = .ok (.iconst 1, 1) := by decide +kernel
theorem dX8_resize_7 : decode cX8_resize 7 = .ok (.sipush 9999, 3) := by decide +kernel
theorem dX8_resize_10 : decode cX8_resize 10 = .ok (.invokestatic 64, 3) := by decide +kernel
theorem dX8_resize_13 : decode cX8_resize 13 = .ok (.aload_n 0, 1) := by decide +kernel
theorem dX8_resize_14 : decode cX8_resize 14 = .ok (.getfield 43, 3) := by decide +kernel
theorem dX8_resize_17 : decode cX8_resize 17 = .ok (.aload_n 0, 1) := by decide +kernel
theorem dX8_resize_18 : decode cX8_resize 18 = .ok (.getfield 33, 3) := by decide +kernel
theorem dX8_resize_21 : decode cX8_resize 21 = .ok (.invokevirtual 140, 3) := by decide +kernel
theorem dX8_resize_24 : decode cX8_resize 24 = .ok (.aload_n 0, 1) := by decide +kernel
theorem dX8_resize_25 : decode cX8_resize 25 = .ok (.getfield 33, 3) := by decide +kernel
theorem dX8_resize_28 : decode cX8_resize 28 = .ok (.iload_n 1, 1) := by decide +kernel
theorem dX8_resize_29 : decode cX8_resize 29 = .ok (.iload_n 2, 1) := by decide +kernel
theorem dX8_resize_30 : decode cX8_resize 30 = .ok (.invokevirtual 147, 3) := by decide +kernel
theorem dX8_resize_33 : decode cX8_resize 33 = .ok (.ireturn, 1) := by decide +kernel
theorem dX8_link_0 : decode cX8_link 0 = .ok (.aload_n 0, 1) := by decide +kernel
theorem dX8_link_1 : decode cX8_link 1 = .ok (.iload_n 1, 1) := by decide +kernel
theorem dX8_link_2 : decode cX8_link 2 = .ok (.iload_n 2, 1) := by decide +kernel
theorem dX8_link_3 : decode cX8_link 3 = .ok (.invokevirtual 120, 3) := by decide +kernel
theorem dX8_link_6 : decode cX8_link 6 = .ok (.iload_n 3, 1) := by decide +kernel
theorem dX8_link_7 : decode cX8_link 7 = .ok (.iconst 1, 1) := by decide +kernel
theorem dX8_link_8 : decode cX8_link 8 = .ok (.sipush 1000, 3) := by decide +kernel
theorem dX8_link_11 : decode cX8_link 11 = .ok (.invokestatic 64, 3) := by decide +kernel
theorem dX8_link_14 : decode cX8_link 14 = .ok (.iload 4, 2) := by decide +kernel
theorem dX8_link_16 : decode cX8_link 16 = .ok (.iconst 1, 1) := by decide +kernel
theorem dX8_link_17 : decode cX8_link 17 = .ok (.sipush 1000, 3) := by decide +kernel
theorem dX8_link_20 : decode cX8_link 20 = .ok (.invokestatic 64, 3) := by decide +kernel
theorem dX8_link_23 : decode cX8_link 23 = .ok (.aload_n 0, 1) := by decide +kernel
theorem dX8_link_24 : decode cX8_link 24 = .ok (.getfield 43, 3) := by decide +kernel
theorem dX8_link_27 : decode cX8_link 27 = .ok (.aload_n 0, 1) := by decide +kernel
theorem dX8_link_28 : decode cX8_link 28 = .ok (.getfield 33, 3) := by decide +kernel
theorem dX8_link_31 : decode cX8_link 31 = .ok (.invokevirtual 140, 3) := by decide +kernel
theorem dX8_link_34 : decode cX8_link 34 = .ok (.aload_n 0, 1) := by decide +kernel
theorem dX8_link_35 : decode cX8_link 35 = .ok (.getfield 33, 3) := by decide +kernel
theorem dX8_link_38 : decode cX8_link 38 = .ok (.iload_n 1, 1) := by decide +kernel
theorem dX8_link_39 : decode cX8_link 39 = .ok (.iload_n 2, 1) := by decide +kernel
theorem dX8_link_40 : decode cX8_link 40 = .ok (.invokestatic 124, 3) := by decide +kernel
theorem dX8_link_43 : decode cX8_link 43 = .ok (.iload_n 3, 1) := by decide +kernel
theorem dX8_link_44 : decode cX8_link 44 = .ok (.iload 4, 2) := by decide +kernel
theorem dX8_link_46 : decode cX8_link 46 = .ok (.invokevirtual 150, 3) := by decide +kernel
theorem dX8_link_49 : decode cX8_link 49 = .ok (.ireturn, 1) := by decide +kernel
theorem dX8_drift_0 : decode cX8_drift 0 = .ok (.aload_n 0, 1) := by decide +kernel
theorem dX8_drift_1 : decode cX8_drift 1 = .ok (.iload_n 1, 1) := by decide +kernel
theorem dX8_drift_2 : decode cX8_drift 2 = .ok (.iload_n 2, 1) := by decide +kernel
theorem dX8_drift_3 : decode cX8_drift 3 = .ok (.invokevirtual 120, 3) := by decide +kernel
theorem dX8_drift_6 : decode cX8_drift 6 = .ok (.iload_n 3, 1) := by decide +kernel
theorem dX8_drift_7 : decode cX8_drift 7 = .ok (.iconst 1, 1) := by decide +kernel
theorem dX8_drift_8 : decode cX8_drift 8 = .ok (.sipush 1000, 3) := by decide +kernel
theorem dX8_drift_11 : decode cX8_drift 11 = .ok (.invokestatic 64, 3) := by decide +kernel
theorem dX8_drift_14 : decode cX8_drift 14 = .ok (.aload_n 0, 1) := by decide +kernel
theorem dX8_drift_15 : decode cX8_drift 15 = .ok (.getfield 33, 3) := by decide +kernel
theorem dX8_drift_18 : decode cX8_drift 18 = .ok (.iload_n 1, 1) := by decide +kernel
theorem dX8_drift_19 : decode cX8_drift 19 = .ok (.iload_n 2, 1) := by decide +kernel
theorem dX8_drift_20 : decode cX8_drift 20 = .ok (.invokestatic 124, 3) := by decide +kernel
theorem dX8_drift_23 : decode cX8_drift 23 = .ok (.invokevirtual 154, 3) := by decide +kernel
theorem dX8_drift_26 : decode cX8_drift 26 = .ok (.ifCond .ne 13, 3) := by decide +kernel
theorem dX8_drift_29 : decode cX8_drift 29 = .ok (.new 72, 3) := by decide +kernel
theorem dX8_drift_32 : decode cX8_drift 32 = .ok (.dup, 1) := by decide +kernel
theorem dX8_drift_33 : decode cX8_drift 33 = .ok (.ldc 158, 2) := by decide +kernel
theorem dX8_drift_35 : decode cX8_drift 35 = .ok (.invokespecial 76, 3) := by decide +kernel
theorem dX8_drift_38 : decode cX8_drift 38 = .ok (.athrow, 1) := by decide +kernel
theorem dX8_drift_39 : decode cX8_drift 39 = .ok (.aload_n 0, 1) := by decide +kernel
theorem dX8_drift_40 : decode cX8_drift 40 = .ok (.getfield 43, 3) := by decide +kernel
theorem dX8_drift_43 : decode cX8_drift 43 = .ok (.aload_n 0, 1) := by decide +kernel
theorem dX8_drift_44 : decode cX8_drift 44 = .ok (.getfield 33, 3) := by decide +kernel
theorem dX8_drift_47 : decode cX8_drift 47 = .ok (.invokevirtual 140, 3) := by decide +kernel
theorem dX8_drift_50 : decode cX8_drift 50 = .ok (.aload_n 0, 1) := by decide +kernel
theorem dX8_drift_51 : decode cX8_drift 51 = .ok (.getfield 33, 3) := by decide +kernel
theorem dX8_drift_54 : decode cX8_drift 54 = .ok (.iload_n 1, 1) := by decide +kernel
theorem dX8_drift_55 : decode cX8_drift 55 = .ok (.iload_n 2, 1) := by decide +kernel
theorem dX8_drift_56 : decode cX8_drift 56 = .ok (.invokestatic 124, 3) := by decide +kernel
theorem dX8_drift_59 : decode cX8_drift 59 = .ok (.iload_n 3, 1) := by decide +kernel
theorem dX8_drift_60 : decode cX8_drift 60 = .ok (.invokevirtual 160, 3) := by decide +kernel
theorem dX8_drift_63 : decode cX8_drift 63 = .ok (.ireturn, 1) := by decide +kernel
theorem dX8_run_0 : decode cX8_run 0 = .ok (.aload_n 0, 1) := by decide +kernel
theorem dX8_run_1 : decode cX8_run 1 = .ok (.iload_n 1, 1) := by decide +kernel
theorem dX8_run_2 : decode cX8_run 2 = .ok (.invokevirtual 163, 3) := by decide +kernel
theorem dX8_run_5 : decode cX8_run 5 = .ok (.iload_n 1, 1) := by decide +kernel
theorem dX8_run_6 : decode cX8_run 6 = .ok (.invokestatic 166, 3) := by decide +kernel
theorem dX8_run_9 : decode cX8_run 9 = .ok (.aload_n 0, 1) := by decide +kernel
theorem dX8_run_10 : decode cX8_run 10 = .ok (.getfield 43, 3) := by decide +kernel
theorem dX8_run_13 : decode cX8_run 13 = .ok (.aload_n 0, 1) := by decide +kernel
theorem dX8_run_14 : decode cX8_run 14 = .ok (.getfield 33, 3) := by decide +kernel
theorem dX8_run_17 : decode cX8_run 17 = .ok (.invokevirtual 140, 3) := by decide +kernel
theorem dX8_run_20 : decode cX8_run 20 = .ok (.aload_n 0, 1) := by decide +kernel
theorem dX8_run_21 : decode cX8_run 21 = .ok (.aload_n 0, 1) := by decide +kernel
theorem dX8_run_22 : decode cX8_run 22 = .ok (.getfield 33, 3) := by decide +kernel
theorem dX8_run_25 : decode cX8_run 25 = .ok (.iload_n 1, 1) := by decide +kernel
theorem dX8_run_26 : decode cX8_run 26 = .ok (.invokevirtual 169, 3) := by decide +kernel
theorem dX8_run_29 : decode cX8_run 29 = .ok (.ireturn, 1) := by decide +kernel
theorem dX8_weeks_0 : decode cX8_weeks 0 = .ok (.iload_n 1, 1) := by decide +kernel
theorem dX8_weeks_1 : decode cX8_weeks 1 = .ok (.iconst 1, 1) := by decide +kernel
theorem dX8_weeks_2 : decode cX8_weeks 2 = .ok (.bipush 20, 2) := by decide +kernel
theorem dX8_weeks_4 : decode cX8_weeks 4 = .ok (.invokestatic 64, 3) := by decide +kernel
theorem dX8_weeks_7 : decode cX8_weeks 7 = .ok (.aload_n 0, 1) := by decide +kernel
theorem dX8_weeks_8 : decode cX8_weeks 8 = .ok (.getfield 43, 3) := by decide +kernel
theorem dX8_weeks_11 : decode cX8_weeks 11 = .ok (.aload_n 0, 1) := by decide +kernel
theorem dX8_weeks_12 : decode cX8_weeks 12 = .ok (.getfield 33, 3) := by decide +kernel
theorem dX8_weeks_15 : decode cX8_weeks 15 = .ok (.invokevirtual 140, 3) := by decide +kernel
theorem dX8_weeks_18 : decode cX8_weeks 18 = .ok (.aload_n 0, 1) := by decide +kernel
theorem dX8_weeks_19 : decode cX8_weeks 19 = .ok (.getfield 33, 3) := by decide +kernel
theorem dX8_weeks_22 : decode cX8_weeks 22 = .ok (.iload_n 1, 1) := by decide +kernel
theorem dX8_weeks_23 : decode cX8_weeks 23 = .ok (.invokevirtual 173, 3) := by decide +kernel
theorem dX8_weeks_26 : decode cX8_weeks 26 = .ok (.ireturn, 1) := by decide +kernel
theorem dX8_set_0 : decode cX8_set 0 = .ok (.iload_n 1, 1) := by decide +kernel
theorem dX8_set_1 : decode cX8_set 1 = .ok (.iload_n 2, 1) := by decide +kernel
theorem dX8_set_2 : decode cX8_set 2 = .ok (.invokestatic 176, 3) := by decide +kernel
theorem dX8_set_5 : decode cX8_set 5 = .ok (.ifCond .ne 13, 3) := by decide +kernel
theorem dX8_set_8 : decode cX8_set 8 = .ok (.new 180, 3) := by decide +kernel
theorem dX8_set_11 : decode cX8_set 11 = .ok (.dup, 1) := by decide +kernel
theorem dX8_set_12 : decode cX8_set 12 = .ok (.ldc 182, 2) := by decide +kernel
theorem dX8_set_14 : decode cX8_set 14 = .ok (.invokespecial 184, 3) := by decide +kernel
theorem dX8_set_17 : decode cX8_set 17 = .ok (.athrow, 1) := by decide +kernel
theorem dX8_set_18 : decode cX8_set 18 = .ok (.aload_n 0, 1) := by decide +kernel
theorem dX8_set_19 : decode cX8_set 19 = .ok (.getfield 43, 3) := by decide +kernel
theorem dX8_set_22 : decode cX8_set 22 = .ok (.aload_n 0, 1) := by decide +kernel
theorem dX8_set_23 : decode cX8_set 23 = .ok (.getfield 33, 3) := by decide +kernel
theorem dX8_set_26 : decode cX8_set 26 = .ok (.invokevirtual 140, 3) := by decide +kernel
theorem dX8_set_29 : decode cX8_set 29 = .ok (.aload_n 0, 1) := by decide +kernel
theorem dX8_set_30 : decode cX8_set 30 = .ok (.getfield 33, 3) := by decide +kernel
theorem dX8_set_33 : decode cX8_set 33 = .ok (.iload_n 1, 1) := by decide +kernel
theorem dX8_set_34 : decode cX8_set 34 = .ok (.iload_n 2, 1) := by decide +kernel
theorem dX8_set_35 : decode cX8_set 35 = .ok (.invokevirtual 185, 3) := by decide +kernel
theorem dX8_set_38 : decode cX8_set 38 = .ok (.ireturn, 1) := by decide +kernel
theorem dX8_undo_0 : decode cX8_undo 0 = .ok (.aload_n 0, 1) := by decide +kernel
theorem dX8_undo_1 : decode cX8_undo 1 = .ok (.getfield 43, 3) := by decide +kernel
theorem dX8_undo_4 : decode cX8_undo 4 = .ok (.invokevirtual 188, 3) := by decide +kernel
theorem dX8_undo_7 : decode cX8_undo 7 = .ok (.ifCond .eq 13, 3) := by decide +kernel
theorem dX8_undo_10 : decode cX8_undo 10 = .ok (.new 72, 3) := by decide +kernel
theorem dX8_undo_13 : decode cX8_undo 13 = .ok (.dup, 1) := by decide +kernel
theorem dX8_undo_14 : decode cX8_undo 14 = .ok (.ldc 191, 2) := by decide +kernel
theorem dX8_undo_16 : decode cX8_undo 16 = .ok (.invokespecial 76, 3) := by decide +kernel
theorem dX8_undo_19 : decode cX8_undo 19 = .ok (.athrow, 1) := by decide +kernel
theorem dX8_undo_20 : decode cX8_undo 20 = .ok (.aload_n 0, 1) := by decide +kernel
theorem dX8_undo_21 : decode cX8_undo 21 = .ok (.getfield 43, 3) := by decide +kernel
theorem dX8_undo_24 : decode cX8_undo 24 = .ok (.aload_n 0, 1) := by decide +kernel
theorem dX8_undo_25 : decode cX8_undo 25 = .ok (.getfield 33, 3) := by decide +kernel
theorem dX8_undo_28 : decode cX8_undo 28 = .ok (.invokevirtual 193, 3) := by decide +kernel
theorem dX8_undo_31 : decode cX8_undo 31 = .ok (.ireturn, 1) := by decide +kernel
theorem dX8_rows_0 : decode cX8_rows 0 = .ok (.aload_n 0, 1) := by decide +kernel
theorem dX8_rows_1 : decode cX8_rows 1 = .ok (.iload_n 1, 1) := by decide +kernel
theorem dX8_rows_2 : decode cX8_rows 2 = .ok (.invokevirtual 163, 3) := by decide +kernel
theorem dX8_rows_5 : decode cX8_rows 5 = .ok (.iload_n 2, 1) := by decide +kernel
theorem dX8_rows_6 : decode cX8_rows 6 = .ok (.invokestatic 197, 3) := by decide +kernel
theorem dX8_rows_9 : decode cX8_rows 9 = .ok (.aload_n 0, 1) := by decide +kernel
theorem dX8_rows_10 : decode cX8_rows 10 = .ok (.getfield 57, 3) := by decide +kernel
theorem dX8_rows_13 : decode cX8_rows 13 = .ok (.aload_n 0, 1) := by decide +kernel
theorem dX8_rows_14 : decode cX8_rows 14 = .ok (.getfield 33, 3) := by decide +kernel
theorem dX8_rows_17 : decode cX8_rows 17 = .ok (.iload_n 1, 1) := by decide +kernel
theorem dX8_rows_18 : decode cX8_rows 18 = .ok (.iload_n 2, 1) := by decide +kernel
theorem dX8_rows_19 : decode cX8_rows 19 = .ok (.invokevirtual 200, 3) := by decide +kernel
theorem dX8_rows_22 : decode cX8_rows 22 = .ok (.aload_n 0, 1) := by decide +kernel
theorem dX8_rows_23 : decode cX8_rows 23 = .ok (.getfield 57, 3) := by decide +kernel
theorem dX8_rows_26 : decode cX8_rows 26 = .ok (.iload_n 1, 1) := by decide +kernel
theorem dX8_rows_27 : decode cX8_rows 27 = .ok (.invokevirtual 204, 3) := by decide +kernel
theorem dX8_rows_30 : decode cX8_rows 30 = .ok (.lreturn, 1) := by decide +kernel
theorem dX8_order_0 : decode cX8_order 0 = .ok (.aload_n 0, 1) := by decide +kernel
theorem dX8_order_1 : decode cX8_order 1 = .ok (.iload_n 1, 1) := by decide +kernel
theorem dX8_order_2 : decode cX8_order 2 = .ok (.invokevirtual 163, 3) := by decide +kernel
theorem dX8_order_5 : decode cX8_order 5 = .ok (.iload_n 2, 1) := by decide +kernel
theorem dX8_order_6 : decode cX8_order 6 = .ok (.invokestatic 197, 3) := by decide +kernel
theorem dX8_order_9 : decode cX8_order 9 = .ok (.iload_n 3, 1) := by decide +kernel
theorem dX8_order_10 : decode cX8_order 10 = .ok (.iconst 0, 1) := by decide +kernel
theorem dX8_order_11 : decode cX8_order 11 = .ok (.invokestatic 207, 3) := by decide +kernel
theorem dX8_order_14 : decode cX8_order 14 = .ok (.aload_n 0, 1) := by decide +kernel
theorem dX8_order_15 : decode cX8_order 15 = .ok (.getfield 57, 3) := by decide +kernel
theorem dX8_order_18 : decode cX8_order 18 = .ok (.aload_n 0, 1) := by decide +kernel
theorem dX8_order_19 : decode cX8_order 19 = .ok (.getfield 33, 3) := by decide +kernel
theorem dX8_order_22 : decode cX8_order 22 = .ok (.iload_n 1, 1) := by decide +kernel
theorem dX8_order_23 : decode cX8_order 23 = .ok (.iload_n 2, 1) := by decide +kernel
theorem dX8_order_24 : decode cX8_order 24 = .ok (.invokevirtual 210, 3) := by decide +kernel
theorem dX8_order_27 : decode cX8_order 27 = .ok (.aload_n 0, 1) := by decide +kernel
theorem dX8_order_28 : decode cX8_order 28 = .ok (.getfield 57, 3) := by decide +kernel
theorem dX8_order_31 : decode cX8_order 31 = .ok (.iload_n 3, 1) := by decide +kernel
theorem dX8_order_32 : decode cX8_order 32 = .ok (.invokevirtual 213, 3) := by decide +kernel
theorem dX8_order_35 : decode cX8_order 35 = .ok (.ireturn, 1) := by decide +kernel
theorem dX8_way_0 : decode cX8_way 0 = .ok (.aload_n 0, 1) := by decide +kernel
theorem dX8_way_1 : decode cX8_way 1 = .ok (.iload_n 1, 1) := by decide +kernel
theorem dX8_way_2 : decode cX8_way 2 = .ok (.invokevirtual 163, 3) := by decide +kernel
theorem dX8_way_5 : decode cX8_way 5 = .ok (.iload_n 2, 1) := by decide +kernel
theorem dX8_way_6 : decode cX8_way 6 = .ok (.iconst 1, 1) := by decide +kernel
theorem dX8_way_7 : decode cX8_way 7 = .ok (.invokestatic 207, 3) := by decide +kernel
theorem dX8_way_10 : decode cX8_way 10 = .ok (.aload_n 0, 1) := by decide +kernel
theorem dX8_way_11 : decode cX8_way 11 = .ok (.getfield 57, 3) := by decide +kernel
theorem dX8_way_14 : decode cX8_way 14 = .ok (.aload_n 0, 1) := by decide +kernel
theorem dX8_way_15 : decode cX8_way 15 = .ok (.getfield 33, 3) := by decide +kernel
theorem dX8_way_18 : decode cX8_way 18 = .ok (.iload_n 1, 1) := by decide +kernel
theorem dX8_way_19 : decode cX8_way 19 = .ok (.iconst 1, 1) := by decide +kernel
theorem dX8_way_20 : decode cX8_way 20 = .ok (.invokevirtual 210, 3) := by decide +kernel
theorem dX8_way_23 : decode cX8_way 23 = .ok (.aload_n 0, 1) := by decide +kernel
theorem dX8_way_24 : decode cX8_way 24 = .ok (.getfield 57, 3) := by decide +kernel
theorem dX8_way_27 : decode cX8_way 27 = .ok (.iload_n 2, 1) := by decide +kernel
theorem dX8_way_28 : decode cX8_way 28 = .ok (.invokevirtual 216, 3) := by decide +kernel
theorem dX8_way_31 : decode cX8_way 31 = .ok (.ireturn, 1) := by decide +kernel
theorem dX8_cost_0 : decode cX8_cost 0 = .ok (.aload_n 0, 1) := by decide +kernel
theorem dX8_cost_1 : decode cX8_cost 1 = .ok (.iload_n 1, 1) := by decide +kernel
theorem dX8_cost_2 : decode cX8_cost 2 = .ok (.invokevirtual 163, 3) := by decide +kernel
theorem dX8_cost_5 : decode cX8_cost 5 = .ok (.iload_n 2, 1) := by decide +kernel
theorem dX8_cost_6 : decode cX8_cost 6 = .ok (.iconst 0, 1) := by decide +kernel
theorem dX8_cost_7 : decode cX8_cost 7 = .ok (.iconst 2, 1) := by decide +kernel
theorem dX8_cost_8 : decode cX8_cost 8 = .ok (.invokestatic 64, 3) := by decide +kernel
theorem dX8_cost_11 : decode cX8_cost 11 = .ok (.iload_n 2, 1) := by decide +kernel
theorem dX8_cost_12 : decode cX8_cost 12 = .ok (.iconst 2, 1) := by decide +kernel
theorem dX8_cost_13 : decode cX8_cost 13 = .ok (.if_icmp .ne 13, 3) := by decide +kernel
theorem dX8_cost_16 : decode cX8_cost 16 = .ok (.aload_n 0, 1) := by decide +kernel
theorem dX8_cost_17 : decode cX8_cost 17 = .ok (.aload_n 0, 1) := by decide +kernel
theorem dX8_cost_18 : decode cX8_cost 18 = .ok (.getfield 33, 3) := by decide +kernel
theorem dX8_cost_21 : decode cX8_cost 21 = .ok (.iload_n 1, 1) := by decide +kernel
theorem dX8_cost_22 : decode cX8_cost 22 = .ok (.invokevirtual 219, 3) := by decide +kernel
theorem dX8_cost_25 : decode cX8_cost 25 = .ok (.lreturn, 1) := by decide +kernel
theorem dX8_cost_26 : decode cX8_cost 26 = .ok (.aload_n 0, 1) := by decide +kernel
theorem dX8_cost_27 : decode cX8_cost 27 = .ok (.getfield 57, 3) := by decide +kernel
theorem dX8_cost_30 : decode cX8_cost 30 = .ok (.aload_n 0, 1) := by decide +kernel
theorem dX8_cost_31 : decode cX8_cost 31 = .ok (.getfield 33, 3) := by decide +kernel
theorem dX8_cost_34 : decode cX8_cost 34 = .ok (.iload_n 1, 1) := by decide +kernel
theorem dX8_cost_35 : decode cX8_cost 35 = .ok (.iconst 1, 1) := by decide +kernel
theorem dX8_cost_36 : decode cX8_cost 36 = .ok (.invokevirtual 210, 3) := by decide +kernel
theorem dX8_cost_39 : decode cX8_cost 39 = .ok (.iload_n 2, 1) := by decide +kernel
theorem dX8_cost_40 : decode cX8_cost 40 = .ok (.ifCond .ne 11, 3) := by decide +kernel
theorem dX8_cost_43 : decode cX8_cost 43 = .ok (.aload_n 0, 1) := by decide +kernel
theorem dX8_cost_44 : decode cX8_cost 44 = .ok (.getfield 57, 3) := by decide +kernel
theorem dX8_cost_47 : decode cX8_cost 47 = .ok (.invokevirtual 223, 3) := by decide +kernel
theorem dX8_cost_50 : decode cX8_cost 50 = .ok (.lreturn, 1) := by decide +kernel
theorem dX8_cost_51 : decode cX8_cost 51 = .ok (.aload_n 0, 1) := by decide +kernel
theorem dX8_cost_52 : decode cX8_cost 52 = .ok (.getfield 61, 3) := by decide +kernel
theorem dX8_cost_55 : decode cX8_cost 55 = .ok (.aload_n 0, 1) := by decide +kernel
theorem dX8_cost_56 : decode cX8_cost 56 = .ok (.getfield 33, 3) := by decide +kernel
theorem dX8_cost_59 : decode cX8_cost 59 = .ok (.iload_n 1, 1) := by decide +kernel
theorem dX8_cost_60 : decode cX8_cost 60 = .ok (.iconst 2, 1) := by decide +kernel
theorem dX8_cost_61 : decode cX8_cost 61 = .ok (.invokevirtual 200, 3) := by decide +kernel
theorem dX8_cost_64 : decode cX8_cost 64 = .ok (.aload_n 0, 1) := by decide +kernel
theorem dX8_cost_65 : decode cX8_cost 65 = .ok (.getfield 61, 3) := by decide +kernel
theorem dX8_cost_68 : decode cX8_cost 68 = .ok (.aload_n 0, 1) := by decide +kernel
theorem dX8_cost_69 : decode cX8_cost 69 = .ok (.getfield 57, 3) := by decide +kernel
theorem dX8_cost_72 : decode cX8_cost 72 = .ok (.invokevirtual 227, 3) := by decide +kernel
theorem dX8_cost_75 : decode cX8_cost 75 = .ok (.lreturn, 1) := by decide +kernel
theorem dX8_costOfText_0 : decode cX8_costOfText 0 = .ok (.iload_n 1, 1) := by decide +kernel
theorem dX8_costOfText_1 : decode cX8_costOfText 1 = .ok (.invokestatic 197, 3) := by decide +kernel
theorem dX8_costOfText_4 : decode cX8_costOfText 4 = .ok (.aload_n 0, 1) := by decide +kernel
theorem dX8_costOfText_5 : decode cX8_costOfText 5 = .ok (.getfield 10, 3) := by decide +kernel
theorem dX8_costOfText_8 : decode cX8_costOfText 8 = .ok (.aload_n 0, 1) := by decide +kernel
theorem dX8_costOfText_9 : decode cX8_costOfText 9 = .ok (.getfield 26, 3) := by decide +kernel
theorem dX8_costOfText_12 : decode cX8_costOfText 12 = .ok (.invokevirtual 87, 3) := by decide +kernel
theorem dX8_costOfText_15 : decode cX8_costOfText 15 = .ok (.iconst (-1), 1) := by decide +kernel
theorem dX8_costOfText_16 : decode cX8_costOfText 16 = .ok (.if_icmp .ne 20, 3) := by decide +kernel
theorem dX8_costOfText_19 : decode cX8_costOfText 19 = .ok (.aload_n 0, 1) := by decide +kernel
theorem dX8_costOfText_20 : decode cX8_costOfText 20 = .ok (.getfield 33, 3) := by decide +kernel
theorem dX8_costOfText_23 : decode cX8_costOfText 23 = .ok (.aload_n 0, 1) := by decide +kernel
theorem dX8_costOfText_24 : decode cX8_costOfText 24 = .ok (.getfield 26, 3) := by decide +kernel
theorem dX8_costOfText_27 : decode cX8_costOfText 27 = .ok (.invokevirtual 231, 3) := by decide +kernel
theorem dX8_costOfText_30 : decode cX8_costOfText 30 = .ok (.invokevirtual 234, 3) := by decide +kernel
theorem dX8_costOfText_33 : decode cX8_costOfText 33 = .ok (.ifCond .ne 13, 3) := by decide +kernel
theorem dX8_costOfText_36 : decode cX8_costOfText 36 = .ok (.new 72, 3) := by decide +kernel
theorem dX8_costOfText_39 : decode cX8_costOfText 39 = .ok (.dup, 1) := by decide +kernel
theorem dX8_costOfText_40 : decode cX8_costOfText 40 = .ok (.ldc 237, 2) := by decide +kernel
theorem dX8_costOfText_42 : decode cX8_costOfText 42 = .ok (.invokespecial 76, 3) := by decide +kernel
theorem dX8_costOfText_45 : decode cX8_costOfText 45 = .ok (.athrow, 1) := by decide +kernel
theorem dX8_costOfText_46 : decode cX8_costOfText 46 = .ok (.aload_n 0, 1) := by decide +kernel
theorem dX8_costOfText_47 : decode cX8_costOfText 47 = .ok (.getfield 57, 3) := by decide +kernel
theorem dX8_costOfText_50 : decode cX8_costOfText 50 = .ok (.aload_n 0, 1) := by decide +kernel
theorem dX8_costOfText_51 : decode cX8_costOfText 51 = .ok (.getfield 33, 3) := by decide +kernel
theorem dX8_costOfText_54 : decode cX8_costOfText 54 = .ok (.aload_n 0, 1) := by decide +kernel
theorem dX8_costOfText_55 : decode cX8_costOfText 55 = .ok (.getfield 26, 3) := by decide +kernel
theorem dX8_costOfText_58 : decode cX8_costOfText 58 = .ok (.invokevirtual 231, 3) := by decide +kernel
theorem dX8_costOfText_61 : decode cX8_costOfText 61 = .ok (.iload_n 1, 1) := by decide +kernel
theorem dX8_costOfText_62 : decode cX8_costOfText 62 = .ok (.invokevirtual 200, 3) := by decide +kernel
theorem dX8_costOfText_65 : decode cX8_costOfText 65 = .ok (.aload_n 0, 1) := by decide +kernel
theorem dX8_costOfText_66 : decode cX8_costOfText 66 = .ok (.getfield 57, 3) := by decide +kernel
theorem dX8_costOfText_69 : decode cX8_costOfText 69 = .ok (.aload_n 0, 1) := by decide +kernel
theorem dX8_costOfText_70 : decode cX8_costOfText 70 = .ok (.getfield 26, 3) := by decide +kernel
theorem dX8_costOfText_73 : decode cX8_costOfText 73 = .ok (.invokevirtual 239, 3) := by decide +kernel
theorem dX8_costOfText_76 : decode cX8_costOfText 76 = .ok (.lreturn, 1) := by decide +kernel
theorem dX8_matters_0 : decode cX8_matters 0 = .ok (.aload_n 0, 1) := by decide +kernel
theorem dX8_matters_1 : decode cX8_matters 1 = .ok (.iload_n 1, 1) := by decide +kernel
theorem dX8_matters_2 : decode cX8_matters 2 = .ok (.invokevirtual 113, 3) := by decide +kernel
theorem dX8_matters_5 : decode cX8_matters 5 = .ok (.aload_n 0, 1) := by decide +kernel
theorem dX8_matters_6 : decode cX8_matters 6 = .ok (.iload_n 2, 1) := by decide +kernel
theorem dX8_matters_7 : decode cX8_matters 7 = .ok (.invokevirtual 113, 3) := by decide +kernel
theorem dX8_matters_10 : decode cX8_matters 10 = .ok (.aload_n 0, 1) := by decide +kernel
theorem dX8_matters_11 : decode cX8_matters 11 = .ok (.iload_n 3, 1) := by decide +kernel
theorem dX8_matters_12 : decode cX8_matters 12 = .ok (.invokevirtual 163, 3) := by decide +kernel
theorem dX8_matters_15 : decode cX8_matters 15 = .ok (.iload_n 1, 1) := by decide +kernel
theorem dX8_matters_16 : decode cX8_matters 16 = .ok (.iload_n 2, 1) := by decide +kernel
theorem dX8_matters_17 : decode cX8_matters 17 = .ok (.if_icmp .ne 13, 3) := by decide +kernel
theorem dX8_matters_20 : decode cX8_matters 20 = .ok (.new 180, 3) := by decide +kernel
theorem dX8_matters_23 : decode cX8_matters 23 = .ok (.dup, 1) := by decide +kernel
theorem dX8_matters_24 : decode cX8_matters 24 = .ok (.ldc 243, 2) := by decide +kernel
theorem dX8_matters_26 : decode cX8_matters 26 = .ok (.invokespecial 184, 3) := by decide +kernel
theorem dX8_matters_29 : decode cX8_matters 29 = .ok (.athrow, 1) := by decide +kernel
theorem dX8_matters_30 : decode cX8_matters 30 = .ok (.iload_n 1, 1) := by decide +kernel
theorem dX8_matters_31 : decode cX8_matters 31 = .ok (.iload_n 2, 1) := by decide +kernel
theorem dX8_matters_32 : decode cX8_matters 32 = .ok (.invokestatic 124, 3) := by decide +kernel
theorem dX8_matters_35 : decode cX8_matters 35 = .ok (.istore 4, 2) := by decide +kernel
theorem dX8_matters_37 : decode cX8_matters 37 = .ok (.aload_n 0, 1) := by decide +kernel
theorem dX8_matters_38 : decode cX8_matters 38 = .ok (.getfield 33, 3) := by decide +kernel
theorem dX8_matters_41 : decode cX8_matters 41 = .ok (.iload 4, 2) := by decide +kernel
theorem dX8_matters_43 : decode cX8_matters 43 = .ok (.invokevirtual 245, 3) := by decide +kernel
theorem dX8_matters_46 : decode cX8_matters 46 = .ok (.ifCond .ne 5, 3) := by decide +kernel
theorem dX8_matters_49 : decode cX8_matters 49 = .ok (.iconst 0, 1) := by decide +kernel
theorem dX8_matters_50 : decode cX8_matters 50 = .ok (.ireturn, 1) := by decide +kernel
theorem dX8_matters_51 : decode cX8_matters 51 = .ok (.aload_n 0, 1) := by decide +kernel
theorem dX8_matters_52 : decode cX8_matters 52 = .ok (.getfield 37, 3) := by decide +kernel
theorem dX8_matters_55 : decode cX8_matters 55 = .ok (.aload_n 0, 1) := by decide +kernel
theorem dX8_matters_56 : decode cX8_matters 56 = .ok (.getfield 33, 3) := by decide +kernel
theorem dX8_matters_59 : decode cX8_matters 59 = .ok (.invokevirtual 248, 3) := by decide +kernel
theorem dX8_matters_62 : decode cX8_matters 62 = .ok (.aload_n 0, 1) := by decide +kernel
theorem dX8_matters_63 : decode cX8_matters 63 = .ok (.getfield 37, 3) := by decide +kernel
theorem dX8_matters_66 : decode cX8_matters 66 = .ok (.iload 4, 2) := by decide +kernel
theorem dX8_matters_68 : decode cX8_matters 68 = .ok (.invokevirtual 251, 3) := by decide +kernel
theorem dX8_matters_71 : decode cX8_matters 71 = .ok (.aload_n 0, 1) := by decide +kernel
theorem dX8_matters_72 : decode cX8_matters 72 = .ok (.getfield 57, 3) := by decide +kernel
theorem dX8_matters_75 : decode cX8_matters 75 = .ok (.aload_n 0, 1) := by decide +kernel
theorem dX8_matters_76 : decode cX8_matters 76 = .ok (.getfield 33, 3) := by decide +kernel
theorem dX8_matters_79 : decode cX8_matters 79 = .ok (.iload_n 3, 1) := by decide +kernel
theorem dX8_matters_80 : decode cX8_matters 80 = .ok (.iconst 1, 1) := by decide +kernel
theorem dX8_matters_81 : decode cX8_matters 81 = .ok (.invokevirtual 210, 3) := by decide +kernel
theorem dX8_matters_84 : decode cX8_matters 84 = .ok (.aload_n 0, 1) := by decide +kernel
theorem dX8_matters_85 : decode cX8_matters 85 = .ok (.getfield 61, 3) := by decide +kernel
theorem dX8_matters_88 : decode cX8_matters 88 = .ok (.aload_n 0, 1) := by decide +kernel
theorem dX8_matters_89 : decode cX8_matters 89 = .ok (.getfield 37, 3) := by decide +kernel
theorem dX8_matters_92 : decode cX8_matters 92 = .ok (.iload_n 3, 1) := by decide +kernel
theorem dX8_matters_93 : decode cX8_matters 93 = .ok (.iconst 1, 1) := by decide +kernel
theorem dX8_matters_94 : decode cX8_matters 94 = .ok (.invokevirtual 210, 3) := by decide +kernel
theorem dX8_matters_97 : decode cX8_matters 97 = .ok (.aload_n 0, 1) := by decide +kernel
theorem dX8_matters_98 : decode cX8_matters 98 = .ok (.getfield 57, 3) := by decide +kernel
theorem dX8_matters_101 : decode cX8_matters 101 = .ok (.aload_n 0, 1) := by decide +kernel
theorem dX8_matters_102 : decode cX8_matters 102 = .ok (.getfield 61, 3) := by decide +kernel
theorem dX8_matters_105 : decode cX8_matters 105 = .ok (.invokevirtual 254, 3) := by decide +kernel
theorem dX8_matters_108 : decode cX8_matters 108 = .ok (.ifCond .eq 7, 3) := by decide +kernel
theorem dX8_matters_111 : decode cX8_matters 111 = .ok (.iconst 0, 1) := by decide +kernel
theorem dX8_matters_112 : decode cX8_matters 112 = .ok (.goto 4, 3) := by decide +kernel
theorem dX8_matters_115 : decode cX8_matters 115 = .ok (.iconst 1, 1) := by decide +kernel
theorem dX8_matters_116 : decode cX8_matters 116 = .ok (.ireturn, 1) := by decide +kernel
theorem dX8_worst_0 : decode cX8_worst 0 = .ok (.aload_n 0, 1) := by decide +kernel
theorem dX8_worst_1 : decode cX8_worst 1 = .ok (.getfield 33, 3) := by decide +kernel
theorem dX8_worst_4 : decode cX8_worst 4 = .ok (.invokevirtual 258, 3) := by decide +kernel
theorem dX8_worst_7 : decode cX8_worst 7 = .ok (.ireturn, 1) := by decide +kernel
theorem dX8_learnsIn_0 : decode cX8_learnsIn 0 = .ok (.aload_n 0, 1) := by decide +kernel
theorem dX8_learnsIn_1 : decode cX8_learnsIn 1 = .ok (.iload_n 1, 1) := by decide +kernel
theorem dX8_learnsIn_2 : decode cX8_learnsIn 2 = .ok (.invokevirtual 163, 3) := by decide +kernel
theorem dX8_learnsIn_5 : decode cX8_learnsIn 5 = .ok (.iload_n 1, 1) := by decide +kernel
theorem dX8_learnsIn_6 : decode cX8_learnsIn 6 = .ok (.invokestatic 166, 3) := by decide +kernel
theorem dX8_learnsIn_9 : decode cX8_learnsIn 9 = .ok (.aload_n 0, 1) := by decide +kernel
theorem dX8_learnsIn_10 : decode cX8_learnsIn 10 = .ok (.getfield 37, 3) := by decide +kernel
theorem dX8_learnsIn_13 : decode cX8_learnsIn 13 = .ok (.aload_n 0, 1) := by decide +kernel
theorem dX8_learnsIn_14 : decode cX8_learnsIn 14 = .ok (.getfield 33, 3) := by decide +kernel
theorem dX8_learnsIn_17 : decode cX8_learnsIn 17 = .ok (.invokevirtual 248, 3) := by decide +kernel
theorem dX8_learnsIn_20 : decode cX8_learnsIn 20 = .ok (.aload_n 0, 1) := by decide +kernel
theorem dX8_learnsIn_21 : decode cX8_learnsIn 21 = .ok (.getfield 61, 3) := by decide +kernel
theorem dX8_learnsIn_24 : decode cX8_learnsIn 24 = .ok (.aload_n 0, 1) := by decide +kernel
theorem dX8_learnsIn_25 : decode cX8_learnsIn 25 = .ok (.getfield 37, 3) := by decide +kernel
theorem dX8_learnsIn_28 : decode cX8_learnsIn 28 = .ok (.iload_n 1, 1) := by decide +kernel
theorem dX8_learnsIn_29 : decode cX8_learnsIn 29 = .ok (.iconst 2, 1) := by decide +kernel
theorem dX8_learnsIn_30 : decode cX8_learnsIn 30 = .ok (.invokevirtual 210, 3) := by decide +kernel
theorem dX8_learnsIn_33 : decode cX8_learnsIn 33 = .ok (.iconst 0, 1) := by decide +kernel
theorem dX8_learnsIn_34 : decode cX8_learnsIn 34 = .ok (.istore_n 2, 1) := by decide +kernel
theorem dX8_learnsIn_35 : decode cX8_learnsIn 35 = .ok (.iload_n 2, 1) := by decide +kernel
theorem dX8_learnsIn_36 : decode cX8_learnsIn 36 = .ok (.bipush 30, 2) := by decide +kernel
theorem dX8_learnsIn_38 : decode cX8_learnsIn 38 = .ok (.if_icmp .gt 59, 3) := by decide +kernel
theorem dX8_learnsIn_41 : decode cX8_learnsIn 41 = .ok (.aload_n 0, 1) := by decide +kernel
theorem dX8_learnsIn_42 : decode cX8_learnsIn 42 = .ok (.getfield 57, 3) := by decide +kernel
theorem dX8_learnsIn_45 : decode cX8_learnsIn 45 = .ok (.aload_n 0, 1) := by decide +kernel
theorem dX8_learnsIn_46 : decode cX8_learnsIn 46 = .ok (.getfield 37, 3) := by decide +kernel
theorem dX8_learnsIn_49 : decode cX8_learnsIn 49 = .ok (.iload_n 1, 1) := by decide +kernel
theorem dX8_learnsIn_50 : decode cX8_learnsIn 50 = .ok (.iconst 1, 1) := by decide +kernel
theorem dX8_learnsIn_51 : decode cX8_learnsIn 51 = .ok (.invokevirtual 210, 3) := by decide +kernel
theorem dX8_learnsIn_54 : decode cX8_learnsIn 54 = .ok (.aload_n 0, 1) := by decide +kernel
theorem dX8_learnsIn_55 : decode cX8_learnsIn 55 = .ok (.getfield 61, 3) := by decide +kernel
theorem dX8_learnsIn_58 : decode cX8_learnsIn 58 = .ok (.aload_n 0, 1) := by decide +kernel
theorem dX8_learnsIn_59 : decode cX8_learnsIn 59 = .ok (.getfield 57, 3) := by decide +kernel
theorem dX8_learnsIn_62 : decode cX8_learnsIn 62 = .ok (.invokevirtual 227, 3) := by decide +kernel
theorem dX8_learnsIn_65 : decode cX8_learnsIn 65 = .ok (.aload_n 0, 1) := by decide +kernel
theorem dX8_learnsIn_66 : decode cX8_learnsIn 66 = .ok (.getfield 61, 3) := by decide +kernel
theorem dX8_learnsIn_69 : decode cX8_learnsIn 69 = .ok (.invokevirtual 223, 3) := by decide +kernel
theorem dX8_learnsIn_72 : decode cX8_learnsIn 72 = .ok (.lcmp, 1) := by decide +kernel
theorem dX8_learnsIn_73 : decode cX8_learnsIn 73 = .ok (.ifCond .ne 5, 3) := by decide +kernel
theorem dX8_learnsIn_76 : decode cX8_learnsIn 76 = .ok (.iload_n 2, 1) := by decide +kernel
theorem dX8_learnsIn_77 : decode cX8_learnsIn 77 = .ok (.ireturn, 1) := by decide +kernel
theorem dX8_learnsIn_78 : decode cX8_learnsIn 78 = .ok (.aload_n 0, 1) := by decide +kernel
theorem dX8_learnsIn_79 : decode cX8_learnsIn 79 = .ok (.getfield 37, 3) := by decide +kernel
theorem dX8_learnsIn_82 : decode cX8_learnsIn 82 = .ok (.iload_n 1, 1) := by decide +kernel
theorem dX8_learnsIn_83 : decode cX8_learnsIn 83 = .ok (.invokevirtual 261, 3) := by decide +kernel
theorem dX8_learnsIn_86 : decode cX8_learnsIn 86 = .ok (.ifCond .ne 5, 3) := by decide +kernel
theorem dX8_learnsIn_89 : decode cX8_learnsIn 89 = .ok (.iconst (-1), 1) := by decide +kernel
theorem dX8_learnsIn_90 : decode cX8_learnsIn 90 = .ok (.ireturn, 1) := by decide +kernel
theorem dX8_learnsIn_91 : decode cX8_learnsIn 91 = .ok (.iinc 2 1, 3) := by decide +kernel
theorem dX8_learnsIn_94 : decode cX8_learnsIn 94 = .ok (.goto (-59), 3) := by decide +kernel
theorem dX8_learnsIn_97 : decode cX8_learnsIn 97 = .ok (.iconst (-1), 1) := by decide +kernel
theorem dX8_learnsIn_98 : decode cX8_learnsIn 98 = .ok (.ireturn, 1) := by decide +kernel
theorem dX8_runScript_0 : decode cX8_runScript 0 = .ok (.iload_n 1, 1) := by decide +kernel
theorem dX8_runScript_1 : decode cX8_runScript 1 = .ok (.iconst 1, 1) := by decide +kernel
theorem dX8_runScript_2 : decode cX8_runScript 2 = .ok (.iconst 3, 1) := by decide +kernel
theorem dX8_runScript_3 : decode cX8_runScript 3 = .ok (.invokestatic 64, 3) := by decide +kernel
theorem dX8_runScript_6 : decode cX8_runScript 6 = .ok (.lconst 1, 1) := by decide +kernel
theorem dX8_runScript_7 : decode cX8_runScript 7 = .ok (.lstore 4, 2) := by decide +kernel
theorem dX8_runScript_9 : decode cX8_runScript 9 = .ok (.iconst 0, 1) := by decide +kernel
theorem dX8_runScript_10 : decode cX8_runScript 10 = .ok (.istore 6, 2) := by decide +kernel
theorem dX8_runScript_12 : decode cX8_runScript 12 = .ok (.iload 6, 2) := by decide +kernel
theorem dX8_runScript_14 : decode cX8_runScript 14 = .ok (.iload_n 1, 1) := by decide +kernel
theorem dX8_runScript_15 : decode cX8_runScript 15 = .ok (.if_icmp .ge 17, 3) := by decide +kernel
theorem dX8_runScript_18 : decode cX8_runScript 18 = .ok (.lload 4, 2) := by decide +kernel
theorem dX8_runScript_20 : decode cX8_runScript 20 = .ok (.ldc2_w 264, 3) := by decide +kernel
theorem dX8_runScript_23 : decode cX8_runScript 23 = .ok (.lmul, 1) := by decide +kernel
theorem dX8_runScript_24 : decode cX8_runScript 24 = .ok (.lstore 4, 2) := by decide +kernel
theorem dX8_runScript_26 : decode cX8_runScript 26 = .ok (.iinc 6 1, 3) := by decide +kernel
theorem dX8_runScript_29 : decode cX8_runScript 29 = .ok (.goto (-17), 3) := by decide +kernel
theorem dX8_runScript_32 : decode cX8_runScript 32 = .ok (.lload_n 2, 1) := by decide +kernel
theorem dX8_runScript_33 : decode cX8_runScript 33 = .ok (.lconst 0, 1) := by decide +kernel
theorem dX8_runScript_34 : decode cX8_runScript 34 = .ok (.lcmp, 1) := by decide +kernel
theorem dX8_runScript_35 : decode cX8_runScript 35 = .ok (.ifCond .lt 10, 3) := by decide +kernel
theorem dX8_runScript_38 : decode cX8_runScript 38 = .ok (.lload_n 2, 1) := by decide +kernel
theorem dX8_runScript_39 : decode cX8_runScript 39 = .ok (.lload 4, 2) := by decide +kernel
theorem dX8_runScript_41 : decode cX8_runScript 41 = .ok (.lcmp, 1) := by decide +kernel
theorem dX8_runScript_42 : decode cX8_runScript 42 = .ok (.ifCond .lt 14, 3) := by decide +kernel
theorem dX8_runScript_45 : decode cX8_runScript 45 = .ok (.new 180, 3) := by decide +kernel
theorem dX8_runScript_48 : decode cX8_runScript 48 = .ok (.dup, 1) := by decide +kernel
theorem dX8_runScript_49 : decode cX8_runScript 49 = .ok (.ldc_w 266, 3) := by decide +kernel
theorem dX8_runScript_52 : decode cX8_runScript 52 = .ok (.invokespecial 184, 3) := by decide +kernel
theorem dX8_runScript_55 : decode cX8_runScript 55 = .ok (.athrow, 1) := by decide +kernel
theorem dX8_runScript_56 : decode cX8_runScript 56 = .ok (.aload_n 0, 1) := by decide +kernel
theorem dX8_runScript_57 : decode cX8_runScript 57 = .ok (.getfield 37, 3) := by decide +kernel
theorem dX8_runScript_60 : decode cX8_runScript 60 = .ok (.aload_n 0, 1) := by decide +kernel
theorem dX8_runScript_61 : decode cX8_runScript 61 = .ok (.getfield 33, 3) := by decide +kernel
theorem dX8_runScript_64 : decode cX8_runScript 64 = .ok (.invokevirtual 248, 3) := by decide +kernel
theorem dX8_runScript_67 : decode cX8_runScript 67 = .ok (.iconst 0, 1) := by decide +kernel
theorem dX8_runScript_68 : decode cX8_runScript 68 = .ok (.istore 6, 2) := by decide +kernel
theorem dX8_runScript_70 : decode cX8_runScript 70 = .ok (.iload 6, 2) := by decide +kernel
theorem dX8_runScript_72 : decode cX8_runScript 72 = .ok (.iload_n 1, 1) := by decide +kernel
theorem dX8_runScript_73 : decode cX8_runScript 73 = .ok (.if_icmp .ge 43, 3) := by decide +kernel
theorem dX8_runScript_76 : decode cX8_runScript 76 = .ok (.lload 4, 2) := by decide +kernel
theorem dX8_runScript_78 : decode cX8_runScript 78 = .ok (.ldc2_w 264, 3) := by decide +kernel
theorem dX8_runScript_81 : decode cX8_runScript 81 = .ok (.ldiv, 1) := by decide +kernel
theorem dX8_runScript_82 : decode cX8_runScript 82 = .ok (.lstore 4, 2) := by decide +kernel
theorem dX8_runScript_84 : decode cX8_runScript 84 = .ok (.lload 4, 2) := by decide +kernel
theorem dX8_runScript_86 : decode cX8_runScript 86 = .ok (.lconst 1, 1) := by decide +kernel
theorem dX8_runScript_87 : decode cX8_runScript 87 = .ok (.lcmp, 1) := by decide +kernel
theorem dX8_runScript_88 : decode cX8_runScript 88 = .ok (.ifCond .lt 19, 3) := by decide +kernel
theorem dX8_runScript_91 : decode cX8_runScript 91 = .ok (.aload_n 0, 1) := by decide +kernel
theorem dX8_runScript_92 : decode cX8_runScript 92 = .ok (.lload_n 2, 1) := by decide +kernel
theorem dX8_runScript_93 : decode cX8_runScript 93 = .ok (.lload 4, 2) := by decide +kernel
theorem dX8_runScript_95 : decode cX8_runScript 95 = .ok (.ldiv, 1) := by decide +kernel
theorem dX8_runScript_96 : decode cX8_runScript 96 = .ok (.ldc2_w 264, 3) := by decide +kernel
theorem dX8_runScript_99 : decode cX8_runScript 99 = .ok (.lrem, 1) := by decide +kernel
theorem dX8_runScript_100 : decode cX8_runScript 100 = .ok (.l2i, 1) := by decide +kernel
theorem dX8_runScript_101 : decode cX8_runScript 101 = .ok (.invokevirtual 268, 3) := by decide +kernel
theorem dX8_runScript_104 : decode cX8_runScript 104 = .ok (.ifCond .ne 6, 3) := by decide +kernel
theorem dX8_runScript_107 : decode cX8_runScript 107 = .ok (.iload 6, 2) := by decide +kernel
theorem dX8_runScript_109 : decode cX8_runScript 109 = .ok (.ireturn, 1) := by decide +kernel
theorem dX8_runScript_110 : decode cX8_runScript 110 = .ok (.iinc 6 1, 3) := by decide +kernel
theorem dX8_runScript_113 : decode cX8_runScript 113 = .ok (.goto (-43), 3) := by decide +kernel
theorem dX8_runScript_116 : decode cX8_runScript 116 = .ok (.iconst (-1), 1) := by decide +kernel
theorem dX8_runScript_117 : decode cX8_runScript 117 = .ok (.ireturn, 1) := by decide +kernel
theorem dX8_simulate_0 : decode cX8_simulate 0 = .ok (.iload_n 3, 1) := by decide +kernel
theorem dX8_simulate_1 : decode cX8_simulate 1 = .ok (.iconst 1, 1) := by decide +kernel
theorem dX8_simulate_2 : decode cX8_simulate 2 = .ok (.bipush 40, 2) := by decide +kernel
theorem dX8_simulate_4 : decode cX8_simulate 4 = .ok (.invokestatic 64, 3) := by decide +kernel
theorem dX8_simulate_7 : decode cX8_simulate 7 = .ok (.aload_n 0, 1) := by decide +kernel
theorem dX8_simulate_8 : decode cX8_simulate 8 = .ok (.getfield 37, 3) := by decide +kernel
theorem dX8_simulate_11 : decode cX8_simulate 11 = .ok (.aload_n 0, 1) := by decide +kernel
theorem dX8_simulate_12 : decode cX8_simulate 12 = .ok (.getfield 33, 3) := by decide +kernel
theorem dX8_simulate_15 : decode cX8_simulate 15 = .ok (.invokevirtual 248, 3) := by decide +kernel
theorem dX8_simulate_18 : decode cX8_simulate 18 = .ok (.lload_n 1, 1) := by decide +kernel
theorem dX8_simulate_19 : decode cX8_simulate 19 = .ok (.lstore 4, 2) := by decide +kernel
theorem dX8_simulate_21 : decode cX8_simulate 21 = .ok (.iconst 0, 1) := by decide +kernel
theorem dX8_simulate_22 : decode cX8_simulate 22 = .ok (.istore 6, 2) := by decide +kernel
theorem dX8_simulate_24 : decode cX8_simulate 24 = .ok (.iload 6, 2) := by decide +kernel
theorem dX8_simulate_26 : decode cX8_simulate 26 = .ok (.iload_n 3, 1) := by decide +kernel
theorem dX8_simulate_27 : decode cX8_simulate 27 = .ok (.if_icmp .ge 31, 3) := by decide +kernel
theorem dX8_simulate_30 : decode cX8_simulate 30 = .ok (.lload 4, 2) := by decide +kernel
theorem dX8_simulate_32 : decode cX8_simulate 32 = .ok (.ldc2_w 271, 3) := by decide +kernel
theorem dX8_simulate_35 : decode cX8_simulate 35 = .ok (.lmul, 1) := by decide +kernel
theorem dX8_simulate_36 : decode cX8_simulate 36 = .ok (.ldc2_w 273, 3) := by decide +kernel
theorem dX8_simulate_39 : decode cX8_simulate 39 = .ok (.ladd, 1) := by decide +kernel
theorem dX8_simulate_40 : decode cX8_simulate 40 = .ok (.lstore 4, 2) := by decide +kernel
theorem dX8_simulate_42 : decode cX8_simulate 42 = .ok (.aload_n 0, 1) := by decide +kernel
theorem dX8_simulate_43 : decode cX8_simulate 43 = .ok (.lload 4, 2) := by decide +kernel
theorem dX8_simulate_45 : decode cX8_simulate 45 = .ok (.bipush 33, 2) := by decide +kernel
theorem dX8_simulate_47 : decode cX8_simulate 47 = .ok (.lushr, 1) := by decide +kernel
theorem dX8_simulate_48 : decode cX8_simulate 48 = .ok (.l2i, 1) := by decide +kernel
theorem dX8_simulate_49 : decode cX8_simulate 49 = .ok (.invokevirtual 275, 3) := by decide +kernel
theorem dX8_simulate_52 : decode cX8_simulate 52 = .ok (.iinc 6 1, 3) := by decide +kernel
theorem dX8_simulate_55 : decode cX8_simulate 55 = .ok (.goto (-31), 3) := by decide +kernel
theorem dX8_simulate_58 : decode cX8_simulate 58 = .ok (.bipush 100, 2) := by decide +kernel
theorem dX8_simulate_60 : decode cX8_simulate 60 = .ok (.aload_n 0, 1) := by decide +kernel
theorem dX8_simulate_61 : decode cX8_simulate 61 = .ok (.getfield 37, 3) := by decide +kernel
theorem dX8_simulate_64 : decode cX8_simulate 64 = .ok (.getfield 278, 3) := by decide +kernel
theorem dX8_simulate_67 : decode cX8_simulate 67 = .ok (.aload_n 0, 1) := by decide +kernel
theorem dX8_simulate_68 : decode cX8_simulate 68 = .ok (.getfield 33, 3) := by decide +kernel
theorem dX8_simulate_71 : decode cX8_simulate 71 = .ok (.getfield 278, 3) := by decide +kernel
theorem dX8_simulate_74 : decode cX8_simulate 74 = .ok (.isub, 1) := by decide +kernel
theorem dX8_simulate_75 : decode cX8_simulate 75 = .ok (.imul, 1) := by decide +kernel
theorem dX8_simulate_76 : decode cX8_simulate 76 = .ok (.aload_n 0, 1) := by decide +kernel
theorem dX8_simulate_77 : decode cX8_simulate 77 = .ok (.getfield 37, 3) := by decide +kernel
theorem dX8_simulate_80 : decode cX8_simulate 80 = .ok (.invokevirtual 282, 3) := by decide +kernel
theorem dX8_simulate_83 : decode cX8_simulate 83 = .ok (.iadd, 1) := by decide +kernel
theorem dX8_simulate_84 : decode cX8_simulate 84 = .ok (.ireturn, 1) := by decide +kernel
theorem dX8_save_0 : decode cX8_save 0 = .ok (.iload_n 1, 1) := by decide +kernel
theorem dX8_save_1 : decode cX8_save 1 = .ok (.invokestatic 285, 3) := by decide +kernel
theorem dX8_save_4 : decode cX8_save 4 = .ok (.aload_n 0, 1) := by decide +kernel
theorem dX8_save_5 : decode cX8_save 5 = .ok (.getfield 50, 3) := by decide +kernel
theorem dX8_save_8 : decode cX8_save 8 = .ok (.iload_n 1, 1) := by decide +kernel
theorem dX8_save_9 : decode cX8_save 9 = .ok (.aload_n 0, 1) := by decide +kernel
theorem dX8_save_10 : decode cX8_save 10 = .ok (.getfield 33, 3) := by decide +kernel
theorem dX8_save_13 : decode cX8_save 13 = .ok (.invokevirtual 288, 3) := by decide +kernel
theorem dX8_save_16 : decode cX8_save 16 = .ok (.aload_n 0, 1) := by decide +kernel
theorem dX8_save_17 : decode cX8_save 17 = .ok (.getfield 33, 3) := by decide +kernel
theorem dX8_save_20 : decode cX8_save 20 = .ok (.getfield 291, 3) := by decide +kernel
theorem dX8_save_23 : decode cX8_save 23 = .ok (.ireturn, 1) := by decide +kernel
theorem dX8_restore_0 : decode cX8_restore 0 = .ok (.iload_n 1, 1) := by decide +kernel
theorem dX8_restore_1 : decode cX8_restore 1 = .ok (.invokestatic 285, 3) := by decide +kernel
theorem dX8_restore_4 : decode cX8_restore 4 = .ok (.aload_n 0, 1) := by decide +kernel
theorem dX8_restore_5 : decode cX8_restore 5 = .ok (.getfield 50, 3) := by decide +kernel
theorem dX8_restore_8 : decode cX8_restore 8 = .ok (.iload_n 1, 1) := by decide +kernel
theorem dX8_restore_9 : decode cX8_restore 9 = .ok (.invokevirtual 294, 3) := by decide +kernel
theorem dX8_restore_12 : decode cX8_restore 12 = .ok (.ifCond .ne 14, 3) := by decide +kernel
theorem dX8_restore_15 : decode cX8_restore 15 = .ok (.new 72, 3) := by decide +kernel
theorem dX8_restore_18 : decode cX8_restore 18 = .ok (.dup, 1) := by decide +kernel
theorem dX8_restore_19 : decode cX8_restore 19 = .ok (.ldc_w 297, 3) := by decide +kernel
theorem dX8_restore_22 : decode cX8_restore 22 = .ok (.invokespecial 76, 3) := by decide +kernel
theorem dX8_restore_25 : decode cX8_restore 25 = .ok (.athrow, 1) := by decide +kernel
theorem dX8_restore_26 : decode cX8_restore 26 = .ok (.aload_n 0, 1) := by decide +kernel
theorem dX8_restore_27 : decode cX8_restore 27 = .ok (.getfield 50, 3) := by decide +kernel
theorem dX8_restore_30 : decode cX8_restore 30 = .ok (.iload_n 1, 1) := by decide +kernel
theorem dX8_restore_31 : decode cX8_restore 31 = .ok (.aload_n 0, 1) := by decide +kernel
theorem dX8_restore_32 : decode cX8_restore 32 = .ok (.getfield 33, 3) := by decide +kernel
theorem dX8_restore_35 : decode cX8_restore 35 = .ok (.invokevirtual 299, 3) := by decide +kernel
theorem dX8_restore_38 : decode cX8_restore 38 = .ok (.aload_n 0, 1) := by decide +kernel
theorem dX8_restore_39 : decode cX8_restore 39 = .ok (.getfield 43, 3) := by decide +kernel
theorem dX8_restore_42 : decode cX8_restore 42 = .ok (.invokevirtual 96, 3) := by decide +kernel
theorem dX8_restore_45 : decode cX8_restore 45 = .ok (.aload_n 0, 1) := by decide +kernel
theorem dX8_restore_46 : decode cX8_restore 46 = .ok (.getfield 33, 3) := by decide +kernel
theorem dX8_restore_49 : decode cX8_restore 49 = .ok (.getfield 291, 3) := by decide +kernel
theorem dX8_restore_52 : decode cX8_restore 52 = .ok (.ireturn, 1) := by decide +kernel
theorem dX8_readEntries_0 : decode cX8_readEntries 0 = .ok (.iconst 0, 1) := by decide +kernel
theorem dX8_readEntries_1 : decode cX8_readEntries 1 = .ok (.istore_n 1, 1) := by decide +kernel
theorem dX8_readEntries_2 : decode cX8_readEntries 2 = .ok (.aload_n 0, 1) := by decide +kernel
theorem dX8_readEntries_3 : decode cX8_readEntries 3 = .ok (.getfield 19, 3) := by decide +kernel
theorem dX8_readEntries_6 : decode cX8_readEntries 6 = .ok (.invokevirtual 302, 3) := by decide +kernel
theorem dX8_readEntries_9 : decode cX8_readEntries 9 = .ok (.iconst 0, 1) := by decide +kernel
theorem dX8_readEntries_10 : decode cX8_readEntries 10 = .ok (.istore_n 2, 1) := by decide +kernel
theorem dX8_readEntries_11 : decode cX8_readEntries 11 = .ok (.iload_n 2, 1) := by decide +kernel
theorem dX8_readEntries_12 : decode cX8_readEntries 12 = .ok (.aload_n 0, 1) := by decide +kernel
theorem dX8_readEntries_13 : decode cX8_readEntries 13 = .ok (.getfield 10, 3) := by decide +kernel
theorem dX8_readEntries_16 : decode cX8_readEntries 16 = .ok (.getfield 305, 3) := by decide +kernel
theorem dX8_readEntries_19 : decode cX8_readEntries 19 = .ok (.if_icmp .gt 59, 3) := by decide +kernel
theorem dX8_readEntries_22 : decode cX8_readEntries 22 = .ok (.iload_n 2, 1) := by decide +kernel
theorem dX8_readEntries_23 : decode cX8_readEntries 23 = .ok (.aload_n 0, 1) := by decide +kernel
theorem dX8_readEntries_24 : decode cX8_readEntries 24 = .ok (.getfield 10, 3) := by decide +kernel
theorem dX8_readEntries_27 : decode cX8_readEntries 27 = .ok (.getfield 305, 3) := by decide +kernel
theorem dX8_readEntries_30 : decode cX8_readEntries 30 = .ok (.if_icmp .ge 14, 3) := by decide +kernel
theorem dX8_readEntries_33 : decode cX8_readEntries 33 = .ok (.aload_n 0, 1) := by decide +kernel
theorem dX8_readEntries_34 : decode cX8_readEntries 34 = .ok (.getfield 10, 3) := by decide +kernel
theorem dX8_readEntries_37 : decode cX8_readEntries 37 = .ok (.iload_n 2, 1) := by decide +kernel
theorem dX8_readEntries_38 : decode cX8_readEntries 38 = .ok (.invokevirtual 308, 3) := by decide +kernel
theorem dX8_readEntries_41 : decode cX8_readEntries 41 = .ok (.goto 5, 3) := by decide +kernel
theorem dX8_readEntries_44 : decode cX8_readEntries 44 = .ok (.bipush 59, 2) := by decide +kernel
theorem dX8_readEntries_46 : decode cX8_readEntries 46 = .ok (.istore_n 3, 1) := by decide +kernel
theorem dX8_readEntries_47 : decode cX8_readEntries 47 = .ok (.iload_n 3, 1) := by decide +kernel
theorem dX8_readEntries_48 : decode cX8_readEntries 48 = .ok (.bipush 59, 2) := by decide +kernel
theorem dX8_readEntries_50 : decode cX8_readEntries 50 = .ok (.if_icmp .ne 13, 3) := by decide +kernel
theorem dX8_readEntries_53 : decode cX8_readEntries 53 = .ok (.aload_n 0, 1) := by decide +kernel
theorem dX8_readEntries_54 : decode cX8_readEntries 54 = .ok (.invokevirtual 311, 3) := by decide +kernel
theorem dX8_readEntries_57 : decode cX8_readEntries 57 = .ok (.ifCond .ne 6, 3) := by decide +kernel
theorem dX8_readEntries_60 : decode cX8_readEntries 60 = .ok (.iinc 1 1, 3) := by decide +kernel
theorem dX8_readEntries_63 : decode cX8_readEntries 63 = .ok (.aload_n 0, 1) := by decide +kernel
theorem dX8_readEntries_64 : decode cX8_readEntries 64 = .ok (.getfield 19, 3) := by decide +kernel
theorem dX8_readEntries_67 : decode cX8_readEntries 67 = .ok (.iload_n 3, 1) := by decide +kernel
theorem dX8_readEntries_68 : decode cX8_readEntries 68 = .ok (.invokevirtual 314, 3) := by decide +kernel
theorem dX8_readEntries_71 : decode cX8_readEntries 71 = .ok (.pop, 1) := by decide +kernel
theorem dX8_readEntries_72 : decode cX8_readEntries 72 = .ok (.iinc 2 1, 3) := by decide +kernel
theorem dX8_readEntries_75 : decode cX8_readEntries 75 = .ok (.goto (-64), 3) := by decide +kernel
theorem dX8_readEntries_78 : decode cX8_readEntries 78 = .ok (.iload_n 1, 1) := by decide +kernel
theorem dX8_readEntries_79 : decode cX8_readEntries 79 = .ok (.ireturn, 1) := by decide +kernel
theorem dX8_doEntry_0 : decode cX8_doEntry 0 = .ok (.aload_n 0, 1) := by decide +kernel
theorem dX8_doEntry_1 : decode cX8_doEntry 1 = .ok (.getfield 19, 3) := by decide +kernel
theorem dX8_doEntry_4 : decode cX8_doEntry 4 = .ok (.invokevirtual 317, 3) := by decide +kernel
theorem dX8_doEntry_7 : decode cX8_doEntry 7 = .ok (.ifCond .eq 32, 3) := by decide +kernel
theorem dX8_doEntry_10 : decode cX8_doEntry 10 = .ok (.aload_n 0, 1) := by decide +kernel
theorem dX8_doEntry_11 : decode cX8_doEntry 11 = .ok (.getfield 33, 3) := by decide +kernel
theorem dX8_doEntry_14 : decode cX8_doEntry 14 = .ok (.invokevirtual 137, 3) := by decide +kernel
theorem dX8_doEntry_17 : decode cX8_doEntry 17 = .ok (.ifCond .eq 5, 3) := by decide +kernel
theorem dX8_doEntry_20 : decode cX8_doEntry 20 = .ok (.iconst 0, 1) := by decide +kernel
theorem dX8_doEntry_21 : decode cX8_doEntry 21 = .ok (.ireturn, 1) := by decide +kernel
theorem dX8_doEntry_22 : decode cX8_doEntry 22 = .ok (.aload_n 0, 1) := by decide +kernel
theorem dX8_doEntry_23 : decode cX8_doEntry 23 = .ok (.getfield 33, 3) := by decide +kernel
theorem dX8_doEntry_26 : decode cX8_doEntry 26 = .ok (.aload_n 0, 1) := by decide +kernel
theorem dX8_doEntry_27 : decode cX8_doEntry 27 = .ok (.getfield 19, 3) := by decide +kernel
theorem dX8_doEntry_30 : decode cX8_doEntry 30 = .ok (.getfield 320, 3) := by decide +kernel
theorem dX8_doEntry_33 : decode cX8_doEntry 33 = .ok (.invokevirtual 144, 3) := by decide +kernel
theorem dX8_doEntry_36 : decode cX8_doEntry 36 = .ok (.pop, 1) := by decide +kernel
theorem dX8_doEntry_37 : decode cX8_doEntry 37 = .ok (.iconst 1, 1) := by decide +kernel
theorem dX8_doEntry_38 : decode cX8_doEntry 38 = .ok (.ireturn, 1) := by decide +kernel
theorem dX8_doEntry_39 : decode cX8_doEntry 39 = .ok (.aload_n 0, 1) := by decide +kernel
theorem dX8_doEntry_40 : decode cX8_doEntry 40 = .ok (.getfield 33, 3) := by decide +kernel
theorem dX8_doEntry_43 : decode cX8_doEntry 43 = .ok (.aload_n 0, 1) := by decide +kernel
theorem dX8_doEntry_44 : decode cX8_doEntry 44 = .ok (.getfield 19, 3) := by decide +kernel
theorem dX8_doEntry_47 : decode cX8_doEntry 47 = .ok (.getfield 323, 3) := by decide +kernel
theorem dX8_doEntry_50 : decode cX8_doEntry 50 = .ok (.aload_n 0, 1) := by decide +kernel
theorem dX8_doEntry_51 : decode cX8_doEntry 51 = .ok (.getfield 19, 3) := by decide +kernel
theorem dX8_doEntry_54 : decode cX8_doEntry 54 = .ok (.getfield 326, 3) := by decide +kernel
theorem dX8_doEntry_57 : decode cX8_doEntry 57 = .ok (.invokevirtual 329, 3) := by decide +kernel
theorem dX8_doEntry_60 : decode cX8_doEntry 60 = .ok (.ifCond .ne 5, 3) := by decide +kernel
theorem dX8_doEntry_63 : decode cX8_doEntry 63 = .ok (.iconst 0, 1) := by decide +kernel
theorem dX8_doEntry_64 : decode cX8_doEntry 64 = .ok (.ireturn, 1) := by decide +kernel
theorem dX8_doEntry_65 : decode cX8_doEntry 65 = .ok (.aload_n 0, 1) := by decide +kernel
theorem dX8_doEntry_66 : decode cX8_doEntry 66 = .ok (.getfield 19, 3) := by decide +kernel
theorem dX8_doEntry_69 : decode cX8_doEntry 69 = .ok (.getfield 323, 3) := by decide +kernel
theorem dX8_doEntry_72 : decode cX8_doEntry 72 = .ok (.aload_n 0, 1) := by decide +kernel
theorem dX8_doEntry_73 : decode cX8_doEntry 73 = .ok (.getfield 19, 3) := by decide +kernel
theorem dX8_doEntry_76 : decode cX8_doEntry 76 = .ok (.getfield 326, 3) := by decide +kernel
theorem dX8_doEntry_79 : decode cX8_doEntry 79 = .ok (.invokestatic 124, 3) := by decide +kernel
theorem dX8_doEntry_82 : decode cX8_doEntry 82 = .ok (.istore_n 1, 1) := by decide +kernel
theorem dX8_doEntry_83 : decode cX8_doEntry 83 = .ok (.aload_n 0, 1) := by decide +kernel
theorem dX8_doEntry_84 : decode cX8_doEntry 84 = .ok (.getfield 33, 3) := by decide +kernel
theorem dX8_doEntry_87 : decode cX8_doEntry 87 = .ok (.iload_n 1, 1) := by decide +kernel
theorem dX8_doEntry_88 : decode cX8_doEntry 88 = .ok (.aload_n 0, 1) := by decide +kernel
theorem dX8_doEntry_89 : decode cX8_doEntry 89 = .ok (.getfield 19, 3) := by decide +kernel
theorem dX8_doEntry_92 : decode cX8_doEntry 92 = .ok (.getfield 332, 3) := by decide +kernel
theorem dX8_doEntry_95 : decode cX8_doEntry 95 = .ok (.aload_n 0, 1) := by decide +kernel
theorem dX8_doEntry_96 : decode cX8_doEntry 96 = .ok (.getfield 19, 3) := by decide +kernel
theorem dX8_doEntry_99 : decode cX8_doEntry 99 = .ok (.getfield 320, 3) := by decide +kernel
theorem dX8_doEntry_102 : decode cX8_doEntry 102 = .ok (.invokevirtual 150, 3) := by decide +kernel
theorem dX8_doEntry_105 : decode cX8_doEntry 105 = .ok (.pop, 1) := by decide +kernel
theorem dX8_doEntry_106 : decode cX8_doEntry 106 = .ok (.iconst 1, 1) := by decide +kernel
theorem dX8_doEntry_107 : decode cX8_doEntry 107 = .ok (.ireturn, 1) := by decide +kernel
theorem dX8_runIn_0 : decode cX8_runIn 0 = .ok (.aload_n 0, 1) := by decide +kernel
theorem dX8_runIn_1 : decode cX8_runIn 1 = .ok (.aload_n 1, 1) := by decide +kernel
theorem dX8_runIn_2 : decode cX8_runIn 2 = .ok (.iload_n 2, 1) := by decide +kernel
theorem dX8_runIn_3 : decode cX8_runIn 3 = .ok (.invokevirtual 219, 3) := by decide +kernel
theorem dX8_runIn_6 : decode cX8_runIn 6 = .ok (.lstore_n 3, 1) := by decide +kernel
theorem dX8_runIn_7 : decode cX8_runIn 7 = .ok (.aload_n 1, 1) := by decide +kernel
theorem dX8_runIn_8 : decode cX8_runIn 8 = .ok (.aload_n 0, 1) := by decide +kernel
theorem dX8_runIn_9 : decode cX8_runIn 9 = .ok (.getfield 61, 3) := by decide +kernel
theorem dX8_runIn_12 : decode cX8_runIn 12 = .ok (.invokevirtual 223, 3) := by decide +kernel
theorem dX8_runIn_15 : decode cX8_runIn 15 = .ok (.lload_n 3, 1) := by decide +kernel
theorem dX8_runIn_16 : decode cX8_runIn 16 = .ok (.ladd, 1) := by decide +kernel
theorem dX8_runIn_17 : decode cX8_runIn 17 = .ok (.lload_n 3, 1) := by decide +kernel
theorem dX8_runIn_18 : decode cX8_runIn 18 = .ok (.invokevirtual 335, 3) := by decide +kernel
theorem dX8_runIn_21 : decode cX8_runIn 21 = .ok (.aload_n 1, 1) := by decide +kernel
theorem dX8_runIn_22 : decode cX8_runIn 22 = .ok (.iload_n 2, 1) := by decide +kernel
theorem dX8_runIn_23 : decode cX8_runIn 23 = .ok (.invokevirtual 261, 3) := by decide +kernel
theorem dX8_runIn_26 : decode cX8_runIn 26 = .ok (.ireturn, 1) := by decide +kernel
theorem dX8_regretIn_0 : decode cX8_regretIn 0 = .ok (.aload_n 0, 1) := by decide +kernel
theorem dX8_regretIn_1 : decode cX8_regretIn 1 = .ok (.getfield 57, 3) := by decide +kernel
theorem dX8_regretIn_4 : decode cX8_regretIn 4 = .ok (.aload_n 1, 1) := by decide +kernel
theorem dX8_regretIn_5 : decode cX8_regretIn 5 = .ok (.iload_n 2, 1) := by decide +kernel
theorem dX8_regretIn_6 : decode cX8_regretIn 6 = .ok (.iconst 1, 1) := by decide +kernel
theorem dX8_regretIn_7 : decode cX8_regretIn 7 = .ok (.invokevirtual 210, 3) := by decide +kernel
theorem dX8_regretIn_10 : decode cX8_regretIn 10 = .ok (.aload_n 0, 1) := by decide +kernel
theorem dX8_regretIn_11 : decode cX8_regretIn 11 = .ok (.getfield 61, 3) := by decide +kernel
theorem dX8_regretIn_14 : decode cX8_regretIn 14 = .ok (.aload_n 1, 1) := by decide +kernel
theorem dX8_regretIn_15 : decode cX8_regretIn 15 = .ok (.iload_n 2, 1) := by decide +kernel
theorem dX8_regretIn_16 : decode cX8_regretIn 16 = .ok (.iconst 2, 1) := by decide +kernel
theorem dX8_regretIn_17 : decode cX8_regretIn 17 = .ok (.invokevirtual 210, 3) := by decide +kernel
theorem dX8_regretIn_20 : decode cX8_regretIn 20 = .ok (.aload_n 0, 1) := by decide +kernel
theorem dX8_regretIn_21 : decode cX8_regretIn 21 = .ok (.getfield 61, 3) := by decide +kernel
theorem dX8_regretIn_24 : decode cX8_regretIn 24 = .ok (.aload_n 0, 1) := by decide +kernel
theorem dX8_regretIn_25 : decode cX8_regretIn 25 = .ok (.getfield 57, 3) := by decide +kernel
theorem dX8_regretIn_28 : decode cX8_regretIn 28 = .ok (.invokevirtual 227, 3) := by decide +kernel
theorem dX8_regretIn_31 : decode cX8_regretIn 31 = .ok (.aload_n 0, 1) := by decide +kernel
theorem dX8_regretIn_32 : decode cX8_regretIn 32 = .ok (.getfield 61, 3) := by decide +kernel
theorem dX8_regretIn_35 : decode cX8_regretIn 35 = .ok (.invokevirtual 223, 3) := by decide +kernel
theorem dX8_regretIn_38 : decode cX8_regretIn 38 = .ok (.lsub, 1) := by decide +kernel
theorem dX8_regretIn_39 : decode cX8_regretIn 39 = .ok (.lreturn, 1) := by decide +kernel
theorem dX8_succeeds_0 : decode cX8_succeeds 0 = .ok (.iload_n 1, 1) := by decide +kernel
theorem dX8_succeeds_1 : decode cX8_succeeds 1 = .ok (.ldc_w 339, 3) := by decide +kernel
theorem dX8_succeeds_4 : decode cX8_succeeds 4 = .ok (.idiv, 1) := by decide +kernel
theorem dX8_succeeds_5 : decode cX8_succeeds 5 = .ok (.istore_n 2, 1) := by decide +kernel
theorem dX8_succeeds_6 : decode cX8_succeeds 6 = .ok (.iload_n 1, 1) := by decide +kernel
theorem dX8_succeeds_7 : decode cX8_succeeds 7 = .ok (.sipush 10000, 3) := by decide +kernel
theorem dX8_succeeds_10 : decode cX8_succeeds 10 = .ok (.idiv, 1) := by decide +kernel
theorem dX8_succeeds_11 : decode cX8_succeeds 11 = .ok (.bipush 10, 2) := by decide +kernel
theorem dX8_succeeds_13 : decode cX8_succeeds 13 = .ok (.irem, 1) := by decide +kernel
theorem dX8_succeeds_14 : decode cX8_succeeds 14 = .ok (.istore_n 3, 1) := by decide +kernel
theorem dX8_succeeds_15 : decode cX8_succeeds 15 = .ok (.iload_n 1, 1) := by decide +kernel
theorem dX8_succeeds_16 : decode cX8_succeeds 16 = .ok (.sipush 1000, 3) := by decide +kernel
theorem dX8_succeeds_19 : decode cX8_succeeds 19 = .ok (.idiv, 1) := by decide +kernel
theorem dX8_succeeds_20 : decode cX8_succeeds 20 = .ok (.bipush 10, 2) := by decide +kernel
theorem dX8_succeeds_22 : decode cX8_succeeds 22 = .ok (.irem, 1) := by decide +kernel
theorem dX8_succeeds_23 : decode cX8_succeeds 23 = .ok (.istore 4, 2) := by decide +kernel
theorem dX8_succeeds_25 : decode cX8_succeeds 25 = .ok (.iload_n 1, 1) := by decide +kernel
theorem dX8_succeeds_26 : decode cX8_succeeds 26 = .ok (.sipush 1000, 3) := by decide +kernel
theorem dX8_succeeds_29 : decode cX8_succeeds 29 = .ok (.irem, 1) := by decide +kernel
theorem dX8_succeeds_30 : decode cX8_succeeds 30 = .ok (.istore 5, 2) := by decide +kernel
theorem dX8_succeeds_32 : decode cX8_succeeds 32 = .ok (.iload_n 2, 1) := by decide +kernel
theorem dX8_succeeds_33 : decode cX8_succeeds 33 = .ok (.tableswitch 325 1 9 #[51, 96, 134, 144, 165, 175, 205, 249, 283], 51) := by decide +kernel
theorem dX8_succeeds_84 : decode cX8_succeeds 84 = .ok (.iload_n 3, 1) := by decide +kernel
theorem dX8_succeeds_85 : decode cX8_succeeds 85 = .ok (.ifCond .ne 42, 3) := by decide +kernel
theorem dX8_succeeds_88 : decode cX8_succeeds 88 = .ok (.iload 4, 2) := by decide +kernel
theorem dX8_succeeds_90 : decode cX8_succeeds 90 = .ok (.ifCond .ne 37, 3) := by decide +kernel
theorem dX8_succeeds_93 : decode cX8_succeeds 93 = .ok (.iload 5, 2) := by decide +kernel
theorem dX8_succeeds_95 : decode cX8_succeeds 95 = .ok (.ifCond .eq 32, 3) := by decide +kernel
theorem dX8_succeeds_98 : decode cX8_succeeds 98 = .ok (.aload_n 0, 1) := by decide +kernel
theorem dX8_succeeds_99 : decode cX8_succeeds 99 = .ok (.getfield 37, 3) := by decide +kernel
theorem dX8_succeeds_102 : decode cX8_succeeds 102 = .ok (.iload 5, 2) := by decide +kernel
theorem dX8_succeeds_104 : decode cX8_succeeds 104 = .ok (.invokevirtual 234, 3) := by decide +kernel
theorem dX8_succeeds_107 : decode cX8_succeeds 107 = .ok (.ifCond .eq 20, 3) := by decide +kernel
theorem dX8_succeeds_110 : decode cX8_succeeds 110 = .ok (.aload_n 0, 1) := by decide +kernel
theorem dX8_succeeds_111 : decode cX8_succeeds 111 = .ok (.aload_n 0, 1) := by decide +kernel
theorem dX8_succeeds_112 : decode cX8_succeeds 112 = .ok (.getfield 37, 3) := by decide +kernel
theorem dX8_succeeds_115 : decode cX8_succeeds 115 = .ok (.iload 5, 2) := by decide +kernel
theorem dX8_succeeds_117 : decode cX8_succeeds 117 = .ok (.invokevirtual 169, 3) := by decide +kernel
theorem dX8_succeeds_120 : decode cX8_succeeds 120 = .ok (.ifCond .lt 7, 3) := by decide +kernel
theorem dX8_succeeds_123 : decode cX8_succeeds 123 = .ok (.iconst 1, 1) := by decide +kernel
theorem dX8_succeeds_124 : decode cX8_succeeds 124 = .ok (.goto 4, 3) := by decide +kernel
theorem dX8_succeeds_127 : decode cX8_succeeds 127 = .ok (.iconst 0, 1) := by decide +kernel
theorem dX8_succeeds_128 : decode cX8_succeeds 128 = .ok (.ireturn, 1) := by decide +kernel
theorem dX8_succeeds_129 : decode cX8_succeeds 129 = .ok (.iload_n 3, 1) := by decide +kernel
theorem dX8_succeeds_130 : decode cX8_succeeds 130 = .ok (.ifCond .ne 35, 3) := by decide +kernel
theorem dX8_succeeds_133 : decode cX8_succeeds 133 = .ok (.iload 4, 2) := by decide +kernel
theorem dX8_succeeds_135 : decode cX8_succeeds 135 = .ok (.ifCond .ne 30, 3) := by decide +kernel
theorem dX8_succeeds_138 : decode cX8_succeeds 138 = .ok (.iload 5, 2) := by decide +kernel
theorem dX8_succeeds_140 : decode cX8_succeeds 140 = .ok (.iconst 1, 1) := by decide +kernel
theorem dX8_succeeds_141 : decode cX8_succeeds 141 = .ok (.bipush 20, 2) := by decide +kernel
theorem dX8_succeeds_143 : decode cX8_succeeds 143 = .ok (.invokestatic 340, 3) := by decide +kernel
theorem dX8_succeeds_146 : decode cX8_succeeds 146 = .ok (.ifCond .eq 19, 3) := by decide +kernel
theorem dX8_succeeds_149 : decode cX8_succeeds 149 = .ok (.aload_n 0, 1) := by decide +kernel
theorem dX8_succeeds_150 : decode cX8_succeeds 150 = .ok (.getfield 37, 3) := by decide +kernel
theorem dX8_succeeds_153 : decode cX8_succeeds 153 = .ok (.iload 5, 2) := by decide +kernel
theorem dX8_succeeds_155 : decode cX8_succeeds 155 = .ok (.invokevirtual 173, 3) := by decide +kernel
theorem dX8_succeeds_158 : decode cX8_succeeds 158 = .ok (.ifCond .lt 7, 3) := by decide +kernel
theorem dX8_succeeds_161 : decode cX8_succeeds 161 = .ok (.iconst 1, 1) := by decide +kernel
theorem dX8_succeeds_162 : decode cX8_succeeds 162 = .ok (.goto 4, 3) := by decide +kernel
theorem dX8_succeeds_165 : decode cX8_succeeds 165 = .ok (.iconst 0, 1) := by decide +kernel
theorem dX8_succeeds_166 : decode cX8_succeeds 166 = .ok (.ireturn, 1) := by decide +kernel
theorem dX8_succeeds_167 : decode cX8_succeeds 167 = .ok (.aload_n 0, 1) := by decide +kernel
theorem dX8_succeeds_168 : decode cX8_succeeds 168 = .ok (.iload_n 3, 1) := by decide +kernel
theorem dX8_succeeds_169 : decode cX8_succeeds 169 = .ok (.iload 4, 2) := by decide +kernel
theorem dX8_succeeds_171 : decode cX8_succeeds 171 = .ok (.iload 5, 2) := by decide +kernel
theorem dX8_succeeds_173 : decode cX8_succeeds 173 = .ok (.invokevirtual 344, 3) := by decide +kernel
theorem dX8_succeeds_176 : decode cX8_succeeds 176 = .ok (.ireturn, 1) := by decide +kernel
theorem dX8_succeeds_177 : decode cX8_succeeds 177 = .ok (.iload 4, 2) := by decide +kernel
theorem dX8_succeeds_179 : decode cX8_succeeds 179 = .ok (.ifCond .ne 17, 3) := by decide +kernel
theorem dX8_succeeds_182 : decode cX8_succeeds 182 = .ok (.aload_n 0, 1) := by decide +kernel
theorem dX8_succeeds_183 : decode cX8_succeeds 183 = .ok (.iload_n 3, 1) := by decide +kernel
theorem dX8_succeeds_184 : decode cX8_succeeds 184 = .ok (.iload 5, 2) := by decide +kernel
theorem dX8_succeeds_186 : decode cX8_succeeds 186 = .ok (.invokevirtual 347, 3) := by decide +kernel
theorem dX8_succeeds_189 : decode cX8_succeeds 189 = .ok (.ifCond .eq 7, 3) := by decide +kernel
theorem dX8_succeeds_192 : decode cX8_succeeds 192 = .ok (.iconst 1, 1) := by decide +kernel
theorem dX8_succeeds_193 : decode cX8_succeeds 193 = .ok (.goto 4, 3) := by decide +kernel
theorem dX8_succeeds_196 : decode cX8_succeeds 196 = .ok (.iconst 0, 1) := by decide +kernel
theorem dX8_succeeds_197 : decode cX8_succeeds 197 = .ok (.ireturn, 1) := by decide +kernel
theorem dX8_succeeds_198 : decode cX8_succeeds 198 = .ok (.aload_n 0, 1) := by decide +kernel
theorem dX8_succeeds_199 : decode cX8_succeeds 199 = .ok (.iload_n 3, 1) := by decide +kernel
theorem dX8_succeeds_200 : decode cX8_succeeds 200 = .ok (.iload 4, 2) := by decide +kernel
theorem dX8_succeeds_202 : decode cX8_succeeds 202 = .ok (.iload 5, 2) := by decide +kernel
theorem dX8_succeeds_204 : decode cX8_succeeds 204 = .ok (.invokevirtual 350, 3) := by decide +kernel
theorem dX8_succeeds_207 : decode cX8_succeeds 207 = .ok (.ireturn, 1) := by decide +kernel
theorem dX8_succeeds_208 : decode cX8_succeeds 208 = .ok (.aload_n 0, 1) := by decide +kernel
theorem dX8_succeeds_209 : decode cX8_succeeds 209 = .ok (.getfield 37, 3) := by decide +kernel
theorem dX8_succeeds_212 : decode cX8_succeeds 212 = .ok (.iload 5, 2) := by decide +kernel
theorem dX8_succeeds_214 : decode cX8_succeeds 214 = .ok (.invokevirtual 234, 3) := by decide +kernel
theorem dX8_succeeds_217 : decode cX8_succeeds 217 = .ok (.ifCond .eq 19, 3) := by decide +kernel
theorem dX8_succeeds_220 : decode cX8_succeeds 220 = .ok (.aload_n 0, 1) := by decide +kernel
theorem dX8_succeeds_221 : decode cX8_succeeds 221 = .ok (.iload_n 3, 1) := by decide +kernel
theorem dX8_succeeds_222 : decode cX8_succeeds 222 = .ok (.iload 5, 2) := by decide +kernel
theorem dX8_succeeds_224 : decode cX8_succeeds 224 = .ok (.iload 4, 2) := by decide +kernel
theorem dX8_succeeds_226 : decode cX8_succeeds 226 = .ok (.invokevirtual 353, 3) := by decide +kernel
theorem dX8_succeeds_229 : decode cX8_succeeds 229 = .ok (.ifCond .eq 7, 3) := by decide +kernel
theorem dX8_succeeds_232 : decode cX8_succeeds 232 = .ok (.iconst 1, 1) := by decide +kernel
theorem dX8_succeeds_233 : decode cX8_succeeds 233 = .ok (.goto 4, 3) := by decide +kernel
theorem dX8_succeeds_236 : decode cX8_succeeds 236 = .ok (.iconst 0, 1) := by decide +kernel
theorem dX8_succeeds_237 : decode cX8_succeeds 237 = .ok (.ireturn, 1) := by decide +kernel
theorem dX8_succeeds_238 : decode cX8_succeeds 238 = .ok (.iload 5, 2) := by decide +kernel
theorem dX8_succeeds_240 : decode cX8_succeeds 240 = .ok (.bipush 100, 2) := by decide +kernel
theorem dX8_succeeds_242 : decode cX8_succeeds 242 = .ok (.if_icmp .ge 38, 3) := by decide +kernel
theorem dX8_succeeds_245 : decode cX8_succeeds 245 = .ok (.aload_n 0, 1) := by decide +kernel
theorem dX8_succeeds_246 : decode cX8_succeeds 246 = .ok (.getfield 37, 3) := by decide +kernel
theorem dX8_succeeds_249 : decode cX8_succeeds 249 = .ok (.iload_n 3, 1) := by decide +kernel
theorem dX8_succeeds_250 : decode cX8_succeeds 250 = .ok (.iload 4, 2) := by decide +kernel
theorem dX8_succeeds_252 : decode cX8_succeeds 252 = .ok (.invokevirtual 329, 3) := by decide +kernel
theorem dX8_succeeds_255 : decode cX8_succeeds 255 = .ok (.ifCond .eq 25, 3) := by decide +kernel
theorem dX8_succeeds_258 : decode cX8_succeeds 258 = .ok (.aload_n 0, 1) := by decide +kernel
theorem dX8_succeeds_259 : decode cX8_succeeds 259 = .ok (.getfield 37, 3) := by decide +kernel
theorem dX8_succeeds_262 : decode cX8_succeeds 262 = .ok (.iload_n 3, 1) := by decide +kernel
theorem dX8_succeeds_263 : decode cX8_succeeds 263 = .ok (.iload 4, 2) := by decide +kernel
theorem dX8_succeeds_265 : decode cX8_succeeds 265 = .ok (.invokestatic 124, 3) := by decide +kernel
theorem dX8_succeeds_268 : decode cX8_succeeds 268 = .ok (.iload 5, 2) := by decide +kernel
theorem dX8_succeeds_270 : decode cX8_succeeds 270 = .ok (.invokevirtual 356, 3) := by decide +kernel
theorem dX8_succeeds_273 : decode cX8_succeeds 273 = .ok (.ifCond .eq 7, 3) := by decide +kernel
theorem dX8_succeeds_276 : decode cX8_succeeds 276 = .ok (.iconst 1, 1) := by decide +kernel
theorem dX8_succeeds_277 : decode cX8_succeeds 277 = .ok (.goto 4, 3) := by decide +kernel
theorem dX8_succeeds_280 : decode cX8_succeeds 280 = .ok (.iconst 0, 1) := by decide +kernel
theorem dX8_succeeds_281 : decode cX8_succeeds 281 = .ok (.ireturn, 1) := by decide +kernel
theorem dX8_succeeds_282 : decode cX8_succeeds 282 = .ok (.iload_n 3, 1) := by decide +kernel
theorem dX8_succeeds_283 : decode cX8_succeeds 283 = .ok (.ifCond .ne 31, 3) := by decide +kernel
theorem dX8_succeeds_286 : decode cX8_succeeds 286 = .ok (.iload 4, 2) := by decide +kernel
theorem dX8_succeeds_288 : decode cX8_succeeds 288 = .ok (.ifCond .ne 26, 3) := by decide +kernel
theorem dX8_succeeds_291 : decode cX8_succeeds 291 = .ok (.iload 5, 2) := by decide +kernel
theorem dX8_succeeds_293 : decode cX8_succeeds 293 = .ok (.bipush 100, 2) := by decide +kernel
theorem dX8_succeeds_295 : decode cX8_succeeds 295 = .ok (.if_icmp .ge 19, 3) := by decide +kernel
theorem dX8_succeeds_298 : decode cX8_succeeds 298 = .ok (.aload_n 0, 1) := by decide +kernel
theorem dX8_succeeds_299 : decode cX8_succeeds 299 = .ok (.getfield 37, 3) := by decide +kernel
theorem dX8_succeeds_302 : decode cX8_succeeds 302 = .ok (.getfield 278, 3) := by decide +kernel
theorem dX8_succeeds_305 : decode cX8_succeeds 305 = .ok (.iload 5, 2) := by decide +kernel
theorem dX8_succeeds_307 : decode cX8_succeeds 307 = .ok (.if_icmp .lt 7, 3) := by decide +kernel
theorem dX8_succeeds_310 : decode cX8_succeeds 310 = .ok (.iconst 1, 1) := by decide +kernel
theorem dX8_succeeds_311 : decode cX8_succeeds 311 = .ok (.goto 4, 3) := by decide +kernel
theorem dX8_succeeds_314 : decode cX8_succeeds 314 = .ok (.iconst 0, 1) := by decide +kernel
theorem dX8_succeeds_315 : decode cX8_succeeds 315 = .ok (.ireturn, 1) := by decide +kernel
theorem dX8_succeeds_316 : decode cX8_succeeds 316 = .ok (.iload_n 3, 1) := by decide +kernel
theorem dX8_succeeds_317 : decode cX8_succeeds 317 = .ok (.ifCond .ne 39, 3) := by decide +kernel
theorem dX8_succeeds_320 : decode cX8_succeeds 320 = .ok (.iload 4, 2) := by decide +kernel
theorem dX8_succeeds_322 : decode cX8_succeeds 322 = .ok (.ifCond .ne 34, 3) := by decide +kernel
theorem dX8_succeeds_325 : decode cX8_succeeds 325 = .ok (.aload_n 0, 1) := by decide +kernel
theorem dX8_succeeds_326 : decode cX8_succeeds 326 = .ok (.getfield 37, 3) := by decide +kernel
theorem dX8_succeeds_329 : decode cX8_succeeds 329 = .ok (.iload 5, 2) := by decide +kernel
theorem dX8_succeeds_331 : decode cX8_succeeds 331 = .ok (.invokevirtual 234, 3) := by decide +kernel
theorem dX8_succeeds_334 : decode cX8_succeeds 334 = .ok (.ifCond .eq 22, 3) := by decide +kernel
theorem dX8_succeeds_337 : decode cX8_succeeds 337 = .ok (.aload_n 0, 1) := by decide +kernel
theorem dX8_succeeds_338 : decode cX8_succeeds 338 = .ok (.aload_n 0, 1) := by decide +kernel
theorem dX8_succeeds_339 : decode cX8_succeeds 339 = .ok (.getfield 37, 3) := by decide +kernel
theorem dX8_succeeds_342 : decode cX8_succeeds 342 = .ok (.iload 5, 2) := by decide +kernel
theorem dX8_succeeds_344 : decode cX8_succeeds 344 = .ok (.invokevirtual 219, 3) := by decide +kernel
theorem dX8_succeeds_347 : decode cX8_succeeds 347 = .ok (.lconst 0, 1) := by decide +kernel
theorem dX8_succeeds_348 : decode cX8_succeeds 348 = .ok (.lcmp, 1) := by decide +kernel
theorem dX8_succeeds_349 : decode cX8_succeeds 349 = .ok (.ifCond .ne 7, 3) := by decide +kernel
theorem dX8_succeeds_352 : decode cX8_succeeds 352 = .ok (.iconst 1, 1) := by decide +kernel
theorem dX8_succeeds_353 : decode cX8_succeeds 353 = .ok (.goto 4, 3) := by decide +kernel
theorem dX8_succeeds_356 : decode cX8_succeeds 356 = .ok (.iconst 0, 1) := by decide +kernel
theorem dX8_succeeds_357 : decode cX8_succeeds 357 = .ok (.ireturn, 1) := by decide +kernel
theorem dX8_succeeds_358 : decode cX8_succeeds 358 = .ok (.iconst 0, 1) := by decide +kernel
theorem dX8_succeeds_359 : decode cX8_succeeds 359 = .ok (.ireturn, 1) := by decide +kernel
theorem dX8_scriptDrifts_0 : decode cX8_scriptDrifts 0 = .ok (.aload_n 0, 1) := by decide +kernel
theorem dX8_scriptDrifts_1 : decode cX8_scriptDrifts 1 = .ok (.getfield 37, 3) := by decide +kernel
theorem dX8_scriptDrifts_4 : decode cX8_scriptDrifts 4 = .ok (.iload_n 1, 1) := by decide +kernel
theorem dX8_scriptDrifts_5 : decode cX8_scriptDrifts 5 = .ok (.iload_n 2, 1) := by decide +kernel
theorem dX8_scriptDrifts_6 : decode cX8_scriptDrifts 6 = .ok (.invokevirtual 329, 3) := by decide +kernel
theorem dX8_scriptDrifts_9 : decode cX8_scriptDrifts 9 = .ok (.ifCond .eq 29, 3) := by decide +kernel
theorem dX8_scriptDrifts_12 : decode cX8_scriptDrifts 12 = .ok (.iload_n 3, 1) := by decide +kernel
theorem dX8_scriptDrifts_13 : decode cX8_scriptDrifts 13 = .ok (.iconst 1, 1) := by decide +kernel
theorem dX8_scriptDrifts_14 : decode cX8_scriptDrifts 14 = .ok (.sipush 1000, 3) := by decide +kernel
theorem dX8_scriptDrifts_17 : decode cX8_scriptDrifts 17 = .ok (.invokestatic 340, 3) := by decide +kernel
theorem dX8_scriptDrifts_20 : decode cX8_scriptDrifts 20 = .ok (.ifCond .eq 18, 3) := by decide +kernel
theorem dX8_scriptDrifts_23 : decode cX8_scriptDrifts 23 = .ok (.aload_n 0, 1) := by decide +kernel
theorem dX8_scriptDrifts_24 : decode cX8_scriptDrifts 24 = .ok (.getfield 37, 3) := by decide +kernel
theorem dX8_scriptDrifts_27 : decode cX8_scriptDrifts 27 = .ok (.iload_n 1, 1) := by decide +kernel
theorem dX8_scriptDrifts_28 : decode cX8_scriptDrifts 28 = .ok (.iload_n 2, 1) := by decide +kernel
theorem dX8_scriptDrifts_29 : decode cX8_scriptDrifts 29 = .ok (.invokestatic 124, 3) := by decide +kernel
theorem dX8_scriptDrifts_32 : decode cX8_scriptDrifts 32 = .ok (.invokevirtual 154, 3) := by decide +kernel
theorem dX8_scriptDrifts_35 : decode cX8_scriptDrifts 35 = .ok (.ifCond .ne 5, 3) := by decide +kernel
theorem dX8_scriptDrifts_38 : decode cX8_scriptDrifts 38 = .ok (.iconst 0, 1) := by decide +kernel
theorem dX8_scriptDrifts_39 : decode cX8_scriptDrifts 39 = .ok (.ireturn, 1) := by decide +kernel
theorem dX8_scriptDrifts_40 : decode cX8_scriptDrifts 40 = .ok (.aload_n 0, 1) := by decide +kernel
theorem dX8_scriptDrifts_41 : decode cX8_scriptDrifts 41 = .ok (.getfield 37, 3) := by decide +kernel
theorem dX8_scriptDrifts_44 : decode cX8_scriptDrifts 44 = .ok (.iload_n 1, 1) := by decide +kernel
theorem dX8_scriptDrifts_45 : decode cX8_scriptDrifts 45 = .ok (.iload_n 2, 1) := by decide +kernel
theorem dX8_scriptDrifts_46 : decode cX8_scriptDrifts 46 = .ok (.invokestatic 124, 3) := by decide +kernel
theorem dX8_scriptDrifts_49 : decode cX8_scriptDrifts 49 = .ok (.iload_n 3, 1) := by decide +kernel
theorem dX8_scriptDrifts_50 : decode cX8_scriptDrifts 50 = .ok (.invokevirtual 160, 3) := by decide +kernel
theorem dX8_scriptDrifts_53 : decode cX8_scriptDrifts 53 = .ok (.pop, 1) := by decide +kernel
theorem dX8_scriptDrifts_54 : decode cX8_scriptDrifts 54 = .ok (.iconst 1, 1) := by decide +kernel
theorem dX8_scriptDrifts_55 : decode cX8_scriptDrifts 55 = .ok (.ireturn, 1) := by decide +kernel
theorem dX8_scriptSets_0 : decode cX8_scriptSets 0 = .ok (.iload_n 1, 1) := by decide +kernel
theorem dX8_scriptSets_1 : decode cX8_scriptSets 1 = .ok (.iload_n 2, 1) := by decide +kernel
theorem dX8_scriptSets_2 : decode cX8_scriptSets 2 = .ok (.invokestatic 176, 3) := by decide +kernel
theorem dX8_scriptSets_5 : decode cX8_scriptSets 5 = .ok (.ifCond .ne 5, 3) := by decide +kernel
theorem dX8_scriptSets_8 : decode cX8_scriptSets 8 = .ok (.iconst 0, 1) := by decide +kernel
theorem dX8_scriptSets_9 : decode cX8_scriptSets 9 = .ok (.ireturn, 1) := by decide +kernel
theorem dX8_scriptSets_10 : decode cX8_scriptSets 10 = .ok (.aload_n 0, 1) := by decide +kernel
theorem dX8_scriptSets_11 : decode cX8_scriptSets 11 = .ok (.getfield 37, 3) := by decide +kernel
theorem dX8_scriptSets_14 : decode cX8_scriptSets 14 = .ok (.iload_n 1, 1) := by decide +kernel
theorem dX8_scriptSets_15 : decode cX8_scriptSets 15 = .ok (.iload_n 2, 1) := by decide +kernel
theorem dX8_scriptSets_16 : decode cX8_scriptSets 16 = .ok (.invokevirtual 185, 3) := by decide +kernel
theorem dX8_scriptSets_19 : decode cX8_scriptSets 19 = .ok (.pop, 1) := by decide +kernel
theorem dX8_scriptSets_20 : decode cX8_scriptSets 20 = .ok (.iconst 1, 1) := by decide +kernel
theorem dX8_scriptSets_21 : decode cX8_scriptSets 21 = .ok (.ireturn, 1) := by decide +kernel
theorem dX8_scriptLinks_0 : decode cX8_scriptLinks 0 = .ok (.aload_n 0, 1) := by decide +kernel
theorem dX8_scriptLinks_1 : decode cX8_scriptLinks 1 = .ok (.getfield 37, 3) := by decide +kernel
theorem dX8_scriptLinks_4 : decode cX8_scriptLinks 4 = .ok (.iload_n 1, 1) := by decide +kernel
theorem dX8_scriptLinks_5 : decode cX8_scriptLinks 5 = .ok (.iload_n 2, 1) := by decide +kernel
theorem dX8_scriptLinks_6 : decode cX8_scriptLinks 6 = .ok (.invokevirtual 329, 3) := by decide +kernel
theorem dX8_scriptLinks_9 : decode cX8_scriptLinks 9 = .ok (.ifCond .eq 14, 3) := by decide +kernel
theorem dX8_scriptLinks_12 : decode cX8_scriptLinks 12 = .ok (.iload_n 3, 1) := by decide +kernel
theorem dX8_scriptLinks_13 : decode cX8_scriptLinks 13 = .ok (.iconst 1, 1) := by decide +kernel
theorem dX8_scriptLinks_14 : decode cX8_scriptLinks 14 = .ok (.sipush 1000, 3) := by decide +kernel
theorem dX8_scriptLinks_17 : decode cX8_scriptLinks 17 = .ok (.invokestatic 340, 3) := by decide +kernel
theorem dX8_scriptLinks_20 : decode cX8_scriptLinks 20 = .ok (.ifCond .ne 5, 3) := by decide +kernel
theorem dX8_scriptLinks_23 : decode cX8_scriptLinks 23 = .ok (.iconst 0, 1) := by decide +kernel
theorem dX8_scriptLinks_24 : decode cX8_scriptLinks 24 = .ok (.ireturn, 1) := by decide +kernel
theorem dX8_scriptLinks_25 : decode cX8_scriptLinks 25 = .ok (.aload_n 0, 1) := by decide +kernel
theorem dX8_scriptLinks_26 : decode cX8_scriptLinks 26 = .ok (.getfield 37, 3) := by decide +kernel
theorem dX8_scriptLinks_29 : decode cX8_scriptLinks 29 = .ok (.iload_n 1, 1) := by decide +kernel
theorem dX8_scriptLinks_30 : decode cX8_scriptLinks 30 = .ok (.iload_n 2, 1) := by decide +kernel
theorem dX8_scriptLinks_31 : decode cX8_scriptLinks 31 = .ok (.invokestatic 124, 3) := by decide +kernel
theorem dX8_scriptLinks_34 : decode cX8_scriptLinks 34 = .ok (.iload_n 3, 1) := by decide +kernel
theorem dX8_scriptLinks_35 : decode cX8_scriptLinks 35 = .ok (.iload_n 3, 1) := by decide +kernel
theorem dX8_scriptLinks_36 : decode cX8_scriptLinks 36 = .ok (.invokevirtual 150, 3) := by decide +kernel
theorem dX8_scriptLinks_39 : decode cX8_scriptLinks 39 = .ok (.pop, 1) := by decide +kernel
theorem dX8_scriptLinks_40 : decode cX8_scriptLinks 40 = .ok (.iconst 1, 1) := by decide +kernel
theorem dX8_scriptLinks_41 : decode cX8_scriptLinks 41 = .ok (.ireturn, 1) := by decide +kernel
theorem dX8_chosenTableIs_0 : decode cX8_chosenTableIs 0 = .ok (.aload_n 0, 1) := by decide +kernel
theorem dX8_chosenTableIs_1 : decode cX8_chosenTableIs 1 = .ok (.getfield 57, 3) := by decide +kernel
theorem dX8_chosenTableIs_4 : decode cX8_chosenTableIs 4 = .ok (.aload_n 0, 1) := by decide +kernel
theorem dX8_chosenTableIs_5 : decode cX8_chosenTableIs 5 = .ok (.getfield 37, 3) := by decide +kernel
theorem dX8_chosenTableIs_8 : decode cX8_chosenTableIs 8 = .ok (.iload_n 2, 1) := by decide +kernel
theorem dX8_chosenTableIs_9 : decode cX8_chosenTableIs 9 = .ok (.iconst 1, 1) := by decide +kernel
theorem dX8_chosenTableIs_10 : decode cX8_chosenTableIs 10 = .ok (.invokevirtual 210, 3) := by decide +kernel
theorem dX8_chosenTableIs_13 : decode cX8_chosenTableIs 13 = .ok (.aload_n 0, 1) := by decide +kernel
theorem dX8_chosenTableIs_14 : decode cX8_chosenTableIs 14 = .ok (.getfield 57, 3) := by decide +kernel
theorem dX8_chosenTableIs_17 : decode cX8_chosenTableIs 17 = .ok (.iload_n 3, 1) := by decide +kernel
theorem dX8_chosenTableIs_18 : decode cX8_chosenTableIs 18 = .ok (.invokevirtual 213, 3) := by decide +kernel
theorem dX8_chosenTableIs_21 : decode cX8_chosenTableIs 21 = .ok (.iload_n 1, 1) := by decide +kernel
theorem dX8_chosenTableIs_22 : decode cX8_chosenTableIs 22 = .ok (.if_icmp .ne 7, 3) := by decide +kernel
theorem dX8_chosenTableIs_25 : decode cX8_chosenTableIs 25 = .ok (.iconst 1, 1) := by decide +kernel
theorem dX8_chosenTableIs_26 : decode cX8_chosenTableIs 26 = .ok (.goto 4, 3) := by decide +kernel
theorem dX8_chosenTableIs_29 : decode cX8_chosenTableIs 29 = .ok (.iconst 0, 1) := by decide +kernel
theorem dX8_chosenTableIs_30 : decode cX8_chosenTableIs 30 = .ok (.ireturn, 1) := by decide +kernel
theorem dX8_takeTurn_0 : decode cX8_takeTurn 0 = .ok (.aload_n 0, 1) := by decide +kernel
theorem dX8_takeTurn_1 : decode cX8_takeTurn 1 = .ok (.getfield 37, 3) := by decide +kernel
theorem dX8_takeTurn_4 : decode cX8_takeTurn 4 = .ok (.getfield 359, 3) := by decide +kernel
theorem dX8_takeTurn_7 : decode cX8_takeTurn 7 = .ok (.istore_n 2, 1) := by decide +kernel
theorem dX8_takeTurn_8 : decode cX8_takeTurn 8 = .ok (.iload_n 2, 1) := by decide +kernel
theorem dX8_takeTurn_9 : decode cX8_takeTurn 9 = .ok (.iconst 1, 1) := by decide +kernel
theorem dX8_takeTurn_10 : decode cX8_takeTurn 10 = .ok (.if_icmp .lt 9, 3) := by decide +kernel
theorem dX8_takeTurn_13 : decode cX8_takeTurn 13 = .ok (.iload_n 2, 1) := by decide +kernel
theorem dX8_takeTurn_14 : decode cX8_takeTurn 14 = .ok (.bipush 7, 2) := by decide +kernel
theorem dX8_takeTurn_16 : decode cX8_takeTurn 16 = .ok (.if_icmp .le 4, 3) := by decide +kernel
theorem dX8_takeTurn_19 : decode cX8_takeTurn 19 = .ok (.return_, 1) := by decide +kernel
theorem dX8_takeTurn_20 : decode cX8_takeTurn 20 = .ok (.iconst 1, 1) := by decide +kernel
theorem dX8_takeTurn_21 : decode cX8_takeTurn 21 = .ok (.iload_n 2, 1) := by decide +kernel
theorem dX8_takeTurn_22 : decode cX8_takeTurn 22 = .ok (.ishl, 1) := by decide +kernel
theorem dX8_takeTurn_23 : decode cX8_takeTurn 23 = .ok (.iconst 1, 1) := by decide +kernel
theorem dX8_takeTurn_24 : decode cX8_takeTurn 24 = .ok (.isub, 1) := by decide +kernel
theorem dX8_takeTurn_25 : decode cX8_takeTurn 25 = .ok (.istore_n 3, 1) := by decide +kernel
theorem dX8_takeTurn_26 : decode cX8_takeTurn 26 = .ok (.iload_n 1, 1) := by decide +kernel
theorem dX8_takeTurn_27 : decode cX8_takeTurn 27 = .ok (.bipush 8, 2) := by decide +kernel
theorem dX8_takeTurn_29 : decode cX8_takeTurn 29 = .ok (.irem, 1) := by decide +kernel
theorem dX8_takeTurn_30 : decode cX8_takeTurn 30 = .ok (.tableswitch 92 4 7 #[30, 42, 42, 73], 30) := by decide +kernel
theorem dX8_takeTurn_60 : decode cX8_takeTurn 60 = .ok (.aload_n 0, 1) := by decide +kernel
theorem dX8_takeTurn_61 : decode cX8_takeTurn 61 = .ok (.getfield 37, 3) := by decide +kernel
theorem dX8_takeTurn_64 : decode cX8_takeTurn 64 = .ok (.iconst 1, 1) := by decide +kernel
theorem dX8_takeTurn_65 : decode cX8_takeTurn 65 = .ok (.invokevirtual 173, 3) := by decide +kernel
theorem dX8_takeTurn_68 : decode cX8_takeTurn 68 = .ok (.pop, 1) := by decide +kernel
theorem dX8_takeTurn_69 : decode cX8_takeTurn 69 = .ok (.goto 74, 3) := by decide +kernel
theorem dX8_takeTurn_72 : decode cX8_takeTurn 72 = .ok (.aload_n 0, 1) := by decide +kernel
theorem dX8_takeTurn_73 : decode cX8_takeTurn 73 = .ok (.iload_n 1, 1) := by decide +kernel
theorem dX8_takeTurn_74 : decode cX8_takeTurn 74 = .ok (.bipush 8, 2) := by decide +kernel
theorem dX8_takeTurn_76 : decode cX8_takeTurn 76 = .ok (.idiv, 1) := by decide +kernel
theorem dX8_takeTurn_77 : decode cX8_takeTurn 77 = .ok (.iload_n 2, 1) := by decide +kernel
theorem dX8_takeTurn_78 : decode cX8_takeTurn 78 = .ok (.irem, 1) := by decide +kernel
theorem dX8_takeTurn_79 : decode cX8_takeTurn 79 = .ok (.iload_n 1, 1) := by decide +kernel
theorem dX8_takeTurn_80 : decode cX8_takeTurn 80 = .ok (.bipush 64, 2) := by decide +kernel
theorem dX8_takeTurn_82 : decode cX8_takeTurn 82 = .ok (.idiv, 1) := by decide +kernel
theorem dX8_takeTurn_83 : decode cX8_takeTurn 83 = .ok (.iload_n 2, 1) := by decide +kernel
theorem dX8_takeTurn_84 : decode cX8_takeTurn 84 = .ok (.irem, 1) := by decide +kernel
theorem dX8_takeTurn_85 : decode cX8_takeTurn 85 = .ok (.iconst 1, 1) := by decide +kernel
theorem dX8_takeTurn_86 : decode cX8_takeTurn 86 = .ok (.iload_n 1, 1) := by decide +kernel
theorem dX8_takeTurn_87 : decode cX8_takeTurn 87 = .ok (.sipush 512, 3) := by decide +kernel
theorem dX8_takeTurn_90 : decode cX8_takeTurn 90 = .ok (.idiv, 1) := by decide +kernel
theorem dX8_takeTurn_91 : decode cX8_takeTurn 91 = .ok (.sipush 1000, 3) := by decide +kernel
theorem dX8_takeTurn_94 : decode cX8_takeTurn 94 = .ok (.irem, 1) := by decide +kernel
theorem dX8_takeTurn_95 : decode cX8_takeTurn 95 = .ok (.iadd, 1) := by decide +kernel
theorem dX8_takeTurn_96 : decode cX8_takeTurn 96 = .ok (.invokevirtual 344, 3) := by decide +kernel
theorem dX8_takeTurn_99 : decode cX8_takeTurn 99 = .ok (.pop, 1) := by decide +kernel
theorem dX8_takeTurn_100 : decode cX8_takeTurn 100 = .ok (.goto 43, 3) := by decide +kernel
theorem dX8_takeTurn_103 : decode cX8_takeTurn 103 = .ok (.aload_n 0, 1) := by decide +kernel
theorem dX8_takeTurn_104 : decode cX8_takeTurn 104 = .ok (.iconst 0, 1) := by decide +kernel
theorem dX8_takeTurn_105 : decode cX8_takeTurn 105 = .ok (.iconst 1, 1) := by decide +kernel
theorem dX8_takeTurn_106 : decode cX8_takeTurn 106 = .ok (.iload_n 1, 1) := by decide +kernel
theorem dX8_takeTurn_107 : decode cX8_takeTurn 107 = .ok (.bipush 8, 2) := by decide +kernel
theorem dX8_takeTurn_109 : decode cX8_takeTurn 109 = .ok (.idiv, 1) := by decide +kernel
theorem dX8_takeTurn_110 : decode cX8_takeTurn 110 = .ok (.sipush 200, 3) := by decide +kernel
theorem dX8_takeTurn_113 : decode cX8_takeTurn 113 = .ok (.irem, 1) := by decide +kernel
theorem dX8_takeTurn_114 : decode cX8_takeTurn 114 = .ok (.iadd, 1) := by decide +kernel
theorem dX8_takeTurn_115 : decode cX8_takeTurn 115 = .ok (.invokevirtual 347, 3) := by decide +kernel
theorem dX8_takeTurn_118 : decode cX8_takeTurn 118 = .ok (.pop, 1) := by decide +kernel
theorem dX8_takeTurn_119 : decode cX8_takeTurn 119 = .ok (.goto 24, 3) := by decide +kernel
theorem dX8_takeTurn_122 : decode cX8_takeTurn 122 = .ok (.iload_n 3, 1) := by decide +kernel
theorem dX8_takeTurn_123 : decode cX8_takeTurn 123 = .ok (.ifCond .le 20, 3) := by decide +kernel
theorem dX8_takeTurn_126 : decode cX8_takeTurn 126 = .ok (.aload_n 0, 1) := by decide +kernel
theorem dX8_takeTurn_127 : decode cX8_takeTurn 127 = .ok (.aload_n 0, 1) := by decide +kernel
theorem dX8_takeTurn_128 : decode cX8_takeTurn 128 = .ok (.getfield 37, 3) := by decide +kernel
theorem dX8_takeTurn_131 : decode cX8_takeTurn 131 = .ok (.iconst 1, 1) := by decide +kernel
theorem dX8_takeTurn_132 : decode cX8_takeTurn 132 = .ok (.iload_n 1, 1) := by decide +kernel
theorem dX8_takeTurn_133 : decode cX8_takeTurn 133 = .ok (.bipush 8, 2) := by decide +kernel
theorem dX8_takeTurn_135 : decode cX8_takeTurn 135 = .ok (.idiv, 1) := by decide +kernel
theorem dX8_takeTurn_136 : decode cX8_takeTurn 136 = .ok (.iload_n 3, 1) := by decide +kernel
theorem dX8_takeTurn_137 : decode cX8_takeTurn 137 = .ok (.irem, 1) := by decide +kernel
theorem dX8_takeTurn_138 : decode cX8_takeTurn 138 = .ok (.iadd, 1) := by decide +kernel
theorem dX8_takeTurn_139 : decode cX8_takeTurn 139 = .ok (.invokevirtual 169, 3) := by decide +kernel
theorem dX8_takeTurn_142 : decode cX8_takeTurn 142 = .ok (.pop, 1) := by decide +kernel
theorem dX8_takeTurn_143 : decode cX8_takeTurn 143 = .ok (.return_, 1) := by decide +kernel
theorem dX8_needTable_0 : decode cX8_needTable 0 = .ok (.aload_n 0, 1) := by decide +kernel
theorem dX8_needTable_1 : decode cX8_needTable 1 = .ok (.getfield 33, 3) := by decide +kernel
theorem dX8_needTable_4 : decode cX8_needTable 4 = .ok (.iload_n 1, 1) := by decide +kernel
theorem dX8_needTable_5 : decode cX8_needTable 5 = .ok (.invokevirtual 361, 3) := by decide +kernel
theorem dX8_needTable_8 : decode cX8_needTable 8 = .ok (.ifCond .ne 14, 3) := by decide +kernel
theorem dX8_needTable_11 : decode cX8_needTable 11 = .ok (.new 364, 3) := by decide +kernel
theorem dX8_needTable_14 : decode cX8_needTable 14 = .ok (.dup, 1) := by decide +kernel
theorem dX8_needTable_15 : decode cX8_needTable 15 = .ok (.ldc_w 366, 3) := by decide +kernel
theorem dX8_needTable_18 : decode cX8_needTable 18 = .ok (.invokespecial 368, 3) := by decide +kernel
theorem dX8_needTable_21 : decode cX8_needTable 21 = .ok (.athrow, 1) := by decide +kernel
theorem dX8_needTable_22 : decode cX8_needTable 22 = .ok (.return_, 1) := by decide +kernel
theorem dX8_needTables_0 : decode cX8_needTables 0 = .ok (.aload_n 0, 1) := by decide +kernel
theorem dX8_needTables_1 : decode cX8_needTables 1 = .ok (.getfield 33, 3) := by decide +kernel
theorem dX8_needTables_4 : decode cX8_needTables 4 = .ok (.iload_n 1, 1) := by decide +kernel
theorem dX8_needTables_5 : decode cX8_needTables 5 = .ok (.invokevirtual 234, 3) := by decide +kernel
theorem dX8_needTables_8 : decode cX8_needTables 8 = .ok (.ifCond .ne 14, 3) := by decide +kernel
theorem dX8_needTables_11 : decode cX8_needTables 11 = .ok (.new 364, 3) := by decide +kernel
theorem dX8_needTables_14 : decode cX8_needTables 14 = .ok (.dup, 1) := by decide +kernel
theorem dX8_needTables_15 : decode cX8_needTables 15 = .ok (.ldc_w 369, 3) := by decide +kernel
theorem dX8_needTables_18 : decode cX8_needTables 18 = .ok (.invokespecial 368, 3) := by decide +kernel
theorem dX8_needTables_21 : decode cX8_needTables 21 = .ok (.athrow, 1) := by decide +kernel
theorem dX8_needTables_22 : decode cX8_needTables 22 = .ok (.return_, 1) := by decide +kernel
theorem dX8_needTwoTables_0 : decode cX8_needTwoTables 0 = .ok (.aload_n 0, 1) := by decide +kernel
theorem dX8_needTwoTables_1 : decode cX8_needTwoTables 1 = .ok (.iload_n 1, 1) := by decide +kernel
theorem dX8_needTwoTables_2 : decode cX8_needTwoTables 2 = .ok (.invokevirtual 113, 3) := by decide +kernel
theorem dX8_needTwoTables_5 : decode cX8_needTwoTables 5 = .ok (.aload_n 0, 1) := by decide +kernel
theorem dX8_needTwoTables_6 : decode cX8_needTwoTables 6 = .ok (.iload_n 2, 1) := by decide +kernel
theorem dX8_needTwoTables_7 : decode cX8_needTwoTables 7 = .ok (.invokevirtual 113, 3) := by decide +kernel
theorem dX8_needTwoTables_10 : decode cX8_needTwoTables 10 = .ok (.iload_n 1, 1) := by decide +kernel
theorem dX8_needTwoTables_11 : decode cX8_needTwoTables 11 = .ok (.iload_n 2, 1) := by decide +kernel
theorem dX8_needTwoTables_12 : decode cX8_needTwoTables 12 = .ok (.if_icmp .ne 13, 3) := by decide +kernel
theorem dX8_needTwoTables_15 : decode cX8_needTwoTables 15 = .ok (.new 180, 3) := by decide +kernel
theorem dX8_needTwoTables_18 : decode cX8_needTwoTables 18 = .ok (.dup, 1) := by decide +kernel
theorem dX8_needTwoTables_19 : decode cX8_needTwoTables 19 = .ok (.ldc 243, 2) := by decide +kernel
theorem dX8_needTwoTables_21 : decode cX8_needTwoTables 21 = .ok (.invokespecial 184, 3) := by decide +kernel
theorem dX8_needTwoTables_24 : decode cX8_needTwoTables 24 = .ok (.athrow, 1) := by decide +kernel
theorem dX8_needTwoTables_25 : decode cX8_needTwoTables 25 = .ok (.return_, 1) := by decide +kernel
theorem dX8_needSomeTable_0 : decode cX8_needSomeTable 0 = .ok (.iload_n 0, 1) := by decide +kernel
theorem dX8_needSomeTable_1 : decode cX8_needSomeTable 1 = .ok (.ifCond .ne 14, 3) := by decide +kernel
theorem dX8_needSomeTable_4 : decode cX8_needSomeTable 4 = .ok (.new 180, 3) := by decide +kernel
theorem dX8_needSomeTable_7 : decode cX8_needSomeTable 7 = .ok (.dup, 1) := by decide +kernel
theorem dX8_needSomeTable_8 : decode cX8_needSomeTable 8 = .ok (.ldc_w 371, 3) := by decide +kernel
theorem dX8_needSomeTable_11 : decode cX8_needSomeTable 11 = .ok (.invokespecial 184, 3) := by decide +kernel
theorem dX8_needSomeTable_14 : decode cX8_needSomeTable 14 = .ok (.athrow, 1) := by decide +kernel
theorem dX8_needSomeTable_15 : decode cX8_needSomeTable 15 = .ok (.return_, 1) := by decide +kernel
theorem dX8_needKind_0 : decode cX8_needKind 0 = .ok (.iload_n 0, 1) := by decide +kernel
theorem dX8_needKind_1 : decode cX8_needKind 1 = .ok (.iconst 0, 1) := by decide +kernel
theorem dX8_needKind_2 : decode cX8_needKind 2 = .ok (.iconst 2, 1) := by decide +kernel
theorem dX8_needKind_3 : decode cX8_needKind 3 = .ok (.invokestatic 64, 3) := by decide +kernel
theorem dX8_needKind_6 : decode cX8_needKind 6 = .ok (.return_, 1) := by decide +kernel
theorem dX8_needRange_0 : decode cX8_needRange 0 = .ok (.iload_n 0, 1) := by decide +kernel
theorem dX8_needRange_1 : decode cX8_needRange 1 = .ok (.iload_n 1, 1) := by decide +kernel
theorem dX8_needRange_2 : decode cX8_needRange 2 = .ok (.iload_n 2, 1) := by decide +kernel
theorem dX8_needRange_3 : decode cX8_needRange 3 = .ok (.invokestatic 340, 3) := by decide +kernel
theorem dX8_needRange_6 : decode cX8_needRange 6 = .ok (.ifCond .ne 14, 3) := by decide +kernel
theorem dX8_needRange_9 : decode cX8_needRange 9 = .ok (.new 180, 3) := by decide +kernel
theorem dX8_needRange_12 : decode cX8_needRange 12 = .ok (.dup, 1) := by decide +kernel
theorem dX8_needRange_13 : decode cX8_needRange 13 = .ok (.ldc_w 373, 3) := by decide +kernel
theorem dX8_needRange_16 : decode cX8_needRange 16 = .ok (.invokespecial 184, 3) := by decide +kernel
theorem dX8_needRange_19 : decode cX8_needRange 19 = .ok (.athrow, 1) := by decide +kernel
theorem dX8_needRange_20 : decode cX8_needRange 20 = .ok (.return_, 1) := by decide +kernel
theorem dX8_needAtLeast_0 : decode cX8_needAtLeast 0 = .ok (.iload_n 0, 1) := by decide +kernel
theorem dX8_needAtLeast_1 : decode cX8_needAtLeast 1 = .ok (.iload_n 1, 1) := by decide +kernel
theorem dX8_needAtLeast_2 : decode cX8_needAtLeast 2 = .ok (.if_icmp .ge 14, 3) := by decide +kernel
theorem dX8_needAtLeast_5 : decode cX8_needAtLeast 5 = .ok (.new 180, 3) := by decide +kernel
theorem dX8_needAtLeast_8 : decode cX8_needAtLeast 8 = .ok (.dup, 1) := by decide +kernel
theorem dX8_needAtLeast_9 : decode cX8_needAtLeast 9 = .ok (.ldc_w 375, 3) := by decide +kernel
theorem dX8_needAtLeast_12 : decode cX8_needAtLeast 12 = .ok (.invokespecial 184, 3) := by decide +kernel
theorem dX8_needAtLeast_15 : decode cX8_needAtLeast 15 = .ok (.athrow, 1) := by decide +kernel
theorem dX8_needAtLeast_16 : decode cX8_needAtLeast 16 = .ok (.return_, 1) := by decide +kernel
theorem dX8_needSlot_0 : decode cX8_needSlot 0 = .ok (.iload_n 0, 1) := by decide +kernel
theorem dX8_needSlot_1 : decode cX8_needSlot 1 = .ok (.iconst 0, 1) := by decide +kernel
theorem dX8_needSlot_2 : decode cX8_needSlot 2 = .ok (.iconst 1, 1) := by decide +kernel
theorem dX8_needSlot_3 : decode cX8_needSlot 3 = .ok (.invokestatic 340, 3) := by decide +kernel
theorem dX8_needSlot_6 : decode cX8_needSlot 6 = .ok (.ifCond .ne 14, 3) := by decide +kernel
theorem dX8_needSlot_9 : decode cX8_needSlot 9 = .ok (.new 364, 3) := by decide +kernel
theorem dX8_needSlot_12 : decode cX8_needSlot 12 = .ok (.dup, 1) := by decide +kernel
theorem dX8_needSlot_13 : decode cX8_needSlot 13 = .ok (.ldc_w 377, 3) := by decide +kernel
theorem dX8_needSlot_16 : decode cX8_needSlot 16 = .ok (.invokespecial 368, 3) := by decide +kernel
theorem dX8_needSlot_19 : decode cX8_needSlot 19 = .ok (.athrow, 1) := by decide +kernel
theorem dX8_needSlot_20 : decode cX8_needSlot 20 = .ok (.return_, 1) := by decide +kernel
theorem dX8_isIn_0 : decode cX8_isIn 0 = .ok (.iload_n 0, 1) := by decide +kernel
theorem dX8_isIn_1 : decode cX8_isIn 1 = .ok (.iload_n 1, 1) := by decide +kernel
theorem dX8_isIn_2 : decode cX8_isIn 2 = .ok (.if_icmp .lt 12, 3) := by decide +kernel
theorem dX8_isIn_5 : decode cX8_isIn 5 = .ok (.iload_n 0, 1) := by decide +kernel
theorem dX8_isIn_6 : decode cX8_isIn 6 = .ok (.iload_n 2, 1) := by decide +kernel
theorem dX8_isIn_7 : decode cX8_isIn 7 = .ok (.if_icmp .gt 7, 3) := by decide +kernel
theorem dX8_isIn_10 : decode cX8_isIn 10 = .ok (.iconst 1, 1) := by decide +kernel
theorem dX8_isIn_11 : decode cX8_isIn 11 = .ok (.goto 4, 3) := by decide +kernel
theorem dX8_isIn_14 : decode cX8_isIn 14 = .ok (.iconst 0, 1) := by decide +kernel
theorem dX8_isIn_15 : decode cX8_isIn 15 = .ok (.ireturn, 1) := by decide +kernel
theorem dX8_settingTakes_0 : decode cX8_settingTakes 0 = .ok (.iload_n 0, 1) := by decide +kernel
theorem dX8_settingTakes_1 : decode cX8_settingTakes 1 = .ok (.iconst 0, 1) := by decide +kernel
theorem dX8_settingTakes_2 : decode cX8_settingTakes 2 = .ok (.iconst 2, 1) := by decide +kernel
theorem dX8_settingTakes_3 : decode cX8_settingTakes 3 = .ok (.invokestatic 340, 3) := by decide +kernel
theorem dX8_settingTakes_6 : decode cX8_settingTakes 6 = .ok (.ifCond .eq 24, 3) := by decide +kernel
theorem dX8_settingTakes_9 : decode cX8_settingTakes 9 = .ok (.iload_n 1, 1) := by decide +kernel
theorem dX8_settingTakes_10 : decode cX8_settingTakes 10 = .ok (.getstatic 379, 3) := by decide +kernel
theorem dX8_settingTakes_13 : decode cX8_settingTakes 13 = .ok (.iload_n 0, 1) := by decide +kernel
theorem dX8_settingTakes_14 : decode cX8_settingTakes 14 = .ok (.iaload, 1) := by decide +kernel
theorem dX8_settingTakes_15 : decode cX8_settingTakes 15 = .ok (.getstatic 383, 3) := by decide +kernel
theorem dX8_settingTakes_18 : decode cX8_settingTakes 18 = .ok (.iload_n 0, 1) := by decide +kernel
theorem dX8_settingTakes_19 : decode cX8_settingTakes 19 = .ok (.iaload, 1) := by decide +kernel
theorem dX8_settingTakes_20 : decode cX8_settingTakes 20 = .ok (.invokestatic 340, 3) := by decide +kernel
theorem dX8_settingTakes_23 : decode cX8_settingTakes 23 = .ok (.ifCond .eq 7, 3) := by decide +kernel
theorem dX8_settingTakes_26 : decode cX8_settingTakes 26 = .ok (.iconst 1, 1) := by decide +kernel
theorem dX8_settingTakes_27 : decode cX8_settingTakes 27 = .ok (.goto 4, 3) := by decide +kernel
theorem dX8_settingTakes_30 : decode cX8_settingTakes 30 = .ok (.iconst 0, 1) := by decide +kernel
theorem dX8_settingTakes_31 : decode cX8_settingTakes 31 = .ok (.ireturn, 1) := by decide +kernel
theorem dX8_holds_0 : decode cX8_holds 0 = .ok (.iload_n 0, 1) := by decide +kernel
theorem dX8_holds_1 : decode cX8_holds 1 = .ok (.iload_n 1, 1) := by decide +kernel
theorem dX8_holds_2 : decode cX8_holds 2 = .ok (.ishr, 1) := by decide +kernel
theorem dX8_holds_3 : decode cX8_holds 3 = .ok (.iconst 1, 1) := by decide +kernel
theorem dX8_holds_4 : decode cX8_holds 4 = .ok (.iand, 1) := by decide +kernel
theorem dX8_holds_5 : decode cX8_holds 5 = .ok (.iconst 1, 1) := by decide +kernel
theorem dX8_holds_6 : decode cX8_holds 6 = .ok (.if_icmp .ne 7, 3) := by decide +kernel
theorem dX8_holds_9 : decode cX8_holds 9 = .ok (.iconst 1, 1) := by decide +kernel
theorem dX8_holds_10 : decode cX8_holds 10 = .ok (.goto 4, 3) := by decide +kernel
theorem dX8_holds_13 : decode cX8_holds 13 = .ok (.iconst 0, 1) := by decide +kernel
theorem dX8_holds_14 : decode cX8_holds 14 = .ok (.ireturn, 1) := by decide +kernel
theorem dX8_pairIndex_0 : decode cX8_pairIndex 0 = .ok (.iload_n 0, 1) := by decide +kernel
theorem dX8_pairIndex_1 : decode cX8_pairIndex 1 = .ok (.iload_n 1, 1) := by decide +kernel
theorem dX8_pairIndex_2 : decode cX8_pairIndex 2 = .ok (.invokestatic 386, 3) := by decide +kernel
theorem dX8_pairIndex_5 : decode cX8_pairIndex 5 = .ok (.istore_n 2, 1) := by decide +kernel
theorem dX8_pairIndex_6 : decode cX8_pairIndex 6 = .ok (.iload_n 0, 1) := by decide +kernel
theorem dX8_pairIndex_7 : decode cX8_pairIndex 7 = .ok (.iload_n 1, 1) := by decide +kernel
theorem dX8_pairIndex_8 : decode cX8_pairIndex 8 = .ok (.invokestatic 391, 3) := by decide +kernel
theorem dX8_pairIndex_11 : decode cX8_pairIndex 11 = .ok (.istore_n 3, 1) := by decide +kernel
theorem dX8_pairIndex_12 : decode cX8_pairIndex 12 = .ok (.iload_n 2, 1) := by decide +kernel
theorem dX8_pairIndex_13 : decode cX8_pairIndex 13 = .ok (.ifCond .lt 14, 3) := by decide +kernel
theorem dX8_pairIndex_16 : decode cX8_pairIndex 16 = .ok (.iload_n 3, 1) := by decide +kernel
theorem dX8_pairIndex_17 : decode cX8_pairIndex 17 = .ok (.bipush 7, 2) := by decide +kernel
theorem dX8_pairIndex_19 : decode cX8_pairIndex 19 = .ok (.if_icmp .ge 8, 3) := by decide +kernel
theorem dX8_pairIndex_22 : decode cX8_pairIndex 22 = .ok (.iload_n 2, 1) := by decide +kernel
theorem dX8_pairIndex_23 : decode cX8_pairIndex 23 = .ok (.iload_n 3, 1) := by decide +kernel
theorem dX8_pairIndex_24 : decode cX8_pairIndex 24 = .ok (.if_icmp .ne 7, 3) := by decide +kernel
theorem dX8_pairIndex_27 : decode cX8_pairIndex 27 = .ok (.iconst (-1), 1) := by decide +kernel
theorem dX8_pairIndex_28 : decode cX8_pairIndex 28 = .ok (.goto 12, 3) := by decide +kernel
theorem dX8_pairIndex_31 : decode cX8_pairIndex 31 = .ok (.iload_n 3, 1) := by decide +kernel
theorem dX8_pairIndex_32 : decode cX8_pairIndex 32 = .ok (.iload_n 3, 1) := by decide +kernel
theorem dX8_pairIndex_33 : decode cX8_pairIndex 33 = .ok (.iconst 1, 1) := by decide +kernel
theorem dX8_pairIndex_34 : decode cX8_pairIndex 34 = .ok (.isub, 1) := by decide +kernel
theorem dX8_pairIndex_35 : decode cX8_pairIndex 35 = .ok (.imul, 1) := by decide +kernel
theorem dX8_pairIndex_36 : decode cX8_pairIndex 36 = .ok (.iconst 2, 1) := by decide +kernel
theorem dX8_pairIndex_37 : decode cX8_pairIndex 37 = .ok (.idiv, 1) := by decide +kernel
theorem dX8_pairIndex_38 : decode cX8_pairIndex 38 = .ok (.iload_n 2, 1) := by decide +kernel
theorem dX8_pairIndex_39 : decode cX8_pairIndex 39 = .ok (.iadd, 1) := by decide +kernel
theorem dX8_pairIndex_40 : decode cX8_pairIndex 40 = .ok (.ireturn, 1) := by decide +kernel
theorem dJ9_abs_0f7a4_0 : decode cJ9_abs_0f7a4 0 = .ok (.iload_n 0, 1) := by decide +kernel
theorem dJ9_abs_0f7a4_1 : decode cJ9_abs_0f7a4 1 = .ok (.ifCond .ge 8, 3) := by decide +kernel
theorem dJ9_abs_0f7a4_4 : decode cJ9_abs_0f7a4 4 = .ok (.iload_n 0, 1) := by decide +kernel
theorem dJ9_abs_0f7a4_5 : decode cJ9_abs_0f7a4 5 = .ok (.ineg, 1) := by decide +kernel
theorem dJ9_abs_0f7a4_6 : decode cJ9_abs_0f7a4 6 = .ok (.goto 4, 3) := by decide +kernel
theorem dJ9_abs_0f7a4_9 : decode cJ9_abs_0f7a4 9 = .ok (.iload_n 0, 1) := by decide +kernel
theorem dJ9_abs_0f7a4_10 : decode cJ9_abs_0f7a4 10 = .ok (.ireturn, 1) := by decide +kernel
theorem dJ9_max_7cf53_0 : decode cJ9_max_7cf53 0 = .ok (.iload_n 0, 1) := by decide +kernel
theorem dJ9_max_7cf53_1 : decode cJ9_max_7cf53 1 = .ok (.iload_n 1, 1) := by decide +kernel
theorem dJ9_max_7cf53_2 : decode cJ9_max_7cf53 2 = .ok (.if_icmp .lt 7, 3) := by decide +kernel
theorem dJ9_max_7cf53_5 : decode cJ9_max_7cf53 5 = .ok (.iload_n 0, 1) := by decide +kernel
theorem dJ9_max_7cf53_6 : decode cJ9_max_7cf53 6 = .ok (.goto 4, 3) := by decide +kernel
theorem dJ9_max_7cf53_9 : decode cJ9_max_7cf53 9 = .ok (.iload_n 1, 1) := by decide +kernel
theorem dJ9_max_7cf53_10 : decode cJ9_max_7cf53 10 = .ok (.ireturn, 1) := by decide +kernel
theorem dJ9_min_7cf53_0 : decode cJ9_min_7cf53 0 = .ok (.iload_n 0, 1) := by decide +kernel
theorem dJ9_min_7cf53_1 : decode cJ9_min_7cf53 1 = .ok (.iload_n 1, 1) := by decide +kernel
theorem dJ9_min_7cf53_2 : decode cJ9_min_7cf53 2 = .ok (.if_icmp .gt 7, 3) := by decide +kernel
theorem dJ9_min_7cf53_5 : decode cJ9_min_7cf53 5 = .ok (.iload_n 0, 1) := by decide +kernel
theorem dJ9_min_7cf53_6 : decode cJ9_min_7cf53 6 = .ok (.goto 4, 3) := by decide +kernel
theorem dJ9_min_7cf53_9 : decode cJ9_min_7cf53 9 = .ok (.iload_n 1, 1) := by decide +kernel
theorem dJ9_min_7cf53_10 : decode cJ9_min_7cf53 10 = .ok (.ireturn, 1) := by decide +kernel
