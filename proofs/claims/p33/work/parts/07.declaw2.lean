theorem dL_refuses_745 : decode cL_refuses 745 = .ok (.iload_n 1, 1) := by decide +kernel
theorem dL_refuses_746 : decode cL_refuses 746 = .ok (.i2l, 1) := by decide +kernel
theorem dL_refuses_747 : decode cL_refuses 747 = .ok (.lsub, 1) := by decide +kernel
theorem dL_refuses_748 : decode cL_refuses 748 = .ok (.invokestatic 203, 3) := by decide +kernel
theorem dL_refuses_751 : decode cL_refuses 751 = .ok (.ldc 18, 2) := by decide +kernel
theorem dL_refuses_753 : decode cL_refuses 753 = .ok (.if_icmp .ne 42, 3) := by decide +kernel
theorem dL_refuses_756 : decode cL_refuses 756 = .ok (.aload_n 0, 1) := by decide +kernel
theorem dL_refuses_757 : decode cL_refuses 757 = .ok (.iload_n 1, 1) := by decide +kernel
theorem dL_refuses_758 : decode cL_refuses 758 = .ok (.i2l, 1) := by decide +kernel
theorem dL_refuses_759 : decode cL_refuses 759 = .ok (.bipush 41, 2) := by decide +kernel
theorem dL_refuses_761 : decode cL_refuses 761 = .ok (.invokestatic 211, 3) := by decide +kernel
theorem dL_refuses_764 : decode cL_refuses 764 = .ok (.ldc 18, 2) := by decide +kernel
theorem dL_refuses_766 : decode cL_refuses 766 = .ok (.if_icmp .ne 29, 3) := by decide +kernel
theorem dL_refuses_769 : decode cL_refuses 769 = .ok (.aload_n 0, 1) := by decide +kernel
theorem dL_refuses_770 : decode cL_refuses 770 = .ok (.iconst 0, 1) := by decide +kernel
theorem dL_refuses_771 : decode cL_refuses 771 = .ok (.invokevirtual 215, 3) := by decide +kernel
theorem dL_refuses_774 : decode cL_refuses 774 = .ok (.iconst (-1), 1) := by decide +kernel
theorem dL_refuses_775 : decode cL_refuses 775 = .ok (.if_icmp .eq 16, 3) := by decide +kernel
theorem dL_refuses_778 : decode cL_refuses 778 = .ok (.aload_n 0, 1) := by decide +kernel
theorem dL_refuses_779 : decode cL_refuses 779 = .ok (.iconst 1, 1) := by decide +kernel
theorem dL_refuses_780 : decode cL_refuses 780 = .ok (.iconst 0, 1) := by decide +kernel
theorem dL_refuses_781 : decode cL_refuses 781 = .ok (.iconst 0, 1) := by decide +kernel
theorem dL_refuses_782 : decode cL_refuses 782 = .ok (.iconst 0, 1) := by decide +kernel
theorem dL_refuses_783 : decode cL_refuses 783 = .ok (.invokestatic 182, 3) := by decide +kernel
theorem dL_refuses_786 : decode cL_refuses 786 = .ok (.ldc 53, 2) := by decide +kernel
theorem dL_refuses_788 : decode cL_refuses 788 = .ok (.if_icmp .ne 7, 3) := by decide +kernel
theorem dL_refuses_791 : decode cL_refuses 791 = .ok (.iconst 1, 1) := by decide +kernel
theorem dL_refuses_792 : decode cL_refuses 792 = .ok (.goto 4, 3) := by decide +kernel
theorem dL_refuses_795 : decode cL_refuses 795 = .ok (.iconst 0, 1) := by decide +kernel
theorem dL_refuses_796 : decode cL_refuses 796 = .ok (.ireturn, 1) := by decide +kernel
theorem dL_alike_0 : decode cL_alike 0 = .ok (.aload_n 0, 1) := by decide +kernel
theorem dL_alike_1 : decode cL_alike 1 = .ok (.iconst 1, 1) := by decide +kernel
theorem dL_alike_2 : decode cL_alike 2 = .ok (.invokevirtual 215, 3) := by decide +kernel
theorem dL_alike_5 : decode cL_alike 5 = .ok (.aload_n 1, 1) := by decide +kernel
theorem dL_alike_6 : decode cL_alike 6 = .ok (.iconst 1, 1) := by decide +kernel
theorem dL_alike_7 : decode cL_alike 7 = .ok (.invokevirtual 215, 3) := by decide +kernel
theorem dL_alike_10 : decode cL_alike 10 = .ok (.if_icmp .ne 49, 3) := by decide +kernel
theorem dL_alike_13 : decode cL_alike 13 = .ok (.aload_n 0, 1) := by decide +kernel
theorem dL_alike_14 : decode cL_alike 14 = .ok (.iconst 0, 1) := by decide +kernel
theorem dL_alike_15 : decode cL_alike 15 = .ok (.invokevirtual 215, 3) := by decide +kernel
theorem dL_alike_18 : decode cL_alike 18 = .ok (.aload_n 1, 1) := by decide +kernel
theorem dL_alike_19 : decode cL_alike 19 = .ok (.iconst 0, 1) := by decide +kernel
theorem dL_alike_20 : decode cL_alike 20 = .ok (.invokevirtual 215, 3) := by decide +kernel
theorem dL_alike_23 : decode cL_alike 23 = .ok (.if_icmp .ne 36, 3) := by decide +kernel
theorem dL_alike_26 : decode cL_alike 26 = .ok (.aload_n 0, 1) := by decide +kernel
theorem dL_alike_27 : decode cL_alike 27 = .ok (.invokevirtual 219, 3) := by decide +kernel
theorem dL_alike_30 : decode cL_alike 30 = .ok (.aload_n 1, 1) := by decide +kernel
theorem dL_alike_31 : decode cL_alike 31 = .ok (.invokevirtual 219, 3) := by decide +kernel
theorem dL_alike_34 : decode cL_alike 34 = .ok (.if_icmp .ne 25, 3) := by decide +kernel
theorem dL_alike_37 : decode cL_alike 37 = .ok (.aload_n 0, 1) := by decide +kernel
theorem dL_alike_38 : decode cL_alike 38 = .ok (.iload_n 2, 1) := by decide +kernel
theorem dL_alike_39 : decode cL_alike 39 = .ok (.iconst 3, 1) := by decide +kernel
theorem dL_alike_40 : decode cL_alike 40 = .ok (.irem, 1) := by decide +kernel
theorem dL_alike_41 : decode cL_alike 41 = .ok (.invokestatic 200, 3) := by decide +kernel
theorem dL_alike_44 : decode cL_alike 44 = .ok (.aload_n 1, 1) := by decide +kernel
theorem dL_alike_45 : decode cL_alike 45 = .ok (.iload_n 2, 1) := by decide +kernel
theorem dL_alike_46 : decode cL_alike 46 = .ok (.iconst 3, 1) := by decide +kernel
theorem dL_alike_47 : decode cL_alike 47 = .ok (.irem, 1) := by decide +kernel
theorem dL_alike_48 : decode cL_alike 48 = .ok (.invokestatic 200, 3) := by decide +kernel
theorem dL_alike_51 : decode cL_alike 51 = .ok (.lcmp, 1) := by decide +kernel
theorem dL_alike_52 : decode cL_alike 52 = .ok (.ifCond .ne 7, 3) := by decide +kernel
theorem dL_alike_55 : decode cL_alike 55 = .ok (.iconst 1, 1) := by decide +kernel
theorem dL_alike_56 : decode cL_alike 56 = .ok (.goto 4, 3) := by decide +kernel
theorem dL_alike_59 : decode cL_alike 59 = .ok (.iconst 0, 1) := by decide +kernel
theorem dL_alike_60 : decode cL_alike 60 = .ok (.istore_n 3, 1) := by decide +kernel
theorem dL_alike_61 : decode cL_alike 61 = .ok (.iconst 0, 1) := by decide +kernel
theorem dL_alike_62 : decode cL_alike 62 = .ok (.istore 4, 2) := by decide +kernel
theorem dL_alike_64 : decode cL_alike 64 = .ok (.iload 4, 2) := by decide +kernel
theorem dL_alike_66 : decode cL_alike 66 = .ok (.bipush 6, 2) := by decide +kernel
theorem dL_alike_68 : decode cL_alike 68 = .ok (.if_icmp .ge 79, 3) := by decide +kernel
theorem dL_alike_71 : decode cL_alike 71 = .ok (.iload_n 3, 1) := by decide +kernel
theorem dL_alike_72 : decode cL_alike 72 = .ok (.ifCond .eq 75, 3) := by decide +kernel
theorem dL_alike_75 : decode cL_alike 75 = .ok (.aload_n 0, 1) := by decide +kernel
theorem dL_alike_76 : decode cL_alike 76 = .ok (.iconst 2, 1) := by decide +kernel
theorem dL_alike_77 : decode cL_alike 77 = .ok (.iload 4, 2) := by decide +kernel
theorem dL_alike_79 : decode cL_alike 79 = .ok (.iconst 0, 1) := by decide +kernel
theorem dL_alike_80 : decode cL_alike 80 = .ok (.iconst 0, 1) := by decide +kernel
theorem dL_alike_81 : decode cL_alike 81 = .ok (.invokestatic 182, 3) := by decide +kernel
theorem dL_alike_84 : decode cL_alike 84 = .ok (.aload_n 1, 1) := by decide +kernel
theorem dL_alike_85 : decode cL_alike 85 = .ok (.iconst 2, 1) := by decide +kernel
theorem dL_alike_86 : decode cL_alike 86 = .ok (.iload 4, 2) := by decide +kernel
theorem dL_alike_88 : decode cL_alike 88 = .ok (.iconst 0, 1) := by decide +kernel
theorem dL_alike_89 : decode cL_alike 89 = .ok (.iconst 0, 1) := by decide +kernel
theorem dL_alike_90 : decode cL_alike 90 = .ok (.invokestatic 182, 3) := by decide +kernel
theorem dL_alike_93 : decode cL_alike 93 = .ok (.if_icmp .ne 46, 3) := by decide +kernel
theorem dL_alike_96 : decode cL_alike 96 = .ok (.aload_n 0, 1) := by decide +kernel
theorem dL_alike_97 : decode cL_alike 97 = .ok (.iload 4, 2) := by decide +kernel
theorem dL_alike_99 : decode cL_alike 99 = .ok (.invokestatic 186, 3) := by decide +kernel
theorem dL_alike_102 : decode cL_alike 102 = .ok (.aload_n 1, 1) := by decide +kernel
theorem dL_alike_103 : decode cL_alike 103 = .ok (.iload 4, 2) := by decide +kernel
theorem dL_alike_105 : decode cL_alike 105 = .ok (.invokestatic 186, 3) := by decide +kernel
theorem dL_alike_108 : decode cL_alike 108 = .ok (.lcmp, 1) := by decide +kernel
theorem dL_alike_109 : decode cL_alike 109 = .ok (.ifCond .ne 30, 3) := by decide +kernel
theorem dL_alike_112 : decode cL_alike 112 = .ok (.aload_n 0, 1) := by decide +kernel
theorem dL_alike_113 : decode cL_alike 113 = .ok (.bipush 6, 2) := by decide +kernel
theorem dL_alike_115 : decode cL_alike 115 = .ok (.iload 4, 2) := by decide +kernel
theorem dL_alike_117 : decode cL_alike 117 = .ok (.iconst 0, 1) := by decide +kernel
theorem dL_alike_118 : decode cL_alike 118 = .ok (.iconst 0, 1) := by decide +kernel
theorem dL_alike_119 : decode cL_alike 119 = .ok (.invokestatic 182, 3) := by decide +kernel
theorem dL_alike_122 : decode cL_alike 122 = .ok (.aload_n 1, 1) := by decide +kernel
theorem dL_alike_123 : decode cL_alike 123 = .ok (.bipush 6, 2) := by decide +kernel
theorem dL_alike_125 : decode cL_alike 125 = .ok (.iload 4, 2) := by decide +kernel
theorem dL_alike_127 : decode cL_alike 127 = .ok (.iconst 0, 1) := by decide +kernel
theorem dL_alike_128 : decode cL_alike 128 = .ok (.iconst 0, 1) := by decide +kernel
theorem dL_alike_129 : decode cL_alike 129 = .ok (.invokestatic 182, 3) := by decide +kernel
theorem dL_alike_132 : decode cL_alike 132 = .ok (.if_icmp .ne 7, 3) := by decide +kernel
theorem dL_alike_135 : decode cL_alike 135 = .ok (.iconst 1, 1) := by decide +kernel
theorem dL_alike_136 : decode cL_alike 136 = .ok (.goto 4, 3) := by decide +kernel
theorem dL_alike_139 : decode cL_alike 139 = .ok (.iconst 0, 1) := by decide +kernel
theorem dL_alike_140 : decode cL_alike 140 = .ok (.istore_n 3, 1) := by decide +kernel
theorem dL_alike_141 : decode cL_alike 141 = .ok (.iinc 4 1, 3) := by decide +kernel
theorem dL_alike_144 : decode cL_alike 144 = .ok (.goto (-80), 3) := by decide +kernel
theorem dL_alike_147 : decode cL_alike 147 = .ok (.aload_n 0, 1) := by decide +kernel
theorem dL_alike_148 : decode cL_alike 148 = .ok (.iconst 2, 1) := by decide +kernel
theorem dL_alike_149 : decode cL_alike 149 = .ok (.iconst 0, 1) := by decide +kernel
theorem dL_alike_150 : decode cL_alike 150 = .ok (.iconst 0, 1) := by decide +kernel
theorem dL_alike_151 : decode cL_alike 151 = .ok (.iconst 0, 1) := by decide +kernel
theorem dL_alike_152 : decode cL_alike 152 = .ok (.invokestatic 182, 3) := by decide +kernel
theorem dL_alike_155 : decode cL_alike 155 = .ok (.istore 4, 2) := by decide +kernel
theorem dL_alike_157 : decode cL_alike 157 = .ok (.iconst 0, 1) := by decide +kernel
theorem dL_alike_158 : decode cL_alike 158 = .ok (.istore 5, 2) := by decide +kernel
theorem dL_alike_160 : decode cL_alike 160 = .ok (.iload 5, 2) := by decide +kernel
theorem dL_alike_162 : decode cL_alike 162 = .ok (.iload 4, 2) := by decide +kernel
theorem dL_alike_164 : decode cL_alike 164 = .ok (.if_icmp .ge 116, 3) := by decide +kernel
theorem dL_alike_167 : decode cL_alike 167 = .ok (.iload_n 3, 1) := by decide +kernel
theorem dL_alike_168 : decode cL_alike 168 = .ok (.ifCond .eq 112, 3) := by decide +kernel
theorem dL_alike_171 : decode cL_alike 171 = .ok (.aload_n 0, 1) := by decide +kernel
theorem dL_alike_172 : decode cL_alike 172 = .ok (.iconst 3, 1) := by decide +kernel
theorem dL_alike_173 : decode cL_alike 173 = .ok (.iload 5, 2) := by decide +kernel
theorem dL_alike_175 : decode cL_alike 175 = .ok (.iconst 0, 1) := by decide +kernel
theorem dL_alike_176 : decode cL_alike 176 = .ok (.iconst 0, 1) := by decide +kernel
theorem dL_alike_177 : decode cL_alike 177 = .ok (.invokestatic 182, 3) := by decide +kernel
theorem dL_alike_180 : decode cL_alike 180 = .ok (.aload_n 1, 1) := by decide +kernel
theorem dL_alike_181 : decode cL_alike 181 = .ok (.iconst 3, 1) := by decide +kernel
theorem dL_alike_182 : decode cL_alike 182 = .ok (.iload 5, 2) := by decide +kernel
theorem dL_alike_184 : decode cL_alike 184 = .ok (.iconst 0, 1) := by decide +kernel
theorem dL_alike_185 : decode cL_alike 185 = .ok (.iconst 0, 1) := by decide +kernel
theorem dL_alike_186 : decode cL_alike 186 = .ok (.invokestatic 182, 3) := by decide +kernel
theorem dL_alike_189 : decode cL_alike 189 = .ok (.if_icmp .ne 7, 3) := by decide +kernel
theorem dL_alike_192 : decode cL_alike 192 = .ok (.iconst 1, 1) := by decide +kernel
theorem dL_alike_193 : decode cL_alike 193 = .ok (.goto 4, 3) := by decide +kernel
theorem dL_alike_196 : decode cL_alike 196 = .ok (.iconst 0, 1) := by decide +kernel
theorem dL_alike_197 : decode cL_alike 197 = .ok (.istore_n 3, 1) := by decide +kernel
theorem dL_alike_198 : decode cL_alike 198 = .ok (.iconst 0, 1) := by decide +kernel
theorem dL_alike_199 : decode cL_alike 199 = .ok (.istore 6, 2) := by decide +kernel
theorem dL_alike_201 : decode cL_alike 201 = .ok (.iload 6, 2) := by decide +kernel
theorem dL_alike_203 : decode cL_alike 203 = .ok (.iload 5, 2) := by decide +kernel
theorem dL_alike_205 : decode cL_alike 205 = .ok (.if_icmp .ge 69, 3) := by decide +kernel
theorem dL_alike_208 : decode cL_alike 208 = .ok (.iload_n 3, 1) := by decide +kernel
theorem dL_alike_209 : decode cL_alike 209 = .ok (.ifCond .eq 65, 3) := by decide +kernel
theorem dL_alike_212 : decode cL_alike 212 = .ok (.aload_n 0, 1) := by decide +kernel
theorem dL_alike_213 : decode cL_alike 213 = .ok (.iconst 4, 1) := by decide +kernel
theorem dL_alike_214 : decode cL_alike 214 = .ok (.iload 5, 2) := by decide +kernel
theorem dL_alike_216 : decode cL_alike 216 = .ok (.iload 6, 2) := by decide +kernel
theorem dL_alike_218 : decode cL_alike 218 = .ok (.iload_n 2, 1) := by decide +kernel
theorem dL_alike_219 : decode cL_alike 219 = .ok (.iconst 5, 1) := by decide +kernel
theorem dL_alike_220 : decode cL_alike 220 = .ok (.irem, 1) := by decide +kernel
theorem dL_alike_221 : decode cL_alike 221 = .ok (.invokestatic 182, 3) := by decide +kernel
theorem dL_alike_224 : decode cL_alike 224 = .ok (.aload_n 1, 1) := by decide +kernel
theorem dL_alike_225 : decode cL_alike 225 = .ok (.iconst 4, 1) := by decide +kernel
theorem dL_alike_226 : decode cL_alike 226 = .ok (.iload 5, 2) := by decide +kernel
theorem dL_alike_228 : decode cL_alike 228 = .ok (.iload 6, 2) := by decide +kernel
theorem dL_alike_230 : decode cL_alike 230 = .ok (.iload_n 2, 1) := by decide +kernel
theorem dL_alike_231 : decode cL_alike 231 = .ok (.iconst 5, 1) := by decide +kernel
theorem dL_alike_232 : decode cL_alike 232 = .ok (.irem, 1) := by decide +kernel
theorem dL_alike_233 : decode cL_alike 233 = .ok (.invokestatic 182, 3) := by decide +kernel
theorem dL_alike_236 : decode cL_alike 236 = .ok (.if_icmp .ne 30, 3) := by decide +kernel
theorem dL_alike_239 : decode cL_alike 239 = .ok (.aload_n 0, 1) := by decide +kernel
theorem dL_alike_240 : decode cL_alike 240 = .ok (.iconst 4, 1) := by decide +kernel
theorem dL_alike_241 : decode cL_alike 241 = .ok (.iload 5, 2) := by decide +kernel
theorem dL_alike_243 : decode cL_alike 243 = .ok (.iload 6, 2) := by decide +kernel
theorem dL_alike_245 : decode cL_alike 245 = .ok (.iconst 2, 1) := by decide +kernel
theorem dL_alike_246 : decode cL_alike 246 = .ok (.invokestatic 182, 3) := by decide +kernel
theorem dL_alike_249 : decode cL_alike 249 = .ok (.aload_n 1, 1) := by decide +kernel
theorem dL_alike_250 : decode cL_alike 250 = .ok (.iconst 4, 1) := by decide +kernel
theorem dL_alike_251 : decode cL_alike 251 = .ok (.iload 5, 2) := by decide +kernel
theorem dL_alike_253 : decode cL_alike 253 = .ok (.iload 6, 2) := by decide +kernel
theorem dL_alike_255 : decode cL_alike 255 = .ok (.iconst 2, 1) := by decide +kernel
theorem dL_alike_256 : decode cL_alike 256 = .ok (.invokestatic 182, 3) := by decide +kernel
theorem dL_alike_259 : decode cL_alike 259 = .ok (.if_icmp .ne 7, 3) := by decide +kernel
theorem dL_alike_262 : decode cL_alike 262 = .ok (.iconst 1, 1) := by decide +kernel
theorem dL_alike_263 : decode cL_alike 263 = .ok (.goto 4, 3) := by decide +kernel
theorem dL_alike_266 : decode cL_alike 266 = .ok (.iconst 0, 1) := by decide +kernel
theorem dL_alike_267 : decode cL_alike 267 = .ok (.istore_n 3, 1) := by decide +kernel
theorem dL_alike_268 : decode cL_alike 268 = .ok (.iinc 6 1, 3) := by decide +kernel
theorem dL_alike_271 : decode cL_alike 271 = .ok (.goto (-70), 3) := by decide +kernel
theorem dL_alike_274 : decode cL_alike 274 = .ok (.iinc 5 1, 3) := by decide +kernel
theorem dL_alike_277 : decode cL_alike 277 = .ok (.goto (-117), 3) := by decide +kernel
theorem dL_alike_280 : decode cL_alike 280 = .ok (.iconst 0, 1) := by decide +kernel
theorem dL_alike_281 : decode cL_alike 281 = .ok (.istore 5, 2) := by decide +kernel
theorem dL_alike_283 : decode cL_alike 283 = .ok (.iload 5, 2) := by decide +kernel
theorem dL_alike_285 : decode cL_alike 285 = .ok (.bipush 10, 2) := by decide +kernel
theorem dL_alike_287 : decode cL_alike 287 = .ok (.if_icmp .ge 44, 3) := by decide +kernel
theorem dL_alike_290 : decode cL_alike 290 = .ok (.iload_n 3, 1) := by decide +kernel
theorem dL_alike_291 : decode cL_alike 291 = .ok (.ifCond .eq 40, 3) := by decide +kernel
theorem dL_alike_294 : decode cL_alike 294 = .ok (.aload_n 0, 1) := by decide +kernel
theorem dL_alike_295 : decode cL_alike 295 = .ok (.iconst 5, 1) := by decide +kernel
theorem dL_alike_296 : decode cL_alike 296 = .ok (.iload 5, 2) := by decide +kernel
theorem dL_alike_298 : decode cL_alike 298 = .ok (.iload_n 2, 1) := by decide +kernel
theorem dL_alike_299 : decode cL_alike 299 = .ok (.iconst 4, 1) := by decide +kernel
theorem dL_alike_300 : decode cL_alike 300 = .ok (.irem, 1) := by decide +kernel
theorem dL_alike_301 : decode cL_alike 301 = .ok (.iconst 0, 1) := by decide +kernel
theorem dL_alike_302 : decode cL_alike 302 = .ok (.invokestatic 182, 3) := by decide +kernel
theorem dL_alike_305 : decode cL_alike 305 = .ok (.aload_n 1, 1) := by decide +kernel
theorem dL_alike_306 : decode cL_alike 306 = .ok (.iconst 5, 1) := by decide +kernel
theorem dL_alike_307 : decode cL_alike 307 = .ok (.iload 5, 2) := by decide +kernel
theorem dL_alike_309 : decode cL_alike 309 = .ok (.iload_n 2, 1) := by decide +kernel
theorem dL_alike_310 : decode cL_alike 310 = .ok (.iconst 4, 1) := by decide +kernel
theorem dL_alike_311 : decode cL_alike 311 = .ok (.irem, 1) := by decide +kernel
theorem dL_alike_312 : decode cL_alike 312 = .ok (.iconst 0, 1) := by decide +kernel
theorem dL_alike_313 : decode cL_alike 313 = .ok (.invokestatic 182, 3) := by decide +kernel
theorem dL_alike_316 : decode cL_alike 316 = .ok (.if_icmp .ne 7, 3) := by decide +kernel
theorem dL_alike_319 : decode cL_alike 319 = .ok (.iconst 1, 1) := by decide +kernel
theorem dL_alike_320 : decode cL_alike 320 = .ok (.goto 4, 3) := by decide +kernel
theorem dL_alike_323 : decode cL_alike 323 = .ok (.iconst 0, 1) := by decide +kernel
theorem dL_alike_324 : decode cL_alike 324 = .ok (.istore_n 3, 1) := by decide +kernel
theorem dL_alike_325 : decode cL_alike 325 = .ok (.iinc 5 1, 3) := by decide +kernel
theorem dL_alike_328 : decode cL_alike 328 = .ok (.goto (-45), 3) := by decide +kernel
theorem dL_alike_331 : decode cL_alike 331 = .ok (.iload_n 2, 1) := by decide +kernel
theorem dL_alike_332 : decode cL_alike 332 = .ok (.iconst 1, 1) := by decide +kernel
theorem dL_alike_333 : decode cL_alike 333 = .ok (.iload 4, 2) := by decide +kernel
theorem dL_alike_335 : decode cL_alike 335 = .ok (.ishl, 1) := by decide +kernel
theorem dL_alike_336 : decode cL_alike 336 = .ok (.irem, 1) := by decide +kernel
theorem dL_alike_337 : decode cL_alike 337 = .ok (.istore 5, 2) := by decide +kernel
theorem dL_alike_339 : decode cL_alike 339 = .ok (.iload_n 3, 1) := by decide +kernel
theorem dL_alike_340 : decode cL_alike 340 = .ok (.ifCond .eq 129, 3) := by decide +kernel
theorem dL_alike_343 : decode cL_alike 343 = .ok (.aload_n 0, 1) := by decide +kernel
theorem dL_alike_344 : decode cL_alike 344 = .ok (.bipush 14, 2) := by decide +kernel
theorem dL_alike_346 : decode cL_alike 346 = .ok (.iload 5, 2) := by decide +kernel
theorem dL_alike_348 : decode cL_alike 348 = .ok (.iload_n 2, 1) := by decide +kernel
theorem dL_alike_349 : decode cL_alike 349 = .ok (.iconst 3, 1) := by decide +kernel
theorem dL_alike_350 : decode cL_alike 350 = .ok (.irem, 1) := by decide +kernel
theorem dL_alike_351 : decode cL_alike 351 = .ok (.iload_n 2, 1) := by decide +kernel
theorem dL_alike_352 : decode cL_alike 352 = .ok (.bipush 16, 2) := by decide +kernel
theorem dL_alike_354 : decode cL_alike 354 = .ok (.idiv, 1) := by decide +kernel
theorem dL_alike_355 : decode cL_alike 355 = .ok (.iconst 4, 1) := by decide +kernel
theorem dL_alike_356 : decode cL_alike 356 = .ok (.irem, 1) := by decide +kernel
theorem dL_alike_357 : decode cL_alike 357 = .ok (.invokestatic 182, 3) := by decide +kernel
theorem dL_alike_360 : decode cL_alike 360 = .ok (.aload_n 1, 1) := by decide +kernel
theorem dL_alike_361 : decode cL_alike 361 = .ok (.bipush 14, 2) := by decide +kernel
theorem dL_alike_363 : decode cL_alike 363 = .ok (.iload 5, 2) := by decide +kernel
theorem dL_alike_365 : decode cL_alike 365 = .ok (.iload_n 2, 1) := by decide +kernel
theorem dL_alike_366 : decode cL_alike 366 = .ok (.iconst 3, 1) := by decide +kernel
theorem dL_alike_367 : decode cL_alike 367 = .ok (.irem, 1) := by decide +kernel
theorem dL_alike_368 : decode cL_alike 368 = .ok (.iload_n 2, 1) := by decide +kernel
theorem dL_alike_369 : decode cL_alike 369 = .ok (.bipush 16, 2) := by decide +kernel
theorem dL_alike_371 : decode cL_alike 371 = .ok (.idiv, 1) := by decide +kernel
theorem dL_alike_372 : decode cL_alike 372 = .ok (.iconst 4, 1) := by decide +kernel
theorem dL_alike_373 : decode cL_alike 373 = .ok (.irem, 1) := by decide +kernel
theorem dL_alike_374 : decode cL_alike 374 = .ok (.invokestatic 182, 3) := by decide +kernel
theorem dL_alike_377 : decode cL_alike 377 = .ok (.if_icmp .ne 92, 3) := by decide +kernel
theorem dL_alike_380 : decode cL_alike 380 = .ok (.aload_n 0, 1) := by decide +kernel
theorem dL_alike_381 : decode cL_alike 381 = .ok (.bipush 15, 2) := by decide +kernel
theorem dL_alike_383 : decode cL_alike 383 = .ok (.iload 5, 2) := by decide +kernel
theorem dL_alike_385 : decode cL_alike 385 = .ok (.iconst 1, 1) := by decide +kernel
theorem dL_alike_386 : decode cL_alike 386 = .ok (.iload_n 2, 1) := by decide +kernel
theorem dL_alike_387 : decode cL_alike 387 = .ok (.bipush 16, 2) := by decide +kernel
theorem dL_alike_389 : decode cL_alike 389 = .ok (.idiv, 1) := by decide +kernel
theorem dL_alike_390 : decode cL_alike 390 = .ok (.iconst 4, 1) := by decide +kernel
theorem dL_alike_391 : decode cL_alike 391 = .ok (.irem, 1) := by decide +kernel
theorem dL_alike_392 : decode cL_alike 392 = .ok (.iadd, 1) := by decide +kernel
theorem dL_alike_393 : decode cL_alike 393 = .ok (.iconst 0, 1) := by decide +kernel
theorem dL_alike_394 : decode cL_alike 394 = .ok (.invokestatic 182, 3) := by decide +kernel
theorem dL_alike_397 : decode cL_alike 397 = .ok (.aload_n 1, 1) := by decide +kernel
theorem dL_alike_398 : decode cL_alike 398 = .ok (.bipush 15, 2) := by decide +kernel
theorem dL_alike_400 : decode cL_alike 400 = .ok (.iload 5, 2) := by decide +kernel
theorem dL_alike_402 : decode cL_alike 402 = .ok (.iconst 1, 1) := by decide +kernel
theorem dL_alike_403 : decode cL_alike 403 = .ok (.iload_n 2, 1) := by decide +kernel
theorem dL_alike_404 : decode cL_alike 404 = .ok (.bipush 16, 2) := by decide +kernel
theorem dL_alike_406 : decode cL_alike 406 = .ok (.idiv, 1) := by decide +kernel
theorem dL_alike_407 : decode cL_alike 407 = .ok (.iconst 4, 1) := by decide +kernel
theorem dL_alike_408 : decode cL_alike 408 = .ok (.irem, 1) := by decide +kernel
theorem dL_alike_409 : decode cL_alike 409 = .ok (.iadd, 1) := by decide +kernel
theorem dL_alike_410 : decode cL_alike 410 = .ok (.iconst 0, 1) := by decide +kernel
theorem dL_alike_411 : decode cL_alike 411 = .ok (.invokestatic 182, 3) := by decide +kernel
theorem dL_alike_414 : decode cL_alike 414 = .ok (.if_icmp .ne 55, 3) := by decide +kernel
theorem dL_alike_417 : decode cL_alike 417 = .ok (.aload_n 0, 1) := by decide +kernel
theorem dL_alike_418 : decode cL_alike 418 = .ok (.iload 5, 2) := by decide +kernel
theorem dL_alike_420 : decode cL_alike 420 = .ok (.iload_n 2, 1) := by decide +kernel
theorem dL_alike_421 : decode cL_alike 421 = .ok (.iconst 3, 1) := by decide +kernel
theorem dL_alike_422 : decode cL_alike 422 = .ok (.irem, 1) := by decide +kernel
theorem dL_alike_423 : decode cL_alike 423 = .ok (.invokestatic 197, 3) := by decide +kernel
theorem dL_alike_426 : decode cL_alike 426 = .ok (.aload_n 1, 1) := by decide +kernel
theorem dL_alike_427 : decode cL_alike 427 = .ok (.iload 5, 2) := by decide +kernel
theorem dL_alike_429 : decode cL_alike 429 = .ok (.iload_n 2, 1) := by decide +kernel
theorem dL_alike_430 : decode cL_alike 430 = .ok (.iconst 3, 1) := by decide +kernel
theorem dL_alike_431 : decode cL_alike 431 = .ok (.irem, 1) := by decide +kernel
theorem dL_alike_432 : decode cL_alike 432 = .ok (.invokestatic 197, 3) := by decide +kernel
theorem dL_alike_435 : decode cL_alike 435 = .ok (.lcmp, 1) := by decide +kernel
theorem dL_alike_436 : decode cL_alike 436 = .ok (.ifCond .ne 33, 3) := by decide +kernel
theorem dL_alike_439 : decode cL_alike 439 = .ok (.aload_n 0, 1) := by decide +kernel
theorem dL_alike_440 : decode cL_alike 440 = .ok (.iload 5, 2) := by decide +kernel
theorem dL_alike_442 : decode cL_alike 442 = .ok (.iload_n 2, 1) := by decide +kernel
theorem dL_alike_443 : decode cL_alike 443 = .ok (.iconst 4, 1) := by decide +kernel
theorem dL_alike_444 : decode cL_alike 444 = .ok (.idiv, 1) := by decide +kernel
theorem dL_alike_445 : decode cL_alike 445 = .ok (.iconst 3, 1) := by decide +kernel
theorem dL_alike_446 : decode cL_alike 446 = .ok (.irem, 1) := by decide +kernel
theorem dL_alike_447 : decode cL_alike 447 = .ok (.invokestatic 193, 3) := by decide +kernel
theorem dL_alike_450 : decode cL_alike 450 = .ok (.aload_n 1, 1) := by decide +kernel
theorem dL_alike_451 : decode cL_alike 451 = .ok (.iload 5, 2) := by decide +kernel
theorem dL_alike_453 : decode cL_alike 453 = .ok (.iload_n 2, 1) := by decide +kernel
theorem dL_alike_454 : decode cL_alike 454 = .ok (.iconst 4, 1) := by decide +kernel
theorem dL_alike_455 : decode cL_alike 455 = .ok (.idiv, 1) := by decide +kernel
theorem dL_alike_456 : decode cL_alike 456 = .ok (.iconst 3, 1) := by decide +kernel
theorem dL_alike_457 : decode cL_alike 457 = .ok (.irem, 1) := by decide +kernel
theorem dL_alike_458 : decode cL_alike 458 = .ok (.invokestatic 193, 3) := by decide +kernel
theorem dL_alike_461 : decode cL_alike 461 = .ok (.lcmp, 1) := by decide +kernel
theorem dL_alike_462 : decode cL_alike 462 = .ok (.ifCond .ne 7, 3) := by decide +kernel
theorem dL_alike_465 : decode cL_alike 465 = .ok (.iconst 1, 1) := by decide +kernel
theorem dL_alike_466 : decode cL_alike 466 = .ok (.goto 4, 3) := by decide +kernel
theorem dL_alike_469 : decode cL_alike 469 = .ok (.iconst 0, 1) := by decide +kernel
theorem dL_alike_470 : decode cL_alike 470 = .ok (.ireturn, 1) := by decide +kernel
theorem dL_holds_0 : decode cL_holds 0 = .ok (.aload_n 0, 1) := by decide +kernel
theorem dL_holds_1 : decode cL_holds 1 = .ok (.iconst 2, 1) := by decide +kernel
theorem dL_holds_2 : decode cL_holds 2 = .ok (.iconst 0, 1) := by decide +kernel
theorem dL_holds_3 : decode cL_holds 3 = .ok (.iconst 0, 1) := by decide +kernel
theorem dL_holds_4 : decode cL_holds 4 = .ok (.iconst 0, 1) := by decide +kernel
theorem dL_holds_5 : decode cL_holds 5 = .ok (.invokestatic 182, 3) := by decide +kernel
theorem dL_holds_8 : decode cL_holds 8 = .ok (.istore_n 2, 1) := by decide +kernel
theorem dL_holds_9 : decode cL_holds 9 = .ok (.iload_n 1, 1) := by decide +kernel
theorem dL_holds_10 : decode cL_holds 10 = .ok (.iconst 1, 1) := by decide +kernel
theorem dL_holds_11 : decode cL_holds 11 = .ok (.iload_n 2, 1) := by decide +kernel
theorem dL_holds_12 : decode cL_holds 12 = .ok (.ishl, 1) := by decide +kernel
theorem dL_holds_13 : decode cL_holds 13 = .ok (.irem, 1) := by decide +kernel
theorem dL_holds_14 : decode cL_holds 14 = .ok (.istore_n 3, 1) := by decide +kernel
theorem dL_holds_15 : decode cL_holds 15 = .ok (.iconst 1, 1) := by decide +kernel
theorem dL_holds_16 : decode cL_holds 16 = .ok (.istore 4, 2) := by decide +kernel
theorem dL_holds_18 : decode cL_holds 18 = .ok (.iconst 0, 1) := by decide +kernel
theorem dL_holds_19 : decode cL_holds 19 = .ok (.istore 5, 2) := by decide +kernel
theorem dL_holds_21 : decode cL_holds 21 = .ok (.iload 5, 2) := by decide +kernel
theorem dL_holds_23 : decode cL_holds 23 = .ok (.iconst 3, 1) := by decide +kernel
theorem dL_holds_24 : decode cL_holds 24 = .ok (.if_icmp .ge 123, 3) := by decide +kernel
theorem dL_holds_27 : decode cL_holds 27 = .ok (.iload 4, 2) := by decide +kernel
theorem dL_holds_29 : decode cL_holds 29 = .ok (.ifCond .eq 118, 3) := by decide +kernel
theorem dL_holds_32 : decode cL_holds 32 = .ok (.iconst 0, 1) := by decide +kernel
theorem dL_holds_33 : decode cL_holds 33 = .ok (.istore 6, 2) := by decide +kernel
theorem dL_holds_35 : decode cL_holds 35 = .ok (.iconst 0, 1) := by decide +kernel
theorem dL_holds_36 : decode cL_holds 36 = .ok (.istore 7, 2) := by decide +kernel
theorem dL_holds_38 : decode cL_holds 38 = .ok (.iload 7, 2) := by decide +kernel
theorem dL_holds_40 : decode cL_holds 40 = .ok (.bipush 8, 2) := by decide +kernel
theorem dL_holds_42 : decode cL_holds 42 = .ok (.if_icmp .ge 99, 3) := by decide +kernel
theorem dL_holds_45 : decode cL_holds 45 = .ok (.aload_n 0, 1) := by decide +kernel
theorem dL_holds_46 : decode cL_holds 46 = .ok (.bipush 14, 2) := by decide +kernel
theorem dL_holds_48 : decode cL_holds 48 = .ok (.iload_n 3, 1) := by decide +kernel
theorem dL_holds_49 : decode cL_holds 49 = .ok (.iload 5, 2) := by decide +kernel
theorem dL_holds_51 : decode cL_holds 51 = .ok (.iload 7, 2) := by decide +kernel
theorem dL_holds_53 : decode cL_holds 53 = .ok (.invokestatic 182, 3) := by decide +kernel
theorem dL_holds_56 : decode cL_holds 56 = .ok (.istore 8, 2) := by decide +kernel
theorem dL_holds_58 : decode cL_holds 58 = .ok (.iload 4, 2) := by decide +kernel
theorem dL_holds_60 : decode cL_holds 60 = .ok (.ifCond .eq 53, 3) := by decide +kernel
theorem dL_holds_63 : decode cL_holds 63 = .ok (.iload 8, 2) := by decide +kernel
theorem dL_holds_65 : decode cL_holds 65 = .ok (.iconst (-1), 1) := by decide +kernel
theorem dL_holds_66 : decode cL_holds 66 = .ok (.if_icmp .ne 12, 3) := by decide +kernel
theorem dL_holds_69 : decode cL_holds 69 = .ok (.iload 6, 2) := by decide +kernel
theorem dL_holds_71 : decode cL_holds 71 = .ok (.iload_n 3, 1) := by decide +kernel
theorem dL_holds_72 : decode cL_holds 72 = .ok (.if_icmp .ne 41, 3) := by decide +kernel
theorem dL_holds_75 : decode cL_holds 75 = .ok (.goto 34, 3) := by decide +kernel
theorem dL_holds_78 : decode cL_holds 78 = .ok (.iload 8, 2) := by decide +kernel
theorem dL_holds_80 : decode cL_holds 80 = .ok (.ifCond .lt 33, 3) := by decide +kernel
theorem dL_holds_83 : decode cL_holds 83 = .ok (.iload 8, 2) := by decide +kernel
theorem dL_holds_85 : decode cL_holds 85 = .ok (.iload_n 2, 1) := by decide +kernel
theorem dL_holds_86 : decode cL_holds 86 = .ok (.if_icmp .ge 27, 3) := by decide +kernel
theorem dL_holds_89 : decode cL_holds 89 = .ok (.iload_n 3, 1) := by decide +kernel
theorem dL_holds_90 : decode cL_holds 90 = .ok (.iload 8, 2) := by decide +kernel
theorem dL_holds_92 : decode cL_holds 92 = .ok (.ishr, 1) := by decide +kernel
theorem dL_holds_93 : decode cL_holds 93 = .ok (.iconst 1, 1) := by decide +kernel
theorem dL_holds_94 : decode cL_holds 94 = .ok (.iand, 1) := by decide +kernel
theorem dL_holds_95 : decode cL_holds 95 = .ok (.iconst 1, 1) := by decide +kernel
theorem dL_holds_96 : decode cL_holds 96 = .ok (.if_icmp .ne 17, 3) := by decide +kernel
theorem dL_holds_99 : decode cL_holds 99 = .ok (.iload 6, 2) := by decide +kernel
theorem dL_holds_101 : decode cL_holds 101 = .ok (.iload 8, 2) := by decide +kernel
theorem dL_holds_103 : decode cL_holds 103 = .ok (.ishr, 1) := by decide +kernel
theorem dL_holds_104 : decode cL_holds 104 = .ok (.iconst 1, 1) := by decide +kernel
theorem dL_holds_105 : decode cL_holds 105 = .ok (.iand, 1) := by decide +kernel
theorem dL_holds_106 : decode cL_holds 106 = .ok (.ifCond .ne 7, 3) := by decide +kernel
theorem dL_holds_109 : decode cL_holds 109 = .ok (.iconst 1, 1) := by decide +kernel
theorem dL_holds_110 : decode cL_holds 110 = .ok (.goto 4, 3) := by decide +kernel
theorem dL_holds_113 : decode cL_holds 113 = .ok (.iconst 0, 1) := by decide +kernel
theorem dL_holds_114 : decode cL_holds 114 = .ok (.istore 4, 2) := by decide +kernel
theorem dL_holds_116 : decode cL_holds 116 = .ok (.iload 6, 2) := by decide +kernel
theorem dL_holds_118 : decode cL_holds 118 = .ok (.iload 8, 2) := by decide +kernel
theorem dL_holds_120 : decode cL_holds 120 = .ok (.iconst (-1), 1) := by decide +kernel
theorem dL_holds_121 : decode cL_holds 121 = .ok (.if_icmp .ne 7, 3) := by decide +kernel
theorem dL_holds_124 : decode cL_holds 124 = .ok (.iconst 0, 1) := by decide +kernel
theorem dL_holds_125 : decode cL_holds 125 = .ok (.goto 7, 3) := by decide +kernel
theorem dL_holds_128 : decode cL_holds 128 = .ok (.iconst 1, 1) := by decide +kernel
theorem dL_holds_129 : decode cL_holds 129 = .ok (.iload 8, 2) := by decide +kernel
theorem dL_holds_131 : decode cL_holds 131 = .ok (.ishl, 1) := by decide +kernel
theorem dL_holds_132 : decode cL_holds 132 = .ok (.ior, 1) := by decide +kernel
theorem dL_holds_133 : decode cL_holds 133 = .ok (.istore 6, 2) := by decide +kernel
theorem dL_holds_135 : decode cL_holds 135 = .ok (.iinc 7 1, 3) := by decide +kernel
theorem dL_holds_138 : decode cL_holds 138 = .ok (.goto (-100), 3) := by decide +kernel
theorem dL_holds_141 : decode cL_holds 141 = .ok (.iinc 5 1, 3) := by decide +kernel
theorem dL_holds_144 : decode cL_holds 144 = .ok (.goto (-123), 3) := by decide +kernel
theorem dL_holds_147 : decode cL_holds 147 = .ok (.aload_n 0, 1) := by decide +kernel
theorem dL_holds_148 : decode cL_holds 148 = .ok (.iload_n 3, 1) := by decide +kernel
theorem dL_holds_149 : decode cL_holds 149 = .ok (.iconst 0, 1) := by decide +kernel
theorem dL_holds_150 : decode cL_holds 150 = .ok (.invokestatic 197, 3) := by decide +kernel
theorem dL_holds_153 : decode cL_holds 153 = .ok (.lstore 5, 2) := by decide +kernel
theorem dL_holds_155 : decode cL_holds 155 = .ok (.aload_n 0, 1) := by decide +kernel
