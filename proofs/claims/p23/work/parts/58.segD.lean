theorem dL_three_0 : decode cL_three 0 = .ok (.new 14, 3) := by decide +kernel
theorem dL_three_3 : decode cL_three 3 = .ok (.dup, 1) := by decide +kernel
theorem dL_three_4 : decode cL_three 4 = .ok (.invokespecial 94, 3) := by decide +kernel
theorem dL_three_7 : decode cL_three 7 = .ok (.astore_n 0, 1) := by decide +kernel
theorem dL_three_8 : decode cL_three 8 = .ok (.aload_n 0, 1) := by decide +kernel
theorem dL_three_9 : decode cL_three 9 = .ok (.iconst 5, 1) := by decide +kernel
theorem dL_three_10 : decode cL_three 10 = .ok (.iconst 1, 1) := by decide +kernel
theorem dL_three_11 : decode cL_three 11 = .ok (.invokevirtual 68, 3) := by decide +kernel
theorem dL_three_14 : decode cL_three 14 = .ok (.ifCond .ne 46, 3) := by decide +kernel
theorem dL_three_17 : decode cL_three 17 = .ok (.aload_n 0, 1) := by decide +kernel
theorem dL_three_18 : decode cL_three 18 = .ok (.iconst 5, 1) := by decide +kernel
theorem dL_three_19 : decode cL_three 19 = .ok (.iconst 0, 1) := by decide +kernel
theorem dL_three_20 : decode cL_three 20 = .ok (.invokevirtual 68, 3) := by decide +kernel
theorem dL_three_23 : decode cL_three 23 = .ok (.iconst 1, 1) := by decide +kernel
theorem dL_three_24 : decode cL_three 24 = .ok (.if_icmp .ne 36, 3) := by decide +kernel
theorem dL_three_27 : decode cL_three 27 = .ok (.aload_n 0, 1) := by decide +kernel
theorem dL_three_28 : decode cL_three 28 = .ok (.iconst 5, 1) := by decide +kernel
theorem dL_three_29 : decode cL_three 29 = .ok (.iconst 0, 1) := by decide +kernel
theorem dL_three_30 : decode cL_three 30 = .ok (.invokevirtual 68, 3) := by decide +kernel
theorem dL_three_33 : decode cL_three 33 = .ok (.iconst 2, 1) := by decide +kernel
theorem dL_three_34 : decode cL_three 34 = .ok (.if_icmp .ne 26, 3) := by decide +kernel
theorem dL_three_37 : decode cL_three 37 = .ok (.aload_n 0, 1) := by decide +kernel
theorem dL_three_38 : decode cL_three 38 = .ok (.iconst 0, 1) := by decide +kernel
theorem dL_three_39 : decode cL_three 39 = .ok (.iconst 1, 1) := by decide +kernel
theorem dL_three_40 : decode cL_three 40 = .ok (.invokevirtual 51, 3) := by decide +kernel
theorem dL_three_43 : decode cL_three 43 = .ok (.ifCond .ne 17, 3) := by decide +kernel
theorem dL_three_46 : decode cL_three 46 = .ok (.aload_n 0, 1) := by decide +kernel
theorem dL_three_47 : decode cL_three 47 = .ok (.iconst 1, 1) := by decide +kernel
theorem dL_three_48 : decode cL_three 48 = .ok (.iconst 2, 1) := by decide +kernel
theorem dL_three_49 : decode cL_three 49 = .ok (.invokevirtual 51, 3) := by decide +kernel
theorem dL_three_52 : decode cL_three 52 = .ok (.iconst 1, 1) := by decide +kernel
theorem dL_three_53 : decode cL_three 53 = .ok (.if_icmp .ne 7, 3) := by decide +kernel
theorem dL_three_56 : decode cL_three 56 = .ok (.iconst 1, 1) := by decide +kernel
theorem dL_three_57 : decode cL_three 57 = .ok (.goto 4, 3) := by decide +kernel
theorem dL_three_60 : decode cL_three 60 = .ok (.iconst 0, 1) := by decide +kernel
theorem dL_three_61 : decode cL_three 61 = .ok (.istore_n 1, 1) := by decide +kernel
theorem dL_three_62 : decode cL_three 62 = .ok (.iload_n 1, 1) := by decide +kernel
theorem dL_three_63 : decode cL_three 63 = .ok (.ifCond .eq 7, 3) := by decide +kernel
theorem dL_three_66 : decode cL_three 66 = .ok (.aload_n 0, 1) := by decide +kernel
theorem dL_three_67 : decode cL_three 67 = .ok (.goto 10, 3) := by decide +kernel
theorem dL_three_70 : decode cL_three 70 = .ok (.new 14, 3) := by decide +kernel
theorem dL_three_73 : decode cL_three 73 = .ok (.dup, 1) := by decide +kernel
theorem dL_three_74 : decode cL_three 74 = .ok (.invokespecial 94, 3) := by decide +kernel
theorem dL_three_77 : decode cL_three 77 = .ok (.areturn, 1) := by decide +kernel
theorem dL_texts_0 : decode cL_texts 0 = .ok (.invokestatic 95, 3) := by decide +kernel
theorem dL_texts_3 : decode cL_texts 3 = .ok (.astore_n 0, 1) := by decide +kernel
theorem dL_texts_4 : decode cL_texts 4 = .ok (.aload_n 0, 1) := by decide +kernel
theorem dL_texts_5 : decode cL_texts 5 = .ok (.iconst 0, 1) := by decide +kernel
theorem dL_texts_6 : decode cL_texts 6 = .ok (.invokevirtual 13, 3) := by decide +kernel
theorem dL_texts_9 : decode cL_texts 9 = .ok (.iconst 3, 1) := by decide +kernel
theorem dL_texts_10 : decode cL_texts 10 = .ok (.if_icmp .ne 20, 3) := by decide +kernel
theorem dL_texts_13 : decode cL_texts 13 = .ok (.aload_n 0, 1) := by decide +kernel
theorem dL_texts_14 : decode cL_texts 14 = .ok (.invokevirtual 99, 3) := by decide +kernel
theorem dL_texts_17 : decode cL_texts 17 = .ok (.ifCond .ne 13, 3) := by decide +kernel
theorem dL_texts_20 : decode cL_texts 20 = .ok (.aload_n 0, 1) := by decide +kernel
theorem dL_texts_21 : decode cL_texts 21 = .ok (.bipush 14, 2) := by decide +kernel
theorem dL_texts_23 : decode cL_texts 23 = .ok (.invokevirtual 13, 3) := by decide +kernel
theorem dL_texts_26 : decode cL_texts 26 = .ok (.iconst 5, 1) := by decide +kernel
theorem dL_texts_27 : decode cL_texts 27 = .ok (.if_icmp .eq 5, 3) := by decide +kernel
theorem dL_texts_30 : decode cL_texts 30 = .ok (.iconst 0, 1) := by decide +kernel
theorem dL_texts_31 : decode cL_texts 31 = .ok (.ireturn, 1) := by decide +kernel
theorem dL_texts_32 : decode cL_texts 32 = .ok (.aload_n 0, 1) := by decide +kernel
theorem dL_texts_33 : decode cL_texts 33 = .ok (.invokestatic 60, 3) := by decide +kernel
theorem dL_texts_36 : decode cL_texts 36 = .ok (.lstore_n 1, 1) := by decide +kernel
theorem dL_texts_37 : decode cL_texts 37 = .ok (.aload_n 0, 1) := by decide +kernel
theorem dL_texts_38 : decode cL_texts 38 = .ok (.ldc2_w 102, 3) := by decide +kernel
theorem dL_texts_41 : decode cL_texts 41 = .ok (.lconst 0, 1) := by decide +kernel
theorem dL_texts_42 : decode cL_texts 42 = .ok (.lconst 0, 1) := by decide +kernel
theorem dL_texts_43 : decode cL_texts 43 = .ok (.bipush (-4), 2) := by decide +kernel
theorem dL_texts_45 : decode cL_texts 45 = .ok (.bipush (-4), 2) := by decide +kernel
theorem dL_texts_47 : decode cL_texts 47 = .ok (.invokestatic 104, 3) := by decide +kernel
theorem dL_texts_50 : decode cL_texts 50 = .ok (.ifCond .eq 47, 3) := by decide +kernel
theorem dL_texts_53 : decode cL_texts 53 = .ok (.aload_n 0, 1) := by decide +kernel
theorem dL_texts_54 : decode cL_texts 54 = .ok (.ldc2_w 108, 3) := by decide +kernel
theorem dL_texts_57 : decode cL_texts 57 = .ok (.lconst 0, 1) := by decide +kernel
theorem dL_texts_58 : decode cL_texts 58 = .ok (.lconst 0, 1) := by decide +kernel
theorem dL_texts_59 : decode cL_texts 59 = .ok (.iconst 0, 1) := by decide +kernel
theorem dL_texts_60 : decode cL_texts 60 = .ok (.iconst 2, 1) := by decide +kernel
theorem dL_texts_61 : decode cL_texts 61 = .ok (.invokestatic 104, 3) := by decide +kernel
theorem dL_texts_64 : decode cL_texts 64 = .ok (.ifCond .eq 33, 3) := by decide +kernel
theorem dL_texts_67 : decode cL_texts 67 = .ok (.aload_n 0, 1) := by decide +kernel
theorem dL_texts_68 : decode cL_texts 68 = .ok (.ldc2_w 110, 3) := by decide +kernel
theorem dL_texts_71 : decode cL_texts 71 = .ok (.lconst 0, 1) := by decide +kernel
theorem dL_texts_72 : decode cL_texts 72 = .ok (.lconst 0, 1) := by decide +kernel
theorem dL_texts_73 : decode cL_texts 73 = .ok (.iconst 0, 1) := by decide +kernel
theorem dL_texts_74 : decode cL_texts 74 = .ok (.iconst 1, 1) := by decide +kernel
theorem dL_texts_75 : decode cL_texts 75 = .ok (.invokestatic 104, 3) := by decide +kernel
theorem dL_texts_78 : decode cL_texts 78 = .ok (.ifCond .eq 19, 3) := by decide +kernel
theorem dL_texts_81 : decode cL_texts 81 = .ok (.aload_n 0, 1) := by decide +kernel
theorem dL_texts_82 : decode cL_texts 82 = .ok (.ldc2_w 112, 3) := by decide +kernel
theorem dL_texts_85 : decode cL_texts 85 = .ok (.lconst 0, 1) := by decide +kernel
theorem dL_texts_86 : decode cL_texts 86 = .ok (.lconst 0, 1) := by decide +kernel
theorem dL_texts_87 : decode cL_texts 87 = .ok (.bipush (-4), 2) := by decide +kernel
theorem dL_texts_89 : decode cL_texts 89 = .ok (.bipush (-4), 2) := by decide +kernel
theorem dL_texts_91 : decode cL_texts 91 = .ok (.invokestatic 104, 3) := by decide +kernel
theorem dL_texts_94 : decode cL_texts 94 = .ok (.ifCond .ne 5, 3) := by decide +kernel
theorem dL_texts_97 : decode cL_texts 97 = .ok (.iconst 0, 1) := by decide +kernel
theorem dL_texts_98 : decode cL_texts 98 = .ok (.ireturn, 1) := by decide +kernel
theorem dL_texts_99 : decode cL_texts 99 = .ok (.aload_n 0, 1) := by decide +kernel
theorem dL_texts_100 : decode cL_texts 100 = .ok (.ldc2_w 114, 3) := by decide +kernel
theorem dL_texts_103 : decode cL_texts 103 = .ok (.lconst 0, 1) := by decide +kernel
theorem dL_texts_104 : decode cL_texts 104 = .ok (.lconst 0, 1) := by decide +kernel
theorem dL_texts_105 : decode cL_texts 105 = .ok (.iconst 0, 1) := by decide +kernel
theorem dL_texts_106 : decode cL_texts 106 = .ok (.iconst 1, 1) := by decide +kernel
theorem dL_texts_107 : decode cL_texts 107 = .ok (.invokestatic 104, 3) := by decide +kernel
theorem dL_texts_110 : decode cL_texts 110 = .ok (.ifCond .eq 47, 3) := by decide +kernel
theorem dL_texts_113 : decode cL_texts 113 = .ok (.aload_n 0, 1) := by decide +kernel
theorem dL_texts_114 : decode cL_texts 114 = .ok (.ldc2_w 116, 3) := by decide +kernel
theorem dL_texts_117 : decode cL_texts 117 = .ok (.lconst 0, 1) := by decide +kernel
theorem dL_texts_118 : decode cL_texts 118 = .ok (.lconst 0, 1) := by decide +kernel
theorem dL_texts_119 : decode cL_texts 119 = .ok (.iconst 0, 1) := by decide +kernel
theorem dL_texts_120 : decode cL_texts 120 = .ok (.iconst 1, 1) := by decide +kernel
theorem dL_texts_121 : decode cL_texts 121 = .ok (.invokestatic 104, 3) := by decide +kernel
theorem dL_texts_124 : decode cL_texts 124 = .ok (.ifCond .eq 33, 3) := by decide +kernel
theorem dL_texts_127 : decode cL_texts 127 = .ok (.aload_n 0, 1) := by decide +kernel
theorem dL_texts_128 : decode cL_texts 128 = .ok (.ldc2_w 118, 3) := by decide +kernel
theorem dL_texts_131 : decode cL_texts 131 = .ok (.lconst 0, 1) := by decide +kernel
theorem dL_texts_132 : decode cL_texts 132 = .ok (.lconst 0, 1) := by decide +kernel
theorem dL_texts_133 : decode cL_texts 133 = .ok (.iconst 3, 1) := by decide +kernel
theorem dL_texts_134 : decode cL_texts 134 = .ok (.bipush 11, 2) := by decide +kernel
theorem dL_texts_136 : decode cL_texts 136 = .ok (.invokestatic 104, 3) := by decide +kernel
theorem dL_texts_139 : decode cL_texts 139 = .ok (.ifCond .eq 18, 3) := by decide +kernel
theorem dL_texts_142 : decode cL_texts 142 = .ok (.aload_n 0, 1) := by decide +kernel
theorem dL_texts_143 : decode cL_texts 143 = .ok (.ldc2_w 120, 3) := by decide +kernel
theorem dL_texts_146 : decode cL_texts 146 = .ok (.lconst 0, 1) := by decide +kernel
theorem dL_texts_147 : decode cL_texts 147 = .ok (.lconst 0, 1) := by decide +kernel
theorem dL_texts_148 : decode cL_texts 148 = .ok (.iconst 0, 1) := by decide +kernel
theorem dL_texts_149 : decode cL_texts 149 = .ok (.bipush 32, 2) := by decide +kernel
theorem dL_texts_151 : decode cL_texts 151 = .ok (.invokestatic 104, 3) := by decide +kernel
theorem dL_texts_154 : decode cL_texts 154 = .ok (.ifCond .ne 5, 3) := by decide +kernel
theorem dL_texts_157 : decode cL_texts 157 = .ok (.iconst 0, 1) := by decide +kernel
theorem dL_texts_158 : decode cL_texts 158 = .ok (.ireturn, 1) := by decide +kernel
theorem dL_texts_159 : decode cL_texts 159 = .ok (.aload_n 0, 1) := by decide +kernel
theorem dL_texts_160 : decode cL_texts 160 = .ok (.ldc2_w 122, 3) := by decide +kernel
theorem dL_texts_163 : decode cL_texts 163 = .ok (.lconst 0, 1) := by decide +kernel
theorem dL_texts_164 : decode cL_texts 164 = .ok (.lconst 0, 1) := by decide +kernel
theorem dL_texts_165 : decode cL_texts 165 = .ok (.iconst 0, 1) := by decide +kernel
theorem dL_texts_166 : decode cL_texts 166 = .ok (.iconst 2, 1) := by decide +kernel
theorem dL_texts_167 : decode cL_texts 167 = .ok (.invokestatic 104, 3) := by decide +kernel
theorem dL_texts_170 : decode cL_texts 170 = .ok (.ifCond .eq 53, 3) := by decide +kernel
theorem dL_texts_173 : decode cL_texts 173 = .ok (.aload_n 0, 1) := by decide +kernel
theorem dL_texts_174 : decode cL_texts 174 = .ok (.ldc2_w 124, 3) := by decide +kernel
theorem dL_texts_177 : decode cL_texts 177 = .ok (.lconst 0, 1) := by decide +kernel
theorem dL_texts_178 : decode cL_texts 178 = .ok (.lconst 0, 1) := by decide +kernel
theorem dL_texts_179 : decode cL_texts 179 = .ok (.iconst 0, 1) := by decide +kernel
theorem dL_texts_180 : decode cL_texts 180 = .ok (.iconst 2, 1) := by decide +kernel
theorem dL_texts_181 : decode cL_texts 181 = .ok (.invokestatic 104, 3) := by decide +kernel
theorem dL_texts_184 : decode cL_texts 184 = .ok (.ifCond .eq 39, 3) := by decide +kernel
theorem dL_texts_187 : decode cL_texts 187 = .ok (.aload_n 0, 1) := by decide +kernel
theorem dL_texts_188 : decode cL_texts 188 = .ok (.ldc2_w 126, 3) := by decide +kernel
theorem dL_texts_191 : decode cL_texts 191 = .ok (.ldc2_w 128, 3) := by decide +kernel
theorem dL_texts_194 : decode cL_texts 194 = .ok (.lconst 0, 1) := by decide +kernel
theorem dL_texts_195 : decode cL_texts 195 = .ok (.bipush 6, 2) := by decide +kernel
theorem dL_texts_197 : decode cL_texts 197 = .ok (.bipush 52, 2) := by decide +kernel
theorem dL_texts_199 : decode cL_texts 199 = .ok (.invokestatic 104, 3) := by decide +kernel
theorem dL_texts_202 : decode cL_texts 202 = .ok (.ifCond .eq 21, 3) := by decide +kernel
theorem dL_texts_205 : decode cL_texts 205 = .ok (.aload_n 0, 1) := by decide +kernel
theorem dL_texts_206 : decode cL_texts 206 = .ok (.ldc2_w 130, 3) := by decide +kernel
theorem dL_texts_209 : decode cL_texts 209 = .ok (.ldc2_w 128, 3) := by decide +kernel
theorem dL_texts_212 : decode cL_texts 212 = .ok (.lconst 0, 1) := by decide +kernel
theorem dL_texts_213 : decode cL_texts 213 = .ok (.bipush 6, 2) := by decide +kernel
theorem dL_texts_215 : decode cL_texts 215 = .ok (.bipush 12, 2) := by decide +kernel
theorem dL_texts_217 : decode cL_texts 217 = .ok (.invokestatic 104, 3) := by decide +kernel
theorem dL_texts_220 : decode cL_texts 220 = .ok (.ifCond .ne 5, 3) := by decide +kernel
theorem dL_texts_223 : decode cL_texts 223 = .ok (.iconst 0, 1) := by decide +kernel
theorem dL_texts_224 : decode cL_texts 224 = .ok (.ireturn, 1) := by decide +kernel
theorem dL_texts_225 : decode cL_texts 225 = .ok (.aload_n 0, 1) := by decide +kernel
theorem dL_texts_226 : decode cL_texts 226 = .ok (.ldc2_w 132, 3) := by decide +kernel
theorem dL_texts_229 : decode cL_texts 229 = .ok (.ldc2_w 128, 3) := by decide +kernel
theorem dL_texts_232 : decode cL_texts 232 = .ok (.lconst 0, 1) := by decide +kernel
theorem dL_texts_233 : decode cL_texts 233 = .ok (.bipush (-4), 2) := by decide +kernel
theorem dL_texts_235 : decode cL_texts 235 = .ok (.bipush (-4), 2) := by decide +kernel
theorem dL_texts_237 : decode cL_texts 237 = .ok (.invokestatic 104, 3) := by decide +kernel
theorem dL_texts_240 : decode cL_texts 240 = .ok (.ifCond .eq 56, 3) := by decide +kernel
theorem dL_texts_243 : decode cL_texts 243 = .ok (.aload_n 0, 1) := by decide +kernel
theorem dL_texts_244 : decode cL_texts 244 = .ok (.ldc2_w 132, 3) := by decide +kernel
theorem dL_texts_247 : decode cL_texts 247 = .ok (.ldc2_w 134, 3) := by decide +kernel
theorem dL_texts_250 : decode cL_texts 250 = .ok (.lconst 0, 1) := by decide +kernel
theorem dL_texts_251 : decode cL_texts 251 = .ok (.bipush 9, 2) := by decide +kernel
theorem dL_texts_253 : decode cL_texts 253 = .ok (.bipush 42, 2) := by decide +kernel
theorem dL_texts_255 : decode cL_texts 255 = .ok (.invokestatic 104, 3) := by decide +kernel
theorem dL_texts_258 : decode cL_texts 258 = .ok (.ifCond .eq 38, 3) := by decide +kernel
theorem dL_texts_261 : decode cL_texts 261 = .ok (.aload_n 0, 1) := by decide +kernel
theorem dL_texts_262 : decode cL_texts 262 = .ok (.ldc2_w 132, 3) := by decide +kernel
theorem dL_texts_265 : decode cL_texts 265 = .ok (.ldc2_w 136, 3) := by decide +kernel
theorem dL_texts_268 : decode cL_texts 268 = .ok (.ldc2_w 138, 3) := by decide +kernel
theorem dL_texts_271 : decode cL_texts 271 = .ok (.bipush (-4), 2) := by decide +kernel
theorem dL_texts_273 : decode cL_texts 273 = .ok (.bipush (-4), 2) := by decide +kernel
theorem dL_texts_275 : decode cL_texts 275 = .ok (.invokestatic 104, 3) := by decide +kernel
theorem dL_texts_278 : decode cL_texts 278 = .ok (.ifCond .eq 18, 3) := by decide +kernel
theorem dL_texts_281 : decode cL_texts 281 = .ok (.aload_n 0, 1) := by decide +kernel
theorem dL_texts_282 : decode cL_texts 282 = .ok (.ldc2_w 140, 3) := by decide +kernel
theorem dL_texts_285 : decode cL_texts 285 = .ok (.lconst 0, 1) := by decide +kernel
theorem dL_texts_286 : decode cL_texts 286 = .ok (.lconst 0, 1) := by decide +kernel
theorem dL_texts_287 : decode cL_texts 287 = .ok (.iconst 0, 1) := by decide +kernel
theorem dL_texts_288 : decode cL_texts 288 = .ok (.bipush 72, 2) := by decide +kernel
theorem dL_texts_290 : decode cL_texts 290 = .ok (.invokestatic 104, 3) := by decide +kernel
theorem dL_texts_293 : decode cL_texts 293 = .ok (.ifCond .ne 5, 3) := by decide +kernel
theorem dL_texts_296 : decode cL_texts 296 = .ok (.iconst 0, 1) := by decide +kernel
theorem dL_texts_297 : decode cL_texts 297 = .ok (.ireturn, 1) := by decide +kernel
theorem dL_texts_298 : decode cL_texts 298 = .ok (.aload_n 0, 1) := by decide +kernel
theorem dL_texts_299 : decode cL_texts 299 = .ok (.ldc2_w 142, 3) := by decide +kernel
theorem dL_texts_302 : decode cL_texts 302 = .ok (.lconst 0, 1) := by decide +kernel
theorem dL_texts_303 : decode cL_texts 303 = .ok (.lconst 0, 1) := by decide +kernel
theorem dL_texts_304 : decode cL_texts 304 = .ok (.iconst 0, 1) := by decide +kernel
theorem dL_texts_305 : decode cL_texts 305 = .ok (.bipush 21, 2) := by decide +kernel
theorem dL_texts_307 : decode cL_texts 307 = .ok (.invokestatic 104, 3) := by decide +kernel
theorem dL_texts_310 : decode cL_texts 310 = .ok (.ifCond .eq 48, 3) := by decide +kernel
theorem dL_texts_313 : decode cL_texts 313 = .ok (.aload_n 0, 1) := by decide +kernel
theorem dL_texts_314 : decode cL_texts 314 = .ok (.ldc2_w 144, 3) := by decide +kernel
theorem dL_texts_317 : decode cL_texts 317 = .ok (.lconst 0, 1) := by decide +kernel
theorem dL_texts_318 : decode cL_texts 318 = .ok (.lconst 0, 1) := by decide +kernel
theorem dL_texts_319 : decode cL_texts 319 = .ok (.iconst 0, 1) := by decide +kernel
theorem dL_texts_320 : decode cL_texts 320 = .ok (.bipush 61, 2) := by decide +kernel
theorem dL_texts_322 : decode cL_texts 322 = .ok (.invokestatic 104, 3) := by decide +kernel
theorem dL_texts_325 : decode cL_texts 325 = .ok (.ifCond .eq 33, 3) := by decide +kernel
theorem dL_texts_328 : decode cL_texts 328 = .ok (.aload_n 0, 1) := by decide +kernel
theorem dL_texts_329 : decode cL_texts 329 = .ok (.ldc2_w 146, 3) := by decide +kernel
theorem dL_texts_332 : decode cL_texts 332 = .ok (.lconst 0, 1) := by decide +kernel
theorem dL_texts_333 : decode cL_texts 333 = .ok (.lconst 0, 1) := by decide +kernel
theorem dL_texts_334 : decode cL_texts 334 = .ok (.iconst 0, 1) := by decide +kernel
theorem dL_texts_335 : decode cL_texts 335 = .ok (.bipush 61, 2) := by decide +kernel
theorem dL_texts_337 : decode cL_texts 337 = .ok (.invokestatic 104, 3) := by decide +kernel
theorem dL_texts_340 : decode cL_texts 340 = .ok (.ifCond .eq 18, 3) := by decide +kernel
theorem dL_texts_343 : decode cL_texts 343 = .ok (.aload_n 0, 1) := by decide +kernel
theorem dL_texts_344 : decode cL_texts 344 = .ok (.ldc2_w 148, 3) := by decide +kernel
theorem dL_texts_347 : decode cL_texts 347 = .ok (.lconst 0, 1) := by decide +kernel
theorem dL_texts_348 : decode cL_texts 348 = .ok (.lconst 0, 1) := by decide +kernel
theorem dL_texts_349 : decode cL_texts 349 = .ok (.iconst 0, 1) := by decide +kernel
theorem dL_texts_350 : decode cL_texts 350 = .ok (.bipush 51, 2) := by decide +kernel
theorem dL_texts_352 : decode cL_texts 352 = .ok (.invokestatic 104, 3) := by decide +kernel
theorem dL_texts_355 : decode cL_texts 355 = .ok (.ifCond .ne 5, 3) := by decide +kernel
theorem dL_texts_358 : decode cL_texts 358 = .ok (.iconst 0, 1) := by decide +kernel
theorem dL_texts_359 : decode cL_texts 359 = .ok (.ireturn, 1) := by decide +kernel
theorem dL_texts_360 : decode cL_texts 360 = .ok (.aload_n 0, 1) := by decide +kernel
theorem dL_texts_361 : decode cL_texts 361 = .ok (.ldc2_w 150, 3) := by decide +kernel
theorem dL_texts_364 : decode cL_texts 364 = .ok (.lconst 0, 1) := by decide +kernel
theorem dL_texts_365 : decode cL_texts 365 = .ok (.lconst 0, 1) := by decide +kernel
theorem dL_texts_366 : decode cL_texts 366 = .ok (.iconst 0, 1) := by decide +kernel
theorem dL_texts_367 : decode cL_texts 367 = .ok (.bipush 81, 2) := by decide +kernel
theorem dL_texts_369 : decode cL_texts 369 = .ok (.invokestatic 104, 3) := by decide +kernel
theorem dL_texts_372 : decode cL_texts 372 = .ok (.ifCond .eq 46, 3) := by decide +kernel
theorem dL_texts_375 : decode cL_texts 375 = .ok (.aload_n 0, 1) := by decide +kernel
theorem dL_texts_376 : decode cL_texts 376 = .ok (.ldc2_w 152, 3) := by decide +kernel
theorem dL_texts_379 : decode cL_texts 379 = .ok (.lconst 0, 1) := by decide +kernel
theorem dL_texts_380 : decode cL_texts 380 = .ok (.lconst 0, 1) := by decide +kernel
theorem dL_texts_381 : decode cL_texts 381 = .ok (.iconst 0, 1) := by decide +kernel
theorem dL_texts_382 : decode cL_texts 382 = .ok (.bipush 41, 2) := by decide +kernel
theorem dL_texts_384 : decode cL_texts 384 = .ok (.invokestatic 104, 3) := by decide +kernel
theorem dL_texts_387 : decode cL_texts 387 = .ok (.ifCond .eq 31, 3) := by decide +kernel
theorem dL_texts_390 : decode cL_texts 390 = .ok (.aload_n 0, 1) := by decide +kernel
theorem dL_texts_391 : decode cL_texts 391 = .ok (.lconst 0, 1) := by decide +kernel
theorem dL_texts_392 : decode cL_texts 392 = .ok (.lconst 0, 1) := by decide +kernel
theorem dL_texts_393 : decode cL_texts 393 = .ok (.lconst 0, 1) := by decide +kernel
theorem dL_texts_394 : decode cL_texts 394 = .ok (.bipush (-4), 2) := by decide +kernel
theorem dL_texts_396 : decode cL_texts 396 = .ok (.bipush (-4), 2) := by decide +kernel
theorem dL_texts_398 : decode cL_texts 398 = .ok (.invokestatic 104, 3) := by decide +kernel
theorem dL_texts_401 : decode cL_texts 401 = .ok (.ifCond .eq 17, 3) := by decide +kernel
theorem dL_texts_404 : decode cL_texts 404 = .ok (.aload_n 0, 1) := by decide +kernel
theorem dL_texts_405 : decode cL_texts 405 = .ok (.ldc2_w 154, 3) := by decide +kernel
theorem dL_texts_408 : decode cL_texts 408 = .ok (.lconst 0, 1) := by decide +kernel
theorem dL_texts_409 : decode cL_texts 409 = .ok (.lconst 0, 1) := by decide +kernel
theorem dL_texts_410 : decode cL_texts 410 = .ok (.iconst 0, 1) := by decide +kernel
theorem dL_texts_411 : decode cL_texts 411 = .ok (.iconst 1, 1) := by decide +kernel
theorem dL_texts_412 : decode cL_texts 412 = .ok (.invokestatic 104, 3) := by decide +kernel
theorem dL_texts_415 : decode cL_texts 415 = .ok (.ifCond .ne 5, 3) := by decide +kernel
theorem dL_texts_418 : decode cL_texts 418 = .ok (.iconst 0, 1) := by decide +kernel
theorem dL_texts_419 : decode cL_texts 419 = .ok (.ireturn, 1) := by decide +kernel
theorem dL_texts_420 : decode cL_texts 420 = .ok (.aload_n 0, 1) := by decide +kernel
theorem dL_texts_421 : decode cL_texts 421 = .ok (.ldc2_w 156, 3) := by decide +kernel
theorem dL_texts_424 : decode cL_texts 424 = .ok (.lconst 0, 1) := by decide +kernel
theorem dL_texts_425 : decode cL_texts 425 = .ok (.lconst 0, 1) := by decide +kernel
theorem dL_texts_426 : decode cL_texts 426 = .ok (.iconst 0, 1) := by decide +kernel
theorem dL_texts_427 : decode cL_texts 427 = .ok (.iconst 1, 1) := by decide +kernel
theorem dL_texts_428 : decode cL_texts 428 = .ok (.invokestatic 104, 3) := by decide +kernel
theorem dL_texts_431 : decode cL_texts 431 = .ok (.ifCond .eq 47, 3) := by decide +kernel
theorem dL_texts_434 : decode cL_texts 434 = .ok (.aload_n 0, 1) := by decide +kernel
theorem dL_texts_435 : decode cL_texts 435 = .ok (.ldc2_w 158, 3) := by decide +kernel
theorem dL_texts_438 : decode cL_texts 438 = .ok (.lconst 0, 1) := by decide +kernel
theorem dL_texts_439 : decode cL_texts 439 = .ok (.lconst 0, 1) := by decide +kernel
theorem dL_texts_440 : decode cL_texts 440 = .ok (.iconst 0, 1) := by decide +kernel
theorem dL_texts_441 : decode cL_texts 441 = .ok (.iconst 1, 1) := by decide +kernel
theorem dL_texts_442 : decode cL_texts 442 = .ok (.invokestatic 104, 3) := by decide +kernel
theorem dL_texts_445 : decode cL_texts 445 = .ok (.ifCond .eq 33, 3) := by decide +kernel
theorem dL_texts_448 : decode cL_texts 448 = .ok (.aload_n 0, 1) := by decide +kernel
theorem dL_texts_449 : decode cL_texts 449 = .ok (.ldc2_w 160, 3) := by decide +kernel
theorem dL_texts_452 : decode cL_texts 452 = .ok (.lconst 0, 1) := by decide +kernel
theorem dL_texts_453 : decode cL_texts 453 = .ok (.lconst 0, 1) := by decide +kernel
theorem dL_texts_454 : decode cL_texts 454 = .ok (.iconst 3, 1) := by decide +kernel
theorem dL_texts_455 : decode cL_texts 455 = .ok (.iconst 1, 1) := by decide +kernel
theorem dL_texts_456 : decode cL_texts 456 = .ok (.invokestatic 104, 3) := by decide +kernel
theorem dL_texts_459 : decode cL_texts 459 = .ok (.ifCond .eq 19, 3) := by decide +kernel
theorem dL_texts_462 : decode cL_texts 462 = .ok (.aload_n 0, 1) := by decide +kernel
theorem dL_texts_463 : decode cL_texts 463 = .ok (.ldc2_w 162, 3) := by decide +kernel
theorem dL_texts_466 : decode cL_texts 466 = .ok (.lconst 0, 1) := by decide +kernel
theorem dL_texts_467 : decode cL_texts 467 = .ok (.lconst 0, 1) := by decide +kernel
theorem dL_texts_468 : decode cL_texts 468 = .ok (.bipush (-4), 2) := by decide +kernel
theorem dL_texts_470 : decode cL_texts 470 = .ok (.bipush (-4), 2) := by decide +kernel
theorem dL_texts_472 : decode cL_texts 472 = .ok (.invokestatic 104, 3) := by decide +kernel
theorem dL_texts_475 : decode cL_texts 475 = .ok (.ifCond .ne 5, 3) := by decide +kernel
theorem dL_texts_478 : decode cL_texts 478 = .ok (.iconst 0, 1) := by decide +kernel
theorem dL_texts_479 : decode cL_texts 479 = .ok (.ireturn, 1) := by decide +kernel
theorem dL_texts_480 : decode cL_texts 480 = .ok (.aload_n 0, 1) := by decide +kernel
theorem dL_texts_481 : decode cL_texts 481 = .ok (.invokestatic 60, 3) := by decide +kernel
theorem dL_texts_484 : decode cL_texts 484 = .ok (.lload_n 1, 1) := by decide +kernel
theorem dL_texts_485 : decode cL_texts 485 = .ok (.lcmp, 1) := by decide +kernel
theorem dL_texts_486 : decode cL_texts 486 = .ok (.ifCond .ne 130, 3) := by decide +kernel
theorem dL_texts_489 : decode cL_texts 489 = .ok (.aload_n 0, 1) := by decide +kernel
theorem dL_texts_490 : decode cL_texts 490 = .ok (.ldc2_w 132, 3) := by decide +kernel
theorem dL_texts_493 : decode cL_texts 493 = .ok (.ldc2_w 136, 3) := by decide +kernel
theorem dL_texts_496 : decode cL_texts 496 = .ok (.ldc2_w 138, 3) := by decide +kernel
theorem dL_texts_499 : decode cL_texts 499 = .ok (.bipush (-4), 2) := by decide +kernel
theorem dL_texts_501 : decode cL_texts 501 = .ok (.bipush (-4), 2) := by decide +kernel
theorem dL_texts_503 : decode cL_texts 503 = .ok (.invokestatic 104, 3) := by decide +kernel
theorem dL_texts_506 : decode cL_texts 506 = .ok (.ifCond .eq 110, 3) := by decide +kernel
theorem dL_texts_509 : decode cL_texts 509 = .ok (.aload_n 0, 1) := by decide +kernel
theorem dL_texts_510 : decode cL_texts 510 = .ok (.invokevirtual 99, 3) := by decide +kernel
theorem dL_texts_513 : decode cL_texts 513 = .ok (.bipush 6, 2) := by decide +kernel
theorem dL_texts_515 : decode cL_texts 515 = .ok (.if_icmp .ne 101, 3) := by decide +kernel
theorem dL_texts_518 : decode cL_texts 518 = .ok (.aload_n 0, 1) := by decide +kernel
theorem dL_texts_519 : decode cL_texts 519 = .ok (.bipush 9, 2) := by decide +kernel
theorem dL_texts_521 : decode cL_texts 521 = .ok (.invokevirtual 13, 3) := by decide +kernel
theorem dL_texts_524 : decode cL_texts 524 = .ok (.bipush 6, 2) := by decide +kernel
theorem dL_texts_526 : decode cL_texts 526 = .ok (.if_icmp .ne 90, 3) := by decide +kernel
theorem dL_texts_529 : decode cL_texts 529 = .ok (.aload_n 0, 1) := by decide +kernel
theorem dL_texts_530 : decode cL_texts 530 = .ok (.bipush 10, 2) := by decide +kernel
theorem dL_texts_532 : decode cL_texts 532 = .ok (.invokevirtual 13, 3) := by decide +kernel
theorem dL_texts_535 : decode cL_texts 535 = .ok (.bipush 6, 2) := by decide +kernel
theorem dL_texts_537 : decode cL_texts 537 = .ok (.if_icmp .ne 79, 3) := by decide +kernel
theorem dL_texts_540 : decode cL_texts 540 = .ok (.aload_n 0, 1) := by decide +kernel
theorem dL_texts_541 : decode cL_texts 541 = .ok (.iconst 0, 1) := by decide +kernel
theorem dL_texts_542 : decode cL_texts 542 = .ok (.iconst 0, 1) := by decide +kernel
theorem dL_texts_543 : decode cL_texts 543 = .ok (.invokevirtual 32, 3) := by decide +kernel
theorem dL_texts_546 : decode cL_texts 546 = .ok (.iconst 1, 1) := by decide +kernel
theorem dL_texts_547 : decode cL_texts 547 = .ok (.if_icmp .ne 69, 3) := by decide +kernel
theorem dL_texts_550 : decode cL_texts 550 = .ok (.aload_n 0, 1) := by decide +kernel
theorem dL_texts_551 : decode cL_texts 551 = .ok (.iconst 5, 1) := by decide +kernel
theorem dL_texts_552 : decode cL_texts 552 = .ok (.iconst 0, 1) := by decide +kernel
theorem dL_texts_553 : decode cL_texts 553 = .ok (.invokevirtual 32, 3) := by decide +kernel
theorem dL_texts_556 : decode cL_texts 556 = .ok (.ifCond .ne 60, 3) := by decide +kernel
theorem dL_texts_559 : decode cL_texts 559 = .ok (.aload_n 0, 1) := by decide +kernel
theorem dL_texts_560 : decode cL_texts 560 = .ok (.iconst 5, 1) := by decide +kernel
theorem dL_texts_561 : decode cL_texts 561 = .ok (.iconst 1, 1) := by decide +kernel
theorem dL_texts_562 : decode cL_texts 562 = .ok (.invokevirtual 32, 3) := by decide +kernel
theorem dL_texts_565 : decode cL_texts 565 = .ok (.iconst 2, 1) := by decide +kernel
theorem dL_texts_566 : decode cL_texts 566 = .ok (.if_icmp .ne 50, 3) := by decide +kernel
theorem dL_texts_569 : decode cL_texts 569 = .ok (.aload_n 0, 1) := by decide +kernel
theorem dL_texts_570 : decode cL_texts 570 = .ok (.bipush 6, 2) := by decide +kernel
theorem dL_texts_572 : decode cL_texts 572 = .ok (.iconst 0, 1) := by decide +kernel
theorem dL_texts_573 : decode cL_texts 573 = .ok (.invokevirtual 32, 3) := by decide +kernel
theorem dL_texts_576 : decode cL_texts 576 = .ok (.bipush (-4), 2) := by decide +kernel
theorem dL_texts_578 : decode cL_texts 578 = .ok (.if_icmp .ne 38, 3) := by decide +kernel
theorem dL_texts_581 : decode cL_texts 581 = .ok (.aload_n 0, 1) := by decide +kernel
theorem dL_texts_582 : decode cL_texts 582 = .ok (.iconst 4, 1) := by decide +kernel
theorem dL_texts_583 : decode cL_texts 583 = .ok (.invokevirtual 13, 3) := by decide +kernel
theorem dL_texts_586 : decode cL_texts 586 = .ok (.iconst 3, 1) := by decide +kernel
theorem dL_texts_587 : decode cL_texts 587 = .ok (.if_icmp .ne 29, 3) := by decide +kernel
theorem dL_texts_590 : decode cL_texts 590 = .ok (.aload_n 0, 1) := by decide +kernel
theorem dL_texts_591 : decode cL_texts 591 = .ok (.invokevirtual 164, 3) := by decide +kernel
theorem dL_texts_594 : decode cL_texts 594 = .ok (.iconst 4, 1) := by decide +kernel
theorem dL_texts_595 : decode cL_texts 595 = .ok (.if_icmp .ne 21, 3) := by decide +kernel
theorem dL_texts_598 : decode cL_texts 598 = .ok (.aload_n 0, 1) := by decide +kernel
theorem dL_texts_599 : decode cL_texts 599 = .ok (.invokestatic 60, 3) := by decide +kernel
theorem dL_texts_602 : decode cL_texts 602 = .ok (.lload_n 1, 1) := by decide +kernel
theorem dL_texts_603 : decode cL_texts 603 = .ok (.lcmp, 1) := by decide +kernel
theorem dL_texts_604 : decode cL_texts 604 = .ok (.ifCond .ne 12, 3) := by decide +kernel
theorem dL_texts_607 : decode cL_texts 607 = .ok (.aload_n 0, 1) := by decide +kernel
theorem dL_texts_608 : decode cL_texts 608 = .ok (.invokevirtual 86, 3) := by decide +kernel
theorem dL_texts_611 : decode cL_texts 611 = .ok (.bipush 18, 2) := by decide +kernel
theorem dL_texts_613 : decode cL_texts 613 = .ok (.if_icmp .eq 5, 3) := by decide +kernel
theorem dL_texts_616 : decode cL_texts 616 = .ok (.iconst 0, 1) := by decide +kernel
theorem dL_texts_617 : decode cL_texts 617 = .ok (.ireturn, 1) := by decide +kernel
theorem dL_texts_618 : decode cL_texts 618 = .ok (.aload_n 0, 1) := by decide +kernel
theorem dL_texts_619 : decode cL_texts 619 = .ok (.ldc2_w 140, 3) := by decide +kernel
theorem dL_texts_622 : decode cL_texts 622 = .ok (.lconst 0, 1) := by decide +kernel
theorem dL_texts_623 : decode cL_texts 623 = .ok (.lconst 0, 1) := by decide +kernel
theorem dL_texts_624 : decode cL_texts 624 = .ok (.iconst 0, 1) := by decide +kernel
theorem dL_texts_625 : decode cL_texts 625 = .ok (.bipush 72, 2) := by decide +kernel
theorem dL_texts_627 : decode cL_texts 627 = .ok (.invokestatic 104, 3) := by decide +kernel
theorem dL_texts_630 : decode cL_texts 630 = .ok (.ifCond .eq 21, 3) := by decide +kernel
theorem dL_texts_633 : decode cL_texts 633 = .ok (.aload_n 0, 1) := by decide +kernel
theorem dL_texts_634 : decode cL_texts 634 = .ok (.invokevirtual 99, 3) := by decide +kernel
theorem dL_texts_637 : decode cL_texts 637 = .ok (.bipush (-2), 2) := by decide +kernel
theorem dL_texts_639 : decode cL_texts 639 = .ok (.if_icmp .ne 12, 3) := by decide +kernel
theorem dL_texts_642 : decode cL_texts 642 = .ok (.aload_n 0, 1) := by decide +kernel
theorem dL_texts_643 : decode cL_texts 643 = .ok (.invokestatic 60, 3) := by decide +kernel
theorem dL_texts_646 : decode cL_texts 646 = .ok (.lload_n 1, 1) := by decide +kernel
theorem dL_texts_647 : decode cL_texts 647 = .ok (.lcmp, 1) := by decide +kernel
theorem dL_texts_648 : decode cL_texts 648 = .ok (.ifCond .eq 5, 3) := by decide +kernel
theorem dL_texts_651 : decode cL_texts 651 = .ok (.iconst 0, 1) := by decide +kernel
theorem dL_texts_652 : decode cL_texts 652 = .ok (.ireturn, 1) := by decide +kernel
theorem dL_texts_653 : decode cL_texts 653 = .ok (.iconst 4, 1) := by decide +kernel
theorem dL_texts_654 : decode cL_texts 654 = .ok (.istore_n 3, 1) := by decide +kernel
theorem dL_texts_655 : decode cL_texts 655 = .ok (.iload_n 3, 1) := by decide +kernel
theorem dL_texts_656 : decode cL_texts 656 = .ok (.bipush 60, 2) := by decide +kernel
theorem dL_texts_658 : decode cL_texts 658 = .ok (.if_icmp .gt 21, 3) := by decide +kernel
theorem dL_texts_661 : decode cL_texts 661 = .ok (.aload_n 0, 1) := by decide +kernel
theorem dL_texts_662 : decode cL_texts 662 = .ok (.bipush 48, 2) := by decide +kernel
theorem dL_texts_664 : decode cL_texts 664 = .ok (.invokevirtual 77, 3) := by decide +kernel
theorem dL_texts_667 : decode cL_texts 667 = .ok (.iload_n 3, 1) := by decide +kernel
theorem dL_texts_668 : decode cL_texts 668 = .ok (.if_icmp .eq 5, 3) := by decide +kernel
theorem dL_texts_671 : decode cL_texts 671 = .ok (.iconst 0, 1) := by decide +kernel
theorem dL_texts_672 : decode cL_texts 672 = .ok (.ireturn, 1) := by decide +kernel
theorem dL_texts_673 : decode cL_texts 673 = .ok (.iinc 3 1, 3) := by decide +kernel
theorem dL_texts_676 : decode cL_texts 676 = .ok (.goto (-21), 3) := by decide +kernel
theorem dL_texts_679 : decode cL_texts 679 = .ok (.aload_n 0, 1) := by decide +kernel
theorem dL_texts_680 : decode cL_texts 680 = .ok (.bipush 48, 2) := by decide +kernel
theorem dL_texts_682 : decode cL_texts 682 = .ok (.invokevirtual 77, 3) := by decide +kernel
theorem dL_texts_685 : decode cL_texts 685 = .ok (.bipush (-3), 2) := by decide +kernel
theorem dL_texts_687 : decode cL_texts 687 = .ok (.if_icmp .ne 26, 3) := by decide +kernel
theorem dL_texts_690 : decode cL_texts 690 = .ok (.aload_n 0, 1) := by decide +kernel
theorem dL_texts_691 : decode cL_texts 691 = .ok (.bipush 31, 2) := by decide +kernel
theorem dL_texts_693 : decode cL_texts 693 = .ok (.invokevirtual 77, 3) := by decide +kernel
theorem dL_texts_696 : decode cL_texts 696 = .ok (.iconst (-1), 1) := by decide +kernel
theorem dL_texts_697 : decode cL_texts 697 = .ok (.if_icmp .ne 16, 3) := by decide +kernel
theorem dL_texts_700 : decode cL_texts 700 = .ok (.aload_n 0, 1) := by decide +kernel
theorem dL_texts_701 : decode cL_texts 701 = .ok (.invokevirtual 86, 3) := by decide +kernel
theorem dL_texts_704 : decode cL_texts 704 = .ok (.bipush 60, 2) := by decide +kernel
theorem dL_texts_706 : decode cL_texts 706 = .ok (.if_icmp .ne 7, 3) := by decide +kernel
theorem dL_texts_709 : decode cL_texts 709 = .ok (.iconst 1, 1) := by decide +kernel
theorem dL_texts_710 : decode cL_texts 710 = .ok (.goto 4, 3) := by decide +kernel
theorem dL_texts_713 : decode cL_texts 713 = .ok (.iconst 0, 1) := by decide +kernel
theorem dL_texts_714 : decode cL_texts 714 = .ok (.ireturn, 1) := by decide +kernel
theorem dL_known_0 : decode cL_known 0 = .ok (.invokestatic 95, 3) := by decide +kernel
theorem dL_known_3 : decode cL_known 3 = .ok (.astore_n 0, 1) := by decide +kernel
theorem dL_known_4 : decode cL_known 4 = .ok (.aload_n 0, 1) := by decide +kernel
theorem dL_known_5 : decode cL_known 5 = .ok (.iconst 2, 1) := by decide +kernel
theorem dL_known_6 : decode cL_known 6 = .ok (.invokevirtual 13, 3) := by decide +kernel
theorem dL_known_9 : decode cL_known 9 = .ok (.bipush 12, 2) := by decide +kernel
theorem dL_known_11 : decode cL_known 11 = .ok (.if_icmp .ne 122, 3) := by decide +kernel
theorem dL_known_14 : decode cL_known 14 = .ok (.aload_n 0, 1) := by decide +kernel
theorem dL_known_15 : decode cL_known 15 = .ok (.iconst 3, 1) := by decide +kernel
theorem dL_known_16 : decode cL_known 16 = .ok (.invokevirtual 13, 3) := by decide +kernel
theorem dL_known_19 : decode cL_known 19 = .ok (.bipush 12, 2) := by decide +kernel
theorem dL_known_21 : decode cL_known 21 = .ok (.if_icmp .ne 112, 3) := by decide +kernel
theorem dL_known_24 : decode cL_known 24 = .ok (.aload_n 0, 1) := by decide +kernel
theorem dL_known_25 : decode cL_known 25 = .ok (.iconst 4, 1) := by decide +kernel
theorem dL_known_26 : decode cL_known 26 = .ok (.invokevirtual 13, 3) := by decide +kernel
theorem dL_known_29 : decode cL_known 29 = .ok (.iconst 3, 1) := by decide +kernel
theorem dL_known_30 : decode cL_known 30 = .ok (.if_icmp .ne 103, 3) := by decide +kernel
theorem dL_known_33 : decode cL_known 33 = .ok (.aload_n 0, 1) := by decide +kernel
theorem dL_known_34 : decode cL_known 34 = .ok (.bipush 13, 2) := by decide +kernel
theorem dL_known_36 : decode cL_known 36 = .ok (.invokevirtual 13, 3) := by decide +kernel
theorem dL_known_39 : decode cL_known 39 = .ok (.iconst 1, 1) := by decide +kernel
theorem dL_known_40 : decode cL_known 40 = .ok (.if_icmp .ne 93, 3) := by decide +kernel
theorem dL_known_43 : decode cL_known 43 = .ok (.aload_n 0, 1) := by decide +kernel
theorem dL_known_44 : decode cL_known 44 = .ok (.iconst 2, 1) := by decide +kernel
theorem dL_known_45 : decode cL_known 45 = .ok (.iconst 2, 1) := by decide +kernel
theorem dL_known_46 : decode cL_known 46 = .ok (.invokevirtual 25, 3) := by decide +kernel
theorem dL_known_49 : decode cL_known 49 = .ok (.iconst 1, 1) := by decide +kernel
theorem dL_known_50 : decode cL_known 50 = .ok (.if_icmp .ne 83, 3) := by decide +kernel
theorem dL_known_53 : decode cL_known 53 = .ok (.aload_n 0, 1) := by decide +kernel
theorem dL_known_54 : decode cL_known 54 = .ok (.iconst 2, 1) := by decide +kernel
theorem dL_known_55 : decode cL_known 55 = .ok (.iconst 3, 1) := by decide +kernel
theorem dL_known_56 : decode cL_known 56 = .ok (.invokevirtual 25, 3) := by decide +kernel
theorem dL_known_59 : decode cL_known 59 = .ok (.iconst 1, 1) := by decide +kernel
theorem dL_known_60 : decode cL_known 60 = .ok (.if_icmp .ne 73, 3) := by decide +kernel
theorem dL_known_63 : decode cL_known 63 = .ok (.aload_n 0, 1) := by decide +kernel
theorem dL_known_64 : decode cL_known 64 = .ok (.iconst 2, 1) := by decide +kernel
theorem dL_known_65 : decode cL_known 65 = .ok (.bipush 8, 2) := by decide +kernel
theorem dL_known_67 : decode cL_known 67 = .ok (.invokevirtual 25, 3) := by decide +kernel
theorem dL_known_70 : decode cL_known 70 = .ok (.iconst 3, 1) := by decide +kernel
theorem dL_known_71 : decode cL_known 71 = .ok (.if_icmp .ne 62, 3) := by decide +kernel
theorem dL_known_74 : decode cL_known 74 = .ok (.aload_n 0, 1) := by decide +kernel
theorem dL_known_75 : decode cL_known 75 = .ok (.iconst 1, 1) := by decide +kernel
theorem dL_known_76 : decode cL_known 76 = .ok (.bipush 9, 2) := by decide +kernel
theorem dL_known_78 : decode cL_known 78 = .ok (.invokevirtual 25, 3) := by decide +kernel
theorem dL_known_81 : decode cL_known 81 = .ok (.iconst 2, 1) := by decide +kernel
theorem dL_known_82 : decode cL_known 82 = .ok (.if_icmp .ne 51, 3) := by decide +kernel
theorem dL_known_85 : decode cL_known 85 = .ok (.aload_n 0, 1) := by decide +kernel
theorem dL_known_86 : decode cL_known 86 = .ok (.iconst 0, 1) := by decide +kernel
theorem dL_known_87 : decode cL_known 87 = .ok (.iconst 1, 1) := by decide +kernel
theorem dL_known_88 : decode cL_known 88 = .ok (.invokevirtual 25, 3) := by decide +kernel
theorem dL_known_91 : decode cL_known 91 = .ok (.iconst 2, 1) := by decide +kernel
theorem dL_known_92 : decode cL_known 92 = .ok (.if_icmp .ne 41, 3) := by decide +kernel
theorem dL_known_95 : decode cL_known 95 = .ok (.aload_n 0, 1) := by decide +kernel
theorem dL_known_96 : decode cL_known 96 = .ok (.iconst 1, 1) := by decide +kernel
theorem dL_known_97 : decode cL_known 97 = .ok (.iconst 1, 1) := by decide +kernel
theorem dL_known_98 : decode cL_known 98 = .ok (.invokevirtual 25, 3) := by decide +kernel
theorem dL_known_101 : decode cL_known 101 = .ok (.ifCond .ne 32, 3) := by decide +kernel
theorem dL_known_104 : decode cL_known 104 = .ok (.aload_n 0, 1) := by decide +kernel
theorem dL_known_105 : decode cL_known 105 = .ok (.iconst 0, 1) := by decide +kernel
theorem dL_known_106 : decode cL_known 106 = .ok (.iconst 4, 1) := by decide +kernel
theorem dL_known_107 : decode cL_known 107 = .ok (.invokevirtual 29, 3) := by decide +kernel
theorem dL_known_110 : decode cL_known 110 = .ok (.iconst 2, 1) := by decide +kernel
theorem dL_known_111 : decode cL_known 111 = .ok (.if_icmp .ne 22, 3) := by decide +kernel
theorem dL_known_114 : decode cL_known 114 = .ok (.aload_n 0, 1) := by decide +kernel
theorem dL_known_115 : decode cL_known 115 = .ok (.iconst 1, 1) := by decide +kernel
theorem dL_known_116 : decode cL_known 116 = .ok (.iconst 4, 1) := by decide +kernel
theorem dL_known_117 : decode cL_known 117 = .ok (.invokevirtual 29, 3) := by decide +kernel
theorem dL_known_120 : decode cL_known 120 = .ok (.iconst 1, 1) := by decide +kernel
theorem dL_known_121 : decode cL_known 121 = .ok (.if_icmp .ne 12, 3) := by decide +kernel
theorem dL_known_124 : decode cL_known 124 = .ok (.aload_n 0, 1) := by decide +kernel
theorem dL_known_125 : decode cL_known 125 = .ok (.iconst 1, 1) := by decide +kernel
theorem dL_known_126 : decode cL_known 126 = .ok (.iconst 5, 1) := by decide +kernel
theorem dL_known_127 : decode cL_known 127 = .ok (.invokevirtual 29, 3) := by decide +kernel
theorem dL_known_130 : decode cL_known 130 = .ok (.ifCond .eq 5, 3) := by decide +kernel
theorem dL_known_133 : decode cL_known 133 = .ok (.iconst 0, 1) := by decide +kernel
theorem dL_known_134 : decode cL_known 134 = .ok (.ireturn, 1) := by decide +kernel
theorem dL_known_135 : decode cL_known 135 = .ok (.aload_n 0, 1) := by decide +kernel
theorem dL_known_136 : decode cL_known 136 = .ok (.iconst 2, 1) := by decide +kernel
theorem dL_known_137 : decode cL_known 137 = .ok (.iconst 0, 1) := by decide +kernel
theorem dL_known_138 : decode cL_known 138 = .ok (.invokevirtual 35, 3) := by decide +kernel
theorem dL_known_141 : decode cL_known 141 = .ok (.iconst 2, 1) := by decide +kernel
theorem dL_known_142 : decode cL_known 142 = .ok (.if_icmp .ne 146, 3) := by decide +kernel
theorem dL_known_145 : decode cL_known 145 = .ok (.aload_n 0, 1) := by decide +kernel
theorem dL_known_146 : decode cL_known 146 = .ok (.iconst 2, 1) := by decide +kernel
theorem dL_known_147 : decode cL_known 147 = .ok (.iconst 1, 1) := by decide +kernel
theorem dL_known_148 : decode cL_known 148 = .ok (.invokevirtual 35, 3) := by decide +kernel
theorem dL_known_151 : decode cL_known 151 = .ok (.sipush 201, 3) := by decide +kernel
theorem dL_known_154 : decode cL_known 154 = .ok (.if_icmp .ne 134, 3) := by decide +kernel
theorem dL_known_157 : decode cL_known 157 = .ok (.aload_n 0, 1) := by decide +kernel
theorem dL_known_158 : decode cL_known 158 = .ok (.iconst 2, 1) := by decide +kernel
theorem dL_known_159 : decode cL_known 159 = .ok (.iconst 2, 1) := by decide +kernel
theorem dL_known_160 : decode cL_known 160 = .ok (.invokevirtual 35, 3) := by decide +kernel
theorem dL_known_163 : decode cL_known 163 = .ok (.sipush 602, 3) := by decide +kernel
theorem dL_known_166 : decode cL_known 166 = .ok (.if_icmp .ne 122, 3) := by decide +kernel
theorem dL_known_169 : decode cL_known 169 = .ok (.aload_n 0, 1) := by decide +kernel
theorem dL_known_170 : decode cL_known 170 = .ok (.iconst 2, 1) := by decide +kernel
theorem dL_known_171 : decode cL_known 171 = .ok (.iconst 3, 1) := by decide +kernel
theorem dL_known_172 : decode cL_known 172 = .ok (.invokevirtual 35, 3) := by decide +kernel
theorem dL_known_175 : decode cL_known 175 = .ok (.bipush (-4), 2) := by decide +kernel
theorem dL_known_177 : decode cL_known 177 = .ok (.if_icmp .ne 111, 3) := by decide +kernel
theorem dL_known_180 : decode cL_known 180 = .ok (.aload_n 0, 1) := by decide +kernel
theorem dL_known_181 : decode cL_known 181 = .ok (.iconst 2, 1) := by decide +kernel
theorem dL_known_182 : decode cL_known 182 = .ok (.invokevirtual 38, 3) := by decide +kernel
theorem dL_known_185 : decode cL_known 185 = .ok (.iconst 3, 1) := by decide +kernel
theorem dL_known_186 : decode cL_known 186 = .ok (.if_icmp .ne 102, 3) := by decide +kernel
theorem dL_known_189 : decode cL_known 189 = .ok (.aload_n 0, 1) := by decide +kernel
theorem dL_known_190 : decode cL_known 190 = .ok (.iconst 0, 1) := by decide +kernel
theorem dL_known_191 : decode cL_known 191 = .ok (.iconst 1, 1) := by decide +kernel
theorem dL_known_192 : decode cL_known 192 = .ok (.invokevirtual 35, 3) := by decide +kernel
theorem dL_known_195 : decode cL_known 195 = .ok (.sipush 400, 3) := by decide +kernel
theorem dL_known_198 : decode cL_known 198 = .ok (.if_icmp .ne 90, 3) := by decide +kernel
theorem dL_known_201 : decode cL_known 201 = .ok (.aload_n 0, 1) := by decide +kernel
theorem dL_known_202 : decode cL_known 202 = .ok (.iconst 0, 1) := by decide +kernel
theorem dL_known_203 : decode cL_known 203 = .ok (.iconst 2, 1) := by decide +kernel
theorem dL_known_204 : decode cL_known 204 = .ok (.invokevirtual 35, 3) := by decide +kernel
theorem dL_known_207 : decode cL_known 207 = .ok (.sipush 200, 3) := by decide +kernel
theorem dL_known_210 : decode cL_known 210 = .ok (.if_icmp .ne 78, 3) := by decide +kernel
theorem dL_known_213 : decode cL_known 213 = .ok (.aload_n 0, 1) := by decide +kernel
theorem dL_known_214 : decode cL_known 214 = .ok (.iconst 0, 1) := by decide +kernel
theorem dL_known_215 : decode cL_known 215 = .ok (.iconst 3, 1) := by decide +kernel
theorem dL_known_216 : decode cL_known 216 = .ok (.invokevirtual 35, 3) := by decide +kernel
theorem dL_known_219 : decode cL_known 219 = .ok (.sipush 600, 3) := by decide +kernel
theorem dL_known_222 : decode cL_known 222 = .ok (.if_icmp .ne 66, 3) := by decide +kernel
theorem dL_known_225 : decode cL_known 225 = .ok (.aload_n 0, 1) := by decide +kernel
theorem dL_known_226 : decode cL_known 226 = .ok (.iconst 0, 1) := by decide +kernel
theorem dL_known_227 : decode cL_known 227 = .ok (.invokevirtual 38, 3) := by decide +kernel
theorem dL_known_230 : decode cL_known 230 = .ok (.iconst 1, 1) := by decide +kernel
theorem dL_known_231 : decode cL_known 231 = .ok (.if_icmp .ne 57, 3) := by decide +kernel
theorem dL_known_234 : decode cL_known 234 = .ok (.aload_n 0, 1) := by decide +kernel
theorem dL_known_235 : decode cL_known 235 = .ok (.iconst 1, 1) := by decide +kernel
theorem dL_known_236 : decode cL_known 236 = .ok (.invokevirtual 38, 3) := by decide +kernel
theorem dL_known_239 : decode cL_known 239 = .ok (.iconst 1, 1) := by decide +kernel
theorem dL_known_240 : decode cL_known 240 = .ok (.if_icmp .ne 48, 3) := by decide +kernel
theorem dL_known_243 : decode cL_known 243 = .ok (.aload_n 0, 1) := by decide +kernel
theorem dL_known_244 : decode cL_known 244 = .ok (.iconst 2, 1) := by decide +kernel
theorem dL_known_245 : decode cL_known 245 = .ok (.iconst 1, 1) := by decide +kernel
theorem dL_known_246 : decode cL_known 246 = .ok (.invokevirtual 54, 3) := by decide +kernel
theorem dL_known_249 : decode cL_known 249 = .ok (.bipush 32, 2) := by decide +kernel
theorem dL_known_251 : decode cL_known 251 = .ok (.if_icmp .ne 37, 3) := by decide +kernel
theorem dL_known_254 : decode cL_known 254 = .ok (.aload_n 0, 1) := by decide +kernel
theorem dL_known_255 : decode cL_known 255 = .ok (.iconst 4, 1) := by decide +kernel
theorem dL_known_256 : decode cL_known 256 = .ok (.iconst 0, 1) := by decide +kernel
theorem dL_known_257 : decode cL_known 257 = .ok (.invokevirtual 54, 3) := by decide +kernel
theorem dL_known_260 : decode cL_known 260 = .ok (.bipush 52, 2) := by decide +kernel
theorem dL_known_262 : decode cL_known 262 = .ok (.if_icmp .ne 26, 3) := by decide +kernel
theorem dL_known_265 : decode cL_known 265 = .ok (.aload_n 0, 1) := by decide +kernel
theorem dL_known_266 : decode cL_known 266 = .ok (.bipush 6, 2) := by decide +kernel
theorem dL_known_268 : decode cL_known 268 = .ok (.iconst 2, 1) := by decide +kernel
theorem dL_known_269 : decode cL_known 269 = .ok (.invokevirtual 54, 3) := by decide +kernel
theorem dL_known_272 : decode cL_known 272 = .ok (.bipush 72, 2) := by decide +kernel
theorem dL_known_274 : decode cL_known 274 = .ok (.if_icmp .ne 14, 3) := by decide +kernel
theorem dL_known_277 : decode cL_known 277 = .ok (.aload_n 0, 1) := by decide +kernel
theorem dL_known_278 : decode cL_known 278 = .ok (.iconst 2, 1) := by decide +kernel
theorem dL_known_279 : decode cL_known 279 = .ok (.iconst 1, 1) := by decide +kernel
theorem dL_known_280 : decode cL_known 280 = .ok (.invokevirtual 57, 3) := by decide +kernel
theorem dL_known_283 : decode cL_known 283 = .ok (.bipush (-2), 2) := by decide +kernel
theorem dL_known_285 : decode cL_known 285 = .ok (.if_icmp .eq 5, 3) := by decide +kernel
theorem dL_known_288 : decode cL_known 288 = .ok (.iconst 0, 1) := by decide +kernel
theorem dL_known_289 : decode cL_known 289 = .ok (.ireturn, 1) := by decide +kernel
theorem dL_known_290 : decode cL_known 290 = .ok (.aload_n 0, 1) := by decide +kernel
theorem dL_known_291 : decode cL_known 291 = .ok (.iconst 0, 1) := by decide +kernel
theorem dL_known_292 : decode cL_known 292 = .ok (.iconst 2, 1) := by decide +kernel
theorem dL_known_293 : decode cL_known 293 = .ok (.invokevirtual 57, 3) := by decide +kernel
theorem dL_known_296 : decode cL_known 296 = .ok (.iconst 3, 1) := by decide +kernel
theorem dL_known_297 : decode cL_known 297 = .ok (.if_icmp .ne 227, 3) := by decide +kernel
theorem dL_known_300 : decode cL_known 300 = .ok (.aload_n 0, 1) := by decide +kernel
theorem dL_known_301 : decode cL_known 301 = .ok (.iconst 3, 1) := by decide +kernel
theorem dL_known_302 : decode cL_known 302 = .ok (.invokevirtual 13, 3) := by decide +kernel
theorem dL_known_305 : decode cL_known 305 = .ok (.bipush 7, 2) := by decide +kernel
theorem dL_known_307 : decode cL_known 307 = .ok (.if_icmp .ne 217, 3) := by decide +kernel
theorem dL_known_310 : decode cL_known 310 = .ok (.aload_n 0, 1) := by decide +kernel
theorem dL_known_311 : decode cL_known 311 = .ok (.iconst 4, 1) := by decide +kernel
theorem dL_known_312 : decode cL_known 312 = .ok (.invokevirtual 71, 3) := by decide +kernel
theorem dL_known_315 : decode cL_known 315 = .ok (.bipush (-2), 2) := by decide +kernel
theorem dL_known_317 : decode cL_known 317 = .ok (.if_icmp .ne 207, 3) := by decide +kernel
theorem dL_known_320 : decode cL_known 320 = .ok (.aload_n 0, 1) := by decide +kernel
theorem dL_known_321 : decode cL_known 321 = .ok (.bipush 9, 2) := by decide +kernel
theorem dL_known_323 : decode cL_known 323 = .ok (.invokevirtual 71, 3) := by decide +kernel
theorem dL_known_326 : decode cL_known 326 = .ok (.iconst 4, 1) := by decide +kernel
theorem dL_known_327 : decode cL_known 327 = .ok (.if_icmp .ne 197, 3) := by decide +kernel
theorem dL_known_330 : decode cL_known 330 = .ok (.aload_n 0, 1) := by decide +kernel
theorem dL_known_331 : decode cL_known 331 = .ok (.iconst 0, 1) := by decide +kernel
theorem dL_known_332 : decode cL_known 332 = .ok (.iconst 1, 1) := by decide +kernel
theorem dL_known_333 : decode cL_known 333 = .ok (.invokevirtual 54, 3) := by decide +kernel
theorem dL_known_336 : decode cL_known 336 = .ok (.bipush 12, 2) := by decide +kernel
theorem dL_known_338 : decode cL_known 338 = .ok (.if_icmp .ne 186, 3) := by decide +kernel
theorem dL_known_341 : decode cL_known 341 = .ok (.aload_n 0, 1) := by decide +kernel
theorem dL_known_342 : decode cL_known 342 = .ok (.iconst 0, 1) := by decide +kernel
theorem dL_known_343 : decode cL_known 343 = .ok (.iconst 2, 1) := by decide +kernel
theorem dL_known_344 : decode cL_known 344 = .ok (.invokevirtual 54, 3) := by decide +kernel
theorem dL_known_347 : decode cL_known 347 = .ok (.bipush 11, 2) := by decide +kernel
theorem dL_known_349 : decode cL_known 349 = .ok (.if_icmp .ne 175, 3) := by decide +kernel
theorem dL_known_352 : decode cL_known 352 = .ok (.aload_n 0, 1) := by decide +kernel
theorem dL_known_353 : decode cL_known 353 = .ok (.iconst 2, 1) := by decide +kernel
theorem dL_known_354 : decode cL_known 354 = .ok (.iconst 1, 1) := by decide +kernel
theorem dL_known_355 : decode cL_known 355 = .ok (.invokevirtual 57, 3) := by decide +kernel
theorem dL_known_358 : decode cL_known 358 = .ok (.iconst 2, 1) := by decide +kernel
theorem dL_known_359 : decode cL_known 359 = .ok (.if_icmp .ne 165, 3) := by decide +kernel
theorem dL_known_362 : decode cL_known 362 = .ok (.aload_n 0, 1) := by decide +kernel
theorem dL_known_363 : decode cL_known 363 = .ok (.iconst 2, 1) := by decide +kernel
theorem dL_known_364 : decode cL_known 364 = .ok (.iconst 2, 1) := by decide +kernel
theorem dL_known_365 : decode cL_known 365 = .ok (.invokevirtual 25, 3) := by decide +kernel
theorem dL_known_368 : decode cL_known 368 = .ok (.ifCond .ne 156, 3) := by decide +kernel
theorem dL_known_371 : decode cL_known 371 = .ok (.aload_n 0, 1) := by decide +kernel
theorem dL_known_372 : decode cL_known 372 = .ok (.iconst 2, 1) := by decide +kernel
theorem dL_known_373 : decode cL_known 373 = .ok (.iconst 3, 1) := by decide +kernel
theorem dL_known_374 : decode cL_known 374 = .ok (.invokevirtual 25, 3) := by decide +kernel
theorem dL_known_377 : decode cL_known 377 = .ok (.ifCond .ne 147, 3) := by decide +kernel
theorem dL_known_380 : decode cL_known 380 = .ok (.aload_n 0, 1) := by decide +kernel
theorem dL_known_381 : decode cL_known 381 = .ok (.iconst 1, 1) := by decide +kernel
theorem dL_known_382 : decode cL_known 382 = .ok (.iconst 3, 1) := by decide +kernel
theorem dL_known_383 : decode cL_known 383 = .ok (.invokevirtual 29, 3) := by decide +kernel
theorem dL_known_386 : decode cL_known 386 = .ok (.ifCond .ne 138, 3) := by decide +kernel
theorem dL_known_389 : decode cL_known 389 = .ok (.aload_n 0, 1) := by decide +kernel
theorem dL_known_390 : decode cL_known 390 = .ok (.iconst 1, 1) := by decide +kernel
theorem dL_known_391 : decode cL_known 391 = .ok (.iconst 5, 1) := by decide +kernel
theorem dL_known_392 : decode cL_known 392 = .ok (.invokevirtual 29, 3) := by decide +kernel
theorem dL_known_395 : decode cL_known 395 = .ok (.iconst 1, 1) := by decide +kernel
theorem dL_known_396 : decode cL_known 396 = .ok (.if_icmp .ne 128, 3) := by decide +kernel
theorem dL_known_399 : decode cL_known 399 = .ok (.aload_n 0, 1) := by decide +kernel
theorem dL_known_400 : decode cL_known 400 = .ok (.iconst 1, 1) := by decide +kernel
theorem dL_known_401 : decode cL_known 401 = .ok (.iconst 2, 1) := by decide +kernel
theorem dL_known_402 : decode cL_known 402 = .ok (.invokevirtual 54, 3) := by decide +kernel
theorem dL_known_405 : decode cL_known 405 = .ok (.bipush 22, 2) := by decide +kernel
theorem dL_known_407 : decode cL_known 407 = .ok (.if_icmp .ne 117, 3) := by decide +kernel
theorem dL_known_410 : decode cL_known 410 = .ok (.aload_n 0, 1) := by decide +kernel
theorem dL_known_411 : decode cL_known 411 = .ok (.bipush 6, 2) := by decide +kernel
theorem dL_known_413 : decode cL_known 413 = .ok (.iconst 2, 1) := by decide +kernel
theorem dL_known_414 : decode cL_known 414 = .ok (.invokevirtual 54, 3) := by decide +kernel
theorem dL_known_417 : decode cL_known 417 = .ok (.ifCond .ne 107, 3) := by decide +kernel
theorem dL_known_420 : decode cL_known 420 = .ok (.aload_n 0, 1) := by decide +kernel
theorem dL_known_421 : decode cL_known 421 = .ok (.iconst 2, 1) := by decide +kernel
theorem dL_known_422 : decode cL_known 422 = .ok (.iconst 3, 1) := by decide +kernel
theorem dL_known_423 : decode cL_known 423 = .ok (.bipush 100, 2) := by decide +kernel
theorem dL_known_425 : decode cL_known 425 = .ok (.invokevirtual 41, 3) := by decide +kernel
theorem dL_known_428 : decode cL_known 428 = .ok (.bipush (-2), 2) := by decide +kernel
theorem dL_known_430 : decode cL_known 430 = .ok (.if_icmp .ne 94, 3) := by decide +kernel
theorem dL_known_433 : decode cL_known 433 = .ok (.aload_n 0, 1) := by decide +kernel
theorem dL_known_434 : decode cL_known 434 = .ok (.bipush 6, 2) := by decide +kernel
theorem dL_known_436 : decode cL_known 436 = .ok (.iconst 2, 1) := by decide +kernel
theorem dL_known_437 : decode cL_known 437 = .ok (.invokevirtual 57, 3) := by decide +kernel
theorem dL_known_440 : decode cL_known 440 = .ok (.iconst 2, 1) := by decide +kernel
theorem dL_known_441 : decode cL_known 441 = .ok (.if_icmp .ne 83, 3) := by decide +kernel
theorem dL_known_444 : decode cL_known 444 = .ok (.aload_n 0, 1) := by decide +kernel
theorem dL_known_445 : decode cL_known 445 = .ok (.iconst 3, 1) := by decide +kernel
theorem dL_known_446 : decode cL_known 446 = .ok (.iconst 1, 1) := by decide +kernel
theorem dL_known_447 : decode cL_known 447 = .ok (.invokevirtual 54, 3) := by decide +kernel
theorem dL_known_450 : decode cL_known 450 = .ok (.bipush 42, 2) := by decide +kernel
theorem dL_known_452 : decode cL_known 452 = .ok (.if_icmp .ne 72, 3) := by decide +kernel
theorem dL_known_455 : decode cL_known 455 = .ok (.aload_n 0, 1) := by decide +kernel
theorem dL_known_456 : decode cL_known 456 = .ok (.iconst 0, 1) := by decide +kernel
theorem dL_known_457 : decode cL_known 457 = .ok (.iconst 2, 1) := by decide +kernel
theorem dL_known_458 : decode cL_known 458 = .ok (.invokevirtual 51, 3) := by decide +kernel
theorem dL_known_461 : decode cL_known 461 = .ok (.bipush (-2), 2) := by decide +kernel
theorem dL_known_463 : decode cL_known 463 = .ok (.if_icmp .ne 61, 3) := by decide +kernel
theorem dL_known_466 : decode cL_known 466 = .ok (.aload_n 0, 1) := by decide +kernel
theorem dL_known_467 : decode cL_known 467 = .ok (.iconst 2, 1) := by decide +kernel
theorem dL_known_468 : decode cL_known 468 = .ok (.iconst 3, 1) := by decide +kernel
theorem dL_known_469 : decode cL_known 469 = .ok (.bipush 100, 2) := by decide +kernel
theorem dL_known_471 : decode cL_known 471 = .ok (.invokevirtual 41, 3) := by decide +kernel
theorem dL_known_474 : decode cL_known 474 = .ok (.iconst 1, 1) := by decide +kernel
theorem dL_known_475 : decode cL_known 475 = .ok (.if_icmp .ne 49, 3) := by decide +kernel
theorem dL_known_478 : decode cL_known 478 = .ok (.aload_n 0, 1) := by decide +kernel
theorem dL_known_479 : decode cL_known 479 = .ok (.iconst 2, 1) := by decide +kernel
theorem dL_known_480 : decode cL_known 480 = .ok (.iconst 3, 1) := by decide +kernel
theorem dL_known_481 : decode cL_known 481 = .ok (.bipush 100, 2) := by decide +kernel
theorem dL_known_483 : decode cL_known 483 = .ok (.invokevirtual 41, 3) := by decide +kernel
theorem dL_known_486 : decode cL_known 486 = .ok (.bipush (-2), 2) := by decide +kernel
theorem dL_known_488 : decode cL_known 488 = .ok (.if_icmp .ne 36, 3) := by decide +kernel
theorem dL_known_491 : decode cL_known 491 = .ok (.aload_n 0, 1) := by decide +kernel
theorem dL_known_492 : decode cL_known 492 = .ok (.iconst 2, 1) := by decide +kernel
theorem dL_known_493 : decode cL_known 493 = .ok (.bipush 10, 2) := by decide +kernel
theorem dL_known_495 : decode cL_known 495 = .ok (.invokevirtual 25, 3) := by decide +kernel
theorem dL_known_498 : decode cL_known 498 = .ok (.bipush 100, 2) := by decide +kernel
theorem dL_known_500 : decode cL_known 500 = .ok (.if_icmp .ne 24, 3) := by decide +kernel
theorem dL_known_503 : decode cL_known 503 = .ok (.aload_n 0, 1) := by decide +kernel
theorem dL_known_504 : decode cL_known 504 = .ok (.bipush 7, 2) := by decide +kernel
theorem dL_known_506 : decode cL_known 506 = .ok (.iconst 2, 1) := by decide +kernel
theorem dL_known_507 : decode cL_known 507 = .ok (.invokevirtual 54, 3) := by decide +kernel
theorem dL_known_510 : decode cL_known 510 = .ok (.bipush 82, 2) := by decide +kernel
theorem dL_known_512 : decode cL_known 512 = .ok (.if_icmp .ne 12, 3) := by decide +kernel
theorem dL_known_515 : decode cL_known 515 = .ok (.aload_n 0, 1) := by decide +kernel
theorem dL_known_516 : decode cL_known 516 = .ok (.bipush 12, 2) := by decide +kernel
theorem dL_known_518 : decode cL_known 518 = .ok (.invokevirtual 13, 3) := by decide +kernel
theorem dL_known_521 : decode cL_known 521 = .ok (.ifCond .eq 5, 3) := by decide +kernel
theorem dL_known_524 : decode cL_known 524 = .ok (.iconst 0, 1) := by decide +kernel
theorem dL_known_525 : decode cL_known 525 = .ok (.ireturn, 1) := by decide +kernel
theorem dL_known_526 : decode cL_known 526 = .ok (.aload_n 0, 1) := by decide +kernel
theorem dL_known_527 : decode cL_known 527 = .ok (.sipush 130, 3) := by decide +kernel
theorem dL_known_530 : decode cL_known 530 = .ok (.invokevirtual 74, 3) := by decide +kernel
theorem dL_known_533 : decode cL_known 533 = .ok (.sipush 130, 3) := by decide +kernel
theorem dL_known_536 : decode cL_known 536 = .ok (.if_icmp .ne 226, 3) := by decide +kernel
theorem dL_known_539 : decode cL_known 539 = .ok (.aload_n 0, 1) := by decide +kernel
theorem dL_known_540 : decode cL_known 540 = .ok (.bipush 12, 2) := by decide +kernel
theorem dL_known_542 : decode cL_known 542 = .ok (.invokevirtual 13, 3) := by decide +kernel
theorem dL_known_545 : decode cL_known 545 = .ok (.iconst 1, 1) := by decide +kernel
theorem dL_known_546 : decode cL_known 546 = .ok (.if_icmp .ne 216, 3) := by decide +kernel
theorem dL_known_549 : decode cL_known 549 = .ok (.aload_n 0, 1) := by decide +kernel
theorem dL_known_550 : decode cL_known 550 = .ok (.iconst 2, 1) := by decide +kernel
theorem dL_known_551 : decode cL_known 551 = .ok (.iconst 4, 1) := by decide +kernel
theorem dL_known_552 : decode cL_known 552 = .ok (.invokevirtual 45, 3) := by decide +kernel
theorem dL_known_555 : decode cL_known 555 = .ok (.bipush (-2), 2) := by decide +kernel
theorem dL_known_557 : decode cL_known 557 = .ok (.if_icmp .ne 205, 3) := by decide +kernel
theorem dL_known_560 : decode cL_known 560 = .ok (.aload_n 0, 1) := by decide +kernel
theorem dL_known_561 : decode cL_known 561 = .ok (.iconst 2, 1) := by decide +kernel
theorem dL_known_562 : decode cL_known 562 = .ok (.iconst 1, 1) := by decide +kernel
theorem dL_known_563 : decode cL_known 563 = .ok (.invokevirtual 45, 3) := by decide +kernel
theorem dL_known_566 : decode cL_known 566 = .ok (.bipush 30, 2) := by decide +kernel
theorem dL_known_568 : decode cL_known 568 = .ok (.if_icmp .ne 194, 3) := by decide +kernel
theorem dL_known_571 : decode cL_known 571 = .ok (.aload_n 0, 1) := by decide +kernel
theorem dL_known_572 : decode cL_known 572 = .ok (.bipush 11, 2) := by decide +kernel
theorem dL_known_574 : decode cL_known 574 = .ok (.invokevirtual 13, 3) := by decide +kernel
theorem dL_known_577 : decode cL_known 577 = .ok (.bipush 30, 2) := by decide +kernel
theorem dL_known_579 : decode cL_known 579 = .ok (.if_icmp .ne 183, 3) := by decide +kernel
theorem dL_known_582 : decode cL_known 582 = .ok (.aload_n 0, 1) := by decide +kernel
theorem dL_known_583 : decode cL_known 583 = .ok (.bipush 12, 2) := by decide +kernel
theorem dL_known_585 : decode cL_known 585 = .ok (.invokevirtual 13, 3) := by decide +kernel
theorem dL_known_588 : decode cL_known 588 = .ok (.ifCond .ne 174, 3) := by decide +kernel
theorem dL_known_591 : decode cL_known 591 = .ok (.aload_n 0, 1) := by decide +kernel
theorem dL_known_592 : decode cL_known 592 = .ok (.iconst 2, 1) := by decide +kernel
theorem dL_known_593 : decode cL_known 593 = .ok (.bipush 7, 2) := by decide +kernel
theorem dL_known_595 : decode cL_known 595 = .ok (.invokevirtual 25, 3) := by decide +kernel
theorem dL_known_598 : decode cL_known 598 = .ok (.iconst 2, 1) := by decide +kernel
theorem dL_known_599 : decode cL_known 599 = .ok (.if_icmp .ne 163, 3) := by decide +kernel
theorem dL_known_602 : decode cL_known 602 = .ok (.aload_n 0, 1) := by decide +kernel
theorem dL_known_603 : decode cL_known 603 = .ok (.iconst 2, 1) := by decide +kernel
theorem dL_known_604 : decode cL_known 604 = .ok (.bipush 10, 2) := by decide +kernel
theorem dL_known_606 : decode cL_known 606 = .ok (.invokevirtual 25, 3) := by decide +kernel
theorem dL_known_609 : decode cL_known 609 = .ok (.bipush (-4), 2) := by decide +kernel
theorem dL_known_611 : decode cL_known 611 = .ok (.if_icmp .ne 151, 3) := by decide +kernel
theorem dL_known_614 : decode cL_known 614 = .ok (.aload_n 0, 1) := by decide +kernel
theorem dL_known_615 : decode cL_known 615 = .ok (.bipush 7, 2) := by decide +kernel
theorem dL_known_617 : decode cL_known 617 = .ok (.iconst 2, 1) := by decide +kernel
theorem dL_known_618 : decode cL_known 618 = .ok (.invokevirtual 57, 3) := by decide +kernel
theorem dL_known_621 : decode cL_known 621 = .ok (.iconst 2, 1) := by decide +kernel
theorem dL_known_622 : decode cL_known 622 = .ok (.if_icmp .ne 140, 3) := by decide +kernel
theorem dL_known_625 : decode cL_known 625 = .ok (.aload_n 0, 1) := by decide +kernel
theorem dL_known_626 : decode cL_known 626 = .ok (.iconst 3, 1) := by decide +kernel
theorem dL_known_627 : decode cL_known 627 = .ok (.iconst 1, 1) := by decide +kernel
theorem dL_known_628 : decode cL_known 628 = .ok (.invokevirtual 54, 3) := by decide +kernel
theorem dL_known_631 : decode cL_known 631 = .ok (.bipush 43, 2) := by decide +kernel
theorem dL_known_633 : decode cL_known 633 = .ok (.if_icmp .ne 129, 3) := by decide +kernel
theorem dL_known_636 : decode cL_known 636 = .ok (.aload_n 0, 1) := by decide +kernel
theorem dL_known_637 : decode cL_known 637 = .ok (.iconst 1, 1) := by decide +kernel
theorem dL_known_638 : decode cL_known 638 = .ok (.iconst 2, 1) := by decide +kernel
theorem dL_known_639 : decode cL_known 639 = .ok (.invokevirtual 51, 3) := by decide +kernel
theorem dL_known_642 : decode cL_known 642 = .ok (.bipush (-2), 2) := by decide +kernel
theorem dL_known_644 : decode cL_known 644 = .ok (.if_icmp .ne 118, 3) := by decide +kernel
theorem dL_known_647 : decode cL_known 647 = .ok (.aload_n 0, 1) := by decide +kernel
theorem dL_known_648 : decode cL_known 648 = .ok (.bipush 7, 2) := by decide +kernel
theorem dL_known_650 : decode cL_known 650 = .ok (.iconst 2, 1) := by decide +kernel
theorem dL_known_651 : decode cL_known 651 = .ok (.invokevirtual 54, 3) := by decide +kernel
theorem dL_known_654 : decode cL_known 654 = .ok (.bipush 81, 2) := by decide +kernel
theorem dL_known_656 : decode cL_known 656 = .ok (.if_icmp .ne 106, 3) := by decide +kernel
theorem dL_known_659 : decode cL_known 659 = .ok (.aload_n 0, 1) := by decide +kernel
theorem dL_known_660 : decode cL_known 660 = .ok (.iconst 2, 1) := by decide +kernel
theorem dL_known_661 : decode cL_known 661 = .ok (.invokevirtual 48, 3) := by decide +kernel
theorem dL_known_664 : decode cL_known 664 = .ok (.iconst 2, 1) := by decide +kernel
theorem dL_known_665 : decode cL_known 665 = .ok (.if_icmp .ne 97, 3) := by decide +kernel
theorem dL_known_668 : decode cL_known 668 = .ok (.aload_n 0, 1) := by decide +kernel
theorem dL_known_669 : decode cL_known 669 = .ok (.iconst 2, 1) := by decide +kernel
theorem dL_known_670 : decode cL_known 670 = .ok (.invokevirtual 48, 3) := by decide +kernel
theorem dL_known_673 : decode cL_known 673 = .ok (.bipush (-2), 2) := by decide +kernel
theorem dL_known_675 : decode cL_known 675 = .ok (.if_icmp .ne 87, 3) := by decide +kernel
theorem dL_known_678 : decode cL_known 678 = .ok (.aload_n 0, 1) := by decide +kernel
theorem dL_known_679 : decode cL_known 679 = .ok (.iconst 3, 1) := by decide +kernel
theorem dL_known_680 : decode cL_known 680 = .ok (.iconst 1, 1) := by decide +kernel
theorem dL_known_681 : decode cL_known 681 = .ok (.invokevirtual 57, 3) := by decide +kernel
theorem dL_known_684 : decode cL_known 684 = .ok (.iconst 3, 1) := by decide +kernel
theorem dL_known_685 : decode cL_known 685 = .ok (.if_icmp .ne 77, 3) := by decide +kernel
theorem dL_known_688 : decode cL_known 688 = .ok (.aload_n 0, 1) := by decide +kernel
theorem dL_known_689 : decode cL_known 689 = .ok (.iconst 3, 1) := by decide +kernel
theorem dL_known_690 : decode cL_known 690 = .ok (.iconst 1, 1) := by decide +kernel
theorem dL_known_691 : decode cL_known 691 = .ok (.invokevirtual 54, 3) := by decide +kernel
theorem dL_known_694 : decode cL_known 694 = .ok (.bipush 41, 2) := by decide +kernel
theorem dL_known_696 : decode cL_known 696 = .ok (.if_icmp .ne 66, 3) := by decide +kernel
theorem dL_known_699 : decode cL_known 699 = .ok (.aload_n 0, 1) := by decide +kernel
theorem dL_known_700 : decode cL_known 700 = .ok (.iconst 1, 1) := by decide +kernel
theorem dL_known_701 : decode cL_known 701 = .ok (.iconst 2, 1) := by decide +kernel
theorem dL_known_702 : decode cL_known 702 = .ok (.invokevirtual 57, 3) := by decide +kernel
theorem dL_known_705 : decode cL_known 705 = .ok (.iconst 3, 1) := by decide +kernel
theorem dL_known_706 : decode cL_known 706 = .ok (.if_icmp .ne 56, 3) := by decide +kernel
theorem dL_known_709 : decode cL_known 709 = .ok (.aload_n 0, 1) := by decide +kernel
theorem dL_known_710 : decode cL_known 710 = .ok (.iconst 1, 1) := by decide +kernel
theorem dL_known_711 : decode cL_known 711 = .ok (.iconst 2, 1) := by decide +kernel
theorem dL_known_712 : decode cL_known 712 = .ok (.invokevirtual 54, 3) := by decide +kernel
theorem dL_known_715 : decode cL_known 715 = .ok (.bipush 21, 2) := by decide +kernel
theorem dL_known_717 : decode cL_known 717 = .ok (.if_icmp .ne 45, 3) := by decide +kernel
theorem dL_known_720 : decode cL_known 720 = .ok (.aload_n 0, 1) := by decide +kernel
theorem dL_known_721 : decode cL_known 721 = .ok (.iconst 3, 1) := by decide +kernel
theorem dL_known_722 : decode cL_known 722 = .ok (.invokevirtual 13, 3) := by decide +kernel
theorem dL_known_725 : decode cL_known 725 = .ok (.bipush 9, 2) := by decide +kernel
theorem dL_known_727 : decode cL_known 727 = .ok (.if_icmp .ne 35, 3) := by decide +kernel
theorem dL_known_730 : decode cL_known 730 = .ok (.aload_n 0, 1) := by decide +kernel
theorem dL_known_731 : decode cL_known 731 = .ok (.iconst 0, 1) := by decide +kernel
theorem dL_known_732 : decode cL_known 732 = .ok (.iconst 2, 1) := by decide +kernel
theorem dL_known_733 : decode cL_known 733 = .ok (.invokevirtual 32, 3) := by decide +kernel
theorem dL_known_736 : decode cL_known 736 = .ok (.sipush 130, 3) := by decide +kernel
theorem dL_known_739 : decode cL_known 739 = .ok (.if_icmp .ne 23, 3) := by decide +kernel
theorem dL_known_742 : decode cL_known 742 = .ok (.aload_n 0, 1) := by decide +kernel
theorem dL_known_743 : decode cL_known 743 = .ok (.iconst 5, 1) := by decide +kernel
theorem dL_known_744 : decode cL_known 744 = .ok (.iconst 2, 1) := by decide +kernel
theorem dL_known_745 : decode cL_known 745 = .ok (.invokevirtual 32, 3) := by decide +kernel
theorem dL_known_748 : decode cL_known 748 = .ok (.ifCond .ne 14, 3) := by decide +kernel
theorem dL_known_751 : decode cL_known 751 = .ok (.aload_n 0, 1) := by decide +kernel
theorem dL_known_752 : decode cL_known 752 = .ok (.bipush 9, 2) := by decide +kernel
theorem dL_known_754 : decode cL_known 754 = .ok (.invokevirtual 13, 3) := by decide +kernel
theorem dL_known_757 : decode cL_known 757 = .ok (.bipush 6, 2) := by decide +kernel
theorem dL_known_759 : decode cL_known 759 = .ok (.if_icmp .eq 5, 3) := by decide +kernel
theorem dL_known_762 : decode cL_known 762 = .ok (.iconst 0, 1) := by decide +kernel
theorem dL_known_763 : decode cL_known 763 = .ok (.ireturn, 1) := by decide +kernel
theorem dL_known_764 : decode cL_known 764 = .ok (.aload_n 0, 1) := by decide +kernel
theorem dL_known_765 : decode cL_known 765 = .ok (.iconst 0, 1) := by decide +kernel
theorem dL_known_766 : decode cL_known 766 = .ok (.iconst 2, 1) := by decide +kernel
theorem dL_known_767 : decode cL_known 767 = .ok (.invokevirtual 57, 3) := by decide +kernel
theorem dL_known_770 : decode cL_known 770 = .ok (.iconst 3, 1) := by decide +kernel
theorem dL_known_771 : decode cL_known 771 = .ok (.if_icmp .ne 34, 3) := by decide +kernel
theorem dL_known_774 : decode cL_known 774 = .ok (.aload_n 0, 1) := by decide +kernel
theorem dL_known_775 : decode cL_known 775 = .ok (.iconst 2, 1) := by decide +kernel
theorem dL_known_776 : decode cL_known 776 = .ok (.iconst 1, 1) := by decide +kernel
theorem dL_known_777 : decode cL_known 777 = .ok (.invokevirtual 57, 3) := by decide +kernel
theorem dL_known_780 : decode cL_known 780 = .ok (.iconst 2, 1) := by decide +kernel
theorem dL_known_781 : decode cL_known 781 = .ok (.if_icmp .ne 24, 3) := by decide +kernel
theorem dL_known_784 : decode cL_known 784 = .ok (.aload_n 0, 1) := by decide +kernel
theorem dL_known_785 : decode cL_known 785 = .ok (.bipush 40, 2) := by decide +kernel
theorem dL_known_787 : decode cL_known 787 = .ok (.invokevirtual 71, 3) := by decide +kernel
theorem dL_known_790 : decode cL_known 790 = .ok (.bipush 35, 2) := by decide +kernel
theorem dL_known_792 : decode cL_known 792 = .ok (.if_icmp .ne 13, 3) := by decide +kernel
theorem dL_known_795 : decode cL_known 795 = .ok (.aload_n 0, 1) := by decide +kernel
theorem dL_known_796 : decode cL_known 796 = .ok (.iconst 0, 1) := by decide +kernel
theorem dL_known_797 : decode cL_known 797 = .ok (.iconst 1, 1) := by decide +kernel
theorem dL_known_798 : decode cL_known 798 = .ok (.invokevirtual 57, 3) := by decide +kernel
theorem dL_known_801 : decode cL_known 801 = .ok (.iconst 2, 1) := by decide +kernel
theorem dL_known_802 : decode cL_known 802 = .ok (.if_icmp .eq 5, 3) := by decide +kernel
theorem dL_known_805 : decode cL_known 805 = .ok (.iconst 0, 1) := by decide +kernel
theorem dL_known_806 : decode cL_known 806 = .ok (.ireturn, 1) := by decide +kernel
theorem dL_known_807 : decode cL_known 807 = .ok (.iconst 0, 1) := by decide +kernel
theorem dL_known_808 : decode cL_known 808 = .ok (.istore_n 1, 1) := by decide +kernel
theorem dL_known_809 : decode cL_known 809 = .ok (.iload_n 1, 1) := by decide +kernel
theorem dL_known_810 : decode cL_known 810 = .ok (.bipush 12, 2) := by decide +kernel
theorem dL_known_812 : decode cL_known 812 = .ok (.if_icmp .ge 31, 3) := by decide +kernel
theorem dL_known_815 : decode cL_known 815 = .ok (.aload_n 0, 1) := by decide +kernel
theorem dL_known_816 : decode cL_known 816 = .ok (.iconst 2, 1) := by decide +kernel
theorem dL_known_817 : decode cL_known 817 = .ok (.iconst 0, 1) := by decide +kernel
theorem dL_known_818 : decode cL_known 818 = .ok (.invokevirtual 57, 3) := by decide +kernel
theorem dL_known_821 : decode cL_known 821 = .ok (.iconst 1, 1) := by decide +kernel
theorem dL_known_822 : decode cL_known 822 = .ok (.if_icmp .ne 13, 3) := by decide +kernel
theorem dL_known_825 : decode cL_known 825 = .ok (.aload_n 0, 1) := by decide +kernel
theorem dL_known_826 : decode cL_known 826 = .ok (.iconst 3, 1) := by decide +kernel
theorem dL_known_827 : decode cL_known 827 = .ok (.iconst 0, 1) := by decide +kernel
theorem dL_known_828 : decode cL_known 828 = .ok (.invokevirtual 57, 3) := by decide +kernel
theorem dL_known_831 : decode cL_known 831 = .ok (.iconst 2, 1) := by decide +kernel
theorem dL_known_832 : decode cL_known 832 = .ok (.if_icmp .eq 5, 3) := by decide +kernel
theorem dL_known_835 : decode cL_known 835 = .ok (.iconst 0, 1) := by decide +kernel
theorem dL_known_836 : decode cL_known 836 = .ok (.ireturn, 1) := by decide +kernel
theorem dL_known_837 : decode cL_known 837 = .ok (.iinc 1 1, 3) := by decide +kernel
theorem dL_known_840 : decode cL_known 840 = .ok (.goto (-31), 3) := by decide +kernel
theorem dL_known_843 : decode cL_known 843 = .ok (.aload_n 0, 1) := by decide +kernel
theorem dL_known_844 : decode cL_known 844 = .ok (.bipush 10, 2) := by decide +kernel
theorem dL_known_846 : decode cL_known 846 = .ok (.invokevirtual 13, 3) := by decide +kernel
theorem dL_known_849 : decode cL_known 849 = .ok (.bipush 24, 2) := by decide +kernel
theorem dL_known_851 : decode cL_known 851 = .ok (.if_icmp .ne 76, 3) := by decide +kernel
theorem dL_known_854 : decode cL_known 854 = .ok (.aload_n 0, 1) := by decide +kernel
theorem dL_known_855 : decode cL_known 855 = .ok (.bipush 9, 2) := by decide +kernel
theorem dL_known_857 : decode cL_known 857 = .ok (.invokevirtual 13, 3) := by decide +kernel
theorem dL_known_860 : decode cL_known 860 = .ok (.bipush 33, 2) := by decide +kernel
theorem dL_known_862 : decode cL_known 862 = .ok (.if_icmp .ne 65, 3) := by decide +kernel
theorem dL_known_865 : decode cL_known 865 = .ok (.aload_n 0, 1) := by decide +kernel
theorem dL_known_866 : decode cL_known 866 = .ok (.bipush 23, 2) := by decide +kernel
theorem dL_known_868 : decode cL_known 868 = .ok (.iconst 0, 1) := by decide +kernel
theorem dL_known_869 : decode cL_known 869 = .ok (.invokevirtual 32, 3) := by decide +kernel
theorem dL_known_872 : decode cL_known 872 = .ok (.iconst 2, 1) := by decide +kernel
theorem dL_known_873 : decode cL_known 873 = .ok (.if_icmp .ne 54, 3) := by decide +kernel
theorem dL_known_876 : decode cL_known 876 = .ok (.aload_n 0, 1) := by decide +kernel
theorem dL_known_877 : decode cL_known 877 = .ok (.bipush 23, 2) := by decide +kernel
theorem dL_known_879 : decode cL_known 879 = .ok (.iconst 1, 1) := by decide +kernel
theorem dL_known_880 : decode cL_known 880 = .ok (.invokevirtual 32, 3) := by decide +kernel
theorem dL_known_883 : decode cL_known 883 = .ok (.ifCond .ne 44, 3) := by decide +kernel
theorem dL_known_886 : decode cL_known 886 = .ok (.aload_n 0, 1) := by decide +kernel
theorem dL_known_887 : decode cL_known 887 = .ok (.iconst 1, 1) := by decide +kernel
theorem dL_known_888 : decode cL_known 888 = .ok (.iconst 2, 1) := by decide +kernel
theorem dL_known_889 : decode cL_known 889 = .ok (.invokevirtual 29, 3) := by decide +kernel
theorem dL_known_892 : decode cL_known 892 = .ok (.ifCond .ne 35, 3) := by decide +kernel
theorem dL_known_895 : decode cL_known 895 = .ok (.aload_n 0, 1) := by decide +kernel
theorem dL_known_896 : decode cL_known 896 = .ok (.iconst 1, 1) := by decide +kernel
theorem dL_known_897 : decode cL_known 897 = .ok (.iconst 3, 1) := by decide +kernel
theorem dL_known_898 : decode cL_known 898 = .ok (.invokevirtual 29, 3) := by decide +kernel
theorem dL_known_901 : decode cL_known 901 = .ok (.ifCond .ne 26, 3) := by decide +kernel
theorem dL_known_904 : decode cL_known 904 = .ok (.aload_n 0, 1) := by decide +kernel
theorem dL_known_905 : decode cL_known 905 = .ok (.iconst 2, 1) := by decide +kernel
theorem dL_known_906 : decode cL_known 906 = .ok (.iconst 3, 1) := by decide +kernel
theorem dL_known_907 : decode cL_known 907 = .ok (.invokevirtual 25, 3) := by decide +kernel
theorem dL_known_910 : decode cL_known 910 = .ok (.ifCond .ne 17, 3) := by decide +kernel
theorem dL_known_913 : decode cL_known 913 = .ok (.aload_n 0, 1) := by decide +kernel
theorem dL_known_914 : decode cL_known 914 = .ok (.iconst 0, 1) := by decide +kernel
theorem dL_known_915 : decode cL_known 915 = .ok (.iconst 3, 1) := by decide +kernel
theorem dL_known_916 : decode cL_known 916 = .ok (.invokevirtual 25, 3) := by decide +kernel
theorem dL_known_919 : decode cL_known 919 = .ok (.iconst 1, 1) := by decide +kernel
theorem dL_known_920 : decode cL_known 920 = .ok (.if_icmp .ne 7, 3) := by decide +kernel
theorem dL_known_923 : decode cL_known 923 = .ok (.iconst 1, 1) := by decide +kernel
theorem dL_known_924 : decode cL_known 924 = .ok (.goto 4, 3) := by decide +kernel
theorem dL_known_927 : decode cL_known 927 = .ok (.iconst 0, 1) := by decide +kernel
theorem dL_known_928 : decode cL_known 928 = .ok (.ireturn, 1) := by decide +kernel
theorem dL_law_0 : decode cL_law 0 = .ok (.invokestatic 167, 3) := by decide +kernel
theorem dL_law_3 : decode cL_law 3 = .ok (.ifCond .eq 22, 3) := by decide +kernel
theorem dL_law_6 : decode cL_law 6 = .ok (.invokestatic 171, 3) := by decide +kernel
theorem dL_law_9 : decode cL_law 9 = .ok (.ifCond .eq 16, 3) := by decide +kernel
theorem dL_law_12 : decode cL_law 12 = .ok (.new 14, 3) := by decide +kernel
theorem dL_law_15 : decode cL_law 15 = .ok (.dup, 1) := by decide +kernel
theorem dL_law_16 : decode cL_law 16 = .ok (.invokespecial 94, 3) := by decide +kernel
theorem dL_law_19 : decode cL_law 19 = .ok (.invokestatic 174, 3) := by decide +kernel
theorem dL_law_22 : decode cL_law 22 = .ok (.ifCond .ne 5, 3) := by decide +kernel
theorem dL_law_25 : decode cL_law 25 = .ok (.iconst 0, 1) := by decide +kernel
theorem dL_law_26 : decode cL_law 26 = .ok (.ireturn, 1) := by decide +kernel
theorem dL_law_27 : decode cL_law 27 = .ok (.new 14, 3) := by decide +kernel
theorem dL_law_30 : decode cL_law 30 = .ok (.dup, 1) := by decide +kernel
theorem dL_law_31 : decode cL_law 31 = .ok (.invokespecial 94, 3) := by decide +kernel
theorem dL_law_34 : decode cL_law 34 = .ok (.astore_n 1, 1) := by decide +kernel
theorem dL_law_35 : decode cL_law 35 = .ok (.iconst 0, 1) := by decide +kernel
theorem dL_law_36 : decode cL_law 36 = .ok (.istore_n 2, 1) := by decide +kernel
theorem dL_law_37 : decode cL_law 37 = .ok (.iload_n 2, 1) := by decide +kernel
theorem dL_law_38 : decode cL_law 38 = .ok (.bipush 10, 2) := by decide +kernel
theorem dL_law_40 : decode cL_law 40 = .ok (.if_icmp .ge 52, 3) := by decide +kernel
theorem dL_law_43 : decode cL_law 43 = .ok (.aload_n 1, 1) := by decide +kernel
theorem dL_law_44 : decode cL_law 44 = .ok (.iconst 1, 1) := by decide +kernel
theorem dL_law_45 : decode cL_law 45 = .ok (.aload_n 0, 1) := by decide +kernel
theorem dL_law_46 : decode cL_law 46 = .ok (.iload_n 2, 1) := by decide +kernel
theorem dL_law_47 : decode cL_law 47 = .ok (.invokestatic 177, 3) := by decide +kernel
theorem dL_law_50 : decode cL_law 50 = .ok (.bipush 9, 2) := by decide +kernel
theorem dL_law_52 : decode cL_law 52 = .ok (.invokestatic 181, 3) := by decide +kernel
theorem dL_law_55 : decode cL_law 55 = .ok (.iadd, 1) := by decide +kernel
theorem dL_law_56 : decode cL_law 56 = .ok (.iload_n 2, 1) := by decide +kernel
theorem dL_law_57 : decode cL_law 57 = .ok (.iconst 2, 1) := by decide +kernel
theorem dL_law_58 : decode cL_law 58 = .ok (.if_icmp .ge 7, 3) := by decide +kernel
theorem dL_law_61 : decode cL_law 61 = .ok (.iconst 1, 1) := by decide +kernel
theorem dL_law_62 : decode cL_law 62 = .ok (.goto 15, 3) := by decide +kernel
theorem dL_law_65 : decode cL_law 65 = .ok (.aload_n 0, 1) := by decide +kernel
theorem dL_law_66 : decode cL_law 66 = .ok (.bipush 10, 2) := by decide +kernel
theorem dL_law_68 : decode cL_law 68 = .ok (.iload_n 2, 1) := by decide +kernel
theorem dL_law_69 : decode cL_law 69 = .ok (.iadd, 1) := by decide +kernel
theorem dL_law_70 : decode cL_law 70 = .ok (.invokestatic 177, 3) := by decide +kernel
theorem dL_law_73 : decode cL_law 73 = .ok (.iconst 2, 1) := by decide +kernel
theorem dL_law_74 : decode cL_law 74 = .ok (.invokestatic 181, 3) := by decide +kernel
theorem dL_law_77 : decode cL_law 77 = .ok (.invokevirtual 68, 3) := by decide +kernel
theorem dL_law_80 : decode cL_law 80 = .ok (.iload_n 2, 1) := by decide +kernel
theorem dL_law_81 : decode cL_law 81 = .ok (.if_icmp .eq 5, 3) := by decide +kernel
theorem dL_law_84 : decode cL_law 84 = .ok (.iconst 0, 1) := by decide +kernel
theorem dL_law_85 : decode cL_law 85 = .ok (.ireturn, 1) := by decide +kernel
theorem dL_law_86 : decode cL_law 86 = .ok (.iinc 2 1, 3) := by decide +kernel
theorem dL_law_89 : decode cL_law 89 = .ok (.goto (-52), 3) := by decide +kernel
theorem dL_law_92 : decode cL_law 92 = .ok (.aload_n 1, 1) := by decide +kernel
theorem dL_law_93 : decode cL_law 93 = .ok (.iconst 1, 1) := by decide +kernel
theorem dL_law_94 : decode cL_law 94 = .ok (.iconst 0, 1) := by decide +kernel
theorem dL_law_95 : decode cL_law 95 = .ok (.invokevirtual 68, 3) := by decide +kernel
theorem dL_law_98 : decode cL_law 98 = .ok (.bipush (-3), 2) := by decide +kernel
theorem dL_law_100 : decode cL_law 100 = .ok (.if_icmp .ne 24, 3) := by decide +kernel
theorem dL_law_103 : decode cL_law 103 = .ok (.aload_n 1, 1) := by decide +kernel
theorem dL_law_104 : decode cL_law 104 = .ok (.iconst 0, 1) := by decide +kernel
theorem dL_law_105 : decode cL_law 105 = .ok (.iconst 0, 1) := by decide +kernel
theorem dL_law_106 : decode cL_law 106 = .ok (.invokevirtual 68, 3) := by decide +kernel
theorem dL_law_109 : decode cL_law 109 = .ok (.iconst (-1), 1) := by decide +kernel
theorem dL_law_110 : decode cL_law 110 = .ok (.if_icmp .ne 14, 3) := by decide +kernel
theorem dL_law_113 : decode cL_law 113 = .ok (.aload_n 1, 1) := by decide +kernel
theorem dL_law_114 : decode cL_law 114 = .ok (.bipush 40, 2) := by decide +kernel
theorem dL_law_116 : decode cL_law 116 = .ok (.invokevirtual 71, 3) := by decide +kernel
theorem dL_law_119 : decode cL_law 119 = .ok (.bipush 40, 2) := by decide +kernel
theorem dL_law_121 : decode cL_law 121 = .ok (.if_icmp .eq 5, 3) := by decide +kernel
theorem dL_law_124 : decode cL_law 124 = .ok (.iconst 0, 1) := by decide +kernel
theorem dL_law_125 : decode cL_law 125 = .ok (.ireturn, 1) := by decide +kernel
theorem dL_law_126 : decode cL_law 126 = .ok (.iconst 0, 1) := by decide +kernel
theorem dL_law_127 : decode cL_law 127 = .ok (.istore_n 2, 1) := by decide +kernel
theorem dL_law_128 : decode cL_law 128 = .ok (.iload_n 2, 1) := by decide +kernel
theorem dL_law_129 : decode cL_law 129 = .ok (.bipush 16, 2) := by decide +kernel
theorem dL_law_131 : decode cL_law 131 = .ok (.if_icmp .ge 54, 3) := by decide +kernel
theorem dL_law_134 : decode cL_law 134 = .ok (.aload_n 0, 1) := by decide +kernel
theorem dL_law_135 : decode cL_law 135 = .ok (.bipush 20, 2) := by decide +kernel
theorem dL_law_137 : decode cL_law 137 = .ok (.iload_n 2, 1) := by decide +kernel
theorem dL_law_138 : decode cL_law 138 = .ok (.iadd, 1) := by decide +kernel
theorem dL_law_139 : decode cL_law 139 = .ok (.invokestatic 177, 3) := by decide +kernel
theorem dL_law_142 : decode cL_law 142 = .ok (.bipush 10, 2) := by decide +kernel
theorem dL_law_144 : decode cL_law 144 = .ok (.invokestatic 181, 3) := by decide +kernel
theorem dL_law_147 : decode cL_law 147 = .ok (.istore_n 3, 1) := by decide +kernel
theorem dL_law_148 : decode cL_law 148 = .ok (.aload_n 1, 1) := by decide +kernel
theorem dL_law_149 : decode cL_law 149 = .ok (.iload_n 3, 1) := by decide +kernel
theorem dL_law_150 : decode cL_law 150 = .ok (.iload_n 3, 1) := by decide +kernel
theorem dL_law_151 : decode cL_law 151 = .ok (.iconst 1, 1) := by decide +kernel
theorem dL_law_152 : decode cL_law 152 = .ok (.iadd, 1) := by decide +kernel
theorem dL_law_153 : decode cL_law 153 = .ok (.aload_n 0, 1) := by decide +kernel
theorem dL_law_154 : decode cL_law 154 = .ok (.bipush 40, 2) := by decide +kernel
theorem dL_law_156 : decode cL_law 156 = .ok (.iload_n 2, 1) := by decide +kernel
theorem dL_law_157 : decode cL_law 157 = .ok (.iadd, 1) := by decide +kernel
theorem dL_law_158 : decode cL_law 158 = .ok (.invokestatic 177, 3) := by decide +kernel
theorem dL_law_161 : decode cL_law 161 = .ok (.bipush 9, 2) := by decide +kernel
theorem dL_law_163 : decode cL_law 163 = .ok (.invokestatic 181, 3) := by decide +kernel
theorem dL_law_166 : decode cL_law 166 = .ok (.iadd, 1) := by decide +kernel
theorem dL_law_167 : decode cL_law 167 = .ok (.bipush 10, 2) := by decide +kernel
theorem dL_law_169 : decode cL_law 169 = .ok (.irem, 1) := by decide +kernel
theorem dL_law_170 : decode cL_law 170 = .ok (.invokevirtual 51, 3) := by decide +kernel
theorem dL_law_173 : decode cL_law 173 = .ok (.iload_n 2, 1) := by decide +kernel
theorem dL_law_174 : decode cL_law 174 = .ok (.if_icmp .eq 5, 3) := by decide +kernel
theorem dL_law_177 : decode cL_law 177 = .ok (.iconst 0, 1) := by decide +kernel
theorem dL_law_178 : decode cL_law 178 = .ok (.ireturn, 1) := by decide +kernel
theorem dL_law_179 : decode cL_law 179 = .ok (.iinc 2 1, 3) := by decide +kernel
theorem dL_law_182 : decode cL_law 182 = .ok (.goto (-54), 3) := by decide +kernel
theorem dL_law_185 : decode cL_law 185 = .ok (.aload_n 1, 1) := by decide +kernel
theorem dL_law_186 : decode cL_law 186 = .ok (.iconst 0, 1) := by decide +kernel
theorem dL_law_187 : decode cL_law 187 = .ok (.iconst 1, 1) := by decide +kernel
theorem dL_law_188 : decode cL_law 188 = .ok (.invokevirtual 51, 3) := by decide +kernel
theorem dL_law_191 : decode cL_law 191 = .ok (.bipush (-3), 2) := by decide +kernel
theorem dL_law_193 : decode cL_law 193 = .ok (.if_icmp .ne 20, 3) := by decide +kernel
theorem dL_law_196 : decode cL_law 196 = .ok (.aload_n 1, 1) := by decide +kernel
theorem dL_law_197 : decode cL_law 197 = .ok (.iconst 0, 1) := by decide +kernel
theorem dL_law_198 : decode cL_law 198 = .ok (.iconst 0, 1) := by decide +kernel
theorem dL_law_199 : decode cL_law 199 = .ok (.invokevirtual 51, 3) := by decide +kernel
theorem dL_law_202 : decode cL_law 202 = .ok (.iconst (-1), 1) := by decide +kernel
theorem dL_law_203 : decode cL_law 203 = .ok (.if_icmp .ne 10, 3) := by decide +kernel
theorem dL_law_206 : decode cL_law 206 = .ok (.aload_n 1, 1) := by decide +kernel
theorem dL_law_207 : decode cL_law 207 = .ok (.invokestatic 174, 3) := by decide +kernel
theorem dL_law_210 : decode cL_law 210 = .ok (.ifCond .ne 5, 3) := by decide +kernel
theorem dL_law_213 : decode cL_law 213 = .ok (.iconst 0, 1) := by decide +kernel
theorem dL_law_214 : decode cL_law 214 = .ok (.ireturn, 1) := by decide +kernel
theorem dL_law_215 : decode cL_law 215 = .ok (.bipush 48, 2) := by decide +kernel
theorem dL_law_217 : decode cL_law 217 = .ok (.newarray .long, 2) := by decide +kernel
theorem dL_law_219 : decode cL_law 219 = .ok (.astore_n 2, 1) := by decide +kernel
theorem dL_law_220 : decode cL_law 220 = .ok (.iconst 0, 1) := by decide +kernel
theorem dL_law_221 : decode cL_law 221 = .ok (.istore_n 3, 1) := by decide +kernel
theorem dL_law_222 : decode cL_law 222 = .ok (.iconst 0, 1) := by decide +kernel
theorem dL_law_223 : decode cL_law 223 = .ok (.istore 4, 2) := by decide +kernel
theorem dL_law_225 : decode cL_law 225 = .ok (.iload 4, 2) := by decide +kernel
theorem dL_law_227 : decode cL_law 227 = .ok (.bipush 40, 2) := by decide +kernel
theorem dL_law_229 : decode cL_law 229 = .ok (.if_icmp .ge 257, 3) := by decide +kernel
theorem dL_law_232 : decode cL_law 232 = .ok (.aload_n 0, 1) := by decide +kernel
theorem dL_law_233 : decode cL_law 233 = .ok (.bipush 60, 2) := by decide +kernel
theorem dL_law_235 : decode cL_law 235 = .ok (.iload 4, 2) := by decide +kernel
theorem dL_law_237 : decode cL_law 237 = .ok (.iadd, 1) := by decide +kernel
theorem dL_law_238 : decode cL_law 238 = .ok (.invokestatic 177, 3) := by decide +kernel
theorem dL_law_241 : decode cL_law 241 = .ok (.istore 5, 2) := by decide +kernel
theorem dL_law_243 : decode cL_law 243 = .ok (.iload 5, 2) := by decide +kernel
theorem dL_law_245 : decode cL_law 245 = .ok (.bipush 14, 2) := by decide +kernel
theorem dL_law_247 : decode cL_law 247 = .ok (.invokestatic 181, 3) := by decide +kernel
theorem dL_law_250 : decode cL_law 250 = .ok (.istore 6, 2) := by decide +kernel
theorem dL_law_252 : decode cL_law 252 = .ok (.iload 5, 2) := by decide +kernel
theorem dL_law_254 : decode cL_law 254 = .ok (.iconst 4, 1) := by decide +kernel
theorem dL_law_255 : decode cL_law 255 = .ok (.ishr, 1) := by decide +kernel
theorem dL_law_256 : decode cL_law 256 = .ok (.iload 6, 2) := by decide +kernel
theorem dL_law_258 : decode cL_law 258 = .ok (.iconst 2, 1) := by decide +kernel
theorem dL_law_259 : decode cL_law 259 = .ok (.if_icmp .eq 9, 3) := by decide +kernel
theorem dL_law_262 : decode cL_law 262 = .ok (.iload 6, 2) := by decide +kernel
theorem dL_law_264 : decode cL_law 264 = .ok (.iconst 3, 1) := by decide +kernel
theorem dL_law_265 : decode cL_law 265 = .ok (.if_icmp .ne 8, 3) := by decide +kernel
theorem dL_law_268 : decode cL_law 268 = .ok (.bipush 16, 2) := by decide +kernel
theorem dL_law_270 : decode cL_law 270 = .ok (.goto 5, 3) := by decide +kernel
theorem dL_law_273 : decode cL_law 273 = .ok (.bipush 10, 2) := by decide +kernel
theorem dL_law_275 : decode cL_law 275 = .ok (.invokestatic 181, 3) := by decide +kernel
theorem dL_law_278 : decode cL_law 278 = .ok (.istore 7, 2) := by decide +kernel
theorem dL_law_280 : decode cL_law 280 = .ok (.aload_n 2, 1) := by decide +kernel
theorem dL_law_281 : decode cL_law 281 = .ok (.iload_n 3, 1) := by decide +kernel
theorem dL_law_282 : decode cL_law 282 = .ok (.aload_n 1, 1) := by decide +kernel
theorem dL_law_283 : decode cL_law 283 = .ok (.invokestatic 60, 3) := by decide +kernel
theorem dL_law_286 : decode cL_law 286 = .ok (.lastore, 1) := by decide +kernel
theorem dL_law_287 : decode cL_law 287 = .ok (.iload 6, 2) := by decide +kernel
theorem dL_law_289 : decode cL_law 289 = .ok (.bipush 8, 2) := by decide +kernel
theorem dL_law_291 : decode cL_law 291 = .ok (.if_icmp .ge 14, 3) := by decide +kernel
theorem dL_law_294 : decode cL_law 294 = .ok (.aload_n 1, 1) := by decide +kernel
theorem dL_law_295 : decode cL_law 295 = .ok (.iload 6, 2) := by decide +kernel
theorem dL_law_297 : decode cL_law 297 = .ok (.iload 7, 2) := by decide +kernel
theorem dL_law_299 : decode cL_law 299 = .ok (.invokevirtual 57, 3) := by decide +kernel
theorem dL_law_302 : decode cL_law 302 = .ok (.goto 145, 3) := by decide +kernel
theorem dL_law_305 : decode cL_law 305 = .ok (.iload 6, 2) := by decide +kernel
theorem dL_law_307 : decode cL_law 307 = .ok (.bipush 8, 2) := by decide +kernel
theorem dL_law_309 : decode cL_law 309 = .ok (.if_icmp .ne 39, 3) := by decide +kernel
theorem dL_law_312 : decode cL_law 312 = .ok (.aload_n 1, 1) := by decide +kernel
theorem dL_law_313 : decode cL_law 313 = .ok (.iload 7, 2) := by decide +kernel
theorem dL_law_315 : decode cL_law 315 = .ok (.iload 5, 2) := by decide +kernel
theorem dL_law_317 : decode cL_law 317 = .ok (.bipush 8, 2) := by decide +kernel
theorem dL_law_319 : decode cL_law 319 = .ok (.ishr, 1) := by decide +kernel
theorem dL_law_320 : decode cL_law 320 = .ok (.bipush 51, 2) := by decide +kernel
theorem dL_law_322 : decode cL_law 322 = .ok (.invokestatic 181, 3) := by decide +kernel
theorem dL_law_325 : decode cL_law 325 = .ok (.aload_n 1, 1) := by decide +kernel
theorem dL_law_326 : decode cL_law 326 = .ok (.bipush 8, 2) := by decide +kernel
theorem dL_law_328 : decode cL_law 328 = .ok (.invokevirtual 13, 3) := by decide +kernel
theorem dL_law_331 : decode cL_law 331 = .ok (.iload 5, 2) := by decide +kernel
theorem dL_law_333 : decode cL_law 333 = .ok (.bipush 6, 2) := by decide +kernel
theorem dL_law_335 : decode cL_law 335 = .ok (.ishr, 1) := by decide +kernel
theorem dL_law_336 : decode cL_law 336 = .ok (.bipush 100, 2) := by decide +kernel
theorem dL_law_338 : decode cL_law 338 = .ok (.invokestatic 181, 3) := by decide +kernel
theorem dL_law_341 : decode cL_law 341 = .ok (.iadd, 1) := by decide +kernel
theorem dL_law_342 : decode cL_law 342 = .ok (.invokevirtual 41, 3) := by decide +kernel
theorem dL_law_345 : decode cL_law 345 = .ok (.goto 102, 3) := by decide +kernel
theorem dL_law_348 : decode cL_law 348 = .ok (.iload 6, 2) := by decide +kernel
theorem dL_law_350 : decode cL_law 350 = .ok (.bipush 9, 2) := by decide +kernel
theorem dL_law_352 : decode cL_law 352 = .ok (.if_icmp .ne 22, 3) := by decide +kernel
theorem dL_law_355 : decode cL_law 355 = .ok (.aload_n 1, 1) := by decide +kernel
theorem dL_law_356 : decode cL_law 356 = .ok (.iload 7, 2) := by decide +kernel
theorem dL_law_358 : decode cL_law 358 = .ok (.iload 5, 2) := by decide +kernel
theorem dL_law_360 : decode cL_law 360 = .ok (.bipush 8, 2) := by decide +kernel
theorem dL_law_362 : decode cL_law 362 = .ok (.ishr, 1) := by decide +kernel
theorem dL_law_363 : decode cL_law 363 = .ok (.bipush 20, 2) := by decide +kernel
theorem dL_law_365 : decode cL_law 365 = .ok (.invokestatic 181, 3) := by decide +kernel
theorem dL_law_368 : decode cL_law 368 = .ok (.invokevirtual 45, 3) := by decide +kernel
theorem dL_law_371 : decode cL_law 371 = .ok (.goto 76, 3) := by decide +kernel
theorem dL_law_374 : decode cL_law 374 = .ok (.iload 6, 2) := by decide +kernel
theorem dL_law_376 : decode cL_law 376 = .ok (.bipush 10, 2) := by decide +kernel
theorem dL_law_378 : decode cL_law 378 = .ok (.if_icmp .ne 12, 3) := by decide +kernel
theorem dL_law_381 : decode cL_law 381 = .ok (.aload_n 1, 1) := by decide +kernel
theorem dL_law_382 : decode cL_law 382 = .ok (.iload 7, 2) := by decide +kernel
theorem dL_law_384 : decode cL_law 384 = .ok (.invokevirtual 48, 3) := by decide +kernel
theorem dL_law_387 : decode cL_law 387 = .ok (.goto 60, 3) := by decide +kernel
theorem dL_law_390 : decode cL_law 390 = .ok (.iload 6, 2) := by decide +kernel
theorem dL_law_392 : decode cL_law 392 = .ok (.bipush 11, 2) := by decide +kernel
theorem dL_law_394 : decode cL_law 394 = .ok (.if_icmp .ne 22, 3) := by decide +kernel
theorem dL_law_397 : decode cL_law 397 = .ok (.aload_n 1, 1) := by decide +kernel
theorem dL_law_398 : decode cL_law 398 = .ok (.iconst 1, 1) := by decide +kernel
theorem dL_law_399 : decode cL_law 399 = .ok (.iload 5, 2) := by decide +kernel
theorem dL_law_401 : decode cL_law 401 = .ok (.bipush 8, 2) := by decide +kernel
theorem dL_law_403 : decode cL_law 403 = .ok (.ishr, 1) := by decide +kernel
theorem dL_law_404 : decode cL_law 404 = .ok (.bipush 100, 2) := by decide +kernel
theorem dL_law_406 : decode cL_law 406 = .ok (.invokestatic 181, 3) := by decide +kernel
theorem dL_law_409 : decode cL_law 409 = .ok (.iadd, 1) := by decide +kernel
theorem dL_law_410 : decode cL_law 410 = .ok (.invokevirtual 74, 3) := by decide +kernel
theorem dL_law_413 : decode cL_law 413 = .ok (.goto 34, 3) := by decide +kernel
theorem dL_law_416 : decode cL_law 416 = .ok (.iload 6, 2) := by decide +kernel
theorem dL_law_418 : decode cL_law 418 = .ok (.bipush 12, 2) := by decide +kernel
theorem dL_law_420 : decode cL_law 420 = .ok (.if_icmp .ne 20, 3) := by decide +kernel
theorem dL_law_423 : decode cL_law 423 = .ok (.aload_n 1, 1) := by decide +kernel
theorem dL_law_424 : decode cL_law 424 = .ok (.iload 5, 2) := by decide +kernel
theorem dL_law_426 : decode cL_law 426 = .ok (.bipush 8, 2) := by decide +kernel
theorem dL_law_428 : decode cL_law 428 = .ok (.ishr, 1) := by decide +kernel
theorem dL_law_429 : decode cL_law 429 = .ok (.bipush 41, 2) := by decide +kernel
theorem dL_law_431 : decode cL_law 431 = .ok (.invokestatic 181, 3) := by decide +kernel
theorem dL_law_434 : decode cL_law 434 = .ok (.invokevirtual 71, 3) := by decide +kernel
theorem dL_law_437 : decode cL_law 437 = .ok (.goto 10, 3) := by decide +kernel
theorem dL_law_440 : decode cL_law 440 = .ok (.aload_n 1, 1) := by decide +kernel
theorem dL_law_441 : decode cL_law 441 = .ok (.iconst 0, 1) := by decide +kernel
theorem dL_law_442 : decode cL_law 442 = .ok (.iload 7, 2) := by decide +kernel
theorem dL_law_444 : decode cL_law 444 = .ok (.invokevirtual 57, 3) := by decide +kernel
theorem dL_law_447 : decode cL_law 447 = .ok (.istore 8, 2) := by decide +kernel
theorem dL_law_449 : decode cL_law 449 = .ok (.iload_n 3, 1) := by decide +kernel
theorem dL_law_450 : decode cL_law 450 = .ok (.iload 8, 2) := by decide +kernel
theorem dL_law_452 : decode cL_law 452 = .ok (.ifCond .lt 7, 3) := by decide +kernel
theorem dL_law_455 : decode cL_law 455 = .ok (.iconst 1, 1) := by decide +kernel
theorem dL_law_456 : decode cL_law 456 = .ok (.goto 4, 3) := by decide +kernel
theorem dL_law_459 : decode cL_law 459 = .ok (.iconst 0, 1) := by decide +kernel
theorem dL_law_460 : decode cL_law 460 = .ok (.iadd, 1) := by decide +kernel
theorem dL_law_461 : decode cL_law 461 = .ok (.istore_n 3, 1) := by decide +kernel
theorem dL_law_462 : decode cL_law 462 = .ok (.iload 8, 2) := by decide +kernel
theorem dL_law_464 : decode cL_law 464 = .ok (.ifCond .ge 16, 3) := by decide +kernel
theorem dL_law_467 : decode cL_law 467 = .ok (.aload_n 1, 1) := by decide +kernel
theorem dL_law_468 : decode cL_law 468 = .ok (.invokestatic 60, 3) := by decide +kernel
theorem dL_law_471 : decode cL_law 471 = .ok (.aload_n 2, 1) := by decide +kernel
theorem dL_law_472 : decode cL_law 472 = .ok (.iload_n 3, 1) := by decide +kernel
theorem dL_law_473 : decode cL_law 473 = .ok (.laload, 1) := by decide +kernel
theorem dL_law_474 : decode cL_law 474 = .ok (.lcmp, 1) := by decide +kernel
theorem dL_law_475 : decode cL_law 475 = .ok (.ifCond .eq 5, 3) := by decide +kernel
theorem dL_law_478 : decode cL_law 478 = .ok (.iconst 0, 1) := by decide +kernel
theorem dL_law_479 : decode cL_law 479 = .ok (.ireturn, 1) := by decide +kernel
theorem dL_law_480 : decode cL_law 480 = .ok (.iinc 4 1, 3) := by decide +kernel
theorem dL_law_483 : decode cL_law 483 = .ok (.goto (-258), 3) := by decide +kernel
theorem dL_law_486 : decode cL_law 486 = .ok (.aload_n 1, 1) := by decide +kernel
theorem dL_law_487 : decode cL_law 487 = .ok (.invokestatic 174, 3) := by decide +kernel
theorem dL_law_490 : decode cL_law 490 = .ok (.ifCond .ne 5, 3) := by decide +kernel
theorem dL_law_493 : decode cL_law 493 = .ok (.iconst 0, 1) := by decide +kernel
theorem dL_law_494 : decode cL_law 494 = .ok (.ireturn, 1) := by decide +kernel
theorem dL_law_495 : decode cL_law 495 = .ok (.iconst 1, 1) := by decide +kernel
theorem dL_law_496 : decode cL_law 496 = .ok (.istore 4, 2) := by decide +kernel
theorem dL_law_498 : decode cL_law 498 = .ok (.iload 4, 2) := by decide +kernel
theorem dL_law_500 : decode cL_law 500 = .ok (.iconst 5, 1) := by decide +kernel
theorem dL_law_501 : decode cL_law 501 = .ok (.if_icmp .gt 56, 3) := by decide +kernel
theorem dL_law_504 : decode cL_law 504 = .ok (.iload 4, 2) := by decide +kernel
theorem dL_law_506 : decode cL_law 506 = .ok (.iload_n 3, 1) := by decide +kernel
theorem dL_law_507 : decode cL_law 507 = .ok (.if_icmp .gt 50, 3) := by decide +kernel
theorem dL_law_510 : decode cL_law 510 = .ok (.aload_n 1, 1) := by decide +kernel
theorem dL_law_511 : decode cL_law 511 = .ok (.invokevirtual 164, 3) := by decide +kernel
theorem dL_law_514 : decode cL_law 514 = .ok (.istore 5, 2) := by decide +kernel
theorem dL_law_516 : decode cL_law 516 = .ok (.iload 5, 2) := by decide +kernel
theorem dL_law_518 : decode cL_law 518 = .ok (.ifCond .lt 31, 3) := by decide +kernel
theorem dL_law_521 : decode cL_law 521 = .ok (.aload_n 1, 1) := by decide +kernel
theorem dL_law_522 : decode cL_law 522 = .ok (.invokestatic 60, 3) := by decide +kernel
theorem dL_law_525 : decode cL_law 525 = .ok (.aload_n 2, 1) := by decide +kernel
theorem dL_law_526 : decode cL_law 526 = .ok (.iload_n 3, 1) := by decide +kernel
theorem dL_law_527 : decode cL_law 527 = .ok (.iload 4, 2) := by decide +kernel
theorem dL_law_529 : decode cL_law 529 = .ok (.isub, 1) := by decide +kernel
theorem dL_law_530 : decode cL_law 530 = .ok (.laload, 1) := by decide +kernel
theorem dL_law_531 : decode cL_law 531 = .ok (.lcmp, 1) := by decide +kernel
theorem dL_law_532 : decode cL_law 532 = .ok (.ifCond .ne 17, 3) := by decide +kernel
theorem dL_law_535 : decode cL_law 535 = .ok (.iload_n 3, 1) := by decide +kernel
theorem dL_law_536 : decode cL_law 536 = .ok (.iconst 4, 1) := by decide +kernel
theorem dL_law_537 : decode cL_law 537 = .ok (.if_icmp .le 14, 3) := by decide +kernel
theorem dL_law_540 : decode cL_law 540 = .ok (.iload 5, 2) := by decide +kernel
theorem dL_law_542 : decode cL_law 542 = .ok (.iconst 5, 1) := by decide +kernel
theorem dL_law_543 : decode cL_law 543 = .ok (.iload 4, 2) := by decide +kernel
theorem dL_law_545 : decode cL_law 545 = .ok (.isub, 1) := by decide +kernel
theorem dL_law_546 : decode cL_law 546 = .ok (.if_icmp .eq 5, 3) := by decide +kernel
theorem dL_law_549 : decode cL_law 549 = .ok (.iconst 0, 1) := by decide +kernel
theorem dL_law_550 : decode cL_law 550 = .ok (.ireturn, 1) := by decide +kernel
theorem dL_law_551 : decode cL_law 551 = .ok (.iinc 4 1, 3) := by decide +kernel
theorem dL_law_554 : decode cL_law 554 = .ok (.goto (-56), 3) := by decide +kernel
theorem dL_law_557 : decode cL_law 557 = .ok (.iload_n 3, 1) := by decide +kernel
theorem dL_law_558 : decode cL_law 558 = .ok (.iconst 4, 1) := by decide +kernel
theorem dL_law_559 : decode cL_law 559 = .ok (.if_icmp .le 14, 3) := by decide +kernel
theorem dL_law_562 : decode cL_law 562 = .ok (.aload_n 1, 1) := by decide +kernel
theorem dL_law_563 : decode cL_law 563 = .ok (.invokevirtual 164, 3) := by decide +kernel
theorem dL_law_566 : decode cL_law 566 = .ok (.bipush (-2), 2) := by decide +kernel
theorem dL_law_568 : decode cL_law 568 = .ok (.if_icmp .eq 5, 3) := by decide +kernel
theorem dL_law_571 : decode cL_law 571 = .ok (.iconst 0, 1) := by decide +kernel
theorem dL_law_572 : decode cL_law 572 = .ok (.ireturn, 1) := by decide +kernel
theorem dL_law_573 : decode cL_law 573 = .ok (.new 14, 3) := by decide +kernel
theorem dL_law_576 : decode cL_law 576 = .ok (.dup, 1) := by decide +kernel
theorem dL_law_577 : decode cL_law 577 = .ok (.invokespecial 94, 3) := by decide +kernel
theorem dL_law_580 : decode cL_law 580 = .ok (.astore 4, 2) := by decide +kernel
theorem dL_law_582 : decode cL_law 582 = .ok (.aload 4, 2) := by decide +kernel
theorem dL_law_584 : decode cL_law 584 = .ok (.invokevirtual 164, 3) := by decide +kernel
theorem dL_law_587 : decode cL_law 587 = .ok (.bipush (-2), 2) := by decide +kernel
theorem dL_law_589 : decode cL_law 589 = .ok (.if_icmp .eq 5, 3) := by decide +kernel
theorem dL_law_592 : decode cL_law 592 = .ok (.iconst 0, 1) := by decide +kernel
theorem dL_law_593 : decode cL_law 593 = .ok (.ireturn, 1) := by decide +kernel
theorem dL_law_594 : decode cL_law 594 = .ok (.iconst 1, 1) := by decide +kernel
theorem dL_law_595 : decode cL_law 595 = .ok (.istore 5, 2) := by decide +kernel
theorem dL_law_597 : decode cL_law 597 = .ok (.iload 5, 2) := by decide +kernel
theorem dL_law_599 : decode cL_law 599 = .ok (.bipush 10, 2) := by decide +kernel
theorem dL_law_601 : decode cL_law 601 = .ok (.if_icmp .gt 28, 3) := by decide +kernel
theorem dL_law_604 : decode cL_law 604 = .ok (.aload 4, 2) := by decide +kernel
theorem dL_law_606 : decode cL_law 606 = .ok (.sipush 10000, 3) := by decide +kernel
theorem dL_law_609 : decode cL_law 609 = .ok (.invokevirtual 74, 3) := by decide +kernel
theorem dL_law_612 : decode cL_law 612 = .ok (.sipush 10000, 3) := by decide +kernel
theorem dL_law_615 : decode cL_law 615 = .ok (.iload 5, 2) := by decide +kernel
theorem dL_law_617 : decode cL_law 617 = .ok (.imul, 1) := by decide +kernel
theorem dL_law_618 : decode cL_law 618 = .ok (.if_icmp .eq 5, 3) := by decide +kernel
theorem dL_law_621 : decode cL_law 621 = .ok (.iconst 0, 1) := by decide +kernel
theorem dL_law_622 : decode cL_law 622 = .ok (.ireturn, 1) := by decide +kernel
theorem dL_law_623 : decode cL_law 623 = .ok (.iinc 5 1, 3) := by decide +kernel
theorem dL_law_626 : decode cL_law 626 = .ok (.goto (-29), 3) := by decide +kernel
theorem dL_law_629 : decode cL_law 629 = .ok (.aload 4, 2) := by decide +kernel
theorem dL_law_631 : decode cL_law 631 = .ok (.iconst 1, 1) := by decide +kernel
theorem dL_law_632 : decode cL_law 632 = .ok (.invokevirtual 74, 3) := by decide +kernel
theorem dL_law_635 : decode cL_law 635 = .ok (.bipush (-3), 2) := by decide +kernel
theorem dL_law_637 : decode cL_law 637 = .ok (.if_icmp .ne 38, 3) := by decide +kernel
theorem dL_law_640 : decode cL_law 640 = .ok (.aload 4, 2) := by decide +kernel
theorem dL_law_642 : decode cL_law 642 = .ok (.iconst 0, 1) := by decide +kernel
theorem dL_law_643 : decode cL_law 643 = .ok (.invokevirtual 74, 3) := by decide +kernel
theorem dL_law_646 : decode cL_law 646 = .ok (.iconst (-1), 1) := by decide +kernel
theorem dL_law_647 : decode cL_law 647 = .ok (.if_icmp .ne 28, 3) := by decide +kernel
theorem dL_law_650 : decode cL_law 650 = .ok (.aload 4, 2) := by decide +kernel
theorem dL_law_652 : decode cL_law 652 = .ok (.invokevirtual 164, 3) := by decide +kernel
theorem dL_law_655 : decode cL_law 655 = .ok (.iconst 4, 1) := by decide +kernel
theorem dL_law_656 : decode cL_law 656 = .ok (.if_icmp .ne 19, 3) := by decide +kernel
theorem dL_law_659 : decode cL_law 659 = .ok (.aload 4, 2) := by decide +kernel
theorem dL_law_661 : decode cL_law 661 = .ok (.bipush 8, 2) := by decide +kernel
theorem dL_law_663 : decode cL_law 663 = .ok (.invokevirtual 13, 3) := by decide +kernel
theorem dL_law_666 : decode cL_law 666 = .ok (.ldc 184, 2) := by decide +kernel
theorem dL_law_668 : decode cL_law 668 = .ok (.if_icmp .ne 7, 3) := by decide +kernel
theorem dL_law_671 : decode cL_law 671 = .ok (.iconst 1, 1) := by decide +kernel
theorem dL_law_672 : decode cL_law 672 = .ok (.goto 4, 3) := by decide +kernel
theorem dL_law_675 : decode cL_law 675 = .ok (.iconst 0, 1) := by decide +kernel
theorem dL_law_676 : decode cL_law 676 = .ok (.ireturn, 1) := by decide +kernel
