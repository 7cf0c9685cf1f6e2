theorem dL_law_0 : decode cL_law 0 = .ok (.new 7, 3) := by decide +kernel
theorem dL_law_3 : decode cL_law 3 = .ok (.dup, 1) := by decide +kernel
theorem dL_law_4 : decode cL_law 4 = .ok (.invokespecial 9, 3) := by decide +kernel
theorem dL_law_7 : decode cL_law 7 = .ok (.astore_n 1, 1) := by decide +kernel
theorem dL_law_8 : decode cL_law 8 = .ok (.new 10, 3) := by decide +kernel
theorem dL_law_11 : decode cL_law 11 = .ok (.dup, 1) := by decide +kernel
theorem dL_law_12 : decode cL_law 12 = .ok (.invokespecial 12, 3) := by decide +kernel
theorem dL_law_15 : decode cL_law 15 = .ok (.astore_n 2, 1) := by decide +kernel
theorem dL_law_16 : decode cL_law 16 = .ok (.iconst 0, 1) := by decide +kernel
theorem dL_law_17 : decode cL_law 17 = .ok (.istore_n 3, 1) := by decide +kernel
theorem dL_law_18 : decode cL_law 18 = .ok (.iload_n 3, 1) := by decide +kernel
theorem dL_law_19 : decode cL_law 19 = .ok (.aload_n 0, 1) := by decide +kernel
theorem dL_law_20 : decode cL_law 20 = .ok (.arraylength, 1) := by decide +kernel
theorem dL_law_21 : decode cL_law 21 = .ok (.iconst 4, 1) := by decide +kernel
theorem dL_law_22 : decode cL_law 22 = .ok (.isub, 1) := by decide +kernel
theorem dL_law_23 : decode cL_law 23 = .ok (.if_icmp .gt 651, 3) := by decide +kernel
theorem dL_law_26 : decode cL_law 26 = .ok (.aload_n 0, 1) := by decide +kernel
theorem dL_law_27 : decode cL_law 27 = .ok (.iload_n 3, 1) := by decide +kernel
theorem dL_law_28 : decode cL_law 28 = .ok (.iaload, 1) := by decide +kernel
theorem dL_law_29 : decode cL_law 29 = .ok (.bipush 31, 2) := by decide +kernel
theorem dL_law_31 : decode cL_law 31 = .ok (.iand, 1) := by decide +kernel
theorem dL_law_32 : decode cL_law 32 = .ok (.tableswitch 636 0 19 #[96, 129, 162, 185, 218, 251, 274, 287, 320, 353, 386, 419, 442, 485, 518, 541, 564, 587, 600, 623], 96) := by decide +kernel
theorem dL_law_128 : decode cL_law 128 = .ok (.aload_n 1, 1) := by decide +kernel
theorem dL_law_129 : decode cL_law 129 = .ok (.aload_n 0, 1) := by decide +kernel
theorem dL_law_130 : decode cL_law 130 = .ok (.iload_n 3, 1) := by decide +kernel
theorem dL_law_131 : decode cL_law 131 = .ok (.iconst 1, 1) := by decide +kernel
theorem dL_law_132 : decode cL_law 132 = .ok (.iadd, 1) := by decide +kernel
theorem dL_law_133 : decode cL_law 133 = .ok (.iaload, 1) := by decide +kernel
theorem dL_law_134 : decode cL_law 134 = .ok (.aload_n 0, 1) := by decide +kernel
theorem dL_law_135 : decode cL_law 135 = .ok (.iload_n 3, 1) := by decide +kernel
theorem dL_law_136 : decode cL_law 136 = .ok (.iconst 2, 1) := by decide +kernel
theorem dL_law_137 : decode cL_law 137 = .ok (.iadd, 1) := by decide +kernel
theorem dL_law_138 : decode cL_law 138 = .ok (.iaload, 1) := by decide +kernel
theorem dL_law_139 : decode cL_law 139 = .ok (.invokevirtual 13, 3) := by decide +kernel
theorem dL_law_142 : decode cL_law 142 = .ok (.aload_n 2, 1) := by decide +kernel
theorem dL_law_143 : decode cL_law 143 = .ok (.aload_n 0, 1) := by decide +kernel
theorem dL_law_144 : decode cL_law 144 = .ok (.iload_n 3, 1) := by decide +kernel
theorem dL_law_145 : decode cL_law 145 = .ok (.iconst 1, 1) := by decide +kernel
theorem dL_law_146 : decode cL_law 146 = .ok (.iadd, 1) := by decide +kernel
theorem dL_law_147 : decode cL_law 147 = .ok (.iaload, 1) := by decide +kernel
theorem dL_law_148 : decode cL_law 148 = .ok (.aload_n 0, 1) := by decide +kernel
theorem dL_law_149 : decode cL_law 149 = .ok (.iload_n 3, 1) := by decide +kernel
theorem dL_law_150 : decode cL_law 150 = .ok (.iconst 2, 1) := by decide +kernel
theorem dL_law_151 : decode cL_law 151 = .ok (.iadd, 1) := by decide +kernel
theorem dL_law_152 : decode cL_law 152 = .ok (.iaload, 1) := by decide +kernel
theorem dL_law_153 : decode cL_law 153 = .ok (.invokevirtual 17, 3) := by decide +kernel
theorem dL_law_156 : decode cL_law 156 = .ok (.if_icmp .eq 512, 3) := by decide +kernel
theorem dL_law_159 : decode cL_law 159 = .ok (.iconst 0, 1) := by decide +kernel
theorem dL_law_160 : decode cL_law 160 = .ok (.ireturn, 1) := by decide +kernel
theorem dL_law_161 : decode cL_law 161 = .ok (.aload_n 1, 1) := by decide +kernel
theorem dL_law_162 : decode cL_law 162 = .ok (.aload_n 0, 1) := by decide +kernel
theorem dL_law_163 : decode cL_law 163 = .ok (.iload_n 3, 1) := by decide +kernel
theorem dL_law_164 : decode cL_law 164 = .ok (.iconst 1, 1) := by decide +kernel
theorem dL_law_165 : decode cL_law 165 = .ok (.iadd, 1) := by decide +kernel
theorem dL_law_166 : decode cL_law 166 = .ok (.iaload, 1) := by decide +kernel
theorem dL_law_167 : decode cL_law 167 = .ok (.aload_n 0, 1) := by decide +kernel
theorem dL_law_168 : decode cL_law 168 = .ok (.iload_n 3, 1) := by decide +kernel
theorem dL_law_169 : decode cL_law 169 = .ok (.iconst 2, 1) := by decide +kernel
theorem dL_law_170 : decode cL_law 170 = .ok (.iadd, 1) := by decide +kernel
theorem dL_law_171 : decode cL_law 171 = .ok (.iaload, 1) := by decide +kernel
theorem dL_law_172 : decode cL_law 172 = .ok (.invokevirtual 18, 3) := by decide +kernel
theorem dL_law_175 : decode cL_law 175 = .ok (.aload_n 2, 1) := by decide +kernel
theorem dL_law_176 : decode cL_law 176 = .ok (.aload_n 0, 1) := by decide +kernel
theorem dL_law_177 : decode cL_law 177 = .ok (.iload_n 3, 1) := by decide +kernel
theorem dL_law_178 : decode cL_law 178 = .ok (.iconst 1, 1) := by decide +kernel
theorem dL_law_179 : decode cL_law 179 = .ok (.iadd, 1) := by decide +kernel
theorem dL_law_180 : decode cL_law 180 = .ok (.iaload, 1) := by decide +kernel
theorem dL_law_181 : decode cL_law 181 = .ok (.aload_n 0, 1) := by decide +kernel
theorem dL_law_182 : decode cL_law 182 = .ok (.iload_n 3, 1) := by decide +kernel
theorem dL_law_183 : decode cL_law 183 = .ok (.iconst 2, 1) := by decide +kernel
theorem dL_law_184 : decode cL_law 184 = .ok (.iadd, 1) := by decide +kernel
theorem dL_law_185 : decode cL_law 185 = .ok (.iaload, 1) := by decide +kernel
theorem dL_law_186 : decode cL_law 186 = .ok (.invokevirtual 21, 3) := by decide +kernel
theorem dL_law_189 : decode cL_law 189 = .ok (.if_icmp .eq 479, 3) := by decide +kernel
theorem dL_law_192 : decode cL_law 192 = .ok (.iconst 0, 1) := by decide +kernel
theorem dL_law_193 : decode cL_law 193 = .ok (.ireturn, 1) := by decide +kernel
theorem dL_law_194 : decode cL_law 194 = .ok (.aload_n 1, 1) := by decide +kernel
theorem dL_law_195 : decode cL_law 195 = .ok (.aload_n 0, 1) := by decide +kernel
theorem dL_law_196 : decode cL_law 196 = .ok (.iload_n 3, 1) := by decide +kernel
theorem dL_law_197 : decode cL_law 197 = .ok (.iconst 1, 1) := by decide +kernel
theorem dL_law_198 : decode cL_law 198 = .ok (.iadd, 1) := by decide +kernel
theorem dL_law_199 : decode cL_law 199 = .ok (.iaload, 1) := by decide +kernel
theorem dL_law_200 : decode cL_law 200 = .ok (.invokevirtual 22, 3) := by decide +kernel
theorem dL_law_203 : decode cL_law 203 = .ok (.aload_n 2, 1) := by decide +kernel
theorem dL_law_204 : decode cL_law 204 = .ok (.aload_n 0, 1) := by decide +kernel
theorem dL_law_205 : decode cL_law 205 = .ok (.iload_n 3, 1) := by decide +kernel
theorem dL_law_206 : decode cL_law 206 = .ok (.iconst 1, 1) := by decide +kernel
theorem dL_law_207 : decode cL_law 207 = .ok (.iadd, 1) := by decide +kernel
theorem dL_law_208 : decode cL_law 208 = .ok (.iaload, 1) := by decide +kernel
theorem dL_law_209 : decode cL_law 209 = .ok (.invokevirtual 26, 3) := by decide +kernel
theorem dL_law_212 : decode cL_law 212 = .ok (.if_icmp .eq 456, 3) := by decide +kernel
theorem dL_law_215 : decode cL_law 215 = .ok (.iconst 0, 1) := by decide +kernel
theorem dL_law_216 : decode cL_law 216 = .ok (.ireturn, 1) := by decide +kernel
theorem dL_law_217 : decode cL_law 217 = .ok (.aload_n 1, 1) := by decide +kernel
theorem dL_law_218 : decode cL_law 218 = .ok (.aload_n 0, 1) := by decide +kernel
theorem dL_law_219 : decode cL_law 219 = .ok (.iload_n 3, 1) := by decide +kernel
theorem dL_law_220 : decode cL_law 220 = .ok (.iconst 1, 1) := by decide +kernel
theorem dL_law_221 : decode cL_law 221 = .ok (.iadd, 1) := by decide +kernel
theorem dL_law_222 : decode cL_law 222 = .ok (.iaload, 1) := by decide +kernel
theorem dL_law_223 : decode cL_law 223 = .ok (.aload_n 0, 1) := by decide +kernel
theorem dL_law_224 : decode cL_law 224 = .ok (.iload_n 3, 1) := by decide +kernel
theorem dL_law_225 : decode cL_law 225 = .ok (.iconst 2, 1) := by decide +kernel
theorem dL_law_226 : decode cL_law 226 = .ok (.iadd, 1) := by decide +kernel
theorem dL_law_227 : decode cL_law 227 = .ok (.iaload, 1) := by decide +kernel
theorem dL_law_228 : decode cL_law 228 = .ok (.invokevirtual 27, 3) := by decide +kernel
theorem dL_law_231 : decode cL_law 231 = .ok (.aload_n 2, 1) := by decide +kernel
theorem dL_law_232 : decode cL_law 232 = .ok (.aload_n 0, 1) := by decide +kernel
theorem dL_law_233 : decode cL_law 233 = .ok (.iload_n 3, 1) := by decide +kernel
theorem dL_law_234 : decode cL_law 234 = .ok (.iconst 1, 1) := by decide +kernel
theorem dL_law_235 : decode cL_law 235 = .ok (.iadd, 1) := by decide +kernel
theorem dL_law_236 : decode cL_law 236 = .ok (.iaload, 1) := by decide +kernel
theorem dL_law_237 : decode cL_law 237 = .ok (.aload_n 0, 1) := by decide +kernel
theorem dL_law_238 : decode cL_law 238 = .ok (.iload_n 3, 1) := by decide +kernel
theorem dL_law_239 : decode cL_law 239 = .ok (.iconst 2, 1) := by decide +kernel
theorem dL_law_240 : decode cL_law 240 = .ok (.iadd, 1) := by decide +kernel
theorem dL_law_241 : decode cL_law 241 = .ok (.iaload, 1) := by decide +kernel
theorem dL_law_242 : decode cL_law 242 = .ok (.invokevirtual 30, 3) := by decide +kernel
theorem dL_law_245 : decode cL_law 245 = .ok (.if_icmp .eq 423, 3) := by decide +kernel
theorem dL_law_248 : decode cL_law 248 = .ok (.iconst 0, 1) := by decide +kernel
theorem dL_law_249 : decode cL_law 249 = .ok (.ireturn, 1) := by decide +kernel
theorem dL_law_250 : decode cL_law 250 = .ok (.aload_n 1, 1) := by decide +kernel
theorem dL_law_251 : decode cL_law 251 = .ok (.aload_n 0, 1) := by decide +kernel
theorem dL_law_252 : decode cL_law 252 = .ok (.iload_n 3, 1) := by decide +kernel
theorem dL_law_253 : decode cL_law 253 = .ok (.iconst 1, 1) := by decide +kernel
theorem dL_law_254 : decode cL_law 254 = .ok (.iadd, 1) := by decide +kernel
theorem dL_law_255 : decode cL_law 255 = .ok (.iaload, 1) := by decide +kernel
theorem dL_law_256 : decode cL_law 256 = .ok (.aload_n 0, 1) := by decide +kernel
theorem dL_law_257 : decode cL_law 257 = .ok (.iload_n 3, 1) := by decide +kernel
theorem dL_law_258 : decode cL_law 258 = .ok (.iconst 2, 1) := by decide +kernel
theorem dL_law_259 : decode cL_law 259 = .ok (.iadd, 1) := by decide +kernel
theorem dL_law_260 : decode cL_law 260 = .ok (.iaload, 1) := by decide +kernel
theorem dL_law_261 : decode cL_law 261 = .ok (.invokevirtual 31, 3) := by decide +kernel
theorem dL_law_264 : decode cL_law 264 = .ok (.aload_n 2, 1) := by decide +kernel
theorem dL_law_265 : decode cL_law 265 = .ok (.aload_n 0, 1) := by decide +kernel
theorem dL_law_266 : decode cL_law 266 = .ok (.iload_n 3, 1) := by decide +kernel
theorem dL_law_267 : decode cL_law 267 = .ok (.iconst 1, 1) := by decide +kernel
theorem dL_law_268 : decode cL_law 268 = .ok (.iadd, 1) := by decide +kernel
theorem dL_law_269 : decode cL_law 269 = .ok (.iaload, 1) := by decide +kernel
theorem dL_law_270 : decode cL_law 270 = .ok (.aload_n 0, 1) := by decide +kernel
theorem dL_law_271 : decode cL_law 271 = .ok (.iload_n 3, 1) := by decide +kernel
theorem dL_law_272 : decode cL_law 272 = .ok (.iconst 2, 1) := by decide +kernel
theorem dL_law_273 : decode cL_law 273 = .ok (.iadd, 1) := by decide +kernel
theorem dL_law_274 : decode cL_law 274 = .ok (.iaload, 1) := by decide +kernel
theorem dL_law_275 : decode cL_law 275 = .ok (.invokevirtual 34, 3) := by decide +kernel
theorem dL_law_278 : decode cL_law 278 = .ok (.if_icmp .eq 390, 3) := by decide +kernel
theorem dL_law_281 : decode cL_law 281 = .ok (.iconst 0, 1) := by decide +kernel
theorem dL_law_282 : decode cL_law 282 = .ok (.ireturn, 1) := by decide +kernel
theorem dL_law_283 : decode cL_law 283 = .ok (.aload_n 1, 1) := by decide +kernel
theorem dL_law_284 : decode cL_law 284 = .ok (.aload_n 0, 1) := by decide +kernel
theorem dL_law_285 : decode cL_law 285 = .ok (.iload_n 3, 1) := by decide +kernel
theorem dL_law_286 : decode cL_law 286 = .ok (.iconst 1, 1) := by decide +kernel
theorem dL_law_287 : decode cL_law 287 = .ok (.iadd, 1) := by decide +kernel
theorem dL_law_288 : decode cL_law 288 = .ok (.iaload, 1) := by decide +kernel
theorem dL_law_289 : decode cL_law 289 = .ok (.invokevirtual 35, 3) := by decide +kernel
theorem dL_law_292 : decode cL_law 292 = .ok (.aload_n 2, 1) := by decide +kernel
theorem dL_law_293 : decode cL_law 293 = .ok (.aload_n 0, 1) := by decide +kernel
theorem dL_law_294 : decode cL_law 294 = .ok (.iload_n 3, 1) := by decide +kernel
theorem dL_law_295 : decode cL_law 295 = .ok (.iconst 1, 1) := by decide +kernel
theorem dL_law_296 : decode cL_law 296 = .ok (.iadd, 1) := by decide +kernel
theorem dL_law_297 : decode cL_law 297 = .ok (.iaload, 1) := by decide +kernel
theorem dL_law_298 : decode cL_law 298 = .ok (.invokevirtual 38, 3) := by decide +kernel
theorem dL_law_301 : decode cL_law 301 = .ok (.if_icmp .eq 367, 3) := by decide +kernel
theorem dL_law_304 : decode cL_law 304 = .ok (.iconst 0, 1) := by decide +kernel
theorem dL_law_305 : decode cL_law 305 = .ok (.ireturn, 1) := by decide +kernel
theorem dL_law_306 : decode cL_law 306 = .ok (.aload_n 1, 1) := by decide +kernel
theorem dL_law_307 : decode cL_law 307 = .ok (.invokevirtual 39, 3) := by decide +kernel
theorem dL_law_310 : decode cL_law 310 = .ok (.aload_n 2, 1) := by decide +kernel
theorem dL_law_311 : decode cL_law 311 = .ok (.invokevirtual 43, 3) := by decide +kernel
theorem dL_law_314 : decode cL_law 314 = .ok (.if_icmp .eq 354, 3) := by decide +kernel
theorem dL_law_317 : decode cL_law 317 = .ok (.iconst 0, 1) := by decide +kernel
theorem dL_law_318 : decode cL_law 318 = .ok (.ireturn, 1) := by decide +kernel
theorem dL_law_319 : decode cL_law 319 = .ok (.aload_n 1, 1) := by decide +kernel
theorem dL_law_320 : decode cL_law 320 = .ok (.aload_n 0, 1) := by decide +kernel
theorem dL_law_321 : decode cL_law 321 = .ok (.iload_n 3, 1) := by decide +kernel
theorem dL_law_322 : decode cL_law 322 = .ok (.iconst 1, 1) := by decide +kernel
theorem dL_law_323 : decode cL_law 323 = .ok (.iadd, 1) := by decide +kernel
theorem dL_law_324 : decode cL_law 324 = .ok (.iaload, 1) := by decide +kernel
theorem dL_law_325 : decode cL_law 325 = .ok (.aload_n 0, 1) := by decide +kernel
theorem dL_law_326 : decode cL_law 326 = .ok (.iload_n 3, 1) := by decide +kernel
theorem dL_law_327 : decode cL_law 327 = .ok (.iconst 2, 1) := by decide +kernel
theorem dL_law_328 : decode cL_law 328 = .ok (.iadd, 1) := by decide +kernel
theorem dL_law_329 : decode cL_law 329 = .ok (.iaload, 1) := by decide +kernel
theorem dL_law_330 : decode cL_law 330 = .ok (.invokevirtual 44, 3) := by decide +kernel
theorem dL_law_333 : decode cL_law 333 = .ok (.aload_n 2, 1) := by decide +kernel
theorem dL_law_334 : decode cL_law 334 = .ok (.aload_n 0, 1) := by decide +kernel
theorem dL_law_335 : decode cL_law 335 = .ok (.iload_n 3, 1) := by decide +kernel
theorem dL_law_336 : decode cL_law 336 = .ok (.iconst 1, 1) := by decide +kernel
theorem dL_law_337 : decode cL_law 337 = .ok (.iadd, 1) := by decide +kernel
theorem dL_law_338 : decode cL_law 338 = .ok (.iaload, 1) := by decide +kernel
theorem dL_law_339 : decode cL_law 339 = .ok (.aload_n 0, 1) := by decide +kernel
theorem dL_law_340 : decode cL_law 340 = .ok (.iload_n 3, 1) := by decide +kernel
theorem dL_law_341 : decode cL_law 341 = .ok (.iconst 2, 1) := by decide +kernel
theorem dL_law_342 : decode cL_law 342 = .ok (.iadd, 1) := by decide +kernel
theorem dL_law_343 : decode cL_law 343 = .ok (.iaload, 1) := by decide +kernel
theorem dL_law_344 : decode cL_law 344 = .ok (.invokevirtual 47, 3) := by decide +kernel
theorem dL_law_347 : decode cL_law 347 = .ok (.if_icmp .eq 321, 3) := by decide +kernel
theorem dL_law_350 : decode cL_law 350 = .ok (.iconst 0, 1) := by decide +kernel
theorem dL_law_351 : decode cL_law 351 = .ok (.ireturn, 1) := by decide +kernel
theorem dL_law_352 : decode cL_law 352 = .ok (.aload_n 1, 1) := by decide +kernel
theorem dL_law_353 : decode cL_law 353 = .ok (.aload_n 0, 1) := by decide +kernel
theorem dL_law_354 : decode cL_law 354 = .ok (.iload_n 3, 1) := by decide +kernel
theorem dL_law_355 : decode cL_law 355 = .ok (.iconst 1, 1) := by decide +kernel
theorem dL_law_356 : decode cL_law 356 = .ok (.iadd, 1) := by decide +kernel
theorem dL_law_357 : decode cL_law 357 = .ok (.iaload, 1) := by decide +kernel
theorem dL_law_358 : decode cL_law 358 = .ok (.aload_n 0, 1) := by decide +kernel
theorem dL_law_359 : decode cL_law 359 = .ok (.iload_n 3, 1) := by decide +kernel
theorem dL_law_360 : decode cL_law 360 = .ok (.iconst 2, 1) := by decide +kernel
theorem dL_law_361 : decode cL_law 361 = .ok (.iadd, 1) := by decide +kernel
theorem dL_law_362 : decode cL_law 362 = .ok (.iaload, 1) := by decide +kernel
theorem dL_law_363 : decode cL_law 363 = .ok (.invokevirtual 48, 3) := by decide +kernel
theorem dL_law_366 : decode cL_law 366 = .ok (.aload_n 2, 1) := by decide +kernel
theorem dL_law_367 : decode cL_law 367 = .ok (.aload_n 0, 1) := by decide +kernel
theorem dL_law_368 : decode cL_law 368 = .ok (.iload_n 3, 1) := by decide +kernel
theorem dL_law_369 : decode cL_law 369 = .ok (.iconst 1, 1) := by decide +kernel
theorem dL_law_370 : decode cL_law 370 = .ok (.iadd, 1) := by decide +kernel
theorem dL_law_371 : decode cL_law 371 = .ok (.iaload, 1) := by decide +kernel
theorem dL_law_372 : decode cL_law 372 = .ok (.aload_n 0, 1) := by decide +kernel
theorem dL_law_373 : decode cL_law 373 = .ok (.iload_n 3, 1) := by decide +kernel
theorem dL_law_374 : decode cL_law 374 = .ok (.iconst 2, 1) := by decide +kernel
theorem dL_law_375 : decode cL_law 375 = .ok (.iadd, 1) := by decide +kernel
theorem dL_law_376 : decode cL_law 376 = .ok (.iaload, 1) := by decide +kernel
theorem dL_law_377 : decode cL_law 377 = .ok (.invokevirtual 51, 3) := by decide +kernel
theorem dL_law_380 : decode cL_law 380 = .ok (.if_icmp .eq 288, 3) := by decide +kernel
theorem dL_law_383 : decode cL_law 383 = .ok (.iconst 0, 1) := by decide +kernel
theorem dL_law_384 : decode cL_law 384 = .ok (.ireturn, 1) := by decide +kernel
theorem dL_law_385 : decode cL_law 385 = .ok (.aload_n 1, 1) := by decide +kernel
theorem dL_law_386 : decode cL_law 386 = .ok (.aload_n 0, 1) := by decide +kernel
theorem dL_law_387 : decode cL_law 387 = .ok (.iload_n 3, 1) := by decide +kernel
theorem dL_law_388 : decode cL_law 388 = .ok (.iconst 1, 1) := by decide +kernel
theorem dL_law_389 : decode cL_law 389 = .ok (.iadd, 1) := by decide +kernel
theorem dL_law_390 : decode cL_law 390 = .ok (.iaload, 1) := by decide +kernel
theorem dL_law_391 : decode cL_law 391 = .ok (.aload_n 0, 1) := by decide +kernel
theorem dL_law_392 : decode cL_law 392 = .ok (.iload_n 3, 1) := by decide +kernel
theorem dL_law_393 : decode cL_law 393 = .ok (.iconst 2, 1) := by decide +kernel
theorem dL_law_394 : decode cL_law 394 = .ok (.iadd, 1) := by decide +kernel
theorem dL_law_395 : decode cL_law 395 = .ok (.iaload, 1) := by decide +kernel
theorem dL_law_396 : decode cL_law 396 = .ok (.invokevirtual 52, 3) := by decide +kernel
theorem dL_law_399 : decode cL_law 399 = .ok (.aload_n 2, 1) := by decide +kernel
theorem dL_law_400 : decode cL_law 400 = .ok (.aload_n 0, 1) := by decide +kernel
theorem dL_law_401 : decode cL_law 401 = .ok (.iload_n 3, 1) := by decide +kernel
theorem dL_law_402 : decode cL_law 402 = .ok (.iconst 1, 1) := by decide +kernel
theorem dL_law_403 : decode cL_law 403 = .ok (.iadd, 1) := by decide +kernel
theorem dL_law_404 : decode cL_law 404 = .ok (.iaload, 1) := by decide +kernel
theorem dL_law_405 : decode cL_law 405 = .ok (.aload_n 0, 1) := by decide +kernel
theorem dL_law_406 : decode cL_law 406 = .ok (.iload_n 3, 1) := by decide +kernel
theorem dL_law_407 : decode cL_law 407 = .ok (.iconst 2, 1) := by decide +kernel
theorem dL_law_408 : decode cL_law 408 = .ok (.iadd, 1) := by decide +kernel
theorem dL_law_409 : decode cL_law 409 = .ok (.iaload, 1) := by decide +kernel
theorem dL_law_410 : decode cL_law 410 = .ok (.invokevirtual 55, 3) := by decide +kernel
theorem dL_law_413 : decode cL_law 413 = .ok (.if_icmp .eq 255, 3) := by decide +kernel
theorem dL_law_416 : decode cL_law 416 = .ok (.iconst 0, 1) := by decide +kernel
theorem dL_law_417 : decode cL_law 417 = .ok (.ireturn, 1) := by decide +kernel
theorem dL_law_418 : decode cL_law 418 = .ok (.aload_n 1, 1) := by decide +kernel
theorem dL_law_419 : decode cL_law 419 = .ok (.aload_n 0, 1) := by decide +kernel
theorem dL_law_420 : decode cL_law 420 = .ok (.iload_n 3, 1) := by decide +kernel
theorem dL_law_421 : decode cL_law 421 = .ok (.iconst 1, 1) := by decide +kernel
theorem dL_law_422 : decode cL_law 422 = .ok (.iadd, 1) := by decide +kernel
theorem dL_law_423 : decode cL_law 423 = .ok (.iaload, 1) := by decide +kernel
theorem dL_law_424 : decode cL_law 424 = .ok (.aload_n 0, 1) := by decide +kernel
theorem dL_law_425 : decode cL_law 425 = .ok (.iload_n 3, 1) := by decide +kernel
theorem dL_law_426 : decode cL_law 426 = .ok (.iconst 2, 1) := by decide +kernel
theorem dL_law_427 : decode cL_law 427 = .ok (.iadd, 1) := by decide +kernel
theorem dL_law_428 : decode cL_law 428 = .ok (.iaload, 1) := by decide +kernel
theorem dL_law_429 : decode cL_law 429 = .ok (.invokevirtual 56, 3) := by decide +kernel
theorem dL_law_432 : decode cL_law 432 = .ok (.aload_n 2, 1) := by decide +kernel
theorem dL_law_433 : decode cL_law 433 = .ok (.aload_n 0, 1) := by decide +kernel
theorem dL_law_434 : decode cL_law 434 = .ok (.iload_n 3, 1) := by decide +kernel
theorem dL_law_435 : decode cL_law 435 = .ok (.iconst 1, 1) := by decide +kernel
theorem dL_law_436 : decode cL_law 436 = .ok (.iadd, 1) := by decide +kernel
theorem dL_law_437 : decode cL_law 437 = .ok (.iaload, 1) := by decide +kernel
theorem dL_law_438 : decode cL_law 438 = .ok (.aload_n 0, 1) := by decide +kernel
theorem dL_law_439 : decode cL_law 439 = .ok (.iload_n 3, 1) := by decide +kernel
theorem dL_law_440 : decode cL_law 440 = .ok (.iconst 2, 1) := by decide +kernel
theorem dL_law_441 : decode cL_law 441 = .ok (.iadd, 1) := by decide +kernel
theorem dL_law_442 : decode cL_law 442 = .ok (.iaload, 1) := by decide +kernel
theorem dL_law_443 : decode cL_law 443 = .ok (.invokevirtual 59, 3) := by decide +kernel
theorem dL_law_446 : decode cL_law 446 = .ok (.if_icmp .eq 222, 3) := by decide +kernel
theorem dL_law_449 : decode cL_law 449 = .ok (.iconst 0, 1) := by decide +kernel
theorem dL_law_450 : decode cL_law 450 = .ok (.ireturn, 1) := by decide +kernel
theorem dL_law_451 : decode cL_law 451 = .ok (.aload_n 1, 1) := by decide +kernel
theorem dL_law_452 : decode cL_law 452 = .ok (.aload_n 0, 1) := by decide +kernel
theorem dL_law_453 : decode cL_law 453 = .ok (.iload_n 3, 1) := by decide +kernel
theorem dL_law_454 : decode cL_law 454 = .ok (.iconst 1, 1) := by decide +kernel
theorem dL_law_455 : decode cL_law 455 = .ok (.iadd, 1) := by decide +kernel
theorem dL_law_456 : decode cL_law 456 = .ok (.iaload, 1) := by decide +kernel
theorem dL_law_457 : decode cL_law 457 = .ok (.invokevirtual 60, 3) := by decide +kernel
theorem dL_law_460 : decode cL_law 460 = .ok (.aload_n 2, 1) := by decide +kernel
theorem dL_law_461 : decode cL_law 461 = .ok (.aload_n 0, 1) := by decide +kernel
theorem dL_law_462 : decode cL_law 462 = .ok (.iload_n 3, 1) := by decide +kernel
theorem dL_law_463 : decode cL_law 463 = .ok (.iconst 1, 1) := by decide +kernel
theorem dL_law_464 : decode cL_law 464 = .ok (.iadd, 1) := by decide +kernel
theorem dL_law_465 : decode cL_law 465 = .ok (.iaload, 1) := by decide +kernel
theorem dL_law_466 : decode cL_law 466 = .ok (.invokevirtual 63, 3) := by decide +kernel
theorem dL_law_469 : decode cL_law 469 = .ok (.if_icmp .eq 199, 3) := by decide +kernel
theorem dL_law_472 : decode cL_law 472 = .ok (.iconst 0, 1) := by decide +kernel
theorem dL_law_473 : decode cL_law 473 = .ok (.ireturn, 1) := by decide +kernel
theorem dL_law_474 : decode cL_law 474 = .ok (.aload_n 1, 1) := by decide +kernel
theorem dL_law_475 : decode cL_law 475 = .ok (.aload_n 0, 1) := by decide +kernel
theorem dL_law_476 : decode cL_law 476 = .ok (.iload_n 3, 1) := by decide +kernel
theorem dL_law_477 : decode cL_law 477 = .ok (.iconst 1, 1) := by decide +kernel
theorem dL_law_478 : decode cL_law 478 = .ok (.iadd, 1) := by decide +kernel
theorem dL_law_479 : decode cL_law 479 = .ok (.iaload, 1) := by decide +kernel
theorem dL_law_480 : decode cL_law 480 = .ok (.aload_n 0, 1) := by decide +kernel
theorem dL_law_481 : decode cL_law 481 = .ok (.iload_n 3, 1) := by decide +kernel
theorem dL_law_482 : decode cL_law 482 = .ok (.iconst 2, 1) := by decide +kernel
theorem dL_law_483 : decode cL_law 483 = .ok (.iadd, 1) := by decide +kernel
theorem dL_law_484 : decode cL_law 484 = .ok (.iaload, 1) := by decide +kernel
theorem dL_law_485 : decode cL_law 485 = .ok (.aload_n 0, 1) := by decide +kernel
theorem dL_law_486 : decode cL_law 486 = .ok (.iload_n 3, 1) := by decide +kernel
theorem dL_law_487 : decode cL_law 487 = .ok (.iconst 3, 1) := by decide +kernel
theorem dL_law_488 : decode cL_law 488 = .ok (.iadd, 1) := by decide +kernel
theorem dL_law_489 : decode cL_law 489 = .ok (.iaload, 1) := by decide +kernel
theorem dL_law_490 : decode cL_law 490 = .ok (.invokevirtual 64, 3) := by decide +kernel
theorem dL_law_493 : decode cL_law 493 = .ok (.aload_n 2, 1) := by decide +kernel
theorem dL_law_494 : decode cL_law 494 = .ok (.aload_n 0, 1) := by decide +kernel
theorem dL_law_495 : decode cL_law 495 = .ok (.iload_n 3, 1) := by decide +kernel
theorem dL_law_496 : decode cL_law 496 = .ok (.iconst 1, 1) := by decide +kernel
theorem dL_law_497 : decode cL_law 497 = .ok (.iadd, 1) := by decide +kernel
theorem dL_law_498 : decode cL_law 498 = .ok (.iaload, 1) := by decide +kernel
theorem dL_law_499 : decode cL_law 499 = .ok (.aload_n 0, 1) := by decide +kernel
theorem dL_law_500 : decode cL_law 500 = .ok (.iload_n 3, 1) := by decide +kernel
theorem dL_law_501 : decode cL_law 501 = .ok (.iconst 2, 1) := by decide +kernel
theorem dL_law_502 : decode cL_law 502 = .ok (.iadd, 1) := by decide +kernel
theorem dL_law_503 : decode cL_law 503 = .ok (.iaload, 1) := by decide +kernel
theorem dL_law_504 : decode cL_law 504 = .ok (.aload_n 0, 1) := by decide +kernel
theorem dL_law_505 : decode cL_law 505 = .ok (.iload_n 3, 1) := by decide +kernel
theorem dL_law_506 : decode cL_law 506 = .ok (.iconst 3, 1) := by decide +kernel
theorem dL_law_507 : decode cL_law 507 = .ok (.iadd, 1) := by decide +kernel
theorem dL_law_508 : decode cL_law 508 = .ok (.iaload, 1) := by decide +kernel
theorem dL_law_509 : decode cL_law 509 = .ok (.invokevirtual 68, 3) := by decide +kernel
theorem dL_law_512 : decode cL_law 512 = .ok (.if_icmp .eq 156, 3) := by decide +kernel
theorem dL_law_515 : decode cL_law 515 = .ok (.iconst 0, 1) := by decide +kernel
theorem dL_law_516 : decode cL_law 516 = .ok (.ireturn, 1) := by decide +kernel
theorem dL_law_517 : decode cL_law 517 = .ok (.aload_n 1, 1) := by decide +kernel
theorem dL_law_518 : decode cL_law 518 = .ok (.aload_n 0, 1) := by decide +kernel
theorem dL_law_519 : decode cL_law 519 = .ok (.iload_n 3, 1) := by decide +kernel
theorem dL_law_520 : decode cL_law 520 = .ok (.iconst 1, 1) := by decide +kernel
theorem dL_law_521 : decode cL_law 521 = .ok (.iadd, 1) := by decide +kernel
theorem dL_law_522 : decode cL_law 522 = .ok (.iaload, 1) := by decide +kernel
theorem dL_law_523 : decode cL_law 523 = .ok (.aload_n 0, 1) := by decide +kernel
theorem dL_law_524 : decode cL_law 524 = .ok (.iload_n 3, 1) := by decide +kernel
theorem dL_law_525 : decode cL_law 525 = .ok (.iconst 2, 1) := by decide +kernel
theorem dL_law_526 : decode cL_law 526 = .ok (.iadd, 1) := by decide +kernel
theorem dL_law_527 : decode cL_law 527 = .ok (.iaload, 1) := by decide +kernel
theorem dL_law_528 : decode cL_law 528 = .ok (.invokevirtual 69, 3) := by decide +kernel
theorem dL_law_531 : decode cL_law 531 = .ok (.aload_n 2, 1) := by decide +kernel
theorem dL_law_532 : decode cL_law 532 = .ok (.aload_n 0, 1) := by decide +kernel
theorem dL_law_533 : decode cL_law 533 = .ok (.iload_n 3, 1) := by decide +kernel
theorem dL_law_534 : decode cL_law 534 = .ok (.iconst 1, 1) := by decide +kernel
theorem dL_law_535 : decode cL_law 535 = .ok (.iadd, 1) := by decide +kernel
theorem dL_law_536 : decode cL_law 536 = .ok (.iaload, 1) := by decide +kernel
theorem dL_law_537 : decode cL_law 537 = .ok (.aload_n 0, 1) := by decide +kernel
theorem dL_law_538 : decode cL_law 538 = .ok (.iload_n 3, 1) := by decide +kernel
theorem dL_law_539 : decode cL_law 539 = .ok (.iconst 2, 1) := by decide +kernel
theorem dL_law_540 : decode cL_law 540 = .ok (.iadd, 1) := by decide +kernel
theorem dL_law_541 : decode cL_law 541 = .ok (.iaload, 1) := by decide +kernel
theorem dL_law_542 : decode cL_law 542 = .ok (.invokevirtual 72, 3) := by decide +kernel
theorem dL_law_545 : decode cL_law 545 = .ok (.if_icmp .eq 123, 3) := by decide +kernel
theorem dL_law_548 : decode cL_law 548 = .ok (.iconst 0, 1) := by decide +kernel
theorem dL_law_549 : decode cL_law 549 = .ok (.ireturn, 1) := by decide +kernel
theorem dL_law_550 : decode cL_law 550 = .ok (.aload_n 1, 1) := by decide +kernel
theorem dL_law_551 : decode cL_law 551 = .ok (.aload_n 0, 1) := by decide +kernel
theorem dL_law_552 : decode cL_law 552 = .ok (.iload_n 3, 1) := by decide +kernel
theorem dL_law_553 : decode cL_law 553 = .ok (.iconst 1, 1) := by decide +kernel
theorem dL_law_554 : decode cL_law 554 = .ok (.iadd, 1) := by decide +kernel
theorem dL_law_555 : decode cL_law 555 = .ok (.iaload, 1) := by decide +kernel
theorem dL_law_556 : decode cL_law 556 = .ok (.invokevirtual 73, 3) := by decide +kernel
theorem dL_law_559 : decode cL_law 559 = .ok (.aload_n 2, 1) := by decide +kernel
theorem dL_law_560 : decode cL_law 560 = .ok (.aload_n 0, 1) := by decide +kernel
theorem dL_law_561 : decode cL_law 561 = .ok (.iload_n 3, 1) := by decide +kernel
theorem dL_law_562 : decode cL_law 562 = .ok (.iconst 1, 1) := by decide +kernel
theorem dL_law_563 : decode cL_law 563 = .ok (.iadd, 1) := by decide +kernel
theorem dL_law_564 : decode cL_law 564 = .ok (.iaload, 1) := by decide +kernel
theorem dL_law_565 : decode cL_law 565 = .ok (.invokevirtual 76, 3) := by decide +kernel
theorem dL_law_568 : decode cL_law 568 = .ok (.if_icmp .eq 100, 3) := by decide +kernel
theorem dL_law_571 : decode cL_law 571 = .ok (.iconst 0, 1) := by decide +kernel
theorem dL_law_572 : decode cL_law 572 = .ok (.ireturn, 1) := by decide +kernel
theorem dL_law_573 : decode cL_law 573 = .ok (.aload_n 1, 1) := by decide +kernel
theorem dL_law_574 : decode cL_law 574 = .ok (.aload_n 0, 1) := by decide +kernel
theorem dL_law_575 : decode cL_law 575 = .ok (.iload_n 3, 1) := by decide +kernel
theorem dL_law_576 : decode cL_law 576 = .ok (.iconst 1, 1) := by decide +kernel
theorem dL_law_577 : decode cL_law 577 = .ok (.iadd, 1) := by decide +kernel
theorem dL_law_578 : decode cL_law 578 = .ok (.iaload, 1) := by decide +kernel
theorem dL_law_579 : decode cL_law 579 = .ok (.invokevirtual 77, 3) := by decide +kernel
theorem dL_law_582 : decode cL_law 582 = .ok (.aload_n 2, 1) := by decide +kernel
theorem dL_law_583 : decode cL_law 583 = .ok (.aload_n 0, 1) := by decide +kernel
theorem dL_law_584 : decode cL_law 584 = .ok (.iload_n 3, 1) := by decide +kernel
theorem dL_law_585 : decode cL_law 585 = .ok (.iconst 1, 1) := by decide +kernel
theorem dL_law_586 : decode cL_law 586 = .ok (.iadd, 1) := by decide +kernel
theorem dL_law_587 : decode cL_law 587 = .ok (.iaload, 1) := by decide +kernel
theorem dL_law_588 : decode cL_law 588 = .ok (.invokevirtual 80, 3) := by decide +kernel
theorem dL_law_591 : decode cL_law 591 = .ok (.if_icmp .eq 77, 3) := by decide +kernel
theorem dL_law_594 : decode cL_law 594 = .ok (.iconst 0, 1) := by decide +kernel
theorem dL_law_595 : decode cL_law 595 = .ok (.ireturn, 1) := by decide +kernel
theorem dL_law_596 : decode cL_law 596 = .ok (.aload_n 1, 1) := by decide +kernel
theorem dL_law_597 : decode cL_law 597 = .ok (.aload_n 0, 1) := by decide +kernel
theorem dL_law_598 : decode cL_law 598 = .ok (.iload_n 3, 1) := by decide +kernel
theorem dL_law_599 : decode cL_law 599 = .ok (.iconst 1, 1) := by decide +kernel
theorem dL_law_600 : decode cL_law 600 = .ok (.iadd, 1) := by decide +kernel
theorem dL_law_601 : decode cL_law 601 = .ok (.iaload, 1) := by decide +kernel
theorem dL_law_602 : decode cL_law 602 = .ok (.invokevirtual 81, 3) := by decide +kernel
theorem dL_law_605 : decode cL_law 605 = .ok (.aload_n 2, 1) := by decide +kernel
theorem dL_law_606 : decode cL_law 606 = .ok (.aload_n 0, 1) := by decide +kernel
theorem dL_law_607 : decode cL_law 607 = .ok (.iload_n 3, 1) := by decide +kernel
theorem dL_law_608 : decode cL_law 608 = .ok (.iconst 1, 1) := by decide +kernel
theorem dL_law_609 : decode cL_law 609 = .ok (.iadd, 1) := by decide +kernel
theorem dL_law_610 : decode cL_law 610 = .ok (.iaload, 1) := by decide +kernel
theorem dL_law_611 : decode cL_law 611 = .ok (.invokevirtual 84, 3) := by decide +kernel
theorem dL_law_614 : decode cL_law 614 = .ok (.if_icmp .eq 54, 3) := by decide +kernel
theorem dL_law_617 : decode cL_law 617 = .ok (.iconst 0, 1) := by decide +kernel
theorem dL_law_618 : decode cL_law 618 = .ok (.ireturn, 1) := by decide +kernel
theorem dL_law_619 : decode cL_law 619 = .ok (.aload_n 1, 1) := by decide +kernel
theorem dL_law_620 : decode cL_law 620 = .ok (.invokevirtual 85, 3) := by decide +kernel
theorem dL_law_623 : decode cL_law 623 = .ok (.aload_n 2, 1) := by decide +kernel
theorem dL_law_624 : decode cL_law 624 = .ok (.invokevirtual 88, 3) := by decide +kernel
theorem dL_law_627 : decode cL_law 627 = .ok (.if_icmp .eq 41, 3) := by decide +kernel
theorem dL_law_630 : decode cL_law 630 = .ok (.iconst 0, 1) := by decide +kernel
theorem dL_law_631 : decode cL_law 631 = .ok (.ireturn, 1) := by decide +kernel
theorem dL_law_632 : decode cL_law 632 = .ok (.aload_n 1, 1) := by decide +kernel
theorem dL_law_633 : decode cL_law 633 = .ok (.aload_n 0, 1) := by decide +kernel
theorem dL_law_634 : decode cL_law 634 = .ok (.iload_n 3, 1) := by decide +kernel
theorem dL_law_635 : decode cL_law 635 = .ok (.iconst 1, 1) := by decide +kernel
theorem dL_law_636 : decode cL_law 636 = .ok (.iadd, 1) := by decide +kernel
theorem dL_law_637 : decode cL_law 637 = .ok (.iaload, 1) := by decide +kernel
theorem dL_law_638 : decode cL_law 638 = .ok (.invokevirtual 89, 3) := by decide +kernel
theorem dL_law_641 : decode cL_law 641 = .ok (.aload_n 2, 1) := by decide +kernel
theorem dL_law_642 : decode cL_law 642 = .ok (.aload_n 0, 1) := by decide +kernel
theorem dL_law_643 : decode cL_law 643 = .ok (.iload_n 3, 1) := by decide +kernel
theorem dL_law_644 : decode cL_law 644 = .ok (.iconst 1, 1) := by decide +kernel
theorem dL_law_645 : decode cL_law 645 = .ok (.iadd, 1) := by decide +kernel
theorem dL_law_646 : decode cL_law 646 = .ok (.iaload, 1) := by decide +kernel
theorem dL_law_647 : decode cL_law 647 = .ok (.invokevirtual 92, 3) := by decide +kernel
theorem dL_law_650 : decode cL_law 650 = .ok (.if_icmp .eq 18, 3) := by decide +kernel
theorem dL_law_653 : decode cL_law 653 = .ok (.iconst 0, 1) := by decide +kernel
theorem dL_law_654 : decode cL_law 654 = .ok (.ireturn, 1) := by decide +kernel
theorem dL_law_655 : decode cL_law 655 = .ok (.aload_n 1, 1) := by decide +kernel
theorem dL_law_656 : decode cL_law 656 = .ok (.invokevirtual 93, 3) := by decide +kernel
theorem dL_law_659 : decode cL_law 659 = .ok (.aload_n 2, 1) := by decide +kernel
theorem dL_law_660 : decode cL_law 660 = .ok (.invokevirtual 96, 3) := by decide +kernel
theorem dL_law_663 : decode cL_law 663 = .ok (.if_icmp .eq 5, 3) := by decide +kernel
theorem dL_law_666 : decode cL_law 666 = .ok (.iconst 0, 1) := by decide +kernel
theorem dL_law_667 : decode cL_law 667 = .ok (.ireturn, 1) := by decide +kernel
theorem dL_law_668 : decode cL_law 668 = .ok (.iinc 3 4, 3) := by decide +kernel
theorem dL_law_671 : decode cL_law 671 = .ok (.goto (-653), 3) := by decide +kernel
theorem dL_law_674 : decode cL_law 674 = .ok (.iconst 1, 1) := by decide +kernel
theorem dL_law_675 : decode cL_law 675 = .ok (.ireturn, 1) := by decide +kernel
/-! THE CLAIM OUT OF ONE WALK OF THE LAW'S BODY. Your part is whole_start (and what it stands on); all else here is the same for every law, but numbers. -/
def R_law : String := "TramWiresLaw"
def lw_P (b : Addr) (xs : List Int32) (args : Array Value) (s : State) : Prop := args = #[.ref b] ∧ s.IntsAt b xs ∧ xs.length ≤ 2048 ∧ (Jvm.Cond.and given_1 narrow_1).before args s = true
def lw_Q (_ : Array Value) (s : State) (o : Outcome) (t : State) : Prop := o = .returned (some (.int 1)) ∧ Framed s o t [] 600000 7302250
def lw_Z (below : List Frame) (a : Array Value) (s : State) : State → Prop := fun t => ∃ o, t.status = .running ∧ Ended t below o ∧ lw_Q a s o t
/-- the law's own end, with 1 on the stack, nothing written that was there before, its room as the claim has it -/
theorem lw_ret {p : Program} {l : Launch} {e : Env} {s : State} {m : MethodId} {below : List Frame} {meth : Method} {c : Code} {b : Nat} (hx : p.tables.exec = Jvm.exec) (hb : c.code = code) (hr : meth.sig.returnType = ret) (hlocks : meth.locks = false) {pc : Nat} {H : Heap} {ls : Array Slot} (hdg : decode code pc = .ok (.ireturn, 1)) : W p l e room_1 s m #[Value.ref b] below meth c H [] 600000 7302250 (lw_Z below #[Value.ref b] s) (F0 m pc ls [.int 1]) := by
  intro T hT X
  obtain ⟨fs, hret, hrun, hended, hW, hframe⟩ := X.leave (v := some (.int 1)) (hlocks := hlocks) (fun h => by rw [hr] at h; cases h)
  have hmeth' : T.vm.method? m = some meth := X.method'
  refine ⟨T.setFrames fs, ?_, .returned (some (.int 1)), hrun, hended, rfl, ⟨_, rfl⟩, hW, hframe⟩
  jvm_step X.here [X.here.top, hx, hb, hdg, hmeth', hr, ret, narrow_b1]
  (try refine ⟨rfl, ?_⟩); (try refine ⟨rfl, ?_⟩)
  first | (intro acts; rw [hret _ acts rfl rfl rfl]) | rw [hret _ _ rfl rfl rfl]
  exact Steps.refl _
/-- what holds at the law's entry: the machine, the code, the tables' words (any of lw_tbl by 'hts w (by decide +kernel)'), the script of L ints xs at the cell b, what the Statement gives of the start (any of its parts by flat_of_before) -/
def lw_At (p : Program) (s : State) (m : MethodId) (meth : Method) (c : Code) (b L : Nat) (xs : Nat → Int32) : Prop :=
  p.tables.exec = Jvm.exec ∧ c.code = code ∧ meth.sig.returnType = ret ∧ c.maxLocals = 4 ∧ s.vm.findClass R_law = some m.cls ∧ (∀ w ∈ lw_tbl, w.before #[Value.ref b] s = true) ∧ va_X b L xs s s.heap ∧ b < s.heap.size ∧ meth.locks = false ∧ (Jvm.Cond.and given_1 narrow_1).before #[Value.ref b] s = true
/-! the script and the law's own end -/
def Sc (E : Cx) (b N : Nat) (xs : Nat → Int32) : Prop := va_X b N xs (xS E) (xS E).heap ∧ b < (xS E).heap.size ∧ ¬ xF E b
def EnL (E : Cx) (b : Nat) (R0 : Int32 × Mm) : Prop :=
  xQ E = lw_Z (xB E) #[Value.ref b] (xS E) ∧ xA E = #[Value.ref b] ∧ xR E = room_1 ∧ xN E = 600000 ∧ xT E = 7302250 ∧ (∀ q, xF E q → (xS E).heap.size ≤ q) ∧ R0.1 = 1 ∧ (xY E).sig.returnType = ret ∧ (xY E).locks = false
section GL
variable {l : Launch} {w : Wp} {L : Ly} {E : Cx} {M : Mm} {lv : List (Nat × Value)} {pc : Nat} {st : List Value} {own : String} {cc : ByteArray} {maxL n : Nat} {R0 : Int32 × Mm} {b N : Nat} {xs : Nat → Int32}
theorem g_sld (cx : Ok w L E own cc maxL n) {i : Int32} {A : OR} (sc : Sc E b N xs) (hd : decode cc pc = .ok (.iaload, 1)) (hf : ckd i N A = some R0) (kk : A = some R0 → G l w L E M lv (pc + 1) (.int (xs (ix i)) :: st)) : G l w L E M lv pc (.int i :: .ref b :: st) := by
  intro H locs ls h1 h2 h3
  obtain ⟨hin, hf⟩ := ckd_in hf
  exact va_sld cx.1 cx.2.1 sc.1 sc.2.1 sc.2.2 h2 hin hd (kk hf H locs ls h1 h2 h3)
theorem g_slen (cx : Ok w L E own cc maxL n) (sc : Sc E b N xs) (hd : decode cc pc = .ok (.arraylength, 1)) (kk : G l w L E M lv (pc + 1) (.int (nI N) :: st)) : G l w L E M lv pc (.ref b :: st) := by
  intro H locs ls h1 h2 h3
  exact va_slen cx.1 cx.2.1 sc.1 sc.2.1 sc.2.2 h2 hd (kk H locs ls h1 h2 h3)
theorem g_lret (cx : Ok w L E own code maxL n) (en : EnL E b R0) {x : Int32} (hd : decode code pc = .ok (.ireturn, 1)) (hf : zrk x (some (x, M)) = some R0) : G l w L E M lv pc [.int x] := by
  obtain ⟨-, hf⟩ := zrk_in hf
  cases hf
  obtain ⟨e1, e2, e3, e4, e5, e6, e7, e8, e9⟩ := en
  have e7 : x = 1 := e7
  subst e7
  intro H locs ls h1 h2 h3
  obtain ⟨p, e, R, s, m, a, below, meth, c, A, cn, sn, Q⟩ := E
  dsimp only [xQ, xB, xS, xA, xR, xN, xT, xF, xY] at *
  subst e1 e2 e3 e4 e5
  refine va_forget (fun q hq => e6 _ (h2.2.2 q hq)) ?_
  exact lw_ret cx.1 cx.2.1 e8 e9 hd
end GL
def b_L_law_668 (b a1 a2 N : Nat) (xs : Nat → Int32) (rc18 : Mm → Int32 → OR) (M : Mm) (x3 : Int32) : OR := rc18 M (x3 + 4)
def l_L_law_18 (b a1 a2 N : Nat) (xs : Nat → Int32) : Nat → Mm → Int32 → OR
  | 0, _, _ => none
  | k + 1, M, x3 => if ((nI N) - 4) < x3 then zrk 1 (some (1, M)) else ckd x3 N (bnd ((xs (ix x3)) &&& 31) fun v1 => if v1 = 0 then ckd (x3 + 1) N (ckd (x3 + 2) N (obn (f_X8_section a1 M (xs (ix (x3 + 1))) (xs (ix (x3 + 2)))) fun q4 M2 => (ckd (x3 + 1) N (ckd (x3 + 2) N (obn (f_X9_section a2 M2 (xs (ix (x3 + 1))) (xs (ix (x3 + 2)))) fun q7 M5 => (if q4 = q7 then b_L_law_668 b a1 a2 N xs (l_L_law_18 b a1 a2 N xs k) M5 x3 else zrk 0 (some (0, M5)))))))) else if v1 = 1 then ckd (x3 + 1) N (ckd (x3 + 2) N (obn (f_X8_isolator a1 M (xs (ix (x3 + 1))) (xs (ix (x3 + 2)))) fun q10 M8 => (ckd (x3 + 1) N (ckd (x3 + 2) N (obn (f_X9_isolator a2 M8 (xs (ix (x3 + 1))) (xs (ix (x3 + 2)))) fun q13 M11 => (if q10 = q13 then b_L_law_668 b a1 a2 N xs (l_L_law_18 b a1 a2 N xs k) M11 x3 else zrk 0 (some (0, M11)))))))) else if v1 = 2 then ckd (x3 + 1) N (obn (f_X8_pool a1 M (xs (ix (x3 + 1)))) fun q16 M14 => (ckd (x3 + 1) N (obn (f_X9_pool a2 M14 (xs (ix (x3 + 1)))) fun q19 M17 => (if q16 = q19 then b_L_law_668 b a1 a2 N xs (l_L_law_18 b a1 a2 N xs k) M17 x3 else zrk 0 (some (0, M17)))))) else if v1 = 3 then ckd (x3 + 1) N (ckd (x3 + 2) N (obn (f_X8_sectionOf a1 M (xs (ix (x3 + 1))) (xs (ix (x3 + 2)))) fun q22 M20 => (ckd (x3 + 1) N (ckd (x3 + 2) N (obn (f_X9_sectionOf a2 M20 (xs (ix (x3 + 1))) (xs (ix (x3 + 2)))) fun q25 M23 => (if q22 = q25 then b_L_law_668 b a1 a2 N xs (l_L_law_18 b a1 a2 N xs k) M23 x3 else zrk 0 (some (0, M23)))))))) else if v1 = 4 then ckd (x3 + 1) N (ckd (x3 + 2) N (obn (f_X8_isolatorOf a1 M (xs (ix (x3 + 1))) (xs (ix (x3 + 2)))) fun q28 M26 => (ckd (x3 + 1) N (ckd (x3 + 2) N (obn (f_X9_isolatorOf a2 M26 (xs (ix (x3 + 1))) (xs (ix (x3 + 2)))) fun q31 M29 => (if q28 = q31 then b_L_law_668 b a1 a2 N xs (l_L_law_18 b a1 a2 N xs k) M29 x3 else zrk 0 (some (0, M29)))))))) else if v1 = 5 then ckd (x3 + 1) N (obn (f_X8_count a1 M (xs (ix (x3 + 1)))) fun q34 M32 => (ckd (x3 + 1) N (obn (f_X9_count a2 M32 (xs (ix (x3 + 1)))) fun q37 M35 => (if q34 = q37 then b_L_law_668 b a1 a2 N xs (l_L_law_18 b a1 a2 N xs k) M35 x3 else zrk 0 (some (0, M35)))))) else if v1 = 6 then obn (f_X8_undo a1 M) fun q40 M38 => (obn (f_X9_undo a2 M38) fun q43 M41 => (if q40 = q43 then b_L_law_668 b a1 a2 N xs (l_L_law_18 b a1 a2 N xs k) M41 x3 else zrk 0 (some (0, M41)))) else if v1 = 7 then ckd (x3 + 1) N (ckd (x3 + 2) N (obn (f_X8_refusal a1 M (xs (ix (x3 + 1))) (xs (ix (x3 + 2)))) fun q46 M44 => (ckd (x3 + 1) N (ckd (x3 + 2) N (obn (f_X9_refusal a2 M44 (xs (ix (x3 + 1))) (xs (ix (x3 + 2)))) fun q49 M47 => (if q46 = q49 then b_L_law_668 b a1 a2 N xs (l_L_law_18 b a1 a2 N xs k) M47 x3 else zrk 0 (some (0, M47)))))))) else if v1 = 8 then ckd (x3 + 1) N (ckd (x3 + 2) N (obn (f_X8_step a1 M (xs (ix (x3 + 1))) (xs (ix (x3 + 2)))) fun q52 M50 => (ckd (x3 + 1) N (ckd (x3 + 2) N (obn (f_X9_step a2 M50 (xs (ix (x3 + 1))) (xs (ix (x3 + 2)))) fun q55 M53 => (if q52 = q55 then b_L_law_668 b a1 a2 N xs (l_L_law_18 b a1 a2 N xs k) M53 x3 else zrk 0 (some (0, M53)))))))) else if v1 = 9 then ckd (x3 + 1) N (ckd (x3 + 2) N (obn (f_X8_log a1 M (xs (ix (x3 + 1))) (xs (ix (x3 + 2)))) fun q58 M56 => (ckd (x3 + 1) N (ckd (x3 + 2) N (obn (f_X9_log a2 M56 (xs (ix (x3 + 1))) (xs (ix (x3 + 2)))) fun q61 M59 => (if q58 = q61 then b_L_law_668 b a1 a2 N xs (l_L_law_18 b a1 a2 N xs k) M59 x3 else zrk 0 (some (0, M59)))))))) else if v1 = 10 then ckd (x3 + 1) N (ckd (x3 + 2) N (obn (f_X8_plan a1 M (xs (ix (x3 + 1))) (xs (ix (x3 + 2)))) fun q64 M62 => (ckd (x3 + 1) N (ckd (x3 + 2) N (obn (f_X9_plan a2 M62 (xs (ix (x3 + 1))) (xs (ix (x3 + 2)))) fun q67 M65 => (if q64 = q67 then b_L_law_668 b a1 a2 N xs (l_L_law_18 b a1 a2 N xs k) M65 x3 else zrk 0 (some (0, M65)))))))) else if v1 = 11 then ckd (x3 + 1) N (obn (f_X8_canPlan a1 M (xs (ix (x3 + 1)))) fun q70 M68 => (ckd (x3 + 1) N (obn (f_X9_canPlan a2 M68 (xs (ix (x3 + 1)))) fun q73 M71 => (if q70 = q73 then b_L_law_668 b a1 a2 N xs (l_L_law_18 b a1 a2 N xs k) M71 x3 else zrk 0 (some (0, M71)))))) else if v1 = 12 then ckd (x3 + 1) N (ckd (x3 + 2) N (ckd (x3 + 3) N (obn (f_X8_enter a1 M (xs (ix (x3 + 1))) (xs (ix (x3 + 2))) (xs (ix (x3 + 3)))) fun q76 M74 => (ckd (x3 + 1) N (ckd (x3 + 2) N (ckd (x3 + 3) N (obn (f_X9_enter a2 M74 (xs (ix (x3 + 1))) (xs (ix (x3 + 2))) (xs (ix (x3 + 3)))) fun q79 M77 => (if q76 = q79 then b_L_law_668 b a1 a2 N xs (l_L_law_18 b a1 a2 N xs k) M77 x3 else zrk 0 (some (0, M77)))))))))) else if v1 = 13 then ckd (x3 + 1) N (ckd (x3 + 2) N (obn (f_X8_leave a1 M (xs (ix (x3 + 1))) (xs (ix (x3 + 2)))) fun q82 M80 => (ckd (x3 + 1) N (ckd (x3 + 2) N (obn (f_X9_leave a2 M80 (xs (ix (x3 + 1))) (xs (ix (x3 + 2)))) fun q85 M83 => (if q82 = q85 then b_L_law_668 b a1 a2 N xs (l_L_law_18 b a1 a2 N xs k) M83 x3 else zrk 0 (some (0, M83)))))))) else if v1 = 14 then ckd (x3 + 1) N (obn (f_X8_fetch a1 M (xs (ix (x3 + 1)))) fun q88 M86 => (ckd (x3 + 1) N (obn (f_X9_fetch a2 M86 (xs (ix (x3 + 1)))) fun q91 M89 => (if q88 = q91 then b_L_law_668 b a1 a2 N xs (l_L_law_18 b a1 a2 N xs k) M89 x3 else zrk 0 (some (0, M89)))))) else if v1 = 15 then ckd (x3 + 1) N (obn (f_X8_pass a1 M (xs (ix (x3 + 1)))) fun q94 M92 => (ckd (x3 + 1) N (obn (f_X9_pass a2 M92 (xs (ix (x3 + 1)))) fun q97 M95 => (if q94 = q97 then b_L_law_668 b a1 a2 N xs (l_L_law_18 b a1 a2 N xs k) M95 x3 else zrk 0 (some (0, M95)))))) else if v1 = 16 then ckd (x3 + 1) N (obn (f_X8_type a1 M (xs (ix (x3 + 1)))) fun q100 M98 => (ckd (x3 + 1) N (obn (f_X9_type a2 M98 (xs (ix (x3 + 1)))) fun q103 M101 => (if q100 = q103 then b_L_law_668 b a1 a2 N xs (l_L_law_18 b a1 a2 N xs k) M101 x3 else zrk 0 (some (0, M101)))))) else if v1 = 17 then obn (f_X8_clearText a1 M) fun q106 M104 => (obn (f_X9_clearText a2 M104) fun q109 M107 => (if q106 = q109 then b_L_law_668 b a1 a2 N xs (l_L_law_18 b a1 a2 N xs k) M107 x3 else zrk 0 (some (0, M107)))) else if v1 = 18 then ckd (x3 + 1) N (obn (f_X8_fault a1 M (xs (ix (x3 + 1)))) fun q112 M110 => (ckd (x3 + 1) N (obn (f_X9_fault a2 M110 (xs (ix (x3 + 1)))) fun q115 M113 => (if q112 = q115 then b_L_law_668 b a1 a2 N xs (l_L_law_18 b a1 a2 N xs k) M113 x3 else zrk 0 (some (0, M113)))))) else if v1 = 19 then obn (f_X8_play a1 M) fun q118 M116 => (obn (f_X9_play a2 M116) fun q121 M119 => (if q118 = q121 then b_L_law_668 b a1 a2 N xs (l_L_law_18 b a1 a2 N xs k) M119 x3 else zrk 0 (some (0, M119)))) else b_L_law_668 b a1 a2 N xs (l_L_law_18 b a1 a2 N xs k) M x3)
set_option maxHeartbeats 4000000 in
set_option maxRecDepth 100000 in
theorem w_L_law_668 {l : Launch} {w : Wp} {L : Ly} {E : Cx} {b a1 a2 N : Nat} {xs : Nat → Int32} {rc18 : Mm → Int32 → OR} {x3 : Int32} {R0 : Int32 × Mm} (cx : Ok w L E RL cL_law 4 10) (en : EnL E b R0) (h1 : LTramWires w L a1) (h2 : LTramWiresModel w L a2) (sc : Sc E b N xs) (hrc18 : ∀ (M : Mm) (x3 : Int32), rc18 M x3 = some R0 → G l w L E M [(0, .ref b), (1, .ref a1), (2, .ref a2), (3, .int x3)] 18 []) {M : Mm} (hf : b_L_law_668 b a1 a2 N xs rc18 M x3 = some R0) : G l w L E M [(0, .ref b), (1, .ref a1), (2, .ref a2), (3, .int x3)] 668 [] := by
  unfold b_L_law_668 at hf
  refine g_iinc (pc := 668) cx [(3, .int (x3 + 4)), (0, .ref b), (1, .ref a1), (2, .ref a2)] dL_law_668 3 rfl rfl (by decide) rfl ?_
  refine g_goto (pc := 671) (tgt := 18) cx dL_law_671 rfl ?_
  refine g_sub [1, 2, 3, 0] [(0, .ref b), (1, .ref a1), (2, .ref a2), (3, .int (x3 + 4))] rfl ?_
  exact hrc18 _ _ hf
set_option maxHeartbeats 4000000 in
set_option maxRecDepth 100000 in
theorem w_L_law_18 {l : Launch} {w : Wp} {L : Ly} {E : Cx} {b a1 a2 N : Nat} {xs : Nat → Int32} {R0 : Int32 × Mm} (cx : Ok w L E RL cL_law 4 10) (en : EnL E b R0) (h1 : LTramWires w L a1) (h2 : LTramWiresModel w L a2) (sc : Sc E b N xs) : ∀ (k : Nat) {M : Mm} {x3 : Int32}, l_L_law_18 b a1 a2 N xs k M x3 = some R0 → G l w L E M [(0, .ref b), (1, .ref a1), (2, .ref a2), (3, .int x3)] 18 [] := by
  intro k
  induction k with
  | zero =>
    intro M x3 hf
    exact absurd hf (by simp [l_L_law_18])
  | succ k ih =>
    intro M x3 hf
    unfold l_L_law_18 at hf
    refine g_iload_n (pc := 18) cx dL_law_18 rfl 3 rfl ?_
    refine g_aload_n (pc := 19) cx dL_law_19 rfl 0 rfl ?_
    refine g_slen (pc := 20) cx sc dL_law_20 ?_
    refine g_iconst (pc := 21) (v := 4) cx dL_law_21 (by decide) ?_
    refine g_isub (pc := 22) cx dL_law_22 ?_
    refine g_icmp_gt (pc := 23) (tgt := 674) cx dL_law_23 rfl hf (fun hf => ?_) (fun hf => ?_)
    · refine g_iconst (pc := 674) (v := 1) cx dL_law_674 (by decide) ?_
      exact g_lret (pc := 675) cx en dL_law_675 hf
    · refine g_aload_n (pc := 26) cx dL_law_26 rfl 0 rfl ?_
      refine g_iload_n (pc := 27) cx dL_law_27 rfl 3 rfl ?_
      refine g_sld (pc := 28) cx sc dL_law_28 hf (fun hf => ?_)
      refine g_bipush (pc := 29) (v := 31) cx dL_law_29 (by decide) ?_
      refine g_iand (pc := 31) cx dL_law_31 ?_
      refine g_nm hf (fun v1 hf => ?_)
      refine g_swk (pc := 32) (kx := 0) (off := 96) (tgt := 128) cx dL_law_32 (by decide) (by decide) (by decide) (by decide) hf (fun hf => ?_) (fun n0 hf => ?_)
      · refine g_aload_n (pc := 128) cx dL_law_128 rfl 1 rfl ?_
        refine g_aload_n (pc := 129) cx dL_law_129 rfl 0 rfl ?_
        refine g_iload_n (pc := 130) cx dL_law_130 rfl 3 rfl ?_
        refine g_iconst (pc := 131) (v := 1) cx dL_law_131 (by decide) ?_
        refine g_iadd (pc := 132) cx dL_law_132 ?_
        refine g_sld (pc := 133) cx sc dL_law_133 hf (fun hf => ?_)
        refine g_aload_n (pc := 134) cx dL_law_134 rfl 0 rfl ?_
        refine g_iload_n (pc := 135) cx dL_law_135 rfl 3 rfl ?_
        refine g_iconst (pc := 136) (v := 2) cx dL_law_136 (by decide) ?_
        refine g_iadd (pc := 137) cx dL_law_137 ?_
        refine g_sld (pc := 138) cx sc dL_law_138 hf (fun hf => ?_)
        obtain ⟨q4, M2, hc3, hf⟩ := obn_some2 hf
        refine g_callVi (pc := 139) [.int (xs (ix (x3 + 1))), .int (xs (ix (x3 + 2)))] [] cx lk_L_13 vw_X8 (LTramWires_o h1) (by decide) (c_X8_section h1 hc3) dL_law_139 (Nat.le_of_ble_eq_true rfl) ?_
        refine g_aload_n (pc := 142) cx dL_law_142 rfl 2 rfl ?_
        refine g_aload_n (pc := 143) cx dL_law_143 rfl 0 rfl ?_
        refine g_iload_n (pc := 144) cx dL_law_144 rfl 3 rfl ?_
        refine g_iconst (pc := 145) (v := 1) cx dL_law_145 (by decide) ?_
        refine g_iadd (pc := 146) cx dL_law_146 ?_
        refine g_sld (pc := 147) cx sc dL_law_147 hf (fun hf => ?_)
        refine g_aload_n (pc := 148) cx dL_law_148 rfl 0 rfl ?_
        refine g_iload_n (pc := 149) cx dL_law_149 rfl 3 rfl ?_
        refine g_iconst (pc := 150) (v := 2) cx dL_law_150 (by decide) ?_
        refine g_iadd (pc := 151) cx dL_law_151 ?_
        refine g_sld (pc := 152) cx sc dL_law_152 hf (fun hf => ?_)
        obtain ⟨q7, M5, hc6, hf⟩ := obn_some2 hf
        refine g_callVi (pc := 153) [.int (xs (ix (x3 + 1))), .int (xs (ix (x3 + 2)))] [.int q4] cx lk_L_17 vw_X9 (LTramWiresModel_o h2) (by decide) (c_X9_section h2 hc6) dL_law_153 (Nat.le_of_ble_eq_true rfl) ?_
        refine g_icmp_eq (pc := 156) (tgt := 668) cx dL_law_156 rfl hf (fun hf => ?_) (fun hf => ?_)
        · exact w_L_law_668 cx en h1 h2 sc (fun _ _ hf => ih hf) hf
        · refine g_iconst (pc := 159) (v := 0) cx dL_law_159 (by decide) ?_
          exact g_lret (pc := 160) cx en dL_law_160 hf
      refine g_swk (pc := 32) (kx := 1) (off := 129) (tgt := 161) cx dL_law_32 (by decide) (by decide) (by decide) (by decide) hf (fun hf => ?_) (fun n1 hf => ?_)
      · refine g_aload_n (pc := 161) cx dL_law_161 rfl 1 rfl ?_
        refine g_aload_n (pc := 162) cx dL_law_162 rfl 0 rfl ?_
        refine g_iload_n (pc := 163) cx dL_law_163 rfl 3 rfl ?_
        refine g_iconst (pc := 164) (v := 1) cx dL_law_164 (by decide) ?_
        refine g_iadd (pc := 165) cx dL_law_165 ?_
        refine g_sld (pc := 166) cx sc dL_law_166 hf (fun hf => ?_)
        refine g_aload_n (pc := 167) cx dL_law_167 rfl 0 rfl ?_
        refine g_iload_n (pc := 168) cx dL_law_168 rfl 3 rfl ?_
        refine g_iconst (pc := 169) (v := 2) cx dL_law_169 (by decide) ?_
        refine g_iadd (pc := 170) cx dL_law_170 ?_
        refine g_sld (pc := 171) cx sc dL_law_171 hf (fun hf => ?_)
        obtain ⟨q10, M8, hc9, hf⟩ := obn_some2 hf
        refine g_callVi (pc := 172) [.int (xs (ix (x3 + 1))), .int (xs (ix (x3 + 2)))] [] cx lk_L_18 vw_X8 (LTramWires_o h1) (by decide) (c_X8_isolator h1 hc9) dL_law_172 (Nat.le_of_ble_eq_true rfl) ?_
        refine g_aload_n (pc := 175) cx dL_law_175 rfl 2 rfl ?_
        refine g_aload_n (pc := 176) cx dL_law_176 rfl 0 rfl ?_
        refine g_iload_n (pc := 177) cx dL_law_177 rfl 3 rfl ?_
        refine g_iconst (pc := 178) (v := 1) cx dL_law_178 (by decide) ?_
        refine g_iadd (pc := 179) cx dL_law_179 ?_
        refine g_sld (pc := 180) cx sc dL_law_180 hf (fun hf => ?_)
        refine g_aload_n (pc := 181) cx dL_law_181 rfl 0 rfl ?_
        refine g_iload_n (pc := 182) cx dL_law_182 rfl 3 rfl ?_
        refine g_iconst (pc := 183) (v := 2) cx dL_law_183 (by decide) ?_
        refine g_iadd (pc := 184) cx dL_law_184 ?_
        refine g_sld (pc := 185) cx sc dL_law_185 hf (fun hf => ?_)
        obtain ⟨q13, M11, hc12, hf⟩ := obn_some2 hf
        refine g_callVi (pc := 186) [.int (xs (ix (x3 + 1))), .int (xs (ix (x3 + 2)))] [.int q10] cx lk_L_21 vw_X9 (LTramWiresModel_o h2) (by decide) (c_X9_isolator h2 hc12) dL_law_186 (Nat.le_of_ble_eq_true rfl) ?_
        refine g_icmp_eq (pc := 189) (tgt := 668) cx dL_law_189 rfl hf (fun hf => ?_) (fun hf => ?_)
        · exact w_L_law_668 cx en h1 h2 sc (fun _ _ hf => ih hf) hf
        · refine g_iconst (pc := 192) (v := 0) cx dL_law_192 (by decide) ?_
          exact g_lret (pc := 193) cx en dL_law_193 hf
      refine g_swk (pc := 32) (kx := 2) (off := 162) (tgt := 194) cx dL_law_32 (by decide) (by decide) (by decide) (by decide) hf (fun hf => ?_) (fun n2 hf => ?_)
      · refine g_aload_n (pc := 194) cx dL_law_194 rfl 1 rfl ?_
        refine g_aload_n (pc := 195) cx dL_law_195 rfl 0 rfl ?_
        refine g_iload_n (pc := 196) cx dL_law_196 rfl 3 rfl ?_
        refine g_iconst (pc := 197) (v := 1) cx dL_law_197 (by decide) ?_
        refine g_iadd (pc := 198) cx dL_law_198 ?_
        refine g_sld (pc := 199) cx sc dL_law_199 hf (fun hf => ?_)
        obtain ⟨q16, M14, hc15, hf⟩ := obn_some2 hf
        refine g_callVi (pc := 200) [.int (xs (ix (x3 + 1)))] [] cx lk_L_22 vw_X8 (LTramWires_o h1) (by decide) (c_X8_pool h1 hc15) dL_law_200 (Nat.le_of_ble_eq_true rfl) ?_
        refine g_aload_n (pc := 203) cx dL_law_203 rfl 2 rfl ?_
        refine g_aload_n (pc := 204) cx dL_law_204 rfl 0 rfl ?_
        refine g_iload_n (pc := 205) cx dL_law_205 rfl 3 rfl ?_
        refine g_iconst (pc := 206) (v := 1) cx dL_law_206 (by decide) ?_
        refine g_iadd (pc := 207) cx dL_law_207 ?_
        refine g_sld (pc := 208) cx sc dL_law_208 hf (fun hf => ?_)
        obtain ⟨q19, M17, hc18, hf⟩ := obn_some2 hf
        refine g_callVi (pc := 209) [.int (xs (ix (x3 + 1)))] [.int q16] cx lk_L_26 vw_X9 (LTramWiresModel_o h2) (by decide) (c_X9_pool h2 hc18) dL_law_209 (Nat.le_of_ble_eq_true rfl) ?_
        refine g_icmp_eq (pc := 212) (tgt := 668) cx dL_law_212 rfl hf (fun hf => ?_) (fun hf => ?_)
        · exact w_L_law_668 cx en h1 h2 sc (fun _ _ hf => ih hf) hf
        · refine g_iconst (pc := 215) (v := 0) cx dL_law_215 (by decide) ?_
          exact g_lret (pc := 216) cx en dL_law_216 hf
      refine g_swk (pc := 32) (kx := 3) (off := 185) (tgt := 217) cx dL_law_32 (by decide) (by decide) (by decide) (by decide) hf (fun hf => ?_) (fun n3 hf => ?_)
      · refine g_aload_n (pc := 217) cx dL_law_217 rfl 1 rfl ?_
        refine g_aload_n (pc := 218) cx dL_law_218 rfl 0 rfl ?_
        refine g_iload_n (pc := 219) cx dL_law_219 rfl 3 rfl ?_
        refine g_iconst (pc := 220) (v := 1) cx dL_law_220 (by decide) ?_
        refine g_iadd (pc := 221) cx dL_law_221 ?_
        refine g_sld (pc := 222) cx sc dL_law_222 hf (fun hf => ?_)
        refine g_aload_n (pc := 223) cx dL_law_223 rfl 0 rfl ?_
        refine g_iload_n (pc := 224) cx dL_law_224 rfl 3 rfl ?_
        refine g_iconst (pc := 225) (v := 2) cx dL_law_225 (by decide) ?_
        refine g_iadd (pc := 226) cx dL_law_226 ?_
        refine g_sld (pc := 227) cx sc dL_law_227 hf (fun hf => ?_)
        obtain ⟨q22, M20, hc21, hf⟩ := obn_some2 hf
        refine g_callVi (pc := 228) [.int (xs (ix (x3 + 1))), .int (xs (ix (x3 + 2)))] [] cx lk_L_27 vw_X8 (LTramWires_o h1) (by decide) (c_X8_sectionOf h1 hc21) dL_law_228 (Nat.le_of_ble_eq_true rfl) ?_
        refine g_aload_n (pc := 231) cx dL_law_231 rfl 2 rfl ?_
        refine g_aload_n (pc := 232) cx dL_law_232 rfl 0 rfl ?_
        refine g_iload_n (pc := 233) cx dL_law_233 rfl 3 rfl ?_
        refine g_iconst (pc := 234) (v := 1) cx dL_law_234 (by decide) ?_
        refine g_iadd (pc := 235) cx dL_law_235 ?_
        refine g_sld (pc := 236) cx sc dL_law_236 hf (fun hf => ?_)
        refine g_aload_n (pc := 237) cx dL_law_237 rfl 0 rfl ?_
        refine g_iload_n (pc := 238) cx dL_law_238 rfl 3 rfl ?_
        refine g_iconst (pc := 239) (v := 2) cx dL_law_239 (by decide) ?_
        refine g_iadd (pc := 240) cx dL_law_240 ?_
        refine g_sld (pc := 241) cx sc dL_law_241 hf (fun hf => ?_)
        obtain ⟨q25, M23, hc24, hf⟩ := obn_some2 hf
        refine g_callVi (pc := 242) [.int (xs (ix (x3 + 1))), .int (xs (ix (x3 + 2)))] [.int q22] cx lk_L_30 vw_X9 (LTramWiresModel_o h2) (by decide) (c_X9_sectionOf h2 hc24) dL_law_242 (Nat.le_of_ble_eq_true rfl) ?_
        refine g_icmp_eq (pc := 245) (tgt := 668) cx dL_law_245 rfl hf (fun hf => ?_) (fun hf => ?_)
        · exact w_L_law_668 cx en h1 h2 sc (fun _ _ hf => ih hf) hf
        · refine g_iconst (pc := 248) (v := 0) cx dL_law_248 (by decide) ?_
          exact g_lret (pc := 249) cx en dL_law_249 hf
      refine g_swk (pc := 32) (kx := 4) (off := 218) (tgt := 250) cx dL_law_32 (by decide) (by decide) (by decide) (by decide) hf (fun hf => ?_) (fun n4 hf => ?_)
      · refine g_aload_n (pc := 250) cx dL_law_250 rfl 1 rfl ?_
        refine g_aload_n (pc := 251) cx dL_law_251 rfl 0 rfl ?_
        refine g_iload_n (pc := 252) cx dL_law_252 rfl 3 rfl ?_
        refine g_iconst (pc := 253) (v := 1) cx dL_law_253 (by decide) ?_
        refine g_iadd (pc := 254) cx dL_law_254 ?_
        refine g_sld (pc := 255) cx sc dL_law_255 hf (fun hf => ?_)
        refine g_aload_n (pc := 256) cx dL_law_256 rfl 0 rfl ?_
        refine g_iload_n (pc := 257) cx dL_law_257 rfl 3 rfl ?_
        refine g_iconst (pc := 258) (v := 2) cx dL_law_258 (by decide) ?_
        refine g_iadd (pc := 259) cx dL_law_259 ?_
        refine g_sld (pc := 260) cx sc dL_law_260 hf (fun hf => ?_)
        obtain ⟨q28, M26, hc27, hf⟩ := obn_some2 hf
        refine g_callVi (pc := 261) [.int (xs (ix (x3 + 1))), .int (xs (ix (x3 + 2)))] [] cx lk_L_31 vw_X8 (LTramWires_o h1) (by decide) (c_X8_isolatorOf h1 hc27) dL_law_261 (Nat.le_of_ble_eq_true rfl) ?_
        refine g_aload_n (pc := 264) cx dL_law_264 rfl 2 rfl ?_
        refine g_aload_n (pc := 265) cx dL_law_265 rfl 0 rfl ?_
        refine g_iload_n (pc := 266) cx dL_law_266 rfl 3 rfl ?_
        refine g_iconst (pc := 267) (v := 1) cx dL_law_267 (by decide) ?_
        refine g_iadd (pc := 268) cx dL_law_268 ?_
        refine g_sld (pc := 269) cx sc dL_law_269 hf (fun hf => ?_)
        refine g_aload_n (pc := 270) cx dL_law_270 rfl 0 rfl ?_
        refine g_iload_n (pc := 271) cx dL_law_271 rfl 3 rfl ?_
        refine g_iconst (pc := 272) (v := 2) cx dL_law_272 (by decide) ?_
        refine g_iadd (pc := 273) cx dL_law_273 ?_
        refine g_sld (pc := 274) cx sc dL_law_274 hf (fun hf => ?_)
        obtain ⟨q31, M29, hc30, hf⟩ := obn_some2 hf
        refine g_callVi (pc := 275) [.int (xs (ix (x3 + 1))), .int (xs (ix (x3 + 2)))] [.int q28] cx lk_L_34 vw_X9 (LTramWiresModel_o h2) (by decide) (c_X9_isolatorOf h2 hc30) dL_law_275 (Nat.le_of_ble_eq_true rfl) ?_
        refine g_icmp_eq (pc := 278) (tgt := 668) cx dL_law_278 rfl hf (fun hf => ?_) (fun hf => ?_)
        · exact w_L_law_668 cx en h1 h2 sc (fun _ _ hf => ih hf) hf
        · refine g_iconst (pc := 281) (v := 0) cx dL_law_281 (by decide) ?_
          exact g_lret (pc := 282) cx en dL_law_282 hf
      refine g_swk (pc := 32) (kx := 5) (off := 251) (tgt := 283) cx dL_law_32 (by decide) (by decide) (by decide) (by decide) hf (fun hf => ?_) (fun n5 hf => ?_)
      · refine g_aload_n (pc := 283) cx dL_law_283 rfl 1 rfl ?_
        refine g_aload_n (pc := 284) cx dL_law_284 rfl 0 rfl ?_
        refine g_iload_n (pc := 285) cx dL_law_285 rfl 3 rfl ?_
        refine g_iconst (pc := 286) (v := 1) cx dL_law_286 (by decide) ?_
        refine g_iadd (pc := 287) cx dL_law_287 ?_
        refine g_sld (pc := 288) cx sc dL_law_288 hf (fun hf => ?_)
        obtain ⟨q34, M32, hc33, hf⟩ := obn_some2 hf
        refine g_callVi (pc := 289) [.int (xs (ix (x3 + 1)))] [] cx lk_L_35 vw_X8 (LTramWires_o h1) (by decide) (c_X8_count h1 hc33) dL_law_289 (Nat.le_of_ble_eq_true rfl) ?_
        refine g_aload_n (pc := 292) cx dL_law_292 rfl 2 rfl ?_
        refine g_aload_n (pc := 293) cx dL_law_293 rfl 0 rfl ?_
        refine g_iload_n (pc := 294) cx dL_law_294 rfl 3 rfl ?_
        refine g_iconst (pc := 295) (v := 1) cx dL_law_295 (by decide) ?_
        refine g_iadd (pc := 296) cx dL_law_296 ?_
        refine g_sld (pc := 297) cx sc dL_law_297 hf (fun hf => ?_)
        obtain ⟨q37, M35, hc36, hf⟩ := obn_some2 hf
        refine g_callVi (pc := 298) [.int (xs (ix (x3 + 1)))] [.int q34] cx lk_L_38 vw_X9 (LTramWiresModel_o h2) (by decide) (c_X9_count h2 hc36) dL_law_298 (Nat.le_of_ble_eq_true rfl) ?_
        refine g_icmp_eq (pc := 301) (tgt := 668) cx dL_law_301 rfl hf (fun hf => ?_) (fun hf => ?_)
        · exact w_L_law_668 cx en h1 h2 sc (fun _ _ hf => ih hf) hf
        · refine g_iconst (pc := 304) (v := 0) cx dL_law_304 (by decide) ?_
          exact g_lret (pc := 305) cx en dL_law_305 hf
      refine g_swk (pc := 32) (kx := 6) (off := 274) (tgt := 306) cx dL_law_32 (by decide) (by decide) (by decide) (by decide) hf (fun hf => ?_) (fun n6 hf => ?_)
      · refine g_aload_n (pc := 306) cx dL_law_306 rfl 1 rfl ?_
        obtain ⟨q40, M38, hc39, hf⟩ := obn_some2 hf
        refine g_callVi (pc := 307) [] [] cx lk_L_39 vw_X8 (LTramWires_o h1) (by decide) (c_X8_undo h1 hc39) dL_law_307 (Nat.le_of_ble_eq_true rfl) ?_
        refine g_aload_n (pc := 310) cx dL_law_310 rfl 2 rfl ?_
        obtain ⟨q43, M41, hc42, hf⟩ := obn_some2 hf
        refine g_callVi (pc := 311) [] [.int q40] cx lk_L_43 vw_X9 (LTramWiresModel_o h2) (by decide) (c_X9_undo h2 hc42) dL_law_311 (Nat.le_of_ble_eq_true rfl) ?_
        refine g_icmp_eq (pc := 314) (tgt := 668) cx dL_law_314 rfl hf (fun hf => ?_) (fun hf => ?_)
        · exact w_L_law_668 cx en h1 h2 sc (fun _ _ hf => ih hf) hf
        · refine g_iconst (pc := 317) (v := 0) cx dL_law_317 (by decide) ?_
          exact g_lret (pc := 318) cx en dL_law_318 hf
      refine g_swk (pc := 32) (kx := 7) (off := 287) (tgt := 319) cx dL_law_32 (by decide) (by decide) (by decide) (by decide) hf (fun hf => ?_) (fun n7 hf => ?_)
      · refine g_aload_n (pc := 319) cx dL_law_319 rfl 1 rfl ?_
        refine g_aload_n (pc := 320) cx dL_law_320 rfl 0 rfl ?_
        refine g_iload_n (pc := 321) cx dL_law_321 rfl 3 rfl ?_
        refine g_iconst (pc := 322) (v := 1) cx dL_law_322 (by decide) ?_
        refine g_iadd (pc := 323) cx dL_law_323 ?_
        refine g_sld (pc := 324) cx sc dL_law_324 hf (fun hf => ?_)
        refine g_aload_n (pc := 325) cx dL_law_325 rfl 0 rfl ?_
        refine g_iload_n (pc := 326) cx dL_law_326 rfl 3 rfl ?_
        refine g_iconst (pc := 327) (v := 2) cx dL_law_327 (by decide) ?_
        refine g_iadd (pc := 328) cx dL_law_328 ?_
        refine g_sld (pc := 329) cx sc dL_law_329 hf (fun hf => ?_)
        obtain ⟨q46, M44, hc45, hf⟩ := obn_some2 hf
        refine g_callVi (pc := 330) [.int (xs (ix (x3 + 1))), .int (xs (ix (x3 + 2)))] [] cx lk_L_44 vw_X8 (LTramWires_o h1) (by decide) (c_X8_refusal h1 hc45) dL_law_330 (Nat.le_of_ble_eq_true rfl) ?_
        refine g_aload_n (pc := 333) cx dL_law_333 rfl 2 rfl ?_
        refine g_aload_n (pc := 334) cx dL_law_334 rfl 0 rfl ?_
        refine g_iload_n (pc := 335) cx dL_law_335 rfl 3 rfl ?_
        refine g_iconst (pc := 336) (v := 1) cx dL_law_336 (by decide) ?_
        refine g_iadd (pc := 337) cx dL_law_337 ?_
        refine g_sld (pc := 338) cx sc dL_law_338 hf (fun hf => ?_)
        refine g_aload_n (pc := 339) cx dL_law_339 rfl 0 rfl ?_
        refine g_iload_n (pc := 340) cx dL_law_340 rfl 3 rfl ?_
        refine g_iconst (pc := 341) (v := 2) cx dL_law_341 (by decide) ?_
        refine g_iadd (pc := 342) cx dL_law_342 ?_
        refine g_sld (pc := 343) cx sc dL_law_343 hf (fun hf => ?_)
        obtain ⟨q49, M47, hc48, hf⟩ := obn_some2 hf
        refine g_callVi (pc := 344) [.int (xs (ix (x3 + 1))), .int (xs (ix (x3 + 2)))] [.int q46] cx lk_L_47 vw_X9 (LTramWiresModel_o h2) (by decide) (c_X9_refusal h2 hc48) dL_law_344 (Nat.le_of_ble_eq_true rfl) ?_
        refine g_icmp_eq (pc := 347) (tgt := 668) cx dL_law_347 rfl hf (fun hf => ?_) (fun hf => ?_)
        · exact w_L_law_668 cx en h1 h2 sc (fun _ _ hf => ih hf) hf
        · refine g_iconst (pc := 350) (v := 0) cx dL_law_350 (by decide) ?_
          exact g_lret (pc := 351) cx en dL_law_351 hf
      refine g_swk (pc := 32) (kx := 8) (off := 320) (tgt := 352) cx dL_law_32 (by decide) (by decide) (by decide) (by decide) hf (fun hf => ?_) (fun n8 hf => ?_)
      · refine g_aload_n (pc := 352) cx dL_law_352 rfl 1 rfl ?_
        refine g_aload_n (pc := 353) cx dL_law_353 rfl 0 rfl ?_
        refine g_iload_n (pc := 354) cx dL_law_354 rfl 3 rfl ?_
        refine g_iconst (pc := 355) (v := 1) cx dL_law_355 (by decide) ?_
        refine g_iadd (pc := 356) cx dL_law_356 ?_
        refine g_sld (pc := 357) cx sc dL_law_357 hf (fun hf => ?_)
        refine g_aload_n (pc := 358) cx dL_law_358 rfl 0 rfl ?_
        refine g_iload_n (pc := 359) cx dL_law_359 rfl 3 rfl ?_
        refine g_iconst (pc := 360) (v := 2) cx dL_law_360 (by decide) ?_
        refine g_iadd (pc := 361) cx dL_law_361 ?_
        refine g_sld (pc := 362) cx sc dL_law_362 hf (fun hf => ?_)
        obtain ⟨q52, M50, hc51, hf⟩ := obn_some2 hf
        refine g_callVi (pc := 363) [.int (xs (ix (x3 + 1))), .int (xs (ix (x3 + 2)))] [] cx lk_L_48 vw_X8 (LTramWires_o h1) (by decide) (c_X8_step h1 hc51) dL_law_363 (Nat.le_of_ble_eq_true rfl) ?_
        refine g_aload_n (pc := 366) cx dL_law_366 rfl 2 rfl ?_
        refine g_aload_n (pc := 367) cx dL_law_367 rfl 0 rfl ?_
        refine g_iload_n (pc := 368) cx dL_law_368 rfl 3 rfl ?_
        refine g_iconst (pc := 369) (v := 1) cx dL_law_369 (by decide) ?_
        refine g_iadd (pc := 370) cx dL_law_370 ?_
        refine g_sld (pc := 371) cx sc dL_law_371 hf (fun hf => ?_)
        refine g_aload_n (pc := 372) cx dL_law_372 rfl 0 rfl ?_
        refine g_iload_n (pc := 373) cx dL_law_373 rfl 3 rfl ?_
        refine g_iconst (pc := 374) (v := 2) cx dL_law_374 (by decide) ?_
        refine g_iadd (pc := 375) cx dL_law_375 ?_
        refine g_sld (pc := 376) cx sc dL_law_376 hf (fun hf => ?_)
        obtain ⟨q55, M53, hc54, hf⟩ := obn_some2 hf
        refine g_callVi (pc := 377) [.int (xs (ix (x3 + 1))), .int (xs (ix (x3 + 2)))] [.int q52] cx lk_L_51 vw_X9 (LTramWiresModel_o h2) (by decide) (c_X9_step h2 hc54) dL_law_377 (Nat.le_of_ble_eq_true rfl) ?_
        refine g_icmp_eq (pc := 380) (tgt := 668) cx dL_law_380 rfl hf (fun hf => ?_) (fun hf => ?_)
        · exact w_L_law_668 cx en h1 h2 sc (fun _ _ hf => ih hf) hf
        · refine g_iconst (pc := 383) (v := 0) cx dL_law_383 (by decide) ?_
          exact g_lret (pc := 384) cx en dL_law_384 hf
      refine g_swk (pc := 32) (kx := 9) (off := 353) (tgt := 385) cx dL_law_32 (by decide) (by decide) (by decide) (by decide) hf (fun hf => ?_) (fun n9 hf => ?_)
      · refine g_aload_n (pc := 385) cx dL_law_385 rfl 1 rfl ?_
        refine g_aload_n (pc := 386) cx dL_law_386 rfl 0 rfl ?_
        refine g_iload_n (pc := 387) cx dL_law_387 rfl 3 rfl ?_
        refine g_iconst (pc := 388) (v := 1) cx dL_law_388 (by decide) ?_
        refine g_iadd (pc := 389) cx dL_law_389 ?_
        refine g_sld (pc := 390) cx sc dL_law_390 hf (fun hf => ?_)
        refine g_aload_n (pc := 391) cx dL_law_391 rfl 0 rfl ?_
        refine g_iload_n (pc := 392) cx dL_law_392 rfl 3 rfl ?_
        refine g_iconst (pc := 393) (v := 2) cx dL_law_393 (by decide) ?_
        refine g_iadd (pc := 394) cx dL_law_394 ?_
        refine g_sld (pc := 395) cx sc dL_law_395 hf (fun hf => ?_)
        obtain ⟨q58, M56, hc57, hf⟩ := obn_some2 hf
        refine g_callVi (pc := 396) [.int (xs (ix (x3 + 1))), .int (xs (ix (x3 + 2)))] [] cx lk_L_52 vw_X8 (LTramWires_o h1) (by decide) (c_X8_log h1 hc57) dL_law_396 (Nat.le_of_ble_eq_true rfl) ?_
        refine g_aload_n (pc := 399) cx dL_law_399 rfl 2 rfl ?_
        refine g_aload_n (pc := 400) cx dL_law_400 rfl 0 rfl ?_
        refine g_iload_n (pc := 401) cx dL_law_401 rfl 3 rfl ?_
        refine g_iconst (pc := 402) (v := 1) cx dL_law_402 (by decide) ?_
        refine g_iadd (pc := 403) cx dL_law_403 ?_
        refine g_sld (pc := 404) cx sc dL_law_404 hf (fun hf => ?_)
        refine g_aload_n (pc := 405) cx dL_law_405 rfl 0 rfl ?_
        refine g_iload_n (pc := 406) cx dL_law_406 rfl 3 rfl ?_
        refine g_iconst (pc := 407) (v := 2) cx dL_law_407 (by decide) ?_
        refine g_iadd (pc := 408) cx dL_law_408 ?_
        refine g_sld (pc := 409) cx sc dL_law_409 hf (fun hf => ?_)
        obtain ⟨q61, M59, hc60, hf⟩ := obn_some2 hf
        refine g_callVi (pc := 410) [.int (xs (ix (x3 + 1))), .int (xs (ix (x3 + 2)))] [.int q58] cx lk_L_55 vw_X9 (LTramWiresModel_o h2) (by decide) (c_X9_log h2 hc60) dL_law_410 (Nat.le_of_ble_eq_true rfl) ?_
        refine g_icmp_eq (pc := 413) (tgt := 668) cx dL_law_413 rfl hf (fun hf => ?_) (fun hf => ?_)
        · exact w_L_law_668 cx en h1 h2 sc (fun _ _ hf => ih hf) hf
        · refine g_iconst (pc := 416) (v := 0) cx dL_law_416 (by decide) ?_
          exact g_lret (pc := 417) cx en dL_law_417 hf
      refine g_swk (pc := 32) (kx := 10) (off := 386) (tgt := 418) cx dL_law_32 (by decide) (by decide) (by decide) (by decide) hf (fun hf => ?_) (fun n10 hf => ?_)
      · refine g_aload_n (pc := 418) cx dL_law_418 rfl 1 rfl ?_
        refine g_aload_n (pc := 419) cx dL_law_419 rfl 0 rfl ?_
        refine g_iload_n (pc := 420) cx dL_law_420 rfl 3 rfl ?_
        refine g_iconst (pc := 421) (v := 1) cx dL_law_421 (by decide) ?_
        refine g_iadd (pc := 422) cx dL_law_422 ?_
        refine g_sld (pc := 423) cx sc dL_law_423 hf (fun hf => ?_)
        refine g_aload_n (pc := 424) cx dL_law_424 rfl 0 rfl ?_
        refine g_iload_n (pc := 425) cx dL_law_425 rfl 3 rfl ?_
        refine g_iconst (pc := 426) (v := 2) cx dL_law_426 (by decide) ?_
        refine g_iadd (pc := 427) cx dL_law_427 ?_
        refine g_sld (pc := 428) cx sc dL_law_428 hf (fun hf => ?_)
        obtain ⟨q64, M62, hc63, hf⟩ := obn_some2 hf
        refine g_callVi (pc := 429) [.int (xs (ix (x3 + 1))), .int (xs (ix (x3 + 2)))] [] cx lk_L_56 vw_X8 (LTramWires_o h1) (by decide) (c_X8_plan h1 hc63) dL_law_429 (Nat.le_of_ble_eq_true rfl) ?_
        refine g_aload_n (pc := 432) cx dL_law_432 rfl 2 rfl ?_
        refine g_aload_n (pc := 433) cx dL_law_433 rfl 0 rfl ?_
        refine g_iload_n (pc := 434) cx dL_law_434 rfl 3 rfl ?_
        refine g_iconst (pc := 435) (v := 1) cx dL_law_435 (by decide) ?_
        refine g_iadd (pc := 436) cx dL_law_436 ?_
        refine g_sld (pc := 437) cx sc dL_law_437 hf (fun hf => ?_)
        refine g_aload_n (pc := 438) cx dL_law_438 rfl 0 rfl ?_
        refine g_iload_n (pc := 439) cx dL_law_439 rfl 3 rfl ?_
        refine g_iconst (pc := 440) (v := 2) cx dL_law_440 (by decide) ?_
        refine g_iadd (pc := 441) cx dL_law_441 ?_
        refine g_sld (pc := 442) cx sc dL_law_442 hf (fun hf => ?_)
        obtain ⟨q67, M65, hc66, hf⟩ := obn_some2 hf
        refine g_callVi (pc := 443) [.int (xs (ix (x3 + 1))), .int (xs (ix (x3 + 2)))] [.int q64] cx lk_L_59 vw_X9 (LTramWiresModel_o h2) (by decide) (c_X9_plan h2 hc66) dL_law_443 (Nat.le_of_ble_eq_true rfl) ?_
        refine g_icmp_eq (pc := 446) (tgt := 668) cx dL_law_446 rfl hf (fun hf => ?_) (fun hf => ?_)
        · exact w_L_law_668 cx en h1 h2 sc (fun _ _ hf => ih hf) hf
        · refine g_iconst (pc := 449) (v := 0) cx dL_law_449 (by decide) ?_
          exact g_lret (pc := 450) cx en dL_law_450 hf
      refine g_swk (pc := 32) (kx := 11) (off := 419) (tgt := 451) cx dL_law_32 (by decide) (by decide) (by decide) (by decide) hf (fun hf => ?_) (fun n11 hf => ?_)
      · refine g_aload_n (pc := 451) cx dL_law_451 rfl 1 rfl ?_
        refine g_aload_n (pc := 452) cx dL_law_452 rfl 0 rfl ?_
        refine g_iload_n (pc := 453) cx dL_law_453 rfl 3 rfl ?_
        refine g_iconst (pc := 454) (v := 1) cx dL_law_454 (by decide) ?_
        refine g_iadd (pc := 455) cx dL_law_455 ?_
        refine g_sld (pc := 456) cx sc dL_law_456 hf (fun hf => ?_)
        obtain ⟨q70, M68, hc69, hf⟩ := obn_some2 hf
        refine g_callVi (pc := 457) [.int (xs (ix (x3 + 1)))] [] cx lk_L_60 vw_X8 (LTramWires_o h1) (by decide) (c_X8_canPlan h1 hc69) dL_law_457 (Nat.le_of_ble_eq_true rfl) ?_
        refine g_aload_n (pc := 460) cx dL_law_460 rfl 2 rfl ?_
        refine g_aload_n (pc := 461) cx dL_law_461 rfl 0 rfl ?_
        refine g_iload_n (pc := 462) cx dL_law_462 rfl 3 rfl ?_
        refine g_iconst (pc := 463) (v := 1) cx dL_law_463 (by decide) ?_
        refine g_iadd (pc := 464) cx dL_law_464 ?_
        refine g_sld (pc := 465) cx sc dL_law_465 hf (fun hf => ?_)
        obtain ⟨q73, M71, hc72, hf⟩ := obn_some2 hf
        refine g_callVi (pc := 466) [.int (xs (ix (x3 + 1)))] [.int q70] cx lk_L_63 vw_X9 (LTramWiresModel_o h2) (by decide) (c_X9_canPlan h2 hc72) dL_law_466 (Nat.le_of_ble_eq_true rfl) ?_
        refine g_icmp_eq (pc := 469) (tgt := 668) cx dL_law_469 rfl hf (fun hf => ?_) (fun hf => ?_)
        · exact w_L_law_668 cx en h1 h2 sc (fun _ _ hf => ih hf) hf
        · refine g_iconst (pc := 472) (v := 0) cx dL_law_472 (by decide) ?_
          exact g_lret (pc := 473) cx en dL_law_473 hf
      refine g_swk (pc := 32) (kx := 12) (off := 442) (tgt := 474) cx dL_law_32 (by decide) (by decide) (by decide) (by decide) hf (fun hf => ?_) (fun n12 hf => ?_)
      · refine g_aload_n (pc := 474) cx dL_law_474 rfl 1 rfl ?_
        refine g_aload_n (pc := 475) cx dL_law_475 rfl 0 rfl ?_
        refine g_iload_n (pc := 476) cx dL_law_476 rfl 3 rfl ?_
        refine g_iconst (pc := 477) (v := 1) cx dL_law_477 (by decide) ?_
        refine g_iadd (pc := 478) cx dL_law_478 ?_
        refine g_sld (pc := 479) cx sc dL_law_479 hf (fun hf => ?_)
        refine g_aload_n (pc := 480) cx dL_law_480 rfl 0 rfl ?_
        refine g_iload_n (pc := 481) cx dL_law_481 rfl 3 rfl ?_
        refine g_iconst (pc := 482) (v := 2) cx dL_law_482 (by decide) ?_
        refine g_iadd (pc := 483) cx dL_law_483 ?_
        refine g_sld (pc := 484) cx sc dL_law_484 hf (fun hf => ?_)
        refine g_aload_n (pc := 485) cx dL_law_485 rfl 0 rfl ?_
        refine g_iload_n (pc := 486) cx dL_law_486 rfl 3 rfl ?_
        refine g_iconst (pc := 487) (v := 3) cx dL_law_487 (by decide) ?_
        refine g_iadd (pc := 488) cx dL_law_488 ?_
        refine g_sld (pc := 489) cx sc dL_law_489 hf (fun hf => ?_)
        obtain ⟨q76, M74, hc75, hf⟩ := obn_some2 hf
        refine g_callVi (pc := 490) [.int (xs (ix (x3 + 1))), .int (xs (ix (x3 + 2))), .int (xs (ix (x3 + 3)))] [] cx lk_L_64 vw_X8 (LTramWires_o h1) (by decide) (c_X8_enter h1 hc75) dL_law_490 (Nat.le_of_ble_eq_true rfl) ?_
        refine g_aload_n (pc := 493) cx dL_law_493 rfl 2 rfl ?_
        refine g_aload_n (pc := 494) cx dL_law_494 rfl 0 rfl ?_
        refine g_iload_n (pc := 495) cx dL_law_495 rfl 3 rfl ?_
        refine g_iconst (pc := 496) (v := 1) cx dL_law_496 (by decide) ?_
        refine g_iadd (pc := 497) cx dL_law_497 ?_
        refine g_sld (pc := 498) cx sc dL_law_498 hf (fun hf => ?_)
        refine g_aload_n (pc := 499) cx dL_law_499 rfl 0 rfl ?_
        refine g_iload_n (pc := 500) cx dL_law_500 rfl 3 rfl ?_
        refine g_iconst (pc := 501) (v := 2) cx dL_law_501 (by decide) ?_
        refine g_iadd (pc := 502) cx dL_law_502 ?_
        refine g_sld (pc := 503) cx sc dL_law_503 hf (fun hf => ?_)
        refine g_aload_n (pc := 504) cx dL_law_504 rfl 0 rfl ?_
        refine g_iload_n (pc := 505) cx dL_law_505 rfl 3 rfl ?_
        refine g_iconst (pc := 506) (v := 3) cx dL_law_506 (by decide) ?_
        refine g_iadd (pc := 507) cx dL_law_507 ?_
        refine g_sld (pc := 508) cx sc dL_law_508 hf (fun hf => ?_)
        obtain ⟨q79, M77, hc78, hf⟩ := obn_some2 hf
        refine g_callVi (pc := 509) [.int (xs (ix (x3 + 1))), .int (xs (ix (x3 + 2))), .int (xs (ix (x3 + 3)))] [.int q76] cx lk_L_68 vw_X9 (LTramWiresModel_o h2) (by decide) (c_X9_enter h2 hc78) dL_law_509 (Nat.le_of_ble_eq_true rfl) ?_
        refine g_icmp_eq (pc := 512) (tgt := 668) cx dL_law_512 rfl hf (fun hf => ?_) (fun hf => ?_)
        · exact w_L_law_668 cx en h1 h2 sc (fun _ _ hf => ih hf) hf
        · refine g_iconst (pc := 515) (v := 0) cx dL_law_515 (by decide) ?_
          exact g_lret (pc := 516) cx en dL_law_516 hf
      refine g_swk (pc := 32) (kx := 13) (off := 485) (tgt := 517) cx dL_law_32 (by decide) (by decide) (by decide) (by decide) hf (fun hf => ?_) (fun n13 hf => ?_)
      · refine g_aload_n (pc := 517) cx dL_law_517 rfl 1 rfl ?_
        refine g_aload_n (pc := 518) cx dL_law_518 rfl 0 rfl ?_
        refine g_iload_n (pc := 519) cx dL_law_519 rfl 3 rfl ?_
        refine g_iconst (pc := 520) (v := 1) cx dL_law_520 (by decide) ?_
        refine g_iadd (pc := 521) cx dL_law_521 ?_
        refine g_sld (pc := 522) cx sc dL_law_522 hf (fun hf => ?_)
        refine g_aload_n (pc := 523) cx dL_law_523 rfl 0 rfl ?_
        refine g_iload_n (pc := 524) cx dL_law_524 rfl 3 rfl ?_
        refine g_iconst (pc := 525) (v := 2) cx dL_law_525 (by decide) ?_
        refine g_iadd (pc := 526) cx dL_law_526 ?_
        refine g_sld (pc := 527) cx sc dL_law_527 hf (fun hf => ?_)
        obtain ⟨q82, M80, hc81, hf⟩ := obn_some2 hf
        refine g_callVi (pc := 528) [.int (xs (ix (x3 + 1))), .int (xs (ix (x3 + 2)))] [] cx lk_L_69 vw_X8 (LTramWires_o h1) (by decide) (c_X8_leave h1 hc81) dL_law_528 (Nat.le_of_ble_eq_true rfl) ?_
        refine g_aload_n (pc := 531) cx dL_law_531 rfl 2 rfl ?_
        refine g_aload_n (pc := 532) cx dL_law_532 rfl 0 rfl ?_
        refine g_iload_n (pc := 533) cx dL_law_533 rfl 3 rfl ?_
        refine g_iconst (pc := 534) (v := 1) cx dL_law_534 (by decide) ?_
        refine g_iadd (pc := 535) cx dL_law_535 ?_
        refine g_sld (pc := 536) cx sc dL_law_536 hf (fun hf => ?_)
        refine g_aload_n (pc := 537) cx dL_law_537 rfl 0 rfl ?_
        refine g_iload_n (pc := 538) cx dL_law_538 rfl 3 rfl ?_
        refine g_iconst (pc := 539) (v := 2) cx dL_law_539 (by decide) ?_
        refine g_iadd (pc := 540) cx dL_law_540 ?_
        refine g_sld (pc := 541) cx sc dL_law_541 hf (fun hf => ?_)
        obtain ⟨q85, M83, hc84, hf⟩ := obn_some2 hf
        refine g_callVi (pc := 542) [.int (xs (ix (x3 + 1))), .int (xs (ix (x3 + 2)))] [.int q82] cx lk_L_72 vw_X9 (LTramWiresModel_o h2) (by decide) (c_X9_leave h2 hc84) dL_law_542 (Nat.le_of_ble_eq_true rfl) ?_
        refine g_icmp_eq (pc := 545) (tgt := 668) cx dL_law_545 rfl hf (fun hf => ?_) (fun hf => ?_)
        · exact w_L_law_668 cx en h1 h2 sc (fun _ _ hf => ih hf) hf
        · refine g_iconst (pc := 548) (v := 0) cx dL_law_548 (by decide) ?_
          exact g_lret (pc := 549) cx en dL_law_549 hf
      refine g_swk (pc := 32) (kx := 14) (off := 518) (tgt := 550) cx dL_law_32 (by decide) (by decide) (by decide) (by decide) hf (fun hf => ?_) (fun n14 hf => ?_)
      · refine g_aload_n (pc := 550) cx dL_law_550 rfl 1 rfl ?_
        refine g_aload_n (pc := 551) cx dL_law_551 rfl 0 rfl ?_
        refine g_iload_n (pc := 552) cx dL_law_552 rfl 3 rfl ?_
        refine g_iconst (pc := 553) (v := 1) cx dL_law_553 (by decide) ?_
        refine g_iadd (pc := 554) cx dL_law_554 ?_
        refine g_sld (pc := 555) cx sc dL_law_555 hf (fun hf => ?_)
        obtain ⟨q88, M86, hc87, hf⟩ := obn_some2 hf
        refine g_callVi (pc := 556) [.int (xs (ix (x3 + 1)))] [] cx lk_L_73 vw_X8 (LTramWires_o h1) (by decide) (c_X8_fetch h1 hc87) dL_law_556 (Nat.le_of_ble_eq_true rfl) ?_
        refine g_aload_n (pc := 559) cx dL_law_559 rfl 2 rfl ?_
        refine g_aload_n (pc := 560) cx dL_law_560 rfl 0 rfl ?_
        refine g_iload_n (pc := 561) cx dL_law_561 rfl 3 rfl ?_
        refine g_iconst (pc := 562) (v := 1) cx dL_law_562 (by decide) ?_
        refine g_iadd (pc := 563) cx dL_law_563 ?_
        refine g_sld (pc := 564) cx sc dL_law_564 hf (fun hf => ?_)
        obtain ⟨q91, M89, hc90, hf⟩ := obn_some2 hf
        refine g_callVi (pc := 565) [.int (xs (ix (x3 + 1)))] [.int q88] cx lk_L_76 vw_X9 (LTramWiresModel_o h2) (by decide) (c_X9_fetch h2 hc90) dL_law_565 (Nat.le_of_ble_eq_true rfl) ?_
        refine g_icmp_eq (pc := 568) (tgt := 668) cx dL_law_568 rfl hf (fun hf => ?_) (fun hf => ?_)
        · exact w_L_law_668 cx en h1 h2 sc (fun _ _ hf => ih hf) hf
        · refine g_iconst (pc := 571) (v := 0) cx dL_law_571 (by decide) ?_
          exact g_lret (pc := 572) cx en dL_law_572 hf
      refine g_swk (pc := 32) (kx := 15) (off := 541) (tgt := 573) cx dL_law_32 (by decide) (by decide) (by decide) (by decide) hf (fun hf => ?_) (fun n15 hf => ?_)
      · refine g_aload_n (pc := 573) cx dL_law_573 rfl 1 rfl ?_
        refine g_aload_n (pc := 574) cx dL_law_574 rfl 0 rfl ?_
        refine g_iload_n (pc := 575) cx dL_law_575 rfl 3 rfl ?_
        refine g_iconst (pc := 576) (v := 1) cx dL_law_576 (by decide) ?_
        refine g_iadd (pc := 577) cx dL_law_577 ?_
        refine g_sld (pc := 578) cx sc dL_law_578 hf (fun hf => ?_)
        obtain ⟨q94, M92, hc93, hf⟩ := obn_some2 hf
        refine g_callVi (pc := 579) [.int (xs (ix (x3 + 1)))] [] cx lk_L_77 vw_X8 (LTramWires_o h1) (by decide) (c_X8_pass h1 hc93) dL_law_579 (Nat.le_of_ble_eq_true rfl) ?_
        refine g_aload_n (pc := 582) cx dL_law_582 rfl 2 rfl ?_
        refine g_aload_n (pc := 583) cx dL_law_583 rfl 0 rfl ?_
        refine g_iload_n (pc := 584) cx dL_law_584 rfl 3 rfl ?_
        refine g_iconst (pc := 585) (v := 1) cx dL_law_585 (by decide) ?_
        refine g_iadd (pc := 586) cx dL_law_586 ?_
        refine g_sld (pc := 587) cx sc dL_law_587 hf (fun hf => ?_)
        obtain ⟨q97, M95, hc96, hf⟩ := obn_some2 hf
        refine g_callVi (pc := 588) [.int (xs (ix (x3 + 1)))] [.int q94] cx lk_L_80 vw_X9 (LTramWiresModel_o h2) (by decide) (c_X9_pass h2 hc96) dL_law_588 (Nat.le_of_ble_eq_true rfl) ?_
        refine g_icmp_eq (pc := 591) (tgt := 668) cx dL_law_591 rfl hf (fun hf => ?_) (fun hf => ?_)
        · exact w_L_law_668 cx en h1 h2 sc (fun _ _ hf => ih hf) hf
        · refine g_iconst (pc := 594) (v := 0) cx dL_law_594 (by decide) ?_
          exact g_lret (pc := 595) cx en dL_law_595 hf
      refine g_swk (pc := 32) (kx := 16) (off := 564) (tgt := 596) cx dL_law_32 (by decide) (by decide) (by decide) (by decide) hf (fun hf => ?_) (fun n16 hf => ?_)
      · refine g_aload_n (pc := 596) cx dL_law_596 rfl 1 rfl ?_
        refine g_aload_n (pc := 597) cx dL_law_597 rfl 0 rfl ?_
        refine g_iload_n (pc := 598) cx dL_law_598 rfl 3 rfl ?_
        refine g_iconst (pc := 599) (v := 1) cx dL_law_599 (by decide) ?_
        refine g_iadd (pc := 600) cx dL_law_600 ?_
        refine g_sld (pc := 601) cx sc dL_law_601 hf (fun hf => ?_)
        obtain ⟨q100, M98, hc99, hf⟩ := obn_some2 hf
        refine g_callVi (pc := 602) [.int (xs (ix (x3 + 1)))] [] cx lk_L_81 vw_X8 (LTramWires_o h1) (by decide) (c_X8_type h1 hc99) dL_law_602 (Nat.le_of_ble_eq_true rfl) ?_
        refine g_aload_n (pc := 605) cx dL_law_605 rfl 2 rfl ?_
        refine g_aload_n (pc := 606) cx dL_law_606 rfl 0 rfl ?_
        refine g_iload_n (pc := 607) cx dL_law_607 rfl 3 rfl ?_
        refine g_iconst (pc := 608) (v := 1) cx dL_law_608 (by decide) ?_
        refine g_iadd (pc := 609) cx dL_law_609 ?_
        refine g_sld (pc := 610) cx sc dL_law_610 hf (fun hf => ?_)
        obtain ⟨q103, M101, hc102, hf⟩ := obn_some2 hf
        refine g_callVi (pc := 611) [.int (xs (ix (x3 + 1)))] [.int q100] cx lk_L_84 vw_X9 (LTramWiresModel_o h2) (by decide) (c_X9_type h2 hc102) dL_law_611 (Nat.le_of_ble_eq_true rfl) ?_
        refine g_icmp_eq (pc := 614) (tgt := 668) cx dL_law_614 rfl hf (fun hf => ?_) (fun hf => ?_)
        · exact w_L_law_668 cx en h1 h2 sc (fun _ _ hf => ih hf) hf
        · refine g_iconst (pc := 617) (v := 0) cx dL_law_617 (by decide) ?_
          exact g_lret (pc := 618) cx en dL_law_618 hf
      refine g_swk (pc := 32) (kx := 17) (off := 587) (tgt := 619) cx dL_law_32 (by decide) (by decide) (by decide) (by decide) hf (fun hf => ?_) (fun n17 hf => ?_)
      · refine g_aload_n (pc := 619) cx dL_law_619 rfl 1 rfl ?_
        obtain ⟨q106, M104, hc105, hf⟩ := obn_some2 hf
        refine g_callVi (pc := 620) [] [] cx lk_L_85 vw_X8 (LTramWires_o h1) (by decide) (c_X8_clearText h1 hc105) dL_law_620 (Nat.le_of_ble_eq_true rfl) ?_
        refine g_aload_n (pc := 623) cx dL_law_623 rfl 2 rfl ?_
        obtain ⟨q109, M107, hc108, hf⟩ := obn_some2 hf
        refine g_callVi (pc := 624) [] [.int q106] cx lk_L_88 vw_X9 (LTramWiresModel_o h2) (by decide) (c_X9_clearText h2 hc108) dL_law_624 (Nat.le_of_ble_eq_true rfl) ?_
        refine g_icmp_eq (pc := 627) (tgt := 668) cx dL_law_627 rfl hf (fun hf => ?_) (fun hf => ?_)
        · exact w_L_law_668 cx en h1 h2 sc (fun _ _ hf => ih hf) hf
        · refine g_iconst (pc := 630) (v := 0) cx dL_law_630 (by decide) ?_
          exact g_lret (pc := 631) cx en dL_law_631 hf
      refine g_swk (pc := 32) (kx := 18) (off := 600) (tgt := 632) cx dL_law_32 (by decide) (by decide) (by decide) (by decide) hf (fun hf => ?_) (fun n18 hf => ?_)
      · refine g_aload_n (pc := 632) cx dL_law_632 rfl 1 rfl ?_
        refine g_aload_n (pc := 633) cx dL_law_633 rfl 0 rfl ?_
        refine g_iload_n (pc := 634) cx dL_law_634 rfl 3 rfl ?_
        refine g_iconst (pc := 635) (v := 1) cx dL_law_635 (by decide) ?_
        refine g_iadd (pc := 636) cx dL_law_636 ?_
        refine g_sld (pc := 637) cx sc dL_law_637 hf (fun hf => ?_)
        obtain ⟨q112, M110, hc111, hf⟩ := obn_some2 hf
        refine g_callVi (pc := 638) [.int (xs (ix (x3 + 1)))] [] cx lk_L_89 vw_X8 (LTramWires_o h1) (by decide) (c_X8_fault h1 hc111) dL_law_638 (Nat.le_of_ble_eq_true rfl) ?_
        refine g_aload_n (pc := 641) cx dL_law_641 rfl 2 rfl ?_
        refine g_aload_n (pc := 642) cx dL_law_642 rfl 0 rfl ?_
        refine g_iload_n (pc := 643) cx dL_law_643 rfl 3 rfl ?_
        refine g_iconst (pc := 644) (v := 1) cx dL_law_644 (by decide) ?_
        refine g_iadd (pc := 645) cx dL_law_645 ?_
        refine g_sld (pc := 646) cx sc dL_law_646 hf (fun hf => ?_)
        obtain ⟨q115, M113, hc114, hf⟩ := obn_some2 hf
        refine g_callVi (pc := 647) [.int (xs (ix (x3 + 1)))] [.int q112] cx lk_L_92 vw_X9 (LTramWiresModel_o h2) (by decide) (c_X9_fault h2 hc114) dL_law_647 (Nat.le_of_ble_eq_true rfl) ?_
        refine g_icmp_eq (pc := 650) (tgt := 668) cx dL_law_650 rfl hf (fun hf => ?_) (fun hf => ?_)
        · exact w_L_law_668 cx en h1 h2 sc (fun _ _ hf => ih hf) hf
        · refine g_iconst (pc := 653) (v := 0) cx dL_law_653 (by decide) ?_
          exact g_lret (pc := 654) cx en dL_law_654 hf
      refine g_swk (pc := 32) (kx := 19) (off := 623) (tgt := 655) cx dL_law_32 (by decide) (by decide) (by decide) (by decide) hf (fun hf => ?_) (fun n19 hf => ?_)
      · refine g_aload_n (pc := 655) cx dL_law_655 rfl 1 rfl ?_
        obtain ⟨q118, M116, hc117, hf⟩ := obn_some2 hf
        refine g_callVi (pc := 656) [] [] cx lk_L_93 vw_X8 (LTramWires_o h1) (by decide) (c_X8_play h1 hc117) dL_law_656 (Nat.le_of_ble_eq_true rfl) ?_
        refine g_aload_n (pc := 659) cx dL_law_659 rfl 2 rfl ?_
        obtain ⟨q121, M119, hc120, hf⟩ := obn_some2 hf
        refine g_callVi (pc := 660) [] [.int q118] cx lk_L_96 vw_X9 (LTramWiresModel_o h2) (by decide) (c_X9_play h2 hc120) dL_law_660 (Nat.le_of_ble_eq_true rfl) ?_
        refine g_icmp_eq (pc := 663) (tgt := 668) cx dL_law_663 rfl hf (fun hf => ?_) (fun hf => ?_)
        · exact w_L_law_668 cx en h1 h2 sc (fun _ _ hf => ih hf) hf
        · refine g_iconst (pc := 666) (v := 0) cx dL_law_666 (by decide) ?_
          exact g_lret (pc := 667) cx en dL_law_667 hf
      refine g_swo (pc := 32) (tgt := 668) cx dL_law_32 ?_ (by decide) ?_
      · have q0 := lv_neT n0 (a := 0) (by decide)
        have q1 := lv_neT n1 (a := 1) (by decide)
        have q2 := lv_neT n2 (a := 2) (by decide)
        have q3 := lv_neT n3 (a := 3) (by decide)
        have q4 := lv_neT n4 (a := 4) (by decide)
        have q5 := lv_neT n5 (a := 5) (by decide)
        have q6 := lv_neT n6 (a := 6) (by decide)
        have q7 := lv_neT n7 (a := 7) (by decide)
        have q8 := lv_neT n8 (a := 8) (by decide)
        have q9 := lv_neT n9 (a := 9) (by decide)
        have q10 := lv_neT n10 (a := 10) (by decide)
        have q11 := lv_neT n11 (a := 11) (by decide)
        have q12 := lv_neT n12 (a := 12) (by decide)
        have q13 := lv_neT n13 (a := 13) (by decide)
        have q14 := lv_neT n14 (a := 14) (by decide)
        have q15 := lv_neT n15 (a := 15) (by decide)
        have q16 := lv_neT n16 (a := 16) (by decide)
        have q17 := lv_neT n17 (a := 17) (by decide)
        have q18 := lv_neT n18 (a := 18) (by decide)
        have q19 := lv_neT n19 (a := 19) (by decide)
        omega
      · exact w_L_law_668 cx en h1 h2 sc (fun _ _ hf => ih hf) hf
