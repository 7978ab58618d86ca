theorem dd_La_law_0 : decode code 0 = .ok (.new 7, 3) := by decide +kernel
theorem dd_La_law_3 : decode code 3 = .ok (.dup, 1) := by decide +kernel
theorem dd_La_law_4 : decode code 4 = .ok (.invokespecial 9, 3) := by decide +kernel
theorem dd_La_law_7 : decode code 7 = .ok (.astore_n 1, 1) := by decide +kernel
theorem dd_La_law_8 : decode code 8 = .ok (.new 10, 3) := by decide +kernel
theorem dd_La_law_11 : decode code 11 = .ok (.dup, 1) := by decide +kernel
theorem dd_La_law_12 : decode code 12 = .ok (.invokespecial 12, 3) := by decide +kernel
theorem dd_La_law_15 : decode code 15 = .ok (.astore_n 2, 1) := by decide +kernel
theorem dd_La_law_16 : decode code 16 = .ok (.iconst 0, 1) := by decide +kernel
theorem dd_La_law_17 : decode code 17 = .ok (.istore_n 3, 1) := by decide +kernel
theorem dd_La_law_18 : decode code 18 = .ok (.iload_n 3, 1) := by decide +kernel
theorem dd_La_law_19 : decode code 19 = .ok (.aload_n 0, 1) := by decide +kernel
theorem dd_La_law_20 : decode code 20 = .ok (.arraylength, 1) := by decide +kernel
theorem dd_La_law_21 : decode code 21 = .ok (.bipush 7, 2) := by decide +kernel
theorem dd_La_law_23 : decode code 23 = .ok (.isub, 1) := by decide +kernel
theorem dd_La_law_24 : decode code 24 = .ok (.if_icmp .gt 715, 3) := by decide +kernel
theorem dd_La_law_27 : decode code 27 = .ok (.aload_n 0, 1) := by decide +kernel
theorem dd_La_law_28 : decode code 28 = .ok (.iload_n 3, 1) := by decide +kernel
theorem dd_La_law_29 : decode code 29 = .ok (.iaload, 1) := by decide +kernel
theorem dd_La_law_30 : decode code 30 = .ok (.bipush 31, 2) := by decide +kernel
theorem dd_La_law_32 : decode code 32 = .ok (.iand, 1) := by decide +kernel
theorem dd_La_law_33 : decode code 33 = .ok (.tableswitch 700 0 19 #[95, 168, 191, 240, 263, 286, 319, 342, 437, 450, 463, 477, 516, 529, 542, 565, 588, 611, 634, 667], 95) := by decide +kernel
theorem dd_La_law_128 : decode code 128 = .ok (.aload_n 1, 1) := by decide +kernel
theorem dd_La_law_129 : decode code 129 = .ok (.aload_n 0, 1) := by decide +kernel
theorem dd_La_law_130 : decode code 130 = .ok (.iload_n 3, 1) := by decide +kernel
theorem dd_La_law_131 : decode code 131 = .ok (.iconst 1, 1) := by decide +kernel
theorem dd_La_law_132 : decode code 132 = .ok (.iadd, 1) := by decide +kernel
theorem dd_La_law_133 : decode code 133 = .ok (.iaload, 1) := by decide +kernel
theorem dd_La_law_134 : decode code 134 = .ok (.aload_n 0, 1) := by decide +kernel
theorem dd_La_law_135 : decode code 135 = .ok (.iload_n 3, 1) := by decide +kernel
theorem dd_La_law_136 : decode code 136 = .ok (.iconst 2, 1) := by decide +kernel
theorem dd_La_law_137 : decode code 137 = .ok (.iadd, 1) := by decide +kernel
theorem dd_La_law_138 : decode code 138 = .ok (.iaload, 1) := by decide +kernel
theorem dd_La_law_139 : decode code 139 = .ok (.i2l, 1) := by decide +kernel
theorem dd_La_law_140 : decode code 140 = .ok (.bipush 32, 2) := by decide +kernel
theorem dd_La_law_142 : decode code 142 = .ok (.lshl, 1) := by decide +kernel
theorem dd_La_law_143 : decode code 143 = .ok (.aload_n 0, 1) := by decide +kernel
theorem dd_La_law_144 : decode code 144 = .ok (.iload_n 3, 1) := by decide +kernel
theorem dd_La_law_145 : decode code 145 = .ok (.iconst 3, 1) := by decide +kernel
theorem dd_La_law_146 : decode code 146 = .ok (.iadd, 1) := by decide +kernel
theorem dd_La_law_147 : decode code 147 = .ok (.iaload, 1) := by decide +kernel
theorem dd_La_law_148 : decode code 148 = .ok (.i2l, 1) := by decide +kernel
theorem dd_La_law_149 : decode code 149 = .ok (.ldc2_w 13, 3) := by decide +kernel
theorem dd_La_law_152 : decode code 152 = .ok (.land, 1) := by decide +kernel
theorem dd_La_law_153 : decode code 153 = .ok (.lor, 1) := by decide +kernel
theorem dd_La_law_154 : decode code 154 = .ok (.aload_n 0, 1) := by decide +kernel
theorem dd_La_law_155 : decode code 155 = .ok (.iload_n 3, 1) := by decide +kernel
theorem dd_La_law_156 : decode code 156 = .ok (.iconst 4, 1) := by decide +kernel
theorem dd_La_law_157 : decode code 157 = .ok (.iadd, 1) := by decide +kernel
theorem dd_La_law_158 : decode code 158 = .ok (.iaload, 1) := by decide +kernel
theorem dd_La_law_159 : decode code 159 = .ok (.invokevirtual 15, 3) := by decide +kernel
theorem dd_La_law_162 : decode code 162 = .ok (.aload_n 2, 1) := by decide +kernel
theorem dd_La_law_163 : decode code 163 = .ok (.aload_n 0, 1) := by decide +kernel
theorem dd_La_law_164 : decode code 164 = .ok (.iload_n 3, 1) := by decide +kernel
theorem dd_La_law_165 : decode code 165 = .ok (.iconst 1, 1) := by decide +kernel
theorem dd_La_law_166 : decode code 166 = .ok (.iadd, 1) := by decide +kernel
theorem dd_La_law_167 : decode code 167 = .ok (.iaload, 1) := by decide +kernel
theorem dd_La_law_168 : decode code 168 = .ok (.aload_n 0, 1) := by decide +kernel
theorem dd_La_law_169 : decode code 169 = .ok (.iload_n 3, 1) := by decide +kernel
theorem dd_La_law_170 : decode code 170 = .ok (.iconst 2, 1) := by decide +kernel
theorem dd_La_law_171 : decode code 171 = .ok (.iadd, 1) := by decide +kernel
theorem dd_La_law_172 : decode code 172 = .ok (.iaload, 1) := by decide +kernel
theorem dd_La_law_173 : decode code 173 = .ok (.i2l, 1) := by decide +kernel
theorem dd_La_law_174 : decode code 174 = .ok (.bipush 32, 2) := by decide +kernel
theorem dd_La_law_176 : decode code 176 = .ok (.lshl, 1) := by decide +kernel
theorem dd_La_law_177 : decode code 177 = .ok (.aload_n 0, 1) := by decide +kernel
theorem dd_La_law_178 : decode code 178 = .ok (.iload_n 3, 1) := by decide +kernel
theorem dd_La_law_179 : decode code 179 = .ok (.iconst 3, 1) := by decide +kernel
theorem dd_La_law_180 : decode code 180 = .ok (.iadd, 1) := by decide +kernel
theorem dd_La_law_181 : decode code 181 = .ok (.iaload, 1) := by decide +kernel
theorem dd_La_law_182 : decode code 182 = .ok (.i2l, 1) := by decide +kernel
theorem dd_La_law_183 : decode code 183 = .ok (.ldc2_w 13, 3) := by decide +kernel
theorem dd_La_law_186 : decode code 186 = .ok (.land, 1) := by decide +kernel
theorem dd_La_law_187 : decode code 187 = .ok (.lor, 1) := by decide +kernel
theorem dd_La_law_188 : decode code 188 = .ok (.aload_n 0, 1) := by decide +kernel
theorem dd_La_law_189 : decode code 189 = .ok (.iload_n 3, 1) := by decide +kernel
theorem dd_La_law_190 : decode code 190 = .ok (.iconst 4, 1) := by decide +kernel
theorem dd_La_law_191 : decode code 191 = .ok (.iadd, 1) := by decide +kernel
theorem dd_La_law_192 : decode code 192 = .ok (.iaload, 1) := by decide +kernel
theorem dd_La_law_193 : decode code 193 = .ok (.invokevirtual 19, 3) := by decide +kernel
theorem dd_La_law_196 : decode code 196 = .ok (.if_icmp .eq 537, 3) := by decide +kernel
theorem dd_La_law_199 : decode code 199 = .ok (.iconst 0, 1) := by decide +kernel
theorem dd_La_law_200 : decode code 200 = .ok (.ireturn, 1) := by decide +kernel
theorem dd_La_law_201 : decode code 201 = .ok (.aload_n 1, 1) := by decide +kernel
theorem dd_La_law_202 : decode code 202 = .ok (.aload_n 0, 1) := by decide +kernel
theorem dd_La_law_203 : decode code 203 = .ok (.iload_n 3, 1) := by decide +kernel
theorem dd_La_law_204 : decode code 204 = .ok (.iconst 1, 1) := by decide +kernel
theorem dd_La_law_205 : decode code 205 = .ok (.iadd, 1) := by decide +kernel
theorem dd_La_law_206 : decode code 206 = .ok (.iaload, 1) := by decide +kernel
theorem dd_La_law_207 : decode code 207 = .ok (.invokevirtual 20, 3) := by decide +kernel
theorem dd_La_law_210 : decode code 210 = .ok (.aload_n 2, 1) := by decide +kernel
theorem dd_La_law_211 : decode code 211 = .ok (.aload_n 0, 1) := by decide +kernel
theorem dd_La_law_212 : decode code 212 = .ok (.iload_n 3, 1) := by decide +kernel
theorem dd_La_law_213 : decode code 213 = .ok (.iconst 1, 1) := by decide +kernel
theorem dd_La_law_214 : decode code 214 = .ok (.iadd, 1) := by decide +kernel
theorem dd_La_law_215 : decode code 215 = .ok (.iaload, 1) := by decide +kernel
theorem dd_La_law_216 : decode code 216 = .ok (.invokevirtual 24, 3) := by decide +kernel
theorem dd_La_law_219 : decode code 219 = .ok (.if_icmp .eq 514, 3) := by decide +kernel
theorem dd_La_law_222 : decode code 222 = .ok (.iconst 0, 1) := by decide +kernel
theorem dd_La_law_223 : decode code 223 = .ok (.ireturn, 1) := by decide +kernel
theorem dd_La_law_224 : decode code 224 = .ok (.aload_n 1, 1) := by decide +kernel
theorem dd_La_law_225 : decode code 225 = .ok (.aload_n 0, 1) := by decide +kernel
theorem dd_La_law_226 : decode code 226 = .ok (.iload_n 3, 1) := by decide +kernel
theorem dd_La_law_227 : decode code 227 = .ok (.iconst 1, 1) := by decide +kernel
theorem dd_La_law_228 : decode code 228 = .ok (.iadd, 1) := by decide +kernel
theorem dd_La_law_229 : decode code 229 = .ok (.iaload, 1) := by decide +kernel
theorem dd_La_law_230 : decode code 230 = .ok (.aload_n 0, 1) := by decide +kernel
theorem dd_La_law_231 : decode code 231 = .ok (.iload_n 3, 1) := by decide +kernel
theorem dd_La_law_232 : decode code 232 = .ok (.iconst 2, 1) := by decide +kernel
theorem dd_La_law_233 : decode code 233 = .ok (.iadd, 1) := by decide +kernel
theorem dd_La_law_234 : decode code 234 = .ok (.iaload, 1) := by decide +kernel
theorem dd_La_law_235 : decode code 235 = .ok (.ifCond .eq 7, 3) := by decide +kernel
theorem dd_La_law_238 : decode code 238 = .ok (.iconst 1, 1) := by decide +kernel
theorem dd_La_law_239 : decode code 239 = .ok (.goto 4, 3) := by decide +kernel
theorem dd_La_law_242 : decode code 242 = .ok (.iconst 0, 1) := by decide +kernel
theorem dd_La_law_243 : decode code 243 = .ok (.invokevirtual 25, 3) := by decide +kernel
theorem dd_La_law_246 : decode code 246 = .ok (.aload_n 2, 1) := by decide +kernel
theorem dd_La_law_247 : decode code 247 = .ok (.aload_n 0, 1) := by decide +kernel
theorem dd_La_law_248 : decode code 248 = .ok (.iload_n 3, 1) := by decide +kernel
theorem dd_La_law_249 : decode code 249 = .ok (.iconst 1, 1) := by decide +kernel
theorem dd_La_law_250 : decode code 250 = .ok (.iadd, 1) := by decide +kernel
theorem dd_La_law_251 : decode code 251 = .ok (.iaload, 1) := by decide +kernel
theorem dd_La_law_252 : decode code 252 = .ok (.aload_n 0, 1) := by decide +kernel
theorem dd_La_law_253 : decode code 253 = .ok (.iload_n 3, 1) := by decide +kernel
theorem dd_La_law_254 : decode code 254 = .ok (.iconst 2, 1) := by decide +kernel
theorem dd_La_law_255 : decode code 255 = .ok (.iadd, 1) := by decide +kernel
theorem dd_La_law_256 : decode code 256 = .ok (.iaload, 1) := by decide +kernel
theorem dd_La_law_257 : decode code 257 = .ok (.ifCond .eq 7, 3) := by decide +kernel
theorem dd_La_law_260 : decode code 260 = .ok (.iconst 1, 1) := by decide +kernel
theorem dd_La_law_261 : decode code 261 = .ok (.goto 4, 3) := by decide +kernel
theorem dd_La_law_264 : decode code 264 = .ok (.iconst 0, 1) := by decide +kernel
theorem dd_La_law_265 : decode code 265 = .ok (.invokevirtual 29, 3) := by decide +kernel
theorem dd_La_law_268 : decode code 268 = .ok (.if_icmp .eq 465, 3) := by decide +kernel
theorem dd_La_law_271 : decode code 271 = .ok (.iconst 0, 1) := by decide +kernel
theorem dd_La_law_272 : decode code 272 = .ok (.ireturn, 1) := by decide +kernel
theorem dd_La_law_273 : decode code 273 = .ok (.aload_n 1, 1) := by decide +kernel
theorem dd_La_law_274 : decode code 274 = .ok (.aload_n 0, 1) := by decide +kernel
theorem dd_La_law_275 : decode code 275 = .ok (.iload_n 3, 1) := by decide +kernel
theorem dd_La_law_276 : decode code 276 = .ok (.iconst 1, 1) := by decide +kernel
theorem dd_La_law_277 : decode code 277 = .ok (.iadd, 1) := by decide +kernel
theorem dd_La_law_278 : decode code 278 = .ok (.iaload, 1) := by decide +kernel
theorem dd_La_law_279 : decode code 279 = .ok (.invokevirtual 30, 3) := by decide +kernel
theorem dd_La_law_282 : decode code 282 = .ok (.aload_n 2, 1) := by decide +kernel
theorem dd_La_law_283 : decode code 283 = .ok (.aload_n 0, 1) := by decide +kernel
theorem dd_La_law_284 : decode code 284 = .ok (.iload_n 3, 1) := by decide +kernel
theorem dd_La_law_285 : decode code 285 = .ok (.iconst 1, 1) := by decide +kernel
theorem dd_La_law_286 : decode code 286 = .ok (.iadd, 1) := by decide +kernel
theorem dd_La_law_287 : decode code 287 = .ok (.iaload, 1) := by decide +kernel
theorem dd_La_law_288 : decode code 288 = .ok (.invokevirtual 34, 3) := by decide +kernel
theorem dd_La_law_291 : decode code 291 = .ok (.if_icmp .eq 442, 3) := by decide +kernel
theorem dd_La_law_294 : decode code 294 = .ok (.iconst 0, 1) := by decide +kernel
theorem dd_La_law_295 : decode code 295 = .ok (.ireturn, 1) := by decide +kernel
theorem dd_La_law_296 : decode code 296 = .ok (.aload_n 1, 1) := by decide +kernel
theorem dd_La_law_297 : decode code 297 = .ok (.aload_n 0, 1) := by decide +kernel
theorem dd_La_law_298 : decode code 298 = .ok (.iload_n 3, 1) := by decide +kernel
theorem dd_La_law_299 : decode code 299 = .ok (.iconst 1, 1) := by decide +kernel
theorem dd_La_law_300 : decode code 300 = .ok (.iadd, 1) := by decide +kernel
theorem dd_La_law_301 : decode code 301 = .ok (.iaload, 1) := by decide +kernel
theorem dd_La_law_302 : decode code 302 = .ok (.invokevirtual 35, 3) := by decide +kernel
theorem dd_La_law_305 : decode code 305 = .ok (.aload_n 2, 1) := by decide +kernel
theorem dd_La_law_306 : decode code 306 = .ok (.aload_n 0, 1) := by decide +kernel
theorem dd_La_law_307 : decode code 307 = .ok (.iload_n 3, 1) := by decide +kernel
theorem dd_La_law_308 : decode code 308 = .ok (.iconst 1, 1) := by decide +kernel
theorem dd_La_law_309 : decode code 309 = .ok (.iadd, 1) := by decide +kernel
theorem dd_La_law_310 : decode code 310 = .ok (.iaload, 1) := by decide +kernel
theorem dd_La_law_311 : decode code 311 = .ok (.invokevirtual 38, 3) := by decide +kernel
theorem dd_La_law_314 : decode code 314 = .ok (.if_icmp .eq 419, 3) := by decide +kernel
theorem dd_La_law_317 : decode code 317 = .ok (.iconst 0, 1) := by decide +kernel
theorem dd_La_law_318 : decode code 318 = .ok (.ireturn, 1) := by decide +kernel
theorem dd_La_law_319 : decode code 319 = .ok (.aload_n 1, 1) := by decide +kernel
theorem dd_La_law_320 : decode code 320 = .ok (.aload_n 0, 1) := by decide +kernel
theorem dd_La_law_321 : decode code 321 = .ok (.iload_n 3, 1) := by decide +kernel
theorem dd_La_law_322 : decode code 322 = .ok (.iconst 1, 1) := by decide +kernel
theorem dd_La_law_323 : decode code 323 = .ok (.iadd, 1) := by decide +kernel
theorem dd_La_law_324 : decode code 324 = .ok (.iaload, 1) := by decide +kernel
theorem dd_La_law_325 : decode code 325 = .ok (.aload_n 0, 1) := by decide +kernel
theorem dd_La_law_326 : decode code 326 = .ok (.iload_n 3, 1) := by decide +kernel
theorem dd_La_law_327 : decode code 327 = .ok (.iconst 2, 1) := by decide +kernel
theorem dd_La_law_328 : decode code 328 = .ok (.iadd, 1) := by decide +kernel
theorem dd_La_law_329 : decode code 329 = .ok (.iaload, 1) := by decide +kernel
theorem dd_La_law_330 : decode code 330 = .ok (.invokevirtual 39, 3) := by decide +kernel
theorem dd_La_law_333 : decode code 333 = .ok (.aload_n 2, 1) := by decide +kernel
theorem dd_La_law_334 : decode code 334 = .ok (.aload_n 0, 1) := by decide +kernel
theorem dd_La_law_335 : decode code 335 = .ok (.iload_n 3, 1) := by decide +kernel
theorem dd_La_law_336 : decode code 336 = .ok (.iconst 1, 1) := by decide +kernel
theorem dd_La_law_337 : decode code 337 = .ok (.iadd, 1) := by decide +kernel
theorem dd_La_law_338 : decode code 338 = .ok (.iaload, 1) := by decide +kernel
theorem dd_La_law_339 : decode code 339 = .ok (.aload_n 0, 1) := by decide +kernel
theorem dd_La_law_340 : decode code 340 = .ok (.iload_n 3, 1) := by decide +kernel
theorem dd_La_law_341 : decode code 341 = .ok (.iconst 2, 1) := by decide +kernel
theorem dd_La_law_342 : decode code 342 = .ok (.iadd, 1) := by decide +kernel
theorem dd_La_law_343 : decode code 343 = .ok (.iaload, 1) := by decide +kernel
theorem dd_La_law_344 : decode code 344 = .ok (.invokevirtual 43, 3) := by decide +kernel
theorem dd_La_law_347 : decode code 347 = .ok (.if_icmp .eq 386, 3) := by decide +kernel
theorem dd_La_law_350 : decode code 350 = .ok (.iconst 0, 1) := by decide +kernel
theorem dd_La_law_351 : decode code 351 = .ok (.ireturn, 1) := by decide +kernel
theorem dd_La_law_352 : decode code 352 = .ok (.aload_n 1, 1) := by decide +kernel
theorem dd_La_law_353 : decode code 353 = .ok (.aload_n 0, 1) := by decide +kernel
theorem dd_La_law_354 : decode code 354 = .ok (.iload_n 3, 1) := by decide +kernel
theorem dd_La_law_355 : decode code 355 = .ok (.iconst 1, 1) := by decide +kernel
theorem dd_La_law_356 : decode code 356 = .ok (.iadd, 1) := by decide +kernel
theorem dd_La_law_357 : decode code 357 = .ok (.iaload, 1) := by decide +kernel
theorem dd_La_law_358 : decode code 358 = .ok (.invokevirtual 44, 3) := by decide +kernel
theorem dd_La_law_361 : decode code 361 = .ok (.aload_n 2, 1) := by decide +kernel
theorem dd_La_law_362 : decode code 362 = .ok (.aload_n 0, 1) := by decide +kernel
theorem dd_La_law_363 : decode code 363 = .ok (.iload_n 3, 1) := by decide +kernel
theorem dd_La_law_364 : decode code 364 = .ok (.iconst 1, 1) := by decide +kernel
theorem dd_La_law_365 : decode code 365 = .ok (.iadd, 1) := by decide +kernel
theorem dd_La_law_366 : decode code 366 = .ok (.iaload, 1) := by decide +kernel
theorem dd_La_law_367 : decode code 367 = .ok (.invokevirtual 47, 3) := by decide +kernel
theorem dd_La_law_370 : decode code 370 = .ok (.if_icmp .eq 363, 3) := by decide +kernel
theorem dd_La_law_373 : decode code 373 = .ok (.iconst 0, 1) := by decide +kernel
theorem dd_La_law_374 : decode code 374 = .ok (.ireturn, 1) := by decide +kernel
theorem dd_La_law_375 : decode code 375 = .ok (.aload_n 1, 1) := by decide +kernel
theorem dd_La_law_376 : decode code 376 = .ok (.aload_n 0, 1) := by decide +kernel
theorem dd_La_law_377 : decode code 377 = .ok (.iload_n 3, 1) := by decide +kernel
theorem dd_La_law_378 : decode code 378 = .ok (.iconst 1, 1) := by decide +kernel
theorem dd_La_law_379 : decode code 379 = .ok (.iadd, 1) := by decide +kernel
theorem dd_La_law_380 : decode code 380 = .ok (.iaload, 1) := by decide +kernel
theorem dd_La_law_381 : decode code 381 = .ok (.aload_n 0, 1) := by decide +kernel
theorem dd_La_law_382 : decode code 382 = .ok (.iload_n 3, 1) := by decide +kernel
theorem dd_La_law_383 : decode code 383 = .ok (.iconst 2, 1) := by decide +kernel
theorem dd_La_law_384 : decode code 384 = .ok (.iadd, 1) := by decide +kernel
theorem dd_La_law_385 : decode code 385 = .ok (.iaload, 1) := by decide +kernel
theorem dd_La_law_386 : decode code 386 = .ok (.aload_n 0, 1) := by decide +kernel
theorem dd_La_law_387 : decode code 387 = .ok (.iload_n 3, 1) := by decide +kernel
theorem dd_La_law_388 : decode code 388 = .ok (.iconst 3, 1) := by decide +kernel
theorem dd_La_law_389 : decode code 389 = .ok (.iadd, 1) := by decide +kernel
theorem dd_La_law_390 : decode code 390 = .ok (.iaload, 1) := by decide +kernel
theorem dd_La_law_391 : decode code 391 = .ok (.aload_n 0, 1) := by decide +kernel
theorem dd_La_law_392 : decode code 392 = .ok (.iload_n 3, 1) := by decide +kernel
theorem dd_La_law_393 : decode code 393 = .ok (.iconst 4, 1) := by decide +kernel
theorem dd_La_law_394 : decode code 394 = .ok (.iadd, 1) := by decide +kernel
theorem dd_La_law_395 : decode code 395 = .ok (.iaload, 1) := by decide +kernel
theorem dd_La_law_396 : decode code 396 = .ok (.aload_n 0, 1) := by decide +kernel
theorem dd_La_law_397 : decode code 397 = .ok (.iload_n 3, 1) := by decide +kernel
theorem dd_La_law_398 : decode code 398 = .ok (.iconst 5, 1) := by decide +kernel
theorem dd_La_law_399 : decode code 399 = .ok (.iadd, 1) := by decide +kernel
theorem dd_La_law_400 : decode code 400 = .ok (.iaload, 1) := by decide +kernel
theorem dd_La_law_401 : decode code 401 = .ok (.i2l, 1) := by decide +kernel
theorem dd_La_law_402 : decode code 402 = .ok (.bipush 32, 2) := by decide +kernel
theorem dd_La_law_404 : decode code 404 = .ok (.lshl, 1) := by decide +kernel
theorem dd_La_law_405 : decode code 405 = .ok (.aload_n 0, 1) := by decide +kernel
theorem dd_La_law_406 : decode code 406 = .ok (.iload_n 3, 1) := by decide +kernel
theorem dd_La_law_407 : decode code 407 = .ok (.bipush 6, 2) := by decide +kernel
theorem dd_La_law_409 : decode code 409 = .ok (.iadd, 1) := by decide +kernel
theorem dd_La_law_410 : decode code 410 = .ok (.iaload, 1) := by decide +kernel
theorem dd_La_law_411 : decode code 411 = .ok (.i2l, 1) := by decide +kernel
theorem dd_La_law_412 : decode code 412 = .ok (.ldc2_w 13, 3) := by decide +kernel
theorem dd_La_law_415 : decode code 415 = .ok (.land, 1) := by decide +kernel
theorem dd_La_law_416 : decode code 416 = .ok (.lor, 1) := by decide +kernel
theorem dd_La_law_417 : decode code 417 = .ok (.invokevirtual 48, 3) := by decide +kernel
theorem dd_La_law_420 : decode code 420 = .ok (.aload_n 2, 1) := by decide +kernel
theorem dd_La_law_421 : decode code 421 = .ok (.aload_n 0, 1) := by decide +kernel
theorem dd_La_law_422 : decode code 422 = .ok (.iload_n 3, 1) := by decide +kernel
theorem dd_La_law_423 : decode code 423 = .ok (.iconst 1, 1) := by decide +kernel
theorem dd_La_law_424 : decode code 424 = .ok (.iadd, 1) := by decide +kernel
theorem dd_La_law_425 : decode code 425 = .ok (.iaload, 1) := by decide +kernel
theorem dd_La_law_426 : decode code 426 = .ok (.aload_n 0, 1) := by decide +kernel
theorem dd_La_law_427 : decode code 427 = .ok (.iload_n 3, 1) := by decide +kernel
theorem dd_La_law_428 : decode code 428 = .ok (.iconst 2, 1) := by decide +kernel
theorem dd_La_law_429 : decode code 429 = .ok (.iadd, 1) := by decide +kernel
theorem dd_La_law_430 : decode code 430 = .ok (.iaload, 1) := by decide +kernel
theorem dd_La_law_431 : decode code 431 = .ok (.aload_n 0, 1) := by decide +kernel
theorem dd_La_law_432 : decode code 432 = .ok (.iload_n 3, 1) := by decide +kernel
theorem dd_La_law_433 : decode code 433 = .ok (.iconst 3, 1) := by decide +kernel
theorem dd_La_law_434 : decode code 434 = .ok (.iadd, 1) := by decide +kernel
theorem dd_La_law_435 : decode code 435 = .ok (.iaload, 1) := by decide +kernel
theorem dd_La_law_436 : decode code 436 = .ok (.aload_n 0, 1) := by decide +kernel
theorem dd_La_law_437 : decode code 437 = .ok (.iload_n 3, 1) := by decide +kernel
theorem dd_La_law_438 : decode code 438 = .ok (.iconst 4, 1) := by decide +kernel
theorem dd_La_law_439 : decode code 439 = .ok (.iadd, 1) := by decide +kernel
theorem dd_La_law_440 : decode code 440 = .ok (.iaload, 1) := by decide +kernel
theorem dd_La_law_441 : decode code 441 = .ok (.aload_n 0, 1) := by decide +kernel
theorem dd_La_law_442 : decode code 442 = .ok (.iload_n 3, 1) := by decide +kernel
theorem dd_La_law_443 : decode code 443 = .ok (.iconst 5, 1) := by decide +kernel
theorem dd_La_law_444 : decode code 444 = .ok (.iadd, 1) := by decide +kernel
theorem dd_La_law_445 : decode code 445 = .ok (.iaload, 1) := by decide +kernel
theorem dd_La_law_446 : decode code 446 = .ok (.i2l, 1) := by decide +kernel
theorem dd_La_law_447 : decode code 447 = .ok (.bipush 32, 2) := by decide +kernel
theorem dd_La_law_449 : decode code 449 = .ok (.lshl, 1) := by decide +kernel
theorem dd_La_law_450 : decode code 450 = .ok (.aload_n 0, 1) := by decide +kernel
theorem dd_La_law_451 : decode code 451 = .ok (.iload_n 3, 1) := by decide +kernel
theorem dd_La_law_452 : decode code 452 = .ok (.bipush 6, 2) := by decide +kernel
theorem dd_La_law_454 : decode code 454 = .ok (.iadd, 1) := by decide +kernel
theorem dd_La_law_455 : decode code 455 = .ok (.iaload, 1) := by decide +kernel
theorem dd_La_law_456 : decode code 456 = .ok (.i2l, 1) := by decide +kernel
theorem dd_La_law_457 : decode code 457 = .ok (.ldc2_w 13, 3) := by decide +kernel
theorem dd_La_law_460 : decode code 460 = .ok (.land, 1) := by decide +kernel
theorem dd_La_law_461 : decode code 461 = .ok (.lor, 1) := by decide +kernel
theorem dd_La_law_462 : decode code 462 = .ok (.invokevirtual 52, 3) := by decide +kernel
theorem dd_La_law_465 : decode code 465 = .ok (.if_icmp .eq 268, 3) := by decide +kernel
theorem dd_La_law_468 : decode code 468 = .ok (.iconst 0, 1) := by decide +kernel
theorem dd_La_law_469 : decode code 469 = .ok (.ireturn, 1) := by decide +kernel
theorem dd_La_law_470 : decode code 470 = .ok (.aload_n 1, 1) := by decide +kernel
theorem dd_La_law_471 : decode code 471 = .ok (.invokevirtual 53, 3) := by decide +kernel
theorem dd_La_law_474 : decode code 474 = .ok (.aload_n 2, 1) := by decide +kernel
theorem dd_La_law_475 : decode code 475 = .ok (.invokevirtual 57, 3) := by decide +kernel
theorem dd_La_law_478 : decode code 478 = .ok (.if_icmp .eq 255, 3) := by decide +kernel
theorem dd_La_law_481 : decode code 481 = .ok (.iconst 0, 1) := by decide +kernel
theorem dd_La_law_482 : decode code 482 = .ok (.ireturn, 1) := by decide +kernel
theorem dd_La_law_483 : decode code 483 = .ok (.aload_n 1, 1) := by decide +kernel
theorem dd_La_law_484 : decode code 484 = .ok (.invokevirtual 58, 3) := by decide +kernel
theorem dd_La_law_487 : decode code 487 = .ok (.aload_n 2, 1) := by decide +kernel
theorem dd_La_law_488 : decode code 488 = .ok (.invokevirtual 61, 3) := by decide +kernel
theorem dd_La_law_491 : decode code 491 = .ok (.if_icmp .eq 242, 3) := by decide +kernel
theorem dd_La_law_494 : decode code 494 = .ok (.iconst 0, 1) := by decide +kernel
theorem dd_La_law_495 : decode code 495 = .ok (.ireturn, 1) := by decide +kernel
theorem dd_La_law_496 : decode code 496 = .ok (.aload_n 1, 1) := by decide +kernel
theorem dd_La_law_497 : decode code 497 = .ok (.invokevirtual 62, 3) := by decide +kernel
theorem dd_La_law_500 : decode code 500 = .ok (.aload_n 2, 1) := by decide +kernel
theorem dd_La_law_501 : decode code 501 = .ok (.invokevirtual 66, 3) := by decide +kernel
theorem dd_La_law_504 : decode code 504 = .ok (.lcmp, 1) := by decide +kernel
theorem dd_La_law_505 : decode code 505 = .ok (.ifCond .eq 228, 3) := by decide +kernel
theorem dd_La_law_508 : decode code 508 = .ok (.iconst 0, 1) := by decide +kernel
theorem dd_La_law_509 : decode code 509 = .ok (.ireturn, 1) := by decide +kernel
theorem dd_La_law_510 : decode code 510 = .ok (.aload_n 1, 1) := by decide +kernel
theorem dd_La_law_511 : decode code 511 = .ok (.aload_n 0, 1) := by decide +kernel
theorem dd_La_law_512 : decode code 512 = .ok (.iload_n 3, 1) := by decide +kernel
theorem dd_La_law_513 : decode code 513 = .ok (.iconst 1, 1) := by decide +kernel
theorem dd_La_law_514 : decode code 514 = .ok (.iadd, 1) := by decide +kernel
theorem dd_La_law_515 : decode code 515 = .ok (.iaload, 1) := by decide +kernel
theorem dd_La_law_516 : decode code 516 = .ok (.ifCond .eq 7, 3) := by decide +kernel
theorem dd_La_law_519 : decode code 519 = .ok (.iconst 1, 1) := by decide +kernel
theorem dd_La_law_520 : decode code 520 = .ok (.goto 4, 3) := by decide +kernel
theorem dd_La_law_523 : decode code 523 = .ok (.iconst 0, 1) := by decide +kernel
theorem dd_La_law_524 : decode code 524 = .ok (.invokevirtual 67, 3) := by decide +kernel
theorem dd_La_law_527 : decode code 527 = .ok (.aload_n 2, 1) := by decide +kernel
theorem dd_La_law_528 : decode code 528 = .ok (.aload_n 0, 1) := by decide +kernel
theorem dd_La_law_529 : decode code 529 = .ok (.iload_n 3, 1) := by decide +kernel
theorem dd_La_law_530 : decode code 530 = .ok (.iconst 1, 1) := by decide +kernel
theorem dd_La_law_531 : decode code 531 = .ok (.iadd, 1) := by decide +kernel
theorem dd_La_law_532 : decode code 532 = .ok (.iaload, 1) := by decide +kernel
theorem dd_La_law_533 : decode code 533 = .ok (.ifCond .eq 7, 3) := by decide +kernel
theorem dd_La_law_536 : decode code 536 = .ok (.iconst 1, 1) := by decide +kernel
theorem dd_La_law_537 : decode code 537 = .ok (.goto 4, 3) := by decide +kernel
theorem dd_La_law_540 : decode code 540 = .ok (.iconst 0, 1) := by decide +kernel
theorem dd_La_law_541 : decode code 541 = .ok (.invokevirtual 71, 3) := by decide +kernel
theorem dd_La_law_544 : decode code 544 = .ok (.if_icmp .eq 189, 3) := by decide +kernel
theorem dd_La_law_547 : decode code 547 = .ok (.iconst 0, 1) := by decide +kernel
theorem dd_La_law_548 : decode code 548 = .ok (.ireturn, 1) := by decide +kernel
theorem dd_La_law_549 : decode code 549 = .ok (.aload_n 1, 1) := by decide +kernel
theorem dd_La_law_550 : decode code 550 = .ok (.invokevirtual 72, 3) := by decide +kernel
theorem dd_La_law_553 : decode code 553 = .ok (.aload_n 2, 1) := by decide +kernel
theorem dd_La_law_554 : decode code 554 = .ok (.invokevirtual 76, 3) := by decide +kernel
theorem dd_La_law_557 : decode code 557 = .ok (.if_icmp .eq 176, 3) := by decide +kernel
theorem dd_La_law_560 : decode code 560 = .ok (.iconst 0, 1) := by decide +kernel
theorem dd_La_law_561 : decode code 561 = .ok (.ireturn, 1) := by decide +kernel
theorem dd_La_law_562 : decode code 562 = .ok (.aload_n 1, 1) := by decide +kernel
theorem dd_La_law_563 : decode code 563 = .ok (.invokevirtual 77, 3) := by decide +kernel
theorem dd_La_law_566 : decode code 566 = .ok (.aload_n 2, 1) := by decide +kernel
theorem dd_La_law_567 : decode code 567 = .ok (.invokevirtual 80, 3) := by decide +kernel
theorem dd_La_law_570 : decode code 570 = .ok (.if_icmp .eq 163, 3) := by decide +kernel
theorem dd_La_law_573 : decode code 573 = .ok (.iconst 0, 1) := by decide +kernel
theorem dd_La_law_574 : decode code 574 = .ok (.ireturn, 1) := by decide +kernel
theorem dd_La_law_575 : decode code 575 = .ok (.aload_n 1, 1) := by decide +kernel
theorem dd_La_law_576 : decode code 576 = .ok (.aload_n 0, 1) := by decide +kernel
theorem dd_La_law_577 : decode code 577 = .ok (.iload_n 3, 1) := by decide +kernel
theorem dd_La_law_578 : decode code 578 = .ok (.iconst 1, 1) := by decide +kernel
theorem dd_La_law_579 : decode code 579 = .ok (.iadd, 1) := by decide +kernel
theorem dd_La_law_580 : decode code 580 = .ok (.iaload, 1) := by decide +kernel
theorem dd_La_law_581 : decode code 581 = .ok (.invokevirtual 81, 3) := by decide +kernel
theorem dd_La_law_584 : decode code 584 = .ok (.aload_n 2, 1) := by decide +kernel
theorem dd_La_law_585 : decode code 585 = .ok (.aload_n 0, 1) := by decide +kernel
theorem dd_La_law_586 : decode code 586 = .ok (.iload_n 3, 1) := by decide +kernel
theorem dd_La_law_587 : decode code 587 = .ok (.iconst 1, 1) := by decide +kernel
theorem dd_La_law_588 : decode code 588 = .ok (.iadd, 1) := by decide +kernel
theorem dd_La_law_589 : decode code 589 = .ok (.iaload, 1) := by decide +kernel
theorem dd_La_law_590 : decode code 590 = .ok (.invokevirtual 84, 3) := by decide +kernel
theorem dd_La_law_593 : decode code 593 = .ok (.if_icmp .eq 140, 3) := by decide +kernel
theorem dd_La_law_596 : decode code 596 = .ok (.iconst 0, 1) := by decide +kernel
theorem dd_La_law_597 : decode code 597 = .ok (.ireturn, 1) := by decide +kernel
theorem dd_La_law_598 : decode code 598 = .ok (.aload_n 1, 1) := by decide +kernel
theorem dd_La_law_599 : decode code 599 = .ok (.aload_n 0, 1) := by decide +kernel
theorem dd_La_law_600 : decode code 600 = .ok (.iload_n 3, 1) := by decide +kernel
theorem dd_La_law_601 : decode code 601 = .ok (.iconst 1, 1) := by decide +kernel
theorem dd_La_law_602 : decode code 602 = .ok (.iadd, 1) := by decide +kernel
theorem dd_La_law_603 : decode code 603 = .ok (.iaload, 1) := by decide +kernel
theorem dd_La_law_604 : decode code 604 = .ok (.invokevirtual 85, 3) := by decide +kernel
theorem dd_La_law_607 : decode code 607 = .ok (.aload_n 2, 1) := by decide +kernel
theorem dd_La_law_608 : decode code 608 = .ok (.aload_n 0, 1) := by decide +kernel
theorem dd_La_law_609 : decode code 609 = .ok (.iload_n 3, 1) := by decide +kernel
theorem dd_La_law_610 : decode code 610 = .ok (.iconst 1, 1) := by decide +kernel
theorem dd_La_law_611 : decode code 611 = .ok (.iadd, 1) := by decide +kernel
theorem dd_La_law_612 : decode code 612 = .ok (.iaload, 1) := by decide +kernel
theorem dd_La_law_613 : decode code 613 = .ok (.invokevirtual 88, 3) := by decide +kernel
theorem dd_La_law_616 : decode code 616 = .ok (.if_icmp .eq 117, 3) := by decide +kernel
theorem dd_La_law_619 : decode code 619 = .ok (.iconst 0, 1) := by decide +kernel
theorem dd_La_law_620 : decode code 620 = .ok (.ireturn, 1) := by decide +kernel
theorem dd_La_law_621 : decode code 621 = .ok (.aload_n 1, 1) := by decide +kernel
theorem dd_La_law_622 : decode code 622 = .ok (.aload_n 0, 1) := by decide +kernel
theorem dd_La_law_623 : decode code 623 = .ok (.iload_n 3, 1) := by decide +kernel
theorem dd_La_law_624 : decode code 624 = .ok (.iconst 1, 1) := by decide +kernel
theorem dd_La_law_625 : decode code 625 = .ok (.iadd, 1) := by decide +kernel
theorem dd_La_law_626 : decode code 626 = .ok (.iaload, 1) := by decide +kernel
theorem dd_La_law_627 : decode code 627 = .ok (.invokevirtual 89, 3) := by decide +kernel
theorem dd_La_law_630 : decode code 630 = .ok (.aload_n 2, 1) := by decide +kernel
theorem dd_La_law_631 : decode code 631 = .ok (.aload_n 0, 1) := by decide +kernel
theorem dd_La_law_632 : decode code 632 = .ok (.iload_n 3, 1) := by decide +kernel
theorem dd_La_law_633 : decode code 633 = .ok (.iconst 1, 1) := by decide +kernel
theorem dd_La_law_634 : decode code 634 = .ok (.iadd, 1) := by decide +kernel
theorem dd_La_law_635 : decode code 635 = .ok (.iaload, 1) := by decide +kernel
theorem dd_La_law_636 : decode code 636 = .ok (.invokevirtual 92, 3) := by decide +kernel
theorem dd_La_law_639 : decode code 639 = .ok (.if_icmp .eq 94, 3) := by decide +kernel
theorem dd_La_law_642 : decode code 642 = .ok (.iconst 0, 1) := by decide +kernel
theorem dd_La_law_643 : decode code 643 = .ok (.ireturn, 1) := by decide +kernel
theorem dd_La_law_644 : decode code 644 = .ok (.aload_n 1, 1) := by decide +kernel
theorem dd_La_law_645 : decode code 645 = .ok (.aload_n 0, 1) := by decide +kernel
theorem dd_La_law_646 : decode code 646 = .ok (.iload_n 3, 1) := by decide +kernel
theorem dd_La_law_647 : decode code 647 = .ok (.iconst 1, 1) := by decide +kernel
theorem dd_La_law_648 : decode code 648 = .ok (.iadd, 1) := by decide +kernel
theorem dd_La_law_649 : decode code 649 = .ok (.iaload, 1) := by decide +kernel
theorem dd_La_law_650 : decode code 650 = .ok (.invokevirtual 93, 3) := by decide +kernel
theorem dd_La_law_653 : decode code 653 = .ok (.aload_n 2, 1) := by decide +kernel
theorem dd_La_law_654 : decode code 654 = .ok (.aload_n 0, 1) := by decide +kernel
theorem dd_La_law_655 : decode code 655 = .ok (.iload_n 3, 1) := by decide +kernel
theorem dd_La_law_656 : decode code 656 = .ok (.iconst 1, 1) := by decide +kernel
theorem dd_La_law_657 : decode code 657 = .ok (.iadd, 1) := by decide +kernel
theorem dd_La_law_658 : decode code 658 = .ok (.iaload, 1) := by decide +kernel
theorem dd_La_law_659 : decode code 659 = .ok (.invokevirtual 96, 3) := by decide +kernel
theorem dd_La_law_662 : decode code 662 = .ok (.if_icmp .eq 71, 3) := by decide +kernel
theorem dd_La_law_665 : decode code 665 = .ok (.iconst 0, 1) := by decide +kernel
theorem dd_La_law_666 : decode code 666 = .ok (.ireturn, 1) := by decide +kernel
theorem dd_La_law_667 : decode code 667 = .ok (.aload_n 1, 1) := by decide +kernel
theorem dd_La_law_668 : decode code 668 = .ok (.aload_n 0, 1) := by decide +kernel
theorem dd_La_law_669 : decode code 669 = .ok (.iload_n 3, 1) := by decide +kernel
theorem dd_La_law_670 : decode code 670 = .ok (.iconst 1, 1) := by decide +kernel
theorem dd_La_law_671 : decode code 671 = .ok (.iadd, 1) := by decide +kernel
theorem dd_La_law_672 : decode code 672 = .ok (.iaload, 1) := by decide +kernel
theorem dd_La_law_673 : decode code 673 = .ok (.aload_n 0, 1) := by decide +kernel
theorem dd_La_law_674 : decode code 674 = .ok (.iload_n 3, 1) := by decide +kernel
theorem dd_La_law_675 : decode code 675 = .ok (.iconst 2, 1) := by decide +kernel
theorem dd_La_law_676 : decode code 676 = .ok (.iadd, 1) := by decide +kernel
theorem dd_La_law_677 : decode code 677 = .ok (.iaload, 1) := by decide +kernel
theorem dd_La_law_678 : decode code 678 = .ok (.invokevirtual 97, 3) := by decide +kernel
theorem dd_La_law_681 : decode code 681 = .ok (.aload_n 2, 1) := by decide +kernel
theorem dd_La_law_682 : decode code 682 = .ok (.aload_n 0, 1) := by decide +kernel
theorem dd_La_law_683 : decode code 683 = .ok (.iload_n 3, 1) := by decide +kernel
theorem dd_La_law_684 : decode code 684 = .ok (.iconst 1, 1) := by decide +kernel
theorem dd_La_law_685 : decode code 685 = .ok (.iadd, 1) := by decide +kernel
theorem dd_La_law_686 : decode code 686 = .ok (.iaload, 1) := by decide +kernel
theorem dd_La_law_687 : decode code 687 = .ok (.aload_n 0, 1) := by decide +kernel
theorem dd_La_law_688 : decode code 688 = .ok (.iload_n 3, 1) := by decide +kernel
theorem dd_La_law_689 : decode code 689 = .ok (.iconst 2, 1) := by decide +kernel
theorem dd_La_law_690 : decode code 690 = .ok (.iadd, 1) := by decide +kernel
theorem dd_La_law_691 : decode code 691 = .ok (.iaload, 1) := by decide +kernel
theorem dd_La_law_692 : decode code 692 = .ok (.invokevirtual 100, 3) := by decide +kernel
theorem dd_La_law_695 : decode code 695 = .ok (.if_icmp .eq 38, 3) := by decide +kernel
theorem dd_La_law_698 : decode code 698 = .ok (.iconst 0, 1) := by decide +kernel
theorem dd_La_law_699 : decode code 699 = .ok (.ireturn, 1) := by decide +kernel
theorem dd_La_law_700 : decode code 700 = .ok (.aload_n 1, 1) := by decide +kernel
theorem dd_La_law_701 : decode code 701 = .ok (.aload_n 0, 1) := by decide +kernel
theorem dd_La_law_702 : decode code 702 = .ok (.iload_n 3, 1) := by decide +kernel
theorem dd_La_law_703 : decode code 703 = .ok (.iconst 1, 1) := by decide +kernel
theorem dd_La_law_704 : decode code 704 = .ok (.iadd, 1) := by decide +kernel
theorem dd_La_law_705 : decode code 705 = .ok (.iaload, 1) := by decide +kernel
theorem dd_La_law_706 : decode code 706 = .ok (.aload_n 0, 1) := by decide +kernel
theorem dd_La_law_707 : decode code 707 = .ok (.iload_n 3, 1) := by decide +kernel
theorem dd_La_law_708 : decode code 708 = .ok (.iconst 2, 1) := by decide +kernel
theorem dd_La_law_709 : decode code 709 = .ok (.iadd, 1) := by decide +kernel
theorem dd_La_law_710 : decode code 710 = .ok (.iaload, 1) := by decide +kernel
theorem dd_La_law_711 : decode code 711 = .ok (.invokevirtual 101, 3) := by decide +kernel
theorem dd_La_law_714 : decode code 714 = .ok (.aload_n 2, 1) := by decide +kernel
theorem dd_La_law_715 : decode code 715 = .ok (.aload_n 0, 1) := by decide +kernel
theorem dd_La_law_716 : decode code 716 = .ok (.iload_n 3, 1) := by decide +kernel
theorem dd_La_law_717 : decode code 717 = .ok (.iconst 1, 1) := by decide +kernel
theorem dd_La_law_718 : decode code 718 = .ok (.iadd, 1) := by decide +kernel
theorem dd_La_law_719 : decode code 719 = .ok (.iaload, 1) := by decide +kernel
theorem dd_La_law_720 : decode code 720 = .ok (.aload_n 0, 1) := by decide +kernel
theorem dd_La_law_721 : decode code 721 = .ok (.iload_n 3, 1) := by decide +kernel
theorem dd_La_law_722 : decode code 722 = .ok (.iconst 2, 1) := by decide +kernel
theorem dd_La_law_723 : decode code 723 = .ok (.iadd, 1) := by decide +kernel
theorem dd_La_law_724 : decode code 724 = .ok (.iaload, 1) := by decide +kernel
theorem dd_La_law_725 : decode code 725 = .ok (.invokevirtual 104, 3) := by decide +kernel
theorem dd_La_law_728 : decode code 728 = .ok (.if_icmp .eq 5, 3) := by decide +kernel
theorem dd_La_law_731 : decode code 731 = .ok (.iconst 0, 1) := by decide +kernel
theorem dd_La_law_732 : decode code 732 = .ok (.ireturn, 1) := by decide +kernel
theorem dd_La_law_733 : decode code 733 = .ok (.iinc 3 7, 3) := by decide +kernel
theorem dd_La_law_736 : decode code 736 = .ok (.goto (-718), 3) := by decide +kernel
theorem dd_La_law_739 : decode code 739 = .ok (.iconst 1, 1) := by decide +kernel
theorem dd_La_law_740 : decode code 740 = .ok (.ireturn, 1) := by decide +kernel
