/-! decode rows of the law -/
theorem d_l_law_0 : decode code 0 = .ok (.new 8, 3) := by decide +kernel
theorem d_l_law_3 : decode code 3 = .ok (.dup, 1) := by decide +kernel
theorem d_l_law_4 : decode code 4 = .ok (.invokespecial 82, 3) := by decide +kernel
theorem d_l_law_7 : decode code 7 = .ok (.astore_n 1, 1) := by decide +kernel
theorem d_l_law_8 : decode code 8 = .ok (.new 83, 3) := by decide +kernel
theorem d_l_law_11 : decode code 11 = .ok (.dup, 1) := by decide +kernel
theorem d_l_law_12 : decode code 12 = .ok (.invokespecial 85, 3) := by decide +kernel
theorem d_l_law_15 : decode code 15 = .ok (.astore_n 2, 1) := by decide +kernel
theorem d_l_law_16 : decode code 16 = .ok (.iconst 1, 1) := by decide +kernel
theorem d_l_law_17 : decode code 17 = .ok (.newarray .long, 2) := by decide +kernel
theorem d_l_law_19 : decode code 19 = .ok (.astore_n 3, 1) := by decide +kernel
theorem d_l_law_20 : decode code 20 = .ok (.iconst 0, 1) := by decide +kernel
theorem d_l_law_21 : decode code 21 = .ok (.istore 4, 2) := by decide +kernel
theorem d_l_law_23 : decode code 23 = .ok (.iload 4, 2) := by decide +kernel
theorem d_l_law_25 : decode code 25 = .ok (.aload_n 0, 1) := by decide +kernel
theorem d_l_law_26 : decode code 26 = .ok (.arraylength, 1) := by decide +kernel
theorem d_l_law_27 : decode code 27 = .ok (.bipush 8, 2) := by decide +kernel
theorem d_l_law_29 : decode code 29 = .ok (.isub, 1) := by decide +kernel
theorem d_l_law_30 : decode code 30 = .ok (.if_icmp .gt 1397, 3) := by decide +kernel
theorem d_l_law_33 : decode code 33 = .ok (.aload_n 0, 1) := by decide +kernel
theorem d_l_law_34 : decode code 34 = .ok (.iload 4, 2) := by decide +kernel
theorem d_l_law_36 : decode code 36 = .ok (.iaload, 1) := by decide +kernel
theorem d_l_law_37 : decode code 37 = .ok (.bipush 31, 2) := by decide +kernel
theorem d_l_law_39 : decode code 39 = .ok (.iand, 1) := by decide +kernel
theorem d_l_law_40 : decode code 40 = .ok (.tableswitch 1381 0 21 #[104, 176, 308, 364, 427, 490, 553, 609, 665, 709, 753, 809, 853, 921, 972, 1008, 1021, 1096, 1164, 1232, 1257, 1325], 104) := by decide +kernel
theorem d_l_law_144 : decode code 144 = .ok (.aload_n 1, 1) := by decide +kernel
theorem d_l_law_145 : decode code 145 = .ok (.aload_n 0, 1) := by decide +kernel
theorem d_l_law_146 : decode code 146 = .ok (.iload 4, 2) := by decide +kernel
theorem d_l_law_148 : decode code 148 = .ok (.iconst 1, 1) := by decide +kernel
theorem d_l_law_149 : decode code 149 = .ok (.iadd, 1) := by decide +kernel
theorem d_l_law_150 : decode code 150 = .ok (.iaload, 1) := by decide +kernel
theorem d_l_law_151 : decode code 151 = .ok (.aload_n 0, 1) := by decide +kernel
theorem d_l_law_152 : decode code 152 = .ok (.iload 4, 2) := by decide +kernel
theorem d_l_law_154 : decode code 154 = .ok (.iconst 2, 1) := by decide +kernel
theorem d_l_law_155 : decode code 155 = .ok (.iadd, 1) := by decide +kernel
theorem d_l_law_156 : decode code 156 = .ok (.iaload, 1) := by decide +kernel
theorem d_l_law_157 : decode code 157 = .ok (.aload_n 0, 1) := by decide +kernel
theorem d_l_law_158 : decode code 158 = .ok (.iload 4, 2) := by decide +kernel
theorem d_l_law_160 : decode code 160 = .ok (.iconst 3, 1) := by decide +kernel
theorem d_l_law_161 : decode code 161 = .ok (.iadd, 1) := by decide +kernel
theorem d_l_law_162 : decode code 162 = .ok (.iaload, 1) := by decide +kernel
theorem d_l_law_163 : decode code 163 = .ok (.aload_n 0, 1) := by decide +kernel
theorem d_l_law_164 : decode code 164 = .ok (.iload 4, 2) := by decide +kernel
theorem d_l_law_166 : decode code 166 = .ok (.iconst 4, 1) := by decide +kernel
theorem d_l_law_167 : decode code 167 = .ok (.iadd, 1) := by decide +kernel
theorem d_l_law_168 : decode code 168 = .ok (.iaload, 1) := by decide +kernel
theorem d_l_law_169 : decode code 169 = .ok (.invokestatic 86, 3) := by decide +kernel
theorem d_l_law_172 : decode code 172 = .ok (.istore 5, 2) := by decide +kernel
theorem d_l_law_174 : decode code 174 = .ok (.aload_n 2, 1) := by decide +kernel
theorem d_l_law_175 : decode code 175 = .ok (.aload_n 0, 1) := by decide +kernel
theorem d_l_law_176 : decode code 176 = .ok (.iload 4, 2) := by decide +kernel
theorem d_l_law_178 : decode code 178 = .ok (.iconst 1, 1) := by decide +kernel
theorem d_l_law_179 : decode code 179 = .ok (.iadd, 1) := by decide +kernel
theorem d_l_law_180 : decode code 180 = .ok (.iaload, 1) := by decide +kernel
theorem d_l_law_181 : decode code 181 = .ok (.aload_n 0, 1) := by decide +kernel
theorem d_l_law_182 : decode code 182 = .ok (.iload 4, 2) := by decide +kernel
theorem d_l_law_184 : decode code 184 = .ok (.iconst 2, 1) := by decide +kernel
theorem d_l_law_185 : decode code 185 = .ok (.iadd, 1) := by decide +kernel
theorem d_l_law_186 : decode code 186 = .ok (.iaload, 1) := by decide +kernel
theorem d_l_law_187 : decode code 187 = .ok (.aload_n 0, 1) := by decide +kernel
theorem d_l_law_188 : decode code 188 = .ok (.iload 4, 2) := by decide +kernel
theorem d_l_law_190 : decode code 190 = .ok (.iconst 3, 1) := by decide +kernel
theorem d_l_law_191 : decode code 191 = .ok (.iadd, 1) := by decide +kernel
theorem d_l_law_192 : decode code 192 = .ok (.iaload, 1) := by decide +kernel
theorem d_l_law_193 : decode code 193 = .ok (.aload_n 0, 1) := by decide +kernel
theorem d_l_law_194 : decode code 194 = .ok (.iload 4, 2) := by decide +kernel
theorem d_l_law_196 : decode code 196 = .ok (.iconst 4, 1) := by decide +kernel
theorem d_l_law_197 : decode code 197 = .ok (.iadd, 1) := by decide +kernel
theorem d_l_law_198 : decode code 198 = .ok (.iaload, 1) := by decide +kernel
theorem d_l_law_199 : decode code 199 = .ok (.invokevirtual 91, 3) := by decide +kernel
theorem d_l_law_202 : decode code 202 = .ok (.aload_n 2, 1) := by decide +kernel
theorem d_l_law_203 : decode code 203 = .ok (.invokevirtual 92, 3) := by decide +kernel
theorem d_l_law_206 : decode code 206 = .ok (.iload 5, 2) := by decide +kernel
theorem d_l_law_208 : decode code 208 = .ok (.if_icmp .eq 5, 3) := by decide +kernel
theorem d_l_law_211 : decode code 211 = .ok (.iconst 0, 1) := by decide +kernel
theorem d_l_law_212 : decode code 212 = .ok (.ireturn, 1) := by decide +kernel
theorem d_l_law_213 : decode code 213 = .ok (.goto 1208, 3) := by decide +kernel
theorem d_l_law_216 : decode code 216 = .ok (.aload_n 1, 1) := by decide +kernel
theorem d_l_law_217 : decode code 217 = .ok (.aload_n 0, 1) := by decide +kernel
theorem d_l_law_218 : decode code 218 = .ok (.iload 4, 2) := by decide +kernel
theorem d_l_law_220 : decode code 220 = .ok (.iconst 1, 1) := by decide +kernel
theorem d_l_law_221 : decode code 221 = .ok (.iadd, 1) := by decide +kernel
theorem d_l_law_222 : decode code 222 = .ok (.iaload, 1) := by decide +kernel
theorem d_l_law_223 : decode code 223 = .ok (.aload_n 0, 1) := by decide +kernel
theorem d_l_law_224 : decode code 224 = .ok (.iload 4, 2) := by decide +kernel
theorem d_l_law_226 : decode code 226 = .ok (.iconst 2, 1) := by decide +kernel
theorem d_l_law_227 : decode code 227 = .ok (.iadd, 1) := by decide +kernel
theorem d_l_law_228 : decode code 228 = .ok (.iaload, 1) := by decide +kernel
theorem d_l_law_229 : decode code 229 = .ok (.aload_n 0, 1) := by decide +kernel
theorem d_l_law_230 : decode code 230 = .ok (.iload 4, 2) := by decide +kernel
theorem d_l_law_232 : decode code 232 = .ok (.iconst 3, 1) := by decide +kernel
theorem d_l_law_233 : decode code 233 = .ok (.iadd, 1) := by decide +kernel
theorem d_l_law_234 : decode code 234 = .ok (.iaload, 1) := by decide +kernel
theorem d_l_law_235 : decode code 235 = .ok (.aload_n 0, 1) := by decide +kernel
theorem d_l_law_236 : decode code 236 = .ok (.iload 4, 2) := by decide +kernel
theorem d_l_law_238 : decode code 238 = .ok (.iconst 4, 1) := by decide +kernel
theorem d_l_law_239 : decode code 239 = .ok (.iadd, 1) := by decide +kernel
theorem d_l_law_240 : decode code 240 = .ok (.iaload, 1) := by decide +kernel
theorem d_l_law_241 : decode code 241 = .ok (.aload_n 0, 1) := by decide +kernel
theorem d_l_law_242 : decode code 242 = .ok (.iload 4, 2) := by decide +kernel
theorem d_l_law_244 : decode code 244 = .ok (.iconst 5, 1) := by decide +kernel
theorem d_l_law_245 : decode code 245 = .ok (.iadd, 1) := by decide +kernel
theorem d_l_law_246 : decode code 246 = .ok (.iaload, 1) := by decide +kernel
theorem d_l_law_247 : decode code 247 = .ok (.aload_n 0, 1) := by decide +kernel
theorem d_l_law_248 : decode code 248 = .ok (.iload 4, 2) := by decide +kernel
theorem d_l_law_250 : decode code 250 = .ok (.bipush 6, 2) := by decide +kernel
theorem d_l_law_252 : decode code 252 = .ok (.iadd, 1) := by decide +kernel
theorem d_l_law_253 : decode code 253 = .ok (.iaload, 1) := by decide +kernel
theorem d_l_law_254 : decode code 254 = .ok (.aload_n 0, 1) := by decide +kernel
theorem d_l_law_255 : decode code 255 = .ok (.iload 4, 2) := by decide +kernel
theorem d_l_law_257 : decode code 257 = .ok (.bipush 7, 2) := by decide +kernel
theorem d_l_law_259 : decode code 259 = .ok (.iadd, 1) := by decide +kernel
theorem d_l_law_260 : decode code 260 = .ok (.iaload, 1) := by decide +kernel
theorem d_l_law_261 : decode code 261 = .ok (.aload_n 3, 1) := by decide +kernel
theorem d_l_law_262 : decode code 262 = .ok (.invokestatic 95, 3) := by decide +kernel
theorem d_l_law_265 : decode code 265 = .ok (.istore 5, 2) := by decide +kernel
theorem d_l_law_267 : decode code 267 = .ok (.aload_n 2, 1) := by decide +kernel
theorem d_l_law_268 : decode code 268 = .ok (.aload_n 0, 1) := by decide +kernel
theorem d_l_law_269 : decode code 269 = .ok (.iload 4, 2) := by decide +kernel
theorem d_l_law_271 : decode code 271 = .ok (.iconst 1, 1) := by decide +kernel
theorem d_l_law_272 : decode code 272 = .ok (.iadd, 1) := by decide +kernel
theorem d_l_law_273 : decode code 273 = .ok (.iaload, 1) := by decide +kernel
theorem d_l_law_274 : decode code 274 = .ok (.aload_n 0, 1) := by decide +kernel
theorem d_l_law_275 : decode code 275 = .ok (.iload 4, 2) := by decide +kernel
theorem d_l_law_277 : decode code 277 = .ok (.iconst 2, 1) := by decide +kernel
theorem d_l_law_278 : decode code 278 = .ok (.iadd, 1) := by decide +kernel
theorem d_l_law_279 : decode code 279 = .ok (.iaload, 1) := by decide +kernel
theorem d_l_law_280 : decode code 280 = .ok (.aload_n 0, 1) := by decide +kernel
theorem d_l_law_281 : decode code 281 = .ok (.iload 4, 2) := by decide +kernel
theorem d_l_law_283 : decode code 283 = .ok (.iconst 3, 1) := by decide +kernel
theorem d_l_law_284 : decode code 284 = .ok (.iadd, 1) := by decide +kernel
theorem d_l_law_285 : decode code 285 = .ok (.iaload, 1) := by decide +kernel
theorem d_l_law_286 : decode code 286 = .ok (.aload_n 0, 1) := by decide +kernel
theorem d_l_law_287 : decode code 287 = .ok (.iload 4, 2) := by decide +kernel
theorem d_l_law_289 : decode code 289 = .ok (.iconst 4, 1) := by decide +kernel
theorem d_l_law_290 : decode code 290 = .ok (.iadd, 1) := by decide +kernel
theorem d_l_law_291 : decode code 291 = .ok (.iaload, 1) := by decide +kernel
theorem d_l_law_292 : decode code 292 = .ok (.aload_n 0, 1) := by decide +kernel
theorem d_l_law_293 : decode code 293 = .ok (.iload 4, 2) := by decide +kernel
theorem d_l_law_295 : decode code 295 = .ok (.iconst 5, 1) := by decide +kernel
theorem d_l_law_296 : decode code 296 = .ok (.iadd, 1) := by decide +kernel
theorem d_l_law_297 : decode code 297 = .ok (.iaload, 1) := by decide +kernel
theorem d_l_law_298 : decode code 298 = .ok (.aload_n 0, 1) := by decide +kernel
theorem d_l_law_299 : decode code 299 = .ok (.iload 4, 2) := by decide +kernel
theorem d_l_law_301 : decode code 301 = .ok (.bipush 6, 2) := by decide +kernel
theorem d_l_law_303 : decode code 303 = .ok (.iadd, 1) := by decide +kernel
theorem d_l_law_304 : decode code 304 = .ok (.iaload, 1) := by decide +kernel
theorem d_l_law_305 : decode code 305 = .ok (.aload_n 0, 1) := by decide +kernel
theorem d_l_law_306 : decode code 306 = .ok (.iload 4, 2) := by decide +kernel
theorem d_l_law_308 : decode code 308 = .ok (.bipush 7, 2) := by decide +kernel
theorem d_l_law_310 : decode code 310 = .ok (.iadd, 1) := by decide +kernel
theorem d_l_law_311 : decode code 311 = .ok (.iaload, 1) := by decide +kernel
theorem d_l_law_312 : decode code 312 = .ok (.invokevirtual 98, 3) := by decide +kernel
theorem d_l_law_315 : decode code 315 = .ok (.istore 6, 2) := by decide +kernel
theorem d_l_law_317 : decode code 317 = .ok (.aload_n 2, 1) := by decide +kernel
theorem d_l_law_318 : decode code 318 = .ok (.invokevirtual 92, 3) := by decide +kernel
theorem d_l_law_321 : decode code 321 = .ok (.iload 5, 2) := by decide +kernel
theorem d_l_law_323 : decode code 323 = .ok (.if_icmp .eq 5, 3) := by decide +kernel
theorem d_l_law_326 : decode code 326 = .ok (.iconst 0, 1) := by decide +kernel
theorem d_l_law_327 : decode code 327 = .ok (.ireturn, 1) := by decide +kernel
theorem d_l_law_328 : decode code 328 = .ok (.iload 5, 2) := by decide +kernel
theorem d_l_law_330 : decode code 330 = .ok (.ifCond .ne 15, 3) := by decide +kernel
theorem d_l_law_333 : decode code 333 = .ok (.aload_n 3, 1) := by decide +kernel
theorem d_l_law_334 : decode code 334 = .ok (.iconst 0, 1) := by decide +kernel
theorem d_l_law_335 : decode code 335 = .ok (.laload, 1) := by decide +kernel
theorem d_l_law_336 : decode code 336 = .ok (.iload 6, 2) := by decide +kernel
theorem d_l_law_338 : decode code 338 = .ok (.i2l, 1) := by decide +kernel
theorem d_l_law_339 : decode code 339 = .ok (.lcmp, 1) := by decide +kernel
theorem d_l_law_340 : decode code 340 = .ok (.ifCond .eq 5, 3) := by decide +kernel
theorem d_l_law_343 : decode code 343 = .ok (.iconst 0, 1) := by decide +kernel
theorem d_l_law_344 : decode code 344 = .ok (.ireturn, 1) := by decide +kernel
theorem d_l_law_345 : decode code 345 = .ok (.goto 1076, 3) := by decide +kernel
theorem d_l_law_348 : decode code 348 = .ok (.aload_n 1, 1) := by decide +kernel
theorem d_l_law_349 : decode code 349 = .ok (.aload_n 0, 1) := by decide +kernel
theorem d_l_law_350 : decode code 350 = .ok (.iload 4, 2) := by decide +kernel
theorem d_l_law_352 : decode code 352 = .ok (.iconst 1, 1) := by decide +kernel
theorem d_l_law_353 : decode code 353 = .ok (.iadd, 1) := by decide +kernel
theorem d_l_law_354 : decode code 354 = .ok (.iaload, 1) := by decide +kernel
theorem d_l_law_355 : decode code 355 = .ok (.aload_n 3, 1) := by decide +kernel
theorem d_l_law_356 : decode code 356 = .ok (.invokestatic 99, 3) := by decide +kernel
theorem d_l_law_359 : decode code 359 = .ok (.istore 5, 2) := by decide +kernel
theorem d_l_law_361 : decode code 361 = .ok (.aload_n 2, 1) := by decide +kernel
theorem d_l_law_362 : decode code 362 = .ok (.aload_n 0, 1) := by decide +kernel
theorem d_l_law_363 : decode code 363 = .ok (.iload 4, 2) := by decide +kernel
theorem d_l_law_365 : decode code 365 = .ok (.iconst 1, 1) := by decide +kernel
theorem d_l_law_366 : decode code 366 = .ok (.iadd, 1) := by decide +kernel
theorem d_l_law_367 : decode code 367 = .ok (.iaload, 1) := by decide +kernel
theorem d_l_law_368 : decode code 368 = .ok (.invokevirtual 102, 3) := by decide +kernel
theorem d_l_law_371 : decode code 371 = .ok (.istore 6, 2) := by decide +kernel
theorem d_l_law_373 : decode code 373 = .ok (.aload_n 2, 1) := by decide +kernel
theorem d_l_law_374 : decode code 374 = .ok (.invokevirtual 92, 3) := by decide +kernel
theorem d_l_law_377 : decode code 377 = .ok (.iload 5, 2) := by decide +kernel
theorem d_l_law_379 : decode code 379 = .ok (.if_icmp .eq 5, 3) := by decide +kernel
theorem d_l_law_382 : decode code 382 = .ok (.iconst 0, 1) := by decide +kernel
theorem d_l_law_383 : decode code 383 = .ok (.ireturn, 1) := by decide +kernel
theorem d_l_law_384 : decode code 384 = .ok (.iload 5, 2) := by decide +kernel
theorem d_l_law_386 : decode code 386 = .ok (.ifCond .ne 15, 3) := by decide +kernel
theorem d_l_law_389 : decode code 389 = .ok (.aload_n 3, 1) := by decide +kernel
theorem d_l_law_390 : decode code 390 = .ok (.iconst 0, 1) := by decide +kernel
theorem d_l_law_391 : decode code 391 = .ok (.laload, 1) := by decide +kernel
theorem d_l_law_392 : decode code 392 = .ok (.iload 6, 2) := by decide +kernel
theorem d_l_law_394 : decode code 394 = .ok (.i2l, 1) := by decide +kernel
theorem d_l_law_395 : decode code 395 = .ok (.lcmp, 1) := by decide +kernel
theorem d_l_law_396 : decode code 396 = .ok (.ifCond .eq 5, 3) := by decide +kernel
theorem d_l_law_399 : decode code 399 = .ok (.iconst 0, 1) := by decide +kernel
theorem d_l_law_400 : decode code 400 = .ok (.ireturn, 1) := by decide +kernel
theorem d_l_law_401 : decode code 401 = .ok (.goto 1020, 3) := by decide +kernel
theorem d_l_law_404 : decode code 404 = .ok (.aload_n 1, 1) := by decide +kernel
theorem d_l_law_405 : decode code 405 = .ok (.aload_n 0, 1) := by decide +kernel
theorem d_l_law_406 : decode code 406 = .ok (.iload 4, 2) := by decide +kernel
theorem d_l_law_408 : decode code 408 = .ok (.iconst 1, 1) := by decide +kernel
theorem d_l_law_409 : decode code 409 = .ok (.iadd, 1) := by decide +kernel
theorem d_l_law_410 : decode code 410 = .ok (.iaload, 1) := by decide +kernel
theorem d_l_law_411 : decode code 411 = .ok (.aload_n 3, 1) := by decide +kernel
theorem d_l_law_412 : decode code 412 = .ok (.invokestatic 103, 3) := by decide +kernel
theorem d_l_law_415 : decode code 415 = .ok (.istore 5, 2) := by decide +kernel
theorem d_l_law_417 : decode code 417 = .ok (.aload_n 2, 1) := by decide +kernel
theorem d_l_law_418 : decode code 418 = .ok (.aload_n 0, 1) := by decide +kernel
theorem d_l_law_419 : decode code 419 = .ok (.iload 4, 2) := by decide +kernel
theorem d_l_law_421 : decode code 421 = .ok (.iconst 1, 1) := by decide +kernel
theorem d_l_law_422 : decode code 422 = .ok (.iadd, 1) := by decide +kernel
theorem d_l_law_423 : decode code 423 = .ok (.iaload, 1) := by decide +kernel
theorem d_l_law_424 : decode code 424 = .ok (.invokevirtual 105, 3) := by decide +kernel
theorem d_l_law_427 : decode code 427 = .ok (.istore 6, 2) := by decide +kernel
theorem d_l_law_429 : decode code 429 = .ok (.aload_n 2, 1) := by decide +kernel
theorem d_l_law_430 : decode code 430 = .ok (.invokevirtual 92, 3) := by decide +kernel
theorem d_l_law_433 : decode code 433 = .ok (.iload 5, 2) := by decide +kernel
theorem d_l_law_435 : decode code 435 = .ok (.if_icmp .eq 5, 3) := by decide +kernel
theorem d_l_law_438 : decode code 438 = .ok (.iconst 0, 1) := by decide +kernel
theorem d_l_law_439 : decode code 439 = .ok (.ireturn, 1) := by decide +kernel
theorem d_l_law_440 : decode code 440 = .ok (.iload 5, 2) := by decide +kernel
theorem d_l_law_442 : decode code 442 = .ok (.ifCond .ne 22, 3) := by decide +kernel
theorem d_l_law_445 : decode code 445 = .ok (.aload_n 3, 1) := by decide +kernel
theorem d_l_law_446 : decode code 446 = .ok (.iconst 0, 1) := by decide +kernel
theorem d_l_law_447 : decode code 447 = .ok (.laload, 1) := by decide +kernel
theorem d_l_law_448 : decode code 448 = .ok (.iload 6, 2) := by decide +kernel
theorem d_l_law_450 : decode code 450 = .ok (.ifCond .eq 7, 3) := by decide +kernel
theorem d_l_law_453 : decode code 453 = .ok (.lconst 1, 1) := by decide +kernel
theorem d_l_law_454 : decode code 454 = .ok (.goto 4, 3) := by decide +kernel
theorem d_l_law_457 : decode code 457 = .ok (.lconst 0, 1) := by decide +kernel
theorem d_l_law_458 : decode code 458 = .ok (.lcmp, 1) := by decide +kernel
theorem d_l_law_459 : decode code 459 = .ok (.ifCond .eq 5, 3) := by decide +kernel
theorem d_l_law_462 : decode code 462 = .ok (.iconst 0, 1) := by decide +kernel
theorem d_l_law_463 : decode code 463 = .ok (.ireturn, 1) := by decide +kernel
theorem d_l_law_464 : decode code 464 = .ok (.goto 957, 3) := by decide +kernel
theorem d_l_law_467 : decode code 467 = .ok (.aload_n 1, 1) := by decide +kernel
theorem d_l_law_468 : decode code 468 = .ok (.aload_n 0, 1) := by decide +kernel
theorem d_l_law_469 : decode code 469 = .ok (.iload 4, 2) := by decide +kernel
theorem d_l_law_471 : decode code 471 = .ok (.iconst 1, 1) := by decide +kernel
theorem d_l_law_472 : decode code 472 = .ok (.iadd, 1) := by decide +kernel
theorem d_l_law_473 : decode code 473 = .ok (.iaload, 1) := by decide +kernel
theorem d_l_law_474 : decode code 474 = .ok (.aload_n 3, 1) := by decide +kernel
theorem d_l_law_475 : decode code 475 = .ok (.invokestatic 106, 3) := by decide +kernel
theorem d_l_law_478 : decode code 478 = .ok (.istore 5, 2) := by decide +kernel
theorem d_l_law_480 : decode code 480 = .ok (.aload_n 2, 1) := by decide +kernel
theorem d_l_law_481 : decode code 481 = .ok (.aload_n 0, 1) := by decide +kernel
theorem d_l_law_482 : decode code 482 = .ok (.iload 4, 2) := by decide +kernel
theorem d_l_law_484 : decode code 484 = .ok (.iconst 1, 1) := by decide +kernel
theorem d_l_law_485 : decode code 485 = .ok (.iadd, 1) := by decide +kernel
theorem d_l_law_486 : decode code 486 = .ok (.iaload, 1) := by decide +kernel
theorem d_l_law_487 : decode code 487 = .ok (.invokevirtual 108, 3) := by decide +kernel
theorem d_l_law_490 : decode code 490 = .ok (.istore 6, 2) := by decide +kernel
theorem d_l_law_492 : decode code 492 = .ok (.aload_n 2, 1) := by decide +kernel
theorem d_l_law_493 : decode code 493 = .ok (.invokevirtual 92, 3) := by decide +kernel
theorem d_l_law_496 : decode code 496 = .ok (.iload 5, 2) := by decide +kernel
theorem d_l_law_498 : decode code 498 = .ok (.if_icmp .eq 5, 3) := by decide +kernel
theorem d_l_law_501 : decode code 501 = .ok (.iconst 0, 1) := by decide +kernel
theorem d_l_law_502 : decode code 502 = .ok (.ireturn, 1) := by decide +kernel
theorem d_l_law_503 : decode code 503 = .ok (.iload 5, 2) := by decide +kernel
theorem d_l_law_505 : decode code 505 = .ok (.ifCond .ne 22, 3) := by decide +kernel
theorem d_l_law_508 : decode code 508 = .ok (.aload_n 3, 1) := by decide +kernel
theorem d_l_law_509 : decode code 509 = .ok (.iconst 0, 1) := by decide +kernel
theorem d_l_law_510 : decode code 510 = .ok (.laload, 1) := by decide +kernel
theorem d_l_law_511 : decode code 511 = .ok (.iload 6, 2) := by decide +kernel
theorem d_l_law_513 : decode code 513 = .ok (.ifCond .eq 7, 3) := by decide +kernel
theorem d_l_law_516 : decode code 516 = .ok (.lconst 1, 1) := by decide +kernel
theorem d_l_law_517 : decode code 517 = .ok (.goto 4, 3) := by decide +kernel
theorem d_l_law_520 : decode code 520 = .ok (.lconst 0, 1) := by decide +kernel
theorem d_l_law_521 : decode code 521 = .ok (.lcmp, 1) := by decide +kernel
theorem d_l_law_522 : decode code 522 = .ok (.ifCond .eq 5, 3) := by decide +kernel
theorem d_l_law_525 : decode code 525 = .ok (.iconst 0, 1) := by decide +kernel
theorem d_l_law_526 : decode code 526 = .ok (.ireturn, 1) := by decide +kernel
theorem d_l_law_527 : decode code 527 = .ok (.goto 894, 3) := by decide +kernel
theorem d_l_law_530 : decode code 530 = .ok (.aload_n 1, 1) := by decide +kernel
theorem d_l_law_531 : decode code 531 = .ok (.aload_n 0, 1) := by decide +kernel
theorem d_l_law_532 : decode code 532 = .ok (.iload 4, 2) := by decide +kernel
theorem d_l_law_534 : decode code 534 = .ok (.iconst 1, 1) := by decide +kernel
theorem d_l_law_535 : decode code 535 = .ok (.iadd, 1) := by decide +kernel
theorem d_l_law_536 : decode code 536 = .ok (.iaload, 1) := by decide +kernel
theorem d_l_law_537 : decode code 537 = .ok (.aload_n 3, 1) := by decide +kernel
theorem d_l_law_538 : decode code 538 = .ok (.invokestatic 109, 3) := by decide +kernel
theorem d_l_law_541 : decode code 541 = .ok (.istore 5, 2) := by decide +kernel
theorem d_l_law_543 : decode code 543 = .ok (.aload_n 2, 1) := by decide +kernel
theorem d_l_law_544 : decode code 544 = .ok (.aload_n 0, 1) := by decide +kernel
theorem d_l_law_545 : decode code 545 = .ok (.iload 4, 2) := by decide +kernel
theorem d_l_law_547 : decode code 547 = .ok (.iconst 1, 1) := by decide +kernel
theorem d_l_law_548 : decode code 548 = .ok (.iadd, 1) := by decide +kernel
theorem d_l_law_549 : decode code 549 = .ok (.iaload, 1) := by decide +kernel
theorem d_l_law_550 : decode code 550 = .ok (.invokevirtual 111, 3) := by decide +kernel
theorem d_l_law_553 : decode code 553 = .ok (.istore 6, 2) := by decide +kernel
theorem d_l_law_555 : decode code 555 = .ok (.aload_n 2, 1) := by decide +kernel
theorem d_l_law_556 : decode code 556 = .ok (.invokevirtual 92, 3) := by decide +kernel
theorem d_l_law_559 : decode code 559 = .ok (.iload 5, 2) := by decide +kernel
theorem d_l_law_561 : decode code 561 = .ok (.if_icmp .eq 5, 3) := by decide +kernel
theorem d_l_law_564 : decode code 564 = .ok (.iconst 0, 1) := by decide +kernel
theorem d_l_law_565 : decode code 565 = .ok (.ireturn, 1) := by decide +kernel
theorem d_l_law_566 : decode code 566 = .ok (.iload 5, 2) := by decide +kernel
theorem d_l_law_568 : decode code 568 = .ok (.ifCond .ne 22, 3) := by decide +kernel
theorem d_l_law_571 : decode code 571 = .ok (.aload_n 3, 1) := by decide +kernel
theorem d_l_law_572 : decode code 572 = .ok (.iconst 0, 1) := by decide +kernel
theorem d_l_law_573 : decode code 573 = .ok (.laload, 1) := by decide +kernel
theorem d_l_law_574 : decode code 574 = .ok (.iload 6, 2) := by decide +kernel
theorem d_l_law_576 : decode code 576 = .ok (.ifCond .eq 7, 3) := by decide +kernel
theorem d_l_law_579 : decode code 579 = .ok (.lconst 1, 1) := by decide +kernel
theorem d_l_law_580 : decode code 580 = .ok (.goto 4, 3) := by decide +kernel
theorem d_l_law_583 : decode code 583 = .ok (.lconst 0, 1) := by decide +kernel
theorem d_l_law_584 : decode code 584 = .ok (.lcmp, 1) := by decide +kernel
theorem d_l_law_585 : decode code 585 = .ok (.ifCond .eq 5, 3) := by decide +kernel
theorem d_l_law_588 : decode code 588 = .ok (.iconst 0, 1) := by decide +kernel
theorem d_l_law_589 : decode code 589 = .ok (.ireturn, 1) := by decide +kernel
theorem d_l_law_590 : decode code 590 = .ok (.goto 831, 3) := by decide +kernel
theorem d_l_law_593 : decode code 593 = .ok (.aload_n 1, 1) := by decide +kernel
theorem d_l_law_594 : decode code 594 = .ok (.aload_n 0, 1) := by decide +kernel
theorem d_l_law_595 : decode code 595 = .ok (.iload 4, 2) := by decide +kernel
theorem d_l_law_597 : decode code 597 = .ok (.iconst 1, 1) := by decide +kernel
theorem d_l_law_598 : decode code 598 = .ok (.iadd, 1) := by decide +kernel
theorem d_l_law_599 : decode code 599 = .ok (.iaload, 1) := by decide +kernel
theorem d_l_law_600 : decode code 600 = .ok (.aload_n 3, 1) := by decide +kernel
theorem d_l_law_601 : decode code 601 = .ok (.invokestatic 112, 3) := by decide +kernel
theorem d_l_law_604 : decode code 604 = .ok (.istore 5, 2) := by decide +kernel
theorem d_l_law_606 : decode code 606 = .ok (.aload_n 2, 1) := by decide +kernel
theorem d_l_law_607 : decode code 607 = .ok (.aload_n 0, 1) := by decide +kernel
theorem d_l_law_608 : decode code 608 = .ok (.iload 4, 2) := by decide +kernel
theorem d_l_law_610 : decode code 610 = .ok (.iconst 1, 1) := by decide +kernel
theorem d_l_law_611 : decode code 611 = .ok (.iadd, 1) := by decide +kernel
theorem d_l_law_612 : decode code 612 = .ok (.iaload, 1) := by decide +kernel
theorem d_l_law_613 : decode code 613 = .ok (.invokevirtual 114, 3) := by decide +kernel
theorem d_l_law_616 : decode code 616 = .ok (.istore 6, 2) := by decide +kernel
theorem d_l_law_618 : decode code 618 = .ok (.aload_n 2, 1) := by decide +kernel
theorem d_l_law_619 : decode code 619 = .ok (.invokevirtual 92, 3) := by decide +kernel
theorem d_l_law_622 : decode code 622 = .ok (.iload 5, 2) := by decide +kernel
theorem d_l_law_624 : decode code 624 = .ok (.if_icmp .eq 5, 3) := by decide +kernel
theorem d_l_law_627 : decode code 627 = .ok (.iconst 0, 1) := by decide +kernel
theorem d_l_law_628 : decode code 628 = .ok (.ireturn, 1) := by decide +kernel
theorem d_l_law_629 : decode code 629 = .ok (.iload 5, 2) := by decide +kernel
theorem d_l_law_631 : decode code 631 = .ok (.ifCond .ne 15, 3) := by decide +kernel
theorem d_l_law_634 : decode code 634 = .ok (.aload_n 3, 1) := by decide +kernel
theorem d_l_law_635 : decode code 635 = .ok (.iconst 0, 1) := by decide +kernel
theorem d_l_law_636 : decode code 636 = .ok (.laload, 1) := by decide +kernel
theorem d_l_law_637 : decode code 637 = .ok (.iload 6, 2) := by decide +kernel
theorem d_l_law_639 : decode code 639 = .ok (.i2l, 1) := by decide +kernel
theorem d_l_law_640 : decode code 640 = .ok (.lcmp, 1) := by decide +kernel
theorem d_l_law_641 : decode code 641 = .ok (.ifCond .eq 5, 3) := by decide +kernel
theorem d_l_law_644 : decode code 644 = .ok (.iconst 0, 1) := by decide +kernel
theorem d_l_law_645 : decode code 645 = .ok (.ireturn, 1) := by decide +kernel
theorem d_l_law_646 : decode code 646 = .ok (.goto 775, 3) := by decide +kernel
theorem d_l_law_649 : decode code 649 = .ok (.aload_n 1, 1) := by decide +kernel
theorem d_l_law_650 : decode code 650 = .ok (.aload_n 0, 1) := by decide +kernel
theorem d_l_law_651 : decode code 651 = .ok (.iload 4, 2) := by decide +kernel
theorem d_l_law_653 : decode code 653 = .ok (.iconst 1, 1) := by decide +kernel
theorem d_l_law_654 : decode code 654 = .ok (.iadd, 1) := by decide +kernel
theorem d_l_law_655 : decode code 655 = .ok (.iaload, 1) := by decide +kernel
theorem d_l_law_656 : decode code 656 = .ok (.aload_n 3, 1) := by decide +kernel
theorem d_l_law_657 : decode code 657 = .ok (.invokestatic 115, 3) := by decide +kernel
theorem d_l_law_660 : decode code 660 = .ok (.istore 5, 2) := by decide +kernel
theorem d_l_law_662 : decode code 662 = .ok (.aload_n 2, 1) := by decide +kernel
theorem d_l_law_663 : decode code 663 = .ok (.aload_n 0, 1) := by decide +kernel
theorem d_l_law_664 : decode code 664 = .ok (.iload 4, 2) := by decide +kernel
theorem d_l_law_666 : decode code 666 = .ok (.iconst 1, 1) := by decide +kernel
theorem d_l_law_667 : decode code 667 = .ok (.iadd, 1) := by decide +kernel
theorem d_l_law_668 : decode code 668 = .ok (.iaload, 1) := by decide +kernel
theorem d_l_law_669 : decode code 669 = .ok (.invokevirtual 117, 3) := by decide +kernel
theorem d_l_law_672 : decode code 672 = .ok (.istore 6, 2) := by decide +kernel
theorem d_l_law_674 : decode code 674 = .ok (.aload_n 2, 1) := by decide +kernel
theorem d_l_law_675 : decode code 675 = .ok (.invokevirtual 92, 3) := by decide +kernel
theorem d_l_law_678 : decode code 678 = .ok (.iload 5, 2) := by decide +kernel
theorem d_l_law_680 : decode code 680 = .ok (.if_icmp .eq 5, 3) := by decide +kernel
theorem d_l_law_683 : decode code 683 = .ok (.iconst 0, 1) := by decide +kernel
theorem d_l_law_684 : decode code 684 = .ok (.ireturn, 1) := by decide +kernel
theorem d_l_law_685 : decode code 685 = .ok (.iload 5, 2) := by decide +kernel
theorem d_l_law_687 : decode code 687 = .ok (.ifCond .ne 15, 3) := by decide +kernel
theorem d_l_law_690 : decode code 690 = .ok (.aload_n 3, 1) := by decide +kernel
theorem d_l_law_691 : decode code 691 = .ok (.iconst 0, 1) := by decide +kernel
theorem d_l_law_692 : decode code 692 = .ok (.laload, 1) := by decide +kernel
theorem d_l_law_693 : decode code 693 = .ok (.iload 6, 2) := by decide +kernel
theorem d_l_law_695 : decode code 695 = .ok (.i2l, 1) := by decide +kernel
theorem d_l_law_696 : decode code 696 = .ok (.lcmp, 1) := by decide +kernel
theorem d_l_law_697 : decode code 697 = .ok (.ifCond .eq 5, 3) := by decide +kernel
theorem d_l_law_700 : decode code 700 = .ok (.iconst 0, 1) := by decide +kernel
theorem d_l_law_701 : decode code 701 = .ok (.ireturn, 1) := by decide +kernel
theorem d_l_law_702 : decode code 702 = .ok (.goto 719, 3) := by decide +kernel
theorem d_l_law_705 : decode code 705 = .ok (.aload_n 1, 1) := by decide +kernel
theorem d_l_law_706 : decode code 706 = .ok (.aload_n 3, 1) := by decide +kernel
theorem d_l_law_707 : decode code 707 = .ok (.invokestatic 118, 3) := by decide +kernel
theorem d_l_law_710 : decode code 710 = .ok (.istore 5, 2) := by decide +kernel
theorem d_l_law_712 : decode code 712 = .ok (.aload_n 2, 1) := by decide +kernel
theorem d_l_law_713 : decode code 713 = .ok (.invokevirtual 121, 3) := by decide +kernel
theorem d_l_law_716 : decode code 716 = .ok (.istore 6, 2) := by decide +kernel
theorem d_l_law_718 : decode code 718 = .ok (.aload_n 2, 1) := by decide +kernel
theorem d_l_law_719 : decode code 719 = .ok (.invokevirtual 92, 3) := by decide +kernel
theorem d_l_law_722 : decode code 722 = .ok (.iload 5, 2) := by decide +kernel
theorem d_l_law_724 : decode code 724 = .ok (.if_icmp .eq 5, 3) := by decide +kernel
theorem d_l_law_727 : decode code 727 = .ok (.iconst 0, 1) := by decide +kernel
theorem d_l_law_728 : decode code 728 = .ok (.ireturn, 1) := by decide +kernel
theorem d_l_law_729 : decode code 729 = .ok (.iload 5, 2) := by decide +kernel
theorem d_l_law_731 : decode code 731 = .ok (.ifCond .ne 15, 3) := by decide +kernel
theorem d_l_law_734 : decode code 734 = .ok (.aload_n 3, 1) := by decide +kernel
theorem d_l_law_735 : decode code 735 = .ok (.iconst 0, 1) := by decide +kernel
theorem d_l_law_736 : decode code 736 = .ok (.laload, 1) := by decide +kernel
theorem d_l_law_737 : decode code 737 = .ok (.iload 6, 2) := by decide +kernel
theorem d_l_law_739 : decode code 739 = .ok (.i2l, 1) := by decide +kernel
theorem d_l_law_740 : decode code 740 = .ok (.lcmp, 1) := by decide +kernel
theorem d_l_law_741 : decode code 741 = .ok (.ifCond .eq 5, 3) := by decide +kernel
theorem d_l_law_744 : decode code 744 = .ok (.iconst 0, 1) := by decide +kernel
theorem d_l_law_745 : decode code 745 = .ok (.ireturn, 1) := by decide +kernel
theorem d_l_law_746 : decode code 746 = .ok (.goto 675, 3) := by decide +kernel
theorem d_l_law_749 : decode code 749 = .ok (.aload_n 1, 1) := by decide +kernel
theorem d_l_law_750 : decode code 750 = .ok (.aload_n 3, 1) := by decide +kernel
theorem d_l_law_751 : decode code 751 = .ok (.invokestatic 122, 3) := by decide +kernel
theorem d_l_law_754 : decode code 754 = .ok (.istore 5, 2) := by decide +kernel
theorem d_l_law_756 : decode code 756 = .ok (.aload_n 2, 1) := by decide +kernel
theorem d_l_law_757 : decode code 757 = .ok (.invokevirtual 124, 3) := by decide +kernel
theorem d_l_law_760 : decode code 760 = .ok (.istore 6, 2) := by decide +kernel
theorem d_l_law_762 : decode code 762 = .ok (.aload_n 2, 1) := by decide +kernel
theorem d_l_law_763 : decode code 763 = .ok (.invokevirtual 92, 3) := by decide +kernel
theorem d_l_law_766 : decode code 766 = .ok (.iload 5, 2) := by decide +kernel
theorem d_l_law_768 : decode code 768 = .ok (.if_icmp .eq 5, 3) := by decide +kernel
theorem d_l_law_771 : decode code 771 = .ok (.iconst 0, 1) := by decide +kernel
theorem d_l_law_772 : decode code 772 = .ok (.ireturn, 1) := by decide +kernel
theorem d_l_law_773 : decode code 773 = .ok (.iload 5, 2) := by decide +kernel
theorem d_l_law_775 : decode code 775 = .ok (.ifCond .ne 15, 3) := by decide +kernel
theorem d_l_law_778 : decode code 778 = .ok (.aload_n 3, 1) := by decide +kernel
theorem d_l_law_779 : decode code 779 = .ok (.iconst 0, 1) := by decide +kernel
theorem d_l_law_780 : decode code 780 = .ok (.laload, 1) := by decide +kernel
theorem d_l_law_781 : decode code 781 = .ok (.iload 6, 2) := by decide +kernel
theorem d_l_law_783 : decode code 783 = .ok (.i2l, 1) := by decide +kernel
theorem d_l_law_784 : decode code 784 = .ok (.lcmp, 1) := by decide +kernel
theorem d_l_law_785 : decode code 785 = .ok (.ifCond .eq 5, 3) := by decide +kernel
theorem d_l_law_788 : decode code 788 = .ok (.iconst 0, 1) := by decide +kernel
theorem d_l_law_789 : decode code 789 = .ok (.ireturn, 1) := by decide +kernel
theorem d_l_law_790 : decode code 790 = .ok (.goto 631, 3) := by decide +kernel
theorem d_l_law_793 : decode code 793 = .ok (.aload_n 1, 1) := by decide +kernel
theorem d_l_law_794 : decode code 794 = .ok (.aload_n 0, 1) := by decide +kernel
theorem d_l_law_795 : decode code 795 = .ok (.iload 4, 2) := by decide +kernel
theorem d_l_law_797 : decode code 797 = .ok (.iconst 1, 1) := by decide +kernel
theorem d_l_law_798 : decode code 798 = .ok (.iadd, 1) := by decide +kernel
theorem d_l_law_799 : decode code 799 = .ok (.iaload, 1) := by decide +kernel
theorem d_l_law_800 : decode code 800 = .ok (.aload_n 3, 1) := by decide +kernel
theorem d_l_law_801 : decode code 801 = .ok (.invokestatic 125, 3) := by decide +kernel
theorem d_l_law_804 : decode code 804 = .ok (.istore 5, 2) := by decide +kernel
