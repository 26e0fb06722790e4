theorem d_L_law_0 : decode c_L_law 0 = .ok (.new 8, 3) := by decide +kernel
theorem d_L_law_3 : decode c_L_law 3 = .ok (.dup, 1) := by decide +kernel
theorem d_L_law_4 : decode c_L_law 4 = .ok (.aload_n 0, 1) := by decide +kernel
theorem d_L_law_5 : decode c_L_law 5 = .ok (.iconst 0, 1) := by decide +kernel
theorem d_L_law_6 : decode c_L_law 6 = .ok (.invokestatic 85, 3) := by decide +kernel
theorem d_L_law_9 : decode c_L_law 9 = .ok (.invokespecial 91, 3) := by decide +kernel
theorem d_L_law_12 : decode c_L_law 12 = .ok (.astore_n 1, 1) := by decide +kernel
theorem d_L_law_13 : decode c_L_law 13 = .ok (.new 94, 3) := by decide +kernel
theorem d_L_law_16 : decode c_L_law 16 = .ok (.dup, 1) := by decide +kernel
theorem d_L_law_17 : decode c_L_law 17 = .ok (.aload_n 0, 1) := by decide +kernel
theorem d_L_law_18 : decode c_L_law 18 = .ok (.iconst 0, 1) := by decide +kernel
theorem d_L_law_19 : decode c_L_law 19 = .ok (.invokestatic 85, 3) := by decide +kernel
theorem d_L_law_22 : decode c_L_law 22 = .ok (.invokespecial 96, 3) := by decide +kernel
theorem d_L_law_25 : decode c_L_law 25 = .ok (.astore_n 2, 1) := by decide +kernel
theorem d_L_law_26 : decode c_L_law 26 = .ok (.iconst 1, 1) := by decide +kernel
theorem d_L_law_27 : decode c_L_law 27 = .ok (.newarray .long, 2) := by decide +kernel
theorem d_L_law_29 : decode c_L_law 29 = .ok (.astore_n 3, 1) := by decide +kernel
theorem d_L_law_30 : decode c_L_law 30 = .ok (.iconst 1, 1) := by decide +kernel
theorem d_L_law_31 : decode c_L_law 31 = .ok (.istore 4, 2) := by decide +kernel
theorem d_L_law_33 : decode c_L_law 33 = .ok (.iload 4, 2) := by decide +kernel
theorem d_L_law_35 : decode c_L_law 35 = .ok (.aload_n 0, 1) := by decide +kernel
theorem d_L_law_36 : decode c_L_law 36 = .ok (.arraylength, 1) := by decide +kernel
theorem d_L_law_37 : decode c_L_law 37 = .ok (.iconst 5, 1) := by decide +kernel
theorem d_L_law_38 : decode c_L_law 38 = .ok (.isub, 1) := by decide +kernel
theorem d_L_law_39 : decode c_L_law 39 = .ok (.if_icmp .gt 1565, 3) := by decide +kernel
theorem d_L_law_42 : decode c_L_law 42 = .ok (.aload_n 0, 1) := by decide +kernel
theorem d_L_law_43 : decode c_L_law 43 = .ok (.iload 4, 2) := by decide +kernel
theorem d_L_law_45 : decode c_L_law 45 = .ok (.iaload, 1) := by decide +kernel
theorem d_L_law_46 : decode c_L_law 46 = .ok (.bipush 31, 2) := by decide +kernel
theorem d_L_law_48 : decode c_L_law 48 = .ok (.iand, 1) := by decide +kernel
theorem d_L_law_49 : decode c_L_law 49 = .ok (.tableswitch 1549 0 21 #[103, 159, 246, 337, 393, 461, 474, 542, 598, 654, 721, 789, 856, 936, 1027, 1119, 1198, 1277, 1344, 1431, 1487, 1535], 103) := by decide +kernel
theorem d_L_law_152 : decode c_L_law 152 = .ok (.aload_n 1, 1) := by decide +kernel
theorem d_L_law_153 : decode c_L_law 153 = .ok (.aload_n 0, 1) := by decide +kernel
theorem d_L_law_154 : decode c_L_law 154 = .ok (.iload 4, 2) := by decide +kernel
theorem d_L_law_156 : decode c_L_law 156 = .ok (.iconst 1, 1) := by decide +kernel
theorem d_L_law_157 : decode c_L_law 157 = .ok (.iadd, 1) := by decide +kernel
theorem d_L_law_158 : decode c_L_law 158 = .ok (.iaload, 1) := by decide +kernel
theorem d_L_law_159 : decode c_L_law 159 = .ok (.aload_n 3, 1) := by decide +kernel
theorem d_L_law_160 : decode c_L_law 160 = .ok (.invokestatic 97, 3) := by decide +kernel
theorem d_L_law_163 : decode c_L_law 163 = .ok (.istore 5, 2) := by decide +kernel
theorem d_L_law_165 : decode c_L_law 165 = .ok (.aload_n 2, 1) := by decide +kernel
theorem d_L_law_166 : decode c_L_law 166 = .ok (.aload_n 0, 1) := by decide +kernel
theorem d_L_law_167 : decode c_L_law 167 = .ok (.iload 4, 2) := by decide +kernel
theorem d_L_law_169 : decode c_L_law 169 = .ok (.iconst 1, 1) := by decide +kernel
theorem d_L_law_170 : decode c_L_law 170 = .ok (.iadd, 1) := by decide +kernel
theorem d_L_law_171 : decode c_L_law 171 = .ok (.iaload, 1) := by decide +kernel
theorem d_L_law_172 : decode c_L_law 172 = .ok (.invokevirtual 100, 3) := by decide +kernel
theorem d_L_law_175 : decode c_L_law 175 = .ok (.istore 6, 2) := by decide +kernel
theorem d_L_law_177 : decode c_L_law 177 = .ok (.aload_n 2, 1) := by decide +kernel
theorem d_L_law_178 : decode c_L_law 178 = .ok (.invokevirtual 101, 3) := by decide +kernel
theorem d_L_law_181 : decode c_L_law 181 = .ok (.iload 5, 2) := by decide +kernel
theorem d_L_law_183 : decode c_L_law 183 = .ok (.if_icmp .eq 5, 3) := by decide +kernel
theorem d_L_law_186 : decode c_L_law 186 = .ok (.iconst 0, 1) := by decide +kernel
theorem d_L_law_187 : decode c_L_law 187 = .ok (.ireturn, 1) := by decide +kernel
theorem d_L_law_188 : decode c_L_law 188 = .ok (.iload 5, 2) := by decide +kernel
theorem d_L_law_190 : decode c_L_law 190 = .ok (.ifCond .ne 15, 3) := by decide +kernel
theorem d_L_law_193 : decode c_L_law 193 = .ok (.aload_n 3, 1) := by decide +kernel
theorem d_L_law_194 : decode c_L_law 194 = .ok (.iconst 0, 1) := by decide +kernel
theorem d_L_law_195 : decode c_L_law 195 = .ok (.laload, 1) := by decide +kernel
theorem d_L_law_196 : decode c_L_law 196 = .ok (.iload 6, 2) := by decide +kernel
theorem d_L_law_198 : decode c_L_law 198 = .ok (.i2l, 1) := by decide +kernel
theorem d_L_law_199 : decode c_L_law 199 = .ok (.lcmp, 1) := by decide +kernel
theorem d_L_law_200 : decode c_L_law 200 = .ok (.ifCond .eq 5, 3) := by decide +kernel
theorem d_L_law_203 : decode c_L_law 203 = .ok (.iconst 0, 1) := by decide +kernel
theorem d_L_law_204 : decode c_L_law 204 = .ok (.ireturn, 1) := by decide +kernel
theorem d_L_law_205 : decode c_L_law 205 = .ok (.goto 1393, 3) := by decide +kernel
theorem d_L_law_208 : decode c_L_law 208 = .ok (.aload_n 1, 1) := by decide +kernel
theorem d_L_law_209 : decode c_L_law 209 = .ok (.aload_n 0, 1) := by decide +kernel
theorem d_L_law_210 : decode c_L_law 210 = .ok (.iload 4, 2) := by decide +kernel
theorem d_L_law_212 : decode c_L_law 212 = .ok (.iconst 1, 1) := by decide +kernel
theorem d_L_law_213 : decode c_L_law 213 = .ok (.iadd, 1) := by decide +kernel
theorem d_L_law_214 : decode c_L_law 214 = .ok (.iaload, 1) := by decide +kernel
theorem d_L_law_215 : decode c_L_law 215 = .ok (.aload_n 0, 1) := by decide +kernel
theorem d_L_law_216 : decode c_L_law 216 = .ok (.iload 4, 2) := by decide +kernel
theorem d_L_law_218 : decode c_L_law 218 = .ok (.iconst 2, 1) := by decide +kernel
theorem d_L_law_219 : decode c_L_law 219 = .ok (.iadd, 1) := by decide +kernel
theorem d_L_law_220 : decode c_L_law 220 = .ok (.iaload, 1) := by decide +kernel
theorem d_L_law_221 : decode c_L_law 221 = .ok (.aload_n 0, 1) := by decide +kernel
theorem d_L_law_222 : decode c_L_law 222 = .ok (.iload 4, 2) := by decide +kernel
theorem d_L_law_224 : decode c_L_law 224 = .ok (.iconst 3, 1) := by decide +kernel
theorem d_L_law_225 : decode c_L_law 225 = .ok (.iadd, 1) := by decide +kernel
theorem d_L_law_226 : decode c_L_law 226 = .ok (.iaload, 1) := by decide +kernel
theorem d_L_law_227 : decode c_L_law 227 = .ok (.aload_n 3, 1) := by decide +kernel
theorem d_L_law_228 : decode c_L_law 228 = .ok (.invokestatic 105, 3) := by decide +kernel
theorem d_L_law_231 : decode c_L_law 231 = .ok (.istore 5, 2) := by decide +kernel
theorem d_L_law_233 : decode c_L_law 233 = .ok (.aload_n 2, 1) := by decide +kernel
theorem d_L_law_234 : decode c_L_law 234 = .ok (.aload_n 0, 1) := by decide +kernel
theorem d_L_law_235 : decode c_L_law 235 = .ok (.iload 4, 2) := by decide +kernel
theorem d_L_law_237 : decode c_L_law 237 = .ok (.iconst 1, 1) := by decide +kernel
theorem d_L_law_238 : decode c_L_law 238 = .ok (.iadd, 1) := by decide +kernel
theorem d_L_law_239 : decode c_L_law 239 = .ok (.iaload, 1) := by decide +kernel
theorem d_L_law_240 : decode c_L_law 240 = .ok (.aload_n 0, 1) := by decide +kernel
theorem d_L_law_241 : decode c_L_law 241 = .ok (.iload 4, 2) := by decide +kernel
theorem d_L_law_243 : decode c_L_law 243 = .ok (.iconst 2, 1) := by decide +kernel
theorem d_L_law_244 : decode c_L_law 244 = .ok (.iadd, 1) := by decide +kernel
theorem d_L_law_245 : decode c_L_law 245 = .ok (.iaload, 1) := by decide +kernel
theorem d_L_law_246 : decode c_L_law 246 = .ok (.aload_n 0, 1) := by decide +kernel
theorem d_L_law_247 : decode c_L_law 247 = .ok (.iload 4, 2) := by decide +kernel
theorem d_L_law_249 : decode c_L_law 249 = .ok (.iconst 3, 1) := by decide +kernel
theorem d_L_law_250 : decode c_L_law 250 = .ok (.iadd, 1) := by decide +kernel
theorem d_L_law_251 : decode c_L_law 251 = .ok (.iaload, 1) := by decide +kernel
theorem d_L_law_252 : decode c_L_law 252 = .ok (.invokevirtual 108, 3) := by decide +kernel
theorem d_L_law_255 : decode c_L_law 255 = .ok (.istore 6, 2) := by decide +kernel
theorem d_L_law_257 : decode c_L_law 257 = .ok (.aload_n 2, 1) := by decide +kernel
theorem d_L_law_258 : decode c_L_law 258 = .ok (.invokevirtual 101, 3) := by decide +kernel
theorem d_L_law_261 : decode c_L_law 261 = .ok (.iload 5, 2) := by decide +kernel
theorem d_L_law_263 : decode c_L_law 263 = .ok (.if_icmp .eq 5, 3) := by decide +kernel
theorem d_L_law_266 : decode c_L_law 266 = .ok (.iconst 0, 1) := by decide +kernel
theorem d_L_law_267 : decode c_L_law 267 = .ok (.ireturn, 1) := by decide +kernel
theorem d_L_law_268 : decode c_L_law 268 = .ok (.iload 5, 2) := by decide +kernel
theorem d_L_law_270 : decode c_L_law 270 = .ok (.ifCond .ne 22, 3) := by decide +kernel
theorem d_L_law_273 : decode c_L_law 273 = .ok (.aload_n 3, 1) := by decide +kernel
theorem d_L_law_274 : decode c_L_law 274 = .ok (.iconst 0, 1) := by decide +kernel
theorem d_L_law_275 : decode c_L_law 275 = .ok (.laload, 1) := by decide +kernel
theorem d_L_law_276 : decode c_L_law 276 = .ok (.iload 6, 2) := by decide +kernel
theorem d_L_law_278 : decode c_L_law 278 = .ok (.ifCond .eq 7, 3) := by decide +kernel
theorem d_L_law_281 : decode c_L_law 281 = .ok (.lconst 1, 1) := by decide +kernel
theorem d_L_law_282 : decode c_L_law 282 = .ok (.goto 4, 3) := by decide +kernel
theorem d_L_law_285 : decode c_L_law 285 = .ok (.lconst 0, 1) := by decide +kernel
theorem d_L_law_286 : decode c_L_law 286 = .ok (.lcmp, 1) := by decide +kernel
theorem d_L_law_287 : decode c_L_law 287 = .ok (.ifCond .eq 5, 3) := by decide +kernel
theorem d_L_law_290 : decode c_L_law 290 = .ok (.iconst 0, 1) := by decide +kernel
theorem d_L_law_291 : decode c_L_law 291 = .ok (.ireturn, 1) := by decide +kernel
theorem d_L_law_292 : decode c_L_law 292 = .ok (.goto 1306, 3) := by decide +kernel
theorem d_L_law_295 : decode c_L_law 295 = .ok (.aload_n 1, 1) := by decide +kernel
theorem d_L_law_296 : decode c_L_law 296 = .ok (.aload_n 0, 1) := by decide +kernel
theorem d_L_law_297 : decode c_L_law 297 = .ok (.iload 4, 2) := by decide +kernel
theorem d_L_law_299 : decode c_L_law 299 = .ok (.iconst 1, 1) := by decide +kernel
theorem d_L_law_300 : decode c_L_law 300 = .ok (.iadd, 1) := by decide +kernel
theorem d_L_law_301 : decode c_L_law 301 = .ok (.iaload, 1) := by decide +kernel
theorem d_L_law_302 : decode c_L_law 302 = .ok (.aload_n 0, 1) := by decide +kernel
theorem d_L_law_303 : decode c_L_law 303 = .ok (.iload 4, 2) := by decide +kernel
theorem d_L_law_305 : decode c_L_law 305 = .ok (.iconst 2, 1) := by decide +kernel
theorem d_L_law_306 : decode c_L_law 306 = .ok (.iadd, 1) := by decide +kernel
theorem d_L_law_307 : decode c_L_law 307 = .ok (.iaload, 1) := by decide +kernel
theorem d_L_law_308 : decode c_L_law 308 = .ok (.ifCond .eq 7, 3) := by decide +kernel
theorem d_L_law_311 : decode c_L_law 311 = .ok (.iconst 1, 1) := by decide +kernel
theorem d_L_law_312 : decode c_L_law 312 = .ok (.goto 4, 3) := by decide +kernel
theorem d_L_law_315 : decode c_L_law 315 = .ok (.iconst 0, 1) := by decide +kernel
theorem d_L_law_316 : decode c_L_law 316 = .ok (.aload_n 3, 1) := by decide +kernel
theorem d_L_law_317 : decode c_L_law 317 = .ok (.invokestatic 109, 3) := by decide +kernel
theorem d_L_law_320 : decode c_L_law 320 = .ok (.istore 5, 2) := by decide +kernel
theorem d_L_law_322 : decode c_L_law 322 = .ok (.aload_n 2, 1) := by decide +kernel
theorem d_L_law_323 : decode c_L_law 323 = .ok (.aload_n 0, 1) := by decide +kernel
theorem d_L_law_324 : decode c_L_law 324 = .ok (.iload 4, 2) := by decide +kernel
theorem d_L_law_326 : decode c_L_law 326 = .ok (.iconst 1, 1) := by decide +kernel
theorem d_L_law_327 : decode c_L_law 327 = .ok (.iadd, 1) := by decide +kernel
theorem d_L_law_328 : decode c_L_law 328 = .ok (.iaload, 1) := by decide +kernel
theorem d_L_law_329 : decode c_L_law 329 = .ok (.aload_n 0, 1) := by decide +kernel
theorem d_L_law_330 : decode c_L_law 330 = .ok (.iload 4, 2) := by decide +kernel
theorem d_L_law_332 : decode c_L_law 332 = .ok (.iconst 2, 1) := by decide +kernel
theorem d_L_law_333 : decode c_L_law 333 = .ok (.iadd, 1) := by decide +kernel
theorem d_L_law_334 : decode c_L_law 334 = .ok (.iaload, 1) := by decide +kernel
theorem d_L_law_335 : decode c_L_law 335 = .ok (.ifCond .eq 7, 3) := by decide +kernel
theorem d_L_law_338 : decode c_L_law 338 = .ok (.iconst 1, 1) := by decide +kernel
theorem d_L_law_339 : decode c_L_law 339 = .ok (.goto 4, 3) := by decide +kernel
theorem d_L_law_342 : decode c_L_law 342 = .ok (.iconst 0, 1) := by decide +kernel
theorem d_L_law_343 : decode c_L_law 343 = .ok (.invokevirtual 112, 3) := by decide +kernel
theorem d_L_law_346 : decode c_L_law 346 = .ok (.istore 6, 2) := by decide +kernel
theorem d_L_law_348 : decode c_L_law 348 = .ok (.aload_n 2, 1) := by decide +kernel
theorem d_L_law_349 : decode c_L_law 349 = .ok (.invokevirtual 101, 3) := by decide +kernel
theorem d_L_law_352 : decode c_L_law 352 = .ok (.iload 5, 2) := by decide +kernel
theorem d_L_law_354 : decode c_L_law 354 = .ok (.if_icmp .eq 5, 3) := by decide +kernel
theorem d_L_law_357 : decode c_L_law 357 = .ok (.iconst 0, 1) := by decide +kernel
theorem d_L_law_358 : decode c_L_law 358 = .ok (.ireturn, 1) := by decide +kernel
theorem d_L_law_359 : decode c_L_law 359 = .ok (.iload 5, 2) := by decide +kernel
theorem d_L_law_361 : decode c_L_law 361 = .ok (.ifCond .ne 22, 3) := by decide +kernel
theorem d_L_law_364 : decode c_L_law 364 = .ok (.aload_n 3, 1) := by decide +kernel
theorem d_L_law_365 : decode c_L_law 365 = .ok (.iconst 0, 1) := by decide +kernel
theorem d_L_law_366 : decode c_L_law 366 = .ok (.laload, 1) := by decide +kernel
theorem d_L_law_367 : decode c_L_law 367 = .ok (.iload 6, 2) := by decide +kernel
theorem d_L_law_369 : decode c_L_law 369 = .ok (.ifCond .eq 7, 3) := by decide +kernel
theorem d_L_law_372 : decode c_L_law 372 = .ok (.lconst 1, 1) := by decide +kernel
theorem d_L_law_373 : decode c_L_law 373 = .ok (.goto 4, 3) := by decide +kernel
theorem d_L_law_376 : decode c_L_law 376 = .ok (.lconst 0, 1) := by decide +kernel
theorem d_L_law_377 : decode c_L_law 377 = .ok (.lcmp, 1) := by decide +kernel
theorem d_L_law_378 : decode c_L_law 378 = .ok (.ifCond .eq 5, 3) := by decide +kernel
theorem d_L_law_381 : decode c_L_law 381 = .ok (.iconst 0, 1) := by decide +kernel
theorem d_L_law_382 : decode c_L_law 382 = .ok (.ireturn, 1) := by decide +kernel
theorem d_L_law_383 : decode c_L_law 383 = .ok (.goto 1215, 3) := by decide +kernel
theorem d_L_law_386 : decode c_L_law 386 = .ok (.aload_n 1, 1) := by decide +kernel
theorem d_L_law_387 : decode c_L_law 387 = .ok (.aload_n 0, 1) := by decide +kernel
theorem d_L_law_388 : decode c_L_law 388 = .ok (.iload 4, 2) := by decide +kernel
theorem d_L_law_390 : decode c_L_law 390 = .ok (.iconst 1, 1) := by decide +kernel
theorem d_L_law_391 : decode c_L_law 391 = .ok (.iadd, 1) := by decide +kernel
theorem d_L_law_392 : decode c_L_law 392 = .ok (.iaload, 1) := by decide +kernel
theorem d_L_law_393 : decode c_L_law 393 = .ok (.aload_n 3, 1) := by decide +kernel
theorem d_L_law_394 : decode c_L_law 394 = .ok (.invokestatic 113, 3) := by decide +kernel
theorem d_L_law_397 : decode c_L_law 397 = .ok (.istore 5, 2) := by decide +kernel
theorem d_L_law_399 : decode c_L_law 399 = .ok (.aload_n 2, 1) := by decide +kernel
theorem d_L_law_400 : decode c_L_law 400 = .ok (.aload_n 0, 1) := by decide +kernel
theorem d_L_law_401 : decode c_L_law 401 = .ok (.iload 4, 2) := by decide +kernel
theorem d_L_law_403 : decode c_L_law 403 = .ok (.iconst 1, 1) := by decide +kernel
theorem d_L_law_404 : decode c_L_law 404 = .ok (.iadd, 1) := by decide +kernel
theorem d_L_law_405 : decode c_L_law 405 = .ok (.iaload, 1) := by decide +kernel
theorem d_L_law_406 : decode c_L_law 406 = .ok (.invokevirtual 115, 3) := by decide +kernel
theorem d_L_law_409 : decode c_L_law 409 = .ok (.istore 6, 2) := by decide +kernel
theorem d_L_law_411 : decode c_L_law 411 = .ok (.aload_n 2, 1) := by decide +kernel
theorem d_L_law_412 : decode c_L_law 412 = .ok (.invokevirtual 101, 3) := by decide +kernel
theorem d_L_law_415 : decode c_L_law 415 = .ok (.iload 5, 2) := by decide +kernel
theorem d_L_law_417 : decode c_L_law 417 = .ok (.if_icmp .eq 5, 3) := by decide +kernel
theorem d_L_law_420 : decode c_L_law 420 = .ok (.iconst 0, 1) := by decide +kernel
theorem d_L_law_421 : decode c_L_law 421 = .ok (.ireturn, 1) := by decide +kernel
theorem d_L_law_422 : decode c_L_law 422 = .ok (.iload 5, 2) := by decide +kernel
theorem d_L_law_424 : decode c_L_law 424 = .ok (.ifCond .ne 15, 3) := by decide +kernel
theorem d_L_law_427 : decode c_L_law 427 = .ok (.aload_n 3, 1) := by decide +kernel
theorem d_L_law_428 : decode c_L_law 428 = .ok (.iconst 0, 1) := by decide +kernel
theorem d_L_law_429 : decode c_L_law 429 = .ok (.laload, 1) := by decide +kernel
theorem d_L_law_430 : decode c_L_law 430 = .ok (.iload 6, 2) := by decide +kernel
theorem d_L_law_432 : decode c_L_law 432 = .ok (.i2l, 1) := by decide +kernel
theorem d_L_law_433 : decode c_L_law 433 = .ok (.lcmp, 1) := by decide +kernel
theorem d_L_law_434 : decode c_L_law 434 = .ok (.ifCond .eq 5, 3) := by decide +kernel
theorem d_L_law_437 : decode c_L_law 437 = .ok (.iconst 0, 1) := by decide +kernel
theorem d_L_law_438 : decode c_L_law 438 = .ok (.ireturn, 1) := by decide +kernel
theorem d_L_law_439 : decode c_L_law 439 = .ok (.goto 1159, 3) := by decide +kernel
theorem d_L_law_442 : decode c_L_law 442 = .ok (.aload_n 1, 1) := by decide +kernel
theorem d_L_law_443 : decode c_L_law 443 = .ok (.aload_n 0, 1) := by decide +kernel
theorem d_L_law_444 : decode c_L_law 444 = .ok (.iload 4, 2) := by decide +kernel
theorem d_L_law_446 : decode c_L_law 446 = .ok (.iconst 1, 1) := by decide +kernel
theorem d_L_law_447 : decode c_L_law 447 = .ok (.iadd, 1) := by decide +kernel
theorem d_L_law_448 : decode c_L_law 448 = .ok (.iaload, 1) := by decide +kernel
theorem d_L_law_449 : decode c_L_law 449 = .ok (.aload_n 0, 1) := by decide +kernel
theorem d_L_law_450 : decode c_L_law 450 = .ok (.iload 4, 2) := by decide +kernel
theorem d_L_law_452 : decode c_L_law 452 = .ok (.iconst 2, 1) := by decide +kernel
theorem d_L_law_453 : decode c_L_law 453 = .ok (.iadd, 1) := by decide +kernel
theorem d_L_law_454 : decode c_L_law 454 = .ok (.iaload, 1) := by decide +kernel
theorem d_L_law_455 : decode c_L_law 455 = .ok (.aload_n 3, 1) := by decide +kernel
theorem d_L_law_456 : decode c_L_law 456 = .ok (.invokestatic 116, 3) := by decide +kernel
theorem d_L_law_459 : decode c_L_law 459 = .ok (.istore 5, 2) := by decide +kernel
theorem d_L_law_461 : decode c_L_law 461 = .ok (.aload_n 2, 1) := by decide +kernel
theorem d_L_law_462 : decode c_L_law 462 = .ok (.aload_n 0, 1) := by decide +kernel
theorem d_L_law_463 : decode c_L_law 463 = .ok (.iload 4, 2) := by decide +kernel
theorem d_L_law_465 : decode c_L_law 465 = .ok (.iconst 1, 1) := by decide +kernel
theorem d_L_law_466 : decode c_L_law 466 = .ok (.iadd, 1) := by decide +kernel
theorem d_L_law_467 : decode c_L_law 467 = .ok (.iaload, 1) := by decide +kernel
theorem d_L_law_468 : decode c_L_law 468 = .ok (.aload_n 0, 1) := by decide +kernel
theorem d_L_law_469 : decode c_L_law 469 = .ok (.iload 4, 2) := by decide +kernel
theorem d_L_law_471 : decode c_L_law 471 = .ok (.iconst 2, 1) := by decide +kernel
theorem d_L_law_472 : decode c_L_law 472 = .ok (.iadd, 1) := by decide +kernel
theorem d_L_law_473 : decode c_L_law 473 = .ok (.iaload, 1) := by decide +kernel
theorem d_L_law_474 : decode c_L_law 474 = .ok (.invokevirtual 119, 3) := by decide +kernel
theorem d_L_law_477 : decode c_L_law 477 = .ok (.istore 6, 2) := by decide +kernel
theorem d_L_law_479 : decode c_L_law 479 = .ok (.aload_n 2, 1) := by decide +kernel
theorem d_L_law_480 : decode c_L_law 480 = .ok (.invokevirtual 101, 3) := by decide +kernel
theorem d_L_law_483 : decode c_L_law 483 = .ok (.iload 5, 2) := by decide +kernel
theorem d_L_law_485 : decode c_L_law 485 = .ok (.if_icmp .eq 5, 3) := by decide +kernel
theorem d_L_law_488 : decode c_L_law 488 = .ok (.iconst 0, 1) := by decide +kernel
theorem d_L_law_489 : decode c_L_law 489 = .ok (.ireturn, 1) := by decide +kernel
theorem d_L_law_490 : decode c_L_law 490 = .ok (.iload 5, 2) := by decide +kernel
theorem d_L_law_492 : decode c_L_law 492 = .ok (.ifCond .ne 15, 3) := by decide +kernel
