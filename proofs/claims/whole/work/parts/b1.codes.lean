set_option maxRecDepth 100000 in
theorem jd_0 : decode code 0 = .ok (.new 7, 3) := by decide +kernel
set_option maxRecDepth 100000 in
theorem jd_3 : decode code 3 = .ok (.dup, 1) := by decide +kernel
set_option maxRecDepth 100000 in
theorem jd_4 : decode code 4 = .ok (.invokespecial 9, 3) := by decide +kernel
set_option maxRecDepth 100000 in
theorem jd_7 : decode code 7 = .ok (.astore_n 1, 1) := by decide +kernel
set_option maxRecDepth 100000 in
theorem jd_8 : decode code 8 = .ok (.new 10, 3) := by decide +kernel
set_option maxRecDepth 100000 in
theorem jd_11 : decode code 11 = .ok (.dup, 1) := by decide +kernel
set_option maxRecDepth 100000 in
theorem jd_12 : decode code 12 = .ok (.invokespecial 12, 3) := by decide +kernel
set_option maxRecDepth 100000 in
theorem jd_15 : decode code 15 = .ok (.astore_n 2, 1) := by decide +kernel
set_option maxRecDepth 100000 in
theorem jd_16 : decode code 16 = .ok (.iconst 0, 1) := by decide +kernel
set_option maxRecDepth 100000 in
theorem jd_17 : decode code 17 = .ok (.istore_n 3, 1) := by decide +kernel
set_option maxRecDepth 100000 in
theorem jd_18 : decode code 18 = .ok (.iload_n 3, 1) := by decide +kernel
set_option maxRecDepth 100000 in
theorem jd_19 : decode code 19 = .ok (.aload_n 0, 1) := by decide +kernel
set_option maxRecDepth 100000 in
theorem jd_20 : decode code 20 = .ok (.arraylength, 1) := by decide +kernel
set_option maxRecDepth 100000 in
theorem jd_21 : decode code 21 = .ok (.bipush 6, 2) := by decide +kernel
set_option maxRecDepth 100000 in
theorem jd_23 : decode code 23 = .ok (.isub, 1) := by decide +kernel
set_option maxRecDepth 100000 in
theorem jd_24 : decode code 24 = .ok (.if_icmp .gt 1335, 3) := by decide +kernel
set_option maxRecDepth 100000 in
theorem jd_27 : decode code 27 = .ok (.aload_n 0, 1) := by decide +kernel
set_option maxRecDepth 100000 in
theorem jd_28 : decode code 28 = .ok (.iload_n 3, 1) := by decide +kernel
set_option maxRecDepth 100000 in
theorem jd_29 : decode code 29 = .ok (.iaload, 1) := by decide +kernel
set_option maxRecDepth 100000 in
theorem jd_30 : decode code 30 = .ok (.bipush 63, 2) := by decide +kernel
set_option maxRecDepth 100000 in
theorem jd_32 : decode code 32 = .ok (.iand, 1) := by decide +kernel
set_option maxRecDepth 100000 in
theorem jd_33 : decode code 33 = .ok (.tableswitch 1320 0 38 #[171, 234, 257, 270, 293, 326, 359, 382, 415, 458, 481, 504, 537, 560, 573, 596, 619, 642, 675, 688, 701, 734, 757, 790, 813, 846, 879, 938, 961, 1004, 1037, 1060, 1103, 1126, 1149, 1182, 1251, 1274, 1297], 171) := by decide +kernel
set_option maxRecDepth 100000 in
theorem jd_204 : decode code 204 = .ok (.aload_n 1, 1) := by decide +kernel
set_option maxRecDepth 100000 in
theorem jd_205 : decode code 205 = .ok (.aload_n 0, 1) := by decide +kernel
set_option maxRecDepth 100000 in
theorem jd_206 : decode code 206 = .ok (.iload_n 3, 1) := by decide +kernel
set_option maxRecDepth 100000 in
theorem jd_207 : decode code 207 = .ok (.iconst 1, 1) := by decide +kernel
set_option maxRecDepth 100000 in
theorem jd_208 : decode code 208 = .ok (.iadd, 1) := by decide +kernel
set_option maxRecDepth 100000 in
theorem jd_209 : decode code 209 = .ok (.iaload, 1) := by decide +kernel
set_option maxRecDepth 100000 in
theorem jd_210 : decode code 210 = .ok (.aload_n 0, 1) := by decide +kernel
set_option maxRecDepth 100000 in
theorem jd_211 : decode code 211 = .ok (.iload_n 3, 1) := by decide +kernel
set_option maxRecDepth 100000 in
theorem jd_212 : decode code 212 = .ok (.iconst 2, 1) := by decide +kernel
set_option maxRecDepth 100000 in
theorem jd_213 : decode code 213 = .ok (.iadd, 1) := by decide +kernel
set_option maxRecDepth 100000 in
theorem jd_214 : decode code 214 = .ok (.iaload, 1) := by decide +kernel
set_option maxRecDepth 100000 in
theorem jd_215 : decode code 215 = .ok (.aload_n 0, 1) := by decide +kernel
set_option maxRecDepth 100000 in
theorem jd_216 : decode code 216 = .ok (.iload_n 3, 1) := by decide +kernel
set_option maxRecDepth 100000 in
theorem jd_217 : decode code 217 = .ok (.iconst 3, 1) := by decide +kernel
set_option maxRecDepth 100000 in
theorem jd_218 : decode code 218 = .ok (.iadd, 1) := by decide +kernel
set_option maxRecDepth 100000 in
theorem jd_219 : decode code 219 = .ok (.iaload, 1) := by decide +kernel
set_option maxRecDepth 100000 in
theorem jd_220 : decode code 220 = .ok (.aload_n 0, 1) := by decide +kernel
set_option maxRecDepth 100000 in
theorem jd_221 : decode code 221 = .ok (.iload_n 3, 1) := by decide +kernel
set_option maxRecDepth 100000 in
theorem jd_222 : decode code 222 = .ok (.iconst 4, 1) := by decide +kernel
set_option maxRecDepth 100000 in
theorem jd_223 : decode code 223 = .ok (.iadd, 1) := by decide +kernel
set_option maxRecDepth 100000 in
theorem jd_224 : decode code 224 = .ok (.iaload, 1) := by decide +kernel
set_option maxRecDepth 100000 in
theorem jd_225 : decode code 225 = .ok (.aload_n 0, 1) := by decide +kernel
set_option maxRecDepth 100000 in
theorem jd_226 : decode code 226 = .ok (.iload_n 3, 1) := by decide +kernel
set_option maxRecDepth 100000 in
theorem jd_227 : decode code 227 = .ok (.iconst 5, 1) := by decide +kernel
set_option maxRecDepth 100000 in
theorem jd_228 : decode code 228 = .ok (.iadd, 1) := by decide +kernel
set_option maxRecDepth 100000 in
theorem jd_229 : decode code 229 = .ok (.iaload, 1) := by decide +kernel
set_option maxRecDepth 100000 in
theorem jd_230 : decode code 230 = .ok (.invokevirtual 13, 3) := by decide +kernel
set_option maxRecDepth 100000 in
theorem jd_233 : decode code 233 = .ok (.aload_n 2, 1) := by decide +kernel
set_option maxRecDepth 100000 in
theorem jd_234 : decode code 234 = .ok (.aload_n 0, 1) := by decide +kernel
set_option maxRecDepth 100000 in
theorem jd_235 : decode code 235 = .ok (.iload_n 3, 1) := by decide +kernel
set_option maxRecDepth 100000 in
theorem jd_236 : decode code 236 = .ok (.iconst 1, 1) := by decide +kernel
set_option maxRecDepth 100000 in
theorem jd_237 : decode code 237 = .ok (.iadd, 1) := by decide +kernel
set_option maxRecDepth 100000 in
theorem jd_238 : decode code 238 = .ok (.iaload, 1) := by decide +kernel
set_option maxRecDepth 100000 in
theorem jd_239 : decode code 239 = .ok (.aload_n 0, 1) := by decide +kernel
set_option maxRecDepth 100000 in
theorem jd_240 : decode code 240 = .ok (.iload_n 3, 1) := by decide +kernel
set_option maxRecDepth 100000 in
theorem jd_241 : decode code 241 = .ok (.iconst 2, 1) := by decide +kernel
set_option maxRecDepth 100000 in
theorem jd_242 : decode code 242 = .ok (.iadd, 1) := by decide +kernel
set_option maxRecDepth 100000 in
theorem jd_243 : decode code 243 = .ok (.iaload, 1) := by decide +kernel
set_option maxRecDepth 100000 in
theorem jd_244 : decode code 244 = .ok (.aload_n 0, 1) := by decide +kernel
set_option maxRecDepth 100000 in
theorem jd_245 : decode code 245 = .ok (.iload_n 3, 1) := by decide +kernel
set_option maxRecDepth 100000 in
theorem jd_246 : decode code 246 = .ok (.iconst 3, 1) := by decide +kernel
set_option maxRecDepth 100000 in
theorem jd_247 : decode code 247 = .ok (.iadd, 1) := by decide +kernel
set_option maxRecDepth 100000 in
theorem jd_248 : decode code 248 = .ok (.iaload, 1) := by decide +kernel
set_option maxRecDepth 100000 in
theorem jd_249 : decode code 249 = .ok (.aload_n 0, 1) := by decide +kernel
set_option maxRecDepth 100000 in
theorem jd_250 : decode code 250 = .ok (.iload_n 3, 1) := by decide +kernel
set_option maxRecDepth 100000 in
theorem jd_251 : decode code 251 = .ok (.iconst 4, 1) := by decide +kernel
set_option maxRecDepth 100000 in
theorem jd_252 : decode code 252 = .ok (.iadd, 1) := by decide +kernel
set_option maxRecDepth 100000 in
theorem jd_253 : decode code 253 = .ok (.iaload, 1) := by decide +kernel
set_option maxRecDepth 100000 in
theorem jd_254 : decode code 254 = .ok (.aload_n 0, 1) := by decide +kernel
set_option maxRecDepth 100000 in
theorem jd_255 : decode code 255 = .ok (.iload_n 3, 1) := by decide +kernel
set_option maxRecDepth 100000 in
theorem jd_256 : decode code 256 = .ok (.iconst 5, 1) := by decide +kernel
set_option maxRecDepth 100000 in
theorem jd_257 : decode code 257 = .ok (.iadd, 1) := by decide +kernel
set_option maxRecDepth 100000 in
theorem jd_258 : decode code 258 = .ok (.iaload, 1) := by decide +kernel
set_option maxRecDepth 100000 in
theorem jd_259 : decode code 259 = .ok (.invokevirtual 17, 3) := by decide +kernel
set_option maxRecDepth 100000 in
theorem jd_262 : decode code 262 = .ok (.if_icmp .eq 1091, 3) := by decide +kernel
set_option maxRecDepth 100000 in
theorem jd_265 : decode code 265 = .ok (.iconst 0, 1) := by decide +kernel
set_option maxRecDepth 100000 in
theorem jd_266 : decode code 266 = .ok (.ireturn, 1) := by decide +kernel
set_option maxRecDepth 100000 in
theorem jd_267 : decode code 267 = .ok (.aload_n 1, 1) := by decide +kernel
set_option maxRecDepth 100000 in
theorem jd_268 : decode code 268 = .ok (.aload_n 0, 1) := by decide +kernel
set_option maxRecDepth 100000 in
theorem jd_269 : decode code 269 = .ok (.iload_n 3, 1) := by decide +kernel
set_option maxRecDepth 100000 in
theorem jd_270 : decode code 270 = .ok (.iconst 1, 1) := by decide +kernel
set_option maxRecDepth 100000 in
theorem jd_271 : decode code 271 = .ok (.iadd, 1) := by decide +kernel
set_option maxRecDepth 100000 in
theorem jd_272 : decode code 272 = .ok (.iaload, 1) := by decide +kernel
set_option maxRecDepth 100000 in
theorem jd_273 : decode code 273 = .ok (.invokevirtual 18, 3) := by decide +kernel
set_option maxRecDepth 100000 in
theorem jd_276 : decode code 276 = .ok (.aload_n 2, 1) := by decide +kernel
set_option maxRecDepth 100000 in
theorem jd_277 : decode code 277 = .ok (.aload_n 0, 1) := by decide +kernel
set_option maxRecDepth 100000 in
theorem jd_278 : decode code 278 = .ok (.iload_n 3, 1) := by decide +kernel
set_option maxRecDepth 100000 in
theorem jd_279 : decode code 279 = .ok (.iconst 1, 1) := by decide +kernel
set_option maxRecDepth 100000 in
theorem jd_280 : decode code 280 = .ok (.iadd, 1) := by decide +kernel
set_option maxRecDepth 100000 in
theorem jd_281 : decode code 281 = .ok (.iaload, 1) := by decide +kernel
set_option maxRecDepth 100000 in
theorem jd_282 : decode code 282 = .ok (.invokevirtual 22, 3) := by decide +kernel
set_option maxRecDepth 100000 in
theorem jd_285 : decode code 285 = .ok (.if_icmp .eq 1068, 3) := by decide +kernel
set_option maxRecDepth 100000 in
theorem jd_288 : decode code 288 = .ok (.iconst 0, 1) := by decide +kernel
set_option maxRecDepth 100000 in
theorem jd_289 : decode code 289 = .ok (.ireturn, 1) := by decide +kernel
set_option maxRecDepth 100000 in
theorem jd_290 : decode code 290 = .ok (.aload_n 1, 1) := by decide +kernel
set_option maxRecDepth 100000 in
theorem jd_291 : decode code 291 = .ok (.invokevirtual 23, 3) := by decide +kernel
set_option maxRecDepth 100000 in
theorem jd_294 : decode code 294 = .ok (.aload_n 2, 1) := by decide +kernel
set_option maxRecDepth 100000 in
theorem jd_295 : decode code 295 = .ok (.invokevirtual 27, 3) := by decide +kernel
set_option maxRecDepth 100000 in
theorem jd_298 : decode code 298 = .ok (.if_icmp .eq 1055, 3) := by decide +kernel
set_option maxRecDepth 100000 in
theorem jd_301 : decode code 301 = .ok (.iconst 0, 1) := by decide +kernel
set_option maxRecDepth 100000 in
theorem jd_302 : decode code 302 = .ok (.ireturn, 1) := by decide +kernel
set_option maxRecDepth 100000 in
theorem jd_303 : decode code 303 = .ok (.aload_n 1, 1) := by decide +kernel
set_option maxRecDepth 100000 in
theorem jd_304 : decode code 304 = .ok (.aload_n 0, 1) := by decide +kernel
set_option maxRecDepth 100000 in
theorem jd_305 : decode code 305 = .ok (.iload_n 3, 1) := by decide +kernel
set_option maxRecDepth 100000 in
theorem jd_306 : decode code 306 = .ok (.iconst 1, 1) := by decide +kernel
set_option maxRecDepth 100000 in
theorem jd_307 : decode code 307 = .ok (.iadd, 1) := by decide +kernel
set_option maxRecDepth 100000 in
theorem jd_308 : decode code 308 = .ok (.iaload, 1) := by decide +kernel
set_option maxRecDepth 100000 in
theorem jd_309 : decode code 309 = .ok (.invokevirtual 28, 3) := by decide +kernel
set_option maxRecDepth 100000 in
theorem jd_312 : decode code 312 = .ok (.aload_n 2, 1) := by decide +kernel
set_option maxRecDepth 100000 in
theorem jd_313 : decode code 313 = .ok (.aload_n 0, 1) := by decide +kernel
set_option maxRecDepth 100000 in
theorem jd_314 : decode code 314 = .ok (.iload_n 3, 1) := by decide +kernel
set_option maxRecDepth 100000 in
theorem jd_315 : decode code 315 = .ok (.iconst 1, 1) := by decide +kernel
set_option maxRecDepth 100000 in
theorem jd_316 : decode code 316 = .ok (.iadd, 1) := by decide +kernel
set_option maxRecDepth 100000 in
theorem jd_317 : decode code 317 = .ok (.iaload, 1) := by decide +kernel
set_option maxRecDepth 100000 in
theorem jd_318 : decode code 318 = .ok (.invokevirtual 31, 3) := by decide +kernel
set_option maxRecDepth 100000 in
theorem jd_321 : decode code 321 = .ok (.if_icmp .eq 1032, 3) := by decide +kernel
set_option maxRecDepth 100000 in
theorem jd_324 : decode code 324 = .ok (.iconst 0, 1) := by decide +kernel
set_option maxRecDepth 100000 in
theorem jd_325 : decode code 325 = .ok (.ireturn, 1) := by decide +kernel
set_option maxRecDepth 100000 in
theorem jd_326 : decode code 326 = .ok (.aload_n 1, 1) := by decide +kernel
set_option maxRecDepth 100000 in
theorem jd_327 : decode code 327 = .ok (.aload_n 0, 1) := by decide +kernel
set_option maxRecDepth 100000 in
theorem jd_328 : decode code 328 = .ok (.iload_n 3, 1) := by decide +kernel
set_option maxRecDepth 100000 in
theorem jd_329 : decode code 329 = .ok (.iconst 1, 1) := by decide +kernel
set_option maxRecDepth 100000 in
theorem jd_330 : decode code 330 = .ok (.iadd, 1) := by decide +kernel
set_option maxRecDepth 100000 in
theorem jd_331 : decode code 331 = .ok (.iaload, 1) := by decide +kernel
set_option maxRecDepth 100000 in
theorem jd_332 : decode code 332 = .ok (.aload_n 0, 1) := by decide +kernel
set_option maxRecDepth 100000 in
theorem jd_333 : decode code 333 = .ok (.iload_n 3, 1) := by decide +kernel
set_option maxRecDepth 100000 in
theorem jd_334 : decode code 334 = .ok (.iconst 2, 1) := by decide +kernel
set_option maxRecDepth 100000 in
theorem jd_335 : decode code 335 = .ok (.iadd, 1) := by decide +kernel
set_option maxRecDepth 100000 in
theorem jd_336 : decode code 336 = .ok (.iaload, 1) := by decide +kernel
set_option maxRecDepth 100000 in
theorem jd_337 : decode code 337 = .ok (.invokevirtual 32, 3) := by decide +kernel
set_option maxRecDepth 100000 in
theorem jd_340 : decode code 340 = .ok (.aload_n 2, 1) := by decide +kernel
set_option maxRecDepth 100000 in
theorem jd_341 : decode code 341 = .ok (.aload_n 0, 1) := by decide +kernel
set_option maxRecDepth 100000 in
theorem jd_342 : decode code 342 = .ok (.iload_n 3, 1) := by decide +kernel
set_option maxRecDepth 100000 in
theorem jd_343 : decode code 343 = .ok (.iconst 1, 1) := by decide +kernel
set_option maxRecDepth 100000 in
theorem jd_344 : decode code 344 = .ok (.iadd, 1) := by decide +kernel
set_option maxRecDepth 100000 in
theorem jd_345 : decode code 345 = .ok (.iaload, 1) := by decide +kernel
set_option maxRecDepth 100000 in
theorem jd_346 : decode code 346 = .ok (.aload_n 0, 1) := by decide +kernel
set_option maxRecDepth 100000 in
theorem jd_347 : decode code 347 = .ok (.iload_n 3, 1) := by decide +kernel
set_option maxRecDepth 100000 in
theorem jd_348 : decode code 348 = .ok (.iconst 2, 1) := by decide +kernel
set_option maxRecDepth 100000 in
theorem jd_349 : decode code 349 = .ok (.iadd, 1) := by decide +kernel
set_option maxRecDepth 100000 in
theorem jd_350 : decode code 350 = .ok (.iaload, 1) := by decide +kernel
set_option maxRecDepth 100000 in
theorem jd_351 : decode code 351 = .ok (.invokevirtual 36, 3) := by decide +kernel
set_option maxRecDepth 100000 in
theorem jd_354 : decode code 354 = .ok (.if_icmp .eq 999, 3) := by decide +kernel
set_option maxRecDepth 100000 in
theorem jd_357 : decode code 357 = .ok (.iconst 0, 1) := by decide +kernel
set_option maxRecDepth 100000 in
theorem jd_358 : decode code 358 = .ok (.ireturn, 1) := by decide +kernel
set_option maxRecDepth 100000 in
theorem jd_359 : decode code 359 = .ok (.aload_n 1, 1) := by decide +kernel
set_option maxRecDepth 100000 in
theorem jd_360 : decode code 360 = .ok (.aload_n 0, 1) := by decide +kernel
set_option maxRecDepth 100000 in
theorem jd_361 : decode code 361 = .ok (.iload_n 3, 1) := by decide +kernel
set_option maxRecDepth 100000 in
theorem jd_362 : decode code 362 = .ok (.iconst 1, 1) := by decide +kernel
set_option maxRecDepth 100000 in
theorem jd_363 : decode code 363 = .ok (.iadd, 1) := by decide +kernel
set_option maxRecDepth 100000 in
theorem jd_364 : decode code 364 = .ok (.iaload, 1) := by decide +kernel
set_option maxRecDepth 100000 in
theorem jd_365 : decode code 365 = .ok (.aload_n 0, 1) := by decide +kernel
set_option maxRecDepth 100000 in
theorem jd_366 : decode code 366 = .ok (.iload_n 3, 1) := by decide +kernel
set_option maxRecDepth 100000 in
theorem jd_367 : decode code 367 = .ok (.iconst 2, 1) := by decide +kernel
set_option maxRecDepth 100000 in
theorem jd_368 : decode code 368 = .ok (.iadd, 1) := by decide +kernel
set_option maxRecDepth 100000 in
theorem jd_369 : decode code 369 = .ok (.iaload, 1) := by decide +kernel
set_option maxRecDepth 100000 in
theorem jd_370 : decode code 370 = .ok (.invokevirtual 37, 3) := by decide +kernel
set_option maxRecDepth 100000 in
theorem jd_373 : decode code 373 = .ok (.aload_n 2, 1) := by decide +kernel
set_option maxRecDepth 100000 in
theorem jd_374 : decode code 374 = .ok (.aload_n 0, 1) := by decide +kernel
set_option maxRecDepth 100000 in
theorem jd_375 : decode code 375 = .ok (.iload_n 3, 1) := by decide +kernel
set_option maxRecDepth 100000 in
theorem jd_376 : decode code 376 = .ok (.iconst 1, 1) := by decide +kernel
set_option maxRecDepth 100000 in
theorem jd_377 : decode code 377 = .ok (.iadd, 1) := by decide +kernel
set_option maxRecDepth 100000 in
theorem jd_378 : decode code 378 = .ok (.iaload, 1) := by decide +kernel
set_option maxRecDepth 100000 in
theorem jd_379 : decode code 379 = .ok (.aload_n 0, 1) := by decide +kernel
set_option maxRecDepth 100000 in
theorem jd_380 : decode code 380 = .ok (.iload_n 3, 1) := by decide +kernel
set_option maxRecDepth 100000 in
theorem jd_381 : decode code 381 = .ok (.iconst 2, 1) := by decide +kernel
set_option maxRecDepth 100000 in
theorem jd_382 : decode code 382 = .ok (.iadd, 1) := by decide +kernel
set_option maxRecDepth 100000 in
theorem jd_383 : decode code 383 = .ok (.iaload, 1) := by decide +kernel
set_option maxRecDepth 100000 in
theorem jd_384 : decode code 384 = .ok (.invokevirtual 40, 3) := by decide +kernel
set_option maxRecDepth 100000 in
theorem jd_387 : decode code 387 = .ok (.if_icmp .eq 966, 3) := by decide +kernel
set_option maxRecDepth 100000 in
theorem jd_390 : decode code 390 = .ok (.iconst 0, 1) := by decide +kernel
set_option maxRecDepth 100000 in
theorem jd_391 : decode code 391 = .ok (.ireturn, 1) := by decide +kernel
set_option maxRecDepth 100000 in
theorem jd_392 : decode code 392 = .ok (.aload_n 1, 1) := by decide +kernel
set_option maxRecDepth 100000 in
theorem jd_393 : decode code 393 = .ok (.aload_n 0, 1) := by decide +kernel
set_option maxRecDepth 100000 in
theorem jd_394 : decode code 394 = .ok (.iload_n 3, 1) := by decide +kernel
set_option maxRecDepth 100000 in
theorem jd_395 : decode code 395 = .ok (.iconst 1, 1) := by decide +kernel
set_option maxRecDepth 100000 in
theorem jd_396 : decode code 396 = .ok (.iadd, 1) := by decide +kernel
set_option maxRecDepth 100000 in
theorem jd_397 : decode code 397 = .ok (.iaload, 1) := by decide +kernel
set_option maxRecDepth 100000 in
theorem jd_398 : decode code 398 = .ok (.invokevirtual 41, 3) := by decide +kernel
set_option maxRecDepth 100000 in
theorem jd_401 : decode code 401 = .ok (.aload_n 2, 1) := by decide +kernel
set_option maxRecDepth 100000 in
theorem jd_402 : decode code 402 = .ok (.aload_n 0, 1) := by decide +kernel
set_option maxRecDepth 100000 in
theorem jd_403 : decode code 403 = .ok (.iload_n 3, 1) := by decide +kernel
set_option maxRecDepth 100000 in
theorem jd_404 : decode code 404 = .ok (.iconst 1, 1) := by decide +kernel
set_option maxRecDepth 100000 in
theorem jd_405 : decode code 405 = .ok (.iadd, 1) := by decide +kernel
set_option maxRecDepth 100000 in
theorem jd_406 : decode code 406 = .ok (.iaload, 1) := by decide +kernel
set_option maxRecDepth 100000 in
theorem jd_407 : decode code 407 = .ok (.invokevirtual 44, 3) := by decide +kernel
set_option maxRecDepth 100000 in
theorem jd_410 : decode code 410 = .ok (.if_icmp .eq 943, 3) := by decide +kernel
set_option maxRecDepth 100000 in
theorem jd_413 : decode code 413 = .ok (.iconst 0, 1) := by decide +kernel
set_option maxRecDepth 100000 in
theorem jd_414 : decode code 414 = .ok (.ireturn, 1) := by decide +kernel
set_option maxRecDepth 100000 in
theorem jd_415 : decode code 415 = .ok (.aload_n 1, 1) := by decide +kernel
set_option maxRecDepth 100000 in
theorem jd_416 : decode code 416 = .ok (.aload_n 0, 1) := by decide +kernel
set_option maxRecDepth 100000 in
theorem jd_417 : decode code 417 = .ok (.iload_n 3, 1) := by decide +kernel
set_option maxRecDepth 100000 in
theorem jd_418 : decode code 418 = .ok (.iconst 1, 1) := by decide +kernel
set_option maxRecDepth 100000 in
theorem jd_419 : decode code 419 = .ok (.iadd, 1) := by decide +kernel
set_option maxRecDepth 100000 in
theorem jd_420 : decode code 420 = .ok (.iaload, 1) := by decide +kernel
set_option maxRecDepth 100000 in
theorem jd_421 : decode code 421 = .ok (.aload_n 0, 1) := by decide +kernel
set_option maxRecDepth 100000 in
theorem jd_422 : decode code 422 = .ok (.iload_n 3, 1) := by decide +kernel
set_option maxRecDepth 100000 in
theorem jd_423 : decode code 423 = .ok (.iconst 2, 1) := by decide +kernel
set_option maxRecDepth 100000 in
theorem jd_424 : decode code 424 = .ok (.iadd, 1) := by decide +kernel
set_option maxRecDepth 100000 in
theorem jd_425 : decode code 425 = .ok (.iaload, 1) := by decide +kernel
set_option maxRecDepth 100000 in
theorem jd_426 : decode code 426 = .ok (.invokevirtual 45, 3) := by decide +kernel
set_option maxRecDepth 100000 in
theorem jd_429 : decode code 429 = .ok (.aload_n 2, 1) := by decide +kernel
set_option maxRecDepth 100000 in
theorem jd_430 : decode code 430 = .ok (.aload_n 0, 1) := by decide +kernel
set_option maxRecDepth 100000 in
theorem jd_431 : decode code 431 = .ok (.iload_n 3, 1) := by decide +kernel
set_option maxRecDepth 100000 in
theorem jd_432 : decode code 432 = .ok (.iconst 1, 1) := by decide +kernel
set_option maxRecDepth 100000 in
theorem jd_433 : decode code 433 = .ok (.iadd, 1) := by decide +kernel
set_option maxRecDepth 100000 in
theorem jd_434 : decode code 434 = .ok (.iaload, 1) := by decide +kernel
set_option maxRecDepth 100000 in
theorem jd_435 : decode code 435 = .ok (.aload_n 0, 1) := by decide +kernel
set_option maxRecDepth 100000 in
theorem jd_436 : decode code 436 = .ok (.iload_n 3, 1) := by decide +kernel
set_option maxRecDepth 100000 in
theorem jd_437 : decode code 437 = .ok (.iconst 2, 1) := by decide +kernel
set_option maxRecDepth 100000 in
theorem jd_438 : decode code 438 = .ok (.iadd, 1) := by decide +kernel
set_option maxRecDepth 100000 in
theorem jd_439 : decode code 439 = .ok (.iaload, 1) := by decide +kernel
set_option maxRecDepth 100000 in
theorem jd_440 : decode code 440 = .ok (.invokevirtual 48, 3) := by decide +kernel
set_option maxRecDepth 100000 in
theorem jd_443 : decode code 443 = .ok (.if_icmp .eq 910, 3) := by decide +kernel
set_option maxRecDepth 100000 in
theorem jd_446 : decode code 446 = .ok (.iconst 0, 1) := by decide +kernel
set_option maxRecDepth 100000 in
theorem jd_447 : decode code 447 = .ok (.ireturn, 1) := by decide +kernel
set_option maxRecDepth 100000 in
theorem jd_448 : decode code 448 = .ok (.aload_n 1, 1) := by decide +kernel
set_option maxRecDepth 100000 in
theorem jd_449 : decode code 449 = .ok (.aload_n 0, 1) := by decide +kernel
set_option maxRecDepth 100000 in
theorem jd_450 : decode code 450 = .ok (.iload_n 3, 1) := by decide +kernel
set_option maxRecDepth 100000 in
theorem jd_451 : decode code 451 = .ok (.iconst 1, 1) := by decide +kernel
set_option maxRecDepth 100000 in
theorem jd_452 : decode code 452 = .ok (.iadd, 1) := by decide +kernel
set_option maxRecDepth 100000 in
theorem jd_453 : decode code 453 = .ok (.iaload, 1) := by decide +kernel
set_option maxRecDepth 100000 in
theorem jd_454 : decode code 454 = .ok (.aload_n 0, 1) := by decide +kernel
set_option maxRecDepth 100000 in
theorem jd_455 : decode code 455 = .ok (.iload_n 3, 1) := by decide +kernel
set_option maxRecDepth 100000 in
theorem jd_456 : decode code 456 = .ok (.iconst 2, 1) := by decide +kernel
set_option maxRecDepth 100000 in
theorem jd_457 : decode code 457 = .ok (.iadd, 1) := by decide +kernel
set_option maxRecDepth 100000 in
theorem jd_458 : decode code 458 = .ok (.iaload, 1) := by decide +kernel
set_option maxRecDepth 100000 in
theorem jd_459 : decode code 459 = .ok (.aload_n 0, 1) := by decide +kernel
set_option maxRecDepth 100000 in
theorem jd_460 : decode code 460 = .ok (.iload_n 3, 1) := by decide +kernel
set_option maxRecDepth 100000 in
theorem jd_461 : decode code 461 = .ok (.iconst 3, 1) := by decide +kernel
set_option maxRecDepth 100000 in
theorem jd_462 : decode code 462 = .ok (.iadd, 1) := by decide +kernel
set_option maxRecDepth 100000 in
theorem jd_463 : decode code 463 = .ok (.iaload, 1) := by decide +kernel
set_option maxRecDepth 100000 in
theorem jd_464 : decode code 464 = .ok (.invokevirtual 49, 3) := by decide +kernel
set_option maxRecDepth 100000 in
theorem jd_467 : decode code 467 = .ok (.aload_n 2, 1) := by decide +kernel
set_option maxRecDepth 100000 in
theorem jd_468 : decode code 468 = .ok (.aload_n 0, 1) := by decide +kernel
set_option maxRecDepth 100000 in
theorem jd_469 : decode code 469 = .ok (.iload_n 3, 1) := by decide +kernel
set_option maxRecDepth 100000 in
theorem jd_470 : decode code 470 = .ok (.iconst 1, 1) := by decide +kernel
set_option maxRecDepth 100000 in
theorem jd_471 : decode code 471 = .ok (.iadd, 1) := by decide +kernel
set_option maxRecDepth 100000 in
theorem jd_472 : decode code 472 = .ok (.iaload, 1) := by decide +kernel
set_option maxRecDepth 100000 in
theorem jd_473 : decode code 473 = .ok (.aload_n 0, 1) := by decide +kernel
set_option maxRecDepth 100000 in
theorem jd_474 : decode code 474 = .ok (.iload_n 3, 1) := by decide +kernel
set_option maxRecDepth 100000 in
theorem jd_475 : decode code 475 = .ok (.iconst 2, 1) := by decide +kernel
set_option maxRecDepth 100000 in
theorem jd_476 : decode code 476 = .ok (.iadd, 1) := by decide +kernel
set_option maxRecDepth 100000 in
theorem jd_477 : decode code 477 = .ok (.iaload, 1) := by decide +kernel
set_option maxRecDepth 100000 in
theorem jd_478 : decode code 478 = .ok (.aload_n 0, 1) := by decide +kernel
set_option maxRecDepth 100000 in
theorem jd_479 : decode code 479 = .ok (.iload_n 3, 1) := by decide +kernel
set_option maxRecDepth 100000 in
theorem jd_480 : decode code 480 = .ok (.iconst 3, 1) := by decide +kernel
set_option maxRecDepth 100000 in
theorem jd_481 : decode code 481 = .ok (.iadd, 1) := by decide +kernel
set_option maxRecDepth 100000 in
theorem jd_482 : decode code 482 = .ok (.iaload, 1) := by decide +kernel
set_option maxRecDepth 100000 in
theorem jd_483 : decode code 483 = .ok (.invokevirtual 53, 3) := by decide +kernel
set_option maxRecDepth 100000 in
theorem jd_486 : decode code 486 = .ok (.if_icmp .eq 867, 3) := by decide +kernel
set_option maxRecDepth 100000 in
theorem jd_489 : decode code 489 = .ok (.iconst 0, 1) := by decide +kernel
set_option maxRecDepth 100000 in
theorem jd_490 : decode code 490 = .ok (.ireturn, 1) := by decide +kernel
set_option maxRecDepth 100000 in
theorem jd_491 : decode code 491 = .ok (.aload_n 1, 1) := by decide +kernel
set_option maxRecDepth 100000 in
theorem jd_492 : decode code 492 = .ok (.aload_n 0, 1) := by decide +kernel
set_option maxRecDepth 100000 in
theorem jd_493 : decode code 493 = .ok (.iload_n 3, 1) := by decide +kernel
set_option maxRecDepth 100000 in
theorem jd_494 : decode code 494 = .ok (.iconst 1, 1) := by decide +kernel
set_option maxRecDepth 100000 in
theorem jd_495 : decode code 495 = .ok (.iadd, 1) := by decide +kernel
set_option maxRecDepth 100000 in
theorem jd_496 : decode code 496 = .ok (.iaload, 1) := by decide +kernel
set_option maxRecDepth 100000 in
theorem jd_497 : decode code 497 = .ok (.invokevirtual 54, 3) := by decide +kernel
set_option maxRecDepth 100000 in
theorem jd_500 : decode code 500 = .ok (.aload_n 2, 1) := by decide +kernel
set_option maxRecDepth 100000 in
theorem jd_501 : decode code 501 = .ok (.aload_n 0, 1) := by decide +kernel
set_option maxRecDepth 100000 in
theorem jd_502 : decode code 502 = .ok (.iload_n 3, 1) := by decide +kernel
set_option maxRecDepth 100000 in
theorem jd_503 : decode code 503 = .ok (.iconst 1, 1) := by decide +kernel
set_option maxRecDepth 100000 in
theorem jd_504 : decode code 504 = .ok (.iadd, 1) := by decide +kernel
set_option maxRecDepth 100000 in
theorem jd_505 : decode code 505 = .ok (.iaload, 1) := by decide +kernel
set_option maxRecDepth 100000 in
theorem jd_506 : decode code 506 = .ok (.invokevirtual 57, 3) := by decide +kernel
set_option maxRecDepth 100000 in
theorem jd_509 : decode code 509 = .ok (.if_icmp .eq 844, 3) := by decide +kernel
set_option maxRecDepth 100000 in
theorem jd_512 : decode code 512 = .ok (.iconst 0, 1) := by decide +kernel
set_option maxRecDepth 100000 in
theorem jd_513 : decode code 513 = .ok (.ireturn, 1) := by decide +kernel
set_option maxRecDepth 100000 in
theorem jd_514 : decode code 514 = .ok (.aload_n 1, 1) := by decide +kernel
set_option maxRecDepth 100000 in
theorem jd_515 : decode code 515 = .ok (.aload_n 0, 1) := by decide +kernel
set_option maxRecDepth 100000 in
theorem jd_516 : decode code 516 = .ok (.iload_n 3, 1) := by decide +kernel
set_option maxRecDepth 100000 in
theorem jd_517 : decode code 517 = .ok (.iconst 1, 1) := by decide +kernel
set_option maxRecDepth 100000 in
theorem jd_518 : decode code 518 = .ok (.iadd, 1) := by decide +kernel
set_option maxRecDepth 100000 in
theorem jd_519 : decode code 519 = .ok (.iaload, 1) := by decide +kernel
set_option maxRecDepth 100000 in
theorem jd_520 : decode code 520 = .ok (.invokevirtual 58, 3) := by decide +kernel
set_option maxRecDepth 100000 in
theorem jd_523 : decode code 523 = .ok (.aload_n 2, 1) := by decide +kernel
set_option maxRecDepth 100000 in
theorem jd_524 : decode code 524 = .ok (.aload_n 0, 1) := by decide +kernel
set_option maxRecDepth 100000 in
theorem jd_525 : decode code 525 = .ok (.iload_n 3, 1) := by decide +kernel
set_option maxRecDepth 100000 in
theorem jd_526 : decode code 526 = .ok (.iconst 1, 1) := by decide +kernel
set_option maxRecDepth 100000 in
theorem jd_527 : decode code 527 = .ok (.iadd, 1) := by decide +kernel
set_option maxRecDepth 100000 in
theorem jd_528 : decode code 528 = .ok (.iaload, 1) := by decide +kernel
set_option maxRecDepth 100000 in
theorem jd_529 : decode code 529 = .ok (.invokevirtual 61, 3) := by decide +kernel
set_option maxRecDepth 100000 in
theorem jd_532 : decode code 532 = .ok (.if_icmp .eq 821, 3) := by decide +kernel
set_option maxRecDepth 100000 in
theorem jd_535 : decode code 535 = .ok (.iconst 0, 1) := by decide +kernel
set_option maxRecDepth 100000 in
theorem jd_536 : decode code 536 = .ok (.ireturn, 1) := by decide +kernel
set_option maxRecDepth 100000 in
theorem jd_537 : decode code 537 = .ok (.aload_n 1, 1) := by decide +kernel
set_option maxRecDepth 100000 in
theorem jd_538 : decode code 538 = .ok (.aload_n 0, 1) := by decide +kernel
set_option maxRecDepth 100000 in
theorem jd_539 : decode code 539 = .ok (.iload_n 3, 1) := by decide +kernel
set_option maxRecDepth 100000 in
theorem jd_540 : decode code 540 = .ok (.iconst 1, 1) := by decide +kernel
set_option maxRecDepth 100000 in
theorem jd_541 : decode code 541 = .ok (.iadd, 1) := by decide +kernel
set_option maxRecDepth 100000 in
theorem jd_542 : decode code 542 = .ok (.iaload, 1) := by decide +kernel
set_option maxRecDepth 100000 in
theorem jd_543 : decode code 543 = .ok (.aload_n 0, 1) := by decide +kernel
set_option maxRecDepth 100000 in
theorem jd_544 : decode code 544 = .ok (.iload_n 3, 1) := by decide +kernel
set_option maxRecDepth 100000 in
theorem jd_545 : decode code 545 = .ok (.iconst 2, 1) := by decide +kernel
set_option maxRecDepth 100000 in
theorem jd_546 : decode code 546 = .ok (.iadd, 1) := by decide +kernel
set_option maxRecDepth 100000 in
theorem jd_547 : decode code 547 = .ok (.iaload, 1) := by decide +kernel
set_option maxRecDepth 100000 in
theorem jd_548 : decode code 548 = .ok (.invokevirtual 62, 3) := by decide +kernel
set_option maxRecDepth 100000 in
theorem jd_551 : decode code 551 = .ok (.aload_n 2, 1) := by decide +kernel
set_option maxRecDepth 100000 in
theorem jd_552 : decode code 552 = .ok (.aload_n 0, 1) := by decide +kernel
set_option maxRecDepth 100000 in
theorem jd_553 : decode code 553 = .ok (.iload_n 3, 1) := by decide +kernel
set_option maxRecDepth 100000 in
theorem jd_554 : decode code 554 = .ok (.iconst 1, 1) := by decide +kernel
set_option maxRecDepth 100000 in
theorem jd_555 : decode code 555 = .ok (.iadd, 1) := by decide +kernel
set_option maxRecDepth 100000 in
theorem jd_556 : decode code 556 = .ok (.iaload, 1) := by decide +kernel
set_option maxRecDepth 100000 in
theorem jd_557 : decode code 557 = .ok (.aload_n 0, 1) := by decide +kernel
set_option maxRecDepth 100000 in
theorem jd_558 : decode code 558 = .ok (.iload_n 3, 1) := by decide +kernel
set_option maxRecDepth 100000 in
theorem jd_559 : decode code 559 = .ok (.iconst 2, 1) := by decide +kernel
set_option maxRecDepth 100000 in
theorem jd_560 : decode code 560 = .ok (.iadd, 1) := by decide +kernel
set_option maxRecDepth 100000 in
theorem jd_561 : decode code 561 = .ok (.iaload, 1) := by decide +kernel
set_option maxRecDepth 100000 in
theorem jd_562 : decode code 562 = .ok (.invokevirtual 65, 3) := by decide +kernel
set_option maxRecDepth 100000 in
theorem jd_565 : decode code 565 = .ok (.if_icmp .eq 788, 3) := by decide +kernel
set_option maxRecDepth 100000 in
theorem jd_568 : decode code 568 = .ok (.iconst 0, 1) := by decide +kernel
set_option maxRecDepth 100000 in
theorem jd_569 : decode code 569 = .ok (.ireturn, 1) := by decide +kernel
set_option maxRecDepth 100000 in
theorem jd_570 : decode code 570 = .ok (.aload_n 1, 1) := by decide +kernel
set_option maxRecDepth 100000 in
theorem jd_571 : decode code 571 = .ok (.aload_n 0, 1) := by decide +kernel
set_option maxRecDepth 100000 in
theorem jd_572 : decode code 572 = .ok (.iload_n 3, 1) := by decide +kernel
set_option maxRecDepth 100000 in
theorem jd_573 : decode code 573 = .ok (.iconst 1, 1) := by decide +kernel
set_option maxRecDepth 100000 in
theorem jd_574 : decode code 574 = .ok (.iadd, 1) := by decide +kernel
set_option maxRecDepth 100000 in
theorem jd_575 : decode code 575 = .ok (.iaload, 1) := by decide +kernel
set_option maxRecDepth 100000 in
theorem jd_576 : decode code 576 = .ok (.invokevirtual 66, 3) := by decide +kernel
set_option maxRecDepth 100000 in
theorem jd_579 : decode code 579 = .ok (.aload_n 2, 1) := by decide +kernel
set_option maxRecDepth 100000 in
theorem jd_580 : decode code 580 = .ok (.aload_n 0, 1) := by decide +kernel
set_option maxRecDepth 100000 in
theorem jd_581 : decode code 581 = .ok (.iload_n 3, 1) := by decide +kernel
set_option maxRecDepth 100000 in
theorem jd_582 : decode code 582 = .ok (.iconst 1, 1) := by decide +kernel
set_option maxRecDepth 100000 in
theorem jd_583 : decode code 583 = .ok (.iadd, 1) := by decide +kernel
set_option maxRecDepth 100000 in
theorem jd_584 : decode code 584 = .ok (.iaload, 1) := by decide +kernel
set_option maxRecDepth 100000 in
theorem jd_585 : decode code 585 = .ok (.invokevirtual 69, 3) := by decide +kernel
set_option maxRecDepth 100000 in
theorem jd_588 : decode code 588 = .ok (.if_icmp .eq 765, 3) := by decide +kernel
set_option maxRecDepth 100000 in
theorem jd_591 : decode code 591 = .ok (.iconst 0, 1) := by decide +kernel
set_option maxRecDepth 100000 in
theorem jd_592 : decode code 592 = .ok (.ireturn, 1) := by decide +kernel
set_option maxRecDepth 100000 in
theorem jd_593 : decode code 593 = .ok (.aload_n 1, 1) := by decide +kernel
set_option maxRecDepth 100000 in
theorem jd_594 : decode code 594 = .ok (.invokevirtual 70, 3) := by decide +kernel
set_option maxRecDepth 100000 in
theorem jd_597 : decode code 597 = .ok (.aload_n 2, 1) := by decide +kernel
set_option maxRecDepth 100000 in
theorem jd_598 : decode code 598 = .ok (.invokevirtual 73, 3) := by decide +kernel
set_option maxRecDepth 100000 in
theorem jd_601 : decode code 601 = .ok (.if_icmp .eq 752, 3) := by decide +kernel
set_option maxRecDepth 100000 in
theorem jd_604 : decode code 604 = .ok (.iconst 0, 1) := by decide +kernel
set_option maxRecDepth 100000 in
theorem jd_605 : decode code 605 = .ok (.ireturn, 1) := by decide +kernel
set_option maxRecDepth 100000 in
theorem jd_606 : decode code 606 = .ok (.aload_n 1, 1) := by decide +kernel
set_option maxRecDepth 100000 in
theorem jd_607 : decode code 607 = .ok (.aload_n 0, 1) := by decide +kernel
set_option maxRecDepth 100000 in
theorem jd_608 : decode code 608 = .ok (.iload_n 3, 1) := by decide +kernel
set_option maxRecDepth 100000 in
theorem jd_609 : decode code 609 = .ok (.iconst 1, 1) := by decide +kernel
set_option maxRecDepth 100000 in
theorem jd_610 : decode code 610 = .ok (.iadd, 1) := by decide +kernel
set_option maxRecDepth 100000 in
theorem jd_611 : decode code 611 = .ok (.iaload, 1) := by decide +kernel
set_option maxRecDepth 100000 in
theorem jd_612 : decode code 612 = .ok (.invokevirtual 74, 3) := by decide +kernel
set_option maxRecDepth 100000 in
theorem jd_615 : decode code 615 = .ok (.aload_n 2, 1) := by decide +kernel
set_option maxRecDepth 100000 in
theorem jd_616 : decode code 616 = .ok (.aload_n 0, 1) := by decide +kernel
set_option maxRecDepth 100000 in
theorem jd_617 : decode code 617 = .ok (.iload_n 3, 1) := by decide +kernel
set_option maxRecDepth 100000 in
theorem jd_618 : decode code 618 = .ok (.iconst 1, 1) := by decide +kernel
set_option maxRecDepth 100000 in
theorem jd_619 : decode code 619 = .ok (.iadd, 1) := by decide +kernel
set_option maxRecDepth 100000 in
theorem jd_620 : decode code 620 = .ok (.iaload, 1) := by decide +kernel
set_option maxRecDepth 100000 in
theorem jd_621 : decode code 621 = .ok (.invokevirtual 77, 3) := by decide +kernel
set_option maxRecDepth 100000 in
theorem jd_624 : decode code 624 = .ok (.if_icmp .eq 729, 3) := by decide +kernel
set_option maxRecDepth 100000 in
theorem jd_627 : decode code 627 = .ok (.iconst 0, 1) := by decide +kernel
set_option maxRecDepth 100000 in
theorem jd_628 : decode code 628 = .ok (.ireturn, 1) := by decide +kernel
set_option maxRecDepth 100000 in
theorem jd_629 : decode code 629 = .ok (.aload_n 1, 1) := by decide +kernel
set_option maxRecDepth 100000 in
theorem jd_630 : decode code 630 = .ok (.aload_n 0, 1) := by decide +kernel
set_option maxRecDepth 100000 in
theorem jd_631 : decode code 631 = .ok (.iload_n 3, 1) := by decide +kernel
set_option maxRecDepth 100000 in
theorem jd_632 : decode code 632 = .ok (.iconst 1, 1) := by decide +kernel
set_option maxRecDepth 100000 in
theorem jd_633 : decode code 633 = .ok (.iadd, 1) := by decide +kernel
set_option maxRecDepth 100000 in
theorem jd_634 : decode code 634 = .ok (.iaload, 1) := by decide +kernel
set_option maxRecDepth 100000 in
theorem jd_635 : decode code 635 = .ok (.invokevirtual 78, 3) := by decide +kernel
set_option maxRecDepth 100000 in
theorem jd_638 : decode code 638 = .ok (.aload_n 2, 1) := by decide +kernel
set_option maxRecDepth 100000 in
theorem jd_639 : decode code 639 = .ok (.aload_n 0, 1) := by decide +kernel
set_option maxRecDepth 100000 in
theorem jd_640 : decode code 640 = .ok (.iload_n 3, 1) := by decide +kernel
set_option maxRecDepth 100000 in
theorem jd_641 : decode code 641 = .ok (.iconst 1, 1) := by decide +kernel
set_option maxRecDepth 100000 in
theorem jd_642 : decode code 642 = .ok (.iadd, 1) := by decide +kernel
set_option maxRecDepth 100000 in
theorem jd_643 : decode code 643 = .ok (.iaload, 1) := by decide +kernel
set_option maxRecDepth 100000 in
theorem jd_644 : decode code 644 = .ok (.invokevirtual 81, 3) := by decide +kernel
set_option maxRecDepth 100000 in
theorem jd_647 : decode code 647 = .ok (.if_icmp .eq 706, 3) := by decide +kernel
set_option maxRecDepth 100000 in
theorem jd_650 : decode code 650 = .ok (.iconst 0, 1) := by decide +kernel
set_option maxRecDepth 100000 in
theorem jd_651 : decode code 651 = .ok (.ireturn, 1) := by decide +kernel
set_option maxRecDepth 100000 in
theorem jd_652 : decode code 652 = .ok (.aload_n 1, 1) := by decide +kernel
set_option maxRecDepth 100000 in
theorem jd_653 : decode code 653 = .ok (.aload_n 0, 1) := by decide +kernel
set_option maxRecDepth 100000 in
theorem jd_654 : decode code 654 = .ok (.iload_n 3, 1) := by decide +kernel
set_option maxRecDepth 100000 in
theorem jd_655 : decode code 655 = .ok (.iconst 1, 1) := by decide +kernel
set_option maxRecDepth 100000 in
theorem jd_656 : decode code 656 = .ok (.iadd, 1) := by decide +kernel
set_option maxRecDepth 100000 in
theorem jd_657 : decode code 657 = .ok (.iaload, 1) := by decide +kernel
set_option maxRecDepth 100000 in
theorem jd_658 : decode code 658 = .ok (.invokevirtual 82, 3) := by decide +kernel
set_option maxRecDepth 100000 in
theorem jd_661 : decode code 661 = .ok (.aload_n 2, 1) := by decide +kernel
set_option maxRecDepth 100000 in
theorem jd_662 : decode code 662 = .ok (.aload_n 0, 1) := by decide +kernel
set_option maxRecDepth 100000 in
theorem jd_663 : decode code 663 = .ok (.iload_n 3, 1) := by decide +kernel
set_option maxRecDepth 100000 in
theorem jd_664 : decode code 664 = .ok (.iconst 1, 1) := by decide +kernel
set_option maxRecDepth 100000 in
theorem jd_665 : decode code 665 = .ok (.iadd, 1) := by decide +kernel
set_option maxRecDepth 100000 in
theorem jd_666 : decode code 666 = .ok (.iaload, 1) := by decide +kernel
set_option maxRecDepth 100000 in
theorem jd_667 : decode code 667 = .ok (.invokevirtual 85, 3) := by decide +kernel
set_option maxRecDepth 100000 in
theorem jd_670 : decode code 670 = .ok (.if_icmp .eq 683, 3) := by decide +kernel
set_option maxRecDepth 100000 in
theorem jd_673 : decode code 673 = .ok (.iconst 0, 1) := by decide +kernel
set_option maxRecDepth 100000 in
theorem jd_674 : decode code 674 = .ok (.ireturn, 1) := by decide +kernel
set_option maxRecDepth 100000 in
theorem jd_675 : decode code 675 = .ok (.aload_n 1, 1) := by decide +kernel
set_option maxRecDepth 100000 in
theorem jd_676 : decode code 676 = .ok (.aload_n 0, 1) := by decide +kernel
set_option maxRecDepth 100000 in
theorem jd_677 : decode code 677 = .ok (.iload_n 3, 1) := by decide +kernel
set_option maxRecDepth 100000 in
theorem jd_678 : decode code 678 = .ok (.iconst 1, 1) := by decide +kernel
set_option maxRecDepth 100000 in
theorem jd_679 : decode code 679 = .ok (.iadd, 1) := by decide +kernel
set_option maxRecDepth 100000 in
theorem jd_680 : decode code 680 = .ok (.iaload, 1) := by decide +kernel
set_option maxRecDepth 100000 in
theorem jd_681 : decode code 681 = .ok (.aload_n 0, 1) := by decide +kernel
set_option maxRecDepth 100000 in
theorem jd_682 : decode code 682 = .ok (.iload_n 3, 1) := by decide +kernel
set_option maxRecDepth 100000 in
theorem jd_683 : decode code 683 = .ok (.iconst 2, 1) := by decide +kernel
set_option maxRecDepth 100000 in
theorem jd_684 : decode code 684 = .ok (.iadd, 1) := by decide +kernel
set_option maxRecDepth 100000 in
theorem jd_685 : decode code 685 = .ok (.iaload, 1) := by decide +kernel
set_option maxRecDepth 100000 in
theorem jd_686 : decode code 686 = .ok (.invokevirtual 86, 3) := by decide +kernel
set_option maxRecDepth 100000 in
theorem jd_689 : decode code 689 = .ok (.aload_n 2, 1) := by decide +kernel
set_option maxRecDepth 100000 in
theorem jd_690 : decode code 690 = .ok (.aload_n 0, 1) := by decide +kernel
set_option maxRecDepth 100000 in
theorem jd_691 : decode code 691 = .ok (.iload_n 3, 1) := by decide +kernel
set_option maxRecDepth 100000 in
theorem jd_692 : decode code 692 = .ok (.iconst 1, 1) := by decide +kernel
set_option maxRecDepth 100000 in
theorem jd_693 : decode code 693 = .ok (.iadd, 1) := by decide +kernel
set_option maxRecDepth 100000 in
theorem jd_694 : decode code 694 = .ok (.iaload, 1) := by decide +kernel
set_option maxRecDepth 100000 in
theorem jd_695 : decode code 695 = .ok (.aload_n 0, 1) := by decide +kernel
set_option maxRecDepth 100000 in
theorem jd_696 : decode code 696 = .ok (.iload_n 3, 1) := by decide +kernel
set_option maxRecDepth 100000 in
theorem jd_697 : decode code 697 = .ok (.iconst 2, 1) := by decide +kernel
set_option maxRecDepth 100000 in
theorem jd_698 : decode code 698 = .ok (.iadd, 1) := by decide +kernel
set_option maxRecDepth 100000 in
theorem jd_699 : decode code 699 = .ok (.iaload, 1) := by decide +kernel
set_option maxRecDepth 100000 in
theorem jd_700 : decode code 700 = .ok (.invokevirtual 89, 3) := by decide +kernel
set_option maxRecDepth 100000 in
theorem jd_703 : decode code 703 = .ok (.if_icmp .eq 650, 3) := by decide +kernel
set_option maxRecDepth 100000 in
theorem jd_706 : decode code 706 = .ok (.iconst 0, 1) := by decide +kernel
set_option maxRecDepth 100000 in
theorem jd_707 : decode code 707 = .ok (.ireturn, 1) := by decide +kernel
set_option maxRecDepth 100000 in
theorem jd_708 : decode code 708 = .ok (.aload_n 1, 1) := by decide +kernel
set_option maxRecDepth 100000 in
theorem jd_709 : decode code 709 = .ok (.invokevirtual 90, 3) := by decide +kernel
set_option maxRecDepth 100000 in
theorem jd_712 : decode code 712 = .ok (.aload_n 2, 1) := by decide +kernel
set_option maxRecDepth 100000 in
theorem jd_713 : decode code 713 = .ok (.invokevirtual 94, 3) := by decide +kernel
set_option maxRecDepth 100000 in
theorem jd_716 : decode code 716 = .ok (.if_icmp .eq 637, 3) := by decide +kernel
set_option maxRecDepth 100000 in
theorem jd_719 : decode code 719 = .ok (.iconst 0, 1) := by decide +kernel
set_option maxRecDepth 100000 in
theorem jd_720 : decode code 720 = .ok (.ireturn, 1) := by decide +kernel
set_option maxRecDepth 100000 in
theorem jd_721 : decode code 721 = .ok (.aload_n 1, 1) := by decide +kernel
set_option maxRecDepth 100000 in
theorem jd_722 : decode code 722 = .ok (.invokevirtual 95, 3) := by decide +kernel
set_option maxRecDepth 100000 in
theorem jd_725 : decode code 725 = .ok (.aload_n 2, 1) := by decide +kernel
set_option maxRecDepth 100000 in
theorem jd_726 : decode code 726 = .ok (.invokevirtual 98, 3) := by decide +kernel
set_option maxRecDepth 100000 in
theorem jd_729 : decode code 729 = .ok (.if_icmp .eq 624, 3) := by decide +kernel
set_option maxRecDepth 100000 in
theorem jd_732 : decode code 732 = .ok (.iconst 0, 1) := by decide +kernel
set_option maxRecDepth 100000 in
theorem jd_733 : decode code 733 = .ok (.ireturn, 1) := by decide +kernel
set_option maxRecDepth 100000 in
theorem jd_734 : decode code 734 = .ok (.aload_n 1, 1) := by decide +kernel
set_option maxRecDepth 100000 in
theorem jd_735 : decode code 735 = .ok (.aload_n 0, 1) := by decide +kernel
set_option maxRecDepth 100000 in
theorem jd_736 : decode code 736 = .ok (.iload_n 3, 1) := by decide +kernel
set_option maxRecDepth 100000 in
theorem jd_737 : decode code 737 = .ok (.iconst 1, 1) := by decide +kernel
set_option maxRecDepth 100000 in
theorem jd_738 : decode code 738 = .ok (.iadd, 1) := by decide +kernel
set_option maxRecDepth 100000 in
theorem jd_739 : decode code 739 = .ok (.iaload, 1) := by decide +kernel
set_option maxRecDepth 100000 in
theorem jd_740 : decode code 740 = .ok (.aload_n 0, 1) := by decide +kernel
set_option maxRecDepth 100000 in
theorem jd_741 : decode code 741 = .ok (.iload_n 3, 1) := by decide +kernel
set_option maxRecDepth 100000 in
theorem jd_742 : decode code 742 = .ok (.iconst 2, 1) := by decide +kernel
set_option maxRecDepth 100000 in
theorem jd_743 : decode code 743 = .ok (.iadd, 1) := by decide +kernel
set_option maxRecDepth 100000 in
theorem jd_744 : decode code 744 = .ok (.iaload, 1) := by decide +kernel
set_option maxRecDepth 100000 in
theorem jd_745 : decode code 745 = .ok (.invokevirtual 99, 3) := by decide +kernel
set_option maxRecDepth 100000 in
theorem jd_748 : decode code 748 = .ok (.aload_n 2, 1) := by decide +kernel
set_option maxRecDepth 100000 in
theorem jd_749 : decode code 749 = .ok (.aload_n 0, 1) := by decide +kernel
set_option maxRecDepth 100000 in
theorem jd_750 : decode code 750 = .ok (.iload_n 3, 1) := by decide +kernel
set_option maxRecDepth 100000 in
theorem jd_751 : decode code 751 = .ok (.iconst 1, 1) := by decide +kernel
set_option maxRecDepth 100000 in
theorem jd_752 : decode code 752 = .ok (.iadd, 1) := by decide +kernel
set_option maxRecDepth 100000 in
theorem jd_753 : decode code 753 = .ok (.iaload, 1) := by decide +kernel
set_option maxRecDepth 100000 in
theorem jd_754 : decode code 754 = .ok (.aload_n 0, 1) := by decide +kernel
set_option maxRecDepth 100000 in
theorem jd_755 : decode code 755 = .ok (.iload_n 3, 1) := by decide +kernel
set_option maxRecDepth 100000 in
theorem jd_756 : decode code 756 = .ok (.iconst 2, 1) := by decide +kernel
set_option maxRecDepth 100000 in
theorem jd_757 : decode code 757 = .ok (.iadd, 1) := by decide +kernel
set_option maxRecDepth 100000 in
theorem jd_758 : decode code 758 = .ok (.iaload, 1) := by decide +kernel
set_option maxRecDepth 100000 in
theorem jd_759 : decode code 759 = .ok (.invokevirtual 102, 3) := by decide +kernel
set_option maxRecDepth 100000 in
theorem jd_762 : decode code 762 = .ok (.if_icmp .eq 591, 3) := by decide +kernel
set_option maxRecDepth 100000 in
theorem jd_765 : decode code 765 = .ok (.iconst 0, 1) := by decide +kernel
set_option maxRecDepth 100000 in
theorem jd_766 : decode code 766 = .ok (.ireturn, 1) := by decide +kernel
set_option maxRecDepth 100000 in
theorem jd_767 : decode code 767 = .ok (.aload_n 1, 1) := by decide +kernel
set_option maxRecDepth 100000 in
theorem jd_768 : decode code 768 = .ok (.aload_n 0, 1) := by decide +kernel
set_option maxRecDepth 100000 in
theorem jd_769 : decode code 769 = .ok (.iload_n 3, 1) := by decide +kernel
set_option maxRecDepth 100000 in
theorem jd_770 : decode code 770 = .ok (.iconst 1, 1) := by decide +kernel
set_option maxRecDepth 100000 in
theorem jd_771 : decode code 771 = .ok (.iadd, 1) := by decide +kernel
set_option maxRecDepth 100000 in
theorem jd_772 : decode code 772 = .ok (.iaload, 1) := by decide +kernel
set_option maxRecDepth 100000 in
theorem jd_773 : decode code 773 = .ok (.invokevirtual 103, 3) := by decide +kernel
set_option maxRecDepth 100000 in
theorem jd_776 : decode code 776 = .ok (.aload_n 2, 1) := by decide +kernel
set_option maxRecDepth 100000 in
theorem jd_777 : decode code 777 = .ok (.aload_n 0, 1) := by decide +kernel
set_option maxRecDepth 100000 in
theorem jd_778 : decode code 778 = .ok (.iload_n 3, 1) := by decide +kernel
set_option maxRecDepth 100000 in
theorem jd_779 : decode code 779 = .ok (.iconst 1, 1) := by decide +kernel
set_option maxRecDepth 100000 in
theorem jd_780 : decode code 780 = .ok (.iadd, 1) := by decide +kernel
set_option maxRecDepth 100000 in
theorem jd_781 : decode code 781 = .ok (.iaload, 1) := by decide +kernel
set_option maxRecDepth 100000 in
theorem jd_782 : decode code 782 = .ok (.invokevirtual 106, 3) := by decide +kernel
set_option maxRecDepth 100000 in
theorem jd_785 : decode code 785 = .ok (.if_icmp .eq 568, 3) := by decide +kernel
set_option maxRecDepth 100000 in
theorem jd_788 : decode code 788 = .ok (.iconst 0, 1) := by decide +kernel
set_option maxRecDepth 100000 in
theorem jd_789 : decode code 789 = .ok (.ireturn, 1) := by decide +kernel
set_option maxRecDepth 100000 in
theorem jd_790 : decode code 790 = .ok (.aload_n 1, 1) := by decide +kernel
set_option maxRecDepth 100000 in
theorem jd_791 : decode code 791 = .ok (.aload_n 0, 1) := by decide +kernel
set_option maxRecDepth 100000 in
theorem jd_792 : decode code 792 = .ok (.iload_n 3, 1) := by decide +kernel
set_option maxRecDepth 100000 in
theorem jd_793 : decode code 793 = .ok (.iconst 1, 1) := by decide +kernel
set_option maxRecDepth 100000 in
theorem jd_794 : decode code 794 = .ok (.iadd, 1) := by decide +kernel
set_option maxRecDepth 100000 in
theorem jd_795 : decode code 795 = .ok (.iaload, 1) := by decide +kernel
set_option maxRecDepth 100000 in
theorem jd_796 : decode code 796 = .ok (.aload_n 0, 1) := by decide +kernel
set_option maxRecDepth 100000 in
theorem jd_797 : decode code 797 = .ok (.iload_n 3, 1) := by decide +kernel
set_option maxRecDepth 100000 in
theorem jd_798 : decode code 798 = .ok (.iconst 2, 1) := by decide +kernel
set_option maxRecDepth 100000 in
theorem jd_799 : decode code 799 = .ok (.iadd, 1) := by decide +kernel
set_option maxRecDepth 100000 in
theorem jd_800 : decode code 800 = .ok (.iaload, 1) := by decide +kernel
set_option maxRecDepth 100000 in
theorem jd_801 : decode code 801 = .ok (.invokevirtual 107, 3) := by decide +kernel
set_option maxRecDepth 100000 in
theorem jd_804 : decode code 804 = .ok (.aload_n 2, 1) := by decide +kernel
set_option maxRecDepth 100000 in
theorem jd_805 : decode code 805 = .ok (.aload_n 0, 1) := by decide +kernel
set_option maxRecDepth 100000 in
theorem jd_806 : decode code 806 = .ok (.iload_n 3, 1) := by decide +kernel
set_option maxRecDepth 100000 in
theorem jd_807 : decode code 807 = .ok (.iconst 1, 1) := by decide +kernel
set_option maxRecDepth 100000 in
theorem jd_808 : decode code 808 = .ok (.iadd, 1) := by decide +kernel
set_option maxRecDepth 100000 in
theorem jd_809 : decode code 809 = .ok (.iaload, 1) := by decide +kernel
set_option maxRecDepth 100000 in
theorem jd_810 : decode code 810 = .ok (.aload_n 0, 1) := by decide +kernel
set_option maxRecDepth 100000 in
theorem jd_811 : decode code 811 = .ok (.iload_n 3, 1) := by decide +kernel
set_option maxRecDepth 100000 in
theorem jd_812 : decode code 812 = .ok (.iconst 2, 1) := by decide +kernel
set_option maxRecDepth 100000 in
theorem jd_813 : decode code 813 = .ok (.iadd, 1) := by decide +kernel
set_option maxRecDepth 100000 in
theorem jd_814 : decode code 814 = .ok (.iaload, 1) := by decide +kernel
set_option maxRecDepth 100000 in
theorem jd_815 : decode code 815 = .ok (.invokevirtual 110, 3) := by decide +kernel
set_option maxRecDepth 100000 in
theorem jd_818 : decode code 818 = .ok (.if_icmp .eq 535, 3) := by decide +kernel
set_option maxRecDepth 100000 in
theorem jd_821 : decode code 821 = .ok (.iconst 0, 1) := by decide +kernel
set_option maxRecDepth 100000 in
theorem jd_822 : decode code 822 = .ok (.ireturn, 1) := by decide +kernel
set_option maxRecDepth 100000 in
theorem jd_823 : decode code 823 = .ok (.aload_n 1, 1) := by decide +kernel
set_option maxRecDepth 100000 in
theorem jd_824 : decode code 824 = .ok (.aload_n 0, 1) := by decide +kernel
set_option maxRecDepth 100000 in
theorem jd_825 : decode code 825 = .ok (.iload_n 3, 1) := by decide +kernel
set_option maxRecDepth 100000 in
theorem jd_826 : decode code 826 = .ok (.iconst 1, 1) := by decide +kernel
set_option maxRecDepth 100000 in
theorem jd_827 : decode code 827 = .ok (.iadd, 1) := by decide +kernel
set_option maxRecDepth 100000 in
theorem jd_828 : decode code 828 = .ok (.iaload, 1) := by decide +kernel
set_option maxRecDepth 100000 in
theorem jd_829 : decode code 829 = .ok (.invokevirtual 111, 3) := by decide +kernel
set_option maxRecDepth 100000 in
theorem jd_832 : decode code 832 = .ok (.aload_n 2, 1) := by decide +kernel
set_option maxRecDepth 100000 in
theorem jd_833 : decode code 833 = .ok (.aload_n 0, 1) := by decide +kernel
set_option maxRecDepth 100000 in
theorem jd_834 : decode code 834 = .ok (.iload_n 3, 1) := by decide +kernel
set_option maxRecDepth 100000 in
theorem jd_835 : decode code 835 = .ok (.iconst 1, 1) := by decide +kernel
set_option maxRecDepth 100000 in
theorem jd_836 : decode code 836 = .ok (.iadd, 1) := by decide +kernel
set_option maxRecDepth 100000 in
theorem jd_837 : decode code 837 = .ok (.iaload, 1) := by decide +kernel
set_option maxRecDepth 100000 in
theorem jd_838 : decode code 838 = .ok (.invokevirtual 114, 3) := by decide +kernel
set_option maxRecDepth 100000 in
theorem jd_841 : decode code 841 = .ok (.if_icmp .eq 512, 3) := by decide +kernel
set_option maxRecDepth 100000 in
theorem jd_844 : decode code 844 = .ok (.iconst 0, 1) := by decide +kernel
set_option maxRecDepth 100000 in
theorem jd_845 : decode code 845 = .ok (.ireturn, 1) := by decide +kernel
set_option maxRecDepth 100000 in
theorem jd_846 : decode code 846 = .ok (.aload_n 1, 1) := by decide +kernel
set_option maxRecDepth 100000 in
theorem jd_847 : decode code 847 = .ok (.aload_n 0, 1) := by decide +kernel
set_option maxRecDepth 100000 in
theorem jd_848 : decode code 848 = .ok (.iload_n 3, 1) := by decide +kernel
set_option maxRecDepth 100000 in
theorem jd_849 : decode code 849 = .ok (.iconst 1, 1) := by decide +kernel
set_option maxRecDepth 100000 in
theorem jd_850 : decode code 850 = .ok (.iadd, 1) := by decide +kernel
set_option maxRecDepth 100000 in
theorem jd_851 : decode code 851 = .ok (.iaload, 1) := by decide +kernel
set_option maxRecDepth 100000 in
theorem jd_852 : decode code 852 = .ok (.aload_n 0, 1) := by decide +kernel
set_option maxRecDepth 100000 in
theorem jd_853 : decode code 853 = .ok (.iload_n 3, 1) := by decide +kernel
set_option maxRecDepth 100000 in
theorem jd_854 : decode code 854 = .ok (.iconst 2, 1) := by decide +kernel
set_option maxRecDepth 100000 in
theorem jd_855 : decode code 855 = .ok (.iadd, 1) := by decide +kernel
set_option maxRecDepth 100000 in
theorem jd_856 : decode code 856 = .ok (.iaload, 1) := by decide +kernel
set_option maxRecDepth 100000 in
theorem jd_857 : decode code 857 = .ok (.invokevirtual 115, 3) := by decide +kernel
set_option maxRecDepth 100000 in
theorem jd_860 : decode code 860 = .ok (.aload_n 2, 1) := by decide +kernel
set_option maxRecDepth 100000 in
theorem jd_861 : decode code 861 = .ok (.aload_n 0, 1) := by decide +kernel
set_option maxRecDepth 100000 in
theorem jd_862 : decode code 862 = .ok (.iload_n 3, 1) := by decide +kernel
set_option maxRecDepth 100000 in
theorem jd_863 : decode code 863 = .ok (.iconst 1, 1) := by decide +kernel
set_option maxRecDepth 100000 in
theorem jd_864 : decode code 864 = .ok (.iadd, 1) := by decide +kernel
set_option maxRecDepth 100000 in
theorem jd_865 : decode code 865 = .ok (.iaload, 1) := by decide +kernel
set_option maxRecDepth 100000 in
theorem jd_866 : decode code 866 = .ok (.aload_n 0, 1) := by decide +kernel
set_option maxRecDepth 100000 in
theorem jd_867 : decode code 867 = .ok (.iload_n 3, 1) := by decide +kernel
set_option maxRecDepth 100000 in
theorem jd_868 : decode code 868 = .ok (.iconst 2, 1) := by decide +kernel
set_option maxRecDepth 100000 in
theorem jd_869 : decode code 869 = .ok (.iadd, 1) := by decide +kernel
set_option maxRecDepth 100000 in
theorem jd_870 : decode code 870 = .ok (.iaload, 1) := by decide +kernel
set_option maxRecDepth 100000 in
theorem jd_871 : decode code 871 = .ok (.invokevirtual 118, 3) := by decide +kernel
set_option maxRecDepth 100000 in
theorem jd_874 : decode code 874 = .ok (.if_icmp .eq 479, 3) := by decide +kernel
set_option maxRecDepth 100000 in
theorem jd_877 : decode code 877 = .ok (.iconst 0, 1) := by decide +kernel
set_option maxRecDepth 100000 in
theorem jd_878 : decode code 878 = .ok (.ireturn, 1) := by decide +kernel
set_option maxRecDepth 100000 in
theorem jd_879 : decode code 879 = .ok (.aload_n 1, 1) := by decide +kernel
set_option maxRecDepth 100000 in
theorem jd_880 : decode code 880 = .ok (.aload_n 0, 1) := by decide +kernel
set_option maxRecDepth 100000 in
theorem jd_881 : decode code 881 = .ok (.iload_n 3, 1) := by decide +kernel
set_option maxRecDepth 100000 in
theorem jd_882 : decode code 882 = .ok (.iconst 1, 1) := by decide +kernel
set_option maxRecDepth 100000 in
theorem jd_883 : decode code 883 = .ok (.iadd, 1) := by decide +kernel
set_option maxRecDepth 100000 in
theorem jd_884 : decode code 884 = .ok (.iaload, 1) := by decide +kernel
set_option maxRecDepth 100000 in
theorem jd_885 : decode code 885 = .ok (.aload_n 0, 1) := by decide +kernel
set_option maxRecDepth 100000 in
theorem jd_886 : decode code 886 = .ok (.iload_n 3, 1) := by decide +kernel
set_option maxRecDepth 100000 in
theorem jd_887 : decode code 887 = .ok (.iconst 2, 1) := by decide +kernel
set_option maxRecDepth 100000 in
theorem jd_888 : decode code 888 = .ok (.iadd, 1) := by decide +kernel
set_option maxRecDepth 100000 in
theorem jd_889 : decode code 889 = .ok (.iaload, 1) := by decide +kernel
set_option maxRecDepth 100000 in
theorem jd_890 : decode code 890 = .ok (.invokevirtual 119, 3) := by decide +kernel
set_option maxRecDepth 100000 in
theorem jd_893 : decode code 893 = .ok (.aload_n 2, 1) := by decide +kernel
set_option maxRecDepth 100000 in
theorem jd_894 : decode code 894 = .ok (.aload_n 0, 1) := by decide +kernel
set_option maxRecDepth 100000 in
theorem jd_895 : decode code 895 = .ok (.iload_n 3, 1) := by decide +kernel
set_option maxRecDepth 100000 in
theorem jd_896 : decode code 896 = .ok (.iconst 1, 1) := by decide +kernel
set_option maxRecDepth 100000 in
theorem jd_897 : decode code 897 = .ok (.iadd, 1) := by decide +kernel
set_option maxRecDepth 100000 in
theorem jd_898 : decode code 898 = .ok (.iaload, 1) := by decide +kernel
set_option maxRecDepth 100000 in
theorem jd_899 : decode code 899 = .ok (.aload_n 0, 1) := by decide +kernel
set_option maxRecDepth 100000 in
theorem jd_900 : decode code 900 = .ok (.iload_n 3, 1) := by decide +kernel
set_option maxRecDepth 100000 in
theorem jd_901 : decode code 901 = .ok (.iconst 2, 1) := by decide +kernel
set_option maxRecDepth 100000 in
theorem jd_902 : decode code 902 = .ok (.iadd, 1) := by decide +kernel
set_option maxRecDepth 100000 in
theorem jd_903 : decode code 903 = .ok (.iaload, 1) := by decide +kernel
set_option maxRecDepth 100000 in
theorem jd_904 : decode code 904 = .ok (.invokevirtual 122, 3) := by decide +kernel
set_option maxRecDepth 100000 in
theorem jd_907 : decode code 907 = .ok (.if_icmp .eq 446, 3) := by decide +kernel
set_option maxRecDepth 100000 in
theorem jd_910 : decode code 910 = .ok (.iconst 0, 1) := by decide +kernel
set_option maxRecDepth 100000 in
theorem jd_911 : decode code 911 = .ok (.ireturn, 1) := by decide +kernel
set_option maxRecDepth 100000 in
theorem jd_912 : decode code 912 = .ok (.aload_n 1, 1) := by decide +kernel
set_option maxRecDepth 100000 in
theorem jd_913 : decode code 913 = .ok (.aload_n 0, 1) := by decide +kernel
set_option maxRecDepth 100000 in
theorem jd_914 : decode code 914 = .ok (.iload_n 3, 1) := by decide +kernel
set_option maxRecDepth 100000 in
theorem jd_915 : decode code 915 = .ok (.iconst 1, 1) := by decide +kernel
set_option maxRecDepth 100000 in
theorem jd_916 : decode code 916 = .ok (.iadd, 1) := by decide +kernel
set_option maxRecDepth 100000 in
theorem jd_917 : decode code 917 = .ok (.iaload, 1) := by decide +kernel
set_option maxRecDepth 100000 in
theorem jd_918 : decode code 918 = .ok (.aload_n 0, 1) := by decide +kernel
set_option maxRecDepth 100000 in
theorem jd_919 : decode code 919 = .ok (.iload_n 3, 1) := by decide +kernel
set_option maxRecDepth 100000 in
theorem jd_920 : decode code 920 = .ok (.iconst 2, 1) := by decide +kernel
set_option maxRecDepth 100000 in
theorem jd_921 : decode code 921 = .ok (.iadd, 1) := by decide +kernel
set_option maxRecDepth 100000 in
theorem jd_922 : decode code 922 = .ok (.iaload, 1) := by decide +kernel
set_option maxRecDepth 100000 in
theorem jd_923 : decode code 923 = .ok (.aload_n 0, 1) := by decide +kernel
set_option maxRecDepth 100000 in
theorem jd_924 : decode code 924 = .ok (.iload_n 3, 1) := by decide +kernel
set_option maxRecDepth 100000 in
theorem jd_925 : decode code 925 = .ok (.iconst 3, 1) := by decide +kernel
set_option maxRecDepth 100000 in
theorem jd_926 : decode code 926 = .ok (.iadd, 1) := by decide +kernel
set_option maxRecDepth 100000 in
theorem jd_927 : decode code 927 = .ok (.iaload, 1) := by decide +kernel
set_option maxRecDepth 100000 in
theorem jd_928 : decode code 928 = .ok (.ifCond .eq 7, 3) := by decide +kernel
set_option maxRecDepth 100000 in
theorem jd_931 : decode code 931 = .ok (.iconst 1, 1) := by decide +kernel
set_option maxRecDepth 100000 in
theorem jd_932 : decode code 932 = .ok (.goto 4, 3) := by decide +kernel
set_option maxRecDepth 100000 in
theorem jd_935 : decode code 935 = .ok (.iconst 0, 1) := by decide +kernel
set_option maxRecDepth 100000 in
theorem jd_936 : decode code 936 = .ok (.invokevirtual 123, 3) := by decide +kernel
set_option maxRecDepth 100000 in
theorem jd_939 : decode code 939 = .ok (.aload_n 2, 1) := by decide +kernel
set_option maxRecDepth 100000 in
theorem jd_940 : decode code 940 = .ok (.aload_n 0, 1) := by decide +kernel
set_option maxRecDepth 100000 in
theorem jd_941 : decode code 941 = .ok (.iload_n 3, 1) := by decide +kernel
set_option maxRecDepth 100000 in
theorem jd_942 : decode code 942 = .ok (.iconst 1, 1) := by decide +kernel
set_option maxRecDepth 100000 in
theorem jd_943 : decode code 943 = .ok (.iadd, 1) := by decide +kernel
set_option maxRecDepth 100000 in
theorem jd_944 : decode code 944 = .ok (.iaload, 1) := by decide +kernel
set_option maxRecDepth 100000 in
theorem jd_945 : decode code 945 = .ok (.aload_n 0, 1) := by decide +kernel
set_option maxRecDepth 100000 in
theorem jd_946 : decode code 946 = .ok (.iload_n 3, 1) := by decide +kernel
set_option maxRecDepth 100000 in
theorem jd_947 : decode code 947 = .ok (.iconst 2, 1) := by decide +kernel
set_option maxRecDepth 100000 in
theorem jd_948 : decode code 948 = .ok (.iadd, 1) := by decide +kernel
set_option maxRecDepth 100000 in
theorem jd_949 : decode code 949 = .ok (.iaload, 1) := by decide +kernel
set_option maxRecDepth 100000 in
theorem jd_950 : decode code 950 = .ok (.aload_n 0, 1) := by decide +kernel
set_option maxRecDepth 100000 in
theorem jd_951 : decode code 951 = .ok (.iload_n 3, 1) := by decide +kernel
set_option maxRecDepth 100000 in
theorem jd_952 : decode code 952 = .ok (.iconst 3, 1) := by decide +kernel
set_option maxRecDepth 100000 in
theorem jd_953 : decode code 953 = .ok (.iadd, 1) := by decide +kernel
set_option maxRecDepth 100000 in
theorem jd_954 : decode code 954 = .ok (.iaload, 1) := by decide +kernel
set_option maxRecDepth 100000 in
theorem jd_955 : decode code 955 = .ok (.ifCond .eq 7, 3) := by decide +kernel
set_option maxRecDepth 100000 in
theorem jd_958 : decode code 958 = .ok (.iconst 1, 1) := by decide +kernel
set_option maxRecDepth 100000 in
theorem jd_959 : decode code 959 = .ok (.goto 4, 3) := by decide +kernel
set_option maxRecDepth 100000 in
theorem jd_962 : decode code 962 = .ok (.iconst 0, 1) := by decide +kernel
set_option maxRecDepth 100000 in
theorem jd_963 : decode code 963 = .ok (.invokevirtual 127, 3) := by decide +kernel
set_option maxRecDepth 100000 in
theorem jd_966 : decode code 966 = .ok (.if_icmp .eq 387, 3) := by decide +kernel
set_option maxRecDepth 100000 in
theorem jd_969 : decode code 969 = .ok (.iconst 0, 1) := by decide +kernel
set_option maxRecDepth 100000 in
theorem jd_970 : decode code 970 = .ok (.ireturn, 1) := by decide +kernel
set_option maxRecDepth 100000 in
theorem jd_971 : decode code 971 = .ok (.aload_n 1, 1) := by decide +kernel
set_option maxRecDepth 100000 in
theorem jd_972 : decode code 972 = .ok (.aload_n 0, 1) := by decide +kernel
set_option maxRecDepth 100000 in
theorem jd_973 : decode code 973 = .ok (.iload_n 3, 1) := by decide +kernel
set_option maxRecDepth 100000 in
theorem jd_974 : decode code 974 = .ok (.iconst 1, 1) := by decide +kernel
set_option maxRecDepth 100000 in
theorem jd_975 : decode code 975 = .ok (.iadd, 1) := by decide +kernel
set_option maxRecDepth 100000 in
theorem jd_976 : decode code 976 = .ok (.iaload, 1) := by decide +kernel
set_option maxRecDepth 100000 in
theorem jd_977 : decode code 977 = .ok (.invokevirtual 128, 3) := by decide +kernel
set_option maxRecDepth 100000 in
theorem jd_980 : decode code 980 = .ok (.aload_n 2, 1) := by decide +kernel
set_option maxRecDepth 100000 in
theorem jd_981 : decode code 981 = .ok (.aload_n 0, 1) := by decide +kernel
set_option maxRecDepth 100000 in
theorem jd_982 : decode code 982 = .ok (.iload_n 3, 1) := by decide +kernel
set_option maxRecDepth 100000 in
theorem jd_983 : decode code 983 = .ok (.iconst 1, 1) := by decide +kernel
set_option maxRecDepth 100000 in
theorem jd_984 : decode code 984 = .ok (.iadd, 1) := by decide +kernel
set_option maxRecDepth 100000 in
theorem jd_985 : decode code 985 = .ok (.iaload, 1) := by decide +kernel
set_option maxRecDepth 100000 in
theorem jd_986 : decode code 986 = .ok (.invokevirtual 131, 3) := by decide +kernel
set_option maxRecDepth 100000 in
theorem jd_989 : decode code 989 = .ok (.if_icmp .eq 364, 3) := by decide +kernel
set_option maxRecDepth 100000 in
theorem jd_992 : decode code 992 = .ok (.iconst 0, 1) := by decide +kernel
set_option maxRecDepth 100000 in
theorem jd_993 : decode code 993 = .ok (.ireturn, 1) := by decide +kernel
set_option maxRecDepth 100000 in
theorem jd_994 : decode code 994 = .ok (.aload_n 1, 1) := by decide +kernel
set_option maxRecDepth 100000 in
theorem jd_995 : decode code 995 = .ok (.aload_n 0, 1) := by decide +kernel
set_option maxRecDepth 100000 in
theorem jd_996 : decode code 996 = .ok (.iload_n 3, 1) := by decide +kernel
set_option maxRecDepth 100000 in
theorem jd_997 : decode code 997 = .ok (.iconst 1, 1) := by decide +kernel
set_option maxRecDepth 100000 in
theorem jd_998 : decode code 998 = .ok (.iadd, 1) := by decide +kernel
set_option maxRecDepth 100000 in
theorem jd_999 : decode code 999 = .ok (.iaload, 1) := by decide +kernel
set_option maxRecDepth 100000 in
theorem jd_1000 : decode code 1000 = .ok (.aload_n 0, 1) := by decide +kernel
set_option maxRecDepth 100000 in
theorem jd_1001 : decode code 1001 = .ok (.iload_n 3, 1) := by decide +kernel
set_option maxRecDepth 100000 in
theorem jd_1002 : decode code 1002 = .ok (.iconst 2, 1) := by decide +kernel
set_option maxRecDepth 100000 in
theorem jd_1003 : decode code 1003 = .ok (.iadd, 1) := by decide +kernel
set_option maxRecDepth 100000 in
theorem jd_1004 : decode code 1004 = .ok (.iaload, 1) := by decide +kernel
set_option maxRecDepth 100000 in
theorem jd_1005 : decode code 1005 = .ok (.aload_n 0, 1) := by decide +kernel
set_option maxRecDepth 100000 in
theorem jd_1006 : decode code 1006 = .ok (.iload_n 3, 1) := by decide +kernel
set_option maxRecDepth 100000 in
theorem jd_1007 : decode code 1007 = .ok (.iconst 3, 1) := by decide +kernel
set_option maxRecDepth 100000 in
theorem jd_1008 : decode code 1008 = .ok (.iadd, 1) := by decide +kernel
set_option maxRecDepth 100000 in
theorem jd_1009 : decode code 1009 = .ok (.iaload, 1) := by decide +kernel
set_option maxRecDepth 100000 in
theorem jd_1010 : decode code 1010 = .ok (.invokevirtual 132, 3) := by decide +kernel
set_option maxRecDepth 100000 in
theorem jd_1013 : decode code 1013 = .ok (.aload_n 2, 1) := by decide +kernel
set_option maxRecDepth 100000 in
theorem jd_1014 : decode code 1014 = .ok (.aload_n 0, 1) := by decide +kernel
set_option maxRecDepth 100000 in
theorem jd_1015 : decode code 1015 = .ok (.iload_n 3, 1) := by decide +kernel
set_option maxRecDepth 100000 in
theorem jd_1016 : decode code 1016 = .ok (.iconst 1, 1) := by decide +kernel
set_option maxRecDepth 100000 in
theorem jd_1017 : decode code 1017 = .ok (.iadd, 1) := by decide +kernel
set_option maxRecDepth 100000 in
theorem jd_1018 : decode code 1018 = .ok (.iaload, 1) := by decide +kernel
set_option maxRecDepth 100000 in
theorem jd_1019 : decode code 1019 = .ok (.aload_n 0, 1) := by decide +kernel
set_option maxRecDepth 100000 in
theorem jd_1020 : decode code 1020 = .ok (.iload_n 3, 1) := by decide +kernel
set_option maxRecDepth 100000 in
theorem jd_1021 : decode code 1021 = .ok (.iconst 2, 1) := by decide +kernel
set_option maxRecDepth 100000 in
theorem jd_1022 : decode code 1022 = .ok (.iadd, 1) := by decide +kernel
set_option maxRecDepth 100000 in
theorem jd_1023 : decode code 1023 = .ok (.iaload, 1) := by decide +kernel
set_option maxRecDepth 100000 in
theorem jd_1024 : decode code 1024 = .ok (.aload_n 0, 1) := by decide +kernel
set_option maxRecDepth 100000 in
theorem jd_1025 : decode code 1025 = .ok (.iload_n 3, 1) := by decide +kernel
set_option maxRecDepth 100000 in
theorem jd_1026 : decode code 1026 = .ok (.iconst 3, 1) := by decide +kernel
set_option maxRecDepth 100000 in
theorem jd_1027 : decode code 1027 = .ok (.iadd, 1) := by decide +kernel
set_option maxRecDepth 100000 in
theorem jd_1028 : decode code 1028 = .ok (.iaload, 1) := by decide +kernel
set_option maxRecDepth 100000 in
theorem jd_1029 : decode code 1029 = .ok (.invokevirtual 135, 3) := by decide +kernel
set_option maxRecDepth 100000 in
theorem jd_1032 : decode code 1032 = .ok (.if_icmp .eq 321, 3) := by decide +kernel
set_option maxRecDepth 100000 in
theorem jd_1035 : decode code 1035 = .ok (.iconst 0, 1) := by decide +kernel
set_option maxRecDepth 100000 in
theorem jd_1036 : decode code 1036 = .ok (.ireturn, 1) := by decide +kernel
set_option maxRecDepth 100000 in
theorem jd_1037 : decode code 1037 = .ok (.aload_n 1, 1) := by decide +kernel
set_option maxRecDepth 100000 in
theorem jd_1038 : decode code 1038 = .ok (.aload_n 0, 1) := by decide +kernel
set_option maxRecDepth 100000 in
theorem jd_1039 : decode code 1039 = .ok (.iload_n 3, 1) := by decide +kernel
set_option maxRecDepth 100000 in
theorem jd_1040 : decode code 1040 = .ok (.iconst 1, 1) := by decide +kernel
set_option maxRecDepth 100000 in
theorem jd_1041 : decode code 1041 = .ok (.iadd, 1) := by decide +kernel
set_option maxRecDepth 100000 in
theorem jd_1042 : decode code 1042 = .ok (.iaload, 1) := by decide +kernel
set_option maxRecDepth 100000 in
theorem jd_1043 : decode code 1043 = .ok (.aload_n 0, 1) := by decide +kernel
set_option maxRecDepth 100000 in
theorem jd_1044 : decode code 1044 = .ok (.iload_n 3, 1) := by decide +kernel
set_option maxRecDepth 100000 in
theorem jd_1045 : decode code 1045 = .ok (.iconst 2, 1) := by decide +kernel
set_option maxRecDepth 100000 in
theorem jd_1046 : decode code 1046 = .ok (.iadd, 1) := by decide +kernel
set_option maxRecDepth 100000 in
theorem jd_1047 : decode code 1047 = .ok (.iaload, 1) := by decide +kernel
set_option maxRecDepth 100000 in
theorem jd_1048 : decode code 1048 = .ok (.invokevirtual 136, 3) := by decide +kernel
set_option maxRecDepth 100000 in
theorem jd_1051 : decode code 1051 = .ok (.aload_n 2, 1) := by decide +kernel
set_option maxRecDepth 100000 in
theorem jd_1052 : decode code 1052 = .ok (.aload_n 0, 1) := by decide +kernel
set_option maxRecDepth 100000 in
theorem jd_1053 : decode code 1053 = .ok (.iload_n 3, 1) := by decide +kernel
set_option maxRecDepth 100000 in
theorem jd_1054 : decode code 1054 = .ok (.iconst 1, 1) := by decide +kernel
set_option maxRecDepth 100000 in
theorem jd_1055 : decode code 1055 = .ok (.iadd, 1) := by decide +kernel
set_option maxRecDepth 100000 in
theorem jd_1056 : decode code 1056 = .ok (.iaload, 1) := by decide +kernel
set_option maxRecDepth 100000 in
theorem jd_1057 : decode code 1057 = .ok (.aload_n 0, 1) := by decide +kernel
set_option maxRecDepth 100000 in
theorem jd_1058 : decode code 1058 = .ok (.iload_n 3, 1) := by decide +kernel
set_option maxRecDepth 100000 in
theorem jd_1059 : decode code 1059 = .ok (.iconst 2, 1) := by decide +kernel
set_option maxRecDepth 100000 in
theorem jd_1060 : decode code 1060 = .ok (.iadd, 1) := by decide +kernel
set_option maxRecDepth 100000 in
theorem jd_1061 : decode code 1061 = .ok (.iaload, 1) := by decide +kernel
set_option maxRecDepth 100000 in
theorem jd_1062 : decode code 1062 = .ok (.invokevirtual 139, 3) := by decide +kernel
set_option maxRecDepth 100000 in
theorem jd_1065 : decode code 1065 = .ok (.if_icmp .eq 288, 3) := by decide +kernel
set_option maxRecDepth 100000 in
theorem jd_1068 : decode code 1068 = .ok (.iconst 0, 1) := by decide +kernel
set_option maxRecDepth 100000 in
theorem jd_1069 : decode code 1069 = .ok (.ireturn, 1) := by decide +kernel
set_option maxRecDepth 100000 in
theorem jd_1070 : decode code 1070 = .ok (.aload_n 1, 1) := by decide +kernel
set_option maxRecDepth 100000 in
theorem jd_1071 : decode code 1071 = .ok (.aload_n 0, 1) := by decide +kernel
set_option maxRecDepth 100000 in
theorem jd_1072 : decode code 1072 = .ok (.iload_n 3, 1) := by decide +kernel
set_option maxRecDepth 100000 in
theorem jd_1073 : decode code 1073 = .ok (.iconst 1, 1) := by decide +kernel
set_option maxRecDepth 100000 in
theorem jd_1074 : decode code 1074 = .ok (.iadd, 1) := by decide +kernel
set_option maxRecDepth 100000 in
theorem jd_1075 : decode code 1075 = .ok (.iaload, 1) := by decide +kernel
set_option maxRecDepth 100000 in
theorem jd_1076 : decode code 1076 = .ok (.invokevirtual 140, 3) := by decide +kernel
set_option maxRecDepth 100000 in
theorem jd_1079 : decode code 1079 = .ok (.aload_n 2, 1) := by decide +kernel
set_option maxRecDepth 100000 in
theorem jd_1080 : decode code 1080 = .ok (.aload_n 0, 1) := by decide +kernel
set_option maxRecDepth 100000 in
theorem jd_1081 : decode code 1081 = .ok (.iload_n 3, 1) := by decide +kernel
set_option maxRecDepth 100000 in
theorem jd_1082 : decode code 1082 = .ok (.iconst 1, 1) := by decide +kernel
set_option maxRecDepth 100000 in
theorem jd_1083 : decode code 1083 = .ok (.iadd, 1) := by decide +kernel
set_option maxRecDepth 100000 in
theorem jd_1084 : decode code 1084 = .ok (.iaload, 1) := by decide +kernel
set_option maxRecDepth 100000 in
theorem jd_1085 : decode code 1085 = .ok (.invokevirtual 143, 3) := by decide +kernel
set_option maxRecDepth 100000 in
theorem jd_1088 : decode code 1088 = .ok (.if_icmp .eq 265, 3) := by decide +kernel
set_option maxRecDepth 100000 in
theorem jd_1091 : decode code 1091 = .ok (.iconst 0, 1) := by decide +kernel
set_option maxRecDepth 100000 in
theorem jd_1092 : decode code 1092 = .ok (.ireturn, 1) := by decide +kernel
set_option maxRecDepth 100000 in
theorem jd_1093 : decode code 1093 = .ok (.aload_n 1, 1) := by decide +kernel
set_option maxRecDepth 100000 in
theorem jd_1094 : decode code 1094 = .ok (.aload_n 0, 1) := by decide +kernel
set_option maxRecDepth 100000 in
theorem jd_1095 : decode code 1095 = .ok (.iload_n 3, 1) := by decide +kernel
set_option maxRecDepth 100000 in
theorem jd_1096 : decode code 1096 = .ok (.iconst 1, 1) := by decide +kernel
set_option maxRecDepth 100000 in
theorem jd_1097 : decode code 1097 = .ok (.iadd, 1) := by decide +kernel
set_option maxRecDepth 100000 in
theorem jd_1098 : decode code 1098 = .ok (.iaload, 1) := by decide +kernel
set_option maxRecDepth 100000 in
theorem jd_1099 : decode code 1099 = .ok (.aload_n 0, 1) := by decide +kernel
set_option maxRecDepth 100000 in
theorem jd_1100 : decode code 1100 = .ok (.iload_n 3, 1) := by decide +kernel
set_option maxRecDepth 100000 in
theorem jd_1101 : decode code 1101 = .ok (.iconst 2, 1) := by decide +kernel
set_option maxRecDepth 100000 in
theorem jd_1102 : decode code 1102 = .ok (.iadd, 1) := by decide +kernel
set_option maxRecDepth 100000 in
theorem jd_1103 : decode code 1103 = .ok (.iaload, 1) := by decide +kernel
set_option maxRecDepth 100000 in
theorem jd_1104 : decode code 1104 = .ok (.aload_n 0, 1) := by decide +kernel
set_option maxRecDepth 100000 in
theorem jd_1105 : decode code 1105 = .ok (.iload_n 3, 1) := by decide +kernel
set_option maxRecDepth 100000 in
theorem jd_1106 : decode code 1106 = .ok (.iconst 3, 1) := by decide +kernel
set_option maxRecDepth 100000 in
theorem jd_1107 : decode code 1107 = .ok (.iadd, 1) := by decide +kernel
set_option maxRecDepth 100000 in
theorem jd_1108 : decode code 1108 = .ok (.iaload, 1) := by decide +kernel
set_option maxRecDepth 100000 in
theorem jd_1109 : decode code 1109 = .ok (.invokevirtual 144, 3) := by decide +kernel
set_option maxRecDepth 100000 in
theorem jd_1112 : decode code 1112 = .ok (.aload_n 2, 1) := by decide +kernel
set_option maxRecDepth 100000 in
theorem jd_1113 : decode code 1113 = .ok (.aload_n 0, 1) := by decide +kernel
set_option maxRecDepth 100000 in
theorem jd_1114 : decode code 1114 = .ok (.iload_n 3, 1) := by decide +kernel
set_option maxRecDepth 100000 in
theorem jd_1115 : decode code 1115 = .ok (.iconst 1, 1) := by decide +kernel
set_option maxRecDepth 100000 in
theorem jd_1116 : decode code 1116 = .ok (.iadd, 1) := by decide +kernel
set_option maxRecDepth 100000 in
theorem jd_1117 : decode code 1117 = .ok (.iaload, 1) := by decide +kernel
set_option maxRecDepth 100000 in
theorem jd_1118 : decode code 1118 = .ok (.aload_n 0, 1) := by decide +kernel
set_option maxRecDepth 100000 in
theorem jd_1119 : decode code 1119 = .ok (.iload_n 3, 1) := by decide +kernel
set_option maxRecDepth 100000 in
theorem jd_1120 : decode code 1120 = .ok (.iconst 2, 1) := by decide +kernel
set_option maxRecDepth 100000 in
theorem jd_1121 : decode code 1121 = .ok (.iadd, 1) := by decide +kernel
set_option maxRecDepth 100000 in
theorem jd_1122 : decode code 1122 = .ok (.iaload, 1) := by decide +kernel
set_option maxRecDepth 100000 in
theorem jd_1123 : decode code 1123 = .ok (.aload_n 0, 1) := by decide +kernel
set_option maxRecDepth 100000 in
theorem jd_1124 : decode code 1124 = .ok (.iload_n 3, 1) := by decide +kernel
set_option maxRecDepth 100000 in
theorem jd_1125 : decode code 1125 = .ok (.iconst 3, 1) := by decide +kernel
set_option maxRecDepth 100000 in
theorem jd_1126 : decode code 1126 = .ok (.iadd, 1) := by decide +kernel
set_option maxRecDepth 100000 in
theorem jd_1127 : decode code 1127 = .ok (.iaload, 1) := by decide +kernel
set_option maxRecDepth 100000 in
theorem jd_1128 : decode code 1128 = .ok (.invokevirtual 147, 3) := by decide +kernel
set_option maxRecDepth 100000 in
theorem jd_1131 : decode code 1131 = .ok (.if_icmp .eq 222, 3) := by decide +kernel
set_option maxRecDepth 100000 in
theorem jd_1134 : decode code 1134 = .ok (.iconst 0, 1) := by decide +kernel
set_option maxRecDepth 100000 in
theorem jd_1135 : decode code 1135 = .ok (.ireturn, 1) := by decide +kernel
set_option maxRecDepth 100000 in
theorem jd_1136 : decode code 1136 = .ok (.aload_n 1, 1) := by decide +kernel
set_option maxRecDepth 100000 in
theorem jd_1137 : decode code 1137 = .ok (.aload_n 0, 1) := by decide +kernel
set_option maxRecDepth 100000 in
theorem jd_1138 : decode code 1138 = .ok (.iload_n 3, 1) := by decide +kernel
set_option maxRecDepth 100000 in
theorem jd_1139 : decode code 1139 = .ok (.iconst 1, 1) := by decide +kernel
set_option maxRecDepth 100000 in
theorem jd_1140 : decode code 1140 = .ok (.iadd, 1) := by decide +kernel
set_option maxRecDepth 100000 in
theorem jd_1141 : decode code 1141 = .ok (.iaload, 1) := by decide +kernel
set_option maxRecDepth 100000 in
theorem jd_1142 : decode code 1142 = .ok (.invokevirtual 148, 3) := by decide +kernel
set_option maxRecDepth 100000 in
theorem jd_1145 : decode code 1145 = .ok (.aload_n 2, 1) := by decide +kernel
set_option maxRecDepth 100000 in
theorem jd_1146 : decode code 1146 = .ok (.aload_n 0, 1) := by decide +kernel
set_option maxRecDepth 100000 in
theorem jd_1147 : decode code 1147 = .ok (.iload_n 3, 1) := by decide +kernel
set_option maxRecDepth 100000 in
theorem jd_1148 : decode code 1148 = .ok (.iconst 1, 1) := by decide +kernel
set_option maxRecDepth 100000 in
theorem jd_1149 : decode code 1149 = .ok (.iadd, 1) := by decide +kernel
set_option maxRecDepth 100000 in
theorem jd_1150 : decode code 1150 = .ok (.iaload, 1) := by decide +kernel
set_option maxRecDepth 100000 in
theorem jd_1151 : decode code 1151 = .ok (.invokevirtual 152, 3) := by decide +kernel
set_option maxRecDepth 100000 in
theorem jd_1154 : decode code 1154 = .ok (.if_icmp .eq 199, 3) := by decide +kernel
set_option maxRecDepth 100000 in
theorem jd_1157 : decode code 1157 = .ok (.iconst 0, 1) := by decide +kernel
set_option maxRecDepth 100000 in
theorem jd_1158 : decode code 1158 = .ok (.ireturn, 1) := by decide +kernel
set_option maxRecDepth 100000 in
theorem jd_1159 : decode code 1159 = .ok (.aload_n 1, 1) := by decide +kernel
set_option maxRecDepth 100000 in
theorem jd_1160 : decode code 1160 = .ok (.aload_n 0, 1) := by decide +kernel
set_option maxRecDepth 100000 in
theorem jd_1161 : decode code 1161 = .ok (.iload_n 3, 1) := by decide +kernel
set_option maxRecDepth 100000 in
theorem jd_1162 : decode code 1162 = .ok (.iconst 1, 1) := by decide +kernel
set_option maxRecDepth 100000 in
theorem jd_1163 : decode code 1163 = .ok (.iadd, 1) := by decide +kernel
set_option maxRecDepth 100000 in
theorem jd_1164 : decode code 1164 = .ok (.iaload, 1) := by decide +kernel
set_option maxRecDepth 100000 in
theorem jd_1165 : decode code 1165 = .ok (.invokevirtual 153, 3) := by decide +kernel
set_option maxRecDepth 100000 in
theorem jd_1168 : decode code 1168 = .ok (.aload_n 2, 1) := by decide +kernel
set_option maxRecDepth 100000 in
theorem jd_1169 : decode code 1169 = .ok (.aload_n 0, 1) := by decide +kernel
set_option maxRecDepth 100000 in
theorem jd_1170 : decode code 1170 = .ok (.iload_n 3, 1) := by decide +kernel
set_option maxRecDepth 100000 in
theorem jd_1171 : decode code 1171 = .ok (.iconst 1, 1) := by decide +kernel
set_option maxRecDepth 100000 in
theorem jd_1172 : decode code 1172 = .ok (.iadd, 1) := by decide +kernel
set_option maxRecDepth 100000 in
theorem jd_1173 : decode code 1173 = .ok (.iaload, 1) := by decide +kernel
set_option maxRecDepth 100000 in
theorem jd_1174 : decode code 1174 = .ok (.invokevirtual 156, 3) := by decide +kernel
set_option maxRecDepth 100000 in
theorem jd_1177 : decode code 1177 = .ok (.if_icmp .eq 176, 3) := by decide +kernel
set_option maxRecDepth 100000 in
theorem jd_1180 : decode code 1180 = .ok (.iconst 0, 1) := by decide +kernel
set_option maxRecDepth 100000 in
theorem jd_1181 : decode code 1181 = .ok (.ireturn, 1) := by decide +kernel
set_option maxRecDepth 100000 in
theorem jd_1182 : decode code 1182 = .ok (.aload_n 1, 1) := by decide +kernel
set_option maxRecDepth 100000 in
theorem jd_1183 : decode code 1183 = .ok (.aload_n 0, 1) := by decide +kernel
set_option maxRecDepth 100000 in
theorem jd_1184 : decode code 1184 = .ok (.iload_n 3, 1) := by decide +kernel
set_option maxRecDepth 100000 in
theorem jd_1185 : decode code 1185 = .ok (.iconst 1, 1) := by decide +kernel
set_option maxRecDepth 100000 in
theorem jd_1186 : decode code 1186 = .ok (.iadd, 1) := by decide +kernel
set_option maxRecDepth 100000 in
theorem jd_1187 : decode code 1187 = .ok (.iaload, 1) := by decide +kernel
set_option maxRecDepth 100000 in
theorem jd_1188 : decode code 1188 = .ok (.aload_n 0, 1) := by decide +kernel
set_option maxRecDepth 100000 in
theorem jd_1189 : decode code 1189 = .ok (.iload_n 3, 1) := by decide +kernel
set_option maxRecDepth 100000 in
theorem jd_1190 : decode code 1190 = .ok (.iconst 2, 1) := by decide +kernel
set_option maxRecDepth 100000 in
theorem jd_1191 : decode code 1191 = .ok (.iadd, 1) := by decide +kernel
set_option maxRecDepth 100000 in
theorem jd_1192 : decode code 1192 = .ok (.iaload, 1) := by decide +kernel
set_option maxRecDepth 100000 in
theorem jd_1193 : decode code 1193 = .ok (.invokevirtual 157, 3) := by decide +kernel
set_option maxRecDepth 100000 in
theorem jd_1196 : decode code 1196 = .ok (.aload_n 2, 1) := by decide +kernel
set_option maxRecDepth 100000 in
theorem jd_1197 : decode code 1197 = .ok (.aload_n 0, 1) := by decide +kernel
set_option maxRecDepth 100000 in
theorem jd_1198 : decode code 1198 = .ok (.iload_n 3, 1) := by decide +kernel
set_option maxRecDepth 100000 in
theorem jd_1199 : decode code 1199 = .ok (.iconst 1, 1) := by decide +kernel
set_option maxRecDepth 100000 in
theorem jd_1200 : decode code 1200 = .ok (.iadd, 1) := by decide +kernel
set_option maxRecDepth 100000 in
theorem jd_1201 : decode code 1201 = .ok (.iaload, 1) := by decide +kernel
set_option maxRecDepth 100000 in
theorem jd_1202 : decode code 1202 = .ok (.aload_n 0, 1) := by decide +kernel
set_option maxRecDepth 100000 in
theorem jd_1203 : decode code 1203 = .ok (.iload_n 3, 1) := by decide +kernel
set_option maxRecDepth 100000 in
theorem jd_1204 : decode code 1204 = .ok (.iconst 2, 1) := by decide +kernel
set_option maxRecDepth 100000 in
theorem jd_1205 : decode code 1205 = .ok (.iadd, 1) := by decide +kernel
set_option maxRecDepth 100000 in
theorem jd_1206 : decode code 1206 = .ok (.iaload, 1) := by decide +kernel
set_option maxRecDepth 100000 in
theorem jd_1207 : decode code 1207 = .ok (.invokevirtual 160, 3) := by decide +kernel
set_option maxRecDepth 100000 in
theorem jd_1210 : decode code 1210 = .ok (.if_icmp .eq 143, 3) := by decide +kernel
set_option maxRecDepth 100000 in
theorem jd_1213 : decode code 1213 = .ok (.iconst 0, 1) := by decide +kernel
set_option maxRecDepth 100000 in
theorem jd_1214 : decode code 1214 = .ok (.ireturn, 1) := by decide +kernel
set_option maxRecDepth 100000 in
theorem jd_1215 : decode code 1215 = .ok (.aload_n 1, 1) := by decide +kernel
set_option maxRecDepth 100000 in
theorem jd_1216 : decode code 1216 = .ok (.aload_n 0, 1) := by decide +kernel
set_option maxRecDepth 100000 in
theorem jd_1217 : decode code 1217 = .ok (.iload_n 3, 1) := by decide +kernel
set_option maxRecDepth 100000 in
theorem jd_1218 : decode code 1218 = .ok (.iconst 1, 1) := by decide +kernel
set_option maxRecDepth 100000 in
theorem jd_1219 : decode code 1219 = .ok (.iadd, 1) := by decide +kernel
set_option maxRecDepth 100000 in
theorem jd_1220 : decode code 1220 = .ok (.iaload, 1) := by decide +kernel
set_option maxRecDepth 100000 in
theorem jd_1221 : decode code 1221 = .ok (.aload_n 0, 1) := by decide +kernel
set_option maxRecDepth 100000 in
theorem jd_1222 : decode code 1222 = .ok (.iload_n 3, 1) := by decide +kernel
set_option maxRecDepth 100000 in
theorem jd_1223 : decode code 1223 = .ok (.iconst 2, 1) := by decide +kernel
set_option maxRecDepth 100000 in
theorem jd_1224 : decode code 1224 = .ok (.iadd, 1) := by decide +kernel
set_option maxRecDepth 100000 in
theorem jd_1225 : decode code 1225 = .ok (.iaload, 1) := by decide +kernel
set_option maxRecDepth 100000 in
theorem jd_1226 : decode code 1226 = .ok (.aload_n 0, 1) := by decide +kernel
set_option maxRecDepth 100000 in
theorem jd_1227 : decode code 1227 = .ok (.iload_n 3, 1) := by decide +kernel
set_option maxRecDepth 100000 in
theorem jd_1228 : decode code 1228 = .ok (.iconst 3, 1) := by decide +kernel
set_option maxRecDepth 100000 in
theorem jd_1229 : decode code 1229 = .ok (.iadd, 1) := by decide +kernel
set_option maxRecDepth 100000 in
theorem jd_1230 : decode code 1230 = .ok (.iaload, 1) := by decide +kernel
set_option maxRecDepth 100000 in
theorem jd_1231 : decode code 1231 = .ok (.ifCond .eq 7, 3) := by decide +kernel
set_option maxRecDepth 100000 in
theorem jd_1234 : decode code 1234 = .ok (.iconst 1, 1) := by decide +kernel
set_option maxRecDepth 100000 in
theorem jd_1235 : decode code 1235 = .ok (.goto 4, 3) := by decide +kernel
set_option maxRecDepth 100000 in
theorem jd_1238 : decode code 1238 = .ok (.iconst 0, 1) := by decide +kernel
set_option maxRecDepth 100000 in
theorem jd_1239 : decode code 1239 = .ok (.aload_n 0, 1) := by decide +kernel
set_option maxRecDepth 100000 in
theorem jd_1240 : decode code 1240 = .ok (.iload_n 3, 1) := by decide +kernel
set_option maxRecDepth 100000 in
theorem jd_1241 : decode code 1241 = .ok (.iconst 4, 1) := by decide +kernel
set_option maxRecDepth 100000 in
theorem jd_1242 : decode code 1242 = .ok (.iadd, 1) := by decide +kernel
set_option maxRecDepth 100000 in
theorem jd_1243 : decode code 1243 = .ok (.iaload, 1) := by decide +kernel
set_option maxRecDepth 100000 in
theorem jd_1244 : decode code 1244 = .ok (.invokevirtual 161, 3) := by decide +kernel
set_option maxRecDepth 100000 in
theorem jd_1247 : decode code 1247 = .ok (.aload_n 2, 1) := by decide +kernel
set_option maxRecDepth 100000 in
theorem jd_1248 : decode code 1248 = .ok (.aload_n 0, 1) := by decide +kernel
set_option maxRecDepth 100000 in
theorem jd_1249 : decode code 1249 = .ok (.iload_n 3, 1) := by decide +kernel
set_option maxRecDepth 100000 in
theorem jd_1250 : decode code 1250 = .ok (.iconst 1, 1) := by decide +kernel
set_option maxRecDepth 100000 in
theorem jd_1251 : decode code 1251 = .ok (.iadd, 1) := by decide +kernel
set_option maxRecDepth 100000 in
theorem jd_1252 : decode code 1252 = .ok (.iaload, 1) := by decide +kernel
set_option maxRecDepth 100000 in
theorem jd_1253 : decode code 1253 = .ok (.aload_n 0, 1) := by decide +kernel
set_option maxRecDepth 100000 in
theorem jd_1254 : decode code 1254 = .ok (.iload_n 3, 1) := by decide +kernel
set_option maxRecDepth 100000 in
theorem jd_1255 : decode code 1255 = .ok (.iconst 2, 1) := by decide +kernel
set_option maxRecDepth 100000 in
theorem jd_1256 : decode code 1256 = .ok (.iadd, 1) := by decide +kernel
set_option maxRecDepth 100000 in
theorem jd_1257 : decode code 1257 = .ok (.iaload, 1) := by decide +kernel
set_option maxRecDepth 100000 in
theorem jd_1258 : decode code 1258 = .ok (.aload_n 0, 1) := by decide +kernel
set_option maxRecDepth 100000 in
theorem jd_1259 : decode code 1259 = .ok (.iload_n 3, 1) := by decide +kernel
set_option maxRecDepth 100000 in
theorem jd_1260 : decode code 1260 = .ok (.iconst 3, 1) := by decide +kernel
set_option maxRecDepth 100000 in
theorem jd_1261 : decode code 1261 = .ok (.iadd, 1) := by decide +kernel
set_option maxRecDepth 100000 in
theorem jd_1262 : decode code 1262 = .ok (.iaload, 1) := by decide +kernel
set_option maxRecDepth 100000 in
theorem jd_1263 : decode code 1263 = .ok (.ifCond .eq 7, 3) := by decide +kernel
set_option maxRecDepth 100000 in
theorem jd_1266 : decode code 1266 = .ok (.iconst 1, 1) := by decide +kernel
set_option maxRecDepth 100000 in
theorem jd_1267 : decode code 1267 = .ok (.goto 4, 3) := by decide +kernel
set_option maxRecDepth 100000 in
theorem jd_1270 : decode code 1270 = .ok (.iconst 0, 1) := by decide +kernel
set_option maxRecDepth 100000 in
theorem jd_1271 : decode code 1271 = .ok (.aload_n 0, 1) := by decide +kernel
set_option maxRecDepth 100000 in
theorem jd_1272 : decode code 1272 = .ok (.iload_n 3, 1) := by decide +kernel
set_option maxRecDepth 100000 in
theorem jd_1273 : decode code 1273 = .ok (.iconst 4, 1) := by decide +kernel
set_option maxRecDepth 100000 in
theorem jd_1274 : decode code 1274 = .ok (.iadd, 1) := by decide +kernel
set_option maxRecDepth 100000 in
theorem jd_1275 : decode code 1275 = .ok (.iaload, 1) := by decide +kernel
set_option maxRecDepth 100000 in
theorem jd_1276 : decode code 1276 = .ok (.invokevirtual 165, 3) := by decide +kernel
set_option maxRecDepth 100000 in
theorem jd_1279 : decode code 1279 = .ok (.if_icmp .eq 74, 3) := by decide +kernel
set_option maxRecDepth 100000 in
theorem jd_1282 : decode code 1282 = .ok (.iconst 0, 1) := by decide +kernel
set_option maxRecDepth 100000 in
theorem jd_1283 : decode code 1283 = .ok (.ireturn, 1) := by decide +kernel
set_option maxRecDepth 100000 in
theorem jd_1284 : decode code 1284 = .ok (.aload_n 1, 1) := by decide +kernel
set_option maxRecDepth 100000 in
theorem jd_1285 : decode code 1285 = .ok (.aload_n 0, 1) := by decide +kernel
set_option maxRecDepth 100000 in
theorem jd_1286 : decode code 1286 = .ok (.iload_n 3, 1) := by decide +kernel
set_option maxRecDepth 100000 in
theorem jd_1287 : decode code 1287 = .ok (.iconst 1, 1) := by decide +kernel
set_option maxRecDepth 100000 in
theorem jd_1288 : decode code 1288 = .ok (.iadd, 1) := by decide +kernel
set_option maxRecDepth 100000 in
theorem jd_1289 : decode code 1289 = .ok (.iaload, 1) := by decide +kernel
set_option maxRecDepth 100000 in
theorem jd_1290 : decode code 1290 = .ok (.invokevirtual 166, 3) := by decide +kernel
set_option maxRecDepth 100000 in
theorem jd_1293 : decode code 1293 = .ok (.aload_n 2, 1) := by decide +kernel
set_option maxRecDepth 100000 in
theorem jd_1294 : decode code 1294 = .ok (.aload_n 0, 1) := by decide +kernel
set_option maxRecDepth 100000 in
theorem jd_1295 : decode code 1295 = .ok (.iload_n 3, 1) := by decide +kernel
set_option maxRecDepth 100000 in
theorem jd_1296 : decode code 1296 = .ok (.iconst 1, 1) := by decide +kernel
set_option maxRecDepth 100000 in
theorem jd_1297 : decode code 1297 = .ok (.iadd, 1) := by decide +kernel
set_option maxRecDepth 100000 in
theorem jd_1298 : decode code 1298 = .ok (.iaload, 1) := by decide +kernel
set_option maxRecDepth 100000 in
theorem jd_1299 : decode code 1299 = .ok (.invokevirtual 169, 3) := by decide +kernel
set_option maxRecDepth 100000 in
theorem jd_1302 : decode code 1302 = .ok (.if_icmp .eq 51, 3) := by decide +kernel
set_option maxRecDepth 100000 in
theorem jd_1305 : decode code 1305 = .ok (.iconst 0, 1) := by decide +kernel
set_option maxRecDepth 100000 in
theorem jd_1306 : decode code 1306 = .ok (.ireturn, 1) := by decide +kernel
set_option maxRecDepth 100000 in
theorem jd_1307 : decode code 1307 = .ok (.aload_n 1, 1) := by decide +kernel
set_option maxRecDepth 100000 in
theorem jd_1308 : decode code 1308 = .ok (.aload_n 0, 1) := by decide +kernel
set_option maxRecDepth 100000 in
theorem jd_1309 : decode code 1309 = .ok (.iload_n 3, 1) := by decide +kernel
set_option maxRecDepth 100000 in
theorem jd_1310 : decode code 1310 = .ok (.iconst 1, 1) := by decide +kernel
set_option maxRecDepth 100000 in
theorem jd_1311 : decode code 1311 = .ok (.iadd, 1) := by decide +kernel
set_option maxRecDepth 100000 in
theorem jd_1312 : decode code 1312 = .ok (.iaload, 1) := by decide +kernel
set_option maxRecDepth 100000 in
theorem jd_1313 : decode code 1313 = .ok (.invokevirtual 170, 3) := by decide +kernel
set_option maxRecDepth 100000 in
theorem jd_1316 : decode code 1316 = .ok (.aload_n 2, 1) := by decide +kernel
set_option maxRecDepth 100000 in
theorem jd_1317 : decode code 1317 = .ok (.aload_n 0, 1) := by decide +kernel
set_option maxRecDepth 100000 in
theorem jd_1318 : decode code 1318 = .ok (.iload_n 3, 1) := by decide +kernel
set_option maxRecDepth 100000 in
theorem jd_1319 : decode code 1319 = .ok (.iconst 1, 1) := by decide +kernel
set_option maxRecDepth 100000 in
theorem jd_1320 : decode code 1320 = .ok (.iadd, 1) := by decide +kernel
set_option maxRecDepth 100000 in
theorem jd_1321 : decode code 1321 = .ok (.iaload, 1) := by decide +kernel
set_option maxRecDepth 100000 in
theorem jd_1322 : decode code 1322 = .ok (.invokevirtual 173, 3) := by decide +kernel
set_option maxRecDepth 100000 in
theorem jd_1325 : decode code 1325 = .ok (.if_icmp .eq 28, 3) := by decide +kernel
set_option maxRecDepth 100000 in
theorem jd_1328 : decode code 1328 = .ok (.iconst 0, 1) := by decide +kernel
set_option maxRecDepth 100000 in
theorem jd_1329 : decode code 1329 = .ok (.ireturn, 1) := by decide +kernel
set_option maxRecDepth 100000 in
theorem jd_1330 : decode code 1330 = .ok (.aload_n 1, 1) := by decide +kernel
set_option maxRecDepth 100000 in
theorem jd_1331 : decode code 1331 = .ok (.aload_n 0, 1) := by decide +kernel
set_option maxRecDepth 100000 in
theorem jd_1332 : decode code 1332 = .ok (.iload_n 3, 1) := by decide +kernel
set_option maxRecDepth 100000 in
theorem jd_1333 : decode code 1333 = .ok (.iconst 1, 1) := by decide +kernel
set_option maxRecDepth 100000 in
theorem jd_1334 : decode code 1334 = .ok (.iadd, 1) := by decide +kernel
set_option maxRecDepth 100000 in
theorem jd_1335 : decode code 1335 = .ok (.iaload, 1) := by decide +kernel
set_option maxRecDepth 100000 in
theorem jd_1336 : decode code 1336 = .ok (.invokevirtual 174, 3) := by decide +kernel
set_option maxRecDepth 100000 in
theorem jd_1339 : decode code 1339 = .ok (.aload_n 2, 1) := by decide +kernel
set_option maxRecDepth 100000 in
theorem jd_1340 : decode code 1340 = .ok (.aload_n 0, 1) := by decide +kernel
set_option maxRecDepth 100000 in
theorem jd_1341 : decode code 1341 = .ok (.iload_n 3, 1) := by decide +kernel
set_option maxRecDepth 100000 in
theorem jd_1342 : decode code 1342 = .ok (.iconst 1, 1) := by decide +kernel
set_option maxRecDepth 100000 in
theorem jd_1343 : decode code 1343 = .ok (.iadd, 1) := by decide +kernel
set_option maxRecDepth 100000 in
theorem jd_1344 : decode code 1344 = .ok (.iaload, 1) := by decide +kernel
set_option maxRecDepth 100000 in
theorem jd_1345 : decode code 1345 = .ok (.invokevirtual 177, 3) := by decide +kernel
set_option maxRecDepth 100000 in
theorem jd_1348 : decode code 1348 = .ok (.if_icmp .eq 5, 3) := by decide +kernel
set_option maxRecDepth 100000 in
theorem jd_1351 : decode code 1351 = .ok (.iconst 0, 1) := by decide +kernel
set_option maxRecDepth 100000 in
theorem jd_1352 : decode code 1352 = .ok (.ireturn, 1) := by decide +kernel
set_option maxRecDepth 100000 in
theorem jd_1353 : decode code 1353 = .ok (.iinc 3 6, 3) := by decide +kernel
set_option maxRecDepth 100000 in
theorem jd_1356 : decode code 1356 = .ok (.goto (-1338), 3) := by decide +kernel
set_option maxRecDepth 100000 in
theorem jd_1359 : decode code 1359 = .ok (.iconst 1, 1) := by decide +kernel
set_option maxRecDepth 100000 in
theorem jd_1360 : decode code 1360 = .ok (.ireturn, 1) := by decide +kernel
theorem pd_span {d : Nat} {hc hm : jx_H} {x y : Int32} (hRel : jz_Rel hc hm) : jx_Ev jm_JV_span (d + 40) 0 0 false 0 [jv_r 10 0, jv_i x, jv_i y] hc (fun r hc' => jx_Ev jm_MD_span (d + 40) 0 0 false 1 [jv_r 11 0, jv_i x, jv_i y] hm (fun r' hm' => r = r' ∧ jz_Rel hc' hm')) := by
  by_cases h0 : y = 0
  · subst h0; exact pd_span_0 hRel
  by_cases h1 : y = 1
  · subst h1; exact pd_span_1 hRel
  by_cases h2 : y = 2
  · subst h2; exact pd_span_2 hRel
  exact pd_span_o h0 h1 h2 hRel
set_option maxHeartbeats 4000000 in
set_option maxRecDepth 100000 in
theorem jlw_c0 {p : Program} {l : Launch} {e : Env} {s : State} {m : MethodId} {below : List Frame} {meth : Method} {c : Code} {b L : Nat} {xs : Nat → Int32} {G : jlw_G} {H : Heap} {locs : List Loc} {lr : Array Slot} {Z : State → Prop} {hc hm : jx_H} {x : Int32} (C : jlw_C p s m meth c b L xs G) (hRel : jz_Rel hc hm) (S : jlw_S s G hc hm H locs) (hl : lv_has lr 4 [(0, .ref b), (1, .ref s.heap.size), (2, .ref (s.heap.size + 128)), (3, .int x)]) (hin : vp_in (x + 1) L ∧ vp_in (x + 2) L ∧ vp_in (x + 3) L ∧ vp_in (x + 4) L ∧ vp_in (x + 5) L) (k : ∀ (hc' hm' : jx_H) (H1 : Heap) (locs1 : List Loc), jz_Rel hc' hm' → jlw_S s G hc' hm' H1 locs1 → W p l e room_1 s m #[Value.ref b] below meth c H1 locs1 600000 7302250 Z (F0 m 1353 lr [])) : W p l e room_1 s m #[Value.ref b] below meth c H locs 600000 7302250 Z (F0 m 204 lr []) := by
  obtain ⟨hx, hb, hr, hml, hown, htl, hX, hbl, hlk, hgv⟩ := id C.1
  have hbA : ¬ jlw_A s b := Nat.not_le.mpr hbl
  have hlr : lr.size = 4 := hl.1
  refine lv_aload_n hx hb jd_204 rfl (lv_at hl 1 rfl) ?_
  refine lv_aload_n hx hb jd_205 rfl (lv_at hl 0 rfl) ?_
  refine lv_iload_n hx hb jd_206 rfl (lv_at hl 3 rfl) ?_
  refine lv_iconst (v := 1) hx hb jd_207 (by decide) ?_
  refine lv_iadd hx hb jd_208 ?_
  refine va_sld hx hb hX hbl hbA S.2.2.1 hin.1 jd_209 ?_
  refine lv_aload_n hx hb jd_210 rfl (lv_at hl 0 rfl) ?_
  refine lv_iload_n hx hb jd_211 rfl (lv_at hl 3 rfl) ?_
  refine lv_iconst (v := 2) hx hb jd_212 (by decide) ?_
  refine lv_iadd hx hb jd_213 ?_
  refine va_sld hx hb hX hbl hbA S.2.2.1 hin.2.1 jd_214 ?_
  refine lv_aload_n hx hb jd_215 rfl (lv_at hl 0 rfl) ?_
  refine lv_iload_n hx hb jd_216 rfl (lv_at hl 3 rfl) ?_
  refine lv_iconst (v := 3) hx hb jd_217 (by decide) ?_
  refine lv_iadd hx hb jd_218 ?_
  refine va_sld hx hb hX hbl hbA S.2.2.1 hin.2.2.1 jd_219 ?_
  refine lv_aload_n hx hb jd_220 rfl (lv_at hl 0 rfl) ?_
  refine lv_iload_n hx hb jd_221 rfl (lv_at hl 3 rfl) ?_
  refine lv_iconst (v := 4) hx hb jd_222 (by decide) ?_
  refine lv_iadd hx hb jd_223 ?_
  refine va_sld hx hb hX hbl hbA S.2.2.1 hin.2.2.2.1 jd_224 ?_
  refine lv_aload_n hx hb jd_225 rfl (lv_at hl 0 rfl) ?_
  refine lv_iload_n hx hb jd_226 rfl (lv_at hl 3 rfl) ?_
  refine lv_iconst (v := 5) hx hb jd_227 (by decide) ?_
  refine lv_iadd hx hb jd_228 ?_
  refine va_sld hx hb hX hbl hbA S.2.2.1 hin.2.2.2.2 jd_229 ?_
  refine jlw_callC (Y' := jm_JV_feed) (As := [(xs (x + 1).toNatClampNeg), (xs (x + 2).toNatClampNeg), (xs (x + 3).toNatClampNeg), (xs (x + 4).toNatClampNeg), (xs (x + 5).toNatClampNeg)]) (rest := []) C hlr jd_230 (jx_pw_in (q := (3, 104)) rfl) jm_JV_feed_f rfl rfl rfl (by first | exact Or.inl rfl | exact Or.inr rfl) rfl (by decide) (Nat.le_of_ble_eq_true rfl) S (pd_feed (d := 0) hRel) (fun r1 h1 H1 locs1 q1 S1 => ?_)
  refine lv_aload_n hx hb jd_233 rfl (lv_at hl 2 rfl) ?_
  refine lv_aload_n hx hb jd_234 rfl (lv_at hl 0 rfl) ?_
  refine lv_iload_n hx hb jd_235 rfl (lv_at hl 3 rfl) ?_
  refine lv_iconst (v := 1) hx hb jd_236 (by decide) ?_
  refine lv_iadd hx hb jd_237 ?_
  refine va_sld hx hb hX hbl hbA S1.2.2.1 hin.1 jd_238 ?_
  refine lv_aload_n hx hb jd_239 rfl (lv_at hl 0 rfl) ?_
  refine lv_iload_n hx hb jd_240 rfl (lv_at hl 3 rfl) ?_
  refine lv_iconst (v := 2) hx hb jd_241 (by decide) ?_
  refine lv_iadd hx hb jd_242 ?_
  refine va_sld hx hb hX hbl hbA S1.2.2.1 hin.2.1 jd_243 ?_
  refine lv_aload_n hx hb jd_244 rfl (lv_at hl 0 rfl) ?_
  refine lv_iload_n hx hb jd_245 rfl (lv_at hl 3 rfl) ?_
  refine lv_iconst (v := 3) hx hb jd_246 (by decide) ?_
  refine lv_iadd hx hb jd_247 ?_
  refine va_sld hx hb hX hbl hbA S1.2.2.1 hin.2.2.1 jd_248 ?_
  refine lv_aload_n hx hb jd_249 rfl (lv_at hl 0 rfl) ?_
  refine lv_iload_n hx hb jd_250 rfl (lv_at hl 3 rfl) ?_
  refine lv_iconst (v := 4) hx hb jd_251 (by decide) ?_
  refine lv_iadd hx hb jd_252 ?_
  refine va_sld hx hb hX hbl hbA S1.2.2.1 hin.2.2.2.1 jd_253 ?_
  refine lv_aload_n hx hb jd_254 rfl (lv_at hl 0 rfl) ?_
  refine lv_iload_n hx hb jd_255 rfl (lv_at hl 3 rfl) ?_
  refine lv_iconst (v := 5) hx hb jd_256 (by decide) ?_
  refine lv_iadd hx hb jd_257 ?_
  refine va_sld hx hb hX hbl hbA S1.2.2.1 hin.2.2.2.2 jd_258 ?_
  refine jlw_callM (Y' := jm_MD_feed) (As := [(xs (x + 1).toNatClampNeg), (xs (x + 2).toNatClampNeg), (xs (x + 3).toNatClampNeg), (xs (x + 4).toNatClampNeg), (xs (x + 5).toNatClampNeg)]) (rest := [.int r1]) C hlr jd_259 (jx_pw_in (q := (10, 67)) rfl) jm_MD_feed_f rfl rfl rfl (by first | exact Or.inl rfl | exact Or.inr rfl) rfl (by decide) (Nat.le_of_ble_eq_true rfl) S1 q1 (fun r2 h2 H2 locs2 q2 S2 => ?_)
  refine lv_icmp_eq (tgt := 1353) hx hb jd_262 (by decide) (fun _ => ?_) (fun z => absurd (Sum.inl.inj (Option.some.inj q2.1)) z)
  exact k _ _ _ _ q2.2 S2
set_option maxHeartbeats 4000000 in
set_option maxRecDepth 100000 in
theorem jlw_c1 {p : Program} {l : Launch} {e : Env} {s : State} {m : MethodId} {below : List Frame} {meth : Method} {c : Code} {b L : Nat} {xs : Nat → Int32} {G : jlw_G} {H : Heap} {locs : List Loc} {lr : Array Slot} {Z : State → Prop} {hc hm : jx_H} {x : Int32} (C : jlw_C p s m meth c b L xs G) (hRel : jz_Rel hc hm) (S : jlw_S s G hc hm H locs) (hl : lv_has lr 4 [(0, .ref b), (1, .ref s.heap.size), (2, .ref (s.heap.size + 128)), (3, .int x)]) (hin : vp_in (x + 1) L ∧ vp_in (x + 2) L ∧ vp_in (x + 3) L ∧ vp_in (x + 4) L ∧ vp_in (x + 5) L) (k : ∀ (hc' hm' : jx_H) (H1 : Heap) (locs1 : List Loc), jz_Rel hc' hm' → jlw_S s G hc' hm' H1 locs1 → W p l e room_1 s m #[Value.ref b] below meth c H1 locs1 600000 7302250 Z (F0 m 1353 lr [])) : W p l e room_1 s m #[Value.ref b] below meth c H locs 600000 7302250 Z (F0 m 267 lr []) := by
  obtain ⟨hx, hb, hr, hml, hown, htl, hX, hbl, hlk, hgv⟩ := id C.1
  have hbA : ¬ jlw_A s b := Nat.not_le.mpr hbl
  have hlr : lr.size = 4 := hl.1
  refine lv_aload_n hx hb jd_267 rfl (lv_at hl 1 rfl) ?_
  refine lv_aload_n hx hb jd_268 rfl (lv_at hl 0 rfl) ?_
  refine lv_iload_n hx hb jd_269 rfl (lv_at hl 3 rfl) ?_
  refine lv_iconst (v := 1) hx hb jd_270 (by decide) ?_
  refine lv_iadd hx hb jd_271 ?_
  refine va_sld hx hb hX hbl hbA S.2.2.1 hin.1 jd_272 ?_
  refine jlw_callC (Y' := jm_JV_end) (As := [(xs (x + 1).toNatClampNeg)]) (rest := []) C hlr jd_273 (jx_pw_in (q := (3, 112)) rfl) jm_JV_end_f rfl rfl rfl (by first | exact Or.inl rfl | exact Or.inr rfl) rfl (by decide) (Nat.le_of_ble_eq_true rfl) S (pd_end (d := 0) hRel) (fun r1 h1 H1 locs1 q1 S1 => ?_)
  refine lv_aload_n hx hb jd_276 rfl (lv_at hl 2 rfl) ?_
  refine lv_aload_n hx hb jd_277 rfl (lv_at hl 0 rfl) ?_
  refine lv_iload_n hx hb jd_278 rfl (lv_at hl 3 rfl) ?_
  refine lv_iconst (v := 1) hx hb jd_279 (by decide) ?_
  refine lv_iadd hx hb jd_280 ?_
  refine va_sld hx hb hX hbl hbA S1.2.2.1 hin.1 jd_281 ?_
  refine jlw_callM (Y' := jm_MD_end) (As := [(xs (x + 1).toNatClampNeg)]) (rest := [.int r1]) C hlr jd_282 (jx_pw_in (q := (10, 71)) rfl) jm_MD_end_f rfl rfl rfl (by first | exact Or.inl rfl | exact Or.inr rfl) rfl (by decide) (Nat.le_of_ble_eq_true rfl) S1 q1 (fun r2 h2 H2 locs2 q2 S2 => ?_)
  refine lv_icmp_eq (tgt := 1353) hx hb jd_285 (by decide) (fun _ => ?_) (fun z => absurd (Sum.inl.inj (Option.some.inj q2.1)) z)
  exact k _ _ _ _ q2.2 S2
set_option maxHeartbeats 4000000 in
set_option maxRecDepth 100000 in
theorem jlw_c2 {p : Program} {l : Launch} {e : Env} {s : State} {m : MethodId} {below : List Frame} {meth : Method} {c : Code} {b L : Nat} {xs : Nat → Int32} {G : jlw_G} {H : Heap} {locs : List Loc} {lr : Array Slot} {Z : State → Prop} {hc hm : jx_H} {x : Int32} (C : jlw_C p s m meth c b L xs G) (hRel : jz_Rel hc hm) (S : jlw_S s G hc hm H locs) (hl : lv_has lr 4 [(0, .ref b), (1, .ref s.heap.size), (2, .ref (s.heap.size + 128)), (3, .int x)]) (hin : vp_in (x + 1) L ∧ vp_in (x + 2) L ∧ vp_in (x + 3) L ∧ vp_in (x + 4) L ∧ vp_in (x + 5) L) (k : ∀ (hc' hm' : jx_H) (H1 : Heap) (locs1 : List Loc), jz_Rel hc' hm' → jlw_S s G hc' hm' H1 locs1 → W p l e room_1 s m #[Value.ref b] below meth c H1 locs1 600000 7302250 Z (F0 m 1353 lr [])) : W p l e room_1 s m #[Value.ref b] below meth c H locs 600000 7302250 Z (F0 m 290 lr []) := by
  obtain ⟨hx, hb, hr, hml, hown, htl, hX, hbl, hlk, hgv⟩ := id C.1
  have hbA : ¬ jlw_A s b := Nat.not_le.mpr hbl
  have hlr : lr.size = 4 := hl.1
  refine lv_aload_n hx hb jd_290 rfl (lv_at hl 1 rfl) ?_
  refine jlw_callC (Y' := jm_JV_republic) (As := []) (rest := []) C hlr jd_291 (jx_pw_in (q := (3, 116)) rfl) jm_JV_republic_f rfl rfl rfl (by first | exact Or.inl rfl | exact Or.inr rfl) rfl (by decide) (Nat.le_of_ble_eq_true rfl) S (pd_republic (d := 0) hRel) (fun r1 h1 H1 locs1 q1 S1 => ?_)
  refine lv_aload_n hx hb jd_294 rfl (lv_at hl 2 rfl) ?_
  refine jlw_callM (Y' := jm_MD_republic) (As := []) (rest := [.int r1]) C hlr jd_295 (jx_pw_in (q := (8, 39)) rfl) jm_MD_republic_f rfl rfl rfl (by first | exact Or.inl rfl | exact Or.inr rfl) rfl (by decide) (Nat.le_of_ble_eq_true rfl) S1 q1 (fun r2 h2 H2 locs2 q2 S2 => ?_)
  refine lv_icmp_eq (tgt := 1353) hx hb jd_298 (by decide) (fun _ => ?_) (fun z => absurd (Sum.inl.inj (Option.some.inj q2.1)) z)
  exact k _ _ _ _ q2.2 S2
set_option maxHeartbeats 4000000 in
set_option maxRecDepth 100000 in
theorem jlw_c3 {p : Program} {l : Launch} {e : Env} {s : State} {m : MethodId} {below : List Frame} {meth : Method} {c : Code} {b L : Nat} {xs : Nat → Int32} {G : jlw_G} {H : Heap} {locs : List Loc} {lr : Array Slot} {Z : State → Prop} {hc hm : jx_H} {x : Int32} (C : jlw_C p s m meth c b L xs G) (hRel : jz_Rel hc hm) (S : jlw_S s G hc hm H locs) (hl : lv_has lr 4 [(0, .ref b), (1, .ref s.heap.size), (2, .ref (s.heap.size + 128)), (3, .int x)]) (hin : vp_in (x + 1) L ∧ vp_in (x + 2) L ∧ vp_in (x + 3) L ∧ vp_in (x + 4) L ∧ vp_in (x + 5) L) (k : ∀ (hc' hm' : jx_H) (H1 : Heap) (locs1 : List Loc), jz_Rel hc' hm' → jlw_S s G hc' hm' H1 locs1 → W p l e room_1 s m #[Value.ref b] below meth c H1 locs1 600000 7302250 Z (F0 m 1353 lr [])) : W p l e room_1 s m #[Value.ref b] below meth c H locs 600000 7302250 Z (F0 m 303 lr []) := by
  obtain ⟨hx, hb, hr, hml, hown, htl, hX, hbl, hlk, hgv⟩ := id C.1
  have hbA : ¬ jlw_A s b := Nat.not_le.mpr hbl
  have hlr : lr.size = 4 := hl.1
  refine lv_aload_n hx hb jd_303 rfl (lv_at hl 1 rfl) ?_
  refine lv_aload_n hx hb jd_304 rfl (lv_at hl 0 rfl) ?_
  refine lv_iload_n hx hb jd_305 rfl (lv_at hl 3 rfl) ?_
  refine lv_iconst (v := 1) hx hb jd_306 (by decide) ?_
  refine lv_iadd hx hb jd_307 ?_
  refine va_sld hx hb hX hbl hbA S.2.2.1 hin.1 jd_308 ?_
  refine jlw_callC (Y' := jm_JV_fault) (As := [(xs (x + 1).toNatClampNeg)]) (rest := []) C hlr jd_309 (jx_pw_in (q := (4, 116)) rfl) jm_JV_fault_f rfl rfl rfl (by first | exact Or.inl rfl | exact Or.inr rfl) rfl (by decide) (Nat.le_of_ble_eq_true rfl) S (pd_fault (d := 0) hRel) (fun r1 h1 H1 locs1 q1 S1 => ?_)
  refine lv_aload_n hx hb jd_312 rfl (lv_at hl 2 rfl) ?_
  refine lv_aload_n hx hb jd_313 rfl (lv_at hl 0 rfl) ?_
  refine lv_iload_n hx hb jd_314 rfl (lv_at hl 3 rfl) ?_
  refine lv_iconst (v := 1) hx hb jd_315 (by decide) ?_
  refine lv_iadd hx hb jd_316 ?_
  refine va_sld hx hb hX hbl hbA S1.2.2.1 hin.1 jd_317 ?_
  refine jlw_callM (Y' := jm_MD_fault) (As := [(xs (x + 1).toNatClampNeg)]) (rest := [.int r1]) C hlr jd_318 (jx_pw_in (q := (8, 208)) rfl) jm_MD_fault_f rfl rfl rfl (by first | exact Or.inl rfl | exact Or.inr rfl) rfl (by decide) (Nat.le_of_ble_eq_true rfl) S1 q1 (fun r2 h2 H2 locs2 q2 S2 => ?_)
  refine lv_icmp_eq (tgt := 1353) hx hb jd_321 (by decide) (fun _ => ?_) (fun z => absurd (Sum.inl.inj (Option.some.inj q2.1)) z)
  exact k _ _ _ _ q2.2 S2
set_option maxHeartbeats 4000000 in
set_option maxRecDepth 100000 in
theorem jlw_c4 {p : Program} {l : Launch} {e : Env} {s : State} {m : MethodId} {below : List Frame} {meth : Method} {c : Code} {b L : Nat} {xs : Nat → Int32} {G : jlw_G} {H : Heap} {locs : List Loc} {lr : Array Slot} {Z : State → Prop} {hc hm : jx_H} {x : Int32} (C : jlw_C p s m meth c b L xs G) (hRel : jz_Rel hc hm) (S : jlw_S s G hc hm H locs) (hl : lv_has lr 4 [(0, .ref b), (1, .ref s.heap.size), (2, .ref (s.heap.size + 128)), (3, .int x)]) (hin : vp_in (x + 1) L ∧ vp_in (x + 2) L ∧ vp_in (x + 3) L ∧ vp_in (x + 4) L ∧ vp_in (x + 5) L) (k : ∀ (hc' hm' : jx_H) (H1 : Heap) (locs1 : List Loc), jz_Rel hc' hm' → jlw_S s G hc' hm' H1 locs1 → W p l e room_1 s m #[Value.ref b] below meth c H1 locs1 600000 7302250 Z (F0 m 1353 lr [])) : W p l e room_1 s m #[Value.ref b] below meth c H locs 600000 7302250 Z (F0 m 326 lr []) := by
  obtain ⟨hx, hb, hr, hml, hown, htl, hX, hbl, hlk, hgv⟩ := id C.1
  have hbA : ¬ jlw_A s b := Nat.not_le.mpr hbl
  have hlr : lr.size = 4 := hl.1
  refine lv_aload_n hx hb jd_326 rfl (lv_at hl 1 rfl) ?_
  refine lv_aload_n hx hb jd_327 rfl (lv_at hl 0 rfl) ?_
  refine lv_iload_n hx hb jd_328 rfl (lv_at hl 3 rfl) ?_
  refine lv_iconst (v := 1) hx hb jd_329 (by decide) ?_
  refine lv_iadd hx hb jd_330 ?_
  refine va_sld hx hb hX hbl hbA S.2.2.1 hin.1 jd_331 ?_
  refine lv_aload_n hx hb jd_332 rfl (lv_at hl 0 rfl) ?_
  refine lv_iload_n hx hb jd_333 rfl (lv_at hl 3 rfl) ?_
  refine lv_iconst (v := 2) hx hb jd_334 (by decide) ?_
  refine lv_iadd hx hb jd_335 ?_
  refine va_sld hx hb hX hbl hbA S.2.2.1 hin.2.1 jd_336 ?_
  refine jlw_callC (Y' := jm_JV_person) (As := [(xs (x + 1).toNatClampNeg), (xs (x + 2).toNatClampNeg)]) (rest := []) C hlr jd_337 (jx_pw_in (q := (4, 120)) rfl) jm_JV_person_f rfl rfl rfl (by first | exact Or.inl rfl | exact Or.inr rfl) rfl (by decide) (Nat.le_of_ble_eq_true rfl) S (pd_person (d := 0) hRel) (fun r1 h1 H1 locs1 q1 S1 => ?_)
  refine lv_aload_n hx hb jd_340 rfl (lv_at hl 2 rfl) ?_
  refine lv_aload_n hx hb jd_341 rfl (lv_at hl 0 rfl) ?_
  refine lv_iload_n hx hb jd_342 rfl (lv_at hl 3 rfl) ?_
  refine lv_iconst (v := 1) hx hb jd_343 (by decide) ?_
  refine lv_iadd hx hb jd_344 ?_
  refine va_sld hx hb hX hbl hbA S1.2.2.1 hin.1 jd_345 ?_
  refine lv_aload_n hx hb jd_346 rfl (lv_at hl 0 rfl) ?_
  refine lv_iload_n hx hb jd_347 rfl (lv_at hl 3 rfl) ?_
  refine lv_iconst (v := 2) hx hb jd_348 (by decide) ?_
  refine lv_iadd hx hb jd_349 ?_
  refine va_sld hx hb hX hbl hbA S1.2.2.1 hin.2.1 jd_350 ?_
  refine jlw_callM (Y' := jm_MD_person) (As := [(xs (x + 1).toNatClampNeg), (xs (x + 2).toNatClampNeg)]) (rest := [.int r1]) C hlr jd_351 (jx_pw_in (q := (9, 85)) rfl) jm_MD_person_f rfl rfl rfl (by first | exact Or.inl rfl | exact Or.inr rfl) rfl (by decide) (Nat.le_of_ble_eq_true rfl) S1 q1 (fun r2 h2 H2 locs2 q2 S2 => ?_)
  refine lv_icmp_eq (tgt := 1353) hx hb jd_354 (by decide) (fun _ => ?_) (fun z => absurd (Sum.inl.inj (Option.some.inj q2.1)) z)
  exact k _ _ _ _ q2.2 S2
set_option maxHeartbeats 4000000 in
set_option maxRecDepth 100000 in
theorem jlw_c5 {p : Program} {l : Launch} {e : Env} {s : State} {m : MethodId} {below : List Frame} {meth : Method} {c : Code} {b L : Nat} {xs : Nat → Int32} {G : jlw_G} {H : Heap} {locs : List Loc} {lr : Array Slot} {Z : State → Prop} {hc hm : jx_H} {x : Int32} (C : jlw_C p s m meth c b L xs G) (hRel : jz_Rel hc hm) (S : jlw_S s G hc hm H locs) (hl : lv_has lr 4 [(0, .ref b), (1, .ref s.heap.size), (2, .ref (s.heap.size + 128)), (3, .int x)]) (hin : vp_in (x + 1) L ∧ vp_in (x + 2) L ∧ vp_in (x + 3) L ∧ vp_in (x + 4) L ∧ vp_in (x + 5) L) (k : ∀ (hc' hm' : jx_H) (H1 : Heap) (locs1 : List Loc), jz_Rel hc' hm' → jlw_S s G hc' hm' H1 locs1 → W p l e room_1 s m #[Value.ref b] below meth c H1 locs1 600000 7302250 Z (F0 m 1353 lr [])) : W p l e room_1 s m #[Value.ref b] below meth c H locs 600000 7302250 Z (F0 m 359 lr []) := by
  obtain ⟨hx, hb, hr, hml, hown, htl, hX, hbl, hlk, hgv⟩ := id C.1
  have hbA : ¬ jlw_A s b := Nat.not_le.mpr hbl
  have hlr : lr.size = 4 := hl.1
  refine lv_aload_n hx hb jd_359 rfl (lv_at hl 1 rfl) ?_
  refine lv_aload_n hx hb jd_360 rfl (lv_at hl 0 rfl) ?_
  refine lv_iload_n hx hb jd_361 rfl (lv_at hl 3 rfl) ?_
  refine lv_iconst (v := 1) hx hb jd_362 (by decide) ?_
  refine lv_iadd hx hb jd_363 ?_
  refine va_sld hx hb hX hbl hbA S.2.2.1 hin.1 jd_364 ?_
  refine lv_aload_n hx hb jd_365 rfl (lv_at hl 0 rfl) ?_
  refine lv_iload_n hx hb jd_366 rfl (lv_at hl 3 rfl) ?_
  refine lv_iconst (v := 2) hx hb jd_367 (by decide) ?_
  refine lv_iadd hx hb jd_368 ?_
  refine va_sld hx hb hX hbl hbA S.2.2.1 hin.2.1 jd_369 ?_
  refine jlw_callC (Y' := jm_JV_due) (As := [(xs (x + 1).toNatClampNeg), (xs (x + 2).toNatClampNeg)]) (rest := []) C hlr jd_370 (jx_pw_in (q := (4, 129)) rfl) jm_JV_due_f rfl rfl rfl (by first | exact Or.inl rfl | exact Or.inr rfl) rfl (by decide) (Nat.le_of_ble_eq_true rfl) S (pd_due (d := 0) hRel) (fun r1 h1 H1 locs1 q1 S1 => ?_)
  refine lv_aload_n hx hb jd_373 rfl (lv_at hl 2 rfl) ?_
  refine lv_aload_n hx hb jd_374 rfl (lv_at hl 0 rfl) ?_
  refine lv_iload_n hx hb jd_375 rfl (lv_at hl 3 rfl) ?_
  refine lv_iconst (v := 1) hx hb jd_376 (by decide) ?_
  refine lv_iadd hx hb jd_377 ?_
  refine va_sld hx hb hX hbl hbA S1.2.2.1 hin.1 jd_378 ?_
  refine lv_aload_n hx hb jd_379 rfl (lv_at hl 0 rfl) ?_
  refine lv_iload_n hx hb jd_380 rfl (lv_at hl 3 rfl) ?_
  refine lv_iconst (v := 2) hx hb jd_381 (by decide) ?_
  refine lv_iadd hx hb jd_382 ?_
  refine va_sld hx hb hX hbl hbA S1.2.2.1 hin.2.1 jd_383 ?_
  refine jlw_callM (Y' := jm_MD_due) (As := [(xs (x + 1).toNatClampNeg), (xs (x + 2).toNatClampNeg)]) (rest := [.int r1]) C hlr jd_384 (jx_pw_in (q := (9, 89)) rfl) jm_MD_due_f rfl rfl rfl (by first | exact Or.inl rfl | exact Or.inr rfl) rfl (by decide) (Nat.le_of_ble_eq_true rfl) S1 q1 (fun r2 h2 H2 locs2 q2 S2 => ?_)
  refine lv_icmp_eq (tgt := 1353) hx hb jd_387 (by decide) (fun _ => ?_) (fun z => absurd (Sum.inl.inj (Option.some.inj q2.1)) z)
  exact k _ _ _ _ q2.2 S2
set_option maxHeartbeats 4000000 in
set_option maxRecDepth 100000 in
theorem jlw_c6 {p : Program} {l : Launch} {e : Env} {s : State} {m : MethodId} {below : List Frame} {meth : Method} {c : Code} {b L : Nat} {xs : Nat → Int32} {G : jlw_G} {H : Heap} {locs : List Loc} {lr : Array Slot} {Z : State → Prop} {hc hm : jx_H} {x : Int32} (C : jlw_C p s m meth c b L xs G) (hRel : jz_Rel hc hm) (S : jlw_S s G hc hm H locs) (hl : lv_has lr 4 [(0, .ref b), (1, .ref s.heap.size), (2, .ref (s.heap.size + 128)), (3, .int x)]) (hin : vp_in (x + 1) L ∧ vp_in (x + 2) L ∧ vp_in (x + 3) L ∧ vp_in (x + 4) L ∧ vp_in (x + 5) L) (k : ∀ (hc' hm' : jx_H) (H1 : Heap) (locs1 : List Loc), jz_Rel hc' hm' → jlw_S s G hc' hm' H1 locs1 → W p l e room_1 s m #[Value.ref b] below meth c H1 locs1 600000 7302250 Z (F0 m 1353 lr [])) : W p l e room_1 s m #[Value.ref b] below meth c H locs 600000 7302250 Z (F0 m 392 lr []) := by
  obtain ⟨hx, hb, hr, hml, hown, htl, hX, hbl, hlk, hgv⟩ := id C.1
  have hbA : ¬ jlw_A s b := Nat.not_le.mpr hbl
  have hlr : lr.size = 4 := hl.1
  refine lv_aload_n hx hb jd_392 rfl (lv_at hl 1 rfl) ?_
  refine lv_aload_n hx hb jd_393 rfl (lv_at hl 0 rfl) ?_
  refine lv_iload_n hx hb jd_394 rfl (lv_at hl 3 rfl) ?_
  refine lv_iconst (v := 1) hx hb jd_395 (by decide) ?_
  refine lv_iadd hx hb jd_396 ?_
  refine va_sld hx hb hX hbl hbA S.2.2.1 hin.1 jd_397 ?_
  refine jlw_callC (Y' := jm_JV_length) (As := [(xs (x + 1).toNatClampNeg)]) (rest := []) C hlr jd_398 (jx_pw_in (q := (4, 137)) rfl) jm_JV_length_f rfl rfl rfl (by first | exact Or.inl rfl | exact Or.inr rfl) rfl (by decide) (Nat.le_of_ble_eq_true rfl) S (pd_length (d := 0) hRel) (fun r1 h1 H1 locs1 q1 S1 => ?_)
  refine lv_aload_n hx hb jd_401 rfl (lv_at hl 2 rfl) ?_
  refine lv_aload_n hx hb jd_402 rfl (lv_at hl 0 rfl) ?_
  refine lv_iload_n hx hb jd_403 rfl (lv_at hl 3 rfl) ?_
  refine lv_iconst (v := 1) hx hb jd_404 (by decide) ?_
  refine lv_iadd hx hb jd_405 ?_
  refine va_sld hx hb hX hbl hbA S1.2.2.1 hin.1 jd_406 ?_
  refine jlw_callM (Y' := jm_MD_length) (As := [(xs (x + 1).toNatClampNeg)]) (rest := [.int r1]) C hlr jd_407 (jx_pw_in (q := (9, 97)) rfl) jm_MD_length_f rfl rfl rfl (by first | exact Or.inl rfl | exact Or.inr rfl) rfl (by decide) (Nat.le_of_ble_eq_true rfl) S1 q1 (fun r2 h2 H2 locs2 q2 S2 => ?_)
  refine lv_icmp_eq (tgt := 1353) hx hb jd_410 (by decide) (fun _ => ?_) (fun z => absurd (Sum.inl.inj (Option.some.inj q2.1)) z)
  exact k _ _ _ _ q2.2 S2
set_option maxHeartbeats 4000000 in
set_option maxRecDepth 100000 in
theorem jlw_c7 {p : Program} {l : Launch} {e : Env} {s : State} {m : MethodId} {below : List Frame} {meth : Method} {c : Code} {b L : Nat} {xs : Nat → Int32} {G : jlw_G} {H : Heap} {locs : List Loc} {lr : Array Slot} {Z : State → Prop} {hc hm : jx_H} {x : Int32} (C : jlw_C p s m meth c b L xs G) (hRel : jz_Rel hc hm) (S : jlw_S s G hc hm H locs) (hl : lv_has lr 4 [(0, .ref b), (1, .ref s.heap.size), (2, .ref (s.heap.size + 128)), (3, .int x)]) (hin : vp_in (x + 1) L ∧ vp_in (x + 2) L ∧ vp_in (x + 3) L ∧ vp_in (x + 4) L ∧ vp_in (x + 5) L) (k : ∀ (hc' hm' : jx_H) (H1 : Heap) (locs1 : List Loc), jz_Rel hc' hm' → jlw_S s G hc' hm' H1 locs1 → W p l e room_1 s m #[Value.ref b] below meth c H1 locs1 600000 7302250 Z (F0 m 1353 lr [])) : W p l e room_1 s m #[Value.ref b] below meth c H locs 600000 7302250 Z (F0 m 415 lr []) := by
  obtain ⟨hx, hb, hr, hml, hown, htl, hX, hbl, hlk, hgv⟩ := id C.1
  have hbA : ¬ jlw_A s b := Nat.not_le.mpr hbl
  have hlr : lr.size = 4 := hl.1
  refine lv_aload_n hx hb jd_415 rfl (lv_at hl 1 rfl) ?_
  refine lv_aload_n hx hb jd_416 rfl (lv_at hl 0 rfl) ?_
  refine lv_iload_n hx hb jd_417 rfl (lv_at hl 3 rfl) ?_
  refine lv_iconst (v := 1) hx hb jd_418 (by decide) ?_
  refine lv_iadd hx hb jd_419 ?_
  refine va_sld hx hb hX hbl hbA S.2.2.1 hin.1 jd_420 ?_
  refine lv_aload_n hx hb jd_421 rfl (lv_at hl 0 rfl) ?_
  refine lv_iload_n hx hb jd_422 rfl (lv_at hl 3 rfl) ?_
  refine lv_iconst (v := 2) hx hb jd_423 (by decide) ?_
  refine lv_iadd hx hb jd_424 ?_
  refine va_sld hx hb hX hbl hbA S.2.2.1 hin.2.1 jd_425 ?_
  refine jlw_callC (Y' := jm_JV_date) (As := [(xs (x + 1).toNatClampNeg), (xs (x + 2).toNatClampNeg)]) (rest := []) C hlr jd_426 (jx_pw_in (q := (4, 145)) rfl) jm_JV_date_f rfl rfl rfl (by first | exact Or.inl rfl | exact Or.inr rfl) rfl (by decide) (Nat.le_of_ble_eq_true rfl) S (pd_date (d := 0) hRel) (fun r1 h1 H1 locs1 q1 S1 => ?_)
  refine lv_aload_n hx hb jd_429 rfl (lv_at hl 2 rfl) ?_
  refine lv_aload_n hx hb jd_430 rfl (lv_at hl 0 rfl) ?_
  refine lv_iload_n hx hb jd_431 rfl (lv_at hl 3 rfl) ?_
  refine lv_iconst (v := 1) hx hb jd_432 (by decide) ?_
  refine lv_iadd hx hb jd_433 ?_
  refine va_sld hx hb hX hbl hbA S1.2.2.1 hin.1 jd_434 ?_
  refine lv_aload_n hx hb jd_435 rfl (lv_at hl 0 rfl) ?_
  refine lv_iload_n hx hb jd_436 rfl (lv_at hl 3 rfl) ?_
  refine lv_iconst (v := 2) hx hb jd_437 (by decide) ?_
  refine lv_iadd hx hb jd_438 ?_
  refine va_sld hx hb hX hbl hbA S1.2.2.1 hin.2.1 jd_439 ?_
  refine jlw_callM (Y' := jm_MD_date) (As := [(xs (x + 1).toNatClampNeg), (xs (x + 2).toNatClampNeg)]) (rest := [.int r1]) C hlr jd_440 (jx_pw_in (q := (9, 101)) rfl) jm_MD_date_f rfl rfl rfl (by first | exact Or.inl rfl | exact Or.inr rfl) rfl (by decide) (Nat.le_of_ble_eq_true rfl) S1 q1 (fun r2 h2 H2 locs2 q2 S2 => ?_)
  refine lv_icmp_eq (tgt := 1353) hx hb jd_443 (by decide) (fun _ => ?_) (fun z => absurd (Sum.inl.inj (Option.some.inj q2.1)) z)
  exact k _ _ _ _ q2.2 S2
set_option maxHeartbeats 4000000 in
set_option maxRecDepth 100000 in
theorem jlw_c8 {p : Program} {l : Launch} {e : Env} {s : State} {m : MethodId} {below : List Frame} {meth : Method} {c : Code} {b L : Nat} {xs : Nat → Int32} {G : jlw_G} {H : Heap} {locs : List Loc} {lr : Array Slot} {Z : State → Prop} {hc hm : jx_H} {x : Int32} (C : jlw_C p s m meth c b L xs G) (hRel : jz_Rel hc hm) (S : jlw_S s G hc hm H locs) (hl : lv_has lr 4 [(0, .ref b), (1, .ref s.heap.size), (2, .ref (s.heap.size + 128)), (3, .int x)]) (hin : vp_in (x + 1) L ∧ vp_in (x + 2) L ∧ vp_in (x + 3) L ∧ vp_in (x + 4) L ∧ vp_in (x + 5) L) (k : ∀ (hc' hm' : jx_H) (H1 : Heap) (locs1 : List Loc), jz_Rel hc' hm' → jlw_S s G hc' hm' H1 locs1 → W p l e room_1 s m #[Value.ref b] below meth c H1 locs1 600000 7302250 Z (F0 m 1353 lr [])) : W p l e room_1 s m #[Value.ref b] below meth c H locs 600000 7302250 Z (F0 m 448 lr []) := by
  obtain ⟨hx, hb, hr, hml, hown, htl, hX, hbl, hlk, hgv⟩ := id C.1
  have hbA : ¬ jlw_A s b := Nat.not_le.mpr hbl
  have hlr : lr.size = 4 := hl.1
  refine lv_aload_n hx hb jd_448 rfl (lv_at hl 1 rfl) ?_
  refine lv_aload_n hx hb jd_449 rfl (lv_at hl 0 rfl) ?_
  refine lv_iload_n hx hb jd_450 rfl (lv_at hl 3 rfl) ?_
  refine lv_iconst (v := 1) hx hb jd_451 (by decide) ?_
  refine lv_iadd hx hb jd_452 ?_
  refine va_sld hx hb hX hbl hbA S.2.2.1 hin.1 jd_453 ?_
  refine lv_aload_n hx hb jd_454 rfl (lv_at hl 0 rfl) ?_
  refine lv_iload_n hx hb jd_455 rfl (lv_at hl 3 rfl) ?_
  refine lv_iconst (v := 2) hx hb jd_456 (by decide) ?_
  refine lv_iadd hx hb jd_457 ?_
  refine va_sld hx hb hX hbl hbA S.2.2.1 hin.2.1 jd_458 ?_
  refine lv_aload_n hx hb jd_459 rfl (lv_at hl 0 rfl) ?_
  refine lv_iload_n hx hb jd_460 rfl (lv_at hl 3 rfl) ?_
  refine lv_iconst (v := 3) hx hb jd_461 (by decide) ?_
  refine lv_iadd hx hb jd_462 ?_
  refine va_sld hx hb hX hbl hbA S.2.2.1 hin.2.2.1 jd_463 ?_
  refine jlw_callC (Y' := jm_JV_number) (As := [(xs (x + 1).toNatClampNeg), (xs (x + 2).toNatClampNeg), (xs (x + 3).toNatClampNeg)]) (rest := []) C hlr jd_464 (jx_pw_in (q := (4, 164)) rfl) jm_JV_number_f rfl rfl rfl (by first | exact Or.inl rfl | exact Or.inr rfl) rfl (by decide) (Nat.le_of_ble_eq_true rfl) S (pd_number (d := 0) hRel) (fun r1 h1 H1 locs1 q1 S1 => ?_)
  refine lv_aload_n hx hb jd_467 rfl (lv_at hl 2 rfl) ?_
  refine lv_aload_n hx hb jd_468 rfl (lv_at hl 0 rfl) ?_
  refine lv_iload_n hx hb jd_469 rfl (lv_at hl 3 rfl) ?_
  refine lv_iconst (v := 1) hx hb jd_470 (by decide) ?_
  refine lv_iadd hx hb jd_471 ?_
  refine va_sld hx hb hX hbl hbA S1.2.2.1 hin.1 jd_472 ?_
  refine lv_aload_n hx hb jd_473 rfl (lv_at hl 0 rfl) ?_
  refine lv_iload_n hx hb jd_474 rfl (lv_at hl 3 rfl) ?_
  refine lv_iconst (v := 2) hx hb jd_475 (by decide) ?_
  refine lv_iadd hx hb jd_476 ?_
  refine va_sld hx hb hX hbl hbA S1.2.2.1 hin.2.1 jd_477 ?_
  refine lv_aload_n hx hb jd_478 rfl (lv_at hl 0 rfl) ?_
  refine lv_iload_n hx hb jd_479 rfl (lv_at hl 3 rfl) ?_
  refine lv_iconst (v := 3) hx hb jd_480 (by decide) ?_
  refine lv_iadd hx hb jd_481 ?_
  refine va_sld hx hb hX hbl hbA S1.2.2.1 hin.2.2.1 jd_482 ?_
  refine jlw_callM (Y' := jm_MD_number) (As := [(xs (x + 1).toNatClampNeg), (xs (x + 2).toNatClampNeg), (xs (x + 3).toNatClampNeg)]) (rest := [.int r1]) C hlr jd_483 (jx_pw_in (q := (9, 105)) rfl) jm_MD_number_f rfl rfl rfl (by first | exact Or.inl rfl | exact Or.inr rfl) rfl (by decide) (Nat.le_of_ble_eq_true rfl) S1 q1 (fun r2 h2 H2 locs2 q2 S2 => ?_)
  refine lv_icmp_eq (tgt := 1353) hx hb jd_486 (by decide) (fun _ => ?_) (fun z => absurd (Sum.inl.inj (Option.some.inj q2.1)) z)
  exact k _ _ _ _ q2.2 S2
set_option maxHeartbeats 4000000 in
set_option maxRecDepth 100000 in
theorem jlw_c9 {p : Program} {l : Launch} {e : Env} {s : State} {m : MethodId} {below : List Frame} {meth : Method} {c : Code} {b L : Nat} {xs : Nat → Int32} {G : jlw_G} {H : Heap} {locs : List Loc} {lr : Array Slot} {Z : State → Prop} {hc hm : jx_H} {x : Int32} (C : jlw_C p s m meth c b L xs G) (hRel : jz_Rel hc hm) (S : jlw_S s G hc hm H locs) (hl : lv_has lr 4 [(0, .ref b), (1, .ref s.heap.size), (2, .ref (s.heap.size + 128)), (3, .int x)]) (hin : vp_in (x + 1) L ∧ vp_in (x + 2) L ∧ vp_in (x + 3) L ∧ vp_in (x + 4) L ∧ vp_in (x + 5) L) (k : ∀ (hc' hm' : jx_H) (H1 : Heap) (locs1 : List Loc), jz_Rel hc' hm' → jlw_S s G hc' hm' H1 locs1 → W p l e room_1 s m #[Value.ref b] below meth c H1 locs1 600000 7302250 Z (F0 m 1353 lr [])) : W p l e room_1 s m #[Value.ref b] below meth c H locs 600000 7302250 Z (F0 m 491 lr []) := by
  obtain ⟨hx, hb, hr, hml, hown, htl, hX, hbl, hlk, hgv⟩ := id C.1
  have hbA : ¬ jlw_A s b := Nat.not_le.mpr hbl
  have hlr : lr.size = 4 := hl.1
  refine lv_aload_n hx hb jd_491 rfl (lv_at hl 1 rfl) ?_
  refine lv_aload_n hx hb jd_492 rfl (lv_at hl 0 rfl) ?_
  refine lv_iload_n hx hb jd_493 rfl (lv_at hl 3 rfl) ?_
  refine lv_iconst (v := 1) hx hb jd_494 (by decide) ?_
  refine lv_iadd hx hb jd_495 ?_
  refine va_sld hx hb hX hbl hbA S.2.2.1 hin.1 jd_496 ?_
  refine jlw_callC (Y' := jm_JV_drift) (As := [(xs (x + 1).toNatClampNeg)]) (rest := []) C hlr jd_497 (jx_pw_in (q := (4, 172)) rfl) jm_JV_drift_f rfl rfl rfl (by first | exact Or.inl rfl | exact Or.inr rfl) rfl (by decide) (Nat.le_of_ble_eq_true rfl) S (pd_drift (d := 0) hRel) (fun r1 h1 H1 locs1 q1 S1 => ?_)
  refine lv_aload_n hx hb jd_500 rfl (lv_at hl 2 rfl) ?_
  refine lv_aload_n hx hb jd_501 rfl (lv_at hl 0 rfl) ?_
  refine lv_iload_n hx hb jd_502 rfl (lv_at hl 3 rfl) ?_
  refine lv_iconst (v := 1) hx hb jd_503 (by decide) ?_
  refine lv_iadd hx hb jd_504 ?_
  refine va_sld hx hb hX hbl hbA S1.2.2.1 hin.1 jd_505 ?_
  refine jlw_callM (Y' := jm_MD_drift) (As := [(xs (x + 1).toNatClampNeg)]) (rest := [.int r1]) C hlr jd_506 (jx_pw_in (q := (8, 212)) rfl) jm_MD_drift_f rfl rfl rfl (by first | exact Or.inl rfl | exact Or.inr rfl) rfl (by decide) (Nat.le_of_ble_eq_true rfl) S1 q1 (fun r2 h2 H2 locs2 q2 S2 => ?_)
  refine lv_icmp_eq (tgt := 1353) hx hb jd_509 (by decide) (fun _ => ?_) (fun z => absurd (Sum.inl.inj (Option.some.inj q2.1)) z)
  exact k _ _ _ _ q2.2 S2
set_option maxHeartbeats 4000000 in
set_option maxRecDepth 100000 in
theorem jlw_c10 {p : Program} {l : Launch} {e : Env} {s : State} {m : MethodId} {below : List Frame} {meth : Method} {c : Code} {b L : Nat} {xs : Nat → Int32} {G : jlw_G} {H : Heap} {locs : List Loc} {lr : Array Slot} {Z : State → Prop} {hc hm : jx_H} {x : Int32} (C : jlw_C p s m meth c b L xs G) (hRel : jz_Rel hc hm) (S : jlw_S s G hc hm H locs) (hl : lv_has lr 4 [(0, .ref b), (1, .ref s.heap.size), (2, .ref (s.heap.size + 128)), (3, .int x)]) (hin : vp_in (x + 1) L ∧ vp_in (x + 2) L ∧ vp_in (x + 3) L ∧ vp_in (x + 4) L ∧ vp_in (x + 5) L) (k : ∀ (hc' hm' : jx_H) (H1 : Heap) (locs1 : List Loc), jz_Rel hc' hm' → jlw_S s G hc' hm' H1 locs1 → W p l e room_1 s m #[Value.ref b] below meth c H1 locs1 600000 7302250 Z (F0 m 1353 lr [])) : W p l e room_1 s m #[Value.ref b] below meth c H locs 600000 7302250 Z (F0 m 514 lr []) := by
  obtain ⟨hx, hb, hr, hml, hown, htl, hX, hbl, hlk, hgv⟩ := id C.1
  have hbA : ¬ jlw_A s b := Nat.not_le.mpr hbl
  have hlr : lr.size = 4 := hl.1
  refine lv_aload_n hx hb jd_514 rfl (lv_at hl 1 rfl) ?_
  refine lv_aload_n hx hb jd_515 rfl (lv_at hl 0 rfl) ?_
  refine lv_iload_n hx hb jd_516 rfl (lv_at hl 3 rfl) ?_
  refine lv_iconst (v := 1) hx hb jd_517 (by decide) ?_
  refine lv_iadd hx hb jd_518 ?_
  refine va_sld hx hb hX hbl hbA S.2.2.1 hin.1 jd_519 ?_
  refine jlw_callC (Y' := jm_JV_may) (As := [(xs (x + 1).toNatClampNeg)]) (rest := []) C hlr jd_520 (jx_pw_in (q := (4, 193)) rfl) jm_JV_may_f rfl rfl rfl (by first | exact Or.inl rfl | exact Or.inr rfl) rfl (by decide) (Nat.le_of_ble_eq_true rfl) S (pd_may (d := 0) hRel) (fun r1 h1 H1 locs1 q1 S1 => ?_)
  refine lv_aload_n hx hb jd_523 rfl (lv_at hl 2 rfl) ?_
  refine lv_aload_n hx hb jd_524 rfl (lv_at hl 0 rfl) ?_
  refine lv_iload_n hx hb jd_525 rfl (lv_at hl 3 rfl) ?_
  refine lv_iconst (v := 1) hx hb jd_526 (by decide) ?_
  refine lv_iadd hx hb jd_527 ?_
  refine va_sld hx hb hX hbl hbA S1.2.2.1 hin.1 jd_528 ?_
  refine jlw_callM (Y' := jm_MD_may) (As := [(xs (x + 1).toNatClampNeg)]) (rest := [.int r1]) C hlr jd_529 (jx_pw_in (q := (9, 3)) rfl) jm_MD_may_f rfl rfl rfl (by first | exact Or.inl rfl | exact Or.inr rfl) rfl (by decide) (Nat.le_of_ble_eq_true rfl) S1 q1 (fun r2 h2 H2 locs2 q2 S2 => ?_)
  refine lv_icmp_eq (tgt := 1353) hx hb jd_532 (by decide) (fun _ => ?_) (fun z => absurd (Sum.inl.inj (Option.some.inj q2.1)) z)
  exact k _ _ _ _ q2.2 S2
set_option maxHeartbeats 4000000 in
set_option maxRecDepth 100000 in
theorem jlw_c11 {p : Program} {l : Launch} {e : Env} {s : State} {m : MethodId} {below : List Frame} {meth : Method} {c : Code} {b L : Nat} {xs : Nat → Int32} {G : jlw_G} {H : Heap} {locs : List Loc} {lr : Array Slot} {Z : State → Prop} {hc hm : jx_H} {x : Int32} (C : jlw_C p s m meth c b L xs G) (hRel : jz_Rel hc hm) (S : jlw_S s G hc hm H locs) (hl : lv_has lr 4 [(0, .ref b), (1, .ref s.heap.size), (2, .ref (s.heap.size + 128)), (3, .int x)]) (hin : vp_in (x + 1) L ∧ vp_in (x + 2) L ∧ vp_in (x + 3) L ∧ vp_in (x + 4) L ∧ vp_in (x + 5) L) (k : ∀ (hc' hm' : jx_H) (H1 : Heap) (locs1 : List Loc), jz_Rel hc' hm' → jlw_S s G hc' hm' H1 locs1 → W p l e room_1 s m #[Value.ref b] below meth c H1 locs1 600000 7302250 Z (F0 m 1353 lr [])) : W p l e room_1 s m #[Value.ref b] below meth c H locs 600000 7302250 Z (F0 m 537 lr []) := by
  obtain ⟨hx, hb, hr, hml, hown, htl, hX, hbl, hlk, hgv⟩ := id C.1
  have hbA : ¬ jlw_A s b := Nat.not_le.mpr hbl
  have hlr : lr.size = 4 := hl.1
  refine lv_aload_n hx hb jd_537 rfl (lv_at hl 1 rfl) ?_
  refine lv_aload_n hx hb jd_538 rfl (lv_at hl 0 rfl) ?_
  refine lv_iload_n hx hb jd_539 rfl (lv_at hl 3 rfl) ?_
  refine lv_iconst (v := 1) hx hb jd_540 (by decide) ?_
  refine lv_iadd hx hb jd_541 ?_
  refine va_sld hx hb hX hbl hbA S.2.2.1 hin.1 jd_542 ?_
  refine lv_aload_n hx hb jd_543 rfl (lv_at hl 0 rfl) ?_
  refine lv_iload_n hx hb jd_544 rfl (lv_at hl 3 rfl) ?_
  refine lv_iconst (v := 2) hx hb jd_545 (by decide) ?_
  refine lv_iadd hx hb jd_546 ?_
  refine va_sld hx hb hX hbl hbA S.2.2.1 hin.2.1 jd_547 ?_
  refine jlw_callC (Y' := jm_JV_worth) (As := [(xs (x + 1).toNatClampNeg), (xs (x + 2).toNatClampNeg)]) (rest := []) C hlr jd_548 (jx_pw_in (q := (5, 36)) rfl) jm_JV_worth_f rfl rfl rfl (by first | exact Or.inl rfl | exact Or.inr rfl) rfl (by decide) (Nat.le_of_ble_eq_true rfl) S (pd_worth (d := 0) hRel) (fun r1 h1 H1 locs1 q1 S1 => ?_)
  refine lv_aload_n hx hb jd_551 rfl (lv_at hl 2 rfl) ?_
  refine lv_aload_n hx hb jd_552 rfl (lv_at hl 0 rfl) ?_
  refine lv_iload_n hx hb jd_553 rfl (lv_at hl 3 rfl) ?_
  refine lv_iconst (v := 1) hx hb jd_554 (by decide) ?_
  refine lv_iadd hx hb jd_555 ?_
  refine va_sld hx hb hX hbl hbA S1.2.2.1 hin.1 jd_556 ?_
  refine lv_aload_n hx hb jd_557 rfl (lv_at hl 0 rfl) ?_
  refine lv_iload_n hx hb jd_558 rfl (lv_at hl 3 rfl) ?_
  refine lv_iconst (v := 2) hx hb jd_559 (by decide) ?_
  refine lv_iadd hx hb jd_560 ?_
  refine va_sld hx hb hX hbl hbA S1.2.2.1 hin.2.1 jd_561 ?_
  refine jlw_callM (Y' := jm_MD_worth) (As := [(xs (x + 1).toNatClampNeg), (xs (x + 2).toNatClampNeg)]) (rest := [.int r1]) C hlr jd_562 (jx_pw_in (q := (9, 33)) rfl) jm_MD_worth_f rfl rfl rfl (by first | exact Or.inl rfl | exact Or.inr rfl) rfl (by decide) (Nat.le_of_ble_eq_true rfl) S1 q1 (fun r2 h2 H2 locs2 q2 S2 => ?_)
  refine lv_icmp_eq (tgt := 1353) hx hb jd_565 (by decide) (fun _ => ?_) (fun z => absurd (Sum.inl.inj (Option.some.inj q2.1)) z)
  exact k _ _ _ _ q2.2 S2
set_option maxHeartbeats 4000000 in
set_option maxRecDepth 100000 in
theorem jlw_c12 {p : Program} {l : Launch} {e : Env} {s : State} {m : MethodId} {below : List Frame} {meth : Method} {c : Code} {b L : Nat} {xs : Nat → Int32} {G : jlw_G} {H : Heap} {locs : List Loc} {lr : Array Slot} {Z : State → Prop} {hc hm : jx_H} {x : Int32} (C : jlw_C p s m meth c b L xs G) (hRel : jz_Rel hc hm) (S : jlw_S s G hc hm H locs) (hl : lv_has lr 4 [(0, .ref b), (1, .ref s.heap.size), (2, .ref (s.heap.size + 128)), (3, .int x)]) (hin : vp_in (x + 1) L ∧ vp_in (x + 2) L ∧ vp_in (x + 3) L ∧ vp_in (x + 4) L ∧ vp_in (x + 5) L) (k : ∀ (hc' hm' : jx_H) (H1 : Heap) (locs1 : List Loc), jz_Rel hc' hm' → jlw_S s G hc' hm' H1 locs1 → W p l e room_1 s m #[Value.ref b] below meth c H1 locs1 600000 7302250 Z (F0 m 1353 lr [])) : W p l e room_1 s m #[Value.ref b] below meth c H locs 600000 7302250 Z (F0 m 570 lr []) := by
  obtain ⟨hx, hb, hr, hml, hown, htl, hX, hbl, hlk, hgv⟩ := id C.1
  have hbA : ¬ jlw_A s b := Nat.not_le.mpr hbl
  have hlr : lr.size = 4 := hl.1
  refine lv_aload_n hx hb jd_570 rfl (lv_at hl 1 rfl) ?_
  refine lv_aload_n hx hb jd_571 rfl (lv_at hl 0 rfl) ?_
  refine lv_iload_n hx hb jd_572 rfl (lv_at hl 3 rfl) ?_
  refine lv_iconst (v := 1) hx hb jd_573 (by decide) ?_
  refine lv_iadd hx hb jd_574 ?_
  refine va_sld hx hb hX hbl hbA S.2.2.1 hin.1 jd_575 ?_
  refine jlw_callC (Y' := jm_JV_votes) (As := [(xs (x + 1).toNatClampNeg)]) (rest := []) C hlr jd_576 (jx_pw_in (q := (5, 45)) rfl) jm_JV_votes_f rfl rfl rfl (by first | exact Or.inl rfl | exact Or.inr rfl) rfl (by decide) (Nat.le_of_ble_eq_true rfl) S (pd_votes (d := 0) hRel) (fun r1 h1 H1 locs1 q1 S1 => ?_)
  refine lv_aload_n hx hb jd_579 rfl (lv_at hl 2 rfl) ?_
  refine lv_aload_n hx hb jd_580 rfl (lv_at hl 0 rfl) ?_
  refine lv_iload_n hx hb jd_581 rfl (lv_at hl 3 rfl) ?_
  refine lv_iconst (v := 1) hx hb jd_582 (by decide) ?_
  refine lv_iadd hx hb jd_583 ?_
  refine va_sld hx hb hX hbl hbA S1.2.2.1 hin.1 jd_584 ?_
  refine jlw_callM (Y' := jm_MD_votes) (As := [(xs (x + 1).toNatClampNeg)]) (rest := [.int r1]) C hlr jd_585 (jx_pw_in (q := (9, 57)) rfl) jm_MD_votes_f rfl rfl rfl (by first | exact Or.inl rfl | exact Or.inr rfl) rfl (by decide) (Nat.le_of_ble_eq_true rfl) S1 q1 (fun r2 h2 H2 locs2 q2 S2 => ?_)
  refine lv_icmp_eq (tgt := 1353) hx hb jd_588 (by decide) (fun _ => ?_) (fun z => absurd (Sum.inl.inj (Option.some.inj q2.1)) z)
  exact k _ _ _ _ q2.2 S2
set_option maxHeartbeats 4000000 in
set_option maxRecDepth 100000 in
theorem jlw_c13 {p : Program} {l : Launch} {e : Env} {s : State} {m : MethodId} {below : List Frame} {meth : Method} {c : Code} {b L : Nat} {xs : Nat → Int32} {G : jlw_G} {H : Heap} {locs : List Loc} {lr : Array Slot} {Z : State → Prop} {hc hm : jx_H} {x : Int32} (C : jlw_C p s m meth c b L xs G) (hRel : jz_Rel hc hm) (S : jlw_S s G hc hm H locs) (hl : lv_has lr 4 [(0, .ref b), (1, .ref s.heap.size), (2, .ref (s.heap.size + 128)), (3, .int x)]) (hin : vp_in (x + 1) L ∧ vp_in (x + 2) L ∧ vp_in (x + 3) L ∧ vp_in (x + 4) L ∧ vp_in (x + 5) L) (k : ∀ (hc' hm' : jx_H) (H1 : Heap) (locs1 : List Loc), jz_Rel hc' hm' → jlw_S s G hc' hm' H1 locs1 → W p l e room_1 s m #[Value.ref b] below meth c H1 locs1 600000 7302250 Z (F0 m 1353 lr [])) : W p l e room_1 s m #[Value.ref b] below meth c H locs 600000 7302250 Z (F0 m 593 lr []) := by
  obtain ⟨hx, hb, hr, hml, hown, htl, hX, hbl, hlk, hgv⟩ := id C.1
  have hbA : ¬ jlw_A s b := Nat.not_le.mpr hbl
  have hlr : lr.size = 4 := hl.1
  refine lv_aload_n hx hb jd_593 rfl (lv_at hl 1 rfl) ?_
  refine jlw_callC (Y' := jm_JV_counted) (As := []) (rest := []) C hlr jd_594 (jx_pw_in (q := (5, 54)) rfl) jm_JV_counted_f rfl rfl rfl (by first | exact Or.inl rfl | exact Or.inr rfl) rfl (by decide) (Nat.le_of_ble_eq_true rfl) S (pd_counted (d := 0) hRel) (fun r1 h1 H1 locs1 q1 S1 => ?_)
  refine lv_aload_n hx hb jd_597 rfl (lv_at hl 2 rfl) ?_
  refine jlw_callM (Y' := jm_MD_counted) (As := []) (rest := [.int r1]) C hlr jd_598 (jx_pw_in (q := (9, 65)) rfl) jm_MD_counted_f rfl rfl rfl (by first | exact Or.inl rfl | exact Or.inr rfl) rfl (by decide) (Nat.le_of_ble_eq_true rfl) S1 q1 (fun r2 h2 H2 locs2 q2 S2 => ?_)
  refine lv_icmp_eq (tgt := 1353) hx hb jd_601 (by decide) (fun _ => ?_) (fun z => absurd (Sum.inl.inj (Option.some.inj q2.1)) z)
  exact k _ _ _ _ q2.2 S2
set_option maxHeartbeats 4000000 in
set_option maxRecDepth 100000 in
theorem jlw_c14 {p : Program} {l : Launch} {e : Env} {s : State} {m : MethodId} {below : List Frame} {meth : Method} {c : Code} {b L : Nat} {xs : Nat → Int32} {G : jlw_G} {H : Heap} {locs : List Loc} {lr : Array Slot} {Z : State → Prop} {hc hm : jx_H} {x : Int32} (C : jlw_C p s m meth c b L xs G) (hRel : jz_Rel hc hm) (S : jlw_S s G hc hm H locs) (hl : lv_has lr 4 [(0, .ref b), (1, .ref s.heap.size), (2, .ref (s.heap.size + 128)), (3, .int x)]) (hin : vp_in (x + 1) L ∧ vp_in (x + 2) L ∧ vp_in (x + 3) L ∧ vp_in (x + 4) L ∧ vp_in (x + 5) L) (k : ∀ (hc' hm' : jx_H) (H1 : Heap) (locs1 : List Loc), jz_Rel hc' hm' → jlw_S s G hc' hm' H1 locs1 → W p l e room_1 s m #[Value.ref b] below meth c H1 locs1 600000 7302250 Z (F0 m 1353 lr [])) : W p l e room_1 s m #[Value.ref b] below meth c H locs 600000 7302250 Z (F0 m 606 lr []) := by
  obtain ⟨hx, hb, hr, hml, hown, htl, hX, hbl, hlk, hgv⟩ := id C.1
  have hbA : ¬ jlw_A s b := Nat.not_le.mpr hbl
  have hlr : lr.size = 4 := hl.1
  refine lv_aload_n hx hb jd_606 rfl (lv_at hl 1 rfl) ?_
  refine lv_aload_n hx hb jd_607 rfl (lv_at hl 0 rfl) ?_
  refine lv_iload_n hx hb jd_608 rfl (lv_at hl 3 rfl) ?_
  refine lv_iconst (v := 1) hx hb jd_609 (by decide) ?_
  refine lv_iadd hx hb jd_610 ?_
  refine va_sld hx hb hX hbl hbA S.2.2.1 hin.1 jd_611 ?_
  refine jlw_callC (Y' := jm_JV_run) (As := [(xs (x + 1).toNatClampNeg)]) (rest := []) C hlr jd_612 (jx_pw_in (q := (5, 92)) rfl) jm_JV_run_f rfl rfl rfl (by first | exact Or.inl rfl | exact Or.inr rfl) rfl (by decide) (Nat.le_of_ble_eq_true rfl) S (pd_run (d := 0) hRel) (fun r1 h1 H1 locs1 q1 S1 => ?_)
  refine lv_aload_n hx hb jd_615 rfl (lv_at hl 2 rfl) ?_
  refine lv_aload_n hx hb jd_616 rfl (lv_at hl 0 rfl) ?_
  refine lv_iload_n hx hb jd_617 rfl (lv_at hl 3 rfl) ?_
  refine lv_iconst (v := 1) hx hb jd_618 (by decide) ?_
  refine lv_iadd hx hb jd_619 ?_
  refine va_sld hx hb hX hbl hbA S1.2.2.1 hin.1 jd_620 ?_
  refine jlw_callM (Y' := jm_MD_run) (As := [(xs (x + 1).toNatClampNeg)]) (rest := [.int r1]) C hlr jd_621 (jx_pw_in (q := (9, 109)) rfl) jm_MD_run_f rfl rfl rfl (by first | exact Or.inl rfl | exact Or.inr rfl) rfl (by decide) (Nat.le_of_ble_eq_true rfl) S1 q1 (fun r2 h2 H2 locs2 q2 S2 => ?_)
  refine lv_icmp_eq (tgt := 1353) hx hb jd_624 (by decide) (fun _ => ?_) (fun z => absurd (Sum.inl.inj (Option.some.inj q2.1)) z)
  exact k _ _ _ _ q2.2 S2
set_option maxHeartbeats 4000000 in
set_option maxRecDepth 100000 in
theorem jlw_c15 {p : Program} {l : Launch} {e : Env} {s : State} {m : MethodId} {below : List Frame} {meth : Method} {c : Code} {b L : Nat} {xs : Nat → Int32} {G : jlw_G} {H : Heap} {locs : List Loc} {lr : Array Slot} {Z : State → Prop} {hc hm : jx_H} {x : Int32} (C : jlw_C p s m meth c b L xs G) (hRel : jz_Rel hc hm) (S : jlw_S s G hc hm H locs) (hl : lv_has lr 4 [(0, .ref b), (1, .ref s.heap.size), (2, .ref (s.heap.size + 128)), (3, .int x)]) (hin : vp_in (x + 1) L ∧ vp_in (x + 2) L ∧ vp_in (x + 3) L ∧ vp_in (x + 4) L ∧ vp_in (x + 5) L) (k : ∀ (hc' hm' : jx_H) (H1 : Heap) (locs1 : List Loc), jz_Rel hc' hm' → jlw_S s G hc' hm' H1 locs1 → W p l e room_1 s m #[Value.ref b] below meth c H1 locs1 600000 7302250 Z (F0 m 1353 lr [])) : W p l e room_1 s m #[Value.ref b] below meth c H locs 600000 7302250 Z (F0 m 629 lr []) := by
  obtain ⟨hx, hb, hr, hml, hown, htl, hX, hbl, hlk, hgv⟩ := id C.1
  have hbA : ¬ jlw_A s b := Nat.not_le.mpr hbl
  have hlr : lr.size = 4 := hl.1
  refine lv_aload_n hx hb jd_629 rfl (lv_at hl 1 rfl) ?_
  refine lv_aload_n hx hb jd_630 rfl (lv_at hl 0 rfl) ?_
  refine lv_iload_n hx hb jd_631 rfl (lv_at hl 3 rfl) ?_
  refine lv_iconst (v := 1) hx hb jd_632 (by decide) ?_
  refine lv_iadd hx hb jd_633 ?_
  refine va_sld hx hb hX hbl hbA S.2.2.1 hin.1 jd_634 ?_
  refine jlw_callC (Y' := jm_JV_decree) (As := [(xs (x + 1).toNatClampNeg)]) (rest := []) C hlr jd_635 (jx_pw_in (q := (5, 129)) rfl) jm_JV_decree_f rfl rfl rfl (by first | exact Or.inl rfl | exact Or.inr rfl) rfl (by decide) (Nat.le_of_ble_eq_true rfl) S (pd_decree (d := 0) hRel) (fun r1 h1 H1 locs1 q1 S1 => ?_)
  refine lv_aload_n hx hb jd_638 rfl (lv_at hl 2 rfl) ?_
  refine lv_aload_n hx hb jd_639 rfl (lv_at hl 0 rfl) ?_
  refine lv_iload_n hx hb jd_640 rfl (lv_at hl 3 rfl) ?_
  refine lv_iconst (v := 1) hx hb jd_641 (by decide) ?_
  refine lv_iadd hx hb jd_642 ?_
  refine va_sld hx hb hX hbl hbA S1.2.2.1 hin.1 jd_643 ?_
  refine jlw_callM (Y' := jm_MD_decree) (As := [(xs (x + 1).toNatClampNeg)]) (rest := [.int r1]) C hlr jd_644 (jx_pw_in (q := (9, 125)) rfl) jm_MD_decree_f rfl rfl rfl (by first | exact Or.inl rfl | exact Or.inr rfl) rfl (by decide) (Nat.le_of_ble_eq_true rfl) S1 q1 (fun r2 h2 H2 locs2 q2 S2 => ?_)
  refine lv_icmp_eq (tgt := 1353) hx hb jd_647 (by decide) (fun _ => ?_) (fun z => absurd (Sum.inl.inj (Option.some.inj q2.1)) z)
  exact k _ _ _ _ q2.2 S2
set_option maxHeartbeats 4000000 in
set_option maxRecDepth 100000 in
theorem jlw_c16 {p : Program} {l : Launch} {e : Env} {s : State} {m : MethodId} {below : List Frame} {meth : Method} {c : Code} {b L : Nat} {xs : Nat → Int32} {G : jlw_G} {H : Heap} {locs : List Loc} {lr : Array Slot} {Z : State → Prop} {hc hm : jx_H} {x : Int32} (C : jlw_C p s m meth c b L xs G) (hRel : jz_Rel hc hm) (S : jlw_S s G hc hm H locs) (hl : lv_has lr 4 [(0, .ref b), (1, .ref s.heap.size), (2, .ref (s.heap.size + 128)), (3, .int x)]) (hin : vp_in (x + 1) L ∧ vp_in (x + 2) L ∧ vp_in (x + 3) L ∧ vp_in (x + 4) L ∧ vp_in (x + 5) L) (k : ∀ (hc' hm' : jx_H) (H1 : Heap) (locs1 : List Loc), jz_Rel hc' hm' → jlw_S s G hc' hm' H1 locs1 → W p l e room_1 s m #[Value.ref b] below meth c H1 locs1 600000 7302250 Z (F0 m 1353 lr [])) : W p l e room_1 s m #[Value.ref b] below meth c H locs 600000 7302250 Z (F0 m 652 lr []) := by
  obtain ⟨hx, hb, hr, hml, hown, htl, hX, hbl, hlk, hgv⟩ := id C.1
  have hbA : ¬ jlw_A s b := Nat.not_le.mpr hbl
  have hlr : lr.size = 4 := hl.1
  refine lv_aload_n hx hb jd_652 rfl (lv_at hl 1 rfl) ?_
  refine lv_aload_n hx hb jd_653 rfl (lv_at hl 0 rfl) ?_
  refine lv_iload_n hx hb jd_654 rfl (lv_at hl 3 rfl) ?_
  refine lv_iconst (v := 1) hx hb jd_655 (by decide) ?_
  refine lv_iadd hx hb jd_656 ?_
  refine va_sld hx hb hX hbl hbA S.2.2.1 hin.1 jd_657 ?_
  refine jlw_callC (Y' := jm_JV_forgive) (As := [(xs (x + 1).toNatClampNeg)]) (rest := []) C hlr jd_658 (jx_pw_in (q := (5, 133)) rfl) jm_JV_forgive_f rfl rfl rfl (by first | exact Or.inl rfl | exact Or.inr rfl) rfl (by decide) (Nat.le_of_ble_eq_true rfl) S (pd_forgive (d := 0) hRel) (fun r1 h1 H1 locs1 q1 S1 => ?_)
  refine lv_aload_n hx hb jd_661 rfl (lv_at hl 2 rfl) ?_
  refine lv_aload_n hx hb jd_662 rfl (lv_at hl 0 rfl) ?_
  refine lv_iload_n hx hb jd_663 rfl (lv_at hl 3 rfl) ?_
  refine lv_iconst (v := 1) hx hb jd_664 (by decide) ?_
  refine lv_iadd hx hb jd_665 ?_
  refine va_sld hx hb hX hbl hbA S1.2.2.1 hin.1 jd_666 ?_
  refine jlw_callM (Y' := jm_MD_forgive) (As := [(xs (x + 1).toNatClampNeg)]) (rest := [.int r1]) C hlr jd_667 (jx_pw_in (q := (9, 129)) rfl) jm_MD_forgive_f rfl rfl rfl (by first | exact Or.inl rfl | exact Or.inr rfl) rfl (by decide) (Nat.le_of_ble_eq_true rfl) S1 q1 (fun r2 h2 H2 locs2 q2 S2 => ?_)
  refine lv_icmp_eq (tgt := 1353) hx hb jd_670 (by decide) (fun _ => ?_) (fun z => absurd (Sum.inl.inj (Option.some.inj q2.1)) z)
  exact k _ _ _ _ q2.2 S2
set_option maxHeartbeats 4000000 in
set_option maxRecDepth 100000 in
theorem jlw_c17 {p : Program} {l : Launch} {e : Env} {s : State} {m : MethodId} {below : List Frame} {meth : Method} {c : Code} {b L : Nat} {xs : Nat → Int32} {G : jlw_G} {H : Heap} {locs : List Loc} {lr : Array Slot} {Z : State → Prop} {hc hm : jx_H} {x : Int32} (C : jlw_C p s m meth c b L xs G) (hRel : jz_Rel hc hm) (S : jlw_S s G hc hm H locs) (hl : lv_has lr 4 [(0, .ref b), (1, .ref s.heap.size), (2, .ref (s.heap.size + 128)), (3, .int x)]) (hin : vp_in (x + 1) L ∧ vp_in (x + 2) L ∧ vp_in (x + 3) L ∧ vp_in (x + 4) L ∧ vp_in (x + 5) L) (k : ∀ (hc' hm' : jx_H) (H1 : Heap) (locs1 : List Loc), jz_Rel hc' hm' → jlw_S s G hc' hm' H1 locs1 → W p l e room_1 s m #[Value.ref b] below meth c H1 locs1 600000 7302250 Z (F0 m 1353 lr [])) : W p l e room_1 s m #[Value.ref b] below meth c H locs 600000 7302250 Z (F0 m 675 lr []) := by
  obtain ⟨hx, hb, hr, hml, hown, htl, hX, hbl, hlk, hgv⟩ := id C.1
  have hbA : ¬ jlw_A s b := Nat.not_le.mpr hbl
  have hlr : lr.size = 4 := hl.1
  refine lv_aload_n hx hb jd_675 rfl (lv_at hl 1 rfl) ?_
  refine lv_aload_n hx hb jd_676 rfl (lv_at hl 0 rfl) ?_
  refine lv_iload_n hx hb jd_677 rfl (lv_at hl 3 rfl) ?_
  refine lv_iconst (v := 1) hx hb jd_678 (by decide) ?_
  refine lv_iadd hx hb jd_679 ?_
  refine va_sld hx hb hX hbl hbA S.2.2.1 hin.1 jd_680 ?_
  refine lv_aload_n hx hb jd_681 rfl (lv_at hl 0 rfl) ?_
  refine lv_iload_n hx hb jd_682 rfl (lv_at hl 3 rfl) ?_
  refine lv_iconst (v := 2) hx hb jd_683 (by decide) ?_
  refine lv_iadd hx hb jd_684 ?_
  refine va_sld hx hb hX hbl hbA S.2.2.1 hin.2.1 jd_685 ?_
  refine jlw_callC (Y' := jm_JV_endow) (As := [(xs (x + 1).toNatClampNeg), (xs (x + 2).toNatClampNeg)]) (rest := []) C hlr jd_686 (jx_pw_in (q := (5, 137)) rfl) jm_JV_endow_f rfl rfl rfl (by first | exact Or.inl rfl | exact Or.inr rfl) rfl (by decide) (Nat.le_of_ble_eq_true rfl) S (pd_endow (d := 0) hRel) (fun r1 h1 H1 locs1 q1 S1 => ?_)
  refine lv_aload_n hx hb jd_689 rfl (lv_at hl 2 rfl) ?_
  refine lv_aload_n hx hb jd_690 rfl (lv_at hl 0 rfl) ?_
  refine lv_iload_n hx hb jd_691 rfl (lv_at hl 3 rfl) ?_
  refine lv_iconst (v := 1) hx hb jd_692 (by decide) ?_
  refine lv_iadd hx hb jd_693 ?_
  refine va_sld hx hb hX hbl hbA S1.2.2.1 hin.1 jd_694 ?_
  refine lv_aload_n hx hb jd_695 rfl (lv_at hl 0 rfl) ?_
  refine lv_iload_n hx hb jd_696 rfl (lv_at hl 3 rfl) ?_
  refine lv_iconst (v := 2) hx hb jd_697 (by decide) ?_
  refine lv_iadd hx hb jd_698 ?_
  refine va_sld hx hb hX hbl hbA S1.2.2.1 hin.2.1 jd_699 ?_
  refine jlw_callM (Y' := jm_MD_endow) (As := [(xs (x + 1).toNatClampNeg), (xs (x + 2).toNatClampNeg)]) (rest := [.int r1]) C hlr jd_700 (jx_pw_in (q := (9, 133)) rfl) jm_MD_endow_f rfl rfl rfl (by first | exact Or.inl rfl | exact Or.inr rfl) rfl (by decide) (Nat.le_of_ble_eq_true rfl) S1 q1 (fun r2 h2 H2 locs2 q2 S2 => ?_)
  refine lv_icmp_eq (tgt := 1353) hx hb jd_703 (by decide) (fun _ => ?_) (fun z => absurd (Sum.inl.inj (Option.some.inj q2.1)) z)
  exact k _ _ _ _ q2.2 S2
set_option maxHeartbeats 4000000 in
set_option maxRecDepth 100000 in
theorem jlw_c18 {p : Program} {l : Launch} {e : Env} {s : State} {m : MethodId} {below : List Frame} {meth : Method} {c : Code} {b L : Nat} {xs : Nat → Int32} {G : jlw_G} {H : Heap} {locs : List Loc} {lr : Array Slot} {Z : State → Prop} {hc hm : jx_H} {x : Int32} (C : jlw_C p s m meth c b L xs G) (hRel : jz_Rel hc hm) (S : jlw_S s G hc hm H locs) (hl : lv_has lr 4 [(0, .ref b), (1, .ref s.heap.size), (2, .ref (s.heap.size + 128)), (3, .int x)]) (hin : vp_in (x + 1) L ∧ vp_in (x + 2) L ∧ vp_in (x + 3) L ∧ vp_in (x + 4) L ∧ vp_in (x + 5) L) (k : ∀ (hc' hm' : jx_H) (H1 : Heap) (locs1 : List Loc), jz_Rel hc' hm' → jlw_S s G hc' hm' H1 locs1 → W p l e room_1 s m #[Value.ref b] below meth c H1 locs1 600000 7302250 Z (F0 m 1353 lr [])) : W p l e room_1 s m #[Value.ref b] below meth c H locs 600000 7302250 Z (F0 m 708 lr []) := by
  obtain ⟨hx, hb, hr, hml, hown, htl, hX, hbl, hlk, hgv⟩ := id C.1
  have hbA : ¬ jlw_A s b := Nat.not_le.mpr hbl
  have hlr : lr.size = 4 := hl.1
  refine lv_aload_n hx hb jd_708 rfl (lv_at hl 1 rfl) ?_
  refine jlw_callC (Y' := jm_JV_undo) (As := []) (rest := []) C hlr jd_709 (jx_pw_in (q := (5, 141)) rfl) jm_JV_undo_f rfl rfl rfl (by first | exact Or.inl rfl | exact Or.inr rfl) rfl (by decide) (Nat.le_of_ble_eq_true rfl) S (pd_undo (d := 0) hRel) (fun r1 h1 H1 locs1 q1 S1 => ?_)
  refine lv_aload_n hx hb jd_712 rfl (lv_at hl 2 rfl) ?_
  refine jlw_callM (Y' := jm_MD_undo) (As := []) (rest := [.int r1]) C hlr jd_713 (jx_pw_in (q := (9, 137)) rfl) jm_MD_undo_f rfl rfl rfl (by first | exact Or.inl rfl | exact Or.inr rfl) rfl (by decide) (Nat.le_of_ble_eq_true rfl) S1 q1 (fun r2 h2 H2 locs2 q2 S2 => ?_)
  refine lv_icmp_eq (tgt := 1353) hx hb jd_716 (by decide) (fun _ => ?_) (fun z => absurd (Sum.inl.inj (Option.some.inj q2.1)) z)
  exact k _ _ _ _ q2.2 S2
set_option maxHeartbeats 4000000 in
set_option maxRecDepth 100000 in
theorem jlw_c19 {p : Program} {l : Launch} {e : Env} {s : State} {m : MethodId} {below : List Frame} {meth : Method} {c : Code} {b L : Nat} {xs : Nat → Int32} {G : jlw_G} {H : Heap} {locs : List Loc} {lr : Array Slot} {Z : State → Prop} {hc hm : jx_H} {x : Int32} (C : jlw_C p s m meth c b L xs G) (hRel : jz_Rel hc hm) (S : jlw_S s G hc hm H locs) (hl : lv_has lr 4 [(0, .ref b), (1, .ref s.heap.size), (2, .ref (s.heap.size + 128)), (3, .int x)]) (hin : vp_in (x + 1) L ∧ vp_in (x + 2) L ∧ vp_in (x + 3) L ∧ vp_in (x + 4) L ∧ vp_in (x + 5) L) (k : ∀ (hc' hm' : jx_H) (H1 : Heap) (locs1 : List Loc), jz_Rel hc' hm' → jlw_S s G hc' hm' H1 locs1 → W p l e room_1 s m #[Value.ref b] below meth c H1 locs1 600000 7302250 Z (F0 m 1353 lr [])) : W p l e room_1 s m #[Value.ref b] below meth c H locs 600000 7302250 Z (F0 m 721 lr []) := by
  obtain ⟨hx, hb, hr, hml, hown, htl, hX, hbl, hlk, hgv⟩ := id C.1
  have hbA : ¬ jlw_A s b := Nat.not_le.mpr hbl
  have hlr : lr.size = 4 := hl.1
  refine lv_aload_n hx hb jd_721 rfl (lv_at hl 1 rfl) ?_
  refine jlw_callC (Y' := jm_JV_redo) (As := []) (rest := []) C hlr jd_722 (jx_pw_in (q := (5, 165)) rfl) jm_JV_redo_f rfl rfl rfl (by first | exact Or.inl rfl | exact Or.inr rfl) rfl (by decide) (Nat.le_of_ble_eq_true rfl) S (pd_redo (d := 0) hRel) (fun r1 h1 H1 locs1 q1 S1 => ?_)
  refine lv_aload_n hx hb jd_725 rfl (lv_at hl 2 rfl) ?_
  refine jlw_callM (Y' := jm_MD_redo) (As := []) (rest := [.int r1]) C hlr jd_726 (jx_pw_in (q := (9, 145)) rfl) jm_MD_redo_f rfl rfl rfl (by first | exact Or.inl rfl | exact Or.inr rfl) rfl (by decide) (Nat.le_of_ble_eq_true rfl) S1 q1 (fun r2 h2 H2 locs2 q2 S2 => ?_)
  refine lv_icmp_eq (tgt := 1353) hx hb jd_729 (by decide) (fun _ => ?_) (fun z => absurd (Sum.inl.inj (Option.some.inj q2.1)) z)
  exact k _ _ _ _ q2.2 S2
set_option maxHeartbeats 4000000 in
set_option maxRecDepth 100000 in
theorem jlw_c20 {p : Program} {l : Launch} {e : Env} {s : State} {m : MethodId} {below : List Frame} {meth : Method} {c : Code} {b L : Nat} {xs : Nat → Int32} {G : jlw_G} {H : Heap} {locs : List Loc} {lr : Array Slot} {Z : State → Prop} {hc hm : jx_H} {x : Int32} (C : jlw_C p s m meth c b L xs G) (hRel : jz_Rel hc hm) (S : jlw_S s G hc hm H locs) (hl : lv_has lr 4 [(0, .ref b), (1, .ref s.heap.size), (2, .ref (s.heap.size + 128)), (3, .int x)]) (hin : vp_in (x + 1) L ∧ vp_in (x + 2) L ∧ vp_in (x + 3) L ∧ vp_in (x + 4) L ∧ vp_in (x + 5) L) (k : ∀ (hc' hm' : jx_H) (H1 : Heap) (locs1 : List Loc), jz_Rel hc' hm' → jlw_S s G hc' hm' H1 locs1 → W p l e room_1 s m #[Value.ref b] below meth c H1 locs1 600000 7302250 Z (F0 m 1353 lr [])) : W p l e room_1 s m #[Value.ref b] below meth c H locs 600000 7302250 Z (F0 m 734 lr []) := by
  obtain ⟨hx, hb, hr, hml, hown, htl, hX, hbl, hlk, hgv⟩ := id C.1
  have hbA : ¬ jlw_A s b := Nat.not_le.mpr hbl
  have hlr : lr.size = 4 := hl.1
  refine lv_aload_n hx hb jd_734 rfl (lv_at hl 1 rfl) ?_
  refine lv_aload_n hx hb jd_735 rfl (lv_at hl 0 rfl) ?_
  refine lv_iload_n hx hb jd_736 rfl (lv_at hl 3 rfl) ?_
  refine lv_iconst (v := 1) hx hb jd_737 (by decide) ?_
  refine lv_iadd hx hb jd_738 ?_
  refine va_sld hx hb hX hbl hbA S.2.2.1 hin.1 jd_739 ?_
  refine lv_aload_n hx hb jd_740 rfl (lv_at hl 0 rfl) ?_
  refine lv_iload_n hx hb jd_741 rfl (lv_at hl 3 rfl) ?_
  refine lv_iconst (v := 2) hx hb jd_742 (by decide) ?_
  refine lv_iadd hx hb jd_743 ?_
  refine va_sld hx hb hX hbl hbA S.2.2.1 hin.2.1 jd_744 ?_
  refine jlw_callC (Y' := jm_JV_turned) (As := [(xs (x + 1).toNatClampNeg), (xs (x + 2).toNatClampNeg)]) (rest := []) C hlr jd_745 (jx_pw_in (q := (5, 177)) rfl) jm_JV_turned_f rfl rfl rfl (by first | exact Or.inl rfl | exact Or.inr rfl) rfl (by decide) (Nat.le_of_ble_eq_true rfl) S (pd_turned (d := 0) hRel) (fun r1 h1 H1 locs1 q1 S1 => ?_)
  refine lv_aload_n hx hb jd_748 rfl (lv_at hl 2 rfl) ?_
  refine lv_aload_n hx hb jd_749 rfl (lv_at hl 0 rfl) ?_
  refine lv_iload_n hx hb jd_750 rfl (lv_at hl 3 rfl) ?_
  refine lv_iconst (v := 1) hx hb jd_751 (by decide) ?_
  refine lv_iadd hx hb jd_752 ?_
  refine va_sld hx hb hX hbl hbA S1.2.2.1 hin.1 jd_753 ?_
  refine lv_aload_n hx hb jd_754 rfl (lv_at hl 0 rfl) ?_
  refine lv_iload_n hx hb jd_755 rfl (lv_at hl 3 rfl) ?_
  refine lv_iconst (v := 2) hx hb jd_756 (by decide) ?_
  refine lv_iadd hx hb jd_757 ?_
  refine va_sld hx hb hX hbl hbA S1.2.2.1 hin.2.1 jd_758 ?_
  refine jlw_callM (Y' := jm_MD_turned) (As := [(xs (x + 1).toNatClampNeg), (xs (x + 2).toNatClampNeg)]) (rest := [.int r1]) C hlr jd_759 (jx_pw_in (q := (9, 149)) rfl) jm_MD_turned_f rfl rfl rfl (by first | exact Or.inl rfl | exact Or.inr rfl) rfl (by decide) (Nat.le_of_ble_eq_true rfl) S1 q1 (fun r2 h2 H2 locs2 q2 S2 => ?_)
  refine lv_icmp_eq (tgt := 1353) hx hb jd_762 (by decide) (fun _ => ?_) (fun z => absurd (Sum.inl.inj (Option.some.inj q2.1)) z)
  exact k _ _ _ _ q2.2 S2
set_option maxHeartbeats 4000000 in
set_option maxRecDepth 100000 in
theorem jlw_c21 {p : Program} {l : Launch} {e : Env} {s : State} {m : MethodId} {below : List Frame} {meth : Method} {c : Code} {b L : Nat} {xs : Nat → Int32} {G : jlw_G} {H : Heap} {locs : List Loc} {lr : Array Slot} {Z : State → Prop} {hc hm : jx_H} {x : Int32} (C : jlw_C p s m meth c b L xs G) (hRel : jz_Rel hc hm) (S : jlw_S s G hc hm H locs) (hl : lv_has lr 4 [(0, .ref b), (1, .ref s.heap.size), (2, .ref (s.heap.size + 128)), (3, .int x)]) (hin : vp_in (x + 1) L ∧ vp_in (x + 2) L ∧ vp_in (x + 3) L ∧ vp_in (x + 4) L ∧ vp_in (x + 5) L) (k : ∀ (hc' hm' : jx_H) (H1 : Heap) (locs1 : List Loc), jz_Rel hc' hm' → jlw_S s G hc' hm' H1 locs1 → W p l e room_1 s m #[Value.ref b] below meth c H1 locs1 600000 7302250 Z (F0 m 1353 lr [])) : W p l e room_1 s m #[Value.ref b] below meth c H locs 600000 7302250 Z (F0 m 767 lr []) := by
  obtain ⟨hx, hb, hr, hml, hown, htl, hX, hbl, hlk, hgv⟩ := id C.1
  have hbA : ¬ jlw_A s b := Nat.not_le.mpr hbl
  have hlr : lr.size = 4 := hl.1
  refine lv_aload_n hx hb jd_767 rfl (lv_at hl 1 rfl) ?_
  refine lv_aload_n hx hb jd_768 rfl (lv_at hl 0 rfl) ?_
  refine lv_iload_n hx hb jd_769 rfl (lv_at hl 3 rfl) ?_
  refine lv_iconst (v := 1) hx hb jd_770 (by decide) ?_
  refine lv_iadd hx hb jd_771 ?_
  refine va_sld hx hb hX hbl hbA S.2.2.1 hin.1 jd_772 ?_
  refine jlw_callC (Y' := jm_JV_least) (As := [(xs (x + 1).toNatClampNeg)]) (rest := []) C hlr jd_773 (jx_pw_in (q := (5, 203)) rfl) jm_JV_least_f rfl rfl rfl (by first | exact Or.inl rfl | exact Or.inr rfl) rfl (by decide) (Nat.le_of_ble_eq_true rfl) S (pd_least (d := 0) hRel) (fun r1 h1 H1 locs1 q1 S1 => ?_)
  refine lv_aload_n hx hb jd_776 rfl (lv_at hl 2 rfl) ?_
  refine lv_aload_n hx hb jd_777 rfl (lv_at hl 0 rfl) ?_
  refine lv_iload_n hx hb jd_778 rfl (lv_at hl 3 rfl) ?_
  refine lv_iconst (v := 1) hx hb jd_779 (by decide) ?_
  refine lv_iadd hx hb jd_780 ?_
  refine va_sld hx hb hX hbl hbA S1.2.2.1 hin.1 jd_781 ?_
  refine jlw_callM (Y' := jm_MD_least) (As := [(xs (x + 1).toNatClampNeg)]) (rest := [.int r1]) C hlr jd_782 (jx_pw_in (q := (9, 161)) rfl) jm_MD_least_f rfl rfl rfl (by first | exact Or.inl rfl | exact Or.inr rfl) rfl (by decide) (Nat.le_of_ble_eq_true rfl) S1 q1 (fun r2 h2 H2 locs2 q2 S2 => ?_)
  refine lv_icmp_eq (tgt := 1353) hx hb jd_785 (by decide) (fun _ => ?_) (fun z => absurd (Sum.inl.inj (Option.some.inj q2.1)) z)
  exact k _ _ _ _ q2.2 S2
set_option maxHeartbeats 4000000 in
set_option maxRecDepth 100000 in
theorem jlw_c22 {p : Program} {l : Launch} {e : Env} {s : State} {m : MethodId} {below : List Frame} {meth : Method} {c : Code} {b L : Nat} {xs : Nat → Int32} {G : jlw_G} {H : Heap} {locs : List Loc} {lr : Array Slot} {Z : State → Prop} {hc hm : jx_H} {x : Int32} (C : jlw_C p s m meth c b L xs G) (hRel : jz_Rel hc hm) (S : jlw_S s G hc hm H locs) (hl : lv_has lr 4 [(0, .ref b), (1, .ref s.heap.size), (2, .ref (s.heap.size + 128)), (3, .int x)]) (hin : vp_in (x + 1) L ∧ vp_in (x + 2) L ∧ vp_in (x + 3) L ∧ vp_in (x + 4) L ∧ vp_in (x + 5) L) (k : ∀ (hc' hm' : jx_H) (H1 : Heap) (locs1 : List Loc), jz_Rel hc' hm' → jlw_S s G hc' hm' H1 locs1 → W p l e room_1 s m #[Value.ref b] below meth c H1 locs1 600000 7302250 Z (F0 m 1353 lr [])) : W p l e room_1 s m #[Value.ref b] below meth c H locs 600000 7302250 Z (F0 m 790 lr []) := by
  obtain ⟨hx, hb, hr, hml, hown, htl, hX, hbl, hlk, hgv⟩ := id C.1
  have hbA : ¬ jlw_A s b := Nat.not_le.mpr hbl
  have hlr : lr.size = 4 := hl.1
  refine lv_aload_n hx hb jd_790 rfl (lv_at hl 1 rfl) ?_
  refine lv_aload_n hx hb jd_791 rfl (lv_at hl 0 rfl) ?_
  refine lv_iload_n hx hb jd_792 rfl (lv_at hl 3 rfl) ?_
  refine lv_iconst (v := 1) hx hb jd_793 (by decide) ?_
  refine lv_iadd hx hb jd_794 ?_
  refine va_sld hx hb hX hbl hbA S.2.2.1 hin.1 jd_795 ?_
  refine lv_aload_n hx hb jd_796 rfl (lv_at hl 0 rfl) ?_
  refine lv_iload_n hx hb jd_797 rfl (lv_at hl 3 rfl) ?_
  refine lv_iconst (v := 2) hx hb jd_798 (by decide) ?_
  refine lv_iadd hx hb jd_799 ?_
  refine va_sld hx hb hX hbl hbA S.2.2.1 hin.2.1 jd_800 ?_
  refine jlw_callC (Y' := jm_JV_bribe) (As := [(xs (x + 1).toNatClampNeg), (xs (x + 2).toNatClampNeg)]) (rest := []) C hlr jd_801 (jx_pw_in (q := (5, 218)) rfl) jm_JV_bribe_f rfl rfl rfl (by first | exact Or.inl rfl | exact Or.inr rfl) rfl (by decide) (Nat.le_of_ble_eq_true rfl) S (pd_bribe (d := 0) hRel) (fun r1 h1 H1 locs1 q1 S1 => ?_)
  refine lv_aload_n hx hb jd_804 rfl (lv_at hl 2 rfl) ?_
  refine lv_aload_n hx hb jd_805 rfl (lv_at hl 0 rfl) ?_
  refine lv_iload_n hx hb jd_806 rfl (lv_at hl 3 rfl) ?_
  refine lv_iconst (v := 1) hx hb jd_807 (by decide) ?_
  refine lv_iadd hx hb jd_808 ?_
  refine va_sld hx hb hX hbl hbA S1.2.2.1 hin.1 jd_809 ?_
  refine lv_aload_n hx hb jd_810 rfl (lv_at hl 0 rfl) ?_
  refine lv_iload_n hx hb jd_811 rfl (lv_at hl 3 rfl) ?_
  refine lv_iconst (v := 2) hx hb jd_812 (by decide) ?_
  refine lv_iadd hx hb jd_813 ?_
  refine va_sld hx hb hX hbl hbA S1.2.2.1 hin.2.1 jd_814 ?_
  refine jlw_callM (Y' := jm_MD_bribe) (As := [(xs (x + 1).toNatClampNeg), (xs (x + 2).toNatClampNeg)]) (rest := [.int r1]) C hlr jd_815 (jx_pw_in (q := (9, 168)) rfl) jm_MD_bribe_f rfl rfl rfl (by first | exact Or.inl rfl | exact Or.inr rfl) rfl (by decide) (Nat.le_of_ble_eq_true rfl) S1 q1 (fun r2 h2 H2 locs2 q2 S2 => ?_)
  refine lv_icmp_eq (tgt := 1353) hx hb jd_818 (by decide) (fun _ => ?_) (fun z => absurd (Sum.inl.inj (Option.some.inj q2.1)) z)
  exact k _ _ _ _ q2.2 S2
set_option maxHeartbeats 4000000 in
set_option maxRecDepth 100000 in
theorem jlw_c23 {p : Program} {l : Launch} {e : Env} {s : State} {m : MethodId} {below : List Frame} {meth : Method} {c : Code} {b L : Nat} {xs : Nat → Int32} {G : jlw_G} {H : Heap} {locs : List Loc} {lr : Array Slot} {Z : State → Prop} {hc hm : jx_H} {x : Int32} (C : jlw_C p s m meth c b L xs G) (hRel : jz_Rel hc hm) (S : jlw_S s G hc hm H locs) (hl : lv_has lr 4 [(0, .ref b), (1, .ref s.heap.size), (2, .ref (s.heap.size + 128)), (3, .int x)]) (hin : vp_in (x + 1) L ∧ vp_in (x + 2) L ∧ vp_in (x + 3) L ∧ vp_in (x + 4) L ∧ vp_in (x + 5) L) (k : ∀ (hc' hm' : jx_H) (H1 : Heap) (locs1 : List Loc), jz_Rel hc' hm' → jlw_S s G hc' hm' H1 locs1 → W p l e room_1 s m #[Value.ref b] below meth c H1 locs1 600000 7302250 Z (F0 m 1353 lr [])) : W p l e room_1 s m #[Value.ref b] below meth c H locs 600000 7302250 Z (F0 m 823 lr []) := by
  obtain ⟨hx, hb, hr, hml, hown, htl, hX, hbl, hlk, hgv⟩ := id C.1
  have hbA : ¬ jlw_A s b := Nat.not_le.mpr hbl
  have hlr : lr.size = 4 := hl.1
  refine lv_aload_n hx hb jd_823 rfl (lv_at hl 1 rfl) ?_
  refine lv_aload_n hx hb jd_824 rfl (lv_at hl 0 rfl) ?_
  refine lv_iload_n hx hb jd_825 rfl (lv_at hl 3 rfl) ?_
  refine lv_iconst (v := 1) hx hb jd_826 (by decide) ?_
  refine lv_iadd hx hb jd_827 ?_
  refine va_sld hx hb hX hbl hbA S.2.2.1 hin.1 jd_828 ?_
  refine jlw_callC (Y' := jm_JV_rest) (As := [(xs (x + 1).toNatClampNeg)]) (rest := []) C hlr jd_829 (jx_pw_in (q := (5, 232)) rfl) jm_JV_rest_f rfl rfl rfl (by first | exact Or.inl rfl | exact Or.inr rfl) rfl (by decide) (Nat.le_of_ble_eq_true rfl) S (pd_rest (d := 0) hRel) (fun r1 h1 H1 locs1 q1 S1 => ?_)
  refine lv_aload_n hx hb jd_832 rfl (lv_at hl 2 rfl) ?_
  refine lv_aload_n hx hb jd_833 rfl (lv_at hl 0 rfl) ?_
  refine lv_iload_n hx hb jd_834 rfl (lv_at hl 3 rfl) ?_
  refine lv_iconst (v := 1) hx hb jd_835 (by decide) ?_
  refine lv_iadd hx hb jd_836 ?_
  refine va_sld hx hb hX hbl hbA S1.2.2.1 hin.1 jd_837 ?_
  refine jlw_callM (Y' := jm_MD_rest) (As := [(xs (x + 1).toNatClampNeg)]) (rest := [.int r1]) C hlr jd_838 (jx_pw_in (q := (9, 176)) rfl) jm_MD_rest_f rfl rfl rfl (by first | exact Or.inl rfl | exact Or.inr rfl) rfl (by decide) (Nat.le_of_ble_eq_true rfl) S1 q1 (fun r2 h2 H2 locs2 q2 S2 => ?_)
  refine lv_icmp_eq (tgt := 1353) hx hb jd_841 (by decide) (fun _ => ?_) (fun z => absurd (Sum.inl.inj (Option.some.inj q2.1)) z)
  exact k _ _ _ _ q2.2 S2
set_option maxHeartbeats 4000000 in
set_option maxRecDepth 100000 in
theorem jlw_c24 {p : Program} {l : Launch} {e : Env} {s : State} {m : MethodId} {below : List Frame} {meth : Method} {c : Code} {b L : Nat} {xs : Nat → Int32} {G : jlw_G} {H : Heap} {locs : List Loc} {lr : Array Slot} {Z : State → Prop} {hc hm : jx_H} {x : Int32} (C : jlw_C p s m meth c b L xs G) (hRel : jz_Rel hc hm) (S : jlw_S s G hc hm H locs) (hl : lv_has lr 4 [(0, .ref b), (1, .ref s.heap.size), (2, .ref (s.heap.size + 128)), (3, .int x)]) (hin : vp_in (x + 1) L ∧ vp_in (x + 2) L ∧ vp_in (x + 3) L ∧ vp_in (x + 4) L ∧ vp_in (x + 5) L) (k : ∀ (hc' hm' : jx_H) (H1 : Heap) (locs1 : List Loc), jz_Rel hc' hm' → jlw_S s G hc' hm' H1 locs1 → W p l e room_1 s m #[Value.ref b] below meth c H1 locs1 600000 7302250 Z (F0 m 1353 lr [])) : W p l e room_1 s m #[Value.ref b] below meth c H locs 600000 7302250 Z (F0 m 846 lr []) := by
  obtain ⟨hx, hb, hr, hml, hown, htl, hX, hbl, hlk, hgv⟩ := id C.1
  have hbA : ¬ jlw_A s b := Nat.not_le.mpr hbl
  have hlr : lr.size = 4 := hl.1
  refine lv_aload_n hx hb jd_846 rfl (lv_at hl 1 rfl) ?_
  refine lv_aload_n hx hb jd_847 rfl (lv_at hl 0 rfl) ?_
  refine lv_iload_n hx hb jd_848 rfl (lv_at hl 3 rfl) ?_
  refine lv_iconst (v := 1) hx hb jd_849 (by decide) ?_
  refine lv_iadd hx hb jd_850 ?_
  refine va_sld hx hb hX hbl hbA S.2.2.1 hin.1 jd_851 ?_
  refine lv_aload_n hx hb jd_852 rfl (lv_at hl 0 rfl) ?_
  refine lv_iload_n hx hb jd_853 rfl (lv_at hl 3 rfl) ?_
  refine lv_iconst (v := 2) hx hb jd_854 (by decide) ?_
  refine lv_iadd hx hb jd_855 ?_
  refine va_sld hx hb hX hbl hbA S.2.2.1 hin.2.1 jd_856 ?_
  refine jlw_callC (Y' := jm_JV_plan) (As := [(xs (x + 1).toNatClampNeg), (xs (x + 2).toNatClampNeg)]) (rest := []) C hlr jd_857 (jx_pw_in (q := (6, 21)) rfl) jm_JV_plan_f rfl rfl rfl (by first | exact Or.inl rfl | exact Or.inr rfl) rfl (by decide) (Nat.le_of_ble_eq_true rfl) S (pd_plan (d := 0) hRel) (fun r1 h1 H1 locs1 q1 S1 => ?_)
  refine lv_aload_n hx hb jd_860 rfl (lv_at hl 2 rfl) ?_
  refine lv_aload_n hx hb jd_861 rfl (lv_at hl 0 rfl) ?_
  refine lv_iload_n hx hb jd_862 rfl (lv_at hl 3 rfl) ?_
  refine lv_iconst (v := 1) hx hb jd_863 (by decide) ?_
  refine lv_iadd hx hb jd_864 ?_
  refine va_sld hx hb hX hbl hbA S1.2.2.1 hin.1 jd_865 ?_
  refine lv_aload_n hx hb jd_866 rfl (lv_at hl 0 rfl) ?_
  refine lv_iload_n hx hb jd_867 rfl (lv_at hl 3 rfl) ?_
  refine lv_iconst (v := 2) hx hb jd_868 (by decide) ?_
  refine lv_iadd hx hb jd_869 ?_
  refine va_sld hx hb hX hbl hbA S1.2.2.1 hin.2.1 jd_870 ?_
  refine jlw_callM (Y' := jm_MD_plan) (As := [(xs (x + 1).toNatClampNeg), (xs (x + 2).toNatClampNeg)]) (rest := [.int r1]) C hlr jd_871 (jx_pw_in (q := (9, 188)) rfl) jm_MD_plan_f rfl rfl rfl (by first | exact Or.inl rfl | exact Or.inr rfl) rfl (by decide) (Nat.le_of_ble_eq_true rfl) S1 q1 (fun r2 h2 H2 locs2 q2 S2 => ?_)
  refine lv_icmp_eq (tgt := 1353) hx hb jd_874 (by decide) (fun _ => ?_) (fun z => absurd (Sum.inl.inj (Option.some.inj q2.1)) z)
  exact k _ _ _ _ q2.2 S2
set_option maxHeartbeats 4000000 in
set_option maxRecDepth 100000 in
theorem jlw_c25 {p : Program} {l : Launch} {e : Env} {s : State} {m : MethodId} {below : List Frame} {meth : Method} {c : Code} {b L : Nat} {xs : Nat → Int32} {G : jlw_G} {H : Heap} {locs : List Loc} {lr : Array Slot} {Z : State → Prop} {hc hm : jx_H} {x : Int32} (C : jlw_C p s m meth c b L xs G) (hRel : jz_Rel hc hm) (S : jlw_S s G hc hm H locs) (hl : lv_has lr 4 [(0, .ref b), (1, .ref s.heap.size), (2, .ref (s.heap.size + 128)), (3, .int x)]) (hin : vp_in (x + 1) L ∧ vp_in (x + 2) L ∧ vp_in (x + 3) L ∧ vp_in (x + 4) L ∧ vp_in (x + 5) L) (k : ∀ (hc' hm' : jx_H) (H1 : Heap) (locs1 : List Loc), jz_Rel hc' hm' → jlw_S s G hc' hm' H1 locs1 → W p l e room_1 s m #[Value.ref b] below meth c H1 locs1 600000 7302250 Z (F0 m 1353 lr [])) : W p l e room_1 s m #[Value.ref b] below meth c H locs 600000 7302250 Z (F0 m 879 lr []) := by
  obtain ⟨hx, hb, hr, hml, hown, htl, hX, hbl, hlk, hgv⟩ := id C.1
  have hbA : ¬ jlw_A s b := Nat.not_le.mpr hbl
  have hlr : lr.size = 4 := hl.1
  refine lv_aload_n hx hb jd_879 rfl (lv_at hl 1 rfl) ?_
  refine lv_aload_n hx hb jd_880 rfl (lv_at hl 0 rfl) ?_
  refine lv_iload_n hx hb jd_881 rfl (lv_at hl 3 rfl) ?_
  refine lv_iconst (v := 1) hx hb jd_882 (by decide) ?_
  refine lv_iadd hx hb jd_883 ?_
  refine va_sld hx hb hX hbl hbA S.2.2.1 hin.1 jd_884 ?_
  refine lv_aload_n hx hb jd_885 rfl (lv_at hl 0 rfl) ?_
  refine lv_iload_n hx hb jd_886 rfl (lv_at hl 3 rfl) ?_
  refine lv_iconst (v := 2) hx hb jd_887 (by decide) ?_
  refine lv_iadd hx hb jd_888 ?_
  refine va_sld hx hb hX hbl hbA S.2.2.1 hin.2.1 jd_889 ?_
  refine jlw_callC (Y' := jm_JV_span) (As := [(xs (x + 1).toNatClampNeg), (xs (x + 2).toNatClampNeg)]) (rest := []) C hlr jd_890 (jx_pw_in (q := (6, 67)) rfl) jm_JV_span_f rfl rfl rfl (by first | exact Or.inl rfl | exact Or.inr rfl) rfl (by decide) (Nat.le_of_ble_eq_true rfl) S (pd_span (d := 0) hRel) (fun r1 h1 H1 locs1 q1 S1 => ?_)
  refine lv_aload_n hx hb jd_893 rfl (lv_at hl 2 rfl) ?_
  refine lv_aload_n hx hb jd_894 rfl (lv_at hl 0 rfl) ?_
  refine lv_iload_n hx hb jd_895 rfl (lv_at hl 3 rfl) ?_
  refine lv_iconst (v := 1) hx hb jd_896 (by decide) ?_
  refine lv_iadd hx hb jd_897 ?_
  refine va_sld hx hb hX hbl hbA S1.2.2.1 hin.1 jd_898 ?_
  refine lv_aload_n hx hb jd_899 rfl (lv_at hl 0 rfl) ?_
  refine lv_iload_n hx hb jd_900 rfl (lv_at hl 3 rfl) ?_
  refine lv_iconst (v := 2) hx hb jd_901 (by decide) ?_
  refine lv_iadd hx hb jd_902 ?_
  refine va_sld hx hb hX hbl hbA S1.2.2.1 hin.2.1 jd_903 ?_
  refine jlw_callM (Y' := jm_MD_span) (As := [(xs (x + 1).toNatClampNeg), (xs (x + 2).toNatClampNeg)]) (rest := [.int r1]) C hlr jd_904 (jx_pw_in (q := (9, 201)) rfl) jm_MD_span_f rfl rfl rfl (by first | exact Or.inl rfl | exact Or.inr rfl) rfl (by decide) (Nat.le_of_ble_eq_true rfl) S1 q1 (fun r2 h2 H2 locs2 q2 S2 => ?_)
  refine lv_icmp_eq (tgt := 1353) hx hb jd_907 (by decide) (fun _ => ?_) (fun z => absurd (Sum.inl.inj (Option.some.inj q2.1)) z)
  exact k _ _ _ _ q2.2 S2
set_option maxHeartbeats 4000000 in
set_option maxRecDepth 100000 in
theorem jlw_c26 {p : Program} {l : Launch} {e : Env} {s : State} {m : MethodId} {below : List Frame} {meth : Method} {c : Code} {b L : Nat} {xs : Nat → Int32} {G : jlw_G} {H : Heap} {locs : List Loc} {lr : Array Slot} {Z : State → Prop} {hc hm : jx_H} {x : Int32} (C : jlw_C p s m meth c b L xs G) (hRel : jz_Rel hc hm) (S : jlw_S s G hc hm H locs) (hl : lv_has lr 4 [(0, .ref b), (1, .ref s.heap.size), (2, .ref (s.heap.size + 128)), (3, .int x)]) (hin : vp_in (x + 1) L ∧ vp_in (x + 2) L ∧ vp_in (x + 3) L ∧ vp_in (x + 4) L ∧ vp_in (x + 5) L) (k : ∀ (hc' hm' : jx_H) (H1 : Heap) (locs1 : List Loc), jz_Rel hc' hm' → jlw_S s G hc' hm' H1 locs1 → W p l e room_1 s m #[Value.ref b] below meth c H1 locs1 600000 7302250 Z (F0 m 1353 lr [])) : W p l e room_1 s m #[Value.ref b] below meth c H locs 600000 7302250 Z (F0 m 912 lr []) := by
  obtain ⟨hx, hb, hr, hml, hown, htl, hX, hbl, hlk, hgv⟩ := id C.1
  have hbA : ¬ jlw_A s b := Nat.not_le.mpr hbl
  have hlr : lr.size = 4 := hl.1
  refine lv_aload_n hx hb jd_912 rfl (lv_at hl 1 rfl) ?_
  refine lv_aload_n hx hb jd_913 rfl (lv_at hl 0 rfl) ?_
  refine lv_iload_n hx hb jd_914 rfl (lv_at hl 3 rfl) ?_
  refine lv_iconst (v := 1) hx hb jd_915 (by decide) ?_
  refine lv_iadd hx hb jd_916 ?_
  refine va_sld hx hb hX hbl hbA S.2.2.1 hin.1 jd_917 ?_
  refine lv_aload_n hx hb jd_918 rfl (lv_at hl 0 rfl) ?_
  refine lv_iload_n hx hb jd_919 rfl (lv_at hl 3 rfl) ?_
  refine lv_iconst (v := 2) hx hb jd_920 (by decide) ?_
  refine lv_iadd hx hb jd_921 ?_
  refine va_sld hx hb hX hbl hbA S.2.2.1 hin.2.1 jd_922 ?_
  refine lv_aload_n hx hb jd_923 rfl (lv_at hl 0 rfl) ?_
  refine lv_iload_n hx hb jd_924 rfl (lv_at hl 3 rfl) ?_
  refine lv_iconst (v := 3) hx hb jd_925 (by decide) ?_
  refine lv_iadd hx hb jd_926 ?_
  refine va_sld hx hb hX hbl hbA S.2.2.1 hin.2.2.1 jd_927 ?_
  refine lv_if_eq (tgt := 935) hx hb jd_928 (by decide) (fun c928 => ?_) (fun c928 => ?_)
  · refine lv_iconst (v := 0) hx hb jd_935 (by decide) ?_
    refine jlw_callC (Y' := jm_JV_skew) (As := [(xs (x + 1).toNatClampNeg), (xs (x + 2).toNatClampNeg), 0]) (rest := []) C hlr jd_936 (jx_pw_in (q := (6, 90)) rfl) jm_JV_skew_f rfl rfl rfl (by first | exact Or.inl rfl | exact Or.inr rfl) rfl (by decide) (Nat.le_of_ble_eq_true rfl) S (pd_skew (d := 0) hRel) (fun r1 h1 H1 locs1 q1 S1 => ?_)
    refine lv_aload_n hx hb jd_939 rfl (lv_at hl 2 rfl) ?_
    refine lv_aload_n hx hb jd_940 rfl (lv_at hl 0 rfl) ?_
    refine lv_iload_n hx hb jd_941 rfl (lv_at hl 3 rfl) ?_
    refine lv_iconst (v := 1) hx hb jd_942 (by decide) ?_
    refine lv_iadd hx hb jd_943 ?_
    refine va_sld hx hb hX hbl hbA S1.2.2.1 hin.1 jd_944 ?_
    refine lv_aload_n hx hb jd_945 rfl (lv_at hl 0 rfl) ?_
    refine lv_iload_n hx hb jd_946 rfl (lv_at hl 3 rfl) ?_
    refine lv_iconst (v := 2) hx hb jd_947 (by decide) ?_
    refine lv_iadd hx hb jd_948 ?_
    refine va_sld hx hb hX hbl hbA S1.2.2.1 hin.2.1 jd_949 ?_
    refine lv_aload_n hx hb jd_950 rfl (lv_at hl 0 rfl) ?_
    refine lv_iload_n hx hb jd_951 rfl (lv_at hl 3 rfl) ?_
    refine lv_iconst (v := 3) hx hb jd_952 (by decide) ?_
    refine lv_iadd hx hb jd_953 ?_
    refine va_sld hx hb hX hbl hbA S1.2.2.1 hin.2.2.1 jd_954 ?_
    refine lv_if_eq (tgt := 962) hx hb jd_955 (by decide) (fun _ => ?_) (fun z => absurd c928 z)
    refine lv_iconst (v := 0) hx hb jd_962 (by decide) ?_
    refine jlw_callM (Y' := jm_MD_skew) (As := [(xs (x + 1).toNatClampNeg), (xs (x + 2).toNatClampNeg), 0]) (rest := [.int r1]) C hlr jd_963 (jx_pw_in (q := (9, 205)) rfl) jm_MD_skew_f rfl rfl rfl (by first | exact Or.inl rfl | exact Or.inr rfl) rfl (by decide) (Nat.le_of_ble_eq_true rfl) S1 q1 (fun r2 h2 H2 locs2 q2 S2 => ?_)
    refine lv_icmp_eq (tgt := 1353) hx hb jd_966 (by decide) (fun _ => ?_) (fun z => absurd (Sum.inl.inj (Option.some.inj q2.1)) z)
    exact k _ _ _ _ q2.2 S2
  · refine lv_iconst (v := 1) hx hb jd_931 (by decide) ?_
    refine lv_goto (tgt := 936) hx hb jd_932 (by decide) ?_
    refine jlw_callC (Y' := jm_JV_skew) (As := [(xs (x + 1).toNatClampNeg), (xs (x + 2).toNatClampNeg), 1]) (rest := []) C hlr jd_936 (jx_pw_in (q := (6, 90)) rfl) jm_JV_skew_f rfl rfl rfl (by first | exact Or.inl rfl | exact Or.inr rfl) rfl (by decide) (Nat.le_of_ble_eq_true rfl) S (pd_skew (d := 0) hRel) (fun r1 h1 H1 locs1 q1 S1 => ?_)
    refine lv_aload_n hx hb jd_939 rfl (lv_at hl 2 rfl) ?_
    refine lv_aload_n hx hb jd_940 rfl (lv_at hl 0 rfl) ?_
    refine lv_iload_n hx hb jd_941 rfl (lv_at hl 3 rfl) ?_
    refine lv_iconst (v := 1) hx hb jd_942 (by decide) ?_
    refine lv_iadd hx hb jd_943 ?_
    refine va_sld hx hb hX hbl hbA S1.2.2.1 hin.1 jd_944 ?_
    refine lv_aload_n hx hb jd_945 rfl (lv_at hl 0 rfl) ?_
    refine lv_iload_n hx hb jd_946 rfl (lv_at hl 3 rfl) ?_
    refine lv_iconst (v := 2) hx hb jd_947 (by decide) ?_
    refine lv_iadd hx hb jd_948 ?_
    refine va_sld hx hb hX hbl hbA S1.2.2.1 hin.2.1 jd_949 ?_
    refine lv_aload_n hx hb jd_950 rfl (lv_at hl 0 rfl) ?_
    refine lv_iload_n hx hb jd_951 rfl (lv_at hl 3 rfl) ?_
    refine lv_iconst (v := 3) hx hb jd_952 (by decide) ?_
    refine lv_iadd hx hb jd_953 ?_
    refine va_sld hx hb hX hbl hbA S1.2.2.1 hin.2.2.1 jd_954 ?_
    refine lv_if_eq (tgt := 962) hx hb jd_955 (by decide) (fun z => absurd z c928) (fun _ => ?_)
    refine lv_iconst (v := 1) hx hb jd_958 (by decide) ?_
    refine lv_goto (tgt := 963) hx hb jd_959 (by decide) ?_
    refine jlw_callM (Y' := jm_MD_skew) (As := [(xs (x + 1).toNatClampNeg), (xs (x + 2).toNatClampNeg), 1]) (rest := [.int r1]) C hlr jd_963 (jx_pw_in (q := (9, 205)) rfl) jm_MD_skew_f rfl rfl rfl (by first | exact Or.inl rfl | exact Or.inr rfl) rfl (by decide) (Nat.le_of_ble_eq_true rfl) S1 q1 (fun r2 h2 H2 locs2 q2 S2 => ?_)
    refine lv_icmp_eq (tgt := 1353) hx hb jd_966 (by decide) (fun _ => ?_) (fun z => absurd (Sum.inl.inj (Option.some.inj q2.1)) z)
    exact k _ _ _ _ q2.2 S2
set_option maxHeartbeats 4000000 in
set_option maxRecDepth 100000 in
theorem jlw_c27 {p : Program} {l : Launch} {e : Env} {s : State} {m : MethodId} {below : List Frame} {meth : Method} {c : Code} {b L : Nat} {xs : Nat → Int32} {G : jlw_G} {H : Heap} {locs : List Loc} {lr : Array Slot} {Z : State → Prop} {hc hm : jx_H} {x : Int32} (C : jlw_C p s m meth c b L xs G) (hRel : jz_Rel hc hm) (S : jlw_S s G hc hm H locs) (hl : lv_has lr 4 [(0, .ref b), (1, .ref s.heap.size), (2, .ref (s.heap.size + 128)), (3, .int x)]) (hin : vp_in (x + 1) L ∧ vp_in (x + 2) L ∧ vp_in (x + 3) L ∧ vp_in (x + 4) L ∧ vp_in (x + 5) L) (k : ∀ (hc' hm' : jx_H) (H1 : Heap) (locs1 : List Loc), jz_Rel hc' hm' → jlw_S s G hc' hm' H1 locs1 → W p l e room_1 s m #[Value.ref b] below meth c H1 locs1 600000 7302250 Z (F0 m 1353 lr [])) : W p l e room_1 s m #[Value.ref b] below meth c H locs 600000 7302250 Z (F0 m 971 lr []) := by
  obtain ⟨hx, hb, hr, hml, hown, htl, hX, hbl, hlk, hgv⟩ := id C.1
  have hbA : ¬ jlw_A s b := Nat.not_le.mpr hbl
  have hlr : lr.size = 4 := hl.1
  refine lv_aload_n hx hb jd_971 rfl (lv_at hl 1 rfl) ?_
  refine lv_aload_n hx hb jd_972 rfl (lv_at hl 0 rfl) ?_
  refine lv_iload_n hx hb jd_973 rfl (lv_at hl 3 rfl) ?_
  refine lv_iconst (v := 1) hx hb jd_974 (by decide) ?_
  refine lv_iadd hx hb jd_975 ?_
  refine va_sld hx hb hX hbl hbA S.2.2.1 hin.1 jd_976 ?_
  refine jlw_callC (Y' := jm_JV_again) (As := [(xs (x + 1).toNatClampNeg)]) (rest := []) C hlr jd_977 (jx_pw_in (q := (6, 110)) rfl) jm_JV_again_f rfl rfl rfl (by first | exact Or.inl rfl | exact Or.inr rfl) rfl (by decide) (Nat.le_of_ble_eq_true rfl) S (pd_again (d := 0) hRel) (fun r1 h1 H1 locs1 q1 S1 => ?_)
  refine lv_aload_n hx hb jd_980 rfl (lv_at hl 2 rfl) ?_
  refine lv_aload_n hx hb jd_981 rfl (lv_at hl 0 rfl) ?_
  refine lv_iload_n hx hb jd_982 rfl (lv_at hl 3 rfl) ?_
  refine lv_iconst (v := 1) hx hb jd_983 (by decide) ?_
  refine lv_iadd hx hb jd_984 ?_
  refine va_sld hx hb hX hbl hbA S1.2.2.1 hin.1 jd_985 ?_
  refine jlw_callM (Y' := jm_MD_again) (As := [(xs (x + 1).toNatClampNeg)]) (rest := [.int r1]) C hlr jd_986 (jx_pw_in (q := (9, 225)) rfl) jm_MD_again_f rfl rfl rfl (by first | exact Or.inl rfl | exact Or.inr rfl) rfl (by decide) (Nat.le_of_ble_eq_true rfl) S1 q1 (fun r2 h2 H2 locs2 q2 S2 => ?_)
  refine lv_icmp_eq (tgt := 1353) hx hb jd_989 (by decide) (fun _ => ?_) (fun z => absurd (Sum.inl.inj (Option.some.inj q2.1)) z)
  exact k _ _ _ _ q2.2 S2
set_option maxHeartbeats 4000000 in
set_option maxRecDepth 100000 in
theorem jlw_c28 {p : Program} {l : Launch} {e : Env} {s : State} {m : MethodId} {below : List Frame} {meth : Method} {c : Code} {b L : Nat} {xs : Nat → Int32} {G : jlw_G} {H : Heap} {locs : List Loc} {lr : Array Slot} {Z : State → Prop} {hc hm : jx_H} {x : Int32} (C : jlw_C p s m meth c b L xs G) (hRel : jz_Rel hc hm) (S : jlw_S s G hc hm H locs) (hl : lv_has lr 4 [(0, .ref b), (1, .ref s.heap.size), (2, .ref (s.heap.size + 128)), (3, .int x)]) (hin : vp_in (x + 1) L ∧ vp_in (x + 2) L ∧ vp_in (x + 3) L ∧ vp_in (x + 4) L ∧ vp_in (x + 5) L) (k : ∀ (hc' hm' : jx_H) (H1 : Heap) (locs1 : List Loc), jz_Rel hc' hm' → jlw_S s G hc' hm' H1 locs1 → W p l e room_1 s m #[Value.ref b] below meth c H1 locs1 600000 7302250 Z (F0 m 1353 lr [])) : W p l e room_1 s m #[Value.ref b] below meth c H locs 600000 7302250 Z (F0 m 994 lr []) := by
  obtain ⟨hx, hb, hr, hml, hown, htl, hX, hbl, hlk, hgv⟩ := id C.1
  have hbA : ¬ jlw_A s b := Nat.not_le.mpr hbl
  have hlr : lr.size = 4 := hl.1
  refine lv_aload_n hx hb jd_994 rfl (lv_at hl 1 rfl) ?_
  refine lv_aload_n hx hb jd_995 rfl (lv_at hl 0 rfl) ?_
  refine lv_iload_n hx hb jd_996 rfl (lv_at hl 3 rfl) ?_
  refine lv_iconst (v := 1) hx hb jd_997 (by decide) ?_
  refine lv_iadd hx hb jd_998 ?_
  refine va_sld hx hb hX hbl hbA S.2.2.1 hin.1 jd_999 ?_
  refine lv_aload_n hx hb jd_1000 rfl (lv_at hl 0 rfl) ?_
  refine lv_iload_n hx hb jd_1001 rfl (lv_at hl 3 rfl) ?_
  refine lv_iconst (v := 2) hx hb jd_1002 (by decide) ?_
  refine lv_iadd hx hb jd_1003 ?_
  refine va_sld hx hb hX hbl hbA S.2.2.1 hin.2.1 jd_1004 ?_
  refine lv_aload_n hx hb jd_1005 rfl (lv_at hl 0 rfl) ?_
  refine lv_iload_n hx hb jd_1006 rfl (lv_at hl 3 rfl) ?_
  refine lv_iconst (v := 3) hx hb jd_1007 (by decide) ?_
  refine lv_iadd hx hb jd_1008 ?_
  refine va_sld hx hb hX hbl hbA S.2.2.1 hin.2.2.1 jd_1009 ?_
  refine jlw_callC (Y' := jm_JV_ahead) (As := [(xs (x + 1).toNatClampNeg), (xs (x + 2).toNatClampNeg), (xs (x + 3).toNatClampNeg)]) (rest := []) C hlr jd_1010 (jx_pw_in (q := (6, 123)) rfl) jm_JV_ahead_f rfl rfl rfl (by first | exact Or.inl rfl | exact Or.inr rfl) rfl (by decide) (Nat.le_of_ble_eq_true rfl) S (pd_ahead (d := 0) hRel) (fun r1 h1 H1 locs1 q1 S1 => ?_)
  refine lv_aload_n hx hb jd_1013 rfl (lv_at hl 2 rfl) ?_
  refine lv_aload_n hx hb jd_1014 rfl (lv_at hl 0 rfl) ?_
  refine lv_iload_n hx hb jd_1015 rfl (lv_at hl 3 rfl) ?_
  refine lv_iconst (v := 1) hx hb jd_1016 (by decide) ?_
  refine lv_iadd hx hb jd_1017 ?_
  refine va_sld hx hb hX hbl hbA S1.2.2.1 hin.1 jd_1018 ?_
  refine lv_aload_n hx hb jd_1019 rfl (lv_at hl 0 rfl) ?_
  refine lv_iload_n hx hb jd_1020 rfl (lv_at hl 3 rfl) ?_
  refine lv_iconst (v := 2) hx hb jd_1021 (by decide) ?_
  refine lv_iadd hx hb jd_1022 ?_
  refine va_sld hx hb hX hbl hbA S1.2.2.1 hin.2.1 jd_1023 ?_
  refine lv_aload_n hx hb jd_1024 rfl (lv_at hl 0 rfl) ?_
  refine lv_iload_n hx hb jd_1025 rfl (lv_at hl 3 rfl) ?_
  refine lv_iconst (v := 3) hx hb jd_1026 (by decide) ?_
  refine lv_iadd hx hb jd_1027 ?_
  refine va_sld hx hb hX hbl hbA S1.2.2.1 hin.2.2.1 jd_1028 ?_
  refine jlw_callM (Y' := jm_MD_ahead) (As := [(xs (x + 1).toNatClampNeg), (xs (x + 2).toNatClampNeg), (xs (x + 3).toNatClampNeg)]) (rest := [.int r1]) C hlr jd_1029 (jx_pw_in (q := (9, 237)) rfl) jm_MD_ahead_f rfl rfl rfl (by first | exact Or.inl rfl | exact Or.inr rfl) rfl (by decide) (Nat.le_of_ble_eq_true rfl) S1 q1 (fun r2 h2 H2 locs2 q2 S2 => ?_)
  refine lv_icmp_eq (tgt := 1353) hx hb jd_1032 (by decide) (fun _ => ?_) (fun z => absurd (Sum.inl.inj (Option.some.inj q2.1)) z)
  exact k _ _ _ _ q2.2 S2
set_option maxHeartbeats 4000000 in
set_option maxRecDepth 100000 in
theorem jlw_c29 {p : Program} {l : Launch} {e : Env} {s : State} {m : MethodId} {below : List Frame} {meth : Method} {c : Code} {b L : Nat} {xs : Nat → Int32} {G : jlw_G} {H : Heap} {locs : List Loc} {lr : Array Slot} {Z : State → Prop} {hc hm : jx_H} {x : Int32} (C : jlw_C p s m meth c b L xs G) (hRel : jz_Rel hc hm) (S : jlw_S s G hc hm H locs) (hl : lv_has lr 4 [(0, .ref b), (1, .ref s.heap.size), (2, .ref (s.heap.size + 128)), (3, .int x)]) (hin : vp_in (x + 1) L ∧ vp_in (x + 2) L ∧ vp_in (x + 3) L ∧ vp_in (x + 4) L ∧ vp_in (x + 5) L) (k : ∀ (hc' hm' : jx_H) (H1 : Heap) (locs1 : List Loc), jz_Rel hc' hm' → jlw_S s G hc' hm' H1 locs1 → W p l e room_1 s m #[Value.ref b] below meth c H1 locs1 600000 7302250 Z (F0 m 1353 lr [])) : W p l e room_1 s m #[Value.ref b] below meth c H locs 600000 7302250 Z (F0 m 1037 lr []) := by
  obtain ⟨hx, hb, hr, hml, hown, htl, hX, hbl, hlk, hgv⟩ := id C.1
  have hbA : ¬ jlw_A s b := Nat.not_le.mpr hbl
  have hlr : lr.size = 4 := hl.1
  refine lv_aload_n hx hb jd_1037 rfl (lv_at hl 1 rfl) ?_
  refine lv_aload_n hx hb jd_1038 rfl (lv_at hl 0 rfl) ?_
  refine lv_iload_n hx hb jd_1039 rfl (lv_at hl 3 rfl) ?_
  refine lv_iconst (v := 1) hx hb jd_1040 (by decide) ?_
  refine lv_iadd hx hb jd_1041 ?_
  refine va_sld hx hb hX hbl hbA S.2.2.1 hin.1 jd_1042 ?_
  refine lv_aload_n hx hb jd_1043 rfl (lv_at hl 0 rfl) ?_
  refine lv_iload_n hx hb jd_1044 rfl (lv_at hl 3 rfl) ?_
  refine lv_iconst (v := 2) hx hb jd_1045 (by decide) ?_
  refine lv_iadd hx hb jd_1046 ?_
  refine va_sld hx hb hX hbl hbA S.2.2.1 hin.2.1 jd_1047 ?_
  refine jlw_callC (Y' := jm_JV_net) (As := [(xs (x + 1).toNatClampNeg), (xs (x + 2).toNatClampNeg)]) (rest := []) C hlr jd_1048 (jx_pw_in (q := (6, 144)) rfl) jm_JV_net_f rfl rfl rfl (by first | exact Or.inl rfl | exact Or.inr rfl) rfl (by decide) (Nat.le_of_ble_eq_true rfl) S (pd_net (d := 0) hRel) (fun r1 h1 H1 locs1 q1 S1 => ?_)
  refine lv_aload_n hx hb jd_1051 rfl (lv_at hl 2 rfl) ?_
  refine lv_aload_n hx hb jd_1052 rfl (lv_at hl 0 rfl) ?_
  refine lv_iload_n hx hb jd_1053 rfl (lv_at hl 3 rfl) ?_
  refine lv_iconst (v := 1) hx hb jd_1054 (by decide) ?_
  refine lv_iadd hx hb jd_1055 ?_
  refine va_sld hx hb hX hbl hbA S1.2.2.1 hin.1 jd_1056 ?_
  refine lv_aload_n hx hb jd_1057 rfl (lv_at hl 0 rfl) ?_
  refine lv_iload_n hx hb jd_1058 rfl (lv_at hl 3 rfl) ?_
  refine lv_iconst (v := 2) hx hb jd_1059 (by decide) ?_
  refine lv_iadd hx hb jd_1060 ?_
  refine va_sld hx hb hX hbl hbA S1.2.2.1 hin.2.1 jd_1061 ?_
  refine jlw_callM (Y' := jm_MD_net) (As := [(xs (x + 1).toNatClampNeg), (xs (x + 2).toNatClampNeg)]) (rest := [.int r1]) C hlr jd_1062 (jx_pw_in (q := (10, 5)) rfl) jm_MD_net_f rfl rfl rfl (by first | exact Or.inl rfl | exact Or.inr rfl) rfl (by decide) (Nat.le_of_ble_eq_true rfl) S1 q1 (fun r2 h2 H2 locs2 q2 S2 => ?_)
  refine lv_icmp_eq (tgt := 1353) hx hb jd_1065 (by decide) (fun _ => ?_) (fun z => absurd (Sum.inl.inj (Option.some.inj q2.1)) z)
  exact k _ _ _ _ q2.2 S2
set_option maxHeartbeats 4000000 in
set_option maxRecDepth 100000 in
theorem jlw_c30 {p : Program} {l : Launch} {e : Env} {s : State} {m : MethodId} {below : List Frame} {meth : Method} {c : Code} {b L : Nat} {xs : Nat → Int32} {G : jlw_G} {H : Heap} {locs : List Loc} {lr : Array Slot} {Z : State → Prop} {hc hm : jx_H} {x : Int32} (C : jlw_C p s m meth c b L xs G) (hRel : jz_Rel hc hm) (S : jlw_S s G hc hm H locs) (hl : lv_has lr 4 [(0, .ref b), (1, .ref s.heap.size), (2, .ref (s.heap.size + 128)), (3, .int x)]) (hin : vp_in (x + 1) L ∧ vp_in (x + 2) L ∧ vp_in (x + 3) L ∧ vp_in (x + 4) L ∧ vp_in (x + 5) L) (k : ∀ (hc' hm' : jx_H) (H1 : Heap) (locs1 : List Loc), jz_Rel hc' hm' → jlw_S s G hc' hm' H1 locs1 → W p l e room_1 s m #[Value.ref b] below meth c H1 locs1 600000 7302250 Z (F0 m 1353 lr [])) : W p l e room_1 s m #[Value.ref b] below meth c H locs 600000 7302250 Z (F0 m 1070 lr []) := by
  obtain ⟨hx, hb, hr, hml, hown, htl, hX, hbl, hlk, hgv⟩ := id C.1
  have hbA : ¬ jlw_A s b := Nat.not_le.mpr hbl
  have hlr : lr.size = 4 := hl.1
  refine lv_aload_n hx hb jd_1070 rfl (lv_at hl 1 rfl) ?_
  refine lv_aload_n hx hb jd_1071 rfl (lv_at hl 0 rfl) ?_
  refine lv_iload_n hx hb jd_1072 rfl (lv_at hl 3 rfl) ?_
  refine lv_iconst (v := 1) hx hb jd_1073 (by decide) ?_
  refine lv_iadd hx hb jd_1074 ?_
  refine va_sld hx hb hX hbl hbA S.2.2.1 hin.1 jd_1075 ?_
  refine jlw_callC (Y' := jm_JV_lies) (As := [(xs (x + 1).toNatClampNeg)]) (rest := []) C hlr jd_1076 (jx_pw_in (q := (6, 152)) rfl) jm_JV_lies_f rfl rfl rfl (by first | exact Or.inl rfl | exact Or.inr rfl) rfl (by decide) (Nat.le_of_ble_eq_true rfl) S (pd_lies (d := 0) hRel) (fun r1 h1 H1 locs1 q1 S1 => ?_)
  refine lv_aload_n hx hb jd_1079 rfl (lv_at hl 2 rfl) ?_
  refine lv_aload_n hx hb jd_1080 rfl (lv_at hl 0 rfl) ?_
  refine lv_iload_n hx hb jd_1081 rfl (lv_at hl 3 rfl) ?_
  refine lv_iconst (v := 1) hx hb jd_1082 (by decide) ?_
  refine lv_iadd hx hb jd_1083 ?_
  refine va_sld hx hb hX hbl hbA S1.2.2.1 hin.1 jd_1084 ?_
  refine jlw_callM (Y' := jm_MD_lies) (As := [(xs (x + 1).toNatClampNeg)]) (rest := [.int r1]) C hlr jd_1085 (jx_pw_in (q := (9, 172)) rfl) jm_MD_lies_f rfl rfl rfl (by first | exact Or.inl rfl | exact Or.inr rfl) rfl (by decide) (Nat.le_of_ble_eq_true rfl) S1 q1 (fun r2 h2 H2 locs2 q2 S2 => ?_)
  refine lv_icmp_eq (tgt := 1353) hx hb jd_1088 (by decide) (fun _ => ?_) (fun z => absurd (Sum.inl.inj (Option.some.inj q2.1)) z)
  exact k _ _ _ _ q2.2 S2
set_option maxHeartbeats 4000000 in
set_option maxRecDepth 100000 in
theorem jlw_c31 {p : Program} {l : Launch} {e : Env} {s : State} {m : MethodId} {below : List Frame} {meth : Method} {c : Code} {b L : Nat} {xs : Nat → Int32} {G : jlw_G} {H : Heap} {locs : List Loc} {lr : Array Slot} {Z : State → Prop} {hc hm : jx_H} {x : Int32} (C : jlw_C p s m meth c b L xs G) (hRel : jz_Rel hc hm) (S : jlw_S s G hc hm H locs) (hl : lv_has lr 4 [(0, .ref b), (1, .ref s.heap.size), (2, .ref (s.heap.size + 128)), (3, .int x)]) (hin : vp_in (x + 1) L ∧ vp_in (x + 2) L ∧ vp_in (x + 3) L ∧ vp_in (x + 4) L ∧ vp_in (x + 5) L) (k : ∀ (hc' hm' : jx_H) (H1 : Heap) (locs1 : List Loc), jz_Rel hc' hm' → jlw_S s G hc' hm' H1 locs1 → W p l e room_1 s m #[Value.ref b] below meth c H1 locs1 600000 7302250 Z (F0 m 1353 lr [])) : W p l e room_1 s m #[Value.ref b] below meth c H locs 600000 7302250 Z (F0 m 1093 lr []) := by
  obtain ⟨hx, hb, hr, hml, hown, htl, hX, hbl, hlk, hgv⟩ := id C.1
  have hbA : ¬ jlw_A s b := Nat.not_le.mpr hbl
  have hlr : lr.size = 4 := hl.1
  refine lv_aload_n hx hb jd_1093 rfl (lv_at hl 1 rfl) ?_
  refine lv_aload_n hx hb jd_1094 rfl (lv_at hl 0 rfl) ?_
  refine lv_iload_n hx hb jd_1095 rfl (lv_at hl 3 rfl) ?_
  refine lv_iconst (v := 1) hx hb jd_1096 (by decide) ?_
  refine lv_iadd hx hb jd_1097 ?_
  refine va_sld hx hb hX hbl hbA S.2.2.1 hin.1 jd_1098 ?_
  refine lv_aload_n hx hb jd_1099 rfl (lv_at hl 0 rfl) ?_
  refine lv_iload_n hx hb jd_1100 rfl (lv_at hl 3 rfl) ?_
  refine lv_iconst (v := 2) hx hb jd_1101 (by decide) ?_
  refine lv_iadd hx hb jd_1102 ?_
  refine va_sld hx hb hX hbl hbA S.2.2.1 hin.2.1 jd_1103 ?_
  refine lv_aload_n hx hb jd_1104 rfl (lv_at hl 0 rfl) ?_
  refine lv_iload_n hx hb jd_1105 rfl (lv_at hl 3 rfl) ?_
  refine lv_iconst (v := 3) hx hb jd_1106 (by decide) ?_
  refine lv_iadd hx hb jd_1107 ?_
  refine va_sld hx hb hX hbl hbA S.2.2.1 hin.2.2.1 jd_1108 ?_
  refine jlw_callC (Y' := jm_JV_ledger) (As := [(xs (x + 1).toNatClampNeg), (xs (x + 2).toNatClampNeg), (xs (x + 3).toNatClampNeg)]) (rest := []) C hlr jd_1109 (jx_pw_in (q := (6, 156)) rfl) jm_JV_ledger_f rfl rfl rfl (by first | exact Or.inl rfl | exact Or.inr rfl) rfl (by decide) (Nat.le_of_ble_eq_true rfl) S (pd_ledger (d := 0) hRel) (fun r1 h1 H1 locs1 q1 S1 => ?_)
  refine lv_aload_n hx hb jd_1112 rfl (lv_at hl 2 rfl) ?_
  refine lv_aload_n hx hb jd_1113 rfl (lv_at hl 0 rfl) ?_
  refine lv_iload_n hx hb jd_1114 rfl (lv_at hl 3 rfl) ?_
  refine lv_iconst (v := 1) hx hb jd_1115 (by decide) ?_
  refine lv_iadd hx hb jd_1116 ?_
  refine va_sld hx hb hX hbl hbA S1.2.2.1 hin.1 jd_1117 ?_
  refine lv_aload_n hx hb jd_1118 rfl (lv_at hl 0 rfl) ?_
  refine lv_iload_n hx hb jd_1119 rfl (lv_at hl 3 rfl) ?_
  refine lv_iconst (v := 2) hx hb jd_1120 (by decide) ?_
  refine lv_iadd hx hb jd_1121 ?_
  refine va_sld hx hb hX hbl hbA S1.2.2.1 hin.2.1 jd_1122 ?_
  refine lv_aload_n hx hb jd_1123 rfl (lv_at hl 0 rfl) ?_
  refine lv_iload_n hx hb jd_1124 rfl (lv_at hl 3 rfl) ?_
  refine lv_iconst (v := 3) hx hb jd_1125 (by decide) ?_
  refine lv_iadd hx hb jd_1126 ?_
  refine va_sld hx hb hX hbl hbA S1.2.2.1 hin.2.2.1 jd_1127 ?_
  refine jlw_callM (Y' := jm_MD_ledger) (As := [(xs (x + 1).toNatClampNeg), (xs (x + 2).toNatClampNeg), (xs (x + 3).toNatClampNeg)]) (rest := [.int r1]) C hlr jd_1128 (jx_pw_in (q := (10, 9)) rfl) jm_MD_ledger_f rfl rfl rfl (by first | exact Or.inl rfl | exact Or.inr rfl) rfl (by decide) (Nat.le_of_ble_eq_true rfl) S1 q1 (fun r2 h2 H2 locs2 q2 S2 => ?_)
  refine lv_icmp_eq (tgt := 1353) hx hb jd_1131 (by decide) (fun _ => ?_) (fun z => absurd (Sum.inl.inj (Option.some.inj q2.1)) z)
  exact k _ _ _ _ q2.2 S2
set_option maxHeartbeats 4000000 in
set_option maxRecDepth 100000 in
theorem jlw_c32 {p : Program} {l : Launch} {e : Env} {s : State} {m : MethodId} {below : List Frame} {meth : Method} {c : Code} {b L : Nat} {xs : Nat → Int32} {G : jlw_G} {H : Heap} {locs : List Loc} {lr : Array Slot} {Z : State → Prop} {hc hm : jx_H} {x : Int32} (C : jlw_C p s m meth c b L xs G) (hRel : jz_Rel hc hm) (S : jlw_S s G hc hm H locs) (hl : lv_has lr 4 [(0, .ref b), (1, .ref s.heap.size), (2, .ref (s.heap.size + 128)), (3, .int x)]) (hin : vp_in (x + 1) L ∧ vp_in (x + 2) L ∧ vp_in (x + 3) L ∧ vp_in (x + 4) L ∧ vp_in (x + 5) L) (k : ∀ (hc' hm' : jx_H) (H1 : Heap) (locs1 : List Loc), jz_Rel hc' hm' → jlw_S s G hc' hm' H1 locs1 → W p l e room_1 s m #[Value.ref b] below meth c H1 locs1 600000 7302250 Z (F0 m 1353 lr [])) : W p l e room_1 s m #[Value.ref b] below meth c H locs 600000 7302250 Z (F0 m 1136 lr []) := by
  obtain ⟨hx, hb, hr, hml, hown, htl, hX, hbl, hlk, hgv⟩ := id C.1
  have hbA : ¬ jlw_A s b := Nat.not_le.mpr hbl
  have hlr : lr.size = 4 := hl.1
  refine lv_aload_n hx hb jd_1136 rfl (lv_at hl 1 rfl) ?_
  refine lv_aload_n hx hb jd_1137 rfl (lv_at hl 0 rfl) ?_
  refine lv_iload_n hx hb jd_1138 rfl (lv_at hl 3 rfl) ?_
  refine lv_iconst (v := 1) hx hb jd_1139 (by decide) ?_
  refine lv_iadd hx hb jd_1140 ?_
  refine va_sld hx hb hX hbl hbA S.2.2.1 hin.1 jd_1141 ?_
  refine jlw_callC (Y' := jm_JV_untell) (As := [(xs (x + 1).toNatClampNeg)]) (rest := []) C hlr jd_1142 (jx_pw_in (q := (6, 167)) rfl) jm_JV_untell_f rfl rfl rfl (by first | exact Or.inl rfl | exact Or.inr rfl) rfl (by decide) (Nat.le_of_ble_eq_true rfl) S (pd_untell (d := 0) hRel) (fun r1 h1 H1 locs1 q1 S1 => ?_)
  refine lv_aload_n hx hb jd_1145 rfl (lv_at hl 2 rfl) ?_
  refine lv_aload_n hx hb jd_1146 rfl (lv_at hl 0 rfl) ?_
  refine lv_iload_n hx hb jd_1147 rfl (lv_at hl 3 rfl) ?_
  refine lv_iconst (v := 1) hx hb jd_1148 (by decide) ?_
  refine lv_iadd hx hb jd_1149 ?_
  refine va_sld hx hb hX hbl hbA S1.2.2.1 hin.1 jd_1150 ?_
  refine jlw_callM (Y' := jm_MD_untell) (As := [(xs (x + 1).toNatClampNeg)]) (rest := [.int r1]) C hlr jd_1151 (jx_pw_in (q := (10, 13)) rfl) jm_MD_untell_f rfl rfl rfl (by first | exact Or.inl rfl | exact Or.inr rfl) rfl (by decide) (Nat.le_of_ble_eq_true rfl) S1 q1 (fun r2 h2 H2 locs2 q2 S2 => ?_)
  refine lv_icmp_eq (tgt := 1353) hx hb jd_1154 (by decide) (fun _ => ?_) (fun z => absurd (Sum.inl.inj (Option.some.inj q2.1)) z)
  exact k _ _ _ _ q2.2 S2
set_option maxHeartbeats 4000000 in
set_option maxRecDepth 100000 in
theorem jlw_c33 {p : Program} {l : Launch} {e : Env} {s : State} {m : MethodId} {below : List Frame} {meth : Method} {c : Code} {b L : Nat} {xs : Nat → Int32} {G : jlw_G} {H : Heap} {locs : List Loc} {lr : Array Slot} {Z : State → Prop} {hc hm : jx_H} {x : Int32} (C : jlw_C p s m meth c b L xs G) (hRel : jz_Rel hc hm) (S : jlw_S s G hc hm H locs) (hl : lv_has lr 4 [(0, .ref b), (1, .ref s.heap.size), (2, .ref (s.heap.size + 128)), (3, .int x)]) (hin : vp_in (x + 1) L ∧ vp_in (x + 2) L ∧ vp_in (x + 3) L ∧ vp_in (x + 4) L ∧ vp_in (x + 5) L) (k : ∀ (hc' hm' : jx_H) (H1 : Heap) (locs1 : List Loc), jz_Rel hc' hm' → jlw_S s G hc' hm' H1 locs1 → W p l e room_1 s m #[Value.ref b] below meth c H1 locs1 600000 7302250 Z (F0 m 1353 lr [])) : W p l e room_1 s m #[Value.ref b] below meth c H locs 600000 7302250 Z (F0 m 1159 lr []) := by
  obtain ⟨hx, hb, hr, hml, hown, htl, hX, hbl, hlk, hgv⟩ := id C.1
  have hbA : ¬ jlw_A s b := Nat.not_le.mpr hbl
  have hlr : lr.size = 4 := hl.1
  refine lv_aload_n hx hb jd_1159 rfl (lv_at hl 1 rfl) ?_
  refine lv_aload_n hx hb jd_1160 rfl (lv_at hl 0 rfl) ?_
  refine lv_iload_n hx hb jd_1161 rfl (lv_at hl 3 rfl) ?_
  refine lv_iconst (v := 1) hx hb jd_1162 (by decide) ?_
  refine lv_iadd hx hb jd_1163 ?_
  refine va_sld hx hb hX hbl hbA S.2.2.1 hin.1 jd_1164 ?_
  refine jlw_callC (Y' := jm_JV_later) (As := [(xs (x + 1).toNatClampNeg)]) (rest := []) C hlr jd_1165 (jx_pw_in (q := (6, 175)) rfl) jm_JV_later_f rfl rfl rfl (by first | exact Or.inl rfl | exact Or.inr rfl) rfl (by decide) (Nat.le_of_ble_eq_true rfl) S (pd_later (d := 0) hRel) (fun r1 h1 H1 locs1 q1 S1 => ?_)
  refine lv_aload_n hx hb jd_1168 rfl (lv_at hl 2 rfl) ?_
  refine lv_aload_n hx hb jd_1169 rfl (lv_at hl 0 rfl) ?_
  refine lv_iload_n hx hb jd_1170 rfl (lv_at hl 3 rfl) ?_
  refine lv_iconst (v := 1) hx hb jd_1171 (by decide) ?_
  refine lv_iadd hx hb jd_1172 ?_
  refine va_sld hx hb hX hbl hbA S1.2.2.1 hin.1 jd_1173 ?_
  refine jlw_callM (Y' := jm_MD_later) (As := [(xs (x + 1).toNatClampNeg)]) (rest := [.int r1]) C hlr jd_1174 (jx_pw_in (q := (10, 17)) rfl) jm_MD_later_f rfl rfl rfl (by first | exact Or.inl rfl | exact Or.inr rfl) rfl (by decide) (Nat.le_of_ble_eq_true rfl) S1 q1 (fun r2 h2 H2 locs2 q2 S2 => ?_)
  refine lv_icmp_eq (tgt := 1353) hx hb jd_1177 (by decide) (fun _ => ?_) (fun z => absurd (Sum.inl.inj (Option.some.inj q2.1)) z)
  exact k _ _ _ _ q2.2 S2
set_option maxHeartbeats 4000000 in
set_option maxRecDepth 100000 in
theorem jlw_c34 {p : Program} {l : Launch} {e : Env} {s : State} {m : MethodId} {below : List Frame} {meth : Method} {c : Code} {b L : Nat} {xs : Nat → Int32} {G : jlw_G} {H : Heap} {locs : List Loc} {lr : Array Slot} {Z : State → Prop} {hc hm : jx_H} {x : Int32} (C : jlw_C p s m meth c b L xs G) (hRel : jz_Rel hc hm) (S : jlw_S s G hc hm H locs) (hl : lv_has lr 4 [(0, .ref b), (1, .ref s.heap.size), (2, .ref (s.heap.size + 128)), (3, .int x)]) (hin : vp_in (x + 1) L ∧ vp_in (x + 2) L ∧ vp_in (x + 3) L ∧ vp_in (x + 4) L ∧ vp_in (x + 5) L) (k : ∀ (hc' hm' : jx_H) (H1 : Heap) (locs1 : List Loc), jz_Rel hc' hm' → jlw_S s G hc' hm' H1 locs1 → W p l e room_1 s m #[Value.ref b] below meth c H1 locs1 600000 7302250 Z (F0 m 1353 lr [])) : W p l e room_1 s m #[Value.ref b] below meth c H locs 600000 7302250 Z (F0 m 1182 lr []) := by
  obtain ⟨hx, hb, hr, hml, hown, htl, hX, hbl, hlk, hgv⟩ := id C.1
  have hbA : ¬ jlw_A s b := Nat.not_le.mpr hbl
  have hlr : lr.size = 4 := hl.1
  refine lv_aload_n hx hb jd_1182 rfl (lv_at hl 1 rfl) ?_
  refine lv_aload_n hx hb jd_1183 rfl (lv_at hl 0 rfl) ?_
  refine lv_iload_n hx hb jd_1184 rfl (lv_at hl 3 rfl) ?_
  refine lv_iconst (v := 1) hx hb jd_1185 (by decide) ?_
  refine lv_iadd hx hb jd_1186 ?_
  refine va_sld hx hb hX hbl hbA S.2.2.1 hin.1 jd_1187 ?_
  refine lv_aload_n hx hb jd_1188 rfl (lv_at hl 0 rfl) ?_
  refine lv_iload_n hx hb jd_1189 rfl (lv_at hl 3 rfl) ?_
  refine lv_iconst (v := 2) hx hb jd_1190 (by decide) ?_
  refine lv_iadd hx hb jd_1191 ?_
  refine va_sld hx hb hX hbl hbA S.2.2.1 hin.2.1 jd_1192 ?_
  refine jlw_callC (Y' := jm_JV_lengths) (As := [(xs (x + 1).toNatClampNeg), (xs (x + 2).toNatClampNeg)]) (rest := []) C hlr jd_1193 (jx_pw_in (q := (6, 180)) rfl) jm_JV_lengths_f rfl rfl rfl (by first | exact Or.inl rfl | exact Or.inr rfl) rfl (by decide) (Nat.le_of_ble_eq_true rfl) S (pd_lengths (d := 0) hRel) (fun r1 h1 H1 locs1 q1 S1 => ?_)
  refine lv_aload_n hx hb jd_1196 rfl (lv_at hl 2 rfl) ?_
  refine lv_aload_n hx hb jd_1197 rfl (lv_at hl 0 rfl) ?_
  refine lv_iload_n hx hb jd_1198 rfl (lv_at hl 3 rfl) ?_
  refine lv_iconst (v := 1) hx hb jd_1199 (by decide) ?_
  refine lv_iadd hx hb jd_1200 ?_
  refine va_sld hx hb hX hbl hbA S1.2.2.1 hin.1 jd_1201 ?_
  refine lv_aload_n hx hb jd_1202 rfl (lv_at hl 0 rfl) ?_
  refine lv_iload_n hx hb jd_1203 rfl (lv_at hl 3 rfl) ?_
  refine lv_iconst (v := 2) hx hb jd_1204 (by decide) ?_
  refine lv_iadd hx hb jd_1205 ?_
  refine va_sld hx hb hX hbl hbA S1.2.2.1 hin.2.1 jd_1206 ?_
  refine jlw_callM (Y' := jm_MD_lengths) (As := [(xs (x + 1).toNatClampNeg), (xs (x + 2).toNatClampNeg)]) (rest := [.int r1]) C hlr jd_1207 (jx_pw_in (q := (10, 22)) rfl) jm_MD_lengths_f rfl rfl rfl (by first | exact Or.inl rfl | exact Or.inr rfl) rfl (by decide) (Nat.le_of_ble_eq_true rfl) S1 q1 (fun r2 h2 H2 locs2 q2 S2 => ?_)
  refine lv_icmp_eq (tgt := 1353) hx hb jd_1210 (by decide) (fun _ => ?_) (fun z => absurd (Sum.inl.inj (Option.some.inj q2.1)) z)
  exact k _ _ _ _ q2.2 S2
set_option maxHeartbeats 4000000 in
set_option maxRecDepth 100000 in
theorem jlw_c35 {p : Program} {l : Launch} {e : Env} {s : State} {m : MethodId} {below : List Frame} {meth : Method} {c : Code} {b L : Nat} {xs : Nat → Int32} {G : jlw_G} {H : Heap} {locs : List Loc} {lr : Array Slot} {Z : State → Prop} {hc hm : jx_H} {x : Int32} (C : jlw_C p s m meth c b L xs G) (hRel : jz_Rel hc hm) (S : jlw_S s G hc hm H locs) (hl : lv_has lr 4 [(0, .ref b), (1, .ref s.heap.size), (2, .ref (s.heap.size + 128)), (3, .int x)]) (hin : vp_in (x + 1) L ∧ vp_in (x + 2) L ∧ vp_in (x + 3) L ∧ vp_in (x + 4) L ∧ vp_in (x + 5) L) (k : ∀ (hc' hm' : jx_H) (H1 : Heap) (locs1 : List Loc), jz_Rel hc' hm' → jlw_S s G hc' hm' H1 locs1 → W p l e room_1 s m #[Value.ref b] below meth c H1 locs1 600000 7302250 Z (F0 m 1353 lr [])) : W p l e room_1 s m #[Value.ref b] below meth c H locs 600000 7302250 Z (F0 m 1215 lr []) := by
  obtain ⟨hx, hb, hr, hml, hown, htl, hX, hbl, hlk, hgv⟩ := id C.1
  have hbA : ¬ jlw_A s b := Nat.not_le.mpr hbl
  have hlr : lr.size = 4 := hl.1
  refine lv_aload_n hx hb jd_1215 rfl (lv_at hl 1 rfl) ?_
  refine lv_aload_n hx hb jd_1216 rfl (lv_at hl 0 rfl) ?_
  refine lv_iload_n hx hb jd_1217 rfl (lv_at hl 3 rfl) ?_
  refine lv_iconst (v := 1) hx hb jd_1218 (by decide) ?_
  refine lv_iadd hx hb jd_1219 ?_
  refine va_sld hx hb hX hbl hbA S.2.2.1 hin.1 jd_1220 ?_
  refine lv_aload_n hx hb jd_1221 rfl (lv_at hl 0 rfl) ?_
  refine lv_iload_n hx hb jd_1222 rfl (lv_at hl 3 rfl) ?_
  refine lv_iconst (v := 2) hx hb jd_1223 (by decide) ?_
  refine lv_iadd hx hb jd_1224 ?_
  refine va_sld hx hb hX hbl hbA S.2.2.1 hin.2.1 jd_1225 ?_
  refine lv_aload_n hx hb jd_1226 rfl (lv_at hl 0 rfl) ?_
  refine lv_iload_n hx hb jd_1227 rfl (lv_at hl 3 rfl) ?_
  refine lv_iconst (v := 3) hx hb jd_1228 (by decide) ?_
  refine lv_iadd hx hb jd_1229 ?_
  refine va_sld hx hb hX hbl hbA S.2.2.1 hin.2.2.1 jd_1230 ?_
  refine lv_if_eq (tgt := 1238) hx hb jd_1231 (by decide) (fun c1231 => ?_) (fun c1231 => ?_)
  · refine lv_iconst (v := 0) hx hb jd_1238 (by decide) ?_
    refine lv_aload_n hx hb jd_1239 rfl (lv_at hl 0 rfl) ?_
    refine lv_iload_n hx hb jd_1240 rfl (lv_at hl 3 rfl) ?_
    refine lv_iconst (v := 4) hx hb jd_1241 (by decide) ?_
    refine lv_iadd hx hb jd_1242 ?_
    refine va_sld hx hb hX hbl hbA S.2.2.1 hin.2.2.2.1 jd_1243 ?_
    refine jlw_callC (Y' := jm_JV_known) (As := [(xs (x + 1).toNatClampNeg), (xs (x + 2).toNatClampNeg), 0, (xs (x + 4).toNatClampNeg)]) (rest := []) C hlr jd_1244 (jx_pw_in (q := (6, 221)) rfl) jm_JV_known_f rfl rfl rfl (by first | exact Or.inl rfl | exact Or.inr rfl) rfl (by decide) (Nat.le_of_ble_eq_true rfl) S (pd_known (d := 0) hRel) (fun r1 h1 H1 locs1 q1 S1 => ?_)
    refine lv_aload_n hx hb jd_1247 rfl (lv_at hl 2 rfl) ?_
    refine lv_aload_n hx hb jd_1248 rfl (lv_at hl 0 rfl) ?_
    refine lv_iload_n hx hb jd_1249 rfl (lv_at hl 3 rfl) ?_
    refine lv_iconst (v := 1) hx hb jd_1250 (by decide) ?_
    refine lv_iadd hx hb jd_1251 ?_
    refine va_sld hx hb hX hbl hbA S1.2.2.1 hin.1 jd_1252 ?_
    refine lv_aload_n hx hb jd_1253 rfl (lv_at hl 0 rfl) ?_
    refine lv_iload_n hx hb jd_1254 rfl (lv_at hl 3 rfl) ?_
    refine lv_iconst (v := 2) hx hb jd_1255 (by decide) ?_
    refine lv_iadd hx hb jd_1256 ?_
    refine va_sld hx hb hX hbl hbA S1.2.2.1 hin.2.1 jd_1257 ?_
    refine lv_aload_n hx hb jd_1258 rfl (lv_at hl 0 rfl) ?_
    refine lv_iload_n hx hb jd_1259 rfl (lv_at hl 3 rfl) ?_
    refine lv_iconst (v := 3) hx hb jd_1260 (by decide) ?_
    refine lv_iadd hx hb jd_1261 ?_
    refine va_sld hx hb hX hbl hbA S1.2.2.1 hin.2.2.1 jd_1262 ?_
    refine lv_if_eq (tgt := 1270) hx hb jd_1263 (by decide) (fun _ => ?_) (fun z => absurd c1231 z)
    refine lv_iconst (v := 0) hx hb jd_1270 (by decide) ?_
    refine lv_aload_n hx hb jd_1271 rfl (lv_at hl 0 rfl) ?_
    refine lv_iload_n hx hb jd_1272 rfl (lv_at hl 3 rfl) ?_
    refine lv_iconst (v := 4) hx hb jd_1273 (by decide) ?_
    refine lv_iadd hx hb jd_1274 ?_
    refine va_sld hx hb hX hbl hbA S1.2.2.1 hin.2.2.2.1 jd_1275 ?_
    refine jlw_callM (Y' := jm_MD_known) (As := [(xs (x + 1).toNatClampNeg), (xs (x + 2).toNatClampNeg), 0, (xs (x + 4).toNatClampNeg)]) (rest := [.int r1]) C hlr jd_1276 (jx_pw_in (q := (10, 51)) rfl) jm_MD_known_f rfl rfl rfl (by first | exact Or.inl rfl | exact Or.inr rfl) rfl (by decide) (Nat.le_of_ble_eq_true rfl) S1 q1 (fun r2 h2 H2 locs2 q2 S2 => ?_)
    refine lv_icmp_eq (tgt := 1353) hx hb jd_1279 (by decide) (fun _ => ?_) (fun z => absurd (Sum.inl.inj (Option.some.inj q2.1)) z)
    exact k _ _ _ _ q2.2 S2
  · refine lv_iconst (v := 1) hx hb jd_1234 (by decide) ?_
    refine lv_goto (tgt := 1239) hx hb jd_1235 (by decide) ?_
    refine lv_aload_n hx hb jd_1239 rfl (lv_at hl 0 rfl) ?_
    refine lv_iload_n hx hb jd_1240 rfl (lv_at hl 3 rfl) ?_
    refine lv_iconst (v := 4) hx hb jd_1241 (by decide) ?_
    refine lv_iadd hx hb jd_1242 ?_
    refine va_sld hx hb hX hbl hbA S.2.2.1 hin.2.2.2.1 jd_1243 ?_
    refine jlw_callC (Y' := jm_JV_known) (As := [(xs (x + 1).toNatClampNeg), (xs (x + 2).toNatClampNeg), 1, (xs (x + 4).toNatClampNeg)]) (rest := []) C hlr jd_1244 (jx_pw_in (q := (6, 221)) rfl) jm_JV_known_f rfl rfl rfl (by first | exact Or.inl rfl | exact Or.inr rfl) rfl (by decide) (Nat.le_of_ble_eq_true rfl) S (pd_known (d := 0) hRel) (fun r1 h1 H1 locs1 q1 S1 => ?_)
    refine lv_aload_n hx hb jd_1247 rfl (lv_at hl 2 rfl) ?_
    refine lv_aload_n hx hb jd_1248 rfl (lv_at hl 0 rfl) ?_
    refine lv_iload_n hx hb jd_1249 rfl (lv_at hl 3 rfl) ?_
    refine lv_iconst (v := 1) hx hb jd_1250 (by decide) ?_
    refine lv_iadd hx hb jd_1251 ?_
    refine va_sld hx hb hX hbl hbA S1.2.2.1 hin.1 jd_1252 ?_
    refine lv_aload_n hx hb jd_1253 rfl (lv_at hl 0 rfl) ?_
    refine lv_iload_n hx hb jd_1254 rfl (lv_at hl 3 rfl) ?_
    refine lv_iconst (v := 2) hx hb jd_1255 (by decide) ?_
    refine lv_iadd hx hb jd_1256 ?_
    refine va_sld hx hb hX hbl hbA S1.2.2.1 hin.2.1 jd_1257 ?_
    refine lv_aload_n hx hb jd_1258 rfl (lv_at hl 0 rfl) ?_
    refine lv_iload_n hx hb jd_1259 rfl (lv_at hl 3 rfl) ?_
    refine lv_iconst (v := 3) hx hb jd_1260 (by decide) ?_
    refine lv_iadd hx hb jd_1261 ?_
    refine va_sld hx hb hX hbl hbA S1.2.2.1 hin.2.2.1 jd_1262 ?_
    refine lv_if_eq (tgt := 1270) hx hb jd_1263 (by decide) (fun z => absurd z c1231) (fun _ => ?_)
    refine lv_iconst (v := 1) hx hb jd_1266 (by decide) ?_
    refine lv_goto (tgt := 1271) hx hb jd_1267 (by decide) ?_
    refine lv_aload_n hx hb jd_1271 rfl (lv_at hl 0 rfl) ?_
    refine lv_iload_n hx hb jd_1272 rfl (lv_at hl 3 rfl) ?_
    refine lv_iconst (v := 4) hx hb jd_1273 (by decide) ?_
    refine lv_iadd hx hb jd_1274 ?_
    refine va_sld hx hb hX hbl hbA S1.2.2.1 hin.2.2.2.1 jd_1275 ?_
    refine jlw_callM (Y' := jm_MD_known) (As := [(xs (x + 1).toNatClampNeg), (xs (x + 2).toNatClampNeg), 1, (xs (x + 4).toNatClampNeg)]) (rest := [.int r1]) C hlr jd_1276 (jx_pw_in (q := (10, 51)) rfl) jm_MD_known_f rfl rfl rfl (by first | exact Or.inl rfl | exact Or.inr rfl) rfl (by decide) (Nat.le_of_ble_eq_true rfl) S1 q1 (fun r2 h2 H2 locs2 q2 S2 => ?_)
    refine lv_icmp_eq (tgt := 1353) hx hb jd_1279 (by decide) (fun _ => ?_) (fun z => absurd (Sum.inl.inj (Option.some.inj q2.1)) z)
    exact k _ _ _ _ q2.2 S2
set_option maxHeartbeats 4000000 in
set_option maxRecDepth 100000 in
theorem jlw_c36 {p : Program} {l : Launch} {e : Env} {s : State} {m : MethodId} {below : List Frame} {meth : Method} {c : Code} {b L : Nat} {xs : Nat → Int32} {G : jlw_G} {H : Heap} {locs : List Loc} {lr : Array Slot} {Z : State → Prop} {hc hm : jx_H} {x : Int32} (C : jlw_C p s m meth c b L xs G) (hRel : jz_Rel hc hm) (S : jlw_S s G hc hm H locs) (hl : lv_has lr 4 [(0, .ref b), (1, .ref s.heap.size), (2, .ref (s.heap.size + 128)), (3, .int x)]) (hin : vp_in (x + 1) L ∧ vp_in (x + 2) L ∧ vp_in (x + 3) L ∧ vp_in (x + 4) L ∧ vp_in (x + 5) L) (k : ∀ (hc' hm' : jx_H) (H1 : Heap) (locs1 : List Loc), jz_Rel hc' hm' → jlw_S s G hc' hm' H1 locs1 → W p l e room_1 s m #[Value.ref b] below meth c H1 locs1 600000 7302250 Z (F0 m 1353 lr [])) : W p l e room_1 s m #[Value.ref b] below meth c H locs 600000 7302250 Z (F0 m 1284 lr []) := by
  obtain ⟨hx, hb, hr, hml, hown, htl, hX, hbl, hlk, hgv⟩ := id C.1
  have hbA : ¬ jlw_A s b := Nat.not_le.mpr hbl
  have hlr : lr.size = 4 := hl.1
  refine lv_aload_n hx hb jd_1284 rfl (lv_at hl 1 rfl) ?_
  refine lv_aload_n hx hb jd_1285 rfl (lv_at hl 0 rfl) ?_
  refine lv_iload_n hx hb jd_1286 rfl (lv_at hl 3 rfl) ?_
  refine lv_iconst (v := 1) hx hb jd_1287 (by decide) ?_
  refine lv_iadd hx hb jd_1288 ?_
  refine va_sld hx hb hX hbl hbA S.2.2.1 hin.1 jd_1289 ?_
  refine jlw_callC (Y' := jm_JV_image) (As := [(xs (x + 1).toNatClampNeg)]) (rest := []) C hlr jd_1290 (jx_pw_in (q := (6, 233)) rfl) jm_JV_image_f rfl rfl rfl (by first | exact Or.inl rfl | exact Or.inr rfl) rfl (by decide) (Nat.le_of_ble_eq_true rfl) S (pd_image (d := 0) hRel) (fun r1 h1 H1 locs1 q1 S1 => ?_)
  refine lv_aload_n hx hb jd_1293 rfl (lv_at hl 2 rfl) ?_
  refine lv_aload_n hx hb jd_1294 rfl (lv_at hl 0 rfl) ?_
  refine lv_iload_n hx hb jd_1295 rfl (lv_at hl 3 rfl) ?_
  refine lv_iconst (v := 1) hx hb jd_1296 (by decide) ?_
  refine lv_iadd hx hb jd_1297 ?_
  refine va_sld hx hb hX hbl hbA S1.2.2.1 hin.1 jd_1298 ?_
  refine jlw_callM (Y' := jm_MD_image) (As := [(xs (x + 1).toNatClampNeg)]) (rest := [.int r1]) C hlr jd_1299 (jx_pw_in (q := (10, 55)) rfl) jm_MD_image_f rfl rfl rfl (by first | exact Or.inl rfl | exact Or.inr rfl) rfl (by decide) (Nat.le_of_ble_eq_true rfl) S1 q1 (fun r2 h2 H2 locs2 q2 S2 => ?_)
  refine lv_icmp_eq (tgt := 1353) hx hb jd_1302 (by decide) (fun _ => ?_) (fun z => absurd (Sum.inl.inj (Option.some.inj q2.1)) z)
  exact k _ _ _ _ q2.2 S2
set_option maxHeartbeats 4000000 in
set_option maxRecDepth 100000 in
theorem jlw_c37 {p : Program} {l : Launch} {e : Env} {s : State} {m : MethodId} {below : List Frame} {meth : Method} {c : Code} {b L : Nat} {xs : Nat → Int32} {G : jlw_G} {H : Heap} {locs : List Loc} {lr : Array Slot} {Z : State → Prop} {hc hm : jx_H} {x : Int32} (C : jlw_C p s m meth c b L xs G) (hRel : jz_Rel hc hm) (S : jlw_S s G hc hm H locs) (hl : lv_has lr 4 [(0, .ref b), (1, .ref s.heap.size), (2, .ref (s.heap.size + 128)), (3, .int x)]) (hin : vp_in (x + 1) L ∧ vp_in (x + 2) L ∧ vp_in (x + 3) L ∧ vp_in (x + 4) L ∧ vp_in (x + 5) L) (k : ∀ (hc' hm' : jx_H) (H1 : Heap) (locs1 : List Loc), jz_Rel hc' hm' → jlw_S s G hc' hm' H1 locs1 → W p l e room_1 s m #[Value.ref b] below meth c H1 locs1 600000 7302250 Z (F0 m 1353 lr [])) : W p l e room_1 s m #[Value.ref b] below meth c H locs 600000 7302250 Z (F0 m 1307 lr []) := by
  obtain ⟨hx, hb, hr, hml, hown, htl, hX, hbl, hlk, hgv⟩ := id C.1
  have hbA : ¬ jlw_A s b := Nat.not_le.mpr hbl
  have hlr : lr.size = 4 := hl.1
  refine lv_aload_n hx hb jd_1307 rfl (lv_at hl 1 rfl) ?_
  refine lv_aload_n hx hb jd_1308 rfl (lv_at hl 0 rfl) ?_
  refine lv_iload_n hx hb jd_1309 rfl (lv_at hl 3 rfl) ?_
  refine lv_iconst (v := 1) hx hb jd_1310 (by decide) ?_
  refine lv_iadd hx hb jd_1311 ?_
  refine va_sld hx hb hX hbl hbA S.2.2.1 hin.1 jd_1312 ?_
  refine jlw_callC (Y' := jm_JV_back) (As := [(xs (x + 1).toNatClampNeg)]) (rest := []) C hlr jd_1313 (jx_pw_in (q := (6, 238)) rfl) jm_JV_back_f rfl rfl rfl (by first | exact Or.inl rfl | exact Or.inr rfl) rfl (by decide) (Nat.le_of_ble_eq_true rfl) S (pd_back (d := 0) hRel) (fun r1 h1 H1 locs1 q1 S1 => ?_)
  refine lv_aload_n hx hb jd_1316 rfl (lv_at hl 2 rfl) ?_
  refine lv_aload_n hx hb jd_1317 rfl (lv_at hl 0 rfl) ?_
  refine lv_iload_n hx hb jd_1318 rfl (lv_at hl 3 rfl) ?_
  refine lv_iconst (v := 1) hx hb jd_1319 (by decide) ?_
  refine lv_iadd hx hb jd_1320 ?_
  refine va_sld hx hb hX hbl hbA S1.2.2.1 hin.1 jd_1321 ?_
  refine jlw_callM (Y' := jm_MD_back) (As := [(xs (x + 1).toNatClampNeg)]) (rest := [.int r1]) C hlr jd_1322 (jx_pw_in (q := (10, 59)) rfl) jm_MD_back_f rfl rfl rfl (by first | exact Or.inl rfl | exact Or.inr rfl) rfl (by decide) (Nat.le_of_ble_eq_true rfl) S1 q1 (fun r2 h2 H2 locs2 q2 S2 => ?_)
  refine lv_icmp_eq (tgt := 1353) hx hb jd_1325 (by decide) (fun _ => ?_) (fun z => absurd (Sum.inl.inj (Option.some.inj q2.1)) z)
  exact k _ _ _ _ q2.2 S2
set_option maxHeartbeats 4000000 in
set_option maxRecDepth 100000 in
theorem jlw_c38 {p : Program} {l : Launch} {e : Env} {s : State} {m : MethodId} {below : List Frame} {meth : Method} {c : Code} {b L : Nat} {xs : Nat → Int32} {G : jlw_G} {H : Heap} {locs : List Loc} {lr : Array Slot} {Z : State → Prop} {hc hm : jx_H} {x : Int32} (C : jlw_C p s m meth c b L xs G) (hRel : jz_Rel hc hm) (S : jlw_S s G hc hm H locs) (hl : lv_has lr 4 [(0, .ref b), (1, .ref s.heap.size), (2, .ref (s.heap.size + 128)), (3, .int x)]) (hin : vp_in (x + 1) L ∧ vp_in (x + 2) L ∧ vp_in (x + 3) L ∧ vp_in (x + 4) L ∧ vp_in (x + 5) L) (k : ∀ (hc' hm' : jx_H) (H1 : Heap) (locs1 : List Loc), jz_Rel hc' hm' → jlw_S s G hc' hm' H1 locs1 → W p l e room_1 s m #[Value.ref b] below meth c H1 locs1 600000 7302250 Z (F0 m 1353 lr [])) : W p l e room_1 s m #[Value.ref b] below meth c H locs 600000 7302250 Z (F0 m 1330 lr []) := by
  obtain ⟨hx, hb, hr, hml, hown, htl, hX, hbl, hlk, hgv⟩ := id C.1
  have hbA : ¬ jlw_A s b := Nat.not_le.mpr hbl
  have hlr : lr.size = 4 := hl.1
  refine lv_aload_n hx hb jd_1330 rfl (lv_at hl 1 rfl) ?_
  refine lv_aload_n hx hb jd_1331 rfl (lv_at hl 0 rfl) ?_
  refine lv_iload_n hx hb jd_1332 rfl (lv_at hl 3 rfl) ?_
  refine lv_iconst (v := 1) hx hb jd_1333 (by decide) ?_
  refine lv_iadd hx hb jd_1334 ?_
  refine va_sld hx hb hX hbl hbA S.2.2.1 hin.1 jd_1335 ?_
  refine jlw_callC (Y' := jm_JV_about) (As := [(xs (x + 1).toNatClampNeg)]) (rest := []) C hlr jd_1336 (jx_pw_in (q := (7, 2)) rfl) jm_JV_about_f rfl rfl rfl (by first | exact Or.inl rfl | exact Or.inr rfl) rfl (by decide) (Nat.le_of_ble_eq_true rfl) S (pd_about (d := 0) hRel) (fun r1 h1 H1 locs1 q1 S1 => ?_)
  refine lv_aload_n hx hb jd_1339 rfl (lv_at hl 2 rfl) ?_
  refine lv_aload_n hx hb jd_1340 rfl (lv_at hl 0 rfl) ?_
  refine lv_iload_n hx hb jd_1341 rfl (lv_at hl 3 rfl) ?_
  refine lv_iconst (v := 1) hx hb jd_1342 (by decide) ?_
  refine lv_iadd hx hb jd_1343 ?_
  refine va_sld hx hb hX hbl hbA S1.2.2.1 hin.1 jd_1344 ?_
  refine jlw_callM (Y' := jm_MD_about) (As := [(xs (x + 1).toNatClampNeg)]) (rest := [.int r1]) C hlr jd_1345 (jx_pw_in (q := (10, 63)) rfl) jm_MD_about_f rfl rfl rfl (by first | exact Or.inl rfl | exact Or.inr rfl) rfl (by decide) (Nat.le_of_ble_eq_true rfl) S1 q1 (fun r2 h2 H2 locs2 q2 S2 => ?_)
  refine lv_icmp_eq (tgt := 1353) hx hb jd_1348 (by decide) (fun _ => ?_) (fun z => absurd (Sum.inl.inj (Option.some.inj q2.1)) z)
  exact k _ _ _ _ q2.2 S2
