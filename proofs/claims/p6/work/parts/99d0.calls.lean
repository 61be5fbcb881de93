theorem dL_law_240 : decode cL_law 240 = .ok (.aload_n 1, 1) := by decide +kernel
theorem dL_law_241 : decode cL_law 241 = .ok (.aload_n 0, 1) := by decide +kernel
theorem dL_law_242 : decode cL_law 242 = .ok (.iload_n 3, 1) := by decide +kernel
theorem dL_law_243 : decode cL_law 243 = .ok (.iconst 1, 1) := by decide +kernel
theorem dL_law_244 : decode cL_law 244 = .ok (.iadd, 1) := by decide +kernel
theorem dL_law_245 : decode cL_law 245 = .ok (.iaload, 1) := by decide +kernel
theorem dL_law_246 : decode cL_law 246 = .ok (.aload_n 0, 1) := by decide +kernel
theorem dL_law_247 : decode cL_law 247 = .ok (.iload_n 3, 1) := by decide +kernel
theorem dL_law_248 : decode cL_law 248 = .ok (.iconst 2, 1) := by decide +kernel
theorem dL_law_249 : decode cL_law 249 = .ok (.iadd, 1) := by decide +kernel
theorem dL_law_250 : decode cL_law 250 = .ok (.iaload, 1) := by decide +kernel
theorem dL_law_251 : decode cL_law 251 = .ok (.invokevirtual 13, 3) := by decide +kernel
theorem cw_X11_one : CWv yX11_one cX11_one 3 (some .int) 2 := ⟨⟨⟨List.mem_of_getElem? (i := 124) (by decide +kernel), by decide +kernel⟩, ⟨List.mem_of_getElem? (i := 536) (by decide +kernel), by decide +kernel⟩, by decide +kernel⟩, ⟨List.mem_of_getElem? (i := 534) (by decide +kernel), by decide +kernel⟩, ⟨List.mem_of_getElem? (i := 535) (by decide +kernel), by decide +kernel⟩⟩
theorem kmL_13 : inW (Cond.methodLink RL 13 yX11_one) := ⟨List.mem_of_getElem? (i := 533) (by decide +kernel), by decide +kernel⟩
theorem dL_law_254 : decode cL_law 254 = .ok (.pop, 1) := by decide +kernel
theorem dL_law_255 : decode cL_law 255 = .ok (.aload_n 2, 1) := by decide +kernel
theorem dL_law_256 : decode cL_law 256 = .ok (.aload_n 0, 1) := by decide +kernel
theorem dL_law_257 : decode cL_law 257 = .ok (.iload_n 3, 1) := by decide +kernel
theorem dL_law_258 : decode cL_law 258 = .ok (.iconst 1, 1) := by decide +kernel
theorem dL_law_259 : decode cL_law 259 = .ok (.iadd, 1) := by decide +kernel
theorem dL_law_260 : decode cL_law 260 = .ok (.iaload, 1) := by decide +kernel
theorem dL_law_261 : decode cL_law 261 = .ok (.aload_n 0, 1) := by decide +kernel
theorem dL_law_262 : decode cL_law 262 = .ok (.iload_n 3, 1) := by decide +kernel
theorem dL_law_263 : decode cL_law 263 = .ok (.iconst 2, 1) := by decide +kernel
theorem dL_law_264 : decode cL_law 264 = .ok (.iadd, 1) := by decide +kernel
theorem dL_law_265 : decode cL_law 265 = .ok (.iaload, 1) := by decide +kernel
theorem dL_law_266 : decode cL_law 266 = .ok (.invokevirtual 17, 3) := by decide +kernel
theorem kmL_17 : inW (Cond.methodLink RL 17 yX12_one) := ⟨List.mem_of_getElem? (i := 1597) (by decide +kernel), by decide +kernel⟩
theorem dL_law_269 : decode cL_law 269 = .ok (.pop, 1) := by decide +kernel
theorem dL_law_270 : decode cL_law 270 = .ok (.goto 1256, 3) := by decide +kernel
theorem dL_law_273 : decode cL_law 273 = .ok (.aload_n 1, 1) := by decide +kernel
theorem dL_law_274 : decode cL_law 274 = .ok (.aload_n 0, 1) := by decide +kernel
theorem dL_law_275 : decode cL_law 275 = .ok (.iload_n 3, 1) := by decide +kernel
theorem dL_law_276 : decode cL_law 276 = .ok (.iconst 1, 1) := by decide +kernel
theorem dL_law_277 : decode cL_law 277 = .ok (.iadd, 1) := by decide +kernel
theorem dL_law_278 : decode cL_law 278 = .ok (.iaload, 1) := by decide +kernel
theorem dL_law_279 : decode cL_law 279 = .ok (.aload_n 0, 1) := by decide +kernel
theorem dL_law_280 : decode cL_law 280 = .ok (.iload_n 3, 1) := by decide +kernel
theorem dL_law_281 : decode cL_law 281 = .ok (.iconst 2, 1) := by decide +kernel
theorem dL_law_282 : decode cL_law 282 = .ok (.iadd, 1) := by decide +kernel
theorem dL_law_283 : decode cL_law 283 = .ok (.iaload, 1) := by decide +kernel
theorem dL_law_284 : decode cL_law 284 = .ok (.aload_n 0, 1) := by decide +kernel
theorem dL_law_285 : decode cL_law 285 = .ok (.iload_n 3, 1) := by decide +kernel
theorem dL_law_286 : decode cL_law 286 = .ok (.iconst 3, 1) := by decide +kernel
theorem dL_law_287 : decode cL_law 287 = .ok (.iadd, 1) := by decide +kernel
theorem dL_law_288 : decode cL_law 288 = .ok (.iaload, 1) := by decide +kernel
theorem dL_law_289 : decode cL_law 289 = .ok (.aload_n 0, 1) := by decide +kernel
theorem dL_law_290 : decode cL_law 290 = .ok (.iload_n 3, 1) := by decide +kernel
theorem dL_law_291 : decode cL_law 291 = .ok (.iconst 4, 1) := by decide +kernel
theorem dL_law_292 : decode cL_law 292 = .ok (.iadd, 1) := by decide +kernel
theorem dL_law_293 : decode cL_law 293 = .ok (.iaload, 1) := by decide +kernel
theorem dL_law_294 : decode cL_law 294 = .ok (.aload_n 0, 1) := by decide +kernel
theorem dL_law_295 : decode cL_law 295 = .ok (.iload_n 3, 1) := by decide +kernel
theorem dL_law_296 : decode cL_law 296 = .ok (.iconst 5, 1) := by decide +kernel
theorem dL_law_297 : decode cL_law 297 = .ok (.iadd, 1) := by decide +kernel
theorem dL_law_298 : decode cL_law 298 = .ok (.iaload, 1) := by decide +kernel
theorem dL_law_299 : decode cL_law 299 = .ok (.invokevirtual 18, 3) := by decide +kernel
theorem cw_X11_feed : CWv yX11_feed cX11_feed 6 (some .int) 5 := ⟨⟨⟨List.mem_of_getElem? (i := 124) (by decide +kernel), by decide +kernel⟩, ⟨List.mem_of_getElem? (i := 547) (by decide +kernel), by decide +kernel⟩, by decide +kernel⟩, ⟨List.mem_of_getElem? (i := 545) (by decide +kernel), by decide +kernel⟩, ⟨List.mem_of_getElem? (i := 546) (by decide +kernel), by decide +kernel⟩⟩
theorem kmL_18 : inW (Cond.methodLink RL 18 yX11_feed) := ⟨List.mem_of_getElem? (i := 544) (by decide +kernel), by decide +kernel⟩
theorem dL_law_302 : decode cL_law 302 = .ok (.pop, 1) := by decide +kernel
theorem dL_law_303 : decode cL_law 303 = .ok (.aload_n 2, 1) := by decide +kernel
theorem dL_law_304 : decode cL_law 304 = .ok (.aload_n 0, 1) := by decide +kernel
theorem dL_law_305 : decode cL_law 305 = .ok (.iload_n 3, 1) := by decide +kernel
theorem dL_law_306 : decode cL_law 306 = .ok (.iconst 1, 1) := by decide +kernel
theorem dL_law_307 : decode cL_law 307 = .ok (.iadd, 1) := by decide +kernel
theorem dL_law_308 : decode cL_law 308 = .ok (.iaload, 1) := by decide +kernel
theorem dL_law_309 : decode cL_law 309 = .ok (.aload_n 0, 1) := by decide +kernel
theorem dL_law_310 : decode cL_law 310 = .ok (.iload_n 3, 1) := by decide +kernel
theorem dL_law_311 : decode cL_law 311 = .ok (.iconst 2, 1) := by decide +kernel
theorem dL_law_312 : decode cL_law 312 = .ok (.iadd, 1) := by decide +kernel
theorem dL_law_313 : decode cL_law 313 = .ok (.iaload, 1) := by decide +kernel
theorem dL_law_314 : decode cL_law 314 = .ok (.aload_n 0, 1) := by decide +kernel
theorem dL_law_315 : decode cL_law 315 = .ok (.iload_n 3, 1) := by decide +kernel
theorem dL_law_316 : decode cL_law 316 = .ok (.iconst 3, 1) := by decide +kernel
theorem dL_law_317 : decode cL_law 317 = .ok (.iadd, 1) := by decide +kernel
theorem dL_law_318 : decode cL_law 318 = .ok (.iaload, 1) := by decide +kernel
theorem dL_law_319 : decode cL_law 319 = .ok (.aload_n 0, 1) := by decide +kernel
theorem dL_law_320 : decode cL_law 320 = .ok (.iload_n 3, 1) := by decide +kernel
theorem dL_law_321 : decode cL_law 321 = .ok (.iconst 4, 1) := by decide +kernel
theorem dL_law_322 : decode cL_law 322 = .ok (.iadd, 1) := by decide +kernel
theorem dL_law_323 : decode cL_law 323 = .ok (.iaload, 1) := by decide +kernel
theorem dL_law_324 : decode cL_law 324 = .ok (.aload_n 0, 1) := by decide +kernel
theorem dL_law_325 : decode cL_law 325 = .ok (.iload_n 3, 1) := by decide +kernel
theorem dL_law_326 : decode cL_law 326 = .ok (.iconst 5, 1) := by decide +kernel
theorem dL_law_327 : decode cL_law 327 = .ok (.iadd, 1) := by decide +kernel
theorem dL_law_328 : decode cL_law 328 = .ok (.iaload, 1) := by decide +kernel
theorem dL_law_329 : decode cL_law 329 = .ok (.invokevirtual 22, 3) := by decide +kernel
theorem cw_X12_feed : CWv yX12_feed cX12_feed 6 (some .int) 5 := ⟨⟨⟨List.mem_of_getElem? (i := 137) (by decide +kernel), by decide +kernel⟩, ⟨List.mem_of_getElem? (i := 1607) (by decide +kernel), by decide +kernel⟩, by decide +kernel⟩, ⟨List.mem_of_getElem? (i := 1605) (by decide +kernel), by decide +kernel⟩, ⟨List.mem_of_getElem? (i := 1606) (by decide +kernel), by decide +kernel⟩⟩
theorem kmL_22 : inW (Cond.methodLink RL 22 yX12_feed) := ⟨List.mem_of_getElem? (i := 1604) (by decide +kernel), by decide +kernel⟩
theorem dL_law_332 : decode cL_law 332 = .ok (.pop, 1) := by decide +kernel
theorem dL_law_333 : decode cL_law 333 = .ok (.goto 1193, 3) := by decide +kernel
theorem dL_law_336 : decode cL_law 336 = .ok (.aload_n 1, 1) := by decide +kernel
theorem dL_law_337 : decode cL_law 337 = .ok (.aload_n 0, 1) := by decide +kernel
theorem dL_law_338 : decode cL_law 338 = .ok (.iload_n 3, 1) := by decide +kernel
theorem dL_law_339 : decode cL_law 339 = .ok (.iconst 1, 1) := by decide +kernel
theorem dL_law_340 : decode cL_law 340 = .ok (.iadd, 1) := by decide +kernel
theorem dL_law_341 : decode cL_law 341 = .ok (.iaload, 1) := by decide +kernel
theorem dL_law_342 : decode cL_law 342 = .ok (.invokevirtual 23, 3) := by decide +kernel
theorem cw_X11_end : CWv yX11_end cX11_end 2 (some .int) 1 := ⟨⟨⟨List.mem_of_getElem? (i := 124) (by decide +kernel), by decide +kernel⟩, ⟨List.mem_of_getElem? (i := 563) (by decide +kernel), by decide +kernel⟩, by decide +kernel⟩, ⟨List.mem_of_getElem? (i := 561) (by decide +kernel), by decide +kernel⟩, ⟨List.mem_of_getElem? (i := 562) (by decide +kernel), by decide +kernel⟩⟩
theorem kmL_23 : inW (Cond.methodLink RL 23 yX11_end) := ⟨List.mem_of_getElem? (i := 560) (by decide +kernel), by decide +kernel⟩
theorem dL_law_345 : decode cL_law 345 = .ok (.pop, 1) := by decide +kernel
theorem dL_law_346 : decode cL_law 346 = .ok (.aload_n 2, 1) := by decide +kernel
theorem dL_law_347 : decode cL_law 347 = .ok (.aload_n 0, 1) := by decide +kernel
theorem dL_law_348 : decode cL_law 348 = .ok (.iload_n 3, 1) := by decide +kernel
theorem dL_law_349 : decode cL_law 349 = .ok (.iconst 1, 1) := by decide +kernel
theorem dL_law_350 : decode cL_law 350 = .ok (.iadd, 1) := by decide +kernel
theorem dL_law_351 : decode cL_law 351 = .ok (.iaload, 1) := by decide +kernel
theorem dL_law_352 : decode cL_law 352 = .ok (.invokevirtual 27, 3) := by decide +kernel
theorem cw_X12_end : CWv yX12_end cX12_end 2 (some .int) 1 := ⟨⟨⟨List.mem_of_getElem? (i := 137) (by decide +kernel), by decide +kernel⟩, ⟨List.mem_of_getElem? (i := 1615) (by decide +kernel), by decide +kernel⟩, by decide +kernel⟩, ⟨List.mem_of_getElem? (i := 1613) (by decide +kernel), by decide +kernel⟩, ⟨List.mem_of_getElem? (i := 1614) (by decide +kernel), by decide +kernel⟩⟩
theorem kmL_27 : inW (Cond.methodLink RL 27 yX12_end) := ⟨List.mem_of_getElem? (i := 1612) (by decide +kernel), by decide +kernel⟩
theorem dL_law_355 : decode cL_law 355 = .ok (.pop, 1) := by decide +kernel
theorem dL_law_356 : decode cL_law 356 = .ok (.goto 1170, 3) := by decide +kernel
theorem dL_law_359 : decode cL_law 359 = .ok (.aload_n 1, 1) := by decide +kernel
theorem dL_law_360 : decode cL_law 360 = .ok (.invokevirtual 28, 3) := by decide +kernel
theorem cw_X11_text : CWv yX11_text cX11_text 2 (some .int) 0 := ⟨⟨⟨List.mem_of_getElem? (i := 124) (by decide +kernel), by decide +kernel⟩, ⟨List.mem_of_getElem? (i := 571) (by decide +kernel), by decide +kernel⟩, by decide +kernel⟩, ⟨List.mem_of_getElem? (i := 569) (by decide +kernel), by decide +kernel⟩, ⟨List.mem_of_getElem? (i := 570) (by decide +kernel), by decide +kernel⟩⟩
theorem kmL_28 : inW (Cond.methodLink RL 28 yX11_text) := ⟨List.mem_of_getElem? (i := 568) (by decide +kernel), by decide +kernel⟩
theorem dL_law_363 : decode cL_law 363 = .ok (.pop, 1) := by decide +kernel
theorem dL_law_364 : decode cL_law 364 = .ok (.aload_n 2, 1) := by decide +kernel
theorem dL_law_365 : decode cL_law 365 = .ok (.invokevirtual 32, 3) := by decide +kernel
theorem cw_X12_text : CWv yX12_text cX12_text 1 (some .int) 0 := ⟨⟨⟨List.mem_of_getElem? (i := 137) (by decide +kernel), by decide +kernel⟩, ⟨List.mem_of_getElem? (i := 1619) (by decide +kernel), by decide +kernel⟩, by decide +kernel⟩, ⟨List.mem_of_getElem? (i := 1617) (by decide +kernel), by decide +kernel⟩, ⟨List.mem_of_getElem? (i := 1618) (by decide +kernel), by decide +kernel⟩⟩
theorem kmL_32 : inW (Cond.methodLink RL 32 yX12_text) := ⟨List.mem_of_getElem? (i := 1616) (by decide +kernel), by decide +kernel⟩
theorem dL_law_368 : decode cL_law 368 = .ok (.pop, 1) := by decide +kernel
theorem dL_law_369 : decode cL_law 369 = .ok (.goto 1157, 3) := by decide +kernel
theorem dL_law_372 : decode cL_law 372 = .ok (.aload_n 1, 1) := by decide +kernel
theorem dL_law_373 : decode cL_law 373 = .ok (.aload_n 0, 1) := by decide +kernel
theorem dL_law_374 : decode cL_law 374 = .ok (.iload_n 3, 1) := by decide +kernel
theorem dL_law_375 : decode cL_law 375 = .ok (.iconst 1, 1) := by decide +kernel
theorem dL_law_376 : decode cL_law 376 = .ok (.iadd, 1) := by decide +kernel
theorem dL_law_377 : decode cL_law 377 = .ok (.iaload, 1) := by decide +kernel
theorem dL_law_378 : decode cL_law 378 = .ok (.invokevirtual 33, 3) := by decide +kernel
theorem cw_X11_fault : CWv yX11_fault cX11_fault 2 (some .int) 1 := ⟨⟨⟨List.mem_of_getElem? (i := 124) (by decide +kernel), by decide +kernel⟩, ⟨List.mem_of_getElem? (i := 847) (by decide +kernel), by decide +kernel⟩, by decide +kernel⟩, ⟨List.mem_of_getElem? (i := 845) (by decide +kernel), by decide +kernel⟩, ⟨List.mem_of_getElem? (i := 846) (by decide +kernel), by decide +kernel⟩⟩
theorem kmL_33 : inW (Cond.methodLink RL 33 yX11_fault) := ⟨List.mem_of_getElem? (i := 844) (by decide +kernel), by decide +kernel⟩
theorem dL_law_381 : decode cL_law 381 = .ok (.aload_n 2, 1) := by decide +kernel
theorem dL_law_382 : decode cL_law 382 = .ok (.aload_n 0, 1) := by decide +kernel
theorem dL_law_383 : decode cL_law 383 = .ok (.iload_n 3, 1) := by decide +kernel
theorem dL_law_384 : decode cL_law 384 = .ok (.iconst 1, 1) := by decide +kernel
theorem dL_law_385 : decode cL_law 385 = .ok (.iadd, 1) := by decide +kernel
theorem dL_law_386 : decode cL_law 386 = .ok (.iaload, 1) := by decide +kernel
theorem dL_law_387 : decode cL_law 387 = .ok (.invokevirtual 36, 3) := by decide +kernel
theorem cw_X12_fault : CWv yX12_fault cX12_fault 2 (some .int) 1 := ⟨⟨⟨List.mem_of_getElem? (i := 137) (by decide +kernel), by decide +kernel⟩, ⟨List.mem_of_getElem? (i := 1768) (by decide +kernel), by decide +kernel⟩, by decide +kernel⟩, ⟨List.mem_of_getElem? (i := 1766) (by decide +kernel), by decide +kernel⟩, ⟨List.mem_of_getElem? (i := 1767) (by decide +kernel), by decide +kernel⟩⟩
theorem kmL_36 : inW (Cond.methodLink RL 36 yX12_fault) := ⟨List.mem_of_getElem? (i := 1765) (by decide +kernel), by decide +kernel⟩
theorem dL_law_390 : decode cL_law 390 = .ok (.if_icmp .eq 1136, 3) := by decide +kernel
theorem dL_law_395 : decode cL_law 395 = .ok (.aload_n 1, 1) := by decide +kernel
theorem dL_law_396 : decode cL_law 396 = .ok (.aload_n 0, 1) := by decide +kernel
theorem dL_law_397 : decode cL_law 397 = .ok (.iload_n 3, 1) := by decide +kernel
theorem dL_law_398 : decode cL_law 398 = .ok (.iconst 1, 1) := by decide +kernel
theorem dL_law_399 : decode cL_law 399 = .ok (.iadd, 1) := by decide +kernel
theorem dL_law_400 : decode cL_law 400 = .ok (.iaload, 1) := by decide +kernel
theorem dL_law_401 : decode cL_law 401 = .ok (.invokevirtual 37, 3) := by decide +kernel
theorem cw_X11_by : CWv yX11_by cX11_by 2 (some .boolean) 1 := ⟨⟨⟨List.mem_of_getElem? (i := 124) (by decide +kernel), by decide +kernel⟩, ⟨List.mem_of_getElem? (i := 859) (by decide +kernel), by decide +kernel⟩, by decide +kernel⟩, ⟨List.mem_of_getElem? (i := 857) (by decide +kernel), by decide +kernel⟩, ⟨List.mem_of_getElem? (i := 858) (by decide +kernel), by decide +kernel⟩⟩
theorem kmL_37 : inW (Cond.methodLink RL 37 yX11_by) := ⟨List.mem_of_getElem? (i := 856) (by decide +kernel), by decide +kernel⟩
theorem dL_law_404 : decode cL_law 404 = .ok (.pop, 1) := by decide +kernel
theorem dL_law_405 : decode cL_law 405 = .ok (.aload_n 2, 1) := by decide +kernel
theorem dL_law_406 : decode cL_law 406 = .ok (.aload_n 0, 1) := by decide +kernel
theorem dL_law_407 : decode cL_law 407 = .ok (.iload_n 3, 1) := by decide +kernel
theorem dL_law_408 : decode cL_law 408 = .ok (.iconst 1, 1) := by decide +kernel
theorem dL_law_409 : decode cL_law 409 = .ok (.iadd, 1) := by decide +kernel
theorem dL_law_410 : decode cL_law 410 = .ok (.iaload, 1) := by decide +kernel
theorem dL_law_411 : decode cL_law 411 = .ok (.invokevirtual 41, 3) := by decide +kernel
theorem cw_X12_by : CWv yX12_by cX12_by 2 (some .boolean) 1 := ⟨⟨⟨List.mem_of_getElem? (i := 137) (by decide +kernel), by decide +kernel⟩, ⟨List.mem_of_getElem? (i := 1772) (by decide +kernel), by decide +kernel⟩, by decide +kernel⟩, ⟨List.mem_of_getElem? (i := 1770) (by decide +kernel), by decide +kernel⟩, ⟨List.mem_of_getElem? (i := 1771) (by decide +kernel), by decide +kernel⟩⟩
theorem kmL_41 : inW (Cond.methodLink RL 41 yX12_by) := ⟨List.mem_of_getElem? (i := 1769) (by decide +kernel), by decide +kernel⟩
theorem dL_law_414 : decode cL_law 414 = .ok (.pop, 1) := by decide +kernel
theorem dL_law_415 : decode cL_law 415 = .ok (.goto 1111, 3) := by decide +kernel
theorem dL_law_418 : decode cL_law 418 = .ok (.aload_n 1, 1) := by decide +kernel
theorem dL_law_419 : decode cL_law 419 = .ok (.aload_n 0, 1) := by decide +kernel
theorem dL_law_420 : decode cL_law 420 = .ok (.iload_n 3, 1) := by decide +kernel
theorem dL_law_421 : decode cL_law 421 = .ok (.iconst 1, 1) := by decide +kernel
theorem dL_law_422 : decode cL_law 422 = .ok (.iadd, 1) := by decide +kernel
theorem dL_law_423 : decode cL_law 423 = .ok (.iaload, 1) := by decide +kernel
theorem dL_law_424 : decode cL_law 424 = .ok (.aload_n 0, 1) := by decide +kernel
theorem dL_law_425 : decode cL_law 425 = .ok (.iload_n 3, 1) := by decide +kernel
theorem dL_law_426 : decode cL_law 426 = .ok (.iconst 2, 1) := by decide +kernel
theorem dL_law_427 : decode cL_law 427 = .ok (.iadd, 1) := by decide +kernel
theorem dL_law_428 : decode cL_law 428 = .ok (.iaload, 1) := by decide +kernel
theorem dL_law_429 : decode cL_law 429 = .ok (.aload_n 0, 1) := by decide +kernel
theorem dL_law_430 : decode cL_law 430 = .ok (.iload_n 3, 1) := by decide +kernel
theorem dL_law_431 : decode cL_law 431 = .ok (.iconst 3, 1) := by decide +kernel
theorem dL_law_432 : decode cL_law 432 = .ok (.iadd, 1) := by decide +kernel
theorem dL_law_433 : decode cL_law 433 = .ok (.iaload, 1) := by decide +kernel
theorem dL_law_434 : decode cL_law 434 = .ok (.aload_n 0, 1) := by decide +kernel
theorem dL_law_435 : decode cL_law 435 = .ok (.iload_n 3, 1) := by decide +kernel
theorem dL_law_436 : decode cL_law 436 = .ok (.iconst 4, 1) := by decide +kernel
theorem dL_law_437 : decode cL_law 437 = .ok (.iadd, 1) := by decide +kernel
theorem dL_law_438 : decode cL_law 438 = .ok (.iaload, 1) := by decide +kernel
theorem dL_law_439 : decode cL_law 439 = .ok (.invokevirtual 42, 3) := by decide +kernel
theorem cw_X11_swear : CWv yX11_swear cX11_swear 5 (some .int) 4 := ⟨⟨⟨List.mem_of_getElem? (i := 124) (by decide +kernel), by decide +kernel⟩, ⟨List.mem_of_getElem? (i := 871) (by decide +kernel), by decide +kernel⟩, by decide +kernel⟩, ⟨List.mem_of_getElem? (i := 869) (by decide +kernel), by decide +kernel⟩, ⟨List.mem_of_getElem? (i := 870) (by decide +kernel), by decide +kernel⟩⟩
theorem kmL_42 : inW (Cond.methodLink RL 42 yX11_swear) := ⟨List.mem_of_getElem? (i := 868) (by decide +kernel), by decide +kernel⟩
theorem dL_law_442 : decode cL_law 442 = .ok (.pop, 1) := by decide +kernel
theorem dL_law_443 : decode cL_law 443 = .ok (.aload_n 2, 1) := by decide +kernel
theorem dL_law_444 : decode cL_law 444 = .ok (.aload_n 0, 1) := by decide +kernel
theorem dL_law_445 : decode cL_law 445 = .ok (.iload_n 3, 1) := by decide +kernel
theorem dL_law_446 : decode cL_law 446 = .ok (.iconst 1, 1) := by decide +kernel
theorem dL_law_447 : decode cL_law 447 = .ok (.iadd, 1) := by decide +kernel
theorem dL_law_448 : decode cL_law 448 = .ok (.iaload, 1) := by decide +kernel
theorem dL_law_449 : decode cL_law 449 = .ok (.aload_n 0, 1) := by decide +kernel
theorem dL_law_450 : decode cL_law 450 = .ok (.iload_n 3, 1) := by decide +kernel
theorem dL_law_451 : decode cL_law 451 = .ok (.iconst 2, 1) := by decide +kernel
theorem dL_law_452 : decode cL_law 452 = .ok (.iadd, 1) := by decide +kernel
theorem dL_law_453 : decode cL_law 453 = .ok (.iaload, 1) := by decide +kernel
theorem dL_law_454 : decode cL_law 454 = .ok (.aload_n 0, 1) := by decide +kernel
theorem dL_law_455 : decode cL_law 455 = .ok (.iload_n 3, 1) := by decide +kernel
theorem dL_law_456 : decode cL_law 456 = .ok (.iconst 3, 1) := by decide +kernel
theorem dL_law_457 : decode cL_law 457 = .ok (.iadd, 1) := by decide +kernel
theorem dL_law_458 : decode cL_law 458 = .ok (.iaload, 1) := by decide +kernel
theorem dL_law_459 : decode cL_law 459 = .ok (.aload_n 0, 1) := by decide +kernel
theorem dL_law_460 : decode cL_law 460 = .ok (.iload_n 3, 1) := by decide +kernel
theorem dL_law_461 : decode cL_law 461 = .ok (.iconst 4, 1) := by decide +kernel
theorem dL_law_462 : decode cL_law 462 = .ok (.iadd, 1) := by decide +kernel
theorem dL_law_463 : decode cL_law 463 = .ok (.iaload, 1) := by decide +kernel
theorem dL_law_464 : decode cL_law 464 = .ok (.invokevirtual 46, 3) := by decide +kernel
theorem kmL_46 : inW (Cond.methodLink RL 46 yX12_swear) := ⟨List.mem_of_getElem? (i := 1777) (by decide +kernel), by decide +kernel⟩
theorem dL_law_467 : decode cL_law 467 = .ok (.pop, 1) := by decide +kernel
theorem dL_law_468 : decode cL_law 468 = .ok (.goto 1058, 3) := by decide +kernel
theorem dL_law_471 : decode cL_law 471 = .ok (.aload_n 1, 1) := by decide +kernel
theorem dL_law_472 : decode cL_law 472 = .ok (.aload_n 0, 1) := by decide +kernel
theorem dL_law_473 : decode cL_law 473 = .ok (.iload_n 3, 1) := by decide +kernel
theorem dL_law_474 : decode cL_law 474 = .ok (.iconst 1, 1) := by decide +kernel
theorem dL_law_475 : decode cL_law 475 = .ok (.iadd, 1) := by decide +kernel
theorem dL_law_476 : decode cL_law 476 = .ok (.iaload, 1) := by decide +kernel
theorem dL_law_477 : decode cL_law 477 = .ok (.invokevirtual 47, 3) := by decide +kernel
theorem cw_X11_breaks : CWv yX11_breaks cX11_breaks 2 (some .boolean) 1 := ⟨⟨⟨List.mem_of_getElem? (i := 124) (by decide +kernel), by decide +kernel⟩, ⟨List.mem_of_getElem? (i := 907) (by decide +kernel), by decide +kernel⟩, by decide +kernel⟩, ⟨List.mem_of_getElem? (i := 905) (by decide +kernel), by decide +kernel⟩, ⟨List.mem_of_getElem? (i := 906) (by decide +kernel), by decide +kernel⟩⟩
theorem kmL_47 : inW (Cond.methodLink RL 47 yX11_breaks) := ⟨List.mem_of_getElem? (i := 904) (by decide +kernel), by decide +kernel⟩
theorem dL_law_480 : decode cL_law 480 = .ok (.pop, 1) := by decide +kernel
theorem dL_law_481 : decode cL_law 481 = .ok (.aload_n 2, 1) := by decide +kernel
theorem dL_law_482 : decode cL_law 482 = .ok (.aload_n 0, 1) := by decide +kernel
theorem dL_law_483 : decode cL_law 483 = .ok (.iload_n 3, 1) := by decide +kernel
theorem dL_law_484 : decode cL_law 484 = .ok (.iconst 1, 1) := by decide +kernel
theorem dL_law_485 : decode cL_law 485 = .ok (.iadd, 1) := by decide +kernel
theorem dL_law_486 : decode cL_law 486 = .ok (.iaload, 1) := by decide +kernel
theorem dL_law_487 : decode cL_law 487 = .ok (.invokevirtual 50, 3) := by decide +kernel
theorem kmL_50 : inW (Cond.methodLink RL 50 yX12_breaks) := ⟨List.mem_of_getElem? (i := 1801) (by decide +kernel), by decide +kernel⟩
theorem dL_law_490 : decode cL_law 490 = .ok (.pop, 1) := by decide +kernel
theorem dL_law_491 : decode cL_law 491 = .ok (.goto 1035, 3) := by decide +kernel
theorem dL_law_494 : decode cL_law 494 = .ok (.aload_n 1, 1) := by decide +kernel
theorem dL_law_495 : decode cL_law 495 = .ok (.aload_n 0, 1) := by decide +kernel
theorem dL_law_496 : decode cL_law 496 = .ok (.iload_n 3, 1) := by decide +kernel
theorem dL_law_497 : decode cL_law 497 = .ok (.iconst 1, 1) := by decide +kernel
theorem dL_law_498 : decode cL_law 498 = .ok (.iadd, 1) := by decide +kernel
theorem dL_law_499 : decode cL_law 499 = .ok (.iaload, 1) := by decide +kernel
theorem dL_law_500 : decode cL_law 500 = .ok (.invokevirtual 51, 3) := by decide +kernel
theorem cw_X11_release : CWv yX11_release cX11_release 2 (some .boolean) 1 := ⟨⟨⟨List.mem_of_getElem? (i := 124) (by decide +kernel), by decide +kernel⟩, ⟨List.mem_of_getElem? (i := 920) (by decide +kernel), by decide +kernel⟩, by decide +kernel⟩, ⟨List.mem_of_getElem? (i := 918) (by decide +kernel), by decide +kernel⟩, ⟨List.mem_of_getElem? (i := 919) (by decide +kernel), by decide +kernel⟩⟩
theorem kmL_51 : inW (Cond.methodLink RL 51 yX11_release) := ⟨List.mem_of_getElem? (i := 917) (by decide +kernel), by decide +kernel⟩
theorem dL_law_503 : decode cL_law 503 = .ok (.pop, 1) := by decide +kernel
theorem dL_law_504 : decode cL_law 504 = .ok (.aload_n 2, 1) := by decide +kernel
theorem dL_law_505 : decode cL_law 505 = .ok (.aload_n 0, 1) := by decide +kernel
theorem dL_law_506 : decode cL_law 506 = .ok (.iload_n 3, 1) := by decide +kernel
theorem dL_law_507 : decode cL_law 507 = .ok (.iconst 1, 1) := by decide +kernel
theorem dL_law_508 : decode cL_law 508 = .ok (.iadd, 1) := by decide +kernel
theorem dL_law_509 : decode cL_law 509 = .ok (.iaload, 1) := by decide +kernel
theorem dL_law_510 : decode cL_law 510 = .ok (.invokevirtual 54, 3) := by decide +kernel
theorem kmL_54 : inW (Cond.methodLink RL 54 yX12_release) := ⟨List.mem_of_getElem? (i := 1813) (by decide +kernel), by decide +kernel⟩
theorem dL_law_513 : decode cL_law 513 = .ok (.pop, 1) := by decide +kernel
theorem dL_law_514 : decode cL_law 514 = .ok (.goto 1012, 3) := by decide +kernel
theorem dL_law_517 : decode cL_law 517 = .ok (.aload_n 1, 1) := by decide +kernel
theorem dL_law_518 : decode cL_law 518 = .ok (.aload_n 0, 1) := by decide +kernel
theorem dL_law_519 : decode cL_law 519 = .ok (.iload_n 3, 1) := by decide +kernel
theorem dL_law_520 : decode cL_law 520 = .ok (.iconst 1, 1) := by decide +kernel
theorem dL_law_521 : decode cL_law 521 = .ok (.iadd, 1) := by decide +kernel
theorem dL_law_522 : decode cL_law 522 = .ok (.iaload, 1) := by decide +kernel
theorem dL_law_523 : decode cL_law 523 = .ok (.invokevirtual 55, 3) := by decide +kernel
theorem cw_X11_kneel : CWv yX11_kneel cX11_kneel 2 (some .int) 1 := ⟨⟨⟨List.mem_of_getElem? (i := 124) (by decide +kernel), by decide +kernel⟩, ⟨List.mem_of_getElem? (i := 937) (by decide +kernel), by decide +kernel⟩, by decide +kernel⟩, ⟨List.mem_of_getElem? (i := 935) (by decide +kernel), by decide +kernel⟩, ⟨List.mem_of_getElem? (i := 936) (by decide +kernel), by decide +kernel⟩⟩
theorem kmL_55 : inW (Cond.methodLink RL 55 yX11_kneel) := ⟨List.mem_of_getElem? (i := 934) (by decide +kernel), by decide +kernel⟩
theorem dL_law_526 : decode cL_law 526 = .ok (.pop, 1) := by decide +kernel
theorem dL_law_527 : decode cL_law 527 = .ok (.aload_n 2, 1) := by decide +kernel
theorem dL_law_528 : decode cL_law 528 = .ok (.aload_n 0, 1) := by decide +kernel
theorem dL_law_529 : decode cL_law 529 = .ok (.iload_n 3, 1) := by decide +kernel
theorem dL_law_530 : decode cL_law 530 = .ok (.iconst 1, 1) := by decide +kernel
theorem dL_law_531 : decode cL_law 531 = .ok (.iadd, 1) := by decide +kernel
theorem dL_law_532 : decode cL_law 532 = .ok (.iaload, 1) := by decide +kernel
theorem dL_law_533 : decode cL_law 533 = .ok (.invokevirtual 58, 3) := by decide +kernel
theorem kmL_58 : inW (Cond.methodLink RL 58 yX12_kneel) := ⟨List.mem_of_getElem? (i := 1817) (by decide +kernel), by decide +kernel⟩
theorem dL_law_536 : decode cL_law 536 = .ok (.pop, 1) := by decide +kernel
theorem dL_law_537 : decode cL_law 537 = .ok (.goto 989, 3) := by decide +kernel
theorem dL_law_540 : decode cL_law 540 = .ok (.aload_n 1, 1) := by decide +kernel
theorem dL_law_541 : decode cL_law 541 = .ok (.aload_n 0, 1) := by decide +kernel
theorem dL_law_542 : decode cL_law 542 = .ok (.iload_n 3, 1) := by decide +kernel
theorem dL_law_543 : decode cL_law 543 = .ok (.iconst 1, 1) := by decide +kernel
theorem dL_law_544 : decode cL_law 544 = .ok (.iadd, 1) := by decide +kernel
theorem dL_law_545 : decode cL_law 545 = .ok (.iaload, 1) := by decide +kernel
theorem dL_law_546 : decode cL_law 546 = .ok (.aload_n 0, 1) := by decide +kernel
theorem dL_law_547 : decode cL_law 547 = .ok (.iload_n 3, 1) := by decide +kernel
theorem dL_law_548 : decode cL_law 548 = .ok (.iconst 2, 1) := by decide +kernel
theorem dL_law_549 : decode cL_law 549 = .ok (.iadd, 1) := by decide +kernel
theorem dL_law_550 : decode cL_law 550 = .ok (.iaload, 1) := by decide +kernel
theorem dL_law_551 : decode cL_law 551 = .ok (.invokevirtual 59, 3) := by decide +kernel
theorem cw_X11_skate : CWv yX11_skate cX11_skate 3 (some .int) 2 := ⟨⟨⟨List.mem_of_getElem? (i := 124) (by decide +kernel), by decide +kernel⟩, ⟨List.mem_of_getElem? (i := 1022) (by decide +kernel), by decide +kernel⟩, by decide +kernel⟩, ⟨List.mem_of_getElem? (i := 1020) (by decide +kernel), by decide +kernel⟩, ⟨List.mem_of_getElem? (i := 1021) (by decide +kernel), by decide +kernel⟩⟩
theorem kmL_59 : inW (Cond.methodLink RL 59 yX11_skate) := ⟨List.mem_of_getElem? (i := 1019) (by decide +kernel), by decide +kernel⟩
theorem dL_law_554 : decode cL_law 554 = .ok (.pop, 1) := by decide +kernel
theorem dL_law_555 : decode cL_law 555 = .ok (.aload_n 2, 1) := by decide +kernel
theorem dL_law_556 : decode cL_law 556 = .ok (.aload_n 0, 1) := by decide +kernel
theorem dL_law_557 : decode cL_law 557 = .ok (.iload_n 3, 1) := by decide +kernel
theorem dL_law_558 : decode cL_law 558 = .ok (.iconst 1, 1) := by decide +kernel
theorem dL_law_559 : decode cL_law 559 = .ok (.iadd, 1) := by decide +kernel
theorem dL_law_560 : decode cL_law 560 = .ok (.iaload, 1) := by decide +kernel
theorem dL_law_561 : decode cL_law 561 = .ok (.aload_n 0, 1) := by decide +kernel
theorem dL_law_562 : decode cL_law 562 = .ok (.iload_n 3, 1) := by decide +kernel
theorem dL_law_563 : decode cL_law 563 = .ok (.iconst 2, 1) := by decide +kernel
theorem dL_law_564 : decode cL_law 564 = .ok (.iadd, 1) := by decide +kernel
theorem dL_law_565 : decode cL_law 565 = .ok (.iaload, 1) := by decide +kernel
theorem dL_law_566 : decode cL_law 566 = .ok (.invokevirtual 62, 3) := by decide +kernel
theorem kmL_62 : inW (Cond.methodLink RL 62 yX12_skate) := ⟨List.mem_of_getElem? (i := 1885) (by decide +kernel), by decide +kernel⟩
theorem dL_law_569 : decode cL_law 569 = .ok (.pop, 1) := by decide +kernel
theorem dL_law_570 : decode cL_law 570 = .ok (.goto 956, 3) := by decide +kernel
theorem dL_law_573 : decode cL_law 573 = .ok (.aload_n 1, 1) := by decide +kernel
theorem dL_law_574 : decode cL_law 574 = .ok (.aload_n 0, 1) := by decide +kernel
theorem dL_law_575 : decode cL_law 575 = .ok (.iload_n 3, 1) := by decide +kernel
theorem dL_law_576 : decode cL_law 576 = .ok (.iconst 1, 1) := by decide +kernel
theorem dL_law_577 : decode cL_law 577 = .ok (.iadd, 1) := by decide +kernel
theorem dL_law_578 : decode cL_law 578 = .ok (.iaload, 1) := by decide +kernel
theorem dL_law_579 : decode cL_law 579 = .ok (.invokevirtual 63, 3) := by decide +kernel
theorem cw_X11_strike : CWv yX11_strike cX11_strike 2 (some .int) 1 := ⟨⟨⟨List.mem_of_getElem? (i := 124) (by decide +kernel), by decide +kernel⟩, ⟨List.mem_of_getElem? (i := 1030) (by decide +kernel), by decide +kernel⟩, by decide +kernel⟩, ⟨List.mem_of_getElem? (i := 1028) (by decide +kernel), by decide +kernel⟩, ⟨List.mem_of_getElem? (i := 1029) (by decide +kernel), by decide +kernel⟩⟩
theorem kmL_63 : inW (Cond.methodLink RL 63 yX11_strike) := ⟨List.mem_of_getElem? (i := 1027) (by decide +kernel), by decide +kernel⟩
theorem dL_law_582 : decode cL_law 582 = .ok (.pop, 1) := by decide +kernel
theorem dL_law_583 : decode cL_law 583 = .ok (.aload_n 2, 1) := by decide +kernel
theorem dL_law_584 : decode cL_law 584 = .ok (.aload_n 0, 1) := by decide +kernel
theorem dL_law_585 : decode cL_law 585 = .ok (.iload_n 3, 1) := by decide +kernel
theorem dL_law_586 : decode cL_law 586 = .ok (.iconst 1, 1) := by decide +kernel
theorem dL_law_587 : decode cL_law 587 = .ok (.iadd, 1) := by decide +kernel
theorem dL_law_588 : decode cL_law 588 = .ok (.iaload, 1) := by decide +kernel
theorem dL_law_589 : decode cL_law 589 = .ok (.invokevirtual 66, 3) := by decide +kernel
theorem cw_X12_strike : CWv yX12_strike cX12_strike 4 (some .int) 1 := ⟨⟨⟨List.mem_of_getElem? (i := 137) (by decide +kernel), by decide +kernel⟩, ⟨List.mem_of_getElem? (i := 1896) (by decide +kernel), by decide +kernel⟩, by decide +kernel⟩, ⟨List.mem_of_getElem? (i := 1894) (by decide +kernel), by decide +kernel⟩, ⟨List.mem_of_getElem? (i := 1895) (by decide +kernel), by decide +kernel⟩⟩
theorem kmL_66 : inW (Cond.methodLink RL 66 yX12_strike) := ⟨List.mem_of_getElem? (i := 1893) (by decide +kernel), by decide +kernel⟩
theorem dL_law_592 : decode cL_law 592 = .ok (.pop, 1) := by decide +kernel
theorem dL_law_593 : decode cL_law 593 = .ok (.goto 933, 3) := by decide +kernel
set_option maxHeartbeats 4000000 in
set_option maxRecDepth 100000 in
theorem law_0 {p : Program} {e : Env} {s : State} {m : MethodId} {below : List Frame} {meth : Method} {c : Code} (l : Launch) {b L : Nat} {xs : Nat → Int32} (C0 : lw_At p s m meth c b L xs) (hL : L ≤ 3072) {G : GG} {A : Nat → Prop} (hAe : A = (fun q : Nat => s.heap.size ≤ q)) (S : SX G A p s m meth c RL code 4 ret) {aK aV : Nat → Nat} {z0 : Option Nat} (hz : ZS aK aV z0 A s s.heap) {adx adm : Nat → Nat → Nat} {i : Int32} (hi : 0 ≤ i.toInt ∧ i.toInt + 6 ≤ (L : Int)) {nL : Int} {bT : Nat → Int32} {kF pF a a8 : Int} {Lx Lm : List Nat} {fx fm : HF} {H : Heap} {locs : List Loc} {ls : Array Slot} (hC : CI G adx nL bT kF pF a a8 Lx fx) (hM : MI G adm nL bT kF pF a a8 Lm fm) (Y : DY G A s (va_pl Lx fx) Lm fm H locs) (hl : lv_has ls 4 [(3, .int i), (2, .ref (adm 0 0)), (1, .ref (adx 0 0)), (0, .ref b)]) (tail : ∀ (nL : Int) (bT : Nat → Int32) (kF pF a a8 : Int) (Lx Lm : List Nat) (fx fm : HF) (H : Heap) (locs : List Loc) (ls : Array Slot), CI G adx nL bT kF pF a a8 Lx fx → MI G adm nL bT kF pF a a8 Lm fm → DY G A s (va_pl Lx fx) Lm fm H locs → lv_has ls 4 [(3, .int i), (2, .ref (adm 0 0)), (1, .ref (adx 0 0)), (0, .ref b)] → W p l e room_1 s m #[Value.ref b] below meth c H locs 1000 60000 (lw_Z below #[Value.ref b] s) (F0 m 1526 ls [])) : W p l e room_1 s m #[Value.ref b] below meth c H locs 1000 60000 (lw_Z below #[Value.ref b] s) (F0 m 240 ls []) := by
  obtain ⟨hx, hb, hr, hml, hown, hts, hX, hbl, hlocks, hgv⟩ := id C0
  have hbA : ¬ A b := by rw [hAe]; exact Nat.not_le.mpr hbl
  refine lv_aload_n hx hb dL_law_240 rfl (lv_at hl 2 rfl) ?_
  refine lv_aload_n hx hb dL_law_241 rfl (lv_at hl 3 rfl) ?_
  refine lv_iload_n hx hb dL_law_242 rfl (lv_at hl 0 rfl) ?_
  refine lv_iconst (v := 1) hx hb dL_law_243 (by decide) ?_
  refine lv_iadd hx hb dL_law_244 ?_
  refine lv_topi (fun x_185843 ex_185843 => ?_)
  obtain ⟨v1, ev1⟩ : ∃ z, z = xs (i.toInt.toNat + (1 : Int32).toInt.toNat) := ⟨_, rfl⟩
  refine va_sld hx hb hX hbl hbA Y.2.2 (law_in ex_185843 hi hL (by decide)) dL_law_245 ?_
  refine lv_fold (z := v1) ((law_rd ex_185843 hi hL (by decide)).trans ev1.symm) ?_
  refine lv_aload_n hx hb dL_law_246 rfl (lv_at hl 3 rfl) ?_
  refine lv_iload_n hx hb dL_law_247 rfl (lv_at hl 0 rfl) ?_
  refine lv_iconst (v := 2) hx hb dL_law_248 (by decide) ?_
  refine lv_iadd hx hb dL_law_249 ?_
  refine lv_topi (fun x_185844 ex_185844 => ?_)
  obtain ⟨v2, ev2⟩ : ∃ z, z = xs (i.toInt.toNat + (2 : Int32).toInt.toNat) := ⟨_, rfl⟩
  refine va_sld hx hb hX hbl hbA Y.2.2 (law_in ex_185844 hi hL (by decide)) dL_law_250 ?_
  refine lv_fold (z := v2) ((law_rd ex_185844 hi hL (by decide)).trans ev2.symm) ?_
  have Y := Y.swap
  obtain ⟨tc, w, q, I, hW, hT, hQ, hZ, hE, hw2, hw7, hq2, hq7, ha, ha8, hL9, hBT⟩ := hC
  refine cVi (As := [.int v1, .int v2]) (rest := []) S Y (x_X11_one (l := l) I hW hT hQ hZ hE) cw_X11_one kmL_13 (I.opo (k := 0) (j := 0) (by decide) rfl).choose_spec.1 ok_X11.1 rfl rfl ⟨Nat.le_of_ble_eq_true rfl, Nat.le_of_ble_eq_true rfl⟩ hl.1 rfl (Nat.le_of_ble_eq_true rfl) ⟨Nat.le_of_ble_eq_true rfl, Nat.le_of_ble_eq_true rfl⟩ dL_law_251 (fun r_185845 L_185846 f_185847 H locs h_185848 Y => ?_)
  have I := h_185848
  have hC : CI G adx nL bT kF pF a a8 L_185846 f_185847 := ⟨tc, w, q, I, hW, hT, hQ, hZ, hE, hw2, hw7, hq2, hq7, ha, ha8, hL9, hBT⟩
  have Y := Y.swap
  refine lv_pop hx hb dL_law_254 rfl ?_
  refine lv_aload_n hx hb dL_law_255 rfl (lv_at hl 1 rfl) ?_
  refine lv_aload_n hx hb dL_law_256 rfl (lv_at hl 3 rfl) ?_
  refine lv_iload_n hx hb dL_law_257 rfl (lv_at hl 0 rfl) ?_
  refine lv_iconst (v := 1) hx hb dL_law_258 (by decide) ?_
  refine lv_iadd hx hb dL_law_259 ?_
  refine lv_topi (fun x_185849 ex_185849 => ?_)
  refine va_sld hx hb hX hbl hbA Y.2.2 (law_in ex_185849 hi hL (by decide)) dL_law_260 ?_
  refine lv_fold (z := v1) ((law_rd ex_185849 hi hL (by decide)).trans ev1.symm) ?_
  refine lv_aload_n hx hb dL_law_261 rfl (lv_at hl 3 rfl) ?_
  refine lv_iload_n hx hb dL_law_262 rfl (lv_at hl 0 rfl) ?_
  refine lv_iconst (v := 2) hx hb dL_law_263 (by decide) ?_
  refine lv_iadd hx hb dL_law_264 ?_
  refine lv_topi (fun x_185850 ex_185850 => ?_)
  refine va_sld hx hb hX hbl hbA Y.2.2 (law_in ex_185850 hi hL (by decide)) dL_law_265 ?_
  refine lv_fold (z := v2) ((law_rd ex_185850 hi hL (by decide)).trans ev2.symm) ?_
  obtain ⟨wm, wm2, g0, I, hB, hB2, hX0, ew1, ew2, ha, ha8, hL9, hBT⟩ := hM
  refine cVi (As := [.int v1, .int v2]) (rest := []) S Y (x_X12_one (l := l) I hB) cw_X12_one kmL_17 (I.opo (k := 0) (j := 0) (by decide) rfl).choose_spec.1 ok_X12.1 rfl rfl ⟨Nat.le_of_ble_eq_true rfl, Nat.le_of_ble_eq_true rfl⟩ hl.1 rfl (Nat.le_of_ble_eq_true rfl) ⟨Nat.le_of_ble_eq_true rfl, Nat.le_of_ble_eq_true rfl⟩ dL_law_266 (fun r_185851 L_185852 f_185853 H locs h_185854 Y => ?_)
  have I := h_185854
  have hM : MI G adm nL bT kF pF a a8 L_185852 f_185853 := ⟨wm, wm2, g0, I, hB, hB2, hX0, ew1, ew2, ha, ha8, hL9, hBT⟩
  refine lv_pop hx hb dL_law_269 rfl ?_
  refine lv_goto (tgt := 1526) hx hb dL_law_270 (by decide) ?_
  exact tail _ _ _ _ _ _ _ _ _ _ _ _ _ hC hM Y hl
set_option maxHeartbeats 4000000 in
set_option maxRecDepth 100000 in
theorem law_1 {p : Program} {e : Env} {s : State} {m : MethodId} {below : List Frame} {meth : Method} {c : Code} (l : Launch) {b L : Nat} {xs : Nat → Int32} (C0 : lw_At p s m meth c b L xs) (hL : L ≤ 3072) {G : GG} {A : Nat → Prop} (hAe : A = (fun q : Nat => s.heap.size ≤ q)) (S : SX G A p s m meth c RL code 4 ret) {aK aV : Nat → Nat} {z0 : Option Nat} (hz : ZS aK aV z0 A s s.heap) {adx adm : Nat → Nat → Nat} {i : Int32} (hi : 0 ≤ i.toInt ∧ i.toInt + 6 ≤ (L : Int)) {nL : Int} {bT : Nat → Int32} {kF pF a a8 : Int} {Lx Lm : List Nat} {fx fm : HF} {H : Heap} {locs : List Loc} {ls : Array Slot} (hC : CI G adx nL bT kF pF a a8 Lx fx) (hM : MI G adm nL bT kF pF a a8 Lm fm) (Y : DY G A s (va_pl Lx fx) Lm fm H locs) (hl : lv_has ls 4 [(3, .int i), (2, .ref (adm 0 0)), (1, .ref (adx 0 0)), (0, .ref b)]) (tail : ∀ (nL : Int) (bT : Nat → Int32) (kF pF a a8 : Int) (Lx Lm : List Nat) (fx fm : HF) (H : Heap) (locs : List Loc) (ls : Array Slot), CI G adx nL bT kF pF a a8 Lx fx → MI G adm nL bT kF pF a a8 Lm fm → DY G A s (va_pl Lx fx) Lm fm H locs → lv_has ls 4 [(3, .int i), (2, .ref (adm 0 0)), (1, .ref (adx 0 0)), (0, .ref b)] → W p l e room_1 s m #[Value.ref b] below meth c H locs 1000 60000 (lw_Z below #[Value.ref b] s) (F0 m 1526 ls [])) : W p l e room_1 s m #[Value.ref b] below meth c H locs 1000 60000 (lw_Z below #[Value.ref b] s) (F0 m 273 ls []) := by
  obtain ⟨hx, hb, hr, hml, hown, hts, hX, hbl, hlocks, hgv⟩ := id C0
  have hbA : ¬ A b := by rw [hAe]; exact Nat.not_le.mpr hbl
  refine lv_aload_n hx hb dL_law_273 rfl (lv_at hl 2 rfl) ?_
  refine lv_aload_n hx hb dL_law_274 rfl (lv_at hl 3 rfl) ?_
  refine lv_iload_n hx hb dL_law_275 rfl (lv_at hl 0 rfl) ?_
  refine lv_iconst (v := 1) hx hb dL_law_276 (by decide) ?_
  refine lv_iadd hx hb dL_law_277 ?_
  refine lv_topi (fun x_185855 ex_185855 => ?_)
  obtain ⟨v1, ev1⟩ : ∃ z, z = xs (i.toInt.toNat + (1 : Int32).toInt.toNat) := ⟨_, rfl⟩
  refine va_sld hx hb hX hbl hbA Y.2.2 (law_in ex_185855 hi hL (by decide)) dL_law_278 ?_
  refine lv_fold (z := v1) ((law_rd ex_185855 hi hL (by decide)).trans ev1.symm) ?_
  refine lv_aload_n hx hb dL_law_279 rfl (lv_at hl 3 rfl) ?_
  refine lv_iload_n hx hb dL_law_280 rfl (lv_at hl 0 rfl) ?_
  refine lv_iconst (v := 2) hx hb dL_law_281 (by decide) ?_
  refine lv_iadd hx hb dL_law_282 ?_
  refine lv_topi (fun x_185856 ex_185856 => ?_)
  obtain ⟨v2, ev2⟩ : ∃ z, z = xs (i.toInt.toNat + (2 : Int32).toInt.toNat) := ⟨_, rfl⟩
  refine va_sld hx hb hX hbl hbA Y.2.2 (law_in ex_185856 hi hL (by decide)) dL_law_283 ?_
  refine lv_fold (z := v2) ((law_rd ex_185856 hi hL (by decide)).trans ev2.symm) ?_
  refine lv_aload_n hx hb dL_law_284 rfl (lv_at hl 3 rfl) ?_
  refine lv_iload_n hx hb dL_law_285 rfl (lv_at hl 0 rfl) ?_
  refine lv_iconst (v := 3) hx hb dL_law_286 (by decide) ?_
  refine lv_iadd hx hb dL_law_287 ?_
  refine lv_topi (fun x_185857 ex_185857 => ?_)
  obtain ⟨v3, ev3⟩ : ∃ z, z = xs (i.toInt.toNat + (3 : Int32).toInt.toNat) := ⟨_, rfl⟩
  refine va_sld hx hb hX hbl hbA Y.2.2 (law_in ex_185857 hi hL (by decide)) dL_law_288 ?_
  refine lv_fold (z := v3) ((law_rd ex_185857 hi hL (by decide)).trans ev3.symm) ?_
  refine lv_aload_n hx hb dL_law_289 rfl (lv_at hl 3 rfl) ?_
  refine lv_iload_n hx hb dL_law_290 rfl (lv_at hl 0 rfl) ?_
  refine lv_iconst (v := 4) hx hb dL_law_291 (by decide) ?_
  refine lv_iadd hx hb dL_law_292 ?_
  refine lv_topi (fun x_185858 ex_185858 => ?_)
  obtain ⟨v4, ev4⟩ : ∃ z, z = xs (i.toInt.toNat + (4 : Int32).toInt.toNat) := ⟨_, rfl⟩
  refine va_sld hx hb hX hbl hbA Y.2.2 (law_in ex_185858 hi hL (by decide)) dL_law_293 ?_
  refine lv_fold (z := v4) ((law_rd ex_185858 hi hL (by decide)).trans ev4.symm) ?_
  refine lv_aload_n hx hb dL_law_294 rfl (lv_at hl 3 rfl) ?_
  refine lv_iload_n hx hb dL_law_295 rfl (lv_at hl 0 rfl) ?_
  refine lv_iconst (v := 5) hx hb dL_law_296 (by decide) ?_
  refine lv_iadd hx hb dL_law_297 ?_
  refine lv_topi (fun x_185859 ex_185859 => ?_)
  obtain ⟨v5, ev5⟩ : ∃ z, z = xs (i.toInt.toNat + (5 : Int32).toInt.toNat) := ⟨_, rfl⟩
  refine va_sld hx hb hX hbl hbA Y.2.2 (law_in ex_185859 hi hL (by decide)) dL_law_298 ?_
  refine lv_fold (z := v5) ((law_rd ex_185859 hi hL (by decide)).trans ev5.symm) ?_
  have Y := Y.swap
  obtain ⟨tc, w, q, I, hW, hT, hQ, hZ, hE, hw2, hw7, hq2, hq7, ha, ha8, hL9, hBT⟩ := hC
  refine cVi (As := [.int v1, .int v2, .int v3, .int v4, .int v5]) (rest := []) S Y (x_X11_feed (l := l) I hW hT hQ hZ hE hL9) cw_X11_feed kmL_18 (I.opo (k := 0) (j := 0) (by decide) rfl).choose_spec.1 ok_X11.1 rfl rfl ⟨Nat.le_of_ble_eq_true rfl, Nat.le_of_ble_eq_true rfl⟩ hl.1 rfl (Nat.le_of_ble_eq_true rfl) ⟨Nat.le_of_ble_eq_true rfl, Nat.le_of_ble_eq_true rfl⟩ dL_law_299 (fun r_185860 L_185861 f_185862 H locs h_185863 Y => ?_)
  obtain ⟨er_185860, I⟩ := h_185863
  have hC : CI G adx (feN nL) (feB bT nL v1 v2 v3 v4 v5) kF pF a a8 L_185861 f_185862 := ⟨tc, w, q, I, hW, hT, hQ, hZ, hE, hw2, hw7, hq2, hq7, ha, ha8, (feN_b hL9), (BYT_fe hBT)⟩
  have Y := Y.swap
  refine lv_pop hx hb dL_law_302 rfl ?_
  refine lv_aload_n hx hb dL_law_303 rfl (lv_at hl 1 rfl) ?_
  refine lv_aload_n hx hb dL_law_304 rfl (lv_at hl 3 rfl) ?_
  refine lv_iload_n hx hb dL_law_305 rfl (lv_at hl 0 rfl) ?_
  refine lv_iconst (v := 1) hx hb dL_law_306 (by decide) ?_
  refine lv_iadd hx hb dL_law_307 ?_
  refine lv_topi (fun x_185864 ex_185864 => ?_)
  refine va_sld hx hb hX hbl hbA Y.2.2 (law_in ex_185864 hi hL (by decide)) dL_law_308 ?_
  refine lv_fold (z := v1) ((law_rd ex_185864 hi hL (by decide)).trans ev1.symm) ?_
  refine lv_aload_n hx hb dL_law_309 rfl (lv_at hl 3 rfl) ?_
  refine lv_iload_n hx hb dL_law_310 rfl (lv_at hl 0 rfl) ?_
  refine lv_iconst (v := 2) hx hb dL_law_311 (by decide) ?_
  refine lv_iadd hx hb dL_law_312 ?_
  refine lv_topi (fun x_185865 ex_185865 => ?_)
  refine va_sld hx hb hX hbl hbA Y.2.2 (law_in ex_185865 hi hL (by decide)) dL_law_313 ?_
  refine lv_fold (z := v2) ((law_rd ex_185865 hi hL (by decide)).trans ev2.symm) ?_
  refine lv_aload_n hx hb dL_law_314 rfl (lv_at hl 3 rfl) ?_
  refine lv_iload_n hx hb dL_law_315 rfl (lv_at hl 0 rfl) ?_
  refine lv_iconst (v := 3) hx hb dL_law_316 (by decide) ?_
  refine lv_iadd hx hb dL_law_317 ?_
  refine lv_topi (fun x_185866 ex_185866 => ?_)
  refine va_sld hx hb hX hbl hbA Y.2.2 (law_in ex_185866 hi hL (by decide)) dL_law_318 ?_
  refine lv_fold (z := v3) ((law_rd ex_185866 hi hL (by decide)).trans ev3.symm) ?_
  refine lv_aload_n hx hb dL_law_319 rfl (lv_at hl 3 rfl) ?_
  refine lv_iload_n hx hb dL_law_320 rfl (lv_at hl 0 rfl) ?_
  refine lv_iconst (v := 4) hx hb dL_law_321 (by decide) ?_
  refine lv_iadd hx hb dL_law_322 ?_
  refine lv_topi (fun x_185867 ex_185867 => ?_)
  refine va_sld hx hb hX hbl hbA Y.2.2 (law_in ex_185867 hi hL (by decide)) dL_law_323 ?_
  refine lv_fold (z := v4) ((law_rd ex_185867 hi hL (by decide)).trans ev4.symm) ?_
  refine lv_aload_n hx hb dL_law_324 rfl (lv_at hl 3 rfl) ?_
  refine lv_iload_n hx hb dL_law_325 rfl (lv_at hl 0 rfl) ?_
  refine lv_iconst (v := 5) hx hb dL_law_326 (by decide) ?_
  refine lv_iadd hx hb dL_law_327 ?_
  refine lv_topi (fun x_185868 ex_185868 => ?_)
  refine va_sld hx hb hX hbl hbA Y.2.2 (law_in ex_185868 hi hL (by decide)) dL_law_328 ?_
  refine lv_fold (z := v5) ((law_rd ex_185868 hi hL (by decide)).trans ev5.symm) ?_
  obtain ⟨wm, wm2, g0, I, hB, hB2, hX0, ew1, ew2, ha, ha8, hL9, hBT⟩ := hM
  refine cVi (As := [.int v1, .int v2, .int v3, .int v4, .int v5]) (rest := []) S Y (x_X12_feed (l := l) I hB hX0 hL9) cw_X12_feed kmL_22 (I.opo (k := 0) (j := 0) (by decide) rfl).choose_spec.1 ok_X12.1 rfl rfl ⟨Nat.le_of_ble_eq_true rfl, Nat.le_of_ble_eq_true rfl⟩ hl.1 rfl (Nat.le_of_ble_eq_true rfl) ⟨Nat.le_of_ble_eq_true rfl, Nat.le_of_ble_eq_true rfl⟩ dL_law_329 (fun r_185869 L_185870 f_185871 H locs h_185872 Y => ?_)
  obtain ⟨er_185869, I⟩ := h_185872
  have hone : r_185860 = r_185869 := Int32.toInt_inj.mp (er_185860.trans er_185869.symm)
  have hM : MI G adm (feN nL) (feB bT nL v1 v2 v3 v4 v5) kF pF a a8 L_185870 f_185871 := ⟨wm, wm2, g0, I, hB, hB2, hX0, ew1, ew2, ha, ha8, (feN_b hL9), (BYT_fe hBT)⟩
  refine lv_pop hx hb dL_law_332 rfl ?_
  refine lv_goto (tgt := 1526) hx hb dL_law_333 (by decide) ?_
  exact tail _ _ _ _ _ _ _ _ _ _ _ _ _ hC hM Y hl
set_option maxHeartbeats 4000000 in
set_option maxRecDepth 100000 in
theorem law_2 {p : Program} {e : Env} {s : State} {m : MethodId} {below : List Frame} {meth : Method} {c : Code} (l : Launch) {b L : Nat} {xs : Nat → Int32} (C0 : lw_At p s m meth c b L xs) (hL : L ≤ 3072) {G : GG} {A : Nat → Prop} (hAe : A = (fun q : Nat => s.heap.size ≤ q)) (S : SX G A p s m meth c RL code 4 ret) {aK aV : Nat → Nat} {z0 : Option Nat} (hz : ZS aK aV z0 A s s.heap) {adx adm : Nat → Nat → Nat} {i : Int32} (hi : 0 ≤ i.toInt ∧ i.toInt + 6 ≤ (L : Int)) {nL : Int} {bT : Nat → Int32} {kF pF a a8 : Int} {Lx Lm : List Nat} {fx fm : HF} {H : Heap} {locs : List Loc} {ls : Array Slot} (hC : CI G adx nL bT kF pF a a8 Lx fx) (hM : MI G adm nL bT kF pF a a8 Lm fm) (Y : DY G A s (va_pl Lx fx) Lm fm H locs) (hl : lv_has ls 4 [(3, .int i), (2, .ref (adm 0 0)), (1, .ref (adx 0 0)), (0, .ref b)]) (tail : ∀ (nL : Int) (bT : Nat → Int32) (kF pF a a8 : Int) (Lx Lm : List Nat) (fx fm : HF) (H : Heap) (locs : List Loc) (ls : Array Slot), CI G adx nL bT kF pF a a8 Lx fx → MI G adm nL bT kF pF a a8 Lm fm → DY G A s (va_pl Lx fx) Lm fm H locs → lv_has ls 4 [(3, .int i), (2, .ref (adm 0 0)), (1, .ref (adx 0 0)), (0, .ref b)] → W p l e room_1 s m #[Value.ref b] below meth c H locs 1000 60000 (lw_Z below #[Value.ref b] s) (F0 m 1526 ls [])) : W p l e room_1 s m #[Value.ref b] below meth c H locs 1000 60000 (lw_Z below #[Value.ref b] s) (F0 m 336 ls []) := by
  obtain ⟨hx, hb, hr, hml, hown, hts, hX, hbl, hlocks, hgv⟩ := id C0
  have hbA : ¬ A b := by rw [hAe]; exact Nat.not_le.mpr hbl
  refine lv_aload_n hx hb dL_law_336 rfl (lv_at hl 2 rfl) ?_
  refine lv_aload_n hx hb dL_law_337 rfl (lv_at hl 3 rfl) ?_
  refine lv_iload_n hx hb dL_law_338 rfl (lv_at hl 0 rfl) ?_
  refine lv_iconst (v := 1) hx hb dL_law_339 (by decide) ?_
  refine lv_iadd hx hb dL_law_340 ?_
  refine lv_topi (fun x_185873 ex_185873 => ?_)
  obtain ⟨v1, ev1⟩ : ∃ z, z = xs (i.toInt.toNat + (1 : Int32).toInt.toNat) := ⟨_, rfl⟩
  refine va_sld hx hb hX hbl hbA Y.2.2 (law_in ex_185873 hi hL (by decide)) dL_law_341 ?_
  refine lv_fold (z := v1) ((law_rd ex_185873 hi hL (by decide)).trans ev1.symm) ?_
  have Y := Y.swap
  obtain ⟨tc, w, q, I, hW, hT, hQ, hZ, hE, hw2, hw7, hq2, hq7, ha, ha8, hL9, hBT⟩ := hC
  refine cVi (As := [.int v1]) (rest := []) S Y (x_X11_end (l := l) I hW hT hQ hZ hE) cw_X11_end kmL_23 (I.opo (k := 0) (j := 0) (by decide) rfl).choose_spec.1 ok_X11.1 rfl rfl ⟨Nat.le_of_ble_eq_true rfl, Nat.le_of_ble_eq_true rfl⟩ hl.1 rfl (Nat.le_of_ble_eq_true rfl) ⟨Nat.le_of_ble_eq_true rfl, Nat.le_of_ble_eq_true rfl⟩ dL_law_342 (fun r_185874 L_185875 f_185876 H locs h_185877 Y => ?_)
  obtain ⟨er_185874, I⟩ := h_185877
  have hC : CI G adx (cuL nL (v1 : Int32).toInt) bT kF pF a a8 L_185875 f_185876 := ⟨tc, w, q, I, hW, hT, hQ, hZ, hE, hw2, hw7, hq2, hq7, ha, ha8, (cuL_b hL9), hBT⟩
  have Y := Y.swap
  refine lv_pop hx hb dL_law_345 rfl ?_
  refine lv_aload_n hx hb dL_law_346 rfl (lv_at hl 1 rfl) ?_
  refine lv_aload_n hx hb dL_law_347 rfl (lv_at hl 3 rfl) ?_
  refine lv_iload_n hx hb dL_law_348 rfl (lv_at hl 0 rfl) ?_
  refine lv_iconst (v := 1) hx hb dL_law_349 (by decide) ?_
  refine lv_iadd hx hb dL_law_350 ?_
  refine lv_topi (fun x_185878 ex_185878 => ?_)
  refine va_sld hx hb hX hbl hbA Y.2.2 (law_in ex_185878 hi hL (by decide)) dL_law_351 ?_
  refine lv_fold (z := v1) ((law_rd ex_185878 hi hL (by decide)).trans ev1.symm) ?_
  obtain ⟨wm, wm2, g0, I, hB, hB2, hX0, ew1, ew2, ha, ha8, hL9, hBT⟩ := hM
  refine cVi (As := [.int v1]) (rest := []) S Y (x_X12_end (l := l) I hB hX0 hL9) cw_X12_end kmL_27 (I.opo (k := 0) (j := 0) (by decide) rfl).choose_spec.1 ok_X12.1 rfl rfl ⟨Nat.le_of_ble_eq_true rfl, Nat.le_of_ble_eq_true rfl⟩ hl.1 rfl (Nat.le_of_ble_eq_true rfl) ⟨Nat.le_of_ble_eq_true rfl, Nat.le_of_ble_eq_true rfl⟩ dL_law_352 (fun r_185879 L_185880 f_185881 H locs h_185882 Y => ?_)
  obtain ⟨er_185879, I⟩ := h_185882
  have hone : r_185874 = r_185879 := Int32.toInt_inj.mp (er_185874.trans er_185879.symm)
  have hM : MI G adm (cuL nL (v1 : Int32).toInt) bT kF pF a a8 L_185880 f_185881 := ⟨wm, wm2, g0, I, hB, hB2, hX0, ew1, ew2, ha, ha8, (cuL_b hL9), hBT⟩
  refine lv_pop hx hb dL_law_355 rfl ?_
  refine lv_goto (tgt := 1526) hx hb dL_law_356 (by decide) ?_
  exact tail _ _ _ _ _ _ _ _ _ _ _ _ _ hC hM Y hl
set_option maxHeartbeats 4000000 in
set_option maxRecDepth 100000 in
theorem law_3 {p : Program} {e : Env} {s : State} {m : MethodId} {below : List Frame} {meth : Method} {c : Code} (l : Launch) {b L : Nat} {xs : Nat → Int32} (C0 : lw_At p s m meth c b L xs) (hL : L ≤ 3072) {G : GG} {A : Nat → Prop} (hAe : A = (fun q : Nat => s.heap.size ≤ q)) (S : SX G A p s m meth c RL code 4 ret) {aK aV : Nat → Nat} {z0 : Option Nat} (hz : ZS aK aV z0 A s s.heap) {adx adm : Nat → Nat → Nat} {i : Int32} (hi : 0 ≤ i.toInt ∧ i.toInt + 6 ≤ (L : Int)) {nL : Int} {bT : Nat → Int32} {kF pF a a8 : Int} {Lx Lm : List Nat} {fx fm : HF} {H : Heap} {locs : List Loc} {ls : Array Slot} (hC : CI G adx nL bT kF pF a a8 Lx fx) (hM : MI G adm nL bT kF pF a a8 Lm fm) (Y : DY G A s (va_pl Lx fx) Lm fm H locs) (hl : lv_has ls 4 [(3, .int i), (2, .ref (adm 0 0)), (1, .ref (adx 0 0)), (0, .ref b)]) (tail : ∀ (nL : Int) (bT : Nat → Int32) (kF pF a a8 : Int) (Lx Lm : List Nat) (fx fm : HF) (H : Heap) (locs : List Loc) (ls : Array Slot), CI G adx nL bT kF pF a a8 Lx fx → MI G adm nL bT kF pF a a8 Lm fm → DY G A s (va_pl Lx fx) Lm fm H locs → lv_has ls 4 [(3, .int i), (2, .ref (adm 0 0)), (1, .ref (adx 0 0)), (0, .ref b)] → W p l e room_1 s m #[Value.ref b] below meth c H locs 1000 60000 (lw_Z below #[Value.ref b] s) (F0 m 1526 ls [])) : W p l e room_1 s m #[Value.ref b] below meth c H locs 1000 60000 (lw_Z below #[Value.ref b] s) (F0 m 359 ls []) := by
  obtain ⟨hx, hb, hr, hml, hown, hts, hX, hbl, hlocks, hgv⟩ := id C0
  have hbA : ¬ A b := by rw [hAe]; exact Nat.not_le.mpr hbl
  refine lv_aload_n hx hb dL_law_359 rfl (lv_at hl 2 rfl) ?_
  obtain ⟨nN, rfl⟩ := CI_n hC
  have Y := Y.swap
  obtain ⟨tc, w, q, I, hW, hT, hQ, hZ, hE, hw2, hw7, hq2, hq7, ha, ha8, hL9, hBT⟩ := hC
  refine zVi (As := []) (rest := []) S Y hz (x_X11_text (l := l) I hW hT hQ hZ hE (by have z9 := hL9.2; omega) hBT) cw_X11_text kmL_28 (recvO S Y (I.opo (k := 0) (j := 0) (by decide) rfl).choose_spec.1 ok_X11.1 rfl) rfl ⟨Nat.le_of_ble_eq_true rfl, Nat.le_of_ble_eq_true rfl⟩ hl.1 rfl (Nat.le_of_ble_eq_true rfl) ⟨Nat.le_of_ble_eq_true rfl, Nat.le_of_ble_eq_true rfl⟩ dL_law_360 (fun r_185883 L_185884 f_185885 H locs h_185886 Y => ?_)
  obtain ⟨tc2, n2, fk2, fp2, I, eE, e2, eT, eX⟩ := h_185886
  have hTXC : TXP (bI bT) nN a (tc2 0).1 n2 kF pF fk2 fp2 r_185883.toInt := by have z9 := eX; rw [ha] at z9; exact z9
  have hC : CI G adx n2 bT fk2 fp2 (tc2 0).1 a8 L_185884 f_185885 := ⟨tc2, w, q, I, hW, eT, hQ, hZ, eE, hw2, hw7, hq2, hq7, rfl, (by rw [e2 1 (by decide)]; exact ha8), (txp_b hTXC hL9), hBT⟩
  have Y := Y.swap
  refine lv_pop hx hb dL_law_363 rfl ?_
  refine lv_aload_n hx hb dL_law_364 rfl (lv_at hl 1 rfl) ?_
  obtain ⟨wm, wm2, g0, I, hB, hB2, hX0, ew1, ew2, ha, ha8, hL9, hBT⟩ := hM
  refine cVi (As := []) (rest := []) S Y (x_X12_text (l := l) I hB hX0 hBT (by have z9 := hL9.2; omega)) cw_X12_text kmL_32 (I.opo (k := 0) (j := 0) (by decide) rfl).choose_spec.1 ok_X12.1 rfl rfl ⟨Nat.le_of_ble_eq_true rfl, Nat.le_of_ble_eq_true rfl⟩ hl.1 rfl (Nat.le_of_ble_eq_true rfl) ⟨Nat.le_of_ble_eq_true rfl, Nat.le_of_ble_eq_true rfl⟩ dL_law_365 (fun r_185887 L_185888 f_185889 H locs h_185890 Y => ?_)
  obtain ⟨w2m, g2m, n2m, fk2m, fp2m, I, eX, eW, eB, eP⟩ := h_185890
  have hTXM : TXP (bI bT) nN a (w2m.2 1).toInt n2m kF pF fk2m fp2m r_185887.toInt := by have z9 := eP; rw [ha] at z9; exact z9
  obtain ⟨q1, q2, q3, q4, q5⟩ := txp_one hTXC hTXM
  rw [← q2, ← q3, ← q4] at I
  have hone : r_185883 = r_185887 := q5
  have hM : MI G adm n2 bT fk2 fp2 (tc2 0).1 a8 L_185888 f_185889 := ⟨w2m, wm2, g2m, I, eB, hB2, eX, (by rw [eW.1]; exact ew1), ew2, q1.symm, ha8, (txp_b hTXC hL9), hBT⟩
  refine lv_pop hx hb dL_law_368 rfl ?_
  refine lv_goto (tgt := 1526) hx hb dL_law_369 (by decide) ?_
  exact tail _ _ _ _ _ _ _ _ _ _ _ _ _ hC hM Y hl
set_option maxHeartbeats 4000000 in
set_option maxRecDepth 100000 in
theorem law_4 {p : Program} {e : Env} {s : State} {m : MethodId} {below : List Frame} {meth : Method} {c : Code} (l : Launch) {b L : Nat} {xs : Nat → Int32} (C0 : lw_At p s m meth c b L xs) (hL : L ≤ 3072) {G : GG} {A : Nat → Prop} (hAe : A = (fun q : Nat => s.heap.size ≤ q)) (S : SX G A p s m meth c RL code 4 ret) {aK aV : Nat → Nat} {z0 : Option Nat} (hz : ZS aK aV z0 A s s.heap) {adx adm : Nat → Nat → Nat} {i : Int32} (hi : 0 ≤ i.toInt ∧ i.toInt + 6 ≤ (L : Int)) {nL : Int} {bT : Nat → Int32} {kF pF a a8 : Int} {Lx Lm : List Nat} {fx fm : HF} {H : Heap} {locs : List Loc} {ls : Array Slot} (hC : CI G adx nL bT kF pF a a8 Lx fx) (hM : MI G adm nL bT kF pF a a8 Lm fm) (Y : DY G A s (va_pl Lx fx) Lm fm H locs) (hl : lv_has ls 4 [(3, .int i), (2, .ref (adm 0 0)), (1, .ref (adx 0 0)), (0, .ref b)]) (tail : ∀ (nL : Int) (bT : Nat → Int32) (kF pF a a8 : Int) (Lx Lm : List Nat) (fx fm : HF) (H : Heap) (locs : List Loc) (ls : Array Slot), CI G adx nL bT kF pF a a8 Lx fx → MI G adm nL bT kF pF a a8 Lm fm → DY G A s (va_pl Lx fx) Lm fm H locs → lv_has ls 4 [(3, .int i), (2, .ref (adm 0 0)), (1, .ref (adx 0 0)), (0, .ref b)] → W p l e room_1 s m #[Value.ref b] below meth c H locs 1000 60000 (lw_Z below #[Value.ref b] s) (F0 m 1526 ls [])) : W p l e room_1 s m #[Value.ref b] below meth c H locs 1000 60000 (lw_Z below #[Value.ref b] s) (F0 m 372 ls []) := by
  obtain ⟨hx, hb, hr, hml, hown, hts, hX, hbl, hlocks, hgv⟩ := id C0
  have hbA : ¬ A b := by rw [hAe]; exact Nat.not_le.mpr hbl
  refine lv_aload_n hx hb dL_law_372 rfl (lv_at hl 2 rfl) ?_
  refine lv_aload_n hx hb dL_law_373 rfl (lv_at hl 3 rfl) ?_
  refine lv_iload_n hx hb dL_law_374 rfl (lv_at hl 0 rfl) ?_
  refine lv_iconst (v := 1) hx hb dL_law_375 (by decide) ?_
  refine lv_iadd hx hb dL_law_376 ?_
  refine lv_topi (fun x_185891 ex_185891 => ?_)
  obtain ⟨v1, ev1⟩ : ∃ z, z = xs (i.toInt.toNat + (1 : Int32).toInt.toNat) := ⟨_, rfl⟩
  refine va_sld hx hb hX hbl hbA Y.2.2 (law_in ex_185891 hi hL (by decide)) dL_law_377 ?_
  refine lv_fold (z := v1) ((law_rd ex_185891 hi hL (by decide)).trans ev1.symm) ?_
  have Y := Y.swap
  obtain ⟨tc, w, q, I, hW, hT, hQ, hZ, hE, hw2, hw7, hq2, hq7, ha, ha8, hL9, hBT⟩ := hC
  refine cVi (As := [.int v1]) (rest := []) S Y (x_X11_fault (l := l) I hW hT hQ hZ hE) cw_X11_fault kmL_33 (I.opo (k := 0) (j := 0) (by decide) rfl).choose_spec.1 ok_X11.1 rfl rfl ⟨Nat.le_of_ble_eq_true rfl, Nat.le_of_ble_eq_true rfl⟩ hl.1 rfl (Nat.le_of_ble_eq_true rfl) ⟨Nat.le_of_ble_eq_true rfl, Nat.le_of_ble_eq_true rfl⟩ dL_law_378 (fun r_185892 L_185893 f_185894 H locs h_185895 Y => ?_)
  obtain ⟨er_185892, I⟩ := h_185895
  have hC : CI G adx nL bT kF pF a a8 L_185893 f_185894 := ⟨tc, w, q, I, hW, hT, hQ, hZ, hE, hw2, hw7, hq2, hq7, ha, ha8, hL9, hBT⟩
  have Y := Y.swap
  refine lv_aload_n hx hb dL_law_381 rfl (lv_at hl 1 rfl) ?_
  refine lv_aload_n hx hb dL_law_382 rfl (lv_at hl 3 rfl) ?_
  refine lv_iload_n hx hb dL_law_383 rfl (lv_at hl 0 rfl) ?_
  refine lv_iconst (v := 1) hx hb dL_law_384 (by decide) ?_
  refine lv_iadd hx hb dL_law_385 ?_
  refine lv_topi (fun x_185896 ex_185896 => ?_)
  refine va_sld hx hb hX hbl hbA Y.2.2 (law_in ex_185896 hi hL (by decide)) dL_law_386 ?_
  refine lv_fold (z := v1) ((law_rd ex_185896 hi hL (by decide)).trans ev1.symm) ?_
  obtain ⟨wm, wm2, g0, I, hB, hB2, hX0, ew1, ew2, ha, ha8, hL9, hBT⟩ := hM
  refine cVi (As := [.int v1]) (rest := [.int r_185892]) S Y (x_X12_faultE (l := l) I hB hX0) cw_X12_fault kmL_36 (I.opo (k := 0) (j := 0) (by decide) rfl).choose_spec.1 ok_X12.1 rfl rfl ⟨Nat.le_of_ble_eq_true rfl, Nat.le_of_ble_eq_true rfl⟩ hl.1 rfl (Nat.le_of_ble_eq_true rfl) ⟨Nat.le_of_ble_eq_true rfl, Nat.le_of_ble_eq_true rfl⟩ dL_law_387 (fun r_185897 L_185898 f_185899 H locs h_185900 Y => ?_)
  obtain ⟨er_185897, I⟩ := h_185900
  have hone : r_185892 = r_185897 := Int32.toInt_inj.mp (er_185892.trans er_185897.symm)
  have hM : MI G adm nL bT kF pF a a8 L_185898 f_185899 := ⟨wm, wm2, g0, I, hB, hB2, hX0, ew1, ew2, ha, ha8, hL9, hBT⟩
  refine lv_icmp_eq (tgt := 1526) hx hb dL_law_390 (by decide) (fun _ => ?_) (fun h => absurd hone h)
  exact tail _ _ _ _ _ _ _ _ _ _ _ _ _ hC hM Y hl
set_option maxHeartbeats 4000000 in
set_option maxRecDepth 100000 in
theorem law_5 {p : Program} {e : Env} {s : State} {m : MethodId} {below : List Frame} {meth : Method} {c : Code} (l : Launch) {b L : Nat} {xs : Nat → Int32} (C0 : lw_At p s m meth c b L xs) (hL : L ≤ 3072) {G : GG} {A : Nat → Prop} (hAe : A = (fun q : Nat => s.heap.size ≤ q)) (S : SX G A p s m meth c RL code 4 ret) {aK aV : Nat → Nat} {z0 : Option Nat} (hz : ZS aK aV z0 A s s.heap) {adx adm : Nat → Nat → Nat} {i : Int32} (hi : 0 ≤ i.toInt ∧ i.toInt + 6 ≤ (L : Int)) {nL : Int} {bT : Nat → Int32} {kF pF a a8 : Int} {Lx Lm : List Nat} {fx fm : HF} {H : Heap} {locs : List Loc} {ls : Array Slot} (hC : CI G adx nL bT kF pF a a8 Lx fx) (hM : MI G adm nL bT kF pF a a8 Lm fm) (Y : DY G A s (va_pl Lx fx) Lm fm H locs) (hl : lv_has ls 4 [(3, .int i), (2, .ref (adm 0 0)), (1, .ref (adx 0 0)), (0, .ref b)]) (tail : ∀ (nL : Int) (bT : Nat → Int32) (kF pF a a8 : Int) (Lx Lm : List Nat) (fx fm : HF) (H : Heap) (locs : List Loc) (ls : Array Slot), CI G adx nL bT kF pF a a8 Lx fx → MI G adm nL bT kF pF a a8 Lm fm → DY G A s (va_pl Lx fx) Lm fm H locs → lv_has ls 4 [(3, .int i), (2, .ref (adm 0 0)), (1, .ref (adx 0 0)), (0, .ref b)] → W p l e room_1 s m #[Value.ref b] below meth c H locs 1000 60000 (lw_Z below #[Value.ref b] s) (F0 m 1526 ls [])) : W p l e room_1 s m #[Value.ref b] below meth c H locs 1000 60000 (lw_Z below #[Value.ref b] s) (F0 m 395 ls []) := by
  obtain ⟨hx, hb, hr, hml, hown, hts, hX, hbl, hlocks, hgv⟩ := id C0
  have hbA : ¬ A b := by rw [hAe]; exact Nat.not_le.mpr hbl
  refine lv_aload_n hx hb dL_law_395 rfl (lv_at hl 2 rfl) ?_
  refine lv_aload_n hx hb dL_law_396 rfl (lv_at hl 3 rfl) ?_
  refine lv_iload_n hx hb dL_law_397 rfl (lv_at hl 0 rfl) ?_
  refine lv_iconst (v := 1) hx hb dL_law_398 (by decide) ?_
  refine lv_iadd hx hb dL_law_399 ?_
  refine lv_topi (fun x_185901 ex_185901 => ?_)
  obtain ⟨v1, ev1⟩ : ∃ z, z = xs (i.toInt.toNat + (1 : Int32).toInt.toNat) := ⟨_, rfl⟩
  refine va_sld hx hb hX hbl hbA Y.2.2 (law_in ex_185901 hi hL (by decide)) dL_law_400 ?_
  refine lv_fold (z := v1) ((law_rd ex_185901 hi hL (by decide)).trans ev1.symm) ?_
  have Y := Y.swap
  obtain ⟨tc, w, q, I, hW, hT, hQ, hZ, hE, hw2, hw7, hq2, hq7, ha, ha8, hL9, hBT⟩ := hC
  refine cVi (As := [.int v1]) (rest := []) S Y (x_X11_by (l := l) I hW hT hQ hZ hE) cw_X11_by kmL_37 (I.opo (k := 0) (j := 0) (by decide) rfl).choose_spec.1 ok_X11.1 rfl rfl ⟨Nat.le_of_ble_eq_true rfl, Nat.le_of_ble_eq_true rfl⟩ hl.1 rfl (Nat.le_of_ble_eq_true rfl) ⟨Nat.le_of_ble_eq_true rfl, Nat.le_of_ble_eq_true rfl⟩ dL_law_401 (fun r_185902 L_185903 f_185904 H locs h_185905 Y => ?_)
  obtain ⟨er_185902, I⟩ := h_185905
  have hC : CI G adx nL bT kF pF a a8 L_185903 f_185904 := ⟨tc, w, q, I, hW, hT, hQ, hZ, hE, hw2, hw7, hq2, hq7, ha, ha8, hL9, hBT⟩
  have Y := Y.swap
  refine lv_pop hx hb dL_law_404 rfl ?_
  refine lv_aload_n hx hb dL_law_405 rfl (lv_at hl 1 rfl) ?_
  refine lv_aload_n hx hb dL_law_406 rfl (lv_at hl 3 rfl) ?_
  refine lv_iload_n hx hb dL_law_407 rfl (lv_at hl 0 rfl) ?_
  refine lv_iconst (v := 1) hx hb dL_law_408 (by decide) ?_
  refine lv_iadd hx hb dL_law_409 ?_
  refine lv_topi (fun x_185906 ex_185906 => ?_)
  refine va_sld hx hb hX hbl hbA Y.2.2 (law_in ex_185906 hi hL (by decide)) dL_law_410 ?_
  refine lv_fold (z := v1) ((law_rd ex_185906 hi hL (by decide)).trans ev1.symm) ?_
  obtain ⟨wm, wm2, g0, I, hB, hB2, hX0, ew1, ew2, ha, ha8, hL9, hBT⟩ := hM
  refine cVi (As := [.int v1]) (rest := []) S Y (x_X12_by (l := l) I hB hX0) cw_X12_by kmL_41 (I.opo (k := 0) (j := 0) (by decide) rfl).choose_spec.1 ok_X12.1 rfl rfl ⟨Nat.le_of_ble_eq_true rfl, Nat.le_of_ble_eq_true rfl⟩ hl.1 rfl (Nat.le_of_ble_eq_true rfl) ⟨Nat.le_of_ble_eq_true rfl, Nat.le_of_ble_eq_true rfl⟩ dL_law_411 (fun r_185907 L_185908 f_185909 H locs h_185910 Y => ?_)
  obtain ⟨er_185907, I⟩ := h_185910
  have hM : MI G adm nL bT kF pF a a8 L_185908 f_185909 := ⟨wm, wm2, g0, I, hB, hB2, hX0, ew1, ew2, ha, ha8, hL9, hBT⟩
  refine lv_pop hx hb dL_law_414 rfl ?_
  refine lv_goto (tgt := 1526) hx hb dL_law_415 (by decide) ?_
  exact tail _ _ _ _ _ _ _ _ _ _ _ _ _ hC hM Y hl
set_option maxHeartbeats 4000000 in
set_option maxRecDepth 100000 in
theorem law_6 {p : Program} {e : Env} {s : State} {m : MethodId} {below : List Frame} {meth : Method} {c : Code} (l : Launch) {b L : Nat} {xs : Nat → Int32} (C0 : lw_At p s m meth c b L xs) (hL : L ≤ 3072) {G : GG} {A : Nat → Prop} (hAe : A = (fun q : Nat => s.heap.size ≤ q)) (S : SX G A p s m meth c RL code 4 ret) {aK aV : Nat → Nat} {z0 : Option Nat} (hz : ZS aK aV z0 A s s.heap) {adx adm : Nat → Nat → Nat} {i : Int32} (hi : 0 ≤ i.toInt ∧ i.toInt + 6 ≤ (L : Int)) {nL : Int} {bT : Nat → Int32} {kF pF a a8 : Int} {Lx Lm : List Nat} {fx fm : HF} {H : Heap} {locs : List Loc} {ls : Array Slot} (hC : CI G adx nL bT kF pF a a8 Lx fx) (hM : MI G adm nL bT kF pF a a8 Lm fm) (Y : DY G A s (va_pl Lx fx) Lm fm H locs) (hl : lv_has ls 4 [(3, .int i), (2, .ref (adm 0 0)), (1, .ref (adx 0 0)), (0, .ref b)]) (tail : ∀ (nL : Int) (bT : Nat → Int32) (kF pF a a8 : Int) (Lx Lm : List Nat) (fx fm : HF) (H : Heap) (locs : List Loc) (ls : Array Slot), CI G adx nL bT kF pF a a8 Lx fx → MI G adm nL bT kF pF a a8 Lm fm → DY G A s (va_pl Lx fx) Lm fm H locs → lv_has ls 4 [(3, .int i), (2, .ref (adm 0 0)), (1, .ref (adx 0 0)), (0, .ref b)] → W p l e room_1 s m #[Value.ref b] below meth c H locs 1000 60000 (lw_Z below #[Value.ref b] s) (F0 m 1526 ls [])) : W p l e room_1 s m #[Value.ref b] below meth c H locs 1000 60000 (lw_Z below #[Value.ref b] s) (F0 m 418 ls []) := by
  obtain ⟨hx, hb, hr, hml, hown, hts, hX, hbl, hlocks, hgv⟩ := id C0
  have hbA : ¬ A b := by rw [hAe]; exact Nat.not_le.mpr hbl
  refine lv_aload_n hx hb dL_law_418 rfl (lv_at hl 2 rfl) ?_
  refine lv_aload_n hx hb dL_law_419 rfl (lv_at hl 3 rfl) ?_
  refine lv_iload_n hx hb dL_law_420 rfl (lv_at hl 0 rfl) ?_
  refine lv_iconst (v := 1) hx hb dL_law_421 (by decide) ?_
  refine lv_iadd hx hb dL_law_422 ?_
  refine lv_topi (fun x_185911 ex_185911 => ?_)
  obtain ⟨v1, ev1⟩ : ∃ z, z = xs (i.toInt.toNat + (1 : Int32).toInt.toNat) := ⟨_, rfl⟩
  refine va_sld hx hb hX hbl hbA Y.2.2 (law_in ex_185911 hi hL (by decide)) dL_law_423 ?_
  refine lv_fold (z := v1) ((law_rd ex_185911 hi hL (by decide)).trans ev1.symm) ?_
  refine lv_aload_n hx hb dL_law_424 rfl (lv_at hl 3 rfl) ?_
  refine lv_iload_n hx hb dL_law_425 rfl (lv_at hl 0 rfl) ?_
  refine lv_iconst (v := 2) hx hb dL_law_426 (by decide) ?_
  refine lv_iadd hx hb dL_law_427 ?_
  refine lv_topi (fun x_185912 ex_185912 => ?_)
  obtain ⟨v2, ev2⟩ : ∃ z, z = xs (i.toInt.toNat + (2 : Int32).toInt.toNat) := ⟨_, rfl⟩
  refine va_sld hx hb hX hbl hbA Y.2.2 (law_in ex_185912 hi hL (by decide)) dL_law_428 ?_
  refine lv_fold (z := v2) ((law_rd ex_185912 hi hL (by decide)).trans ev2.symm) ?_
  refine lv_aload_n hx hb dL_law_429 rfl (lv_at hl 3 rfl) ?_
  refine lv_iload_n hx hb dL_law_430 rfl (lv_at hl 0 rfl) ?_
  refine lv_iconst (v := 3) hx hb dL_law_431 (by decide) ?_
  refine lv_iadd hx hb dL_law_432 ?_
  refine lv_topi (fun x_185913 ex_185913 => ?_)
  obtain ⟨v3, ev3⟩ : ∃ z, z = xs (i.toInt.toNat + (3 : Int32).toInt.toNat) := ⟨_, rfl⟩
  refine va_sld hx hb hX hbl hbA Y.2.2 (law_in ex_185913 hi hL (by decide)) dL_law_433 ?_
  refine lv_fold (z := v3) ((law_rd ex_185913 hi hL (by decide)).trans ev3.symm) ?_
  refine lv_aload_n hx hb dL_law_434 rfl (lv_at hl 3 rfl) ?_
  refine lv_iload_n hx hb dL_law_435 rfl (lv_at hl 0 rfl) ?_
  refine lv_iconst (v := 4) hx hb dL_law_436 (by decide) ?_
  refine lv_iadd hx hb dL_law_437 ?_
  refine lv_topi (fun x_185914 ex_185914 => ?_)
  obtain ⟨v4, ev4⟩ : ∃ z, z = xs (i.toInt.toNat + (4 : Int32).toInt.toNat) := ⟨_, rfl⟩
  refine va_sld hx hb hX hbl hbA Y.2.2 (law_in ex_185914 hi hL (by decide)) dL_law_438 ?_
  refine lv_fold (z := v4) ((law_rd ex_185914 hi hL (by decide)).trans ev4.symm) ?_
  have Y := Y.swap
  obtain ⟨tc, w, q, I, hW, hT, hQ, hZ, hE, hw2, hw7, hq2, hq7, ha, ha8, hL9, hBT⟩ := hC
  refine cVi (As := [.int v1, .int v2, .int v3, .int v4]) (rest := []) S Y (x_X11_swear (l := l) I hW hT hQ hZ hE) cw_X11_swear kmL_42 (I.opo (k := 0) (j := 0) (by decide) rfl).choose_spec.1 ok_X11.1 rfl rfl ⟨Nat.le_of_ble_eq_true rfl, Nat.le_of_ble_eq_true rfl⟩ hl.1 rfl (Nat.le_of_ble_eq_true rfl) ⟨Nat.le_of_ble_eq_true rfl, Nat.le_of_ble_eq_true rfl⟩ dL_law_439 (fun r_185915 L_185916 f_185917 H locs h_185918 Y => ?_)
  have I := h_185918
  have hC : CI G adx nL bT kF pF a a8 L_185916 f_185917 := ⟨tc, w, q, I, hW, hT, hQ, hZ, hE, hw2, hw7, hq2, hq7, ha, ha8, hL9, hBT⟩
  have Y := Y.swap
  refine lv_pop hx hb dL_law_442 rfl ?_
  refine lv_aload_n hx hb dL_law_443 rfl (lv_at hl 1 rfl) ?_
  refine lv_aload_n hx hb dL_law_444 rfl (lv_at hl 3 rfl) ?_
  refine lv_iload_n hx hb dL_law_445 rfl (lv_at hl 0 rfl) ?_
  refine lv_iconst (v := 1) hx hb dL_law_446 (by decide) ?_
  refine lv_iadd hx hb dL_law_447 ?_
  refine lv_topi (fun x_185919 ex_185919 => ?_)
  refine va_sld hx hb hX hbl hbA Y.2.2 (law_in ex_185919 hi hL (by decide)) dL_law_448 ?_
  refine lv_fold (z := v1) ((law_rd ex_185919 hi hL (by decide)).trans ev1.symm) ?_
  refine lv_aload_n hx hb dL_law_449 rfl (lv_at hl 3 rfl) ?_
  refine lv_iload_n hx hb dL_law_450 rfl (lv_at hl 0 rfl) ?_
  refine lv_iconst (v := 2) hx hb dL_law_451 (by decide) ?_
  refine lv_iadd hx hb dL_law_452 ?_
  refine lv_topi (fun x_185920 ex_185920 => ?_)
  refine va_sld hx hb hX hbl hbA Y.2.2 (law_in ex_185920 hi hL (by decide)) dL_law_453 ?_
  refine lv_fold (z := v2) ((law_rd ex_185920 hi hL (by decide)).trans ev2.symm) ?_
  refine lv_aload_n hx hb dL_law_454 rfl (lv_at hl 3 rfl) ?_
  refine lv_iload_n hx hb dL_law_455 rfl (lv_at hl 0 rfl) ?_
  refine lv_iconst (v := 3) hx hb dL_law_456 (by decide) ?_
  refine lv_iadd hx hb dL_law_457 ?_
  refine lv_topi (fun x_185921 ex_185921 => ?_)
  refine va_sld hx hb hX hbl hbA Y.2.2 (law_in ex_185921 hi hL (by decide)) dL_law_458 ?_
  refine lv_fold (z := v3) ((law_rd ex_185921 hi hL (by decide)).trans ev3.symm) ?_
  refine lv_aload_n hx hb dL_law_459 rfl (lv_at hl 3 rfl) ?_
  refine lv_iload_n hx hb dL_law_460 rfl (lv_at hl 0 rfl) ?_
  refine lv_iconst (v := 4) hx hb dL_law_461 (by decide) ?_
  refine lv_iadd hx hb dL_law_462 ?_
  refine lv_topi (fun x_185922 ex_185922 => ?_)
  refine va_sld hx hb hX hbl hbA Y.2.2 (law_in ex_185922 hi hL (by decide)) dL_law_463 ?_
  refine lv_fold (z := v4) ((law_rd ex_185922 hi hL (by decide)).trans ev4.symm) ?_
  obtain ⟨wm, wm2, g0, I, hB, hB2, hX0, ew1, ew2, ha, ha8, hL9, hBT⟩ := hM
  refine cVi (As := [.int v1, .int v2, .int v3, .int v4]) (rest := []) S Y (x_X12_swear (l := l) I hB hX0) cw_X12_swear kmL_46 (I.opo (k := 0) (j := 0) (by decide) rfl).choose_spec.1 ok_X12.1 rfl rfl ⟨Nat.le_of_ble_eq_true rfl, Nat.le_of_ble_eq_true rfl⟩ hl.1 rfl (Nat.le_of_ble_eq_true rfl) ⟨Nat.le_of_ble_eq_true rfl, Nat.le_of_ble_eq_true rfl⟩ dL_law_464 (fun r_185923 L_185924 f_185925 H locs h_185926 Y => ?_)
  have I := h_185926
  have hM : MI G adm nL bT kF pF a a8 L_185924 f_185925 := ⟨wm, wm2, g0, I, hB, hB2, hX0, ew1, ew2, ha, ha8, hL9, hBT⟩
  refine lv_pop hx hb dL_law_467 rfl ?_
  refine lv_goto (tgt := 1526) hx hb dL_law_468 (by decide) ?_
  exact tail _ _ _ _ _ _ _ _ _ _ _ _ _ hC hM Y hl
set_option maxHeartbeats 4000000 in
set_option maxRecDepth 100000 in
theorem law_7 {p : Program} {e : Env} {s : State} {m : MethodId} {below : List Frame} {meth : Method} {c : Code} (l : Launch) {b L : Nat} {xs : Nat → Int32} (C0 : lw_At p s m meth c b L xs) (hL : L ≤ 3072) {G : GG} {A : Nat → Prop} (hAe : A = (fun q : Nat => s.heap.size ≤ q)) (S : SX G A p s m meth c RL code 4 ret) {aK aV : Nat → Nat} {z0 : Option Nat} (hz : ZS aK aV z0 A s s.heap) {adx adm : Nat → Nat → Nat} {i : Int32} (hi : 0 ≤ i.toInt ∧ i.toInt + 6 ≤ (L : Int)) {nL : Int} {bT : Nat → Int32} {kF pF a a8 : Int} {Lx Lm : List Nat} {fx fm : HF} {H : Heap} {locs : List Loc} {ls : Array Slot} (hC : CI G adx nL bT kF pF a a8 Lx fx) (hM : MI G adm nL bT kF pF a a8 Lm fm) (Y : DY G A s (va_pl Lx fx) Lm fm H locs) (hl : lv_has ls 4 [(3, .int i), (2, .ref (adm 0 0)), (1, .ref (adx 0 0)), (0, .ref b)]) (tail : ∀ (nL : Int) (bT : Nat → Int32) (kF pF a a8 : Int) (Lx Lm : List Nat) (fx fm : HF) (H : Heap) (locs : List Loc) (ls : Array Slot), CI G adx nL bT kF pF a a8 Lx fx → MI G adm nL bT kF pF a a8 Lm fm → DY G A s (va_pl Lx fx) Lm fm H locs → lv_has ls 4 [(3, .int i), (2, .ref (adm 0 0)), (1, .ref (adx 0 0)), (0, .ref b)] → W p l e room_1 s m #[Value.ref b] below meth c H locs 1000 60000 (lw_Z below #[Value.ref b] s) (F0 m 1526 ls [])) : W p l e room_1 s m #[Value.ref b] below meth c H locs 1000 60000 (lw_Z below #[Value.ref b] s) (F0 m 471 ls []) := by
  obtain ⟨hx, hb, hr, hml, hown, hts, hX, hbl, hlocks, hgv⟩ := id C0
  have hbA : ¬ A b := by rw [hAe]; exact Nat.not_le.mpr hbl
  refine lv_aload_n hx hb dL_law_471 rfl (lv_at hl 2 rfl) ?_
  refine lv_aload_n hx hb dL_law_472 rfl (lv_at hl 3 rfl) ?_
  refine lv_iload_n hx hb dL_law_473 rfl (lv_at hl 0 rfl) ?_
  refine lv_iconst (v := 1) hx hb dL_law_474 (by decide) ?_
  refine lv_iadd hx hb dL_law_475 ?_
  refine lv_topi (fun x_185927 ex_185927 => ?_)
  obtain ⟨v1, ev1⟩ : ∃ z, z = xs (i.toInt.toNat + (1 : Int32).toInt.toNat) := ⟨_, rfl⟩
  refine va_sld hx hb hX hbl hbA Y.2.2 (law_in ex_185927 hi hL (by decide)) dL_law_476 ?_
  refine lv_fold (z := v1) ((law_rd ex_185927 hi hL (by decide)).trans ev1.symm) ?_
  have Y := Y.swap
  obtain ⟨tc, w, q, I, hW, hT, hQ, hZ, hE, hw2, hw7, hq2, hq7, ha, ha8, hL9, hBT⟩ := hC
  refine cVi (As := [.int v1]) (rest := []) S Y (x_X11_breaks (l := l) I hW hT hQ hZ hE) cw_X11_breaks kmL_47 (I.opo (k := 0) (j := 0) (by decide) rfl).choose_spec.1 ok_X11.1 rfl rfl ⟨Nat.le_of_ble_eq_true rfl, Nat.le_of_ble_eq_true rfl⟩ hl.1 rfl (Nat.le_of_ble_eq_true rfl) ⟨Nat.le_of_ble_eq_true rfl, Nat.le_of_ble_eq_true rfl⟩ dL_law_477 (fun r_185928 L_185929 f_185930 H locs h_185931 Y => ?_)
  obtain ⟨er_185928, I⟩ := h_185931
  have hC : CI G adx nL bT kF pF a a8 L_185929 f_185930 := ⟨tc, w, q, I, hW, hT, hQ, hZ, hE, hw2, hw7, hq2, hq7, ha, ha8, hL9, hBT⟩
  have Y := Y.swap
  refine lv_pop hx hb dL_law_480 rfl ?_
  refine lv_aload_n hx hb dL_law_481 rfl (lv_at hl 1 rfl) ?_
  refine lv_aload_n hx hb dL_law_482 rfl (lv_at hl 3 rfl) ?_
  refine lv_iload_n hx hb dL_law_483 rfl (lv_at hl 0 rfl) ?_
  refine lv_iconst (v := 1) hx hb dL_law_484 (by decide) ?_
  refine lv_iadd hx hb dL_law_485 ?_
  refine lv_topi (fun x_185932 ex_185932 => ?_)
  refine va_sld hx hb hX hbl hbA Y.2.2 (law_in ex_185932 hi hL (by decide)) dL_law_486 ?_
  refine lv_fold (z := v1) ((law_rd ex_185932 hi hL (by decide)).trans ev1.symm) ?_
  obtain ⟨wm, wm2, g0, I, hB, hB2, hX0, ew1, ew2, ha, ha8, hL9, hBT⟩ := hM
  refine cVi (As := [.int v1]) (rest := []) S Y (x_X12_breaks (l := l) I hB hX0) cw_X12_breaks kmL_50 (I.opo (k := 0) (j := 0) (by decide) rfl).choose_spec.1 ok_X12.1 rfl rfl ⟨Nat.le_of_ble_eq_true rfl, Nat.le_of_ble_eq_true rfl⟩ hl.1 rfl (Nat.le_of_ble_eq_true rfl) ⟨Nat.le_of_ble_eq_true rfl, Nat.le_of_ble_eq_true rfl⟩ dL_law_487 (fun r_185933 L_185934 f_185935 H locs h_185936 Y => ?_)
  obtain ⟨er_185933, I⟩ := h_185936
  have hM : MI G adm nL bT kF pF a a8 L_185934 f_185935 := ⟨wm, wm2, g0, I, hB, hB2, hX0, ew1, ew2, ha, ha8, hL9, hBT⟩
  refine lv_pop hx hb dL_law_490 rfl ?_
  refine lv_goto (tgt := 1526) hx hb dL_law_491 (by decide) ?_
  exact tail _ _ _ _ _ _ _ _ _ _ _ _ _ hC hM Y hl
set_option maxHeartbeats 4000000 in
set_option maxRecDepth 100000 in
theorem law_8 {p : Program} {e : Env} {s : State} {m : MethodId} {below : List Frame} {meth : Method} {c : Code} (l : Launch) {b L : Nat} {xs : Nat → Int32} (C0 : lw_At p s m meth c b L xs) (hL : L ≤ 3072) {G : GG} {A : Nat → Prop} (hAe : A = (fun q : Nat => s.heap.size ≤ q)) (S : SX G A p s m meth c RL code 4 ret) {aK aV : Nat → Nat} {z0 : Option Nat} (hz : ZS aK aV z0 A s s.heap) {adx adm : Nat → Nat → Nat} {i : Int32} (hi : 0 ≤ i.toInt ∧ i.toInt + 6 ≤ (L : Int)) {nL : Int} {bT : Nat → Int32} {kF pF a a8 : Int} {Lx Lm : List Nat} {fx fm : HF} {H : Heap} {locs : List Loc} {ls : Array Slot} (hC : CI G adx nL bT kF pF a a8 Lx fx) (hM : MI G adm nL bT kF pF a a8 Lm fm) (Y : DY G A s (va_pl Lx fx) Lm fm H locs) (hl : lv_has ls 4 [(3, .int i), (2, .ref (adm 0 0)), (1, .ref (adx 0 0)), (0, .ref b)]) (tail : ∀ (nL : Int) (bT : Nat → Int32) (kF pF a a8 : Int) (Lx Lm : List Nat) (fx fm : HF) (H : Heap) (locs : List Loc) (ls : Array Slot), CI G adx nL bT kF pF a a8 Lx fx → MI G adm nL bT kF pF a a8 Lm fm → DY G A s (va_pl Lx fx) Lm fm H locs → lv_has ls 4 [(3, .int i), (2, .ref (adm 0 0)), (1, .ref (adx 0 0)), (0, .ref b)] → W p l e room_1 s m #[Value.ref b] below meth c H locs 1000 60000 (lw_Z below #[Value.ref b] s) (F0 m 1526 ls [])) : W p l e room_1 s m #[Value.ref b] below meth c H locs 1000 60000 (lw_Z below #[Value.ref b] s) (F0 m 494 ls []) := by
  obtain ⟨hx, hb, hr, hml, hown, hts, hX, hbl, hlocks, hgv⟩ := id C0
  have hbA : ¬ A b := by rw [hAe]; exact Nat.not_le.mpr hbl
  refine lv_aload_n hx hb dL_law_494 rfl (lv_at hl 2 rfl) ?_
  refine lv_aload_n hx hb dL_law_495 rfl (lv_at hl 3 rfl) ?_
  refine lv_iload_n hx hb dL_law_496 rfl (lv_at hl 0 rfl) ?_
  refine lv_iconst (v := 1) hx hb dL_law_497 (by decide) ?_
  refine lv_iadd hx hb dL_law_498 ?_
  refine lv_topi (fun x_185937 ex_185937 => ?_)
  obtain ⟨v1, ev1⟩ : ∃ z, z = xs (i.toInt.toNat + (1 : Int32).toInt.toNat) := ⟨_, rfl⟩
  refine va_sld hx hb hX hbl hbA Y.2.2 (law_in ex_185937 hi hL (by decide)) dL_law_499 ?_
  refine lv_fold (z := v1) ((law_rd ex_185937 hi hL (by decide)).trans ev1.symm) ?_
  have Y := Y.swap
  obtain ⟨tc, w, q, I, hW, hT, hQ, hZ, hE, hw2, hw7, hq2, hq7, ha, ha8, hL9, hBT⟩ := hC
  refine cVi (As := [.int v1]) (rest := []) S Y (x_X11_release (l := l) I hW hT hQ hZ hE) cw_X11_release kmL_51 (I.opo (k := 0) (j := 0) (by decide) rfl).choose_spec.1 ok_X11.1 rfl rfl ⟨Nat.le_of_ble_eq_true rfl, Nat.le_of_ble_eq_true rfl⟩ hl.1 rfl (Nat.le_of_ble_eq_true rfl) ⟨Nat.le_of_ble_eq_true rfl, Nat.le_of_ble_eq_true rfl⟩ dL_law_500 (fun r_185938 L_185939 f_185940 H locs h_185941 Y => ?_)
  obtain ⟨er_185938, I⟩ := h_185941
  have hC : CI G adx nL bT kF pF a a8 L_185939 f_185940 := ⟨tc, w, q, I, hW, hT, hQ, hZ, hE, hw2, hw7, hq2, hq7, ha, ha8, hL9, hBT⟩
  have Y := Y.swap
  refine lv_pop hx hb dL_law_503 rfl ?_
  refine lv_aload_n hx hb dL_law_504 rfl (lv_at hl 1 rfl) ?_
  refine lv_aload_n hx hb dL_law_505 rfl (lv_at hl 3 rfl) ?_
  refine lv_iload_n hx hb dL_law_506 rfl (lv_at hl 0 rfl) ?_
  refine lv_iconst (v := 1) hx hb dL_law_507 (by decide) ?_
  refine lv_iadd hx hb dL_law_508 ?_
  refine lv_topi (fun x_185942 ex_185942 => ?_)
  refine va_sld hx hb hX hbl hbA Y.2.2 (law_in ex_185942 hi hL (by decide)) dL_law_509 ?_
  refine lv_fold (z := v1) ((law_rd ex_185942 hi hL (by decide)).trans ev1.symm) ?_
  obtain ⟨wm, wm2, g0, I, hB, hB2, hX0, ew1, ew2, ha, ha8, hL9, hBT⟩ := hM
  refine cVi (As := [.int v1]) (rest := []) S Y (x_X12_release (l := l) I hB hX0) cw_X12_release kmL_54 (I.opo (k := 0) (j := 0) (by decide) rfl).choose_spec.1 ok_X12.1 rfl rfl ⟨Nat.le_of_ble_eq_true rfl, Nat.le_of_ble_eq_true rfl⟩ hl.1 rfl (Nat.le_of_ble_eq_true rfl) ⟨Nat.le_of_ble_eq_true rfl, Nat.le_of_ble_eq_true rfl⟩ dL_law_510 (fun r_185943 L_185944 f_185945 H locs h_185946 Y => ?_)
  obtain ⟨er_185943, I⟩ := h_185946
  have hM : MI G adm nL bT kF pF a a8 L_185944 f_185945 := ⟨wm, wm2, g0, I, hB, hB2, hX0, ew1, ew2, ha, ha8, hL9, hBT⟩
  refine lv_pop hx hb dL_law_513 rfl ?_
  refine lv_goto (tgt := 1526) hx hb dL_law_514 (by decide) ?_
  exact tail _ _ _ _ _ _ _ _ _ _ _ _ _ hC hM Y hl
set_option maxHeartbeats 4000000 in
set_option maxRecDepth 100000 in
theorem law_9 {p : Program} {e : Env} {s : State} {m : MethodId} {below : List Frame} {meth : Method} {c : Code} (l : Launch) {b L : Nat} {xs : Nat → Int32} (C0 : lw_At p s m meth c b L xs) (hL : L ≤ 3072) {G : GG} {A : Nat → Prop} (hAe : A = (fun q : Nat => s.heap.size ≤ q)) (S : SX G A p s m meth c RL code 4 ret) {aK aV : Nat → Nat} {z0 : Option Nat} (hz : ZS aK aV z0 A s s.heap) {adx adm : Nat → Nat → Nat} {i : Int32} (hi : 0 ≤ i.toInt ∧ i.toInt + 6 ≤ (L : Int)) {nL : Int} {bT : Nat → Int32} {kF pF a a8 : Int} {Lx Lm : List Nat} {fx fm : HF} {H : Heap} {locs : List Loc} {ls : Array Slot} (hC : CI G adx nL bT kF pF a a8 Lx fx) (hM : MI G adm nL bT kF pF a a8 Lm fm) (Y : DY G A s (va_pl Lx fx) Lm fm H locs) (hl : lv_has ls 4 [(3, .int i), (2, .ref (adm 0 0)), (1, .ref (adx 0 0)), (0, .ref b)]) (tail : ∀ (nL : Int) (bT : Nat → Int32) (kF pF a a8 : Int) (Lx Lm : List Nat) (fx fm : HF) (H : Heap) (locs : List Loc) (ls : Array Slot), CI G adx nL bT kF pF a a8 Lx fx → MI G adm nL bT kF pF a a8 Lm fm → DY G A s (va_pl Lx fx) Lm fm H locs → lv_has ls 4 [(3, .int i), (2, .ref (adm 0 0)), (1, .ref (adx 0 0)), (0, .ref b)] → W p l e room_1 s m #[Value.ref b] below meth c H locs 1000 60000 (lw_Z below #[Value.ref b] s) (F0 m 1526 ls [])) : W p l e room_1 s m #[Value.ref b] below meth c H locs 1000 60000 (lw_Z below #[Value.ref b] s) (F0 m 517 ls []) := by
  obtain ⟨hx, hb, hr, hml, hown, hts, hX, hbl, hlocks, hgv⟩ := id C0
  have hbA : ¬ A b := by rw [hAe]; exact Nat.not_le.mpr hbl
  refine lv_aload_n hx hb dL_law_517 rfl (lv_at hl 2 rfl) ?_
  refine lv_aload_n hx hb dL_law_518 rfl (lv_at hl 3 rfl) ?_
  refine lv_iload_n hx hb dL_law_519 rfl (lv_at hl 0 rfl) ?_
  refine lv_iconst (v := 1) hx hb dL_law_520 (by decide) ?_
  refine lv_iadd hx hb dL_law_521 ?_
  refine lv_topi (fun x_185947 ex_185947 => ?_)
  obtain ⟨v1, ev1⟩ : ∃ z, z = xs (i.toInt.toNat + (1 : Int32).toInt.toNat) := ⟨_, rfl⟩
  refine va_sld hx hb hX hbl hbA Y.2.2 (law_in ex_185947 hi hL (by decide)) dL_law_522 ?_
  refine lv_fold (z := v1) ((law_rd ex_185947 hi hL (by decide)).trans ev1.symm) ?_
  have Y := Y.swap
  obtain ⟨tc, w, q, I, hW, hT, hQ, hZ, hE, hw2, hw7, hq2, hq7, ha, ha8, hL9, hBT⟩ := hC
  refine cVi (As := [.int v1]) (rest := []) S Y (x_X11_kneel (l := l) I hW hT hQ hZ hE) cw_X11_kneel kmL_55 (I.opo (k := 0) (j := 0) (by decide) rfl).choose_spec.1 ok_X11.1 rfl rfl ⟨Nat.le_of_ble_eq_true rfl, Nat.le_of_ble_eq_true rfl⟩ hl.1 rfl (Nat.le_of_ble_eq_true rfl) ⟨Nat.le_of_ble_eq_true rfl, Nat.le_of_ble_eq_true rfl⟩ dL_law_523 (fun r_185948 L_185949 f_185950 H locs h_185951 Y => ?_)
  have I := h_185951
  have hC : CI G adx nL bT kF pF a a8 L_185949 f_185950 := ⟨tc, w, q, I, hW, hT, hQ, hZ, hE, hw2, hw7, hq2, hq7, ha, ha8, hL9, hBT⟩
  have Y := Y.swap
  refine lv_pop hx hb dL_law_526 rfl ?_
  refine lv_aload_n hx hb dL_law_527 rfl (lv_at hl 1 rfl) ?_
  refine lv_aload_n hx hb dL_law_528 rfl (lv_at hl 3 rfl) ?_
  refine lv_iload_n hx hb dL_law_529 rfl (lv_at hl 0 rfl) ?_
  refine lv_iconst (v := 1) hx hb dL_law_530 (by decide) ?_
  refine lv_iadd hx hb dL_law_531 ?_
  refine lv_topi (fun x_185952 ex_185952 => ?_)
  refine va_sld hx hb hX hbl hbA Y.2.2 (law_in ex_185952 hi hL (by decide)) dL_law_532 ?_
  refine lv_fold (z := v1) ((law_rd ex_185952 hi hL (by decide)).trans ev1.symm) ?_
  obtain ⟨wm, wm2, g0, I, hB, hB2, hX0, ew1, ew2, ha, ha8, hL9, hBT⟩ := hM
  refine cVi (As := [.int v1]) (rest := []) S Y (x_X12_kneel (l := l) I hB hX0) cw_X12_kneel kmL_58 (I.opo (k := 0) (j := 0) (by decide) rfl).choose_spec.1 ok_X12.1 rfl rfl ⟨Nat.le_of_ble_eq_true rfl, Nat.le_of_ble_eq_true rfl⟩ hl.1 rfl (Nat.le_of_ble_eq_true rfl) ⟨Nat.le_of_ble_eq_true rfl, Nat.le_of_ble_eq_true rfl⟩ dL_law_533 (fun r_185953 L_185954 f_185955 H locs h_185956 Y => ?_)
  have I := h_185956
  have hM : MI G adm nL bT kF pF a a8 L_185954 f_185955 := ⟨wm, wm2, g0, I, hB, hB2, hX0, ew1, ew2, ha, ha8, hL9, hBT⟩
  refine lv_pop hx hb dL_law_536 rfl ?_
  refine lv_goto (tgt := 1526) hx hb dL_law_537 (by decide) ?_
  exact tail _ _ _ _ _ _ _ _ _ _ _ _ _ hC hM Y hl
set_option maxHeartbeats 4000000 in
set_option maxRecDepth 100000 in
theorem law_10 {p : Program} {e : Env} {s : State} {m : MethodId} {below : List Frame} {meth : Method} {c : Code} (l : Launch) {b L : Nat} {xs : Nat → Int32} (C0 : lw_At p s m meth c b L xs) (hL : L ≤ 3072) {G : GG} {A : Nat → Prop} (hAe : A = (fun q : Nat => s.heap.size ≤ q)) (S : SX G A p s m meth c RL code 4 ret) {aK aV : Nat → Nat} {z0 : Option Nat} (hz : ZS aK aV z0 A s s.heap) {adx adm : Nat → Nat → Nat} {i : Int32} (hi : 0 ≤ i.toInt ∧ i.toInt + 6 ≤ (L : Int)) {nL : Int} {bT : Nat → Int32} {kF pF a a8 : Int} {Lx Lm : List Nat} {fx fm : HF} {H : Heap} {locs : List Loc} {ls : Array Slot} (hC : CI G adx nL bT kF pF a a8 Lx fx) (hM : MI G adm nL bT kF pF a a8 Lm fm) (Y : DY G A s (va_pl Lx fx) Lm fm H locs) (hl : lv_has ls 4 [(3, .int i), (2, .ref (adm 0 0)), (1, .ref (adx 0 0)), (0, .ref b)]) (tail : ∀ (nL : Int) (bT : Nat → Int32) (kF pF a a8 : Int) (Lx Lm : List Nat) (fx fm : HF) (H : Heap) (locs : List Loc) (ls : Array Slot), CI G adx nL bT kF pF a a8 Lx fx → MI G adm nL bT kF pF a a8 Lm fm → DY G A s (va_pl Lx fx) Lm fm H locs → lv_has ls 4 [(3, .int i), (2, .ref (adm 0 0)), (1, .ref (adx 0 0)), (0, .ref b)] → W p l e room_1 s m #[Value.ref b] below meth c H locs 1000 60000 (lw_Z below #[Value.ref b] s) (F0 m 1526 ls [])) : W p l e room_1 s m #[Value.ref b] below meth c H locs 1000 60000 (lw_Z below #[Value.ref b] s) (F0 m 540 ls []) := by
  obtain ⟨hx, hb, hr, hml, hown, hts, hX, hbl, hlocks, hgv⟩ := id C0
  have hbA : ¬ A b := by rw [hAe]; exact Nat.not_le.mpr hbl
  refine lv_aload_n hx hb dL_law_540 rfl (lv_at hl 2 rfl) ?_
  refine lv_aload_n hx hb dL_law_541 rfl (lv_at hl 3 rfl) ?_
  refine lv_iload_n hx hb dL_law_542 rfl (lv_at hl 0 rfl) ?_
  refine lv_iconst (v := 1) hx hb dL_law_543 (by decide) ?_
  refine lv_iadd hx hb dL_law_544 ?_
  refine lv_topi (fun x_185957 ex_185957 => ?_)
  obtain ⟨v1, ev1⟩ : ∃ z, z = xs (i.toInt.toNat + (1 : Int32).toInt.toNat) := ⟨_, rfl⟩
  refine va_sld hx hb hX hbl hbA Y.2.2 (law_in ex_185957 hi hL (by decide)) dL_law_545 ?_
  refine lv_fold (z := v1) ((law_rd ex_185957 hi hL (by decide)).trans ev1.symm) ?_
  refine lv_aload_n hx hb dL_law_546 rfl (lv_at hl 3 rfl) ?_
  refine lv_iload_n hx hb dL_law_547 rfl (lv_at hl 0 rfl) ?_
  refine lv_iconst (v := 2) hx hb dL_law_548 (by decide) ?_
  refine lv_iadd hx hb dL_law_549 ?_
  refine lv_topi (fun x_185958 ex_185958 => ?_)
  obtain ⟨v2, ev2⟩ : ∃ z, z = xs (i.toInt.toNat + (2 : Int32).toInt.toNat) := ⟨_, rfl⟩
  refine va_sld hx hb hX hbl hbA Y.2.2 (law_in ex_185958 hi hL (by decide)) dL_law_550 ?_
  refine lv_fold (z := v2) ((law_rd ex_185958 hi hL (by decide)).trans ev2.symm) ?_
  have Y := Y.swap
  obtain ⟨tc, w, q, I, hW, hT, hQ, hZ, hE, hw2, hw7, hq2, hq7, ha, ha8, hL9, hBT⟩ := hC
  refine cVi (As := [.int v1, .int v2]) (rest := []) S Y (x_X11_skate (l := l) I hW hT hQ hZ hE) cw_X11_skate kmL_59 (I.opo (k := 0) (j := 0) (by decide) rfl).choose_spec.1 ok_X11.1 rfl rfl ⟨Nat.le_of_ble_eq_true rfl, Nat.le_of_ble_eq_true rfl⟩ hl.1 rfl (Nat.le_of_ble_eq_true rfl) ⟨Nat.le_of_ble_eq_true rfl, Nat.le_of_ble_eq_true rfl⟩ dL_law_551 (fun r_185959 L_185960 f_185961 H locs h_185962 Y => ?_)
  have I := h_185962
  have hC : CI G adx nL bT kF pF a a8 L_185960 f_185961 := ⟨tc, w, q, I, hW, hT, hQ, hZ, hE, hw2, hw7, hq2, hq7, ha, ha8, hL9, hBT⟩
  have Y := Y.swap
  refine lv_pop hx hb dL_law_554 rfl ?_
  refine lv_aload_n hx hb dL_law_555 rfl (lv_at hl 1 rfl) ?_
  refine lv_aload_n hx hb dL_law_556 rfl (lv_at hl 3 rfl) ?_
  refine lv_iload_n hx hb dL_law_557 rfl (lv_at hl 0 rfl) ?_
  refine lv_iconst (v := 1) hx hb dL_law_558 (by decide) ?_
  refine lv_iadd hx hb dL_law_559 ?_
  refine lv_topi (fun x_185963 ex_185963 => ?_)
  refine va_sld hx hb hX hbl hbA Y.2.2 (law_in ex_185963 hi hL (by decide)) dL_law_560 ?_
  refine lv_fold (z := v1) ((law_rd ex_185963 hi hL (by decide)).trans ev1.symm) ?_
  refine lv_aload_n hx hb dL_law_561 rfl (lv_at hl 3 rfl) ?_
  refine lv_iload_n hx hb dL_law_562 rfl (lv_at hl 0 rfl) ?_
  refine lv_iconst (v := 2) hx hb dL_law_563 (by decide) ?_
  refine lv_iadd hx hb dL_law_564 ?_
  refine lv_topi (fun x_185964 ex_185964 => ?_)
  refine va_sld hx hb hX hbl hbA Y.2.2 (law_in ex_185964 hi hL (by decide)) dL_law_565 ?_
  refine lv_fold (z := v2) ((law_rd ex_185964 hi hL (by decide)).trans ev2.symm) ?_
  obtain ⟨wm, wm2, g0, I, hB, hB2, hX0, ew1, ew2, ha, ha8, hL9, hBT⟩ := hM
  refine cVi (As := [.int v1, .int v2]) (rest := []) S Y (x_X12_skate (l := l) I hB hX0) cw_X12_skate kmL_62 (I.opo (k := 0) (j := 0) (by decide) rfl).choose_spec.1 ok_X12.1 rfl rfl ⟨Nat.le_of_ble_eq_true rfl, Nat.le_of_ble_eq_true rfl⟩ hl.1 rfl (Nat.le_of_ble_eq_true rfl) ⟨Nat.le_of_ble_eq_true rfl, Nat.le_of_ble_eq_true rfl⟩ dL_law_566 (fun r_185965 L_185966 f_185967 H locs h_185968 Y => ?_)
  have I := h_185968
  have hM : MI G adm nL bT kF pF a a8 L_185966 f_185967 := ⟨wm, wm2, g0, I, hB, hB2, hX0, ew1, ew2, ha, ha8, hL9, hBT⟩
  refine lv_pop hx hb dL_law_569 rfl ?_
  refine lv_goto (tgt := 1526) hx hb dL_law_570 (by decide) ?_
  exact tail _ _ _ _ _ _ _ _ _ _ _ _ _ hC hM Y hl
set_option maxHeartbeats 4000000 in
set_option maxRecDepth 100000 in
theorem law_11 {p : Program} {e : Env} {s : State} {m : MethodId} {below : List Frame} {meth : Method} {c : Code} (l : Launch) {b L : Nat} {xs : Nat → Int32} (C0 : lw_At p s m meth c b L xs) (hL : L ≤ 3072) {G : GG} {A : Nat → Prop} (hAe : A = (fun q : Nat => s.heap.size ≤ q)) (S : SX G A p s m meth c RL code 4 ret) {aK aV : Nat → Nat} {z0 : Option Nat} (hz : ZS aK aV z0 A s s.heap) {adx adm : Nat → Nat → Nat} {i : Int32} (hi : 0 ≤ i.toInt ∧ i.toInt + 6 ≤ (L : Int)) {nL : Int} {bT : Nat → Int32} {kF pF a a8 : Int} {Lx Lm : List Nat} {fx fm : HF} {H : Heap} {locs : List Loc} {ls : Array Slot} (hC : CI G adx nL bT kF pF a a8 Lx fx) (hM : MI G adm nL bT kF pF a a8 Lm fm) (Y : DY G A s (va_pl Lx fx) Lm fm H locs) (hl : lv_has ls 4 [(3, .int i), (2, .ref (adm 0 0)), (1, .ref (adx 0 0)), (0, .ref b)]) (tail : ∀ (nL : Int) (bT : Nat → Int32) (kF pF a a8 : Int) (Lx Lm : List Nat) (fx fm : HF) (H : Heap) (locs : List Loc) (ls : Array Slot), CI G adx nL bT kF pF a a8 Lx fx → MI G adm nL bT kF pF a a8 Lm fm → DY G A s (va_pl Lx fx) Lm fm H locs → lv_has ls 4 [(3, .int i), (2, .ref (adm 0 0)), (1, .ref (adx 0 0)), (0, .ref b)] → W p l e room_1 s m #[Value.ref b] below meth c H locs 1000 60000 (lw_Z below #[Value.ref b] s) (F0 m 1526 ls [])) : W p l e room_1 s m #[Value.ref b] below meth c H locs 1000 60000 (lw_Z below #[Value.ref b] s) (F0 m 573 ls []) := by
  obtain ⟨hx, hb, hr, hml, hown, hts, hX, hbl, hlocks, hgv⟩ := id C0
  have hbA : ¬ A b := by rw [hAe]; exact Nat.not_le.mpr hbl
  refine lv_aload_n hx hb dL_law_573 rfl (lv_at hl 2 rfl) ?_
  refine lv_aload_n hx hb dL_law_574 rfl (lv_at hl 3 rfl) ?_
  refine lv_iload_n hx hb dL_law_575 rfl (lv_at hl 0 rfl) ?_
  refine lv_iconst (v := 1) hx hb dL_law_576 (by decide) ?_
  refine lv_iadd hx hb dL_law_577 ?_
  refine lv_topi (fun x_185969 ex_185969 => ?_)
  obtain ⟨v1, ev1⟩ : ∃ z, z = xs (i.toInt.toNat + (1 : Int32).toInt.toNat) := ⟨_, rfl⟩
  refine va_sld hx hb hX hbl hbA Y.2.2 (law_in ex_185969 hi hL (by decide)) dL_law_578 ?_
  refine lv_fold (z := v1) ((law_rd ex_185969 hi hL (by decide)).trans ev1.symm) ?_
  have Y := Y.swap
  obtain ⟨tc, w, q, I, hW, hT, hQ, hZ, hE, hw2, hw7, hq2, hq7, ha, ha8, hL9, hBT⟩ := hC
  refine cVi (As := [.int v1]) (rest := []) S Y (x_X11_strike (l := l) I hW hT hQ hZ hE) cw_X11_strike kmL_63 (I.opo (k := 0) (j := 0) (by decide) rfl).choose_spec.1 ok_X11.1 rfl rfl ⟨Nat.le_of_ble_eq_true rfl, Nat.le_of_ble_eq_true rfl⟩ hl.1 rfl (Nat.le_of_ble_eq_true rfl) ⟨Nat.le_of_ble_eq_true rfl, Nat.le_of_ble_eq_true rfl⟩ dL_law_579 (fun r_185970 L_185971 f_185972 H locs h_185973 Y => ?_)
  have I := h_185973
  have hC : CI G adx nL bT kF pF a a8 L_185971 f_185972 := ⟨tc, w, q, I, hW, hT, hQ, hZ, hE, hw2, hw7, hq2, hq7, ha, ha8, hL9, hBT⟩
  have Y := Y.swap
  refine lv_pop hx hb dL_law_582 rfl ?_
  refine lv_aload_n hx hb dL_law_583 rfl (lv_at hl 1 rfl) ?_
  refine lv_aload_n hx hb dL_law_584 rfl (lv_at hl 3 rfl) ?_
  refine lv_iload_n hx hb dL_law_585 rfl (lv_at hl 0 rfl) ?_
  refine lv_iconst (v := 1) hx hb dL_law_586 (by decide) ?_
  refine lv_iadd hx hb dL_law_587 ?_
  refine lv_topi (fun x_185974 ex_185974 => ?_)
  refine va_sld hx hb hX hbl hbA Y.2.2 (law_in ex_185974 hi hL (by decide)) dL_law_588 ?_
  refine lv_fold (z := v1) ((law_rd ex_185974 hi hL (by decide)).trans ev1.symm) ?_
  obtain ⟨wm, wm2, g0, I, hB, hB2, hX0, ew1, ew2, ha, ha8, hL9, hBT⟩ := hM
  refine cVi (As := [.int v1]) (rest := []) S Y (x_X12_strike (l := l) I hB hX0) cw_X12_strike kmL_66 (I.opo (k := 0) (j := 0) (by decide) rfl).choose_spec.1 ok_X12.1 rfl rfl ⟨Nat.le_of_ble_eq_true rfl, Nat.le_of_ble_eq_true rfl⟩ hl.1 rfl (Nat.le_of_ble_eq_true rfl) ⟨Nat.le_of_ble_eq_true rfl, Nat.le_of_ble_eq_true rfl⟩ dL_law_589 (fun r_185975 L_185976 f_185977 H locs h_185978 Y => ?_)
  have I := h_185978
  have hM : MI G adm nL bT kF pF a a8 L_185976 f_185977 := ⟨wm, wm2, g0, I, hB, hB2, hX0, ew1, ew2, ha, ha8, hL9, hBT⟩
  refine lv_pop hx hb dL_law_592 rfl ?_
  refine lv_goto (tgt := 1526) hx hb dL_law_593 (by decide) ?_
  exact tail _ _ _ _ _ _ _ _ _ _ _ _ _ hC hM Y hl
