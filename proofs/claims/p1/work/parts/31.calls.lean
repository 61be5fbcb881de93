theorem dL_law_0 : decode cL_law 0 = .ok (.new 7, 3) := by decide +kernel
theorem kcL_7 : inW (Cond.classLink RL 7 RX11) := ⟨List.mem_of_getElem? (i := 145) (by decide +kernel), by decide +kernel⟩
theorem ki11 : inW (Cond.initialized RX11) := ⟨List.mem_of_getElem? (i := 124) (by decide +kernel), by decide +kernel⟩
theorem dL_law_3 : decode cL_law 3 = .ok (.dup, 1) := by decide +kernel
theorem dL_law_4 : decode cL_law 4 = .ok (.invokespecial 9, 3) := by decide +kernel
theorem cw_X11_init : CWi yX11_init cX11_init 2 0 := ⟨⟨⟨List.mem_of_getElem? (i := 124) (by decide +kernel), by decide +kernel⟩, ⟨List.mem_of_getElem? (i := 149) (by decide +kernel), by decide +kernel⟩, by decide +kernel⟩, ⟨List.mem_of_getElem? (i := 148) (by decide +kernel), by decide +kernel⟩, rfl⟩
theorem kmL_9 : inW (Cond.methodLink RL 9 yX11_init) := ⟨List.mem_of_getElem? (i := 147) (by decide +kernel), by decide +kernel⟩
theorem dL_law_7 : decode cL_law 7 = .ok (.astore_n 1, 1) := by decide +kernel
theorem dL_law_8 : decode cL_law 8 = .ok (.new 10, 3) := by decide +kernel
theorem kcL_10 : inW (Cond.classLink RL 10 RX12) := ⟨List.mem_of_getElem? (i := 1489) (by decide +kernel), by decide +kernel⟩
theorem ki12 : inW (Cond.initialized RX12) := ⟨List.mem_of_getElem? (i := 137) (by decide +kernel), by decide +kernel⟩
theorem dL_law_11 : decode cL_law 11 = .ok (.dup, 1) := by decide +kernel
theorem dL_law_12 : decode cL_law 12 = .ok (.invokespecial 12, 3) := by decide +kernel
theorem cw_X12_init : CWi yX12_init cX12_init 1 0 := ⟨⟨⟨List.mem_of_getElem? (i := 137) (by decide +kernel), by decide +kernel⟩, ⟨List.mem_of_getElem? (i := 1493) (by decide +kernel), by decide +kernel⟩, by decide +kernel⟩, ⟨List.mem_of_getElem? (i := 1492) (by decide +kernel), by decide +kernel⟩, rfl⟩
theorem kmL_12 : inW (Cond.methodLink RL 12 yX12_init) := ⟨List.mem_of_getElem? (i := 1491) (by decide +kernel), by decide +kernel⟩
theorem dL_law_15 : decode cL_law 15 = .ok (.astore_n 2, 1) := by decide +kernel
theorem dL_law_16 : decode cL_law 16 = .ok (.iconst 0, 1) := by decide +kernel
theorem dL_law_17 : decode cL_law 17 = .ok (.istore_n 3, 1) := by decide +kernel
theorem dL_law_18 : decode cL_law 18 = .ok (.iload_n 3, 1) := by decide +kernel
theorem dL_law_19 : decode cL_law 19 = .ok (.aload_n 0, 1) := by decide +kernel
theorem dL_law_20 : decode cL_law 20 = .ok (.arraylength, 1) := by decide +kernel
theorem dL_law_21 : decode cL_law 21 = .ok (.bipush 6, 2) := by decide +kernel
theorem dL_law_23 : decode cL_law 23 = .ok (.isub, 1) := by decide +kernel
theorem dL_law_24 : decode cL_law 24 = .ok (.if_icmp .gt 1508, 3) := by decide +kernel
theorem dL_law_1532 : decode cL_law 1532 = .ok (.iconst 1, 1) := by decide +kernel
theorem dL_law_1533 : decode cL_law 1533 = .ok (.ireturn, 1) := by decide +kernel
theorem dL_law_27 : decode cL_law 27 = .ok (.aload_n 0, 1) := by decide +kernel
theorem dL_law_28 : decode cL_law 28 = .ok (.iload_n 3, 1) := by decide +kernel
theorem dL_law_29 : decode cL_law 29 = .ok (.iaload, 1) := by decide +kernel
theorem dL_law_30 : decode cL_law 30 = .ok (.bipush 63, 2) := by decide +kernel
theorem dL_law_32 : decode cL_law 32 = .ok (.iand, 1) := by decide +kernel
theorem dL_law_33 : decode cL_law 33 = .ok (.tableswitch 1493 0 47 #[207, 240, 303, 326, 339, 362, 385, 438, 461, 484, 507, 540, 563, 586, 609, 642, 655, 688, 721, 744, 777, 810, 833, 856, 899, 932, 981, 1004, 1037, 1050, 1093, 1126, 1149, 1172, 1185, 1198, 1231, 1254, 1267, 1336, 1369, 1382, 1395, 1408, 1431, 1444, 1457, 1470], 207) := by decide +kernel
theorem sw_0_47 (x : Int32) : x = 0 ∨ x = 1 ∨ x = 2 ∨ x = 3 ∨ x = 4 ∨ x = 5 ∨ x = 6 ∨ x = 7 ∨ x = 8 ∨ x = 9 ∨ x = 10 ∨ x = 11 ∨ x = 12 ∨ x = 13 ∨ x = 14 ∨ x = 15 ∨ x = 16 ∨ x = 17 ∨ x = 18 ∨ x = 19 ∨ x = 20 ∨ x = 21 ∨ x = 22 ∨ x = 23 ∨ x = 24 ∨ x = 25 ∨ x = 26 ∨ x = 27 ∨ x = 28 ∨ x = 29 ∨ x = 30 ∨ x = 31 ∨ x = 32 ∨ x = 33 ∨ x = 34 ∨ x = 35 ∨ x = 36 ∨ x = 37 ∨ x = 38 ∨ x = 39 ∨ x = 40 ∨ x = 41 ∨ x = 42 ∨ x = 43 ∨ x = 44 ∨ x = 45 ∨ x = 46 ∨ x = 47 ∨ (x.toInt < 0 ∨ 47 < x.toInt) := by
  have key : ∀ k : Int32, x.toInt = k.toInt → x = k := fun k h => Int32.toInt_inj.mp h
  by_cases h1 : x.toInt < 0
  · simp [h1]
  by_cases h2 : 47 < x.toInt
  · simp [h2]
  have h3 : x.toInt = 0 ∨ x.toInt = 1 ∨ x.toInt = 2 ∨ x.toInt = 3 ∨ x.toInt = 4 ∨ x.toInt = 5 ∨ x.toInt = 6 ∨ x.toInt = 7 ∨ x.toInt = 8 ∨ x.toInt = 9 ∨ x.toInt = 10 ∨ x.toInt = 11 ∨ x.toInt = 12 ∨ x.toInt = 13 ∨ x.toInt = 14 ∨ x.toInt = 15 ∨ x.toInt = 16 ∨ x.toInt = 17 ∨ x.toInt = 18 ∨ x.toInt = 19 ∨ x.toInt = 20 ∨ x.toInt = 21 ∨ x.toInt = 22 ∨ x.toInt = 23 ∨ x.toInt = 24 ∨ x.toInt = 25 ∨ x.toInt = 26 ∨ x.toInt = 27 ∨ x.toInt = 28 ∨ x.toInt = 29 ∨ x.toInt = 30 ∨ x.toInt = 31 ∨ x.toInt = 32 ∨ x.toInt = 33 ∨ x.toInt = 34 ∨ x.toInt = 35 ∨ x.toInt = 36 ∨ x.toInt = 37 ∨ x.toInt = 38 ∨ x.toInt = 39 ∨ x.toInt = 40 ∨ x.toInt = 41 ∨ x.toInt = 42 ∨ x.toInt = 43 ∨ x.toInt = 44 ∨ x.toInt = 45 ∨ x.toInt = 46 ∨ x.toInt = 47 := by omega
  rcases h3 with h | h | h | h | h | h | h | h | h | h | h | h | h | h | h | h | h | h | h | h | h | h | h | h | h | h | h | h | h | h | h | h | h | h | h | h | h | h | h | h | h | h | h | h | h | h | h | h
  · rw [key 0 (h.trans (by decide))]; decide
  · rw [key 1 (h.trans (by decide))]; decide
  · rw [key 2 (h.trans (by decide))]; decide
  · rw [key 3 (h.trans (by decide))]; decide
  · rw [key 4 (h.trans (by decide))]; decide
  · rw [key 5 (h.trans (by decide))]; decide
  · rw [key 6 (h.trans (by decide))]; decide
  · rw [key 7 (h.trans (by decide))]; decide
  · rw [key 8 (h.trans (by decide))]; decide
  · rw [key 9 (h.trans (by decide))]; decide
  · rw [key 10 (h.trans (by decide))]; decide
  · rw [key 11 (h.trans (by decide))]; decide
  · rw [key 12 (h.trans (by decide))]; decide
  · rw [key 13 (h.trans (by decide))]; decide
  · rw [key 14 (h.trans (by decide))]; decide
  · rw [key 15 (h.trans (by decide))]; decide
  · rw [key 16 (h.trans (by decide))]; decide
  · rw [key 17 (h.trans (by decide))]; decide
  · rw [key 18 (h.trans (by decide))]; decide
  · rw [key 19 (h.trans (by decide))]; decide
  · rw [key 20 (h.trans (by decide))]; decide
  · rw [key 21 (h.trans (by decide))]; decide
  · rw [key 22 (h.trans (by decide))]; decide
  · rw [key 23 (h.trans (by decide))]; decide
  · rw [key 24 (h.trans (by decide))]; decide
  · rw [key 25 (h.trans (by decide))]; decide
  · rw [key 26 (h.trans (by decide))]; decide
  · rw [key 27 (h.trans (by decide))]; decide
  · rw [key 28 (h.trans (by decide))]; decide
  · rw [key 29 (h.trans (by decide))]; decide
  · rw [key 30 (h.trans (by decide))]; decide
  · rw [key 31 (h.trans (by decide))]; decide
  · rw [key 32 (h.trans (by decide))]; decide
  · rw [key 33 (h.trans (by decide))]; decide
  · rw [key 34 (h.trans (by decide))]; decide
  · rw [key 35 (h.trans (by decide))]; decide
  · rw [key 36 (h.trans (by decide))]; decide
  · rw [key 37 (h.trans (by decide))]; decide
  · rw [key 38 (h.trans (by decide))]; decide
  · rw [key 39 (h.trans (by decide))]; decide
  · rw [key 40 (h.trans (by decide))]; decide
  · rw [key 41 (h.trans (by decide))]; decide
  · rw [key 42 (h.trans (by decide))]; decide
  · rw [key 43 (h.trans (by decide))]; decide
  · rw [key 44 (h.trans (by decide))]; decide
  · rw [key 45 (h.trans (by decide))]; decide
  · rw [key 46 (h.trans (by decide))]; decide
  · rw [key 47 (h.trans (by decide))]; decide
theorem dL_law_240 : decode cL_law 240 = .ok (.aload_n 1, 1) := by decide +kernel
theorem dL_law_241 : decode cL_law 241 = .ok (.aload_n 0, 1) := by decide +kernel
theorem dL_law_242 : decode cL_law 242 = .ok (.iload_n 3, 1) := by decide +kernel
theorem dL_law_243 : decode cL_law 243 = .ok (.iconst 1, 1) := by decide +kernel
theorem dL_law_244 : decode cL_law 244 = .ok (.iadd, 1) := by decide +kernel
theorem dL_law_245 : decode cL_law 245 = .ok (.iaload, 1) := by decide +kernel
theorem dL_law_246 : decode cL_law 246 = .ok (.aload_n 0, 1) := by decide +kernel
theorem dL_law_247 : decode cL_law 247 = .ok (.iload_n 3, 1) := by decide +kernel
theorem dL_law_248 : decode cL_law 248 = .ok (.iconst 2, 1) := by decide +kernel
theorem dL_law_249 : decode cL_law 249 = .ok (.iadd, 1) := by decide +kernel
theorem dL_law_250 : decode cL_law 250 = .ok (.iaload, 1) := by decide +kernel
theorem dL_law_251 : decode cL_law 251 = .ok (.invokevirtual 13, 3) := by decide +kernel
theorem cw_X11_one : CWv yX11_one cX11_one 3 (some .int) 2 := ⟨⟨⟨List.mem_of_getElem? (i := 124) (by decide +kernel), by decide +kernel⟩, ⟨List.mem_of_getElem? (i := 536) (by decide +kernel), by decide +kernel⟩, by decide +kernel⟩, ⟨List.mem_of_getElem? (i := 534) (by decide +kernel), by decide +kernel⟩, ⟨List.mem_of_getElem? (i := 535) (by decide +kernel), by decide +kernel⟩⟩
theorem kmL_13 : inW (Cond.methodLink RL 13 yX11_one) := ⟨List.mem_of_getElem? (i := 533) (by decide +kernel), by decide +kernel⟩
theorem dL_law_254 : decode cL_law 254 = .ok (.aload_n 2, 1) := by decide +kernel
theorem dL_law_255 : decode cL_law 255 = .ok (.aload_n 0, 1) := by decide +kernel
theorem dL_law_256 : decode cL_law 256 = .ok (.iload_n 3, 1) := by decide +kernel
theorem dL_law_257 : decode cL_law 257 = .ok (.iconst 1, 1) := by decide +kernel
theorem dL_law_258 : decode cL_law 258 = .ok (.iadd, 1) := by decide +kernel
theorem dL_law_259 : decode cL_law 259 = .ok (.iaload, 1) := by decide +kernel
theorem dL_law_260 : decode cL_law 260 = .ok (.aload_n 0, 1) := by decide +kernel
theorem dL_law_261 : decode cL_law 261 = .ok (.iload_n 3, 1) := by decide +kernel
theorem dL_law_262 : decode cL_law 262 = .ok (.iconst 2, 1) := by decide +kernel
theorem dL_law_263 : decode cL_law 263 = .ok (.iadd, 1) := by decide +kernel
theorem dL_law_264 : decode cL_law 264 = .ok (.iaload, 1) := by decide +kernel
theorem dL_law_265 : decode cL_law 265 = .ok (.invokevirtual 17, 3) := by decide +kernel
theorem cw_X12_one : CWv yX12_one cX12_one 3 (some .int) 2 := ⟨⟨⟨List.mem_of_getElem? (i := 137) (by decide +kernel), by decide +kernel⟩, ⟨List.mem_of_getElem? (i := 1600) (by decide +kernel), by decide +kernel⟩, by decide +kernel⟩, ⟨List.mem_of_getElem? (i := 1598) (by decide +kernel), by decide +kernel⟩, ⟨List.mem_of_getElem? (i := 1599) (by decide +kernel), by decide +kernel⟩⟩
theorem kmL_17 : inW (Cond.methodLink RL 17 yX12_one) := ⟨List.mem_of_getElem? (i := 1597) (by decide +kernel), by decide +kernel⟩
theorem dL_law_268 : decode cL_law 268 = .ok (.if_icmp .eq 1258, 3) := by decide +kernel
theorem dL_law_1526 : decode cL_law 1526 = .ok (.iinc 3 6, 3) := by decide +kernel
theorem dL_law_1529 : decode cL_law 1529 = .ok (.goto (-1511), 3) := by decide +kernel
theorem dL_law_273 : decode cL_law 273 = .ok (.aload_n 1, 1) := by decide +kernel
theorem dL_law_274 : decode cL_law 274 = .ok (.aload_n 0, 1) := by decide +kernel
theorem dL_law_275 : decode cL_law 275 = .ok (.iload_n 3, 1) := by decide +kernel
theorem dL_law_276 : decode cL_law 276 = .ok (.iconst 1, 1) := by decide +kernel
theorem dL_law_277 : decode cL_law 277 = .ok (.iadd, 1) := by decide +kernel
theorem dL_law_278 : decode cL_law 278 = .ok (.iaload, 1) := by decide +kernel
theorem dL_law_279 : decode cL_law 279 = .ok (.aload_n 0, 1) := by decide +kernel
theorem dL_law_280 : decode cL_law 280 = .ok (.iload_n 3, 1) := by decide +kernel
theorem dL_law_281 : decode cL_law 281 = .ok (.iconst 2, 1) := by decide +kernel
theorem dL_law_282 : decode cL_law 282 = .ok (.iadd, 1) := by decide +kernel
theorem dL_law_283 : decode cL_law 283 = .ok (.iaload, 1) := by decide +kernel
theorem dL_law_284 : decode cL_law 284 = .ok (.aload_n 0, 1) := by decide +kernel
theorem dL_law_285 : decode cL_law 285 = .ok (.iload_n 3, 1) := by decide +kernel
theorem dL_law_286 : decode cL_law 286 = .ok (.iconst 3, 1) := by decide +kernel
theorem dL_law_287 : decode cL_law 287 = .ok (.iadd, 1) := by decide +kernel
theorem dL_law_288 : decode cL_law 288 = .ok (.iaload, 1) := by decide +kernel
theorem dL_law_289 : decode cL_law 289 = .ok (.aload_n 0, 1) := by decide +kernel
theorem dL_law_290 : decode cL_law 290 = .ok (.iload_n 3, 1) := by decide +kernel
theorem dL_law_291 : decode cL_law 291 = .ok (.iconst 4, 1) := by decide +kernel
theorem dL_law_292 : decode cL_law 292 = .ok (.iadd, 1) := by decide +kernel
theorem dL_law_293 : decode cL_law 293 = .ok (.iaload, 1) := by decide +kernel
theorem dL_law_294 : decode cL_law 294 = .ok (.aload_n 0, 1) := by decide +kernel
theorem dL_law_295 : decode cL_law 295 = .ok (.iload_n 3, 1) := by decide +kernel
theorem dL_law_296 : decode cL_law 296 = .ok (.iconst 5, 1) := by decide +kernel
theorem dL_law_297 : decode cL_law 297 = .ok (.iadd, 1) := by decide +kernel
theorem dL_law_298 : decode cL_law 298 = .ok (.iaload, 1) := by decide +kernel
theorem dL_law_299 : decode cL_law 299 = .ok (.invokevirtual 18, 3) := by decide +kernel
theorem cw_X11_feed : CWv yX11_feed cX11_feed 6 (some .int) 5 := ⟨⟨⟨List.mem_of_getElem? (i := 124) (by decide +kernel), by decide +kernel⟩, ⟨List.mem_of_getElem? (i := 547) (by decide +kernel), by decide +kernel⟩, by decide +kernel⟩, ⟨List.mem_of_getElem? (i := 545) (by decide +kernel), by decide +kernel⟩, ⟨List.mem_of_getElem? (i := 546) (by decide +kernel), by decide +kernel⟩⟩
theorem kmL_18 : inW (Cond.methodLink RL 18 yX11_feed) := ⟨List.mem_of_getElem? (i := 544) (by decide +kernel), by decide +kernel⟩
theorem dL_law_302 : decode cL_law 302 = .ok (.aload_n 2, 1) := by decide +kernel
theorem dL_law_303 : decode cL_law 303 = .ok (.aload_n 0, 1) := by decide +kernel
theorem dL_law_304 : decode cL_law 304 = .ok (.iload_n 3, 1) := by decide +kernel
theorem dL_law_305 : decode cL_law 305 = .ok (.iconst 1, 1) := by decide +kernel
theorem dL_law_306 : decode cL_law 306 = .ok (.iadd, 1) := by decide +kernel
theorem dL_law_307 : decode cL_law 307 = .ok (.iaload, 1) := by decide +kernel
theorem dL_law_308 : decode cL_law 308 = .ok (.aload_n 0, 1) := by decide +kernel
theorem dL_law_309 : decode cL_law 309 = .ok (.iload_n 3, 1) := by decide +kernel
theorem dL_law_310 : decode cL_law 310 = .ok (.iconst 2, 1) := by decide +kernel
theorem dL_law_311 : decode cL_law 311 = .ok (.iadd, 1) := by decide +kernel
theorem dL_law_312 : decode cL_law 312 = .ok (.iaload, 1) := by decide +kernel
theorem dL_law_313 : decode cL_law 313 = .ok (.aload_n 0, 1) := by decide +kernel
theorem dL_law_314 : decode cL_law 314 = .ok (.iload_n 3, 1) := by decide +kernel
theorem dL_law_315 : decode cL_law 315 = .ok (.iconst 3, 1) := by decide +kernel
theorem dL_law_316 : decode cL_law 316 = .ok (.iadd, 1) := by decide +kernel
theorem dL_law_317 : decode cL_law 317 = .ok (.iaload, 1) := by decide +kernel
theorem dL_law_318 : decode cL_law 318 = .ok (.aload_n 0, 1) := by decide +kernel
theorem dL_law_319 : decode cL_law 319 = .ok (.iload_n 3, 1) := by decide +kernel
theorem dL_law_320 : decode cL_law 320 = .ok (.iconst 4, 1) := by decide +kernel
theorem dL_law_321 : decode cL_law 321 = .ok (.iadd, 1) := by decide +kernel
theorem dL_law_322 : decode cL_law 322 = .ok (.iaload, 1) := by decide +kernel
theorem dL_law_323 : decode cL_law 323 = .ok (.aload_n 0, 1) := by decide +kernel
theorem dL_law_324 : decode cL_law 324 = .ok (.iload_n 3, 1) := by decide +kernel
theorem dL_law_325 : decode cL_law 325 = .ok (.iconst 5, 1) := by decide +kernel
theorem dL_law_326 : decode cL_law 326 = .ok (.iadd, 1) := by decide +kernel
theorem dL_law_327 : decode cL_law 327 = .ok (.iaload, 1) := by decide +kernel
theorem dL_law_328 : decode cL_law 328 = .ok (.invokevirtual 22, 3) := by decide +kernel
theorem cw_X12_feed : CWv yX12_feed cX12_feed 6 (some .int) 5 := ⟨⟨⟨List.mem_of_getElem? (i := 137) (by decide +kernel), by decide +kernel⟩, ⟨List.mem_of_getElem? (i := 1607) (by decide +kernel), by decide +kernel⟩, by decide +kernel⟩, ⟨List.mem_of_getElem? (i := 1605) (by decide +kernel), by decide +kernel⟩, ⟨List.mem_of_getElem? (i := 1606) (by decide +kernel), by decide +kernel⟩⟩
theorem kmL_22 : inW (Cond.methodLink RL 22 yX12_feed) := ⟨List.mem_of_getElem? (i := 1604) (by decide +kernel), by decide +kernel⟩
theorem dL_law_331 : decode cL_law 331 = .ok (.if_icmp .eq 1195, 3) := by decide +kernel
theorem dL_law_336 : decode cL_law 336 = .ok (.aload_n 1, 1) := by decide +kernel
theorem dL_law_337 : decode cL_law 337 = .ok (.aload_n 0, 1) := by decide +kernel
theorem dL_law_338 : decode cL_law 338 = .ok (.iload_n 3, 1) := by decide +kernel
theorem dL_law_339 : decode cL_law 339 = .ok (.iconst 1, 1) := by decide +kernel
theorem dL_law_340 : decode cL_law 340 = .ok (.iadd, 1) := by decide +kernel
theorem dL_law_341 : decode cL_law 341 = .ok (.iaload, 1) := by decide +kernel
theorem dL_law_342 : decode cL_law 342 = .ok (.invokevirtual 23, 3) := by decide +kernel
theorem cw_X11_end : CWv yX11_end cX11_end 2 (some .int) 1 := ⟨⟨⟨List.mem_of_getElem? (i := 124) (by decide +kernel), by decide +kernel⟩, ⟨List.mem_of_getElem? (i := 563) (by decide +kernel), by decide +kernel⟩, by decide +kernel⟩, ⟨List.mem_of_getElem? (i := 561) (by decide +kernel), by decide +kernel⟩, ⟨List.mem_of_getElem? (i := 562) (by decide +kernel), by decide +kernel⟩⟩
theorem kmL_23 : inW (Cond.methodLink RL 23 yX11_end) := ⟨List.mem_of_getElem? (i := 560) (by decide +kernel), by decide +kernel⟩
theorem dL_law_345 : decode cL_law 345 = .ok (.aload_n 2, 1) := by decide +kernel
theorem dL_law_346 : decode cL_law 346 = .ok (.aload_n 0, 1) := by decide +kernel
theorem dL_law_347 : decode cL_law 347 = .ok (.iload_n 3, 1) := by decide +kernel
theorem dL_law_348 : decode cL_law 348 = .ok (.iconst 1, 1) := by decide +kernel
theorem dL_law_349 : decode cL_law 349 = .ok (.iadd, 1) := by decide +kernel
theorem dL_law_350 : decode cL_law 350 = .ok (.iaload, 1) := by decide +kernel
theorem dL_law_351 : decode cL_law 351 = .ok (.invokevirtual 27, 3) := by decide +kernel
theorem cw_X12_end : CWv yX12_end cX12_end 2 (some .int) 1 := ⟨⟨⟨List.mem_of_getElem? (i := 137) (by decide +kernel), by decide +kernel⟩, ⟨List.mem_of_getElem? (i := 1615) (by decide +kernel), by decide +kernel⟩, by decide +kernel⟩, ⟨List.mem_of_getElem? (i := 1613) (by decide +kernel), by decide +kernel⟩, ⟨List.mem_of_getElem? (i := 1614) (by decide +kernel), by decide +kernel⟩⟩
theorem kmL_27 : inW (Cond.methodLink RL 27 yX12_end) := ⟨List.mem_of_getElem? (i := 1612) (by decide +kernel), by decide +kernel⟩
theorem dL_law_354 : decode cL_law 354 = .ok (.if_icmp .eq 1172, 3) := by decide +kernel
theorem dL_law_359 : decode cL_law 359 = .ok (.aload_n 1, 1) := by decide +kernel
theorem dL_law_360 : decode cL_law 360 = .ok (.invokevirtual 28, 3) := by decide +kernel
theorem cw_X11_text : CWv yX11_text cX11_text 2 (some .int) 0 := ⟨⟨⟨List.mem_of_getElem? (i := 124) (by decide +kernel), by decide +kernel⟩, ⟨List.mem_of_getElem? (i := 571) (by decide +kernel), by decide +kernel⟩, by decide +kernel⟩, ⟨List.mem_of_getElem? (i := 569) (by decide +kernel), by decide +kernel⟩, ⟨List.mem_of_getElem? (i := 570) (by decide +kernel), by decide +kernel⟩⟩
theorem kmL_28 : inW (Cond.methodLink RL 28 yX11_text) := ⟨List.mem_of_getElem? (i := 568) (by decide +kernel), by decide +kernel⟩
theorem dL_law_363 : decode cL_law 363 = .ok (.aload_n 2, 1) := by decide +kernel
theorem dL_law_364 : decode cL_law 364 = .ok (.invokevirtual 32, 3) := by decide +kernel
theorem cw_X12_text : CWv yX12_text cX12_text 1 (some .int) 0 := ⟨⟨⟨List.mem_of_getElem? (i := 137) (by decide +kernel), by decide +kernel⟩, ⟨List.mem_of_getElem? (i := 1619) (by decide +kernel), by decide +kernel⟩, by decide +kernel⟩, ⟨List.mem_of_getElem? (i := 1617) (by decide +kernel), by decide +kernel⟩, ⟨List.mem_of_getElem? (i := 1618) (by decide +kernel), by decide +kernel⟩⟩
theorem kmL_32 : inW (Cond.methodLink RL 32 yX12_text) := ⟨List.mem_of_getElem? (i := 1616) (by decide +kernel), by decide +kernel⟩
theorem dL_law_367 : decode cL_law 367 = .ok (.if_icmp .eq 1159, 3) := by decide +kernel
theorem dL_law_372 : decode cL_law 372 = .ok (.aload_n 1, 1) := by decide +kernel
theorem dL_law_373 : decode cL_law 373 = .ok (.aload_n 0, 1) := by decide +kernel
theorem dL_law_374 : decode cL_law 374 = .ok (.iload_n 3, 1) := by decide +kernel
theorem dL_law_375 : decode cL_law 375 = .ok (.iconst 1, 1) := by decide +kernel
theorem dL_law_376 : decode cL_law 376 = .ok (.iadd, 1) := by decide +kernel
theorem dL_law_377 : decode cL_law 377 = .ok (.iaload, 1) := by decide +kernel
theorem dL_law_378 : decode cL_law 378 = .ok (.invokevirtual 33, 3) := by decide +kernel
theorem cw_X11_fault : CWv yX11_fault cX11_fault 2 (some .int) 1 := ⟨⟨⟨List.mem_of_getElem? (i := 124) (by decide +kernel), by decide +kernel⟩, ⟨List.mem_of_getElem? (i := 847) (by decide +kernel), by decide +kernel⟩, by decide +kernel⟩, ⟨List.mem_of_getElem? (i := 845) (by decide +kernel), by decide +kernel⟩, ⟨List.mem_of_getElem? (i := 846) (by decide +kernel), by decide +kernel⟩⟩
theorem kmL_33 : inW (Cond.methodLink RL 33 yX11_fault) := ⟨List.mem_of_getElem? (i := 844) (by decide +kernel), by decide +kernel⟩
theorem dL_law_381 : decode cL_law 381 = .ok (.aload_n 2, 1) := by decide +kernel
theorem dL_law_382 : decode cL_law 382 = .ok (.aload_n 0, 1) := by decide +kernel
theorem dL_law_383 : decode cL_law 383 = .ok (.iload_n 3, 1) := by decide +kernel
theorem dL_law_384 : decode cL_law 384 = .ok (.iconst 1, 1) := by decide +kernel
theorem dL_law_385 : decode cL_law 385 = .ok (.iadd, 1) := by decide +kernel
theorem dL_law_386 : decode cL_law 386 = .ok (.iaload, 1) := by decide +kernel
theorem dL_law_387 : decode cL_law 387 = .ok (.invokevirtual 36, 3) := by decide +kernel
theorem cw_X12_fault : CWv yX12_fault cX12_fault 2 (some .int) 1 := ⟨⟨⟨List.mem_of_getElem? (i := 137) (by decide +kernel), by decide +kernel⟩, ⟨List.mem_of_getElem? (i := 1768) (by decide +kernel), by decide +kernel⟩, by decide +kernel⟩, ⟨List.mem_of_getElem? (i := 1766) (by decide +kernel), by decide +kernel⟩, ⟨List.mem_of_getElem? (i := 1767) (by decide +kernel), by decide +kernel⟩⟩
theorem kmL_36 : inW (Cond.methodLink RL 36 yX12_fault) := ⟨List.mem_of_getElem? (i := 1765) (by decide +kernel), by decide +kernel⟩
theorem dL_law_390 : decode cL_law 390 = .ok (.if_icmp .eq 1136, 3) := by decide +kernel
theorem dL_law_395 : decode cL_law 395 = .ok (.aload_n 1, 1) := by decide +kernel
theorem dL_law_396 : decode cL_law 396 = .ok (.aload_n 0, 1) := by decide +kernel
theorem dL_law_397 : decode cL_law 397 = .ok (.iload_n 3, 1) := by decide +kernel
theorem dL_law_398 : decode cL_law 398 = .ok (.iconst 1, 1) := by decide +kernel
theorem dL_law_399 : decode cL_law 399 = .ok (.iadd, 1) := by decide +kernel
theorem dL_law_400 : decode cL_law 400 = .ok (.iaload, 1) := by decide +kernel
theorem dL_law_401 : decode cL_law 401 = .ok (.invokevirtual 37, 3) := by decide +kernel
theorem cw_X11_by : CWv yX11_by cX11_by 2 (some .boolean) 1 := ⟨⟨⟨List.mem_of_getElem? (i := 124) (by decide +kernel), by decide +kernel⟩, ⟨List.mem_of_getElem? (i := 859) (by decide +kernel), by decide +kernel⟩, by decide +kernel⟩, ⟨List.mem_of_getElem? (i := 857) (by decide +kernel), by decide +kernel⟩, ⟨List.mem_of_getElem? (i := 858) (by decide +kernel), by decide +kernel⟩⟩
theorem kmL_37 : inW (Cond.methodLink RL 37 yX11_by) := ⟨List.mem_of_getElem? (i := 856) (by decide +kernel), by decide +kernel⟩
theorem dL_law_404 : decode cL_law 404 = .ok (.aload_n 2, 1) := by decide +kernel
theorem dL_law_405 : decode cL_law 405 = .ok (.aload_n 0, 1) := by decide +kernel
theorem dL_law_406 : decode cL_law 406 = .ok (.iload_n 3, 1) := by decide +kernel
theorem dL_law_407 : decode cL_law 407 = .ok (.iconst 1, 1) := by decide +kernel
theorem dL_law_408 : decode cL_law 408 = .ok (.iadd, 1) := by decide +kernel
theorem dL_law_409 : decode cL_law 409 = .ok (.iaload, 1) := by decide +kernel
theorem dL_law_410 : decode cL_law 410 = .ok (.invokevirtual 41, 3) := by decide +kernel
theorem cw_X12_by : CWv yX12_by cX12_by 2 (some .boolean) 1 := ⟨⟨⟨List.mem_of_getElem? (i := 137) (by decide +kernel), by decide +kernel⟩, ⟨List.mem_of_getElem? (i := 1772) (by decide +kernel), by decide +kernel⟩, by decide +kernel⟩, ⟨List.mem_of_getElem? (i := 1770) (by decide +kernel), by decide +kernel⟩, ⟨List.mem_of_getElem? (i := 1771) (by decide +kernel), by decide +kernel⟩⟩
theorem kmL_41 : inW (Cond.methodLink RL 41 yX12_by) := ⟨List.mem_of_getElem? (i := 1769) (by decide +kernel), by decide +kernel⟩
theorem dL_law_413 : decode cL_law 413 = .ok (.if_icmp .eq 1113, 3) := by decide +kernel
theorem dL_law_418 : decode cL_law 418 = .ok (.aload_n 1, 1) := by decide +kernel
theorem dL_law_419 : decode cL_law 419 = .ok (.aload_n 0, 1) := by decide +kernel
theorem dL_law_420 : decode cL_law 420 = .ok (.iload_n 3, 1) := by decide +kernel
theorem dL_law_421 : decode cL_law 421 = .ok (.iconst 1, 1) := by decide +kernel
theorem dL_law_422 : decode cL_law 422 = .ok (.iadd, 1) := by decide +kernel
theorem dL_law_423 : decode cL_law 423 = .ok (.iaload, 1) := by decide +kernel
theorem dL_law_424 : decode cL_law 424 = .ok (.aload_n 0, 1) := by decide +kernel
theorem dL_law_425 : decode cL_law 425 = .ok (.iload_n 3, 1) := by decide +kernel
theorem dL_law_426 : decode cL_law 426 = .ok (.iconst 2, 1) := by decide +kernel
theorem dL_law_427 : decode cL_law 427 = .ok (.iadd, 1) := by decide +kernel
theorem dL_law_428 : decode cL_law 428 = .ok (.iaload, 1) := by decide +kernel
theorem dL_law_429 : decode cL_law 429 = .ok (.aload_n 0, 1) := by decide +kernel
theorem dL_law_430 : decode cL_law 430 = .ok (.iload_n 3, 1) := by decide +kernel
theorem dL_law_431 : decode cL_law 431 = .ok (.iconst 3, 1) := by decide +kernel
theorem dL_law_432 : decode cL_law 432 = .ok (.iadd, 1) := by decide +kernel
theorem dL_law_433 : decode cL_law 433 = .ok (.iaload, 1) := by decide +kernel
theorem dL_law_434 : decode cL_law 434 = .ok (.aload_n 0, 1) := by decide +kernel
theorem dL_law_435 : decode cL_law 435 = .ok (.iload_n 3, 1) := by decide +kernel
theorem dL_law_436 : decode cL_law 436 = .ok (.iconst 4, 1) := by decide +kernel
theorem dL_law_437 : decode cL_law 437 = .ok (.iadd, 1) := by decide +kernel
theorem dL_law_438 : decode cL_law 438 = .ok (.iaload, 1) := by decide +kernel
theorem dL_law_439 : decode cL_law 439 = .ok (.invokevirtual 42, 3) := by decide +kernel
theorem cw_X11_swear : CWv yX11_swear cX11_swear 5 (some .int) 4 := ⟨⟨⟨List.mem_of_getElem? (i := 124) (by decide +kernel), by decide +kernel⟩, ⟨List.mem_of_getElem? (i := 871) (by decide +kernel), by decide +kernel⟩, by decide +kernel⟩, ⟨List.mem_of_getElem? (i := 869) (by decide +kernel), by decide +kernel⟩, ⟨List.mem_of_getElem? (i := 870) (by decide +kernel), by decide +kernel⟩⟩
theorem kmL_42 : inW (Cond.methodLink RL 42 yX11_swear) := ⟨List.mem_of_getElem? (i := 868) (by decide +kernel), by decide +kernel⟩
theorem dL_law_442 : decode cL_law 442 = .ok (.aload_n 2, 1) := by decide +kernel
theorem dL_law_443 : decode cL_law 443 = .ok (.aload_n 0, 1) := by decide +kernel
theorem dL_law_444 : decode cL_law 444 = .ok (.iload_n 3, 1) := by decide +kernel
theorem dL_law_445 : decode cL_law 445 = .ok (.iconst 1, 1) := by decide +kernel
theorem dL_law_446 : decode cL_law 446 = .ok (.iadd, 1) := by decide +kernel
theorem dL_law_447 : decode cL_law 447 = .ok (.iaload, 1) := by decide +kernel
theorem dL_law_448 : decode cL_law 448 = .ok (.aload_n 0, 1) := by decide +kernel
theorem dL_law_449 : decode cL_law 449 = .ok (.iload_n 3, 1) := by decide +kernel
theorem dL_law_450 : decode cL_law 450 = .ok (.iconst 2, 1) := by decide +kernel
theorem dL_law_451 : decode cL_law 451 = .ok (.iadd, 1) := by decide +kernel
theorem dL_law_452 : decode cL_law 452 = .ok (.iaload, 1) := by decide +kernel
theorem dL_law_453 : decode cL_law 453 = .ok (.aload_n 0, 1) := by decide +kernel
theorem dL_law_454 : decode cL_law 454 = .ok (.iload_n 3, 1) := by decide +kernel
theorem dL_law_455 : decode cL_law 455 = .ok (.iconst 3, 1) := by decide +kernel
theorem dL_law_456 : decode cL_law 456 = .ok (.iadd, 1) := by decide +kernel
theorem dL_law_457 : decode cL_law 457 = .ok (.iaload, 1) := by decide +kernel
theorem dL_law_458 : decode cL_law 458 = .ok (.aload_n 0, 1) := by decide +kernel
theorem dL_law_459 : decode cL_law 459 = .ok (.iload_n 3, 1) := by decide +kernel
theorem dL_law_460 : decode cL_law 460 = .ok (.iconst 4, 1) := by decide +kernel
theorem dL_law_461 : decode cL_law 461 = .ok (.iadd, 1) := by decide +kernel
theorem dL_law_462 : decode cL_law 462 = .ok (.iaload, 1) := by decide +kernel
theorem dL_law_463 : decode cL_law 463 = .ok (.invokevirtual 46, 3) := by decide +kernel
theorem cw_X12_swear : CWv yX12_swear cX12_swear 5 (some .int) 4 := ⟨⟨⟨List.mem_of_getElem? (i := 137) (by decide +kernel), by decide +kernel⟩, ⟨List.mem_of_getElem? (i := 1780) (by decide +kernel), by decide +kernel⟩, by decide +kernel⟩, ⟨List.mem_of_getElem? (i := 1778) (by decide +kernel), by decide +kernel⟩, ⟨List.mem_of_getElem? (i := 1779) (by decide +kernel), by decide +kernel⟩⟩
theorem kmL_46 : inW (Cond.methodLink RL 46 yX12_swear) := ⟨List.mem_of_getElem? (i := 1777) (by decide +kernel), by decide +kernel⟩
theorem dL_law_466 : decode cL_law 466 = .ok (.if_icmp .eq 1060, 3) := by decide +kernel
theorem dL_law_471 : decode cL_law 471 = .ok (.aload_n 1, 1) := by decide +kernel
theorem dL_law_472 : decode cL_law 472 = .ok (.aload_n 0, 1) := by decide +kernel
theorem dL_law_473 : decode cL_law 473 = .ok (.iload_n 3, 1) := by decide +kernel
theorem dL_law_474 : decode cL_law 474 = .ok (.iconst 1, 1) := by decide +kernel
theorem dL_law_475 : decode cL_law 475 = .ok (.iadd, 1) := by decide +kernel
theorem dL_law_476 : decode cL_law 476 = .ok (.iaload, 1) := by decide +kernel
theorem dL_law_477 : decode cL_law 477 = .ok (.invokevirtual 47, 3) := by decide +kernel
theorem cw_X11_breaks : CWv yX11_breaks cX11_breaks 2 (some .boolean) 1 := ⟨⟨⟨List.mem_of_getElem? (i := 124) (by decide +kernel), by decide +kernel⟩, ⟨List.mem_of_getElem? (i := 907) (by decide +kernel), by decide +kernel⟩, by decide +kernel⟩, ⟨List.mem_of_getElem? (i := 905) (by decide +kernel), by decide +kernel⟩, ⟨List.mem_of_getElem? (i := 906) (by decide +kernel), by decide +kernel⟩⟩
theorem kmL_47 : inW (Cond.methodLink RL 47 yX11_breaks) := ⟨List.mem_of_getElem? (i := 904) (by decide +kernel), by decide +kernel⟩
theorem dL_law_480 : decode cL_law 480 = .ok (.aload_n 2, 1) := by decide +kernel
theorem dL_law_481 : decode cL_law 481 = .ok (.aload_n 0, 1) := by decide +kernel
theorem dL_law_482 : decode cL_law 482 = .ok (.iload_n 3, 1) := by decide +kernel
theorem dL_law_483 : decode cL_law 483 = .ok (.iconst 1, 1) := by decide +kernel
theorem dL_law_484 : decode cL_law 484 = .ok (.iadd, 1) := by decide +kernel
theorem dL_law_485 : decode cL_law 485 = .ok (.iaload, 1) := by decide +kernel
theorem dL_law_486 : decode cL_law 486 = .ok (.invokevirtual 50, 3) := by decide +kernel
theorem cw_X12_breaks : CWv yX12_breaks cX12_breaks 2 (some .boolean) 1 := ⟨⟨⟨List.mem_of_getElem? (i := 137) (by decide +kernel), by decide +kernel⟩, ⟨List.mem_of_getElem? (i := 1804) (by decide +kernel), by decide +kernel⟩, by decide +kernel⟩, ⟨List.mem_of_getElem? (i := 1802) (by decide +kernel), by decide +kernel⟩, ⟨List.mem_of_getElem? (i := 1803) (by decide +kernel), by decide +kernel⟩⟩
theorem kmL_50 : inW (Cond.methodLink RL 50 yX12_breaks) := ⟨List.mem_of_getElem? (i := 1801) (by decide +kernel), by decide +kernel⟩
theorem dL_law_489 : decode cL_law 489 = .ok (.if_icmp .eq 1037, 3) := by decide +kernel
theorem dL_law_494 : decode cL_law 494 = .ok (.aload_n 1, 1) := by decide +kernel
theorem dL_law_495 : decode cL_law 495 = .ok (.aload_n 0, 1) := by decide +kernel
theorem dL_law_496 : decode cL_law 496 = .ok (.iload_n 3, 1) := by decide +kernel
theorem dL_law_497 : decode cL_law 497 = .ok (.iconst 1, 1) := by decide +kernel
theorem dL_law_498 : decode cL_law 498 = .ok (.iadd, 1) := by decide +kernel
theorem dL_law_499 : decode cL_law 499 = .ok (.iaload, 1) := by decide +kernel
theorem dL_law_500 : decode cL_law 500 = .ok (.invokevirtual 51, 3) := by decide +kernel
theorem cw_X11_release : CWv yX11_release cX11_release 2 (some .boolean) 1 := ⟨⟨⟨List.mem_of_getElem? (i := 124) (by decide +kernel), by decide +kernel⟩, ⟨List.mem_of_getElem? (i := 920) (by decide +kernel), by decide +kernel⟩, by decide +kernel⟩, ⟨List.mem_of_getElem? (i := 918) (by decide +kernel), by decide +kernel⟩, ⟨List.mem_of_getElem? (i := 919) (by decide +kernel), by decide +kernel⟩⟩
theorem kmL_51 : inW (Cond.methodLink RL 51 yX11_release) := ⟨List.mem_of_getElem? (i := 917) (by decide +kernel), by decide +kernel⟩
theorem dL_law_503 : decode cL_law 503 = .ok (.aload_n 2, 1) := by decide +kernel
theorem dL_law_504 : decode cL_law 504 = .ok (.aload_n 0, 1) := by decide +kernel
theorem dL_law_505 : decode cL_law 505 = .ok (.iload_n 3, 1) := by decide +kernel
theorem dL_law_506 : decode cL_law 506 = .ok (.iconst 1, 1) := by decide +kernel
theorem dL_law_507 : decode cL_law 507 = .ok (.iadd, 1) := by decide +kernel
theorem dL_law_508 : decode cL_law 508 = .ok (.iaload, 1) := by decide +kernel
theorem dL_law_509 : decode cL_law 509 = .ok (.invokevirtual 54, 3) := by decide +kernel
theorem cw_X12_release : CWv yX12_release cX12_release 2 (some .boolean) 1 := ⟨⟨⟨List.mem_of_getElem? (i := 137) (by decide +kernel), by decide +kernel⟩, ⟨List.mem_of_getElem? (i := 1816) (by decide +kernel), by decide +kernel⟩, by decide +kernel⟩, ⟨List.mem_of_getElem? (i := 1814) (by decide +kernel), by decide +kernel⟩, ⟨List.mem_of_getElem? (i := 1815) (by decide +kernel), by decide +kernel⟩⟩
theorem kmL_54 : inW (Cond.methodLink RL 54 yX12_release) := ⟨List.mem_of_getElem? (i := 1813) (by decide +kernel), by decide +kernel⟩
theorem dL_law_512 : decode cL_law 512 = .ok (.if_icmp .eq 1014, 3) := by decide +kernel
theorem dL_law_517 : decode cL_law 517 = .ok (.aload_n 1, 1) := by decide +kernel
theorem dL_law_518 : decode cL_law 518 = .ok (.aload_n 0, 1) := by decide +kernel
theorem dL_law_519 : decode cL_law 519 = .ok (.iload_n 3, 1) := by decide +kernel
theorem dL_law_520 : decode cL_law 520 = .ok (.iconst 1, 1) := by decide +kernel
theorem dL_law_521 : decode cL_law 521 = .ok (.iadd, 1) := by decide +kernel
theorem dL_law_522 : decode cL_law 522 = .ok (.iaload, 1) := by decide +kernel
theorem dL_law_523 : decode cL_law 523 = .ok (.invokevirtual 55, 3) := by decide +kernel
theorem cw_X11_kneel : CWv yX11_kneel cX11_kneel 2 (some .int) 1 := ⟨⟨⟨List.mem_of_getElem? (i := 124) (by decide +kernel), by decide +kernel⟩, ⟨List.mem_of_getElem? (i := 937) (by decide +kernel), by decide +kernel⟩, by decide +kernel⟩, ⟨List.mem_of_getElem? (i := 935) (by decide +kernel), by decide +kernel⟩, ⟨List.mem_of_getElem? (i := 936) (by decide +kernel), by decide +kernel⟩⟩
theorem kmL_55 : inW (Cond.methodLink RL 55 yX11_kneel) := ⟨List.mem_of_getElem? (i := 934) (by decide +kernel), by decide +kernel⟩
theorem dL_law_526 : decode cL_law 526 = .ok (.aload_n 2, 1) := by decide +kernel
theorem dL_law_527 : decode cL_law 527 = .ok (.aload_n 0, 1) := by decide +kernel
theorem dL_law_528 : decode cL_law 528 = .ok (.iload_n 3, 1) := by decide +kernel
theorem dL_law_529 : decode cL_law 529 = .ok (.iconst 1, 1) := by decide +kernel
theorem dL_law_530 : decode cL_law 530 = .ok (.iadd, 1) := by decide +kernel
theorem dL_law_531 : decode cL_law 531 = .ok (.iaload, 1) := by decide +kernel
theorem dL_law_532 : decode cL_law 532 = .ok (.invokevirtual 58, 3) := by decide +kernel
theorem cw_X12_kneel : CWv yX12_kneel cX12_kneel 2 (some .int) 1 := ⟨⟨⟨List.mem_of_getElem? (i := 137) (by decide +kernel), by decide +kernel⟩, ⟨List.mem_of_getElem? (i := 1820) (by decide +kernel), by decide +kernel⟩, by decide +kernel⟩, ⟨List.mem_of_getElem? (i := 1818) (by decide +kernel), by decide +kernel⟩, ⟨List.mem_of_getElem? (i := 1819) (by decide +kernel), by decide +kernel⟩⟩
theorem kmL_58 : inW (Cond.methodLink RL 58 yX12_kneel) := ⟨List.mem_of_getElem? (i := 1817) (by decide +kernel), by decide +kernel⟩
theorem dL_law_535 : decode cL_law 535 = .ok (.if_icmp .eq 991, 3) := by decide +kernel
theorem dL_law_540 : decode cL_law 540 = .ok (.aload_n 1, 1) := by decide +kernel
theorem dL_law_541 : decode cL_law 541 = .ok (.aload_n 0, 1) := by decide +kernel
theorem dL_law_542 : decode cL_law 542 = .ok (.iload_n 3, 1) := by decide +kernel
theorem dL_law_543 : decode cL_law 543 = .ok (.iconst 1, 1) := by decide +kernel
theorem dL_law_544 : decode cL_law 544 = .ok (.iadd, 1) := by decide +kernel
theorem dL_law_545 : decode cL_law 545 = .ok (.iaload, 1) := by decide +kernel
theorem dL_law_546 : decode cL_law 546 = .ok (.aload_n 0, 1) := by decide +kernel
theorem dL_law_547 : decode cL_law 547 = .ok (.iload_n 3, 1) := by decide +kernel
theorem dL_law_548 : decode cL_law 548 = .ok (.iconst 2, 1) := by decide +kernel
theorem dL_law_549 : decode cL_law 549 = .ok (.iadd, 1) := by decide +kernel
theorem dL_law_550 : decode cL_law 550 = .ok (.iaload, 1) := by decide +kernel
theorem dL_law_551 : decode cL_law 551 = .ok (.invokevirtual 59, 3) := by decide +kernel
theorem cw_X11_skate : CWv yX11_skate cX11_skate 3 (some .int) 2 := ⟨⟨⟨List.mem_of_getElem? (i := 124) (by decide +kernel), by decide +kernel⟩, ⟨List.mem_of_getElem? (i := 1022) (by decide +kernel), by decide +kernel⟩, by decide +kernel⟩, ⟨List.mem_of_getElem? (i := 1020) (by decide +kernel), by decide +kernel⟩, ⟨List.mem_of_getElem? (i := 1021) (by decide +kernel), by decide +kernel⟩⟩
theorem kmL_59 : inW (Cond.methodLink RL 59 yX11_skate) := ⟨List.mem_of_getElem? (i := 1019) (by decide +kernel), by decide +kernel⟩
theorem dL_law_554 : decode cL_law 554 = .ok (.aload_n 2, 1) := by decide +kernel
theorem dL_law_555 : decode cL_law 555 = .ok (.aload_n 0, 1) := by decide +kernel
theorem dL_law_556 : decode cL_law 556 = .ok (.iload_n 3, 1) := by decide +kernel
theorem dL_law_557 : decode cL_law 557 = .ok (.iconst 1, 1) := by decide +kernel
theorem dL_law_558 : decode cL_law 558 = .ok (.iadd, 1) := by decide +kernel
theorem dL_law_559 : decode cL_law 559 = .ok (.iaload, 1) := by decide +kernel
theorem dL_law_560 : decode cL_law 560 = .ok (.aload_n 0, 1) := by decide +kernel
theorem dL_law_561 : decode cL_law 561 = .ok (.iload_n 3, 1) := by decide +kernel
theorem dL_law_562 : decode cL_law 562 = .ok (.iconst 2, 1) := by decide +kernel
theorem dL_law_563 : decode cL_law 563 = .ok (.iadd, 1) := by decide +kernel
theorem dL_law_564 : decode cL_law 564 = .ok (.iaload, 1) := by decide +kernel
theorem dL_law_565 : decode cL_law 565 = .ok (.invokevirtual 62, 3) := by decide +kernel
theorem cw_X12_skate : CWv yX12_skate cX12_skate 3 (some .int) 2 := ⟨⟨⟨List.mem_of_getElem? (i := 137) (by decide +kernel), by decide +kernel⟩, ⟨List.mem_of_getElem? (i := 1888) (by decide +kernel), by decide +kernel⟩, by decide +kernel⟩, ⟨List.mem_of_getElem? (i := 1886) (by decide +kernel), by decide +kernel⟩, ⟨List.mem_of_getElem? (i := 1887) (by decide +kernel), by decide +kernel⟩⟩
theorem kmL_62 : inW (Cond.methodLink RL 62 yX12_skate) := ⟨List.mem_of_getElem? (i := 1885) (by decide +kernel), by decide +kernel⟩
theorem dL_law_568 : decode cL_law 568 = .ok (.if_icmp .eq 958, 3) := by decide +kernel
theorem dL_law_573 : decode cL_law 573 = .ok (.aload_n 1, 1) := by decide +kernel
theorem dL_law_574 : decode cL_law 574 = .ok (.aload_n 0, 1) := by decide +kernel
theorem dL_law_575 : decode cL_law 575 = .ok (.iload_n 3, 1) := by decide +kernel
theorem dL_law_576 : decode cL_law 576 = .ok (.iconst 1, 1) := by decide +kernel
theorem dL_law_577 : decode cL_law 577 = .ok (.iadd, 1) := by decide +kernel
theorem dL_law_578 : decode cL_law 578 = .ok (.iaload, 1) := by decide +kernel
theorem dL_law_579 : decode cL_law 579 = .ok (.invokevirtual 63, 3) := by decide +kernel
theorem cw_X11_strike : CWv yX11_strike cX11_strike 2 (some .int) 1 := ⟨⟨⟨List.mem_of_getElem? (i := 124) (by decide +kernel), by decide +kernel⟩, ⟨List.mem_of_getElem? (i := 1030) (by decide +kernel), by decide +kernel⟩, by decide +kernel⟩, ⟨List.mem_of_getElem? (i := 1028) (by decide +kernel), by decide +kernel⟩, ⟨List.mem_of_getElem? (i := 1029) (by decide +kernel), by decide +kernel⟩⟩
theorem kmL_63 : inW (Cond.methodLink RL 63 yX11_strike) := ⟨List.mem_of_getElem? (i := 1027) (by decide +kernel), by decide +kernel⟩
theorem dL_law_582 : decode cL_law 582 = .ok (.aload_n 2, 1) := by decide +kernel
theorem dL_law_583 : decode cL_law 583 = .ok (.aload_n 0, 1) := by decide +kernel
theorem dL_law_584 : decode cL_law 584 = .ok (.iload_n 3, 1) := by decide +kernel
theorem dL_law_585 : decode cL_law 585 = .ok (.iconst 1, 1) := by decide +kernel
theorem dL_law_586 : decode cL_law 586 = .ok (.iadd, 1) := by decide +kernel
theorem dL_law_587 : decode cL_law 587 = .ok (.iaload, 1) := by decide +kernel
theorem dL_law_588 : decode cL_law 588 = .ok (.invokevirtual 66, 3) := by decide +kernel
theorem cw_X12_strike : CWv yX12_strike cX12_strike 4 (some .int) 1 := ⟨⟨⟨List.mem_of_getElem? (i := 137) (by decide +kernel), by decide +kernel⟩, ⟨List.mem_of_getElem? (i := 1896) (by decide +kernel), by decide +kernel⟩, by decide +kernel⟩, ⟨List.mem_of_getElem? (i := 1894) (by decide +kernel), by decide +kernel⟩, ⟨List.mem_of_getElem? (i := 1895) (by decide +kernel), by decide +kernel⟩⟩
theorem kmL_66 : inW (Cond.methodLink RL 66 yX12_strike) := ⟨List.mem_of_getElem? (i := 1893) (by decide +kernel), by decide +kernel⟩
theorem dL_law_591 : decode cL_law 591 = .ok (.if_icmp .eq 935, 3) := by decide +kernel
theorem dL_law_596 : decode cL_law 596 = .ok (.aload_n 1, 1) := by decide +kernel
theorem dL_law_597 : decode cL_law 597 = .ok (.aload_n 0, 1) := by decide +kernel
theorem dL_law_598 : decode cL_law 598 = .ok (.iload_n 3, 1) := by decide +kernel
theorem dL_law_599 : decode cL_law 599 = .ok (.iconst 1, 1) := by decide +kernel
theorem dL_law_600 : decode cL_law 600 = .ok (.iadd, 1) := by decide +kernel
theorem dL_law_601 : decode cL_law 601 = .ok (.iaload, 1) := by decide +kernel
theorem dL_law_602 : decode cL_law 602 = .ok (.invokevirtual 67, 3) := by decide +kernel
theorem cw_X11_day : CWv yX11_day cX11_day 3 (some .int) 1 := ⟨⟨⟨List.mem_of_getElem? (i := 124) (by decide +kernel), by decide +kernel⟩, ⟨List.mem_of_getElem? (i := 1062) (by decide +kernel), by decide +kernel⟩, by decide +kernel⟩, ⟨List.mem_of_getElem? (i := 1060) (by decide +kernel), by decide +kernel⟩, ⟨List.mem_of_getElem? (i := 1061) (by decide +kernel), by decide +kernel⟩⟩
theorem kmL_67 : inW (Cond.methodLink RL 67 yX11_day) := ⟨List.mem_of_getElem? (i := 1059) (by decide +kernel), by decide +kernel⟩
theorem dL_law_605 : decode cL_law 605 = .ok (.aload_n 2, 1) := by decide +kernel
theorem dL_law_606 : decode cL_law 606 = .ok (.aload_n 0, 1) := by decide +kernel
theorem dL_law_607 : decode cL_law 607 = .ok (.iload_n 3, 1) := by decide +kernel
theorem dL_law_608 : decode cL_law 608 = .ok (.iconst 1, 1) := by decide +kernel
theorem dL_law_609 : decode cL_law 609 = .ok (.iadd, 1) := by decide +kernel
theorem dL_law_610 : decode cL_law 610 = .ok (.iaload, 1) := by decide +kernel
theorem dL_law_611 : decode cL_law 611 = .ok (.invokevirtual 70, 3) := by decide +kernel
theorem cw_X12_day : CWv yX12_day cX12_day 2 (some .int) 1 := ⟨⟨⟨List.mem_of_getElem? (i := 137) (by decide +kernel), by decide +kernel⟩, ⟨List.mem_of_getElem? (i := 1908) (by decide +kernel), by decide +kernel⟩, by decide +kernel⟩, ⟨List.mem_of_getElem? (i := 1906) (by decide +kernel), by decide +kernel⟩, ⟨List.mem_of_getElem? (i := 1907) (by decide +kernel), by decide +kernel⟩⟩
theorem kmL_70 : inW (Cond.methodLink RL 70 yX12_day) := ⟨List.mem_of_getElem? (i := 1905) (by decide +kernel), by decide +kernel⟩
theorem dL_law_614 : decode cL_law 614 = .ok (.if_icmp .eq 912, 3) := by decide +kernel
theorem dL_law_619 : decode cL_law 619 = .ok (.aload_n 1, 1) := by decide +kernel
theorem dL_law_620 : decode cL_law 620 = .ok (.aload_n 0, 1) := by decide +kernel
theorem dL_law_621 : decode cL_law 621 = .ok (.iload_n 3, 1) := by decide +kernel
theorem dL_law_622 : decode cL_law 622 = .ok (.iconst 1, 1) := by decide +kernel
theorem dL_law_623 : decode cL_law 623 = .ok (.iadd, 1) := by decide +kernel
theorem dL_law_624 : decode cL_law 624 = .ok (.iaload, 1) := by decide +kernel
theorem dL_law_625 : decode cL_law 625 = .ok (.invokevirtual 71, 3) := by decide +kernel
theorem cw_X11_played : CWv yX11_played cX11_played 4 (some .int) 1 := ⟨⟨⟨List.mem_of_getElem? (i := 124) (by decide +kernel), by decide +kernel⟩, ⟨List.mem_of_getElem? (i := 1096) (by decide +kernel), by decide +kernel⟩, by decide +kernel⟩, ⟨List.mem_of_getElem? (i := 1094) (by decide +kernel), by decide +kernel⟩, ⟨List.mem_of_getElem? (i := 1095) (by decide +kernel), by decide +kernel⟩⟩
theorem kmL_71 : inW (Cond.methodLink RL 71 yX11_played) := ⟨List.mem_of_getElem? (i := 1093) (by decide +kernel), by decide +kernel⟩
theorem dL_law_628 : decode cL_law 628 = .ok (.aload_n 2, 1) := by decide +kernel
theorem dL_law_629 : decode cL_law 629 = .ok (.aload_n 0, 1) := by decide +kernel
theorem dL_law_630 : decode cL_law 630 = .ok (.iload_n 3, 1) := by decide +kernel
theorem dL_law_631 : decode cL_law 631 = .ok (.iconst 1, 1) := by decide +kernel
theorem dL_law_632 : decode cL_law 632 = .ok (.iadd, 1) := by decide +kernel
theorem dL_law_633 : decode cL_law 633 = .ok (.iaload, 1) := by decide +kernel
theorem dL_law_634 : decode cL_law 634 = .ok (.invokevirtual 74, 3) := by decide +kernel
theorem cw_X12_played : CWv yX12_played cX12_played 3 (some .int) 1 := ⟨⟨⟨List.mem_of_getElem? (i := 137) (by decide +kernel), by decide +kernel⟩, ⟨List.mem_of_getElem? (i := 1935) (by decide +kernel), by decide +kernel⟩, by decide +kernel⟩, ⟨List.mem_of_getElem? (i := 1933) (by decide +kernel), by decide +kernel⟩, ⟨List.mem_of_getElem? (i := 1934) (by decide +kernel), by decide +kernel⟩⟩
theorem kmL_74 : inW (Cond.methodLink RL 74 yX12_played) := ⟨List.mem_of_getElem? (i := 1932) (by decide +kernel), by decide +kernel⟩
theorem dL_law_637 : decode cL_law 637 = .ok (.if_icmp .eq 889, 3) := by decide +kernel
theorem dL_law_642 : decode cL_law 642 = .ok (.aload_n 1, 1) := by decide +kernel
theorem dL_law_643 : decode cL_law 643 = .ok (.aload_n 0, 1) := by decide +kernel
theorem dL_law_644 : decode cL_law 644 = .ok (.iload_n 3, 1) := by decide +kernel
theorem dL_law_645 : decode cL_law 645 = .ok (.iconst 1, 1) := by decide +kernel
theorem dL_law_646 : decode cL_law 646 = .ok (.iadd, 1) := by decide +kernel
theorem dL_law_647 : decode cL_law 647 = .ok (.iaload, 1) := by decide +kernel
theorem dL_law_648 : decode cL_law 648 = .ok (.aload_n 0, 1) := by decide +kernel
theorem dL_law_649 : decode cL_law 649 = .ok (.iload_n 3, 1) := by decide +kernel
theorem dL_law_650 : decode cL_law 650 = .ok (.iconst 2, 1) := by decide +kernel
theorem dL_law_651 : decode cL_law 651 = .ok (.iadd, 1) := by decide +kernel
theorem dL_law_652 : decode cL_law 652 = .ok (.iaload, 1) := by decide +kernel
theorem dL_law_653 : decode cL_law 653 = .ok (.invokevirtual 75, 3) := by decide +kernel
theorem cw_X11_years : CWv yX11_years cX11_years 4 (some .int) 2 := ⟨⟨⟨List.mem_of_getElem? (i := 124) (by decide +kernel), by decide +kernel⟩, ⟨List.mem_of_getElem? (i := 1116) (by decide +kernel), by decide +kernel⟩, by decide +kernel⟩, ⟨List.mem_of_getElem? (i := 1114) (by decide +kernel), by decide +kernel⟩, ⟨List.mem_of_getElem? (i := 1115) (by decide +kernel), by decide +kernel⟩⟩
theorem kmL_75 : inW (Cond.methodLink RL 75 yX11_years) := ⟨List.mem_of_getElem? (i := 1113) (by decide +kernel), by decide +kernel⟩
theorem dL_law_656 : decode cL_law 656 = .ok (.aload_n 2, 1) := by decide +kernel
theorem dL_law_657 : decode cL_law 657 = .ok (.aload_n 0, 1) := by decide +kernel
theorem dL_law_658 : decode cL_law 658 = .ok (.iload_n 3, 1) := by decide +kernel
theorem dL_law_659 : decode cL_law 659 = .ok (.iconst 1, 1) := by decide +kernel
theorem dL_law_660 : decode cL_law 660 = .ok (.iadd, 1) := by decide +kernel
theorem dL_law_661 : decode cL_law 661 = .ok (.iaload, 1) := by decide +kernel
theorem dL_law_662 : decode cL_law 662 = .ok (.aload_n 0, 1) := by decide +kernel
theorem dL_law_663 : decode cL_law 663 = .ok (.iload_n 3, 1) := by decide +kernel
theorem dL_law_664 : decode cL_law 664 = .ok (.iconst 2, 1) := by decide +kernel
theorem dL_law_665 : decode cL_law 665 = .ok (.iadd, 1) := by decide +kernel
theorem dL_law_666 : decode cL_law 666 = .ok (.iaload, 1) := by decide +kernel
theorem dL_law_667 : decode cL_law 667 = .ok (.invokevirtual 78, 3) := by decide +kernel
theorem cw_X12_years : CWv yX12_years cX12_years 5 (some .int) 2 := ⟨⟨⟨List.mem_of_getElem? (i := 137) (by decide +kernel), by decide +kernel⟩, ⟨List.mem_of_getElem? (i := 1949) (by decide +kernel), by decide +kernel⟩, by decide +kernel⟩, ⟨List.mem_of_getElem? (i := 1947) (by decide +kernel), by decide +kernel⟩, ⟨List.mem_of_getElem? (i := 1948) (by decide +kernel), by decide +kernel⟩⟩
theorem kmL_78 : inW (Cond.methodLink RL 78 yX12_years) := ⟨List.mem_of_getElem? (i := 1946) (by decide +kernel), by decide +kernel⟩
theorem dL_law_670 : decode cL_law 670 = .ok (.if_icmp .eq 856, 3) := by decide +kernel
theorem dL_law_675 : decode cL_law 675 = .ok (.aload_n 1, 1) := by decide +kernel
theorem dL_law_676 : decode cL_law 676 = .ok (.invokevirtual 79, 3) := by decide +kernel
theorem cw_X11_undo : CWv yX11_undo cX11_undo 1 (some .int) 0 := ⟨⟨⟨List.mem_of_getElem? (i := 124) (by decide +kernel), by decide +kernel⟩, ⟨List.mem_of_getElem? (i := 1133) (by decide +kernel), by decide +kernel⟩, by decide +kernel⟩, ⟨List.mem_of_getElem? (i := 1131) (by decide +kernel), by decide +kernel⟩, ⟨List.mem_of_getElem? (i := 1132) (by decide +kernel), by decide +kernel⟩⟩
theorem kmL_79 : inW (Cond.methodLink RL 79 yX11_undo) := ⟨List.mem_of_getElem? (i := 1130) (by decide +kernel), by decide +kernel⟩
theorem dL_law_679 : decode cL_law 679 = .ok (.aload_n 2, 1) := by decide +kernel
theorem dL_law_680 : decode cL_law 680 = .ok (.invokevirtual 82, 3) := by decide +kernel
theorem cw_X12_undo : CWv yX12_undo cX12_undo 3 (some .int) 0 := ⟨⟨⟨List.mem_of_getElem? (i := 137) (by decide +kernel), by decide +kernel⟩, ⟨List.mem_of_getElem? (i := 1776) (by decide +kernel), by decide +kernel⟩, by decide +kernel⟩, ⟨List.mem_of_getElem? (i := 1774) (by decide +kernel), by decide +kernel⟩, ⟨List.mem_of_getElem? (i := 1775) (by decide +kernel), by decide +kernel⟩⟩
theorem kmL_82 : inW (Cond.methodLink RL 82 yX12_undo) := ⟨List.mem_of_getElem? (i := 1773) (by decide +kernel), by decide +kernel⟩
theorem dL_law_683 : decode cL_law 683 = .ok (.if_icmp .eq 843, 3) := by decide +kernel
theorem dL_law_688 : decode cL_law 688 = .ok (.aload_n 1, 1) := by decide +kernel
theorem dL_law_689 : decode cL_law 689 = .ok (.aload_n 0, 1) := by decide +kernel
theorem dL_law_690 : decode cL_law 690 = .ok (.iload_n 3, 1) := by decide +kernel
theorem dL_law_691 : decode cL_law 691 = .ok (.iconst 1, 1) := by decide +kernel
theorem dL_law_692 : decode cL_law 692 = .ok (.iadd, 1) := by decide +kernel
theorem dL_law_693 : decode cL_law 693 = .ok (.iaload, 1) := by decide +kernel
theorem dL_law_694 : decode cL_law 694 = .ok (.aload_n 0, 1) := by decide +kernel
theorem dL_law_695 : decode cL_law 695 = .ok (.iload_n 3, 1) := by decide +kernel
theorem dL_law_696 : decode cL_law 696 = .ok (.iconst 2, 1) := by decide +kernel
theorem dL_law_697 : decode cL_law 697 = .ok (.iadd, 1) := by decide +kernel
theorem dL_law_698 : decode cL_law 698 = .ok (.iaload, 1) := by decide +kernel
theorem dL_law_699 : decode cL_law 699 = .ok (.invokevirtual 83, 3) := by decide +kernel
theorem cw_X11_of : CWv yX11_of cX11_of 3 (some .int) 2 := ⟨⟨⟨List.mem_of_getElem? (i := 124) (by decide +kernel), by decide +kernel⟩, ⟨List.mem_of_getElem? (i := 1141) (by decide +kernel), by decide +kernel⟩, by decide +kernel⟩, ⟨List.mem_of_getElem? (i := 1139) (by decide +kernel), by decide +kernel⟩, ⟨List.mem_of_getElem? (i := 1140) (by decide +kernel), by decide +kernel⟩⟩
theorem kmL_83 : inW (Cond.methodLink RL 83 yX11_of) := ⟨List.mem_of_getElem? (i := 1138) (by decide +kernel), by decide +kernel⟩
theorem dL_law_702 : decode cL_law 702 = .ok (.aload_n 2, 1) := by decide +kernel
theorem dL_law_703 : decode cL_law 703 = .ok (.aload_n 0, 1) := by decide +kernel
theorem dL_law_704 : decode cL_law 704 = .ok (.iload_n 3, 1) := by decide +kernel
theorem dL_law_705 : decode cL_law 705 = .ok (.iconst 1, 1) := by decide +kernel
theorem dL_law_706 : decode cL_law 706 = .ok (.iadd, 1) := by decide +kernel
theorem dL_law_707 : decode cL_law 707 = .ok (.iaload, 1) := by decide +kernel
theorem dL_law_708 : decode cL_law 708 = .ok (.aload_n 0, 1) := by decide +kernel
theorem dL_law_709 : decode cL_law 709 = .ok (.iload_n 3, 1) := by decide +kernel
theorem dL_law_710 : decode cL_law 710 = .ok (.iconst 2, 1) := by decide +kernel
theorem dL_law_711 : decode cL_law 711 = .ok (.iadd, 1) := by decide +kernel
theorem dL_law_712 : decode cL_law 712 = .ok (.iaload, 1) := by decide +kernel
theorem dL_law_713 : decode cL_law 713 = .ok (.invokevirtual 86, 3) := by decide +kernel
theorem cw_X12_of : CWv yX12_of cX12_of 3 (some .int) 2 := ⟨⟨⟨List.mem_of_getElem? (i := 137) (by decide +kernel), by decide +kernel⟩, ⟨List.mem_of_getElem? (i := 1957) (by decide +kernel), by decide +kernel⟩, by decide +kernel⟩, ⟨List.mem_of_getElem? (i := 1955) (by decide +kernel), by decide +kernel⟩, ⟨List.mem_of_getElem? (i := 1956) (by decide +kernel), by decide +kernel⟩⟩
theorem kmL_86 : inW (Cond.methodLink RL 86 yX12_of) := ⟨List.mem_of_getElem? (i := 1954) (by decide +kernel), by decide +kernel⟩
theorem dL_law_716 : decode cL_law 716 = .ok (.if_icmp .eq 810, 3) := by decide +kernel
theorem dL_law_721 : decode cL_law 721 = .ok (.aload_n 1, 1) := by decide +kernel
theorem dL_law_722 : decode cL_law 722 = .ok (.aload_n 0, 1) := by decide +kernel
theorem dL_law_723 : decode cL_law 723 = .ok (.iload_n 3, 1) := by decide +kernel
theorem dL_law_724 : decode cL_law 724 = .ok (.iconst 1, 1) := by decide +kernel
theorem dL_law_725 : decode cL_law 725 = .ok (.iadd, 1) := by decide +kernel
theorem dL_law_726 : decode cL_law 726 = .ok (.iaload, 1) := by decide +kernel
theorem dL_law_727 : decode cL_law 727 = .ok (.aload_n 0, 1) := by decide +kernel
theorem dL_law_728 : decode cL_law 728 = .ok (.iload_n 3, 1) := by decide +kernel
theorem dL_law_729 : decode cL_law 729 = .ok (.iconst 2, 1) := by decide +kernel
theorem dL_law_730 : decode cL_law 730 = .ok (.iadd, 1) := by decide +kernel
theorem dL_law_731 : decode cL_law 731 = .ok (.iaload, 1) := by decide +kernel
theorem dL_law_732 : decode cL_law 732 = .ok (.invokevirtual 87, 3) := by decide +kernel
theorem cw_X11_ofOath : CWv yX11_ofOath cX11_ofOath 3 (some .int) 2 := ⟨⟨⟨List.mem_of_getElem? (i := 124) (by decide +kernel), by decide +kernel⟩, ⟨List.mem_of_getElem? (i := 1158) (by decide +kernel), by decide +kernel⟩, by decide +kernel⟩, ⟨List.mem_of_getElem? (i := 1156) (by decide +kernel), by decide +kernel⟩, ⟨List.mem_of_getElem? (i := 1157) (by decide +kernel), by decide +kernel⟩⟩
theorem kmL_87 : inW (Cond.methodLink RL 87 yX11_ofOath) := ⟨List.mem_of_getElem? (i := 1155) (by decide +kernel), by decide +kernel⟩
theorem dL_law_735 : decode cL_law 735 = .ok (.aload_n 2, 1) := by decide +kernel
theorem dL_law_736 : decode cL_law 736 = .ok (.aload_n 0, 1) := by decide +kernel
theorem dL_law_737 : decode cL_law 737 = .ok (.iload_n 3, 1) := by decide +kernel
theorem dL_law_738 : decode cL_law 738 = .ok (.iconst 1, 1) := by decide +kernel
theorem dL_law_739 : decode cL_law 739 = .ok (.iadd, 1) := by decide +kernel
theorem dL_law_740 : decode cL_law 740 = .ok (.iaload, 1) := by decide +kernel
theorem dL_law_741 : decode cL_law 741 = .ok (.aload_n 0, 1) := by decide +kernel
theorem dL_law_742 : decode cL_law 742 = .ok (.iload_n 3, 1) := by decide +kernel
theorem dL_law_743 : decode cL_law 743 = .ok (.iconst 2, 1) := by decide +kernel
theorem dL_law_744 : decode cL_law 744 = .ok (.iadd, 1) := by decide +kernel
theorem dL_law_745 : decode cL_law 745 = .ok (.iaload, 1) := by decide +kernel
theorem dL_law_746 : decode cL_law 746 = .ok (.invokevirtual 90, 3) := by decide +kernel
theorem cw_X12_ofOath : CWv yX12_ofOath cX12_ofOath 3 (some .int) 2 := ⟨⟨⟨List.mem_of_getElem? (i := 137) (by decide +kernel), by decide +kernel⟩, ⟨List.mem_of_getElem? (i := 1969) (by decide +kernel), by decide +kernel⟩, by decide +kernel⟩, ⟨List.mem_of_getElem? (i := 1967) (by decide +kernel), by decide +kernel⟩, ⟨List.mem_of_getElem? (i := 1968) (by decide +kernel), by decide +kernel⟩⟩
theorem kmL_90 : inW (Cond.methodLink RL 90 yX12_ofOath) := ⟨List.mem_of_getElem? (i := 1966) (by decide +kernel), by decide +kernel⟩
theorem dL_law_749 : decode cL_law 749 = .ok (.if_icmp .eq 777, 3) := by decide +kernel
theorem dL_law_754 : decode cL_law 754 = .ok (.aload_n 1, 1) := by decide +kernel
theorem dL_law_755 : decode cL_law 755 = .ok (.aload_n 0, 1) := by decide +kernel
theorem dL_law_756 : decode cL_law 756 = .ok (.iload_n 3, 1) := by decide +kernel
theorem dL_law_757 : decode cL_law 757 = .ok (.iconst 1, 1) := by decide +kernel
theorem dL_law_758 : decode cL_law 758 = .ok (.iadd, 1) := by decide +kernel
theorem dL_law_759 : decode cL_law 759 = .ok (.iaload, 1) := by decide +kernel
theorem dL_law_760 : decode cL_law 760 = .ok (.invokevirtual 91, 3) := by decide +kernel
theorem cw_X11_is : CWv yX11_is cX11_is 2 (some .int) 1 := ⟨⟨⟨List.mem_of_getElem? (i := 124) (by decide +kernel), by decide +kernel⟩, ⟨List.mem_of_getElem? (i := 1166) (by decide +kernel), by decide +kernel⟩, by decide +kernel⟩, ⟨List.mem_of_getElem? (i := 1164) (by decide +kernel), by decide +kernel⟩, ⟨List.mem_of_getElem? (i := 1165) (by decide +kernel), by decide +kernel⟩⟩
theorem kmL_91 : inW (Cond.methodLink RL 91 yX11_is) := ⟨List.mem_of_getElem? (i := 1163) (by decide +kernel), by decide +kernel⟩
theorem dL_law_763 : decode cL_law 763 = .ok (.aload_n 2, 1) := by decide +kernel
theorem dL_law_764 : decode cL_law 764 = .ok (.aload_n 0, 1) := by decide +kernel
theorem dL_law_765 : decode cL_law 765 = .ok (.iload_n 3, 1) := by decide +kernel
theorem dL_law_766 : decode cL_law 766 = .ok (.iconst 1, 1) := by decide +kernel
theorem dL_law_767 : decode cL_law 767 = .ok (.iadd, 1) := by decide +kernel
theorem dL_law_768 : decode cL_law 768 = .ok (.iaload, 1) := by decide +kernel
theorem dL_law_769 : decode cL_law 769 = .ok (.invokevirtual 94, 3) := by decide +kernel
theorem cw_X12_is : CWv yX12_is cX12_is 2 (some .int) 1 := ⟨⟨⟨List.mem_of_getElem? (i := 137) (by decide +kernel), by decide +kernel⟩, ⟨List.mem_of_getElem? (i := 1973) (by decide +kernel), by decide +kernel⟩, by decide +kernel⟩, ⟨List.mem_of_getElem? (i := 1971) (by decide +kernel), by decide +kernel⟩, ⟨List.mem_of_getElem? (i := 1972) (by decide +kernel), by decide +kernel⟩⟩
theorem kmL_94 : inW (Cond.methodLink RL 94 yX12_is) := ⟨List.mem_of_getElem? (i := 1970) (by decide +kernel), by decide +kernel⟩
theorem dL_law_772 : decode cL_law 772 = .ok (.if_icmp .eq 754, 3) := by decide +kernel
theorem dL_law_777 : decode cL_law 777 = .ok (.aload_n 1, 1) := by decide +kernel
theorem dL_law_778 : decode cL_law 778 = .ok (.aload_n 0, 1) := by decide +kernel
theorem dL_law_779 : decode cL_law 779 = .ok (.iload_n 3, 1) := by decide +kernel
theorem dL_law_780 : decode cL_law 780 = .ok (.iconst 1, 1) := by decide +kernel
theorem dL_law_781 : decode cL_law 781 = .ok (.iadd, 1) := by decide +kernel
theorem dL_law_782 : decode cL_law 782 = .ok (.iaload, 1) := by decide +kernel
theorem dL_law_783 : decode cL_law 783 = .ok (.aload_n 0, 1) := by decide +kernel
theorem dL_law_784 : decode cL_law 784 = .ok (.iload_n 3, 1) := by decide +kernel
theorem dL_law_785 : decode cL_law 785 = .ok (.iconst 2, 1) := by decide +kernel
theorem dL_law_786 : decode cL_law 786 = .ok (.iadd, 1) := by decide +kernel
theorem dL_law_787 : decode cL_law 787 = .ok (.iaload, 1) := by decide +kernel
theorem dL_law_788 : decode cL_law 788 = .ok (.invokevirtual 95, 3) := by decide +kernel
theorem cw_X11_book : CWv yX11_book cX11_book 3 (some .int) 2 := ⟨⟨⟨List.mem_of_getElem? (i := 124) (by decide +kernel), by decide +kernel⟩, ⟨List.mem_of_getElem? (i := 1170) (by decide +kernel), by decide +kernel⟩, by decide +kernel⟩, ⟨List.mem_of_getElem? (i := 1168) (by decide +kernel), by decide +kernel⟩, ⟨List.mem_of_getElem? (i := 1169) (by decide +kernel), by decide +kernel⟩⟩
theorem kmL_95 : inW (Cond.methodLink RL 95 yX11_book) := ⟨List.mem_of_getElem? (i := 1167) (by decide +kernel), by decide +kernel⟩
theorem dL_law_791 : decode cL_law 791 = .ok (.aload_n 2, 1) := by decide +kernel
theorem dL_law_792 : decode cL_law 792 = .ok (.aload_n 0, 1) := by decide +kernel
theorem dL_law_793 : decode cL_law 793 = .ok (.iload_n 3, 1) := by decide +kernel
theorem dL_law_794 : decode cL_law 794 = .ok (.iconst 1, 1) := by decide +kernel
theorem dL_law_795 : decode cL_law 795 = .ok (.iadd, 1) := by decide +kernel
theorem dL_law_796 : decode cL_law 796 = .ok (.iaload, 1) := by decide +kernel
theorem dL_law_797 : decode cL_law 797 = .ok (.aload_n 0, 1) := by decide +kernel
theorem dL_law_798 : decode cL_law 798 = .ok (.iload_n 3, 1) := by decide +kernel
theorem dL_law_799 : decode cL_law 799 = .ok (.iconst 2, 1) := by decide +kernel
theorem dL_law_800 : decode cL_law 800 = .ok (.iadd, 1) := by decide +kernel
theorem dL_law_801 : decode cL_law 801 = .ok (.iaload, 1) := by decide +kernel
theorem dL_law_802 : decode cL_law 802 = .ok (.invokevirtual 98, 3) := by decide +kernel
theorem cw_X12_book : CWv yX12_book cX12_book 3 (some .int) 2 := ⟨⟨⟨List.mem_of_getElem? (i := 137) (by decide +kernel), by decide +kernel⟩, ⟨List.mem_of_getElem? (i := 1977) (by decide +kernel), by decide +kernel⟩, by decide +kernel⟩, ⟨List.mem_of_getElem? (i := 1975) (by decide +kernel), by decide +kernel⟩, ⟨List.mem_of_getElem? (i := 1976) (by decide +kernel), by decide +kernel⟩⟩
theorem kmL_98 : inW (Cond.methodLink RL 98 yX12_book) := ⟨List.mem_of_getElem? (i := 1974) (by decide +kernel), by decide +kernel⟩
theorem dL_law_805 : decode cL_law 805 = .ok (.if_icmp .eq 721, 3) := by decide +kernel
theorem dL_law_810 : decode cL_law 810 = .ok (.aload_n 1, 1) := by decide +kernel
theorem dL_law_811 : decode cL_law 811 = .ok (.aload_n 0, 1) := by decide +kernel
theorem dL_law_812 : decode cL_law 812 = .ok (.iload_n 3, 1) := by decide +kernel
theorem dL_law_813 : decode cL_law 813 = .ok (.iconst 1, 1) := by decide +kernel
theorem dL_law_814 : decode cL_law 814 = .ok (.iadd, 1) := by decide +kernel
theorem dL_law_815 : decode cL_law 815 = .ok (.iaload, 1) := by decide +kernel
theorem dL_law_816 : decode cL_law 816 = .ok (.aload_n 0, 1) := by decide +kernel
theorem dL_law_817 : decode cL_law 817 = .ok (.iload_n 3, 1) := by decide +kernel
theorem dL_law_818 : decode cL_law 818 = .ok (.iconst 2, 1) := by decide +kernel
theorem dL_law_819 : decode cL_law 819 = .ok (.iadd, 1) := by decide +kernel
theorem dL_law_820 : decode cL_law 820 = .ok (.iaload, 1) := by decide +kernel
theorem dL_law_821 : decode cL_law 821 = .ok (.invokevirtual 99, 3) := by decide +kernel
theorem cw_X11_foretold : CWv yX11_foretold cX11_foretold 3 (some .int) 2 := ⟨⟨⟨List.mem_of_getElem? (i := 124) (by decide +kernel), by decide +kernel⟩, ⟨List.mem_of_getElem? (i := 1178) (by decide +kernel), by decide +kernel⟩, by decide +kernel⟩, ⟨List.mem_of_getElem? (i := 1176) (by decide +kernel), by decide +kernel⟩, ⟨List.mem_of_getElem? (i := 1177) (by decide +kernel), by decide +kernel⟩⟩
theorem kmL_99 : inW (Cond.methodLink RL 99 yX11_foretold) := ⟨List.mem_of_getElem? (i := 1175) (by decide +kernel), by decide +kernel⟩
theorem dL_law_824 : decode cL_law 824 = .ok (.aload_n 2, 1) := by decide +kernel
theorem dL_law_825 : decode cL_law 825 = .ok (.aload_n 0, 1) := by decide +kernel
theorem dL_law_826 : decode cL_law 826 = .ok (.iload_n 3, 1) := by decide +kernel
theorem dL_law_827 : decode cL_law 827 = .ok (.iconst 1, 1) := by decide +kernel
theorem dL_law_828 : decode cL_law 828 = .ok (.iadd, 1) := by decide +kernel
theorem dL_law_829 : decode cL_law 829 = .ok (.iaload, 1) := by decide +kernel
theorem dL_law_830 : decode cL_law 830 = .ok (.aload_n 0, 1) := by decide +kernel
theorem dL_law_831 : decode cL_law 831 = .ok (.iload_n 3, 1) := by decide +kernel
theorem dL_law_832 : decode cL_law 832 = .ok (.iconst 2, 1) := by decide +kernel
theorem dL_law_833 : decode cL_law 833 = .ok (.iadd, 1) := by decide +kernel
theorem dL_law_834 : decode cL_law 834 = .ok (.iaload, 1) := by decide +kernel
theorem dL_law_835 : decode cL_law 835 = .ok (.invokevirtual 102, 3) := by decide +kernel
theorem cw_X12_foretold : CWv yX12_foretold cX12_foretold 5 (some .int) 2 := ⟨⟨⟨List.mem_of_getElem? (i := 137) (by decide +kernel), by decide +kernel⟩, ⟨List.mem_of_getElem? (i := 2005) (by decide +kernel), by decide +kernel⟩, by decide +kernel⟩, ⟨List.mem_of_getElem? (i := 2003) (by decide +kernel), by decide +kernel⟩, ⟨List.mem_of_getElem? (i := 2004) (by decide +kernel), by decide +kernel⟩⟩
theorem kmL_102 : inW (Cond.methodLink RL 102 yX12_foretold) := ⟨List.mem_of_getElem? (i := 2002) (by decide +kernel), by decide +kernel⟩
theorem dL_law_838 : decode cL_law 838 = .ok (.if_icmp .eq 688, 3) := by decide +kernel
theorem dL_law_843 : decode cL_law 843 = .ok (.aload_n 1, 1) := by decide +kernel
theorem dL_law_844 : decode cL_law 844 = .ok (.aload_n 0, 1) := by decide +kernel
theorem dL_law_845 : decode cL_law 845 = .ok (.iload_n 3, 1) := by decide +kernel
theorem dL_law_846 : decode cL_law 846 = .ok (.iconst 1, 1) := by decide +kernel
theorem dL_law_847 : decode cL_law 847 = .ok (.iadd, 1) := by decide +kernel
theorem dL_law_848 : decode cL_law 848 = .ok (.iaload, 1) := by decide +kernel
theorem dL_law_849 : decode cL_law 849 = .ok (.invokevirtual 103, 3) := by decide +kernel
theorem cw_X11_firstAche : CWv yX11_firstAche cX11_firstAche 2 (some .int) 1 := ⟨⟨⟨List.mem_of_getElem? (i := 124) (by decide +kernel), by decide +kernel⟩, ⟨List.mem_of_getElem? (i := 1194) (by decide +kernel), by decide +kernel⟩, by decide +kernel⟩, ⟨List.mem_of_getElem? (i := 1192) (by decide +kernel), by decide +kernel⟩, ⟨List.mem_of_getElem? (i := 1193) (by decide +kernel), by decide +kernel⟩⟩
theorem kmL_103 : inW (Cond.methodLink RL 103 yX11_firstAche) := ⟨List.mem_of_getElem? (i := 1191) (by decide +kernel), by decide +kernel⟩
theorem dL_law_852 : decode cL_law 852 = .ok (.aload_n 2, 1) := by decide +kernel
theorem dL_law_853 : decode cL_law 853 = .ok (.aload_n 0, 1) := by decide +kernel
theorem dL_law_854 : decode cL_law 854 = .ok (.iload_n 3, 1) := by decide +kernel
theorem dL_law_855 : decode cL_law 855 = .ok (.iconst 1, 1) := by decide +kernel
theorem dL_law_856 : decode cL_law 856 = .ok (.iadd, 1) := by decide +kernel
theorem dL_law_857 : decode cL_law 857 = .ok (.iaload, 1) := by decide +kernel
theorem dL_law_858 : decode cL_law 858 = .ok (.invokevirtual 106, 3) := by decide +kernel
theorem cw_X12_firstAche : CWv yX12_firstAche cX12_firstAche 4 (some .int) 1 := ⟨⟨⟨List.mem_of_getElem? (i := 137) (by decide +kernel), by decide +kernel⟩, ⟨List.mem_of_getElem? (i := 2017) (by decide +kernel), by decide +kernel⟩, by decide +kernel⟩, ⟨List.mem_of_getElem? (i := 2015) (by decide +kernel), by decide +kernel⟩, ⟨List.mem_of_getElem? (i := 2016) (by decide +kernel), by decide +kernel⟩⟩
theorem kmL_106 : inW (Cond.methodLink RL 106 yX12_firstAche) := ⟨List.mem_of_getElem? (i := 2014) (by decide +kernel), by decide +kernel⟩
theorem dL_law_861 : decode cL_law 861 = .ok (.if_icmp .eq 665, 3) := by decide +kernel
theorem dL_law_866 : decode cL_law 866 = .ok (.aload_n 1, 1) := by decide +kernel
theorem dL_law_867 : decode cL_law 867 = .ok (.aload_n 0, 1) := by decide +kernel
theorem dL_law_868 : decode cL_law 868 = .ok (.iload_n 3, 1) := by decide +kernel
theorem dL_law_869 : decode cL_law 869 = .ok (.iconst 1, 1) := by decide +kernel
theorem dL_law_870 : decode cL_law 870 = .ok (.iadd, 1) := by decide +kernel
theorem dL_law_871 : decode cL_law 871 = .ok (.iaload, 1) := by decide +kernel
theorem dL_law_872 : decode cL_law 872 = .ok (.invokevirtual 107, 3) := by decide +kernel
theorem cw_X11_fades : CWv yX11_fades cX11_fades 2 (some .int) 1 := ⟨⟨⟨List.mem_of_getElem? (i := 124) (by decide +kernel), by decide +kernel⟩, ⟨List.mem_of_getElem? (i := 1202) (by decide +kernel), by decide +kernel⟩, by decide +kernel⟩, ⟨List.mem_of_getElem? (i := 1200) (by decide +kernel), by decide +kernel⟩, ⟨List.mem_of_getElem? (i := 1201) (by decide +kernel), by decide +kernel⟩⟩
theorem kmL_107 : inW (Cond.methodLink RL 107 yX11_fades) := ⟨List.mem_of_getElem? (i := 1199) (by decide +kernel), by decide +kernel⟩
theorem dL_law_875 : decode cL_law 875 = .ok (.aload_n 2, 1) := by decide +kernel
theorem dL_law_876 : decode cL_law 876 = .ok (.aload_n 0, 1) := by decide +kernel
theorem dL_law_877 : decode cL_law 877 = .ok (.iload_n 3, 1) := by decide +kernel
theorem dL_law_878 : decode cL_law 878 = .ok (.iconst 1, 1) := by decide +kernel
theorem dL_law_879 : decode cL_law 879 = .ok (.iadd, 1) := by decide +kernel
theorem dL_law_880 : decode cL_law 880 = .ok (.iaload, 1) := by decide +kernel
theorem dL_law_881 : decode cL_law 881 = .ok (.invokevirtual 110, 3) := by decide +kernel
theorem cw_X12_fades : CWv yX12_fades cX12_fades 2 (some .int) 1 := ⟨⟨⟨List.mem_of_getElem? (i := 137) (by decide +kernel), by decide +kernel⟩, ⟨List.mem_of_getElem? (i := 2021) (by decide +kernel), by decide +kernel⟩, by decide +kernel⟩, ⟨List.mem_of_getElem? (i := 2019) (by decide +kernel), by decide +kernel⟩, ⟨List.mem_of_getElem? (i := 2020) (by decide +kernel), by decide +kernel⟩⟩
theorem kmL_110 : inW (Cond.methodLink RL 110 yX12_fades) := ⟨List.mem_of_getElem? (i := 2018) (by decide +kernel), by decide +kernel⟩
theorem dL_law_884 : decode cL_law 884 = .ok (.if_icmp .eq 642, 3) := by decide +kernel
theorem dL_law_889 : decode cL_law 889 = .ok (.aload_n 1, 1) := by decide +kernel
theorem dL_law_890 : decode cL_law 890 = .ok (.aload_n 0, 1) := by decide +kernel
theorem dL_law_891 : decode cL_law 891 = .ok (.iload_n 3, 1) := by decide +kernel
theorem dL_law_892 : decode cL_law 892 = .ok (.iconst 1, 1) := by decide +kernel
theorem dL_law_893 : decode cL_law 893 = .ok (.iadd, 1) := by decide +kernel
theorem dL_law_894 : decode cL_law 894 = .ok (.iaload, 1) := by decide +kernel
theorem dL_law_895 : decode cL_law 895 = .ok (.aload_n 0, 1) := by decide +kernel
theorem dL_law_896 : decode cL_law 896 = .ok (.iload_n 3, 1) := by decide +kernel
theorem dL_law_897 : decode cL_law 897 = .ok (.iconst 2, 1) := by decide +kernel
theorem dL_law_898 : decode cL_law 898 = .ok (.iadd, 1) := by decide +kernel
theorem dL_law_899 : decode cL_law 899 = .ok (.iaload, 1) := by decide +kernel
theorem dL_law_900 : decode cL_law 900 = .ok (.aload_n 0, 1) := by decide +kernel
theorem dL_law_901 : decode cL_law 901 = .ok (.iload_n 3, 1) := by decide +kernel
theorem dL_law_902 : decode cL_law 902 = .ok (.iconst 3, 1) := by decide +kernel
theorem dL_law_903 : decode cL_law 903 = .ok (.iadd, 1) := by decide +kernel
theorem dL_law_904 : decode cL_law 904 = .ok (.iaload, 1) := by decide +kernel
theorem dL_law_905 : decode cL_law 905 = .ok (.invokevirtual 111, 3) := by decide +kernel
theorem cw_X11_felt : CWv yX11_felt cX11_felt 4 (some .int) 3 := ⟨⟨⟨List.mem_of_getElem? (i := 124) (by decide +kernel), by decide +kernel⟩, ⟨List.mem_of_getElem? (i := 1214) (by decide +kernel), by decide +kernel⟩, by decide +kernel⟩, ⟨List.mem_of_getElem? (i := 1212) (by decide +kernel), by decide +kernel⟩, ⟨List.mem_of_getElem? (i := 1213) (by decide +kernel), by decide +kernel⟩⟩
theorem kmL_111 : inW (Cond.methodLink RL 111 yX11_felt) := ⟨List.mem_of_getElem? (i := 1211) (by decide +kernel), by decide +kernel⟩
theorem dL_law_908 : decode cL_law 908 = .ok (.aload_n 2, 1) := by decide +kernel
theorem dL_law_909 : decode cL_law 909 = .ok (.aload_n 0, 1) := by decide +kernel
theorem dL_law_910 : decode cL_law 910 = .ok (.iload_n 3, 1) := by decide +kernel
theorem dL_law_911 : decode cL_law 911 = .ok (.iconst 1, 1) := by decide +kernel
theorem dL_law_912 : decode cL_law 912 = .ok (.iadd, 1) := by decide +kernel
theorem dL_law_913 : decode cL_law 913 = .ok (.iaload, 1) := by decide +kernel
theorem dL_law_914 : decode cL_law 914 = .ok (.aload_n 0, 1) := by decide +kernel
theorem dL_law_915 : decode cL_law 915 = .ok (.iload_n 3, 1) := by decide +kernel
theorem dL_law_916 : decode cL_law 916 = .ok (.iconst 2, 1) := by decide +kernel
theorem dL_law_917 : decode cL_law 917 = .ok (.iadd, 1) := by decide +kernel
theorem dL_law_918 : decode cL_law 918 = .ok (.iaload, 1) := by decide +kernel
theorem dL_law_919 : decode cL_law 919 = .ok (.aload_n 0, 1) := by decide +kernel
theorem dL_law_920 : decode cL_law 920 = .ok (.iload_n 3, 1) := by decide +kernel
theorem dL_law_921 : decode cL_law 921 = .ok (.iconst 3, 1) := by decide +kernel
theorem dL_law_922 : decode cL_law 922 = .ok (.iadd, 1) := by decide +kernel
theorem dL_law_923 : decode cL_law 923 = .ok (.iaload, 1) := by decide +kernel
theorem dL_law_924 : decode cL_law 924 = .ok (.invokevirtual 115, 3) := by decide +kernel
theorem cw_X12_felt : CWv yX12_felt cX12_felt 5 (some .int) 3 := ⟨⟨⟨List.mem_of_getElem? (i := 137) (by decide +kernel), by decide +kernel⟩, ⟨List.mem_of_getElem? (i := 2035) (by decide +kernel), by decide +kernel⟩, by decide +kernel⟩, ⟨List.mem_of_getElem? (i := 2033) (by decide +kernel), by decide +kernel⟩, ⟨List.mem_of_getElem? (i := 2034) (by decide +kernel), by decide +kernel⟩⟩
theorem kmL_115 : inW (Cond.methodLink RL 115 yX12_felt) := ⟨List.mem_of_getElem? (i := 2032) (by decide +kernel), by decide +kernel⟩
theorem dL_law_927 : decode cL_law 927 = .ok (.if_icmp .eq 599, 3) := by decide +kernel
theorem dL_law_932 : decode cL_law 932 = .ok (.aload_n 1, 1) := by decide +kernel
theorem dL_law_933 : decode cL_law 933 = .ok (.aload_n 0, 1) := by decide +kernel
theorem dL_law_934 : decode cL_law 934 = .ok (.iload_n 3, 1) := by decide +kernel
theorem dL_law_935 : decode cL_law 935 = .ok (.iconst 1, 1) := by decide +kernel
theorem dL_law_936 : decode cL_law 936 = .ok (.iadd, 1) := by decide +kernel
theorem dL_law_937 : decode cL_law 937 = .ok (.iaload, 1) := by decide +kernel
theorem dL_law_938 : decode cL_law 938 = .ok (.aload_n 0, 1) := by decide +kernel
theorem dL_law_939 : decode cL_law 939 = .ok (.iload_n 3, 1) := by decide +kernel
theorem dL_law_940 : decode cL_law 940 = .ok (.iconst 2, 1) := by decide +kernel
theorem dL_law_941 : decode cL_law 941 = .ok (.iadd, 1) := by decide +kernel
theorem dL_law_942 : decode cL_law 942 = .ok (.iaload, 1) := by decide +kernel
theorem dL_law_943 : decode cL_law 943 = .ok (.invokevirtual 116, 3) := by decide +kernel
theorem cw_X11_breaches : CWv yX11_breaches cX11_breaches 3 (some .int) 2 := ⟨⟨⟨List.mem_of_getElem? (i := 124) (by decide +kernel), by decide +kernel⟩, ⟨List.mem_of_getElem? (i := 1226) (by decide +kernel), by decide +kernel⟩, by decide +kernel⟩, ⟨List.mem_of_getElem? (i := 1224) (by decide +kernel), by decide +kernel⟩, ⟨List.mem_of_getElem? (i := 1225) (by decide +kernel), by decide +kernel⟩⟩
theorem kmL_116 : inW (Cond.methodLink RL 116 yX11_breaches) := ⟨List.mem_of_getElem? (i := 1223) (by decide +kernel), by decide +kernel⟩
theorem dL_law_946 : decode cL_law 946 = .ok (.aload_n 2, 1) := by decide +kernel
theorem dL_law_947 : decode cL_law 947 = .ok (.aload_n 0, 1) := by decide +kernel
theorem dL_law_948 : decode cL_law 948 = .ok (.iload_n 3, 1) := by decide +kernel
theorem dL_law_949 : decode cL_law 949 = .ok (.iconst 1, 1) := by decide +kernel
theorem dL_law_950 : decode cL_law 950 = .ok (.iadd, 1) := by decide +kernel
theorem dL_law_951 : decode cL_law 951 = .ok (.iaload, 1) := by decide +kernel
theorem dL_law_952 : decode cL_law 952 = .ok (.aload_n 0, 1) := by decide +kernel
theorem dL_law_953 : decode cL_law 953 = .ok (.iload_n 3, 1) := by decide +kernel
theorem dL_law_954 : decode cL_law 954 = .ok (.iconst 2, 1) := by decide +kernel
theorem dL_law_955 : decode cL_law 955 = .ok (.iadd, 1) := by decide +kernel
theorem dL_law_956 : decode cL_law 956 = .ok (.iaload, 1) := by decide +kernel
theorem dL_law_957 : decode cL_law 957 = .ok (.invokevirtual 119, 3) := by decide +kernel
theorem cw_X12_breaches : CWv yX12_breaches cX12_breaches 5 (some .int) 2 := ⟨⟨⟨List.mem_of_getElem? (i := 137) (by decide +kernel), by decide +kernel⟩, ⟨List.mem_of_getElem? (i := 2039) (by decide +kernel), by decide +kernel⟩, by decide +kernel⟩, ⟨List.mem_of_getElem? (i := 2037) (by decide +kernel), by decide +kernel⟩, ⟨List.mem_of_getElem? (i := 2038) (by decide +kernel), by decide +kernel⟩⟩
theorem kmL_119 : inW (Cond.methodLink RL 119 yX12_breaches) := ⟨List.mem_of_getElem? (i := 2036) (by decide +kernel), by decide +kernel⟩
theorem dL_law_960 : decode cL_law 960 = .ok (.if_icmp .eq 566, 3) := by decide +kernel
theorem dL_law_965 : decode cL_law 965 = .ok (.aload_n 1, 1) := by decide +kernel
theorem dL_law_966 : decode cL_law 966 = .ok (.aload_n 0, 1) := by decide +kernel
theorem dL_law_967 : decode cL_law 967 = .ok (.iload_n 3, 1) := by decide +kernel
theorem dL_law_968 : decode cL_law 968 = .ok (.iconst 1, 1) := by decide +kernel
theorem dL_law_969 : decode cL_law 969 = .ok (.iadd, 1) := by decide +kernel
theorem dL_law_970 : decode cL_law 970 = .ok (.iaload, 1) := by decide +kernel
theorem dL_law_971 : decode cL_law 971 = .ok (.aload_n 0, 1) := by decide +kernel
theorem dL_law_972 : decode cL_law 972 = .ok (.iload_n 3, 1) := by decide +kernel
theorem dL_law_973 : decode cL_law 973 = .ok (.iconst 2, 1) := by decide +kernel
theorem dL_law_974 : decode cL_law 974 = .ok (.iadd, 1) := by decide +kernel
theorem dL_law_975 : decode cL_law 975 = .ok (.iaload, 1) := by decide +kernel
theorem dL_law_976 : decode cL_law 976 = .ok (.ifCond .eq 7, 3) := by decide +kernel
theorem dL_law_983 : decode cL_law 983 = .ok (.iconst 0, 1) := by decide +kernel
theorem dL_law_984 : decode cL_law 984 = .ok (.invokevirtual 120, 3) := by decide +kernel
theorem cw_X11_odds : CWv yX11_odds cX11_odds 3 (some .int) 2 := ⟨⟨⟨List.mem_of_getElem? (i := 124) (by decide +kernel), by decide +kernel⟩, ⟨List.mem_of_getElem? (i := 1274) (by decide +kernel), by decide +kernel⟩, by decide +kernel⟩, ⟨List.mem_of_getElem? (i := 1272) (by decide +kernel), by decide +kernel⟩, ⟨List.mem_of_getElem? (i := 1273) (by decide +kernel), by decide +kernel⟩⟩
theorem kmL_120 : inW (Cond.methodLink RL 120 yX11_odds) := ⟨List.mem_of_getElem? (i := 1271) (by decide +kernel), by decide +kernel⟩
theorem dL_law_987 : decode cL_law 987 = .ok (.aload_n 2, 1) := by decide +kernel
theorem dL_law_988 : decode cL_law 988 = .ok (.aload_n 0, 1) := by decide +kernel
theorem dL_law_989 : decode cL_law 989 = .ok (.iload_n 3, 1) := by decide +kernel
theorem dL_law_990 : decode cL_law 990 = .ok (.iconst 1, 1) := by decide +kernel
theorem dL_law_991 : decode cL_law 991 = .ok (.iadd, 1) := by decide +kernel
theorem dL_law_992 : decode cL_law 992 = .ok (.iaload, 1) := by decide +kernel
theorem dL_law_993 : decode cL_law 993 = .ok (.aload_n 0, 1) := by decide +kernel
theorem dL_law_994 : decode cL_law 994 = .ok (.iload_n 3, 1) := by decide +kernel
theorem dL_law_995 : decode cL_law 995 = .ok (.iconst 2, 1) := by decide +kernel
theorem dL_law_996 : decode cL_law 996 = .ok (.iadd, 1) := by decide +kernel
theorem dL_law_997 : decode cL_law 997 = .ok (.iaload, 1) := by decide +kernel
theorem dL_law_998 : decode cL_law 998 = .ok (.ifCond .eq 7, 3) := by decide +kernel
theorem dL_law_1005 : decode cL_law 1005 = .ok (.iconst 0, 1) := by decide +kernel
theorem dL_law_1006 : decode cL_law 1006 = .ok (.invokevirtual 124, 3) := by decide +kernel
theorem cw_X12_odds : CWv yX12_odds cX12_odds 3 (some .int) 2 := ⟨⟨⟨List.mem_of_getElem? (i := 137) (by decide +kernel), by decide +kernel⟩, ⟨List.mem_of_getElem? (i := 2051) (by decide +kernel), by decide +kernel⟩, by decide +kernel⟩, ⟨List.mem_of_getElem? (i := 2049) (by decide +kernel), by decide +kernel⟩, ⟨List.mem_of_getElem? (i := 2050) (by decide +kernel), by decide +kernel⟩⟩
theorem kmL_124 : inW (Cond.methodLink RL 124 yX12_odds) := ⟨List.mem_of_getElem? (i := 2048) (by decide +kernel), by decide +kernel⟩
theorem dL_law_1009 : decode cL_law 1009 = .ok (.if_icmp .eq 517, 3) := by decide +kernel
theorem dL_law_979 : decode cL_law 979 = .ok (.iconst 1, 1) := by decide +kernel
theorem dL_law_980 : decode cL_law 980 = .ok (.goto 4, 3) := by decide +kernel
theorem dL_law_1001 : decode cL_law 1001 = .ok (.iconst 1, 1) := by decide +kernel
theorem dL_law_1002 : decode cL_law 1002 = .ok (.goto 4, 3) := by decide +kernel
theorem dL_law_1014 : decode cL_law 1014 = .ok (.aload_n 1, 1) := by decide +kernel
theorem dL_law_1015 : decode cL_law 1015 = .ok (.aload_n 0, 1) := by decide +kernel
theorem dL_law_1016 : decode cL_law 1016 = .ok (.iload_n 3, 1) := by decide +kernel
theorem dL_law_1017 : decode cL_law 1017 = .ok (.iconst 1, 1) := by decide +kernel
theorem dL_law_1018 : decode cL_law 1018 = .ok (.iadd, 1) := by decide +kernel
theorem dL_law_1019 : decode cL_law 1019 = .ok (.iaload, 1) := by decide +kernel
theorem dL_law_1020 : decode cL_law 1020 = .ok (.invokevirtual 125, 3) := by decide +kernel
theorem cw_X11_nextAsked : CWv yX11_nextAsked cX11_nextAsked 2 (some .int) 1 := ⟨⟨⟨List.mem_of_getElem? (i := 124) (by decide +kernel), by decide +kernel⟩, ⟨List.mem_of_getElem? (i := 1286) (by decide +kernel), by decide +kernel⟩, by decide +kernel⟩, ⟨List.mem_of_getElem? (i := 1284) (by decide +kernel), by decide +kernel⟩, ⟨List.mem_of_getElem? (i := 1285) (by decide +kernel), by decide +kernel⟩⟩
theorem kmL_125 : inW (Cond.methodLink RL 125 yX11_nextAsked) := ⟨List.mem_of_getElem? (i := 1283) (by decide +kernel), by decide +kernel⟩
theorem dL_law_1023 : decode cL_law 1023 = .ok (.aload_n 2, 1) := by decide +kernel
theorem dL_law_1024 : decode cL_law 1024 = .ok (.aload_n 0, 1) := by decide +kernel
theorem dL_law_1025 : decode cL_law 1025 = .ok (.iload_n 3, 1) := by decide +kernel
theorem dL_law_1026 : decode cL_law 1026 = .ok (.iconst 1, 1) := by decide +kernel
theorem dL_law_1027 : decode cL_law 1027 = .ok (.iadd, 1) := by decide +kernel
theorem dL_law_1028 : decode cL_law 1028 = .ok (.iaload, 1) := by decide +kernel
theorem dL_law_1029 : decode cL_law 1029 = .ok (.invokevirtual 128, 3) := by decide +kernel
theorem cw_X12_nextAsked : CWv yX12_nextAsked cX12_nextAsked 6 (some .int) 1 := ⟨⟨⟨List.mem_of_getElem? (i := 137) (by decide +kernel), by decide +kernel⟩, ⟨List.mem_of_getElem? (i := 2058) (by decide +kernel), by decide +kernel⟩, by decide +kernel⟩, ⟨List.mem_of_getElem? (i := 2056) (by decide +kernel), by decide +kernel⟩, ⟨List.mem_of_getElem? (i := 2057) (by decide +kernel), by decide +kernel⟩⟩
theorem kmL_128 : inW (Cond.methodLink RL 128 yX12_nextAsked) := ⟨List.mem_of_getElem? (i := 2055) (by decide +kernel), by decide +kernel⟩
theorem dL_law_1032 : decode cL_law 1032 = .ok (.if_icmp .eq 494, 3) := by decide +kernel
theorem dL_law_1037 : decode cL_law 1037 = .ok (.aload_n 1, 1) := by decide +kernel
theorem dL_law_1038 : decode cL_law 1038 = .ok (.aload_n 0, 1) := by decide +kernel
theorem dL_law_1039 : decode cL_law 1039 = .ok (.iload_n 3, 1) := by decide +kernel
theorem dL_law_1040 : decode cL_law 1040 = .ok (.iconst 1, 1) := by decide +kernel
theorem dL_law_1041 : decode cL_law 1041 = .ok (.iadd, 1) := by decide +kernel
theorem dL_law_1042 : decode cL_law 1042 = .ok (.iaload, 1) := by decide +kernel
theorem dL_law_1043 : decode cL_law 1043 = .ok (.aload_n 0, 1) := by decide +kernel
theorem dL_law_1044 : decode cL_law 1044 = .ok (.iload_n 3, 1) := by decide +kernel
theorem dL_law_1045 : decode cL_law 1045 = .ok (.iconst 2, 1) := by decide +kernel
theorem dL_law_1046 : decode cL_law 1046 = .ok (.iadd, 1) := by decide +kernel
theorem dL_law_1047 : decode cL_law 1047 = .ok (.iaload, 1) := by decide +kernel
theorem dL_law_1048 : decode cL_law 1048 = .ok (.invokevirtual 129, 3) := by decide +kernel
theorem cw_X11_clash : CWv yX11_clash cX11_clash 3 (some .int) 2 := ⟨⟨⟨List.mem_of_getElem? (i := 124) (by decide +kernel), by decide +kernel⟩, ⟨List.mem_of_getElem? (i := 1297) (by decide +kernel), by decide +kernel⟩, by decide +kernel⟩, ⟨List.mem_of_getElem? (i := 1295) (by decide +kernel), by decide +kernel⟩, ⟨List.mem_of_getElem? (i := 1296) (by decide +kernel), by decide +kernel⟩⟩
theorem kmL_129 : inW (Cond.methodLink RL 129 yX11_clash) := ⟨List.mem_of_getElem? (i := 1294) (by decide +kernel), by decide +kernel⟩
theorem dL_law_1051 : decode cL_law 1051 = .ok (.aload_n 2, 1) := by decide +kernel
theorem dL_law_1052 : decode cL_law 1052 = .ok (.aload_n 0, 1) := by decide +kernel
theorem dL_law_1053 : decode cL_law 1053 = .ok (.iload_n 3, 1) := by decide +kernel
theorem dL_law_1054 : decode cL_law 1054 = .ok (.iconst 1, 1) := by decide +kernel
theorem dL_law_1055 : decode cL_law 1055 = .ok (.iadd, 1) := by decide +kernel
theorem dL_law_1056 : decode cL_law 1056 = .ok (.iaload, 1) := by decide +kernel
theorem dL_law_1057 : decode cL_law 1057 = .ok (.aload_n 0, 1) := by decide +kernel
theorem dL_law_1058 : decode cL_law 1058 = .ok (.iload_n 3, 1) := by decide +kernel
theorem dL_law_1059 : decode cL_law 1059 = .ok (.iconst 2, 1) := by decide +kernel
theorem dL_law_1060 : decode cL_law 1060 = .ok (.iadd, 1) := by decide +kernel
theorem dL_law_1061 : decode cL_law 1061 = .ok (.iaload, 1) := by decide +kernel
theorem dL_law_1062 : decode cL_law 1062 = .ok (.invokevirtual 132, 3) := by decide +kernel
theorem cw_X12_clash : CWv yX12_clash cX12_clash 3 (some .int) 2 := ⟨⟨⟨List.mem_of_getElem? (i := 137) (by decide +kernel), by decide +kernel⟩, ⟨List.mem_of_getElem? (i := 2062) (by decide +kernel), by decide +kernel⟩, by decide +kernel⟩, ⟨List.mem_of_getElem? (i := 2060) (by decide +kernel), by decide +kernel⟩, ⟨List.mem_of_getElem? (i := 2061) (by decide +kernel), by decide +kernel⟩⟩
theorem kmL_132 : inW (Cond.methodLink RL 132 yX12_clash) := ⟨List.mem_of_getElem? (i := 2059) (by decide +kernel), by decide +kernel⟩
theorem dL_law_1065 : decode cL_law 1065 = .ok (.if_icmp .eq 461, 3) := by decide +kernel
theorem dL_law_1070 : decode cL_law 1070 = .ok (.aload_n 1, 1) := by decide +kernel
theorem dL_law_1071 : decode cL_law 1071 = .ok (.invokevirtual 133, 3) := by decide +kernel
theorem cw_X11_leastReleased : CWv yX11_leastReleased cX11_leastReleased 1 (some .int) 0 := ⟨⟨⟨List.mem_of_getElem? (i := 124) (by decide +kernel), by decide +kernel⟩, ⟨List.mem_of_getElem? (i := 1301) (by decide +kernel), by decide +kernel⟩, by decide +kernel⟩, ⟨List.mem_of_getElem? (i := 1299) (by decide +kernel), by decide +kernel⟩, ⟨List.mem_of_getElem? (i := 1300) (by decide +kernel), by decide +kernel⟩⟩
theorem kmL_133 : inW (Cond.methodLink RL 133 yX11_leastReleased) := ⟨List.mem_of_getElem? (i := 1298) (by decide +kernel), by decide +kernel⟩
theorem dL_law_1074 : decode cL_law 1074 = .ok (.aload_n 2, 1) := by decide +kernel
theorem dL_law_1075 : decode cL_law 1075 = .ok (.invokevirtual 136, 3) := by decide +kernel
theorem cw_X12_leastReleased : CWv yX12_leastReleased cX12_leastReleased 4 (some .int) 0 := ⟨⟨⟨List.mem_of_getElem? (i := 137) (by decide +kernel), by decide +kernel⟩, ⟨List.mem_of_getElem? (i := 2066) (by decide +kernel), by decide +kernel⟩, by decide +kernel⟩, ⟨List.mem_of_getElem? (i := 2064) (by decide +kernel), by decide +kernel⟩, ⟨List.mem_of_getElem? (i := 2065) (by decide +kernel), by decide +kernel⟩⟩
theorem kmL_136 : inW (Cond.methodLink RL 136 yX12_leastReleased) := ⟨List.mem_of_getElem? (i := 2063) (by decide +kernel), by decide +kernel⟩
theorem dL_law_1078 : decode cL_law 1078 = .ok (.if_icmp .eq 448, 3) := by decide +kernel
theorem dL_law_1083 : decode cL_law 1083 = .ok (.aload_n 1, 1) := by decide +kernel
theorem dL_law_1084 : decode cL_law 1084 = .ok (.aload_n 0, 1) := by decide +kernel
theorem dL_law_1085 : decode cL_law 1085 = .ok (.iload_n 3, 1) := by decide +kernel
theorem dL_law_1086 : decode cL_law 1086 = .ok (.iconst 1, 1) := by decide +kernel
theorem dL_law_1087 : decode cL_law 1087 = .ok (.iadd, 1) := by decide +kernel
theorem dL_law_1088 : decode cL_law 1088 = .ok (.iaload, 1) := by decide +kernel
theorem dL_law_1089 : decode cL_law 1089 = .ok (.aload_n 0, 1) := by decide +kernel
theorem dL_law_1090 : decode cL_law 1090 = .ok (.iload_n 3, 1) := by decide +kernel
theorem dL_law_1091 : decode cL_law 1091 = .ok (.iconst 2, 1) := by decide +kernel
theorem dL_law_1092 : decode cL_law 1092 = .ok (.iadd, 1) := by decide +kernel
theorem dL_law_1093 : decode cL_law 1093 = .ok (.iaload, 1) := by decide +kernel
theorem dL_law_1094 : decode cL_law 1094 = .ok (.aload_n 0, 1) := by decide +kernel
theorem dL_law_1095 : decode cL_law 1095 = .ok (.iload_n 3, 1) := by decide +kernel
theorem dL_law_1096 : decode cL_law 1096 = .ok (.iconst 3, 1) := by decide +kernel
theorem dL_law_1097 : decode cL_law 1097 = .ok (.iadd, 1) := by decide +kernel
theorem dL_law_1098 : decode cL_law 1098 = .ok (.iaload, 1) := by decide +kernel
theorem dL_law_1099 : decode cL_law 1099 = .ok (.invokevirtual 137, 3) := by decide +kernel
theorem cw_X11_forged : CWv yX11_forged cX11_forged 4 (some .int) 3 := ⟨⟨⟨List.mem_of_getElem? (i := 124) (by decide +kernel), by decide +kernel⟩, ⟨List.mem_of_getElem? (i := 1319) (by decide +kernel), by decide +kernel⟩, by decide +kernel⟩, ⟨List.mem_of_getElem? (i := 1317) (by decide +kernel), by decide +kernel⟩, ⟨List.mem_of_getElem? (i := 1318) (by decide +kernel), by decide +kernel⟩⟩
theorem kmL_137 : inW (Cond.methodLink RL 137 yX11_forged) := ⟨List.mem_of_getElem? (i := 1316) (by decide +kernel), by decide +kernel⟩
theorem dL_law_1102 : decode cL_law 1102 = .ok (.aload_n 2, 1) := by decide +kernel
theorem dL_law_1103 : decode cL_law 1103 = .ok (.aload_n 0, 1) := by decide +kernel
theorem dL_law_1104 : decode cL_law 1104 = .ok (.iload_n 3, 1) := by decide +kernel
theorem dL_law_1105 : decode cL_law 1105 = .ok (.iconst 1, 1) := by decide +kernel
theorem dL_law_1106 : decode cL_law 1106 = .ok (.iadd, 1) := by decide +kernel
theorem dL_law_1107 : decode cL_law 1107 = .ok (.iaload, 1) := by decide +kernel
theorem dL_law_1108 : decode cL_law 1108 = .ok (.aload_n 0, 1) := by decide +kernel
theorem dL_law_1109 : decode cL_law 1109 = .ok (.iload_n 3, 1) := by decide +kernel
theorem dL_law_1110 : decode cL_law 1110 = .ok (.iconst 2, 1) := by decide +kernel
theorem dL_law_1111 : decode cL_law 1111 = .ok (.iadd, 1) := by decide +kernel
theorem dL_law_1112 : decode cL_law 1112 = .ok (.iaload, 1) := by decide +kernel
theorem dL_law_1113 : decode cL_law 1113 = .ok (.aload_n 0, 1) := by decide +kernel
theorem dL_law_1114 : decode cL_law 1114 = .ok (.iload_n 3, 1) := by decide +kernel
theorem dL_law_1115 : decode cL_law 1115 = .ok (.iconst 3, 1) := by decide +kernel
theorem dL_law_1116 : decode cL_law 1116 = .ok (.iadd, 1) := by decide +kernel
theorem dL_law_1117 : decode cL_law 1117 = .ok (.iaload, 1) := by decide +kernel
theorem dL_law_1118 : decode cL_law 1118 = .ok (.invokevirtual 140, 3) := by decide +kernel
theorem cw_X12_forged : CWv yX12_forged cX12_forged 6 (some .int) 3 := ⟨⟨⟨List.mem_of_getElem? (i := 137) (by decide +kernel), by decide +kernel⟩, ⟨List.mem_of_getElem? (i := 2078) (by decide +kernel), by decide +kernel⟩, by decide +kernel⟩, ⟨List.mem_of_getElem? (i := 2076) (by decide +kernel), by decide +kernel⟩, ⟨List.mem_of_getElem? (i := 2077) (by decide +kernel), by decide +kernel⟩⟩
theorem kmL_140 : inW (Cond.methodLink RL 140 yX12_forged) := ⟨List.mem_of_getElem? (i := 2075) (by decide +kernel), by decide +kernel⟩
theorem dL_law_1121 : decode cL_law 1121 = .ok (.if_icmp .eq 405, 3) := by decide +kernel
theorem dL_law_1126 : decode cL_law 1126 = .ok (.aload_n 1, 1) := by decide +kernel
theorem dL_law_1127 : decode cL_law 1127 = .ok (.aload_n 0, 1) := by decide +kernel
theorem dL_law_1128 : decode cL_law 1128 = .ok (.iload_n 3, 1) := by decide +kernel
theorem dL_law_1129 : decode cL_law 1129 = .ok (.iconst 1, 1) := by decide +kernel
theorem dL_law_1130 : decode cL_law 1130 = .ok (.iadd, 1) := by decide +kernel
theorem dL_law_1131 : decode cL_law 1131 = .ok (.iaload, 1) := by decide +kernel
theorem dL_law_1132 : decode cL_law 1132 = .ok (.aload_n 0, 1) := by decide +kernel
theorem dL_law_1133 : decode cL_law 1133 = .ok (.iload_n 3, 1) := by decide +kernel
theorem dL_law_1134 : decode cL_law 1134 = .ok (.iconst 2, 1) := by decide +kernel
theorem dL_law_1135 : decode cL_law 1135 = .ok (.iadd, 1) := by decide +kernel
theorem dL_law_1136 : decode cL_law 1136 = .ok (.iaload, 1) := by decide +kernel
theorem dL_law_1137 : decode cL_law 1137 = .ok (.invokevirtual 141, 3) := by decide +kernel
theorem cw_X11_word : CWv yX11_word cX11_word 3 (some .int) 2 := ⟨⟨⟨List.mem_of_getElem? (i := 124) (by decide +kernel), by decide +kernel⟩, ⟨List.mem_of_getElem? (i := 1327) (by decide +kernel), by decide +kernel⟩, by decide +kernel⟩, ⟨List.mem_of_getElem? (i := 1325) (by decide +kernel), by decide +kernel⟩, ⟨List.mem_of_getElem? (i := 1326) (by decide +kernel), by decide +kernel⟩⟩
theorem kmL_141 : inW (Cond.methodLink RL 141 yX11_word) := ⟨List.mem_of_getElem? (i := 1324) (by decide +kernel), by decide +kernel⟩
theorem dL_law_1140 : decode cL_law 1140 = .ok (.aload_n 2, 1) := by decide +kernel
theorem dL_law_1141 : decode cL_law 1141 = .ok (.aload_n 0, 1) := by decide +kernel
theorem dL_law_1142 : decode cL_law 1142 = .ok (.iload_n 3, 1) := by decide +kernel
theorem dL_law_1143 : decode cL_law 1143 = .ok (.iconst 1, 1) := by decide +kernel
theorem dL_law_1144 : decode cL_law 1144 = .ok (.iadd, 1) := by decide +kernel
theorem dL_law_1145 : decode cL_law 1145 = .ok (.iaload, 1) := by decide +kernel
theorem dL_law_1146 : decode cL_law 1146 = .ok (.aload_n 0, 1) := by decide +kernel
theorem dL_law_1147 : decode cL_law 1147 = .ok (.iload_n 3, 1) := by decide +kernel
theorem dL_law_1148 : decode cL_law 1148 = .ok (.iconst 2, 1) := by decide +kernel
theorem dL_law_1149 : decode cL_law 1149 = .ok (.iadd, 1) := by decide +kernel
theorem dL_law_1150 : decode cL_law 1150 = .ok (.iaload, 1) := by decide +kernel
theorem dL_law_1151 : decode cL_law 1151 = .ok (.invokevirtual 144, 3) := by decide +kernel
theorem cw_X12_word : CWv yX12_word cX12_word 3 (some .int) 2 := ⟨⟨⟨List.mem_of_getElem? (i := 137) (by decide +kernel), by decide +kernel⟩, ⟨List.mem_of_getElem? (i := 2082) (by decide +kernel), by decide +kernel⟩, by decide +kernel⟩, ⟨List.mem_of_getElem? (i := 2080) (by decide +kernel), by decide +kernel⟩, ⟨List.mem_of_getElem? (i := 2081) (by decide +kernel), by decide +kernel⟩⟩
theorem kmL_144 : inW (Cond.methodLink RL 144 yX12_word) := ⟨List.mem_of_getElem? (i := 2079) (by decide +kernel), by decide +kernel⟩
theorem dL_law_1154 : decode cL_law 1154 = .ok (.if_icmp .eq 372, 3) := by decide +kernel
theorem dL_law_1159 : decode cL_law 1159 = .ok (.aload_n 1, 1) := by decide +kernel
theorem dL_law_1160 : decode cL_law 1160 = .ok (.aload_n 0, 1) := by decide +kernel
theorem dL_law_1161 : decode cL_law 1161 = .ok (.iload_n 3, 1) := by decide +kernel
theorem dL_law_1162 : decode cL_law 1162 = .ok (.iconst 1, 1) := by decide +kernel
theorem dL_law_1163 : decode cL_law 1163 = .ok (.iadd, 1) := by decide +kernel
theorem dL_law_1164 : decode cL_law 1164 = .ok (.iaload, 1) := by decide +kernel
theorem dL_law_1165 : decode cL_law 1165 = .ok (.invokevirtual 145, 3) := by decide +kernel
theorem cw_X11_inTime : CWv yX11_inTime cX11_inTime 3 (some .int) 1 := ⟨⟨⟨List.mem_of_getElem? (i := 124) (by decide +kernel), by decide +kernel⟩, ⟨List.mem_of_getElem? (i := 1331) (by decide +kernel), by decide +kernel⟩, by decide +kernel⟩, ⟨List.mem_of_getElem? (i := 1329) (by decide +kernel), by decide +kernel⟩, ⟨List.mem_of_getElem? (i := 1330) (by decide +kernel), by decide +kernel⟩⟩
theorem kmL_145 : inW (Cond.methodLink RL 145 yX11_inTime) := ⟨List.mem_of_getElem? (i := 1328) (by decide +kernel), by decide +kernel⟩
theorem dL_law_1168 : decode cL_law 1168 = .ok (.aload_n 2, 1) := by decide +kernel
theorem dL_law_1169 : decode cL_law 1169 = .ok (.aload_n 0, 1) := by decide +kernel
theorem dL_law_1170 : decode cL_law 1170 = .ok (.iload_n 3, 1) := by decide +kernel
theorem dL_law_1171 : decode cL_law 1171 = .ok (.iconst 1, 1) := by decide +kernel
theorem dL_law_1172 : decode cL_law 1172 = .ok (.iadd, 1) := by decide +kernel
theorem dL_law_1173 : decode cL_law 1173 = .ok (.iaload, 1) := by decide +kernel
theorem dL_law_1174 : decode cL_law 1174 = .ok (.invokevirtual 148, 3) := by decide +kernel
theorem cw_X12_inTime : CWv yX12_inTime cX12_inTime 4 (some .int) 1 := ⟨⟨⟨List.mem_of_getElem? (i := 137) (by decide +kernel), by decide +kernel⟩, ⟨List.mem_of_getElem? (i := 2086) (by decide +kernel), by decide +kernel⟩, by decide +kernel⟩, ⟨List.mem_of_getElem? (i := 2084) (by decide +kernel), by decide +kernel⟩, ⟨List.mem_of_getElem? (i := 2085) (by decide +kernel), by decide +kernel⟩⟩
theorem kmL_148 : inW (Cond.methodLink RL 148 yX12_inTime) := ⟨List.mem_of_getElem? (i := 2083) (by decide +kernel), by decide +kernel⟩
theorem dL_law_1177 : decode cL_law 1177 = .ok (.if_icmp .eq 349, 3) := by decide +kernel
theorem dL_law_1182 : decode cL_law 1182 = .ok (.aload_n 1, 1) := by decide +kernel
theorem dL_law_1183 : decode cL_law 1183 = .ok (.aload_n 0, 1) := by decide +kernel
theorem dL_law_1184 : decode cL_law 1184 = .ok (.iload_n 3, 1) := by decide +kernel
theorem dL_law_1185 : decode cL_law 1185 = .ok (.iconst 1, 1) := by decide +kernel
theorem dL_law_1186 : decode cL_law 1186 = .ok (.iadd, 1) := by decide +kernel
theorem dL_law_1187 : decode cL_law 1187 = .ok (.iaload, 1) := by decide +kernel
theorem dL_law_1188 : decode cL_law 1188 = .ok (.invokevirtual 149, 3) := by decide +kernel
theorem cw_X11_whom : CWv yX11_whom cX11_whom 6 (some .int) 1 := ⟨⟨⟨List.mem_of_getElem? (i := 124) (by decide +kernel), by decide +kernel⟩, ⟨List.mem_of_getElem? (i := 1349) (by decide +kernel), by decide +kernel⟩, by decide +kernel⟩, ⟨List.mem_of_getElem? (i := 1347) (by decide +kernel), by decide +kernel⟩, ⟨List.mem_of_getElem? (i := 1348) (by decide +kernel), by decide +kernel⟩⟩
theorem kmL_149 : inW (Cond.methodLink RL 149 yX11_whom) := ⟨List.mem_of_getElem? (i := 1346) (by decide +kernel), by decide +kernel⟩
theorem dL_law_1191 : decode cL_law 1191 = .ok (.aload_n 2, 1) := by decide +kernel
theorem dL_law_1192 : decode cL_law 1192 = .ok (.aload_n 0, 1) := by decide +kernel
theorem dL_law_1193 : decode cL_law 1193 = .ok (.iload_n 3, 1) := by decide +kernel
theorem dL_law_1194 : decode cL_law 1194 = .ok (.iconst 1, 1) := by decide +kernel
theorem dL_law_1195 : decode cL_law 1195 = .ok (.iadd, 1) := by decide +kernel
theorem dL_law_1196 : decode cL_law 1196 = .ok (.iaload, 1) := by decide +kernel
theorem dL_law_1197 : decode cL_law 1197 = .ok (.invokevirtual 152, 3) := by decide +kernel
theorem cw_X12_whom : CWv yX12_whom cX12_whom 4 (some .int) 1 := ⟨⟨⟨List.mem_of_getElem? (i := 137) (by decide +kernel), by decide +kernel⟩, ⟨List.mem_of_getElem? (i := 2098) (by decide +kernel), by decide +kernel⟩, by decide +kernel⟩, ⟨List.mem_of_getElem? (i := 2096) (by decide +kernel), by decide +kernel⟩, ⟨List.mem_of_getElem? (i := 2097) (by decide +kernel), by decide +kernel⟩⟩
theorem kmL_152 : inW (Cond.methodLink RL 152 yX12_whom) := ⟨List.mem_of_getElem? (i := 2095) (by decide +kernel), by decide +kernel⟩
theorem dL_law_1200 : decode cL_law 1200 = .ok (.if_icmp .eq 326, 3) := by decide +kernel
theorem dL_law_1205 : decode cL_law 1205 = .ok (.aload_n 1, 1) := by decide +kernel
theorem dL_law_1206 : decode cL_law 1206 = .ok (.invokevirtual 153, 3) := by decide +kernel
theorem cw_X11_ring : CWv yX11_ring cX11_ring 1 (some .int) 0 := ⟨⟨⟨List.mem_of_getElem? (i := 124) (by decide +kernel), by decide +kernel⟩, ⟨List.mem_of_getElem? (i := 1353) (by decide +kernel), by decide +kernel⟩, by decide +kernel⟩, ⟨List.mem_of_getElem? (i := 1351) (by decide +kernel), by decide +kernel⟩, ⟨List.mem_of_getElem? (i := 1352) (by decide +kernel), by decide +kernel⟩⟩
theorem kmL_153 : inW (Cond.methodLink RL 153 yX11_ring) := ⟨List.mem_of_getElem? (i := 1350) (by decide +kernel), by decide +kernel⟩
theorem dL_law_1209 : decode cL_law 1209 = .ok (.aload_n 2, 1) := by decide +kernel
theorem dL_law_1210 : decode cL_law 1210 = .ok (.invokevirtual 156, 3) := by decide +kernel
theorem cw_X12_ring : CWv yX12_ring cX12_ring 4 (some .int) 0 := ⟨⟨⟨List.mem_of_getElem? (i := 137) (by decide +kernel), by decide +kernel⟩, ⟨List.mem_of_getElem? (i := 2102) (by decide +kernel), by decide +kernel⟩, by decide +kernel⟩, ⟨List.mem_of_getElem? (i := 2100) (by decide +kernel), by decide +kernel⟩, ⟨List.mem_of_getElem? (i := 2101) (by decide +kernel), by decide +kernel⟩⟩
theorem kmL_156 : inW (Cond.methodLink RL 156 yX12_ring) := ⟨List.mem_of_getElem? (i := 2099) (by decide +kernel), by decide +kernel⟩
theorem dL_law_1213 : decode cL_law 1213 = .ok (.if_icmp .eq 313, 3) := by decide +kernel
theorem dL_law_1218 : decode cL_law 1218 = .ok (.aload_n 1, 1) := by decide +kernel
theorem dL_law_1219 : decode cL_law 1219 = .ok (.invokevirtual 157, 3) := by decide +kernel
theorem cw_X11_allSeen : CWv yX11_allSeen cX11_allSeen 1 (some .int) 0 := ⟨⟨⟨List.mem_of_getElem? (i := 124) (by decide +kernel), by decide +kernel⟩, ⟨List.mem_of_getElem? (i := 1369) (by decide +kernel), by decide +kernel⟩, by decide +kernel⟩, ⟨List.mem_of_getElem? (i := 1367) (by decide +kernel), by decide +kernel⟩, ⟨List.mem_of_getElem? (i := 1368) (by decide +kernel), by decide +kernel⟩⟩
theorem kmL_157 : inW (Cond.methodLink RL 157 yX11_allSeen) := ⟨List.mem_of_getElem? (i := 1366) (by decide +kernel), by decide +kernel⟩
theorem dL_law_1222 : decode cL_law 1222 = .ok (.aload_n 2, 1) := by decide +kernel
theorem dL_law_1223 : decode cL_law 1223 = .ok (.invokevirtual 160, 3) := by decide +kernel
theorem cw_X12_allSeen : CWv yX12_allSeen cX12_allSeen 2 (some .int) 0 := ⟨⟨⟨List.mem_of_getElem? (i := 137) (by decide +kernel), by decide +kernel⟩, ⟨List.mem_of_getElem? (i := 2122) (by decide +kernel), by decide +kernel⟩, by decide +kernel⟩, ⟨List.mem_of_getElem? (i := 2120) (by decide +kernel), by decide +kernel⟩, ⟨List.mem_of_getElem? (i := 2121) (by decide +kernel), by decide +kernel⟩⟩
theorem kmL_160 : inW (Cond.methodLink RL 160 yX12_allSeen) := ⟨List.mem_of_getElem? (i := 2119) (by decide +kernel), by decide +kernel⟩
theorem dL_law_1226 : decode cL_law 1226 = .ok (.if_icmp .eq 300, 3) := by decide +kernel
theorem dL_law_1231 : decode cL_law 1231 = .ok (.aload_n 1, 1) := by decide +kernel
theorem dL_law_1232 : decode cL_law 1232 = .ok (.aload_n 0, 1) := by decide +kernel
theorem dL_law_1233 : decode cL_law 1233 = .ok (.iload_n 3, 1) := by decide +kernel
theorem dL_law_1234 : decode cL_law 1234 = .ok (.iconst 1, 1) := by decide +kernel
theorem dL_law_1235 : decode cL_law 1235 = .ok (.iadd, 1) := by decide +kernel
theorem dL_law_1236 : decode cL_law 1236 = .ok (.iaload, 1) := by decide +kernel
theorem dL_law_1237 : decode cL_law 1237 = .ok (.aload_n 0, 1) := by decide +kernel
theorem dL_law_1238 : decode cL_law 1238 = .ok (.iload_n 3, 1) := by decide +kernel
theorem dL_law_1239 : decode cL_law 1239 = .ok (.iconst 2, 1) := by decide +kernel
theorem dL_law_1240 : decode cL_law 1240 = .ok (.iadd, 1) := by decide +kernel
theorem dL_law_1241 : decode cL_law 1241 = .ok (.iaload, 1) := by decide +kernel
theorem dL_law_1242 : decode cL_law 1242 = .ok (.invokevirtual 161, 3) := by decide +kernel
theorem cw_X11_saw : CWv yX11_saw cX11_saw 3 (some .int) 2 := ⟨⟨⟨List.mem_of_getElem? (i := 124) (by decide +kernel), by decide +kernel⟩, ⟨List.mem_of_getElem? (i := 1382) (by decide +kernel), by decide +kernel⟩, by decide +kernel⟩, ⟨List.mem_of_getElem? (i := 1380) (by decide +kernel), by decide +kernel⟩, ⟨List.mem_of_getElem? (i := 1381) (by decide +kernel), by decide +kernel⟩⟩
theorem kmL_161 : inW (Cond.methodLink RL 161 yX11_saw) := ⟨List.mem_of_getElem? (i := 1379) (by decide +kernel), by decide +kernel⟩
theorem dL_law_1245 : decode cL_law 1245 = .ok (.aload_n 2, 1) := by decide +kernel
theorem dL_law_1246 : decode cL_law 1246 = .ok (.aload_n 0, 1) := by decide +kernel
theorem dL_law_1247 : decode cL_law 1247 = .ok (.iload_n 3, 1) := by decide +kernel
theorem dL_law_1248 : decode cL_law 1248 = .ok (.iconst 1, 1) := by decide +kernel
theorem dL_law_1249 : decode cL_law 1249 = .ok (.iadd, 1) := by decide +kernel
theorem dL_law_1250 : decode cL_law 1250 = .ok (.iaload, 1) := by decide +kernel
theorem dL_law_1251 : decode cL_law 1251 = .ok (.aload_n 0, 1) := by decide +kernel
theorem dL_law_1252 : decode cL_law 1252 = .ok (.iload_n 3, 1) := by decide +kernel
theorem dL_law_1253 : decode cL_law 1253 = .ok (.iconst 2, 1) := by decide +kernel
theorem dL_law_1254 : decode cL_law 1254 = .ok (.iadd, 1) := by decide +kernel
theorem dL_law_1255 : decode cL_law 1255 = .ok (.iaload, 1) := by decide +kernel
theorem dL_law_1256 : decode cL_law 1256 = .ok (.invokevirtual 164, 3) := by decide +kernel
theorem cw_X12_saw : CWv yX12_saw cX12_saw 3 (some .int) 2 := ⟨⟨⟨List.mem_of_getElem? (i := 137) (by decide +kernel), by decide +kernel⟩, ⟨List.mem_of_getElem? (i := 2106) (by decide +kernel), by decide +kernel⟩, by decide +kernel⟩, ⟨List.mem_of_getElem? (i := 2104) (by decide +kernel), by decide +kernel⟩, ⟨List.mem_of_getElem? (i := 2105) (by decide +kernel), by decide +kernel⟩⟩
theorem kmL_164 : inW (Cond.methodLink RL 164 yX12_saw) := ⟨List.mem_of_getElem? (i := 2103) (by decide +kernel), by decide +kernel⟩
theorem dL_law_1259 : decode cL_law 1259 = .ok (.if_icmp .eq 267, 3) := by decide +kernel
theorem dL_law_1264 : decode cL_law 1264 = .ok (.aload_n 1, 1) := by decide +kernel
theorem dL_law_1265 : decode cL_law 1265 = .ok (.aload_n 0, 1) := by decide +kernel
theorem dL_law_1266 : decode cL_law 1266 = .ok (.iload_n 3, 1) := by decide +kernel
theorem dL_law_1267 : decode cL_law 1267 = .ok (.iconst 1, 1) := by decide +kernel
theorem dL_law_1268 : decode cL_law 1268 = .ok (.iadd, 1) := by decide +kernel
theorem dL_law_1269 : decode cL_law 1269 = .ok (.iaload, 1) := by decide +kernel
theorem dL_law_1270 : decode cL_law 1270 = .ok (.invokevirtual 165, 3) := by decide +kernel
theorem cw_X11_known : CWv yX11_known cX11_known 2 (some .int) 1 := ⟨⟨⟨List.mem_of_getElem? (i := 124) (by decide +kernel), by decide +kernel⟩, ⟨List.mem_of_getElem? (i := 1386) (by decide +kernel), by decide +kernel⟩, by decide +kernel⟩, ⟨List.mem_of_getElem? (i := 1384) (by decide +kernel), by decide +kernel⟩, ⟨List.mem_of_getElem? (i := 1385) (by decide +kernel), by decide +kernel⟩⟩
theorem kmL_165 : inW (Cond.methodLink RL 165 yX11_known) := ⟨List.mem_of_getElem? (i := 1383) (by decide +kernel), by decide +kernel⟩
theorem dL_law_1273 : decode cL_law 1273 = .ok (.aload_n 2, 1) := by decide +kernel
theorem dL_law_1274 : decode cL_law 1274 = .ok (.aload_n 0, 1) := by decide +kernel
theorem dL_law_1275 : decode cL_law 1275 = .ok (.iload_n 3, 1) := by decide +kernel
theorem dL_law_1276 : decode cL_law 1276 = .ok (.iconst 1, 1) := by decide +kernel
theorem dL_law_1277 : decode cL_law 1277 = .ok (.iadd, 1) := by decide +kernel
theorem dL_law_1278 : decode cL_law 1278 = .ok (.iaload, 1) := by decide +kernel
theorem dL_law_1279 : decode cL_law 1279 = .ok (.invokevirtual 168, 3) := by decide +kernel
theorem cw_X12_known : CWv yX12_known cX12_known 2 (some .int) 1 := ⟨⟨⟨List.mem_of_getElem? (i := 137) (by decide +kernel), by decide +kernel⟩, ⟨List.mem_of_getElem? (i := 2110) (by decide +kernel), by decide +kernel⟩, by decide +kernel⟩, ⟨List.mem_of_getElem? (i := 2108) (by decide +kernel), by decide +kernel⟩, ⟨List.mem_of_getElem? (i := 2109) (by decide +kernel), by decide +kernel⟩⟩
theorem kmL_168 : inW (Cond.methodLink RL 168 yX12_known) := ⟨List.mem_of_getElem? (i := 2107) (by decide +kernel), by decide +kernel⟩
theorem dL_law_1282 : decode cL_law 1282 = .ok (.if_icmp .eq 244, 3) := by decide +kernel
theorem dL_law_1287 : decode cL_law 1287 = .ok (.aload_n 1, 1) := by decide +kernel
theorem dL_law_1288 : decode cL_law 1288 = .ok (.invokevirtual 169, 3) := by decide +kernel
theorem cw_X11_together : CWv yX11_together cX11_together 1 (some .int) 0 := ⟨⟨⟨List.mem_of_getElem? (i := 124) (by decide +kernel), by decide +kernel⟩, ⟨List.mem_of_getElem? (i := 1394) (by decide +kernel), by decide +kernel⟩, by decide +kernel⟩, ⟨List.mem_of_getElem? (i := 1392) (by decide +kernel), by decide +kernel⟩, ⟨List.mem_of_getElem? (i := 1393) (by decide +kernel), by decide +kernel⟩⟩
theorem kmL_169 : inW (Cond.methodLink RL 169 yX11_together) := ⟨List.mem_of_getElem? (i := 1391) (by decide +kernel), by decide +kernel⟩
theorem dL_law_1291 : decode cL_law 1291 = .ok (.aload_n 2, 1) := by decide +kernel
theorem dL_law_1292 : decode cL_law 1292 = .ok (.invokevirtual 172, 3) := by decide +kernel
theorem cw_X12_together : CWv yX12_together cX12_together 2 (some .int) 0 := ⟨⟨⟨List.mem_of_getElem? (i := 137) (by decide +kernel), by decide +kernel⟩, ⟨List.mem_of_getElem? (i := 2134) (by decide +kernel), by decide +kernel⟩, by decide +kernel⟩, ⟨List.mem_of_getElem? (i := 2132) (by decide +kernel), by decide +kernel⟩, ⟨List.mem_of_getElem? (i := 2133) (by decide +kernel), by decide +kernel⟩⟩
theorem kmL_172 : inW (Cond.methodLink RL 172 yX12_together) := ⟨List.mem_of_getElem? (i := 2131) (by decide +kernel), by decide +kernel⟩
theorem dL_law_1295 : decode cL_law 1295 = .ok (.if_icmp .eq 231, 3) := by decide +kernel
theorem dL_law_1300 : decode cL_law 1300 = .ok (.aload_n 1, 1) := by decide +kernel
theorem dL_law_1301 : decode cL_law 1301 = .ok (.aload_n 0, 1) := by decide +kernel
theorem dL_law_1302 : decode cL_law 1302 = .ok (.iload_n 3, 1) := by decide +kernel
theorem dL_law_1303 : decode cL_law 1303 = .ok (.iconst 1, 1) := by decide +kernel
theorem dL_law_1304 : decode cL_law 1304 = .ok (.iadd, 1) := by decide +kernel
theorem dL_law_1305 : decode cL_law 1305 = .ok (.iaload, 1) := by decide +kernel
theorem dL_law_1306 : decode cL_law 1306 = .ok (.aload_n 0, 1) := by decide +kernel
theorem dL_law_1307 : decode cL_law 1307 = .ok (.iload_n 3, 1) := by decide +kernel
theorem dL_law_1308 : decode cL_law 1308 = .ok (.iconst 2, 1) := by decide +kernel
theorem dL_law_1309 : decode cL_law 1309 = .ok (.iadd, 1) := by decide +kernel
theorem dL_law_1310 : decode cL_law 1310 = .ok (.iaload, 1) := by decide +kernel
theorem dL_law_1311 : decode cL_law 1311 = .ok (.aload_n 0, 1) := by decide +kernel
theorem dL_law_1312 : decode cL_law 1312 = .ok (.iload_n 3, 1) := by decide +kernel
theorem dL_law_1313 : decode cL_law 1313 = .ok (.iconst 3, 1) := by decide +kernel
theorem dL_law_1314 : decode cL_law 1314 = .ok (.iadd, 1) := by decide +kernel
theorem dL_law_1315 : decode cL_law 1315 = .ok (.iaload, 1) := by decide +kernel
theorem dL_law_1316 : decode cL_law 1316 = .ok (.aload_n 0, 1) := by decide +kernel
theorem dL_law_1317 : decode cL_law 1317 = .ok (.iload_n 3, 1) := by decide +kernel
theorem dL_law_1318 : decode cL_law 1318 = .ok (.iconst 4, 1) := by decide +kernel
theorem dL_law_1319 : decode cL_law 1319 = .ok (.iadd, 1) := by decide +kernel
theorem dL_law_1320 : decode cL_law 1320 = .ok (.iaload, 1) := by decide +kernel
theorem dL_law_1321 : decode cL_law 1321 = .ok (.ifCond .eq 7, 3) := by decide +kernel
theorem dL_law_1328 : decode cL_law 1328 = .ok (.iconst 0, 1) := by decide +kernel
theorem dL_law_1329 : decode cL_law 1329 = .ok (.invokevirtual 173, 3) := by decide +kernel
theorem cw_X11_copy : CWv yX11_copy cX11_copy 10 (some .int) 4 := ⟨⟨⟨List.mem_of_getElem? (i := 124) (by decide +kernel), by decide +kernel⟩, ⟨List.mem_of_getElem? (i := 1407) (by decide +kernel), by decide +kernel⟩, by decide +kernel⟩, ⟨List.mem_of_getElem? (i := 1405) (by decide +kernel), by decide +kernel⟩, ⟨List.mem_of_getElem? (i := 1406) (by decide +kernel), by decide +kernel⟩⟩
theorem kmL_173 : inW (Cond.methodLink RL 173 yX11_copy) := ⟨List.mem_of_getElem? (i := 1404) (by decide +kernel), by decide +kernel⟩
theorem dL_law_1332 : decode cL_law 1332 = .ok (.aload_n 2, 1) := by decide +kernel
theorem dL_law_1333 : decode cL_law 1333 = .ok (.aload_n 0, 1) := by decide +kernel
theorem dL_law_1334 : decode cL_law 1334 = .ok (.iload_n 3, 1) := by decide +kernel
theorem dL_law_1335 : decode cL_law 1335 = .ok (.iconst 1, 1) := by decide +kernel
theorem dL_law_1336 : decode cL_law 1336 = .ok (.iadd, 1) := by decide +kernel
theorem dL_law_1337 : decode cL_law 1337 = .ok (.iaload, 1) := by decide +kernel
theorem dL_law_1338 : decode cL_law 1338 = .ok (.aload_n 0, 1) := by decide +kernel
theorem dL_law_1339 : decode cL_law 1339 = .ok (.iload_n 3, 1) := by decide +kernel
theorem dL_law_1340 : decode cL_law 1340 = .ok (.iconst 2, 1) := by decide +kernel
theorem dL_law_1341 : decode cL_law 1341 = .ok (.iadd, 1) := by decide +kernel
theorem dL_law_1342 : decode cL_law 1342 = .ok (.iaload, 1) := by decide +kernel
theorem dL_law_1343 : decode cL_law 1343 = .ok (.aload_n 0, 1) := by decide +kernel
theorem dL_law_1344 : decode cL_law 1344 = .ok (.iload_n 3, 1) := by decide +kernel
theorem dL_law_1345 : decode cL_law 1345 = .ok (.iconst 3, 1) := by decide +kernel
theorem dL_law_1346 : decode cL_law 1346 = .ok (.iadd, 1) := by decide +kernel
theorem dL_law_1347 : decode cL_law 1347 = .ok (.iaload, 1) := by decide +kernel
theorem dL_law_1348 : decode cL_law 1348 = .ok (.aload_n 0, 1) := by decide +kernel
theorem dL_law_1349 : decode cL_law 1349 = .ok (.iload_n 3, 1) := by decide +kernel
theorem dL_law_1350 : decode cL_law 1350 = .ok (.iconst 4, 1) := by decide +kernel
theorem dL_law_1351 : decode cL_law 1351 = .ok (.iadd, 1) := by decide +kernel
theorem dL_law_1352 : decode cL_law 1352 = .ok (.iaload, 1) := by decide +kernel
theorem dL_law_1353 : decode cL_law 1353 = .ok (.ifCond .eq 7, 3) := by decide +kernel
theorem dL_law_1360 : decode cL_law 1360 = .ok (.iconst 0, 1) := by decide +kernel
theorem dL_law_1361 : decode cL_law 1361 = .ok (.invokevirtual 177, 3) := by decide +kernel
theorem cw_X12_copy_ : CWv yX12_copy_ cX12_copy_ 10 (some .int) 4 := ⟨⟨⟨List.mem_of_getElem? (i := 137) (by decide +kernel), by decide +kernel⟩, ⟨List.mem_of_getElem? (i := 2029) (by decide +kernel), by decide +kernel⟩, by decide +kernel⟩, ⟨List.mem_of_getElem? (i := 2027) (by decide +kernel), by decide +kernel⟩, ⟨List.mem_of_getElem? (i := 2028) (by decide +kernel), by decide +kernel⟩⟩
theorem kmL_177 : inW (Cond.methodLink RL 177 yX12_copy_) := ⟨List.mem_of_getElem? (i := 2026) (by decide +kernel), by decide +kernel⟩
theorem dL_law_1364 : decode cL_law 1364 = .ok (.if_icmp .eq 162, 3) := by decide +kernel
theorem dL_law_1324 : decode cL_law 1324 = .ok (.iconst 1, 1) := by decide +kernel
theorem dL_law_1325 : decode cL_law 1325 = .ok (.goto 4, 3) := by decide +kernel
theorem dL_law_1356 : decode cL_law 1356 = .ok (.iconst 1, 1) := by decide +kernel
theorem dL_law_1357 : decode cL_law 1357 = .ok (.goto 4, 3) := by decide +kernel
theorem dL_law_1369 : decode cL_law 1369 = .ok (.aload_n 1, 1) := by decide +kernel
theorem dL_law_1370 : decode cL_law 1370 = .ok (.aload_n 0, 1) := by decide +kernel
theorem dL_law_1371 : decode cL_law 1371 = .ok (.iload_n 3, 1) := by decide +kernel
theorem dL_law_1372 : decode cL_law 1372 = .ok (.iconst 1, 1) := by decide +kernel
theorem dL_law_1373 : decode cL_law 1373 = .ok (.iadd, 1) := by decide +kernel
theorem dL_law_1374 : decode cL_law 1374 = .ok (.iaload, 1) := by decide +kernel
theorem dL_law_1375 : decode cL_law 1375 = .ok (.aload_n 0, 1) := by decide +kernel
theorem dL_law_1376 : decode cL_law 1376 = .ok (.iload_n 3, 1) := by decide +kernel
theorem dL_law_1377 : decode cL_law 1377 = .ok (.iconst 2, 1) := by decide +kernel
theorem dL_law_1378 : decode cL_law 1378 = .ok (.iadd, 1) := by decide +kernel
theorem dL_law_1379 : decode cL_law 1379 = .ok (.iaload, 1) := by decide +kernel
theorem dL_law_1380 : decode cL_law 1380 = .ok (.invokevirtual 178, 3) := by decide +kernel
theorem cw_X11_worn : CWv yX11_worn cX11_worn 3 (some .int) 2 := ⟨⟨⟨List.mem_of_getElem? (i := 124) (by decide +kernel), by decide +kernel⟩, ⟨List.mem_of_getElem? (i := 1413) (by decide +kernel), by decide +kernel⟩, by decide +kernel⟩, ⟨List.mem_of_getElem? (i := 1411) (by decide +kernel), by decide +kernel⟩, ⟨List.mem_of_getElem? (i := 1412) (by decide +kernel), by decide +kernel⟩⟩
theorem kmL_178 : inW (Cond.methodLink RL 178 yX11_worn) := ⟨List.mem_of_getElem? (i := 1410) (by decide +kernel), by decide +kernel⟩
theorem dL_law_1383 : decode cL_law 1383 = .ok (.aload_n 2, 1) := by decide +kernel
theorem dL_law_1384 : decode cL_law 1384 = .ok (.aload_n 0, 1) := by decide +kernel
theorem dL_law_1385 : decode cL_law 1385 = .ok (.iload_n 3, 1) := by decide +kernel
theorem dL_law_1386 : decode cL_law 1386 = .ok (.iconst 1, 1) := by decide +kernel
theorem dL_law_1387 : decode cL_law 1387 = .ok (.iadd, 1) := by decide +kernel
theorem dL_law_1388 : decode cL_law 1388 = .ok (.iaload, 1) := by decide +kernel
theorem dL_law_1389 : decode cL_law 1389 = .ok (.aload_n 0, 1) := by decide +kernel
theorem dL_law_1390 : decode cL_law 1390 = .ok (.iload_n 3, 1) := by decide +kernel
theorem dL_law_1391 : decode cL_law 1391 = .ok (.iconst 2, 1) := by decide +kernel
theorem dL_law_1392 : decode cL_law 1392 = .ok (.iadd, 1) := by decide +kernel
theorem dL_law_1393 : decode cL_law 1393 = .ok (.iaload, 1) := by decide +kernel
theorem dL_law_1394 : decode cL_law 1394 = .ok (.invokevirtual 181, 3) := by decide +kernel
theorem cw_X12_worn : CWv yX12_worn cX12_worn 3 (some .int) 2 := ⟨⟨⟨List.mem_of_getElem? (i := 137) (by decide +kernel), by decide +kernel⟩, ⟨List.mem_of_getElem? (i := 2138) (by decide +kernel), by decide +kernel⟩, by decide +kernel⟩, ⟨List.mem_of_getElem? (i := 2136) (by decide +kernel), by decide +kernel⟩, ⟨List.mem_of_getElem? (i := 2137) (by decide +kernel), by decide +kernel⟩⟩
theorem kmL_181 : inW (Cond.methodLink RL 181 yX12_worn) := ⟨List.mem_of_getElem? (i := 2135) (by decide +kernel), by decide +kernel⟩
theorem dL_law_1397 : decode cL_law 1397 = .ok (.if_icmp .eq 129, 3) := by decide +kernel
theorem dL_law_1402 : decode cL_law 1402 = .ok (.aload_n 1, 1) := by decide +kernel
theorem dL_law_1403 : decode cL_law 1403 = .ok (.invokevirtual 182, 3) := by decide +kernel
theorem cw_X11_whose : CWv yX11_whose cX11_whose 3 (some .int) 0 := ⟨⟨⟨List.mem_of_getElem? (i := 124) (by decide +kernel), by decide +kernel⟩, ⟨List.mem_of_getElem? (i := 1417) (by decide +kernel), by decide +kernel⟩, by decide +kernel⟩, ⟨List.mem_of_getElem? (i := 1415) (by decide +kernel), by decide +kernel⟩, ⟨List.mem_of_getElem? (i := 1416) (by decide +kernel), by decide +kernel⟩⟩
theorem kmL_182 : inW (Cond.methodLink RL 182 yX11_whose) := ⟨List.mem_of_getElem? (i := 1414) (by decide +kernel), by decide +kernel⟩
theorem dL_law_1406 : decode cL_law 1406 = .ok (.aload_n 2, 1) := by decide +kernel
theorem dL_law_1407 : decode cL_law 1407 = .ok (.invokevirtual 185, 3) := by decide +kernel
theorem cw_X12_whose : CWv yX12_whose cX12_whose 5 (some .int) 0 := ⟨⟨⟨List.mem_of_getElem? (i := 137) (by decide +kernel), by decide +kernel⟩, ⟨List.mem_of_getElem? (i := 2142) (by decide +kernel), by decide +kernel⟩, by decide +kernel⟩, ⟨List.mem_of_getElem? (i := 2140) (by decide +kernel), by decide +kernel⟩, ⟨List.mem_of_getElem? (i := 2141) (by decide +kernel), by decide +kernel⟩⟩
theorem kmL_185 : inW (Cond.methodLink RL 185 yX12_whose) := ⟨List.mem_of_getElem? (i := 2139) (by decide +kernel), by decide +kernel⟩
theorem dL_law_1410 : decode cL_law 1410 = .ok (.if_icmp .eq 116, 3) := by decide +kernel
theorem dL_law_1415 : decode cL_law 1415 = .ok (.aload_n 1, 1) := by decide +kernel
theorem dL_law_1416 : decode cL_law 1416 = .ok (.invokevirtual 186, 3) := by decide +kernel
theorem cw_X11_mostSworn : CWv yX11_mostSworn cX11_mostSworn 1 (some .int) 0 := ⟨⟨⟨List.mem_of_getElem? (i := 124) (by decide +kernel), by decide +kernel⟩, ⟨List.mem_of_getElem? (i := 1428) (by decide +kernel), by decide +kernel⟩, by decide +kernel⟩, ⟨List.mem_of_getElem? (i := 1426) (by decide +kernel), by decide +kernel⟩, ⟨List.mem_of_getElem? (i := 1427) (by decide +kernel), by decide +kernel⟩⟩
theorem kmL_186 : inW (Cond.methodLink RL 186 yX11_mostSworn) := ⟨List.mem_of_getElem? (i := 1425) (by decide +kernel), by decide +kernel⟩
theorem dL_law_1419 : decode cL_law 1419 = .ok (.aload_n 2, 1) := by decide +kernel
theorem dL_law_1420 : decode cL_law 1420 = .ok (.invokevirtual 189, 3) := by decide +kernel
theorem cw_X12_mostSworn : CWv yX12_mostSworn cX12_mostSworn 6 (some .int) 0 := ⟨⟨⟨List.mem_of_getElem? (i := 137) (by decide +kernel), by decide +kernel⟩, ⟨List.mem_of_getElem? (i := 1997) (by decide +kernel), by decide +kernel⟩, by decide +kernel⟩, ⟨List.mem_of_getElem? (i := 1995) (by decide +kernel), by decide +kernel⟩, ⟨List.mem_of_getElem? (i := 1996) (by decide +kernel), by decide +kernel⟩⟩
theorem kmL_189 : inW (Cond.methodLink RL 189 yX12_mostSworn) := ⟨List.mem_of_getElem? (i := 1994) (by decide +kernel), by decide +kernel⟩
theorem dL_law_1423 : decode cL_law 1423 = .ok (.if_icmp .eq 103, 3) := by decide +kernel
theorem dL_law_1428 : decode cL_law 1428 = .ok (.aload_n 1, 1) := by decide +kernel
theorem dL_law_1429 : decode cL_law 1429 = .ok (.invokevirtual 190, 3) := by decide +kernel
theorem cw_X11_faithful : CWv yX11_faithful cX11_faithful 1 (some .int) 0 := ⟨⟨⟨List.mem_of_getElem? (i := 124) (by decide +kernel), by decide +kernel⟩, ⟨List.mem_of_getElem? (i := 1440) (by decide +kernel), by decide +kernel⟩, by decide +kernel⟩, ⟨List.mem_of_getElem? (i := 1438) (by decide +kernel), by decide +kernel⟩, ⟨List.mem_of_getElem? (i := 1439) (by decide +kernel), by decide +kernel⟩⟩
theorem kmL_190 : inW (Cond.methodLink RL 190 yX11_faithful) := ⟨List.mem_of_getElem? (i := 1437) (by decide +kernel), by decide +kernel⟩
theorem dL_law_1432 : decode cL_law 1432 = .ok (.aload_n 2, 1) := by decide +kernel
theorem dL_law_1433 : decode cL_law 1433 = .ok (.invokevirtual 193, 3) := by decide +kernel
theorem cw_X12_faithful : CWv yX12_faithful cX12_faithful 3 (some .int) 0 := ⟨⟨⟨List.mem_of_getElem? (i := 137) (by decide +kernel), by decide +kernel⟩, ⟨List.mem_of_getElem? (i := 2001) (by decide +kernel), by decide +kernel⟩, by decide +kernel⟩, ⟨List.mem_of_getElem? (i := 1999) (by decide +kernel), by decide +kernel⟩, ⟨List.mem_of_getElem? (i := 2000) (by decide +kernel), by decide +kernel⟩⟩
theorem kmL_193 : inW (Cond.methodLink RL 193 yX12_faithful) := ⟨List.mem_of_getElem? (i := 1998) (by decide +kernel), by decide +kernel⟩
theorem dL_law_1436 : decode cL_law 1436 = .ok (.if_icmp .eq 90, 3) := by decide +kernel
theorem dL_law_1441 : decode cL_law 1441 = .ok (.aload_n 1, 1) := by decide +kernel
theorem dL_law_1442 : decode cL_law 1442 = .ok (.aload_n 0, 1) := by decide +kernel
theorem dL_law_1443 : decode cL_law 1443 = .ok (.iload_n 3, 1) := by decide +kernel
theorem dL_law_1444 : decode cL_law 1444 = .ok (.iconst 1, 1) := by decide +kernel
theorem dL_law_1445 : decode cL_law 1445 = .ok (.iadd, 1) := by decide +kernel
theorem dL_law_1446 : decode cL_law 1446 = .ok (.iaload, 1) := by decide +kernel
theorem dL_law_1447 : decode cL_law 1447 = .ok (.invokevirtual 194, 3) := by decide +kernel
theorem cw_X11_ached : CWv yX11_ached cX11_ached 2 (some .int) 1 := ⟨⟨⟨List.mem_of_getElem? (i := 124) (by decide +kernel), by decide +kernel⟩, ⟨List.mem_of_getElem? (i := 1448) (by decide +kernel), by decide +kernel⟩, by decide +kernel⟩, ⟨List.mem_of_getElem? (i := 1446) (by decide +kernel), by decide +kernel⟩, ⟨List.mem_of_getElem? (i := 1447) (by decide +kernel), by decide +kernel⟩⟩
theorem kmL_194 : inW (Cond.methodLink RL 194 yX11_ached) := ⟨List.mem_of_getElem? (i := 1445) (by decide +kernel), by decide +kernel⟩
theorem dL_law_1450 : decode cL_law 1450 = .ok (.aload_n 2, 1) := by decide +kernel
theorem dL_law_1451 : decode cL_law 1451 = .ok (.aload_n 0, 1) := by decide +kernel
theorem dL_law_1452 : decode cL_law 1452 = .ok (.iload_n 3, 1) := by decide +kernel
theorem dL_law_1453 : decode cL_law 1453 = .ok (.iconst 1, 1) := by decide +kernel
theorem dL_law_1454 : decode cL_law 1454 = .ok (.iadd, 1) := by decide +kernel
theorem dL_law_1455 : decode cL_law 1455 = .ok (.iaload, 1) := by decide +kernel
theorem dL_law_1456 : decode cL_law 1456 = .ok (.invokevirtual 197, 3) := by decide +kernel
theorem cw_X12_ached : CWv yX12_ached cX12_ached 4 (some .int) 1 := ⟨⟨⟨List.mem_of_getElem? (i := 137) (by decide +kernel), by decide +kernel⟩, ⟨List.mem_of_getElem? (i := 1989) (by decide +kernel), by decide +kernel⟩, by decide +kernel⟩, ⟨List.mem_of_getElem? (i := 1987) (by decide +kernel), by decide +kernel⟩, ⟨List.mem_of_getElem? (i := 1988) (by decide +kernel), by decide +kernel⟩⟩
theorem kmL_197 : inW (Cond.methodLink RL 197 yX12_ached) := ⟨List.mem_of_getElem? (i := 1986) (by decide +kernel), by decide +kernel⟩
theorem dL_law_1459 : decode cL_law 1459 = .ok (.if_icmp .eq 67, 3) := by decide +kernel
theorem dL_law_1464 : decode cL_law 1464 = .ok (.aload_n 1, 1) := by decide +kernel
theorem dL_law_1465 : decode cL_law 1465 = .ok (.invokevirtual 198, 3) := by decide +kernel
theorem cw_X11_worstDay : CWv yX11_worstDay cX11_worstDay 1 (some .int) 0 := ⟨⟨⟨List.mem_of_getElem? (i := 124) (by decide +kernel), by decide +kernel⟩, ⟨List.mem_of_getElem? (i := 1457) (by decide +kernel), by decide +kernel⟩, by decide +kernel⟩, ⟨List.mem_of_getElem? (i := 1455) (by decide +kernel), by decide +kernel⟩, ⟨List.mem_of_getElem? (i := 1456) (by decide +kernel), by decide +kernel⟩⟩
theorem kmL_198 : inW (Cond.methodLink RL 198 yX11_worstDay) := ⟨List.mem_of_getElem? (i := 1454) (by decide +kernel), by decide +kernel⟩
theorem dL_law_1468 : decode cL_law 1468 = .ok (.aload_n 2, 1) := by decide +kernel
theorem dL_law_1469 : decode cL_law 1469 = .ok (.invokevirtual 201, 3) := by decide +kernel
theorem cw_X12_worstDay : CWv yX12_worstDay cX12_worstDay 3 (some .int) 0 := ⟨⟨⟨List.mem_of_getElem? (i := 137) (by decide +kernel), by decide +kernel⟩, ⟨List.mem_of_getElem? (i := 1993) (by decide +kernel), by decide +kernel⟩, by decide +kernel⟩, ⟨List.mem_of_getElem? (i := 1991) (by decide +kernel), by decide +kernel⟩, ⟨List.mem_of_getElem? (i := 1992) (by decide +kernel), by decide +kernel⟩⟩
theorem kmL_201 : inW (Cond.methodLink RL 201 yX12_worstDay) := ⟨List.mem_of_getElem? (i := 1990) (by decide +kernel), by decide +kernel⟩
theorem dL_law_1472 : decode cL_law 1472 = .ok (.if_icmp .eq 54, 3) := by decide +kernel
theorem dL_law_1477 : decode cL_law 1477 = .ok (.aload_n 1, 1) := by decide +kernel
theorem dL_law_1478 : decode cL_law 1478 = .ok (.invokevirtual 202, 3) := by decide +kernel
theorem cw_X11_image : CWv yX11_image cX11_image 1 (some .int) 0 := ⟨⟨⟨List.mem_of_getElem? (i := 124) (by decide +kernel), by decide +kernel⟩, ⟨List.mem_of_getElem? (i := 1465) (by decide +kernel), by decide +kernel⟩, by decide +kernel⟩, ⟨List.mem_of_getElem? (i := 1463) (by decide +kernel), by decide +kernel⟩, ⟨List.mem_of_getElem? (i := 1464) (by decide +kernel), by decide +kernel⟩⟩
theorem kmL_202 : inW (Cond.methodLink RL 202 yX11_image) := ⟨List.mem_of_getElem? (i := 1462) (by decide +kernel), by decide +kernel⟩
theorem dL_law_1481 : decode cL_law 1481 = .ok (.aload_n 2, 1) := by decide +kernel
theorem dL_law_1482 : decode cL_law 1482 = .ok (.invokevirtual 205, 3) := by decide +kernel
theorem cw_X12_image : CWv yX12_image cX12_image 1 (some .int) 0 := ⟨⟨⟨List.mem_of_getElem? (i := 137) (by decide +kernel), by decide +kernel⟩, ⟨List.mem_of_getElem? (i := 2146) (by decide +kernel), by decide +kernel⟩, by decide +kernel⟩, ⟨List.mem_of_getElem? (i := 2144) (by decide +kernel), by decide +kernel⟩, ⟨List.mem_of_getElem? (i := 2145) (by decide +kernel), by decide +kernel⟩⟩
theorem kmL_205 : inW (Cond.methodLink RL 205 yX12_image) := ⟨List.mem_of_getElem? (i := 2143) (by decide +kernel), by decide +kernel⟩
theorem dL_law_1485 : decode cL_law 1485 = .ok (.if_icmp .eq 41, 3) := by decide +kernel
theorem dL_law_1490 : decode cL_law 1490 = .ok (.aload_n 1, 1) := by decide +kernel
theorem dL_law_1491 : decode cL_law 1491 = .ok (.invokevirtual 206, 3) := by decide +kernel
theorem cw_X11_back : CWv yX11_back cX11_back 1 (some .int) 0 := ⟨⟨⟨List.mem_of_getElem? (i := 124) (by decide +kernel), by decide +kernel⟩, ⟨List.mem_of_getElem? (i := 1484) (by decide +kernel), by decide +kernel⟩, by decide +kernel⟩, ⟨List.mem_of_getElem? (i := 1482) (by decide +kernel), by decide +kernel⟩, ⟨List.mem_of_getElem? (i := 1483) (by decide +kernel), by decide +kernel⟩⟩
theorem kmL_206 : inW (Cond.methodLink RL 206 yX11_back) := ⟨List.mem_of_getElem? (i := 1481) (by decide +kernel), by decide +kernel⟩
theorem dL_law_1494 : decode cL_law 1494 = .ok (.aload_n 2, 1) := by decide +kernel
theorem dL_law_1495 : decode cL_law 1495 = .ok (.invokevirtual 209, 3) := by decide +kernel
theorem cw_X12_back : CWv yX12_back cX12_back 1 (some .int) 0 := ⟨⟨⟨List.mem_of_getElem? (i := 137) (by decide +kernel), by decide +kernel⟩, ⟨List.mem_of_getElem? (i := 2150) (by decide +kernel), by decide +kernel⟩, by decide +kernel⟩, ⟨List.mem_of_getElem? (i := 2148) (by decide +kernel), by decide +kernel⟩, ⟨List.mem_of_getElem? (i := 2149) (by decide +kernel), by decide +kernel⟩⟩
theorem kmL_209 : inW (Cond.methodLink RL 209 yX12_back) := ⟨List.mem_of_getElem? (i := 2147) (by decide +kernel), by decide +kernel⟩
theorem dL_law_1498 : decode cL_law 1498 = .ok (.if_icmp .eq 28, 3) := by decide +kernel
theorem dL_law_1503 : decode cL_law 1503 = .ok (.aload_n 1, 1) := by decide +kernel
theorem dL_law_1504 : decode cL_law 1504 = .ok (.aload_n 0, 1) := by decide +kernel
theorem dL_law_1505 : decode cL_law 1505 = .ok (.iload_n 3, 1) := by decide +kernel
theorem dL_law_1506 : decode cL_law 1506 = .ok (.iconst 1, 1) := by decide +kernel
theorem dL_law_1507 : decode cL_law 1507 = .ok (.iadd, 1) := by decide +kernel
theorem dL_law_1508 : decode cL_law 1508 = .ok (.iaload, 1) := by decide +kernel
theorem dL_law_1509 : decode cL_law 1509 = .ok (.invokevirtual 210, 3) := by decide +kernel
theorem cw_X11_about : CWv yX11_about cX11_about 2 (some .int) 1 := ⟨⟨⟨List.mem_of_getElem? (i := 124) (by decide +kernel), by decide +kernel⟩, ⟨List.mem_of_getElem? (i := 1488) (by decide +kernel), by decide +kernel⟩, by decide +kernel⟩, ⟨List.mem_of_getElem? (i := 1486) (by decide +kernel), by decide +kernel⟩, ⟨List.mem_of_getElem? (i := 1487) (by decide +kernel), by decide +kernel⟩⟩
theorem kmL_210 : inW (Cond.methodLink RL 210 yX11_about) := ⟨List.mem_of_getElem? (i := 1485) (by decide +kernel), by decide +kernel⟩
theorem dL_law_1512 : decode cL_law 1512 = .ok (.aload_n 2, 1) := by decide +kernel
theorem dL_law_1513 : decode cL_law 1513 = .ok (.aload_n 0, 1) := by decide +kernel
theorem dL_law_1514 : decode cL_law 1514 = .ok (.iload_n 3, 1) := by decide +kernel
theorem dL_law_1515 : decode cL_law 1515 = .ok (.iconst 1, 1) := by decide +kernel
theorem dL_law_1516 : decode cL_law 1516 = .ok (.iadd, 1) := by decide +kernel
theorem dL_law_1517 : decode cL_law 1517 = .ok (.iaload, 1) := by decide +kernel
theorem dL_law_1518 : decode cL_law 1518 = .ok (.invokevirtual 213, 3) := by decide +kernel
theorem cw_X12_about : CWv yX12_about cX12_about 2 (some .int) 1 := ⟨⟨⟨List.mem_of_getElem? (i := 137) (by decide +kernel), by decide +kernel⟩, ⟨List.mem_of_getElem? (i := 2154) (by decide +kernel), by decide +kernel⟩, by decide +kernel⟩, ⟨List.mem_of_getElem? (i := 2152) (by decide +kernel), by decide +kernel⟩, ⟨List.mem_of_getElem? (i := 2153) (by decide +kernel), by decide +kernel⟩⟩
theorem kmL_213 : inW (Cond.methodLink RL 213 yX12_about) := ⟨List.mem_of_getElem? (i := 2151) (by decide +kernel), by decide +kernel⟩
theorem dL_law_1521 : decode cL_law 1521 = .ok (.if_icmp .eq 5, 3) := by decide +kernel
set_option maxHeartbeats 4000000 in
set_option maxRecDepth 100000 in
theorem law_0 {p : Program} {e : Env} {s : State} {m : MethodId} {below : List Frame} {meth : Method} {c : Code} (l : Launch) {b : Nat} {xs : Nat → Int32} (C0 : lw_At p s m meth c b 6 xs) {G : GG} {A : Nat → Prop} (hAe : A = (fun q : Nat => s.heap.size ≤ q)) (S : SX G A p s m meth c RL code 4 ret) {Lx Lm : List Nat} {fx fm : HF} {H : Heap} {locs : List Loc} {ls : Array Slot} {xo xm w ta ag sc nw pa fe cl wo si we k rd jd rg dd fo su ch m_a m_im m_te m_tp m_pi m_co m_na m_vl m_tr m_ac m_as_ m_su m_wi_ m_se : Nat} (p_xo : pt Lx fx xo (.inr (11, [.ref w, .ref k, .ref rd, .ref jd, .ref rg, .ref dd, .ref fo, .ref su, .ref ch]))) (p_w : pt Lx fx w (.inr (10, [.ref ta, .ref ag, .ref sc, .ref nw, .ref pa, .ref fe, .ref cl, .ref wo, .ref si, .ref we, .int 0, .int 0, .int (-1), .int 0, .int 0]))) (p_ta : pt Lx fx ta (.inl (G.2 0, 6, .inl (fun _ => 0)))) (p_ag : pt Lx fx ag (.inl (G.2 0, 6, .inl (fun _ => 0)))) (p_xm : pt Lm fm xm (.inr (12, [.ref m_a, .ref m_im, .ref m_te, .ref m_tp, .int 0, .int (-1), .int (-1), .int 0, .int 0, .int 0, .int 0, .long 0, .int 0, .int 0, .int 0, .ref m_pi, .ref m_co, .int 0, .int 0, .int 0, .int 0, .int 0, .ref m_na, .ref m_vl, .ref m_tr, .int 1, .ref m_ac, .ref m_as_, .ref m_su, .ref m_wi_, .int 0, .ref m_se]))) (p_m_a : pt Lm fm m_a (.inl (G.2 0, 10568, .inl a0))) (n1 : ta ≠ ag) (Y : DY G A s (va_pl Lx fx) Lm fm H locs) (hl : lv_has ls 4 [(3, .int 0), (2, .ref xm), (1, .ref xo), (0, .ref b)]) (tail : ∀ (H : Heap) (locs : List Loc) (ls : Array Slot), va_S A s.heap H locs → lv_has ls 4 [(3, .int 6), (0, .ref b)] → W p l e room_1 s m #[Value.ref b] below meth c H locs 1000 60000 (lw_Z below #[Value.ref b] s) (F0 m 18 ls [])) : W p l e room_1 s m #[Value.ref b] below meth c H locs 1000 60000 (lw_Z below #[Value.ref b] s) (F0 m 33 ls [.int 0]) := by
  obtain ⟨hx, hb, hr, hml, hown, hts, hX, hbl, hlocks, hgv⟩ := id C0
  have hbA : ¬ A b := by rw [hAe]; exact Nat.not_le.mpr hbl
  refine lv_tableIn (off := 207) (tgt := 240) hx hb dL_law_33 (by decide) (by decide) (by decide) (by decide) ?_
  refine lv_aload_n hx hb dL_law_240 rfl (lv_at hl 2 rfl) ?_
  refine lv_aload_n hx hb dL_law_241 rfl (lv_at hl 3 rfl) ?_
  refine lv_iload_n hx hb dL_law_242 rfl (lv_at hl 0 rfl) ?_
  refine lv_iconst (v := 1) hx hb dL_law_243 (by decide) ?_
  refine lv_iadd hx hb dL_law_244 ?_
  refine lv_fold (z := 1) (by decide) ?_
  refine va_sld hx hb hX hbl hbA Y.2.2 (by unfold vp_in; decide) dL_law_245 ?_
  refine lv_fold (z := xs 1) rfl ?_
  refine lv_aload_n hx hb dL_law_246 rfl (lv_at hl 3 rfl) ?_
  refine lv_iload_n hx hb dL_law_247 rfl (lv_at hl 0 rfl) ?_
  refine lv_iconst (v := 2) hx hb dL_law_248 (by decide) ?_
  refine lv_iadd hx hb dL_law_249 ?_
  refine lv_fold (z := 2) (by decide) ?_
  refine va_sld hx hb hX hbl hbA Y.2.2 (by unfold vp_in; decide) dL_law_250 ?_
  refine lv_fold (z := xs 2) rfl ?_
  have Y := Y.swap
  refine cVi (As := [.int (xs 1), .int (xs 2)]) (rest := []) S Y (c_X11_one (l := l) p_xo p_w p_ta p_ag (n1)) cw_X11_one kmL_13 p_xo ok_X11.1 rfl rfl ⟨Nat.le_of_ble_eq_true rfl, Nat.le_of_ble_eq_true rfl⟩ hl.1 rfl (Nat.le_of_ble_eq_true rfl) ⟨Nat.le_of_ble_eq_true rfl, Nat.le_of_ble_eq_true rfl⟩ dL_law_251 (fun r_1537 L_1538 f_1539 H locs hf_1539 Y => ?_)
  have Y := Y.swap
  refine lv_aload_n hx hb dL_law_254 rfl (lv_at hl 1 rfl) ?_
  refine lv_aload_n hx hb dL_law_255 rfl (lv_at hl 3 rfl) ?_
  refine lv_iload_n hx hb dL_law_256 rfl (lv_at hl 0 rfl) ?_
  refine lv_iconst (v := 1) hx hb dL_law_257 (by decide) ?_
  refine lv_iadd hx hb dL_law_258 ?_
  refine lv_fold (z := 1) (by decide) ?_
  refine va_sld hx hb hX hbl hbA Y.2.2 (by unfold vp_in; decide) dL_law_259 ?_
  refine lv_fold (z := xs 1) rfl ?_
  refine lv_aload_n hx hb dL_law_260 rfl (lv_at hl 3 rfl) ?_
  refine lv_iload_n hx hb dL_law_261 rfl (lv_at hl 0 rfl) ?_
  refine lv_iconst (v := 2) hx hb dL_law_262 (by decide) ?_
  refine lv_iadd hx hb dL_law_263 ?_
  refine lv_fold (z := 2) (by decide) ?_
  refine va_sld hx hb hX hbl hbA Y.2.2 (by unfold vp_in; decide) dL_law_264 ?_
  refine lv_fold (z := xs 2) rfl ?_
  refine cVi (As := [.int (xs 1), .int (xs 2)]) (rest := [.int r_1537]) S Y (c_X12_one (l := l) p_xm p_m_a) cw_X12_one kmL_17 p_xm ok_X12.1 rfl rfl ⟨Nat.le_of_ble_eq_true rfl, Nat.le_of_ble_eq_true rfl⟩ hl.1 rfl (Nat.le_of_ble_eq_true rfl) ⟨Nat.le_of_ble_eq_true rfl, Nat.le_of_ble_eq_true rfl⟩ dL_law_265 (fun r_1540 L_1541 f_1542 H locs hf_1542 Y => ?_)
  refine lv_icmp_eq (tgt := 1526) hx hb dL_law_268 (by decide) (fun _ => ?_) (fun h => absurd (hf_1539.trans hf_1542.symm) h)
  refine lv_iinc (v := 6) (lv' := [(3, .int 6), (2, .ref xm), (1, .ref xo), (0, .ref b)]) hx hb dL_law_1526 hl (k := 0) rfl (by decide) (by decide) rfl (fun ls hl => ?_)
  refine lv_goto (tgt := 18) hx hb dL_law_1529 (by decide) ?_
  exact tail _ _ _ Y.2.2 (lv_sub hl [0, 3] rfl)
set_option maxHeartbeats 4000000 in
set_option maxRecDepth 100000 in
theorem law_1 {p : Program} {e : Env} {s : State} {m : MethodId} {below : List Frame} {meth : Method} {c : Code} (l : Launch) {b : Nat} {xs : Nat → Int32} (C0 : lw_At p s m meth c b 6 xs) {G : GG} {A : Nat → Prop} (hAe : A = (fun q : Nat => s.heap.size ≤ q)) (S : SX G A p s m meth c RL code 4 ret) {Lx Lm : List Nat} {fx fm : HF} {H : Heap} {locs : List Loc} {ls : Array Slot} {xo xm w k rd tp ki pl va jd rg dd fo su ch m_a m_im m_te m_tp m_pi m_co m_na m_vl m_tr m_ac m_as_ m_su m_wi_ m_se : Nat} (p_xo : pt Lx fx xo (.inr (11, [.ref w, .ref k, .ref rd, .ref jd, .ref rg, .ref dd, .ref fo, .ref su, .ref ch]))) (p_rd : pt Lx fx rd (.inr (5, [.ref tp, .ref ki, .ref pl, .ref va, .int 0, .int 0, .int 0, .int 0, .int 0, .int 0, .int 0, .null, .int (-1), .int (-1)]))) (p_tp : pt Lx fx tp (.inl (G.2 0, 300, .inl (fun _ => 0)))) (p_xm : pt Lm fm xm (.inr (12, [.ref m_a, .ref m_im, .ref m_te, .ref m_tp, .int 0, .int (-1), .int (-1), .int 0, .int 0, .int 0, .int 0, .long 0, .int 0, .int 0, .int 0, .ref m_pi, .ref m_co, .int 0, .int 0, .int 0, .int 0, .int 0, .ref m_na, .ref m_vl, .ref m_tr, .int 1, .ref m_ac, .ref m_as_, .ref m_su, .ref m_wi_, .int 0, .ref m_se]))) (p_m_tp : pt Lm fm m_tp (.inl (G.2 0, 300, .inl (fun _ => 0)))) (Y : DY G A s (va_pl Lx fx) Lm fm H locs) (hl : lv_has ls 4 [(3, .int 0), (2, .ref xm), (1, .ref xo), (0, .ref b)]) (tail : ∀ (H : Heap) (locs : List Loc) (ls : Array Slot), va_S A s.heap H locs → lv_has ls 4 [(3, .int 6), (0, .ref b)] → W p l e room_1 s m #[Value.ref b] below meth c H locs 1000 60000 (lw_Z below #[Value.ref b] s) (F0 m 18 ls [])) : W p l e room_1 s m #[Value.ref b] below meth c H locs 1000 60000 (lw_Z below #[Value.ref b] s) (F0 m 33 ls [.int 1]) := by
  obtain ⟨hx, hb, hr, hml, hown, hts, hX, hbl, hlocks, hgv⟩ := id C0
  have hbA : ¬ A b := by rw [hAe]; exact Nat.not_le.mpr hbl
  refine lv_tableIn (off := 240) (tgt := 273) hx hb dL_law_33 (by decide) (by decide) (by decide) (by decide) ?_
  refine lv_aload_n hx hb dL_law_273 rfl (lv_at hl 2 rfl) ?_
  refine lv_aload_n hx hb dL_law_274 rfl (lv_at hl 3 rfl) ?_
  refine lv_iload_n hx hb dL_law_275 rfl (lv_at hl 0 rfl) ?_
  refine lv_iconst (v := 1) hx hb dL_law_276 (by decide) ?_
  refine lv_iadd hx hb dL_law_277 ?_
  refine lv_fold (z := 1) (by decide) ?_
  refine va_sld hx hb hX hbl hbA Y.2.2 (by unfold vp_in; decide) dL_law_278 ?_
  refine lv_fold (z := xs 1) rfl ?_
  refine lv_aload_n hx hb dL_law_279 rfl (lv_at hl 3 rfl) ?_
  refine lv_iload_n hx hb dL_law_280 rfl (lv_at hl 0 rfl) ?_
  refine lv_iconst (v := 2) hx hb dL_law_281 (by decide) ?_
  refine lv_iadd hx hb dL_law_282 ?_
  refine lv_fold (z := 2) (by decide) ?_
  refine va_sld hx hb hX hbl hbA Y.2.2 (by unfold vp_in; decide) dL_law_283 ?_
  refine lv_fold (z := xs 2) rfl ?_
  refine lv_aload_n hx hb dL_law_284 rfl (lv_at hl 3 rfl) ?_
  refine lv_iload_n hx hb dL_law_285 rfl (lv_at hl 0 rfl) ?_
  refine lv_iconst (v := 3) hx hb dL_law_286 (by decide) ?_
  refine lv_iadd hx hb dL_law_287 ?_
  refine lv_fold (z := 3) (by decide) ?_
  refine va_sld hx hb hX hbl hbA Y.2.2 (by unfold vp_in; decide) dL_law_288 ?_
  refine lv_fold (z := xs 3) rfl ?_
  refine lv_aload_n hx hb dL_law_289 rfl (lv_at hl 3 rfl) ?_
  refine lv_iload_n hx hb dL_law_290 rfl (lv_at hl 0 rfl) ?_
  refine lv_iconst (v := 4) hx hb dL_law_291 (by decide) ?_
  refine lv_iadd hx hb dL_law_292 ?_
  refine lv_fold (z := 4) (by decide) ?_
  refine va_sld hx hb hX hbl hbA Y.2.2 (by unfold vp_in; decide) dL_law_293 ?_
  refine lv_fold (z := xs 4) rfl ?_
  refine lv_aload_n hx hb dL_law_294 rfl (lv_at hl 3 rfl) ?_
  refine lv_iload_n hx hb dL_law_295 rfl (lv_at hl 0 rfl) ?_
  refine lv_iconst (v := 5) hx hb dL_law_296 (by decide) ?_
  refine lv_iadd hx hb dL_law_297 ?_
  refine lv_fold (z := 5) (by decide) ?_
  refine va_sld hx hb hX hbl hbA Y.2.2 (by unfold vp_in; decide) dL_law_298 ?_
  refine lv_fold (z := xs 5) rfl ?_
  have Y := Y.swap
  refine cVi (As := [.int (xs 1), .int (xs 2), .int (xs 3), .int (xs 4), .int (xs 5)]) (rest := []) S Y (c_X11_feed (l := l) p_xo p_rd p_tp) cw_X11_feed kmL_18 p_xo ok_X11.1 rfl rfl ⟨Nat.le_of_ble_eq_true rfl, Nat.le_of_ble_eq_true rfl⟩ hl.1 rfl (Nat.le_of_ble_eq_true rfl) ⟨Nat.le_of_ble_eq_true rfl, Nat.le_of_ble_eq_true rfl⟩ dL_law_299 (fun r_1543 L_1544 f_1545 H locs hf_1545 Y => ?_)
  refine lv_fold (z := 20) hf_1545 ?_
  have Y := Y.swap
  refine lv_aload_n hx hb dL_law_302 rfl (lv_at hl 1 rfl) ?_
  refine lv_aload_n hx hb dL_law_303 rfl (lv_at hl 3 rfl) ?_
  refine lv_iload_n hx hb dL_law_304 rfl (lv_at hl 0 rfl) ?_
  refine lv_iconst (v := 1) hx hb dL_law_305 (by decide) ?_
  refine lv_iadd hx hb dL_law_306 ?_
  refine lv_fold (z := 1) (by decide) ?_
  refine va_sld hx hb hX hbl hbA Y.2.2 (by unfold vp_in; decide) dL_law_307 ?_
  refine lv_fold (z := xs 1) rfl ?_
  refine lv_aload_n hx hb dL_law_308 rfl (lv_at hl 3 rfl) ?_
  refine lv_iload_n hx hb dL_law_309 rfl (lv_at hl 0 rfl) ?_
  refine lv_iconst (v := 2) hx hb dL_law_310 (by decide) ?_
  refine lv_iadd hx hb dL_law_311 ?_
  refine lv_fold (z := 2) (by decide) ?_
  refine va_sld hx hb hX hbl hbA Y.2.2 (by unfold vp_in; decide) dL_law_312 ?_
  refine lv_fold (z := xs 2) rfl ?_
  refine lv_aload_n hx hb dL_law_313 rfl (lv_at hl 3 rfl) ?_
  refine lv_iload_n hx hb dL_law_314 rfl (lv_at hl 0 rfl) ?_
  refine lv_iconst (v := 3) hx hb dL_law_315 (by decide) ?_
  refine lv_iadd hx hb dL_law_316 ?_
  refine lv_fold (z := 3) (by decide) ?_
  refine va_sld hx hb hX hbl hbA Y.2.2 (by unfold vp_in; decide) dL_law_317 ?_
  refine lv_fold (z := xs 3) rfl ?_
  refine lv_aload_n hx hb dL_law_318 rfl (lv_at hl 3 rfl) ?_
  refine lv_iload_n hx hb dL_law_319 rfl (lv_at hl 0 rfl) ?_
  refine lv_iconst (v := 4) hx hb dL_law_320 (by decide) ?_
  refine lv_iadd hx hb dL_law_321 ?_
  refine lv_fold (z := 4) (by decide) ?_
  refine va_sld hx hb hX hbl hbA Y.2.2 (by unfold vp_in; decide) dL_law_322 ?_
  refine lv_fold (z := xs 4) rfl ?_
  refine lv_aload_n hx hb dL_law_323 rfl (lv_at hl 3 rfl) ?_
  refine lv_iload_n hx hb dL_law_324 rfl (lv_at hl 0 rfl) ?_
  refine lv_iconst (v := 5) hx hb dL_law_325 (by decide) ?_
  refine lv_iadd hx hb dL_law_326 ?_
  refine lv_fold (z := 5) (by decide) ?_
  refine va_sld hx hb hX hbl hbA Y.2.2 (by unfold vp_in; decide) dL_law_327 ?_
  refine lv_fold (z := xs 5) rfl ?_
  refine cVi (As := [.int (xs 1), .int (xs 2), .int (xs 3), .int (xs 4), .int (xs 5)]) (rest := [.int 20]) S Y (c_X12_feed (l := l) p_xm p_m_tp) cw_X12_feed kmL_22 p_xm ok_X12.1 rfl rfl ⟨Nat.le_of_ble_eq_true rfl, Nat.le_of_ble_eq_true rfl⟩ hl.1 rfl (Nat.le_of_ble_eq_true rfl) ⟨Nat.le_of_ble_eq_true rfl, Nat.le_of_ble_eq_true rfl⟩ dL_law_328 (fun r_1546 L_1547 f_1548 H locs hf_1548 Y => ?_)
  refine lv_fold (z := 20) hf_1548 ?_
  refine lv_icmp_eq (tgt := 1526) hx hb dL_law_331 (by decide) (fun _ => ?_) (fun h => absurd (by decide) h)
  refine lv_iinc (v := 6) (lv' := [(3, .int 6), (2, .ref xm), (1, .ref xo), (0, .ref b)]) hx hb dL_law_1526 hl (k := 0) rfl (by decide) (by decide) rfl (fun ls hl => ?_)
  refine lv_goto (tgt := 18) hx hb dL_law_1529 (by decide) ?_
  exact tail _ _ _ Y.2.2 (lv_sub hl [0, 3] rfl)
set_option maxHeartbeats 4000000 in
set_option maxRecDepth 100000 in
theorem law_2 {p : Program} {e : Env} {s : State} {m : MethodId} {below : List Frame} {meth : Method} {c : Code} (l : Launch) {b : Nat} {xs : Nat → Int32} (C0 : lw_At p s m meth c b 6 xs) {G : GG} {A : Nat → Prop} (hAe : A = (fun q : Nat => s.heap.size ≤ q)) (S : SX G A p s m meth c RL code 4 ret) {Lx Lm : List Nat} {fx fm : HF} {H : Heap} {locs : List Loc} {ls : Array Slot} {xo xm w ta ag sc nw pa fe cl wo si we k rd tp ki pl va jd rg dd fo su ch m_a m_im m_te m_tp m_pi m_co m_na m_vl m_tr m_ac m_as_ m_su m_wi_ m_se : Nat} (p_xo : pt Lx fx xo (.inr (11, [.ref w, .ref k, .ref rd, .ref jd, .ref rg, .ref dd, .ref fo, .ref su, .ref ch]))) (p_w : pt Lx fx w (.inr (10, [.ref ta, .ref ag, .ref sc, .ref nw, .ref pa, .ref fe, .ref cl, .ref wo, .ref si, .ref we, .int 0, .int 0, .int (-1), .int 0, .int 0]))) (p_rd : pt Lx fx rd (.inr (5, [.ref tp, .ref ki, .ref pl, .ref va, .int 0, .int 0, .int 0, .int 0, .int 0, .int 0, .int 0, .null, .int (-1), .int (-1)]))) (p_xm : pt Lm fm xm (.inr (12, [.ref m_a, .ref m_im, .ref m_te, .ref m_tp, .int 0, .int (-1), .int (-1), .int 0, .int 0, .int 0, .int 0, .long 0, .int 0, .int 0, .int 0, .ref m_pi, .ref m_co, .int 0, .int 0, .int 0, .int 0, .int 0, .ref m_na, .ref m_vl, .ref m_tr, .int 1, .ref m_ac, .ref m_as_, .ref m_su, .ref m_wi_, .int 0, .ref m_se]))) (Y : DY G A s (va_pl Lx fx) Lm fm H locs) (hl : lv_has ls 4 [(3, .int 0), (2, .ref xm), (1, .ref xo), (0, .ref b)]) (tail : ∀ (H : Heap) (locs : List Loc) (ls : Array Slot), va_S A s.heap H locs → lv_has ls 4 [(3, .int 6), (0, .ref b)] → W p l e room_1 s m #[Value.ref b] below meth c H locs 1000 60000 (lw_Z below #[Value.ref b] s) (F0 m 18 ls [])) : W p l e room_1 s m #[Value.ref b] below meth c H locs 1000 60000 (lw_Z below #[Value.ref b] s) (F0 m 33 ls [.int 2]) := by
  obtain ⟨hx, hb, hr, hml, hown, hts, hX, hbl, hlocks, hgv⟩ := id C0
  have hbA : ¬ A b := by rw [hAe]; exact Nat.not_le.mpr hbl
  refine lv_tableIn (off := 303) (tgt := 336) hx hb dL_law_33 (by decide) (by decide) (by decide) (by decide) ?_
  refine lv_aload_n hx hb dL_law_336 rfl (lv_at hl 2 rfl) ?_
  refine lv_aload_n hx hb dL_law_337 rfl (lv_at hl 3 rfl) ?_
  refine lv_iload_n hx hb dL_law_338 rfl (lv_at hl 0 rfl) ?_
  refine lv_iconst (v := 1) hx hb dL_law_339 (by decide) ?_
  refine lv_iadd hx hb dL_law_340 ?_
  refine lv_fold (z := 1) (by decide) ?_
  refine va_sld hx hb hX hbl hbA Y.2.2 (by unfold vp_in; decide) dL_law_341 ?_
  refine lv_fold (z := xs 1) rfl ?_
  have Y := Y.swap
  refine cVi (As := [.int (xs 1)]) (rest := []) S Y (c_X11_end (l := l) p_xo p_w p_rd) cw_X11_end kmL_23 p_xo ok_X11.1 rfl rfl ⟨Nat.le_of_ble_eq_true rfl, Nat.le_of_ble_eq_true rfl⟩ hl.1 rfl (Nat.le_of_ble_eq_true rfl) ⟨Nat.le_of_ble_eq_true rfl, Nat.le_of_ble_eq_true rfl⟩ dL_law_342 (fun r_1549 L_1550 f_1551 H locs hf_1551 Y => ?_)
  have Y := Y.swap
  refine lv_aload_n hx hb dL_law_345 rfl (lv_at hl 1 rfl) ?_
  refine lv_aload_n hx hb dL_law_346 rfl (lv_at hl 3 rfl) ?_
  refine lv_iload_n hx hb dL_law_347 rfl (lv_at hl 0 rfl) ?_
  refine lv_iconst (v := 1) hx hb dL_law_348 (by decide) ?_
  refine lv_iadd hx hb dL_law_349 ?_
  refine lv_fold (z := 1) (by decide) ?_
  refine va_sld hx hb hX hbl hbA Y.2.2 (by unfold vp_in; decide) dL_law_350 ?_
  refine lv_fold (z := xs 1) rfl ?_
  refine cVi (As := [.int (xs 1)]) (rest := [.int r_1549]) S Y (c_X12_end (l := l) p_xm) cw_X12_end kmL_27 p_xm ok_X12.1 rfl rfl ⟨Nat.le_of_ble_eq_true rfl, Nat.le_of_ble_eq_true rfl⟩ hl.1 rfl (Nat.le_of_ble_eq_true rfl) ⟨Nat.le_of_ble_eq_true rfl, Nat.le_of_ble_eq_true rfl⟩ dL_law_351 (fun r_1552 L_1553 f_1554 H locs hf_1554 Y => ?_)
  refine lv_icmp_eq (tgt := 1526) hx hb dL_law_354 (by decide) (fun _ => ?_) (fun h => absurd (hf_1551.trans hf_1554.symm) h)
  refine lv_iinc (v := 6) (lv' := [(3, .int 6), (2, .ref xm), (1, .ref xo), (0, .ref b)]) hx hb dL_law_1526 hl (k := 0) rfl (by decide) (by decide) rfl (fun ls hl => ?_)
  refine lv_goto (tgt := 18) hx hb dL_law_1529 (by decide) ?_
  exact tail _ _ _ Y.2.2 (lv_sub hl [0, 3] rfl)
set_option maxHeartbeats 4000000 in
set_option maxRecDepth 100000 in
theorem law_3 {p : Program} {e : Env} {s : State} {m : MethodId} {below : List Frame} {meth : Method} {c : Code} (l : Launch) {b : Nat} {xs : Nat → Int32} (C0 : lw_At p s m meth c b 6 xs) {G : GG} {A : Nat → Prop} (hAe : A = (fun q : Nat => s.heap.size ≤ q)) (S : SX G A p s m meth c RL code 4 ret) {Lx Lm : List Nat} {fx fm : HF} {H : Heap} {locs : List Loc} {ls : Array Slot} {xo xm w ta ag sc nw pa fe cl wo si we s0 dg nu lf lt cs k rd tp ki pl va jd rg dd fo su ch m_a m_im m_te m_tp m_pi m_co m_na m_vl m_tr m_ac m_as_ m_su m_wi_ m_se : Nat} {sf : Nat → Option Nat} (p_xo : pt Lx fx xo (.inr (11, [.ref w, .ref k, .ref rd, .ref jd, .ref rg, .ref dd, .ref fo, .ref su, .ref ch]))) (p_w : pt Lx fx w (.inr (10, [.ref ta, .ref ag, .ref sc, .ref nw, .ref pa, .ref fe, .ref cl, .ref wo, .ref si, .ref we, .int 0, .int 0, .int (-1), .int 0, .int 0]))) (p_sc : pt Lx fx sc (.inl (G.2 4, 4, .inr (.inr (.inr (.inr sf)))))) (p_s0 : pt Lx fx s0 (.inr (7, [.ref dg, .ref nu, .ref lf, .ref lt, .ref cs, .int 0, .int 0]))) (p_lf : pt Lx fx lf (.inl (G.2 0, 3, .inl (fun _ => 0)))) (p_lt : pt Lx fx lt (.inl (G.2 0, 3, .inl (fun _ => 0)))) (p_rd : pt Lx fx rd (.inr (5, [.ref tp, .ref ki, .ref pl, .ref va, .int 0, .int 0, .int 0, .int 0, .int 0, .int 0, .int 0, .null, .int (-1), .int (-1)]))) (p_ki : pt Lx fx ki (.inl (G.2 0, 301, .inl (fun _ => 0)))) (p_pl : pt Lx fx pl (.inl (G.2 0, 301, .inl (fun _ => 0)))) (p_va : pt Lx fx va (.inl (G.2 0, 301, .inl (fun _ => 0)))) (p_xm : pt Lm fm xm (.inr (12, [.ref m_a, .ref m_im, .ref m_te, .ref m_tp, .int 0, .int (-1), .int (-1), .int 0, .int 0, .int 0, .int 0, .long 0, .int 0, .int 0, .int 0, .ref m_pi, .ref m_co, .int 0, .int 0, .int 0, .int 0, .int 0, .ref m_na, .ref m_vl, .ref m_tr, .int 1, .ref m_ac, .ref m_as_, .ref m_su, .ref m_wi_, .int 0, .ref m_se]))) (p_m_a : pt Lm fm m_a (.inl (G.2 0, 10568, .inl a0))) (p_m_te : pt Lm fm m_te (.inl (G.2 0, 2916, .inl (fun _ => 0)))) (n4 : lf ≠ lt) (hsf : sf 0 = some s0) (n5 : ki ≠ pl) (n6 : ki ≠ va) (n7 : pl ≠ va) (Y : DY G A s (va_pl Lx fx) Lm fm H locs) (hl : lv_has ls 4 [(3, .int 0), (2, .ref xm), (1, .ref xo), (0, .ref b)]) (tail : ∀ (H : Heap) (locs : List Loc) (ls : Array Slot), va_S A s.heap H locs → lv_has ls 4 [(3, .int 6), (0, .ref b)] → W p l e room_1 s m #[Value.ref b] below meth c H locs 1000 60000 (lw_Z below #[Value.ref b] s) (F0 m 18 ls [])) : W p l e room_1 s m #[Value.ref b] below meth c H locs 1000 60000 (lw_Z below #[Value.ref b] s) (F0 m 33 ls [.int 3]) := by
  obtain ⟨hx, hb, hr, hml, hown, hts, hX, hbl, hlocks, hgv⟩ := id C0
  have hbA : ¬ A b := by rw [hAe]; exact Nat.not_le.mpr hbl
  refine lv_tableIn (off := 326) (tgt := 359) hx hb dL_law_33 (by decide) (by decide) (by decide) (by decide) ?_
  refine lv_aload_n hx hb dL_law_359 rfl (lv_at hl 2 rfl) ?_
  have Y := Y.swap
  refine cVi (As := []) (rest := []) S Y (c_X11_text (l := l) p_xo p_w p_rd p_ki p_pl p_va p_sc p_s0 p_lf p_lt (n5) (n6) (n7) (n4) hsf) cw_X11_text kmL_28 p_xo ok_X11.1 rfl rfl ⟨Nat.le_of_ble_eq_true rfl, Nat.le_of_ble_eq_true rfl⟩ hl.1 rfl (Nat.le_of_ble_eq_true rfl) ⟨Nat.le_of_ble_eq_true rfl, Nat.le_of_ble_eq_true rfl⟩ dL_law_360 (fun r_1555 L_1556 f_1557 H locs hf_1557 Y => ?_)
  refine lv_fold (z := 0) hf_1557 ?_
  have Y := Y.swap
  refine lv_aload_n hx hb dL_law_363 rfl (lv_at hl 1 rfl) ?_
  refine cVi (As := []) (rest := [.int 0]) S Y (c_X12_text (l := l) p_xm p_m_a p_m_te) cw_X12_text kmL_32 p_xm ok_X12.1 rfl rfl ⟨Nat.le_of_ble_eq_true rfl, Nat.le_of_ble_eq_true rfl⟩ hl.1 rfl (Nat.le_of_ble_eq_true rfl) ⟨Nat.le_of_ble_eq_true rfl, Nat.le_of_ble_eq_true rfl⟩ dL_law_364 (fun r_1558 L_1559 f_1560 H locs hf_1560 Y => ?_)
  refine lv_fold (z := 0) hf_1560 ?_
  refine lv_icmp_eq (tgt := 1526) hx hb dL_law_367 (by decide) (fun _ => ?_) (fun h => absurd (by decide) h)
  refine lv_iinc (v := 6) (lv' := [(3, .int 6), (2, .ref xm), (1, .ref xo), (0, .ref b)]) hx hb dL_law_1526 hl (k := 0) rfl (by decide) (by decide) rfl (fun ls hl => ?_)
  refine lv_goto (tgt := 18) hx hb dL_law_1529 (by decide) ?_
  exact tail _ _ _ Y.2.2 (lv_sub hl [0, 3] rfl)
set_option maxHeartbeats 4000000 in
set_option maxRecDepth 100000 in
theorem law_4 {p : Program} {e : Env} {s : State} {m : MethodId} {below : List Frame} {meth : Method} {c : Code} (l : Launch) {b : Nat} {xs : Nat → Int32} (C0 : lw_At p s m meth c b 6 xs) {G : GG} {A : Nat → Prop} (hAe : A = (fun q : Nat => s.heap.size ≤ q)) (S : SX G A p s m meth c RL code 4 ret) {Lx Lm : List Nat} {fx fm : HF} {H : Heap} {locs : List Loc} {ls : Array Slot} {xo xm w ta ag sc nw pa fe cl wo si we k rd tp ki pl va jd rg dd fo su ch m_a m_im m_te m_tp m_pi m_co m_na m_vl m_tr m_ac m_as_ m_su m_wi_ m_se : Nat} (p_xo : pt Lx fx xo (.inr (11, [.ref w, .ref k, .ref rd, .ref jd, .ref rg, .ref dd, .ref fo, .ref su, .ref ch]))) (p_w : pt Lx fx w (.inr (10, [.ref ta, .ref ag, .ref sc, .ref nw, .ref pa, .ref fe, .ref cl, .ref wo, .ref si, .ref we, .int 0, .int 0, .int (-1), .int 0, .int 0]))) (p_rd : pt Lx fx rd (.inr (5, [.ref tp, .ref ki, .ref pl, .ref va, .int 0, .int 0, .int 0, .int 0, .int 0, .int 0, .int 0, .null, .int (-1), .int (-1)]))) (p_xm : pt Lm fm xm (.inr (12, [.ref m_a, .ref m_im, .ref m_te, .ref m_tp, .int 0, .int (-1), .int (-1), .int 0, .int 0, .int 0, .int 0, .long 0, .int 0, .int 0, .int 0, .ref m_pi, .ref m_co, .int 0, .int 0, .int 0, .int 0, .int 0, .ref m_na, .ref m_vl, .ref m_tr, .int 1, .ref m_ac, .ref m_as_, .ref m_su, .ref m_wi_, .int 0, .ref m_se]))) (Y : DY G A s (va_pl Lx fx) Lm fm H locs) (hl : lv_has ls 4 [(3, .int 0), (2, .ref xm), (1, .ref xo), (0, .ref b)]) (tail : ∀ (H : Heap) (locs : List Loc) (ls : Array Slot), va_S A s.heap H locs → lv_has ls 4 [(3, .int 6), (0, .ref b)] → W p l e room_1 s m #[Value.ref b] below meth c H locs 1000 60000 (lw_Z below #[Value.ref b] s) (F0 m 18 ls [])) : W p l e room_1 s m #[Value.ref b] below meth c H locs 1000 60000 (lw_Z below #[Value.ref b] s) (F0 m 33 ls [.int 4]) := by
  obtain ⟨hx, hb, hr, hml, hown, hts, hX, hbl, hlocks, hgv⟩ := id C0
  have hbA : ¬ A b := by rw [hAe]; exact Nat.not_le.mpr hbl
  refine lv_tableIn (off := 339) (tgt := 372) hx hb dL_law_33 (by decide) (by decide) (by decide) (by decide) ?_
  refine lv_aload_n hx hb dL_law_372 rfl (lv_at hl 2 rfl) ?_
  refine lv_aload_n hx hb dL_law_373 rfl (lv_at hl 3 rfl) ?_
  refine lv_iload_n hx hb dL_law_374 rfl (lv_at hl 0 rfl) ?_
  refine lv_iconst (v := 1) hx hb dL_law_375 (by decide) ?_
  refine lv_iadd hx hb dL_law_376 ?_
  refine lv_fold (z := 1) (by decide) ?_
  refine va_sld hx hb hX hbl hbA Y.2.2 (by unfold vp_in; decide) dL_law_377 ?_
  refine lv_fold (z := xs 1) rfl ?_
  have Y := Y.swap
  refine cVp (As := [.int (xs 1)]) (rest := []) S Y (c_X11_fault (l := l) p_xo p_w p_rd) cw_X11_fault kmL_33 p_xo ok_X11.1 rfl rfl ⟨Nat.le_of_ble_eq_true rfl, Nat.le_of_ble_eq_true rfl⟩ hl.1 rfl (Nat.le_of_ble_eq_true rfl) ⟨Nat.le_of_ble_eq_true rfl, Nat.le_of_ble_eq_true rfl⟩ dL_law_378 (fun r_1561 H locs er_1561 Y => ?_)
  refine lv_fold (z := (-1)) er_1561 ?_
  have Y := Y.swap
  refine lv_aload_n hx hb dL_law_381 rfl (lv_at hl 1 rfl) ?_
  refine lv_aload_n hx hb dL_law_382 rfl (lv_at hl 3 rfl) ?_
  refine lv_iload_n hx hb dL_law_383 rfl (lv_at hl 0 rfl) ?_
  refine lv_iconst (v := 1) hx hb dL_law_384 (by decide) ?_
  refine lv_iadd hx hb dL_law_385 ?_
  refine lv_fold (z := 1) (by decide) ?_
  refine va_sld hx hb hX hbl hbA Y.2.2 (by unfold vp_in; decide) dL_law_386 ?_
  refine lv_fold (z := xs 1) rfl ?_
  refine cVp (As := [.int (xs 1)]) (rest := [.int (-1)]) S Y (c_X12_fault (l := l) p_xm) cw_X12_fault kmL_36 p_xm ok_X12.1 rfl rfl ⟨Nat.le_of_ble_eq_true rfl, Nat.le_of_ble_eq_true rfl⟩ hl.1 rfl (Nat.le_of_ble_eq_true rfl) ⟨Nat.le_of_ble_eq_true rfl, Nat.le_of_ble_eq_true rfl⟩ dL_law_387 (fun r_1562 H locs er_1562 Y => ?_)
  refine lv_fold (z := (-1)) er_1562 ?_
  refine lv_icmp_eq (tgt := 1526) hx hb dL_law_390 (by decide) (fun _ => ?_) (fun h => absurd (by decide) h)
  refine lv_iinc (v := 6) (lv' := [(3, .int 6), (2, .ref xm), (1, .ref xo), (0, .ref b)]) hx hb dL_law_1526 hl (k := 0) rfl (by decide) (by decide) rfl (fun ls hl => ?_)
  refine lv_goto (tgt := 18) hx hb dL_law_1529 (by decide) ?_
  exact tail _ _ _ Y.2.2 (lv_sub hl [0, 3] rfl)
set_option maxHeartbeats 4000000 in
set_option maxRecDepth 100000 in
theorem law_5 {p : Program} {e : Env} {s : State} {m : MethodId} {below : List Frame} {meth : Method} {c : Code} (l : Launch) {b : Nat} {xs : Nat → Int32} (C0 : lw_At p s m meth c b 6 xs) {G : GG} {A : Nat → Prop} (hAe : A = (fun q : Nat => s.heap.size ≤ q)) (S : SX G A p s m meth c RL code 4 ret) {Lx Lm : List Nat} {fx fm : HF} {H : Heap} {locs : List Loc} {ls : Array Slot} {xo xm w ta ag sc nw pa fe cl wo si we k rd jd rg dd fo su ch m_a m_im m_te m_tp m_pi m_co m_na m_vl m_tr m_ac m_as_ m_su m_wi_ m_se : Nat} (p_xo : pt Lx fx xo (.inr (11, [.ref w, .ref k, .ref rd, .ref jd, .ref rg, .ref dd, .ref fo, .ref su, .ref ch]))) (p_w : pt Lx fx w (.inr (10, [.ref ta, .ref ag, .ref sc, .ref nw, .ref pa, .ref fe, .ref cl, .ref wo, .ref si, .ref we, .int 0, .int 0, .int (-1), .int 0, .int 0]))) (p_xm : pt Lm fm xm (.inr (12, [.ref m_a, .ref m_im, .ref m_te, .ref m_tp, .int 0, .int (-1), .int (-1), .int 0, .int 0, .int 0, .int 0, .long 0, .int 0, .int 0, .int 0, .ref m_pi, .ref m_co, .int 0, .int 0, .int 0, .int 0, .int 0, .ref m_na, .ref m_vl, .ref m_tr, .int 1, .ref m_ac, .ref m_as_, .ref m_su, .ref m_wi_, .int 0, .ref m_se]))) (p_m_a : pt Lm fm m_a (.inl (G.2 0, 10568, .inl a0))) (Y : DY G A s (va_pl Lx fx) Lm fm H locs) (hl : lv_has ls 4 [(3, .int 0), (2, .ref xm), (1, .ref xo), (0, .ref b)]) (tail : ∀ (H : Heap) (locs : List Loc) (ls : Array Slot), va_S A s.heap H locs → lv_has ls 4 [(3, .int 6), (0, .ref b)] → W p l e room_1 s m #[Value.ref b] below meth c H locs 1000 60000 (lw_Z below #[Value.ref b] s) (F0 m 18 ls [])) : W p l e room_1 s m #[Value.ref b] below meth c H locs 1000 60000 (lw_Z below #[Value.ref b] s) (F0 m 33 ls [.int 5]) := by
  obtain ⟨hx, hb, hr, hml, hown, hts, hX, hbl, hlocks, hgv⟩ := id C0
  have hbA : ¬ A b := by rw [hAe]; exact Nat.not_le.mpr hbl
  refine lv_tableIn (off := 362) (tgt := 395) hx hb dL_law_33 (by decide) (by decide) (by decide) (by decide) ?_
  refine lv_aload_n hx hb dL_law_395 rfl (lv_at hl 2 rfl) ?_
  refine lv_aload_n hx hb dL_law_396 rfl (lv_at hl 3 rfl) ?_
  refine lv_iload_n hx hb dL_law_397 rfl (lv_at hl 0 rfl) ?_
  refine lv_iconst (v := 1) hx hb dL_law_398 (by decide) ?_
  refine lv_iadd hx hb dL_law_399 ?_
  refine lv_fold (z := 1) (by decide) ?_
  refine va_sld hx hb hX hbl hbA Y.2.2 (by unfold vp_in; decide) dL_law_400 ?_
  refine lv_fold (z := xs 1) rfl ?_
  have Y := Y.swap
  refine cVi (As := [.int (xs 1)]) (rest := []) S Y (c_X11_by (l := l) p_xo p_w) cw_X11_by kmL_37 p_xo ok_X11.1 rfl rfl ⟨Nat.le_of_ble_eq_true rfl, Nat.le_of_ble_eq_true rfl⟩ hl.1 rfl (Nat.le_of_ble_eq_true rfl) ⟨Nat.le_of_ble_eq_true rfl, Nat.le_of_ble_eq_true rfl⟩ dL_law_401 (fun r_1563 L_1564 f_1565 H locs hf_1565 Y => ?_)
  have Y := Y.swap
  refine lv_aload_n hx hb dL_law_404 rfl (lv_at hl 1 rfl) ?_
  refine lv_aload_n hx hb dL_law_405 rfl (lv_at hl 3 rfl) ?_
  refine lv_iload_n hx hb dL_law_406 rfl (lv_at hl 0 rfl) ?_
  refine lv_iconst (v := 1) hx hb dL_law_407 (by decide) ?_
  refine lv_iadd hx hb dL_law_408 ?_
  refine lv_fold (z := 1) (by decide) ?_
  refine va_sld hx hb hX hbl hbA Y.2.2 (by unfold vp_in; decide) dL_law_409 ?_
  refine lv_fold (z := xs 1) rfl ?_
  refine cVi (As := [.int (xs 1)]) (rest := [.int r_1563]) S Y (c_X12_by (l := l) p_xm p_m_a) cw_X12_by kmL_41 p_xm ok_X12.1 rfl rfl ⟨Nat.le_of_ble_eq_true rfl, Nat.le_of_ble_eq_true rfl⟩ hl.1 rfl (Nat.le_of_ble_eq_true rfl) ⟨Nat.le_of_ble_eq_true rfl, Nat.le_of_ble_eq_true rfl⟩ dL_law_410 (fun r_1566 L_1567 f_1568 H locs hf_1568 Y => ?_)
  refine lv_icmp_eq (tgt := 1526) hx hb dL_law_413 (by decide) (fun _ => ?_) (fun h => absurd (hf_1565.trans ((by_eq _).trans hf_1568.symm)) h)
  refine lv_iinc (v := 6) (lv' := [(3, .int 6), (2, .ref xm), (1, .ref xo), (0, .ref b)]) hx hb dL_law_1526 hl (k := 0) rfl (by decide) (by decide) rfl (fun ls hl => ?_)
  refine lv_goto (tgt := 18) hx hb dL_law_1529 (by decide) ?_
  exact tail _ _ _ Y.2.2 (lv_sub hl [0, 3] rfl)
set_option maxHeartbeats 4000000 in
set_option maxRecDepth 100000 in
theorem law_6 {p : Program} {e : Env} {s : State} {m : MethodId} {below : List Frame} {meth : Method} {c : Code} (l : Launch) {b : Nat} {xs : Nat → Int32} (C0 : lw_At p s m meth c b 6 xs) {G : GG} {A : Nat → Prop} (hAe : A = (fun q : Nat => s.heap.size ≤ q)) (S : SX G A p s m meth c RL code 4 ret) {Lx Lm : List Nat} {fx fm : HF} {H : Heap} {locs : List Loc} {ls : Array Slot} {xo xm w ta ag sc nw pa fe cl wo si we k rd jd rg dd mo fo su ch m_a m_im m_te m_tp m_pi m_co m_na m_vl m_tr m_ac m_as_ m_su m_wi_ m_se : Nat} (p_xo : pt Lx fx xo (.inr (11, [.ref w, .ref k, .ref rd, .ref jd, .ref rg, .ref dd, .ref fo, .ref su, .ref ch]))) (p_w : pt Lx fx w (.inr (10, [.ref ta, .ref ag, .ref sc, .ref nw, .ref pa, .ref fe, .ref cl, .ref wo, .ref si, .ref we, .int 0, .int 0, .int (-1), .int 0, .int 0]))) (p_dd : pt Lx fx dd (.inr (1, [.ref w, .ref jd, .ref rg, .ref mo, .int 0]))) (p_xm : pt Lm fm xm (.inr (12, [.ref m_a, .ref m_im, .ref m_te, .ref m_tp, .int 0, .int (-1), .int (-1), .int 0, .int 0, .int 0, .int 0, .long 0, .int 0, .int 0, .int 0, .ref m_pi, .ref m_co, .int 0, .int 0, .int 0, .int 0, .int 0, .ref m_na, .ref m_vl, .ref m_tr, .int 1, .ref m_ac, .ref m_as_, .ref m_su, .ref m_wi_, .int 0, .ref m_se]))) (p_m_a : pt Lm fm m_a (.inl (G.2 0, 10568, .inl a0))) (Y : DY G A s (va_pl Lx fx) Lm fm H locs) (hl : lv_has ls 4 [(3, .int 0), (2, .ref xm), (1, .ref xo), (0, .ref b)]) (tail : ∀ (H : Heap) (locs : List Loc) (ls : Array Slot), va_S A s.heap H locs → lv_has ls 4 [(3, .int 6), (0, .ref b)] → W p l e room_1 s m #[Value.ref b] below meth c H locs 1000 60000 (lw_Z below #[Value.ref b] s) (F0 m 18 ls [])) : W p l e room_1 s m #[Value.ref b] below meth c H locs 1000 60000 (lw_Z below #[Value.ref b] s) (F0 m 33 ls [.int 6]) := by
  obtain ⟨hx, hb, hr, hml, hown, hts, hX, hbl, hlocks, hgv⟩ := id C0
  have hbA : ¬ A b := by rw [hAe]; exact Nat.not_le.mpr hbl
  refine lv_tableIn (off := 385) (tgt := 418) hx hb dL_law_33 (by decide) (by decide) (by decide) (by decide) ?_
  refine lv_aload_n hx hb dL_law_418 rfl (lv_at hl 2 rfl) ?_
  refine lv_aload_n hx hb dL_law_419 rfl (lv_at hl 3 rfl) ?_
  refine lv_iload_n hx hb dL_law_420 rfl (lv_at hl 0 rfl) ?_
  refine lv_iconst (v := 1) hx hb dL_law_421 (by decide) ?_
  refine lv_iadd hx hb dL_law_422 ?_
  refine lv_fold (z := 1) (by decide) ?_
  refine va_sld hx hb hX hbl hbA Y.2.2 (by unfold vp_in; decide) dL_law_423 ?_
  refine lv_fold (z := xs 1) rfl ?_
  refine lv_aload_n hx hb dL_law_424 rfl (lv_at hl 3 rfl) ?_
  refine lv_iload_n hx hb dL_law_425 rfl (lv_at hl 0 rfl) ?_
  refine lv_iconst (v := 2) hx hb dL_law_426 (by decide) ?_
  refine lv_iadd hx hb dL_law_427 ?_
  refine lv_fold (z := 2) (by decide) ?_
  refine va_sld hx hb hX hbl hbA Y.2.2 (by unfold vp_in; decide) dL_law_428 ?_
  refine lv_fold (z := xs 2) rfl ?_
  refine lv_aload_n hx hb dL_law_429 rfl (lv_at hl 3 rfl) ?_
  refine lv_iload_n hx hb dL_law_430 rfl (lv_at hl 0 rfl) ?_
  refine lv_iconst (v := 3) hx hb dL_law_431 (by decide) ?_
  refine lv_iadd hx hb dL_law_432 ?_
  refine lv_fold (z := 3) (by decide) ?_
  refine va_sld hx hb hX hbl hbA Y.2.2 (by unfold vp_in; decide) dL_law_433 ?_
  refine lv_fold (z := xs 3) rfl ?_
  refine lv_aload_n hx hb dL_law_434 rfl (lv_at hl 3 rfl) ?_
  refine lv_iload_n hx hb dL_law_435 rfl (lv_at hl 0 rfl) ?_
  refine lv_iconst (v := 4) hx hb dL_law_436 (by decide) ?_
  refine lv_iadd hx hb dL_law_437 ?_
  refine lv_fold (z := 4) (by decide) ?_
  refine va_sld hx hb hX hbl hbA Y.2.2 (by unfold vp_in; decide) dL_law_438 ?_
  refine lv_fold (z := xs 4) rfl ?_
  have Y := Y.swap
  refine cVp (As := [.int (xs 1), .int (xs 2), .int (xs 3), .int (xs 4)]) (rest := []) S Y (c_X11_swear (l := l) p_xo p_w p_dd) cw_X11_swear kmL_42 p_xo ok_X11.1 rfl rfl ⟨Nat.le_of_ble_eq_true rfl, Nat.le_of_ble_eq_true rfl⟩ hl.1 rfl (Nat.le_of_ble_eq_true rfl) ⟨Nat.le_of_ble_eq_true rfl, Nat.le_of_ble_eq_true rfl⟩ dL_law_439 (fun r_1569 H locs er_1569 Y => ?_)
  refine lv_fold (z := (-1)) er_1569 ?_
  have Y := Y.swap
  refine lv_aload_n hx hb dL_law_442 rfl (lv_at hl 1 rfl) ?_
  refine lv_aload_n hx hb dL_law_443 rfl (lv_at hl 3 rfl) ?_
  refine lv_iload_n hx hb dL_law_444 rfl (lv_at hl 0 rfl) ?_
  refine lv_iconst (v := 1) hx hb dL_law_445 (by decide) ?_
  refine lv_iadd hx hb dL_law_446 ?_
  refine lv_fold (z := 1) (by decide) ?_
  refine va_sld hx hb hX hbl hbA Y.2.2 (by unfold vp_in; decide) dL_law_447 ?_
  refine lv_fold (z := xs 1) rfl ?_
  refine lv_aload_n hx hb dL_law_448 rfl (lv_at hl 3 rfl) ?_
  refine lv_iload_n hx hb dL_law_449 rfl (lv_at hl 0 rfl) ?_
  refine lv_iconst (v := 2) hx hb dL_law_450 (by decide) ?_
  refine lv_iadd hx hb dL_law_451 ?_
  refine lv_fold (z := 2) (by decide) ?_
  refine va_sld hx hb hX hbl hbA Y.2.2 (by unfold vp_in; decide) dL_law_452 ?_
  refine lv_fold (z := xs 2) rfl ?_
  refine lv_aload_n hx hb dL_law_453 rfl (lv_at hl 3 rfl) ?_
  refine lv_iload_n hx hb dL_law_454 rfl (lv_at hl 0 rfl) ?_
  refine lv_iconst (v := 3) hx hb dL_law_455 (by decide) ?_
  refine lv_iadd hx hb dL_law_456 ?_
  refine lv_fold (z := 3) (by decide) ?_
  refine va_sld hx hb hX hbl hbA Y.2.2 (by unfold vp_in; decide) dL_law_457 ?_
  refine lv_fold (z := xs 3) rfl ?_
  refine lv_aload_n hx hb dL_law_458 rfl (lv_at hl 3 rfl) ?_
  refine lv_iload_n hx hb dL_law_459 rfl (lv_at hl 0 rfl) ?_
  refine lv_iconst (v := 4) hx hb dL_law_460 (by decide) ?_
  refine lv_iadd hx hb dL_law_461 ?_
  refine lv_fold (z := 4) (by decide) ?_
  refine va_sld hx hb hX hbl hbA Y.2.2 (by unfold vp_in; decide) dL_law_462 ?_
  refine lv_fold (z := xs 4) rfl ?_
  refine cVp (As := [.int (xs 1), .int (xs 2), .int (xs 3), .int (xs 4)]) (rest := [.int (-1)]) S Y (c_X12_swear (l := l) p_xm p_m_a) cw_X12_swear kmL_46 p_xm ok_X12.1 rfl rfl ⟨Nat.le_of_ble_eq_true rfl, Nat.le_of_ble_eq_true rfl⟩ hl.1 rfl (Nat.le_of_ble_eq_true rfl) ⟨Nat.le_of_ble_eq_true rfl, Nat.le_of_ble_eq_true rfl⟩ dL_law_463 (fun r_1570 H locs er_1570 Y => ?_)
  refine lv_fold (z := (-1)) er_1570 ?_
  refine lv_icmp_eq (tgt := 1526) hx hb dL_law_466 (by decide) (fun _ => ?_) (fun h => absurd (by decide) h)
  refine lv_iinc (v := 6) (lv' := [(3, .int 6), (2, .ref xm), (1, .ref xo), (0, .ref b)]) hx hb dL_law_1526 hl (k := 0) rfl (by decide) (by decide) rfl (fun ls hl => ?_)
  refine lv_goto (tgt := 18) hx hb dL_law_1529 (by decide) ?_
  exact tail _ _ _ Y.2.2 (lv_sub hl [0, 3] rfl)
set_option maxHeartbeats 4000000 in
set_option maxRecDepth 100000 in
theorem law_7 {p : Program} {e : Env} {s : State} {m : MethodId} {below : List Frame} {meth : Method} {c : Code} (l : Launch) {b : Nat} {xs : Nat → Int32} (C0 : lw_At p s m meth c b 6 xs) {G : GG} {A : Nat → Prop} (hAe : A = (fun q : Nat => s.heap.size ≤ q)) (S : SX G A p s m meth c RL code 4 ret) {Lx Lm : List Nat} {fx fm : HF} {H : Heap} {locs : List Loc} {ls : Array Slot} {xo xm w ta ag sc nw pa fe cl wo si we oa aa k rd jd rg dd mo fo su ch m_a m_im m_te m_tp m_pi m_co m_na m_vl m_tr m_ac m_as_ m_su m_wi_ m_se : Nat} (p_xo : pt Lx fx xo (.inr (11, [.ref w, .ref k, .ref rd, .ref jd, .ref rg, .ref dd, .ref fo, .ref su, .ref ch]))) (p_w : pt Lx fx w (.inr (10, [.ref ta, .ref ag, .ref sc, .ref nw, .ref pa, .ref fe, .ref cl, .ref wo, .ref si, .ref we, .int 0, .int 0, .int (-1), .int 0, .int 0]))) (p_nw : pt Lx fx nw (.inr (4, [.ref oa, .ref aa, .int 0, .int 0, .int 0, .int 0, .int 137]))) (p_dd : pt Lx fx dd (.inr (1, [.ref w, .ref jd, .ref rg, .ref mo, .int 0]))) (p_xm : pt Lm fm xm (.inr (12, [.ref m_a, .ref m_im, .ref m_te, .ref m_tp, .int 0, .int (-1), .int (-1), .int 0, .int 0, .int 0, .int 0, .long 0, .int 0, .int 0, .int 0, .ref m_pi, .ref m_co, .int 0, .int 0, .int 0, .int 0, .int 0, .ref m_na, .ref m_vl, .ref m_tr, .int 1, .ref m_ac, .ref m_as_, .ref m_su, .ref m_wi_, .int 0, .ref m_se]))) (p_m_a : pt Lm fm m_a (.inl (G.2 0, 10568, .inl a0))) (Y : DY G A s (va_pl Lx fx) Lm fm H locs) (hl : lv_has ls 4 [(3, .int 0), (2, .ref xm), (1, .ref xo), (0, .ref b)]) (tail : ∀ (H : Heap) (locs : List Loc) (ls : Array Slot), va_S A s.heap H locs → lv_has ls 4 [(3, .int 6), (0, .ref b)] → W p l e room_1 s m #[Value.ref b] below meth c H locs 1000 60000 (lw_Z below #[Value.ref b] s) (F0 m 18 ls [])) : W p l e room_1 s m #[Value.ref b] below meth c H locs 1000 60000 (lw_Z below #[Value.ref b] s) (F0 m 33 ls [.int 7]) := by
  obtain ⟨hx, hb, hr, hml, hown, hts, hX, hbl, hlocks, hgv⟩ := id C0
  have hbA : ¬ A b := by rw [hAe]; exact Nat.not_le.mpr hbl
  refine lv_tableIn (off := 438) (tgt := 471) hx hb dL_law_33 (by decide) (by decide) (by decide) (by decide) ?_
  refine lv_aload_n hx hb dL_law_471 rfl (lv_at hl 2 rfl) ?_
  refine lv_aload_n hx hb dL_law_472 rfl (lv_at hl 3 rfl) ?_
  refine lv_iload_n hx hb dL_law_473 rfl (lv_at hl 0 rfl) ?_
  refine lv_iconst (v := 1) hx hb dL_law_474 (by decide) ?_
  refine lv_iadd hx hb dL_law_475 ?_
  refine lv_fold (z := 1) (by decide) ?_
  refine va_sld hx hb hX hbl hbA Y.2.2 (by unfold vp_in; decide) dL_law_476 ?_
  refine lv_fold (z := xs 1) rfl ?_
  have Y := Y.swap
  refine cVp (As := [.int (xs 1)]) (rest := []) S Y (c_X11_breaks (l := l) p_xo p_w p_dd p_nw) cw_X11_breaks kmL_47 p_xo ok_X11.1 rfl rfl ⟨Nat.le_of_ble_eq_true rfl, Nat.le_of_ble_eq_true rfl⟩ hl.1 rfl (Nat.le_of_ble_eq_true rfl) ⟨Nat.le_of_ble_eq_true rfl, Nat.le_of_ble_eq_true rfl⟩ dL_law_477 (fun r_1571 H locs er_1571 Y => ?_)
  refine lv_fold (z := 0) er_1571 ?_
  have Y := Y.swap
  refine lv_aload_n hx hb dL_law_480 rfl (lv_at hl 1 rfl) ?_
  refine lv_aload_n hx hb dL_law_481 rfl (lv_at hl 3 rfl) ?_
  refine lv_iload_n hx hb dL_law_482 rfl (lv_at hl 0 rfl) ?_
  refine lv_iconst (v := 1) hx hb dL_law_483 (by decide) ?_
  refine lv_iadd hx hb dL_law_484 ?_
  refine lv_fold (z := 1) (by decide) ?_
  refine va_sld hx hb hX hbl hbA Y.2.2 (by unfold vp_in; decide) dL_law_485 ?_
  refine lv_fold (z := xs 1) rfl ?_
  refine cVp (As := [.int (xs 1)]) (rest := [.int 0]) S Y (c_X12_breaks (l := l) p_xm p_m_a) cw_X12_breaks kmL_50 p_xm ok_X12.1 rfl rfl ⟨Nat.le_of_ble_eq_true rfl, Nat.le_of_ble_eq_true rfl⟩ hl.1 rfl (Nat.le_of_ble_eq_true rfl) ⟨Nat.le_of_ble_eq_true rfl, Nat.le_of_ble_eq_true rfl⟩ dL_law_486 (fun r_1572 H locs er_1572 Y => ?_)
  refine lv_fold (z := 0) er_1572 ?_
  refine lv_icmp_eq (tgt := 1526) hx hb dL_law_489 (by decide) (fun _ => ?_) (fun h => absurd (by decide) h)
  refine lv_iinc (v := 6) (lv' := [(3, .int 6), (2, .ref xm), (1, .ref xo), (0, .ref b)]) hx hb dL_law_1526 hl (k := 0) rfl (by decide) (by decide) rfl (fun ls hl => ?_)
  refine lv_goto (tgt := 18) hx hb dL_law_1529 (by decide) ?_
  exact tail _ _ _ Y.2.2 (lv_sub hl [0, 3] rfl)
set_option maxHeartbeats 4000000 in
set_option maxRecDepth 100000 in
theorem law_8 {p : Program} {e : Env} {s : State} {m : MethodId} {below : List Frame} {meth : Method} {c : Code} (l : Launch) {b : Nat} {xs : Nat → Int32} (C0 : lw_At p s m meth c b 6 xs) {G : GG} {A : Nat → Prop} (hAe : A = (fun q : Nat => s.heap.size ≤ q)) (S : SX G A p s m meth c RL code 4 ret) {Lx Lm : List Nat} {fx fm : HF} {H : Heap} {locs : List Loc} {ls : Array Slot} {xo xm w ta ag sc nw pa fe cl wo si we oa aa k rd jd rg dd mo fo su ch m_a m_im m_te m_tp m_pi m_co m_na m_vl m_tr m_ac m_as_ m_su m_wi_ m_se : Nat} (p_xo : pt Lx fx xo (.inr (11, [.ref w, .ref k, .ref rd, .ref jd, .ref rg, .ref dd, .ref fo, .ref su, .ref ch]))) (p_w : pt Lx fx w (.inr (10, [.ref ta, .ref ag, .ref sc, .ref nw, .ref pa, .ref fe, .ref cl, .ref wo, .ref si, .ref we, .int 0, .int 0, .int (-1), .int 0, .int 0]))) (p_nw : pt Lx fx nw (.inr (4, [.ref oa, .ref aa, .int 0, .int 0, .int 0, .int 0, .int 137]))) (p_dd : pt Lx fx dd (.inr (1, [.ref w, .ref jd, .ref rg, .ref mo, .int 0]))) (p_xm : pt Lm fm xm (.inr (12, [.ref m_a, .ref m_im, .ref m_te, .ref m_tp, .int 0, .int (-1), .int (-1), .int 0, .int 0, .int 0, .int 0, .long 0, .int 0, .int 0, .int 0, .ref m_pi, .ref m_co, .int 0, .int 0, .int 0, .int 0, .int 0, .ref m_na, .ref m_vl, .ref m_tr, .int 1, .ref m_ac, .ref m_as_, .ref m_su, .ref m_wi_, .int 0, .ref m_se]))) (p_m_a : pt Lm fm m_a (.inl (G.2 0, 10568, .inl a0))) (Y : DY G A s (va_pl Lx fx) Lm fm H locs) (hl : lv_has ls 4 [(3, .int 0), (2, .ref xm), (1, .ref xo), (0, .ref b)]) (tail : ∀ (H : Heap) (locs : List Loc) (ls : Array Slot), va_S A s.heap H locs → lv_has ls 4 [(3, .int 6), (0, .ref b)] → W p l e room_1 s m #[Value.ref b] below meth c H locs 1000 60000 (lw_Z below #[Value.ref b] s) (F0 m 18 ls [])) : W p l e room_1 s m #[Value.ref b] below meth c H locs 1000 60000 (lw_Z below #[Value.ref b] s) (F0 m 33 ls [.int 8]) := by
  obtain ⟨hx, hb, hr, hml, hown, hts, hX, hbl, hlocks, hgv⟩ := id C0
  have hbA : ¬ A b := by rw [hAe]; exact Nat.not_le.mpr hbl
  refine lv_tableIn (off := 461) (tgt := 494) hx hb dL_law_33 (by decide) (by decide) (by decide) (by decide) ?_
  refine lv_aload_n hx hb dL_law_494 rfl (lv_at hl 2 rfl) ?_
  refine lv_aload_n hx hb dL_law_495 rfl (lv_at hl 3 rfl) ?_
  refine lv_iload_n hx hb dL_law_496 rfl (lv_at hl 0 rfl) ?_
  refine lv_iconst (v := 1) hx hb dL_law_497 (by decide) ?_
  refine lv_iadd hx hb dL_law_498 ?_
  refine lv_fold (z := 1) (by decide) ?_
  refine va_sld hx hb hX hbl hbA Y.2.2 (by unfold vp_in; decide) dL_law_499 ?_
  refine lv_fold (z := xs 1) rfl ?_
  have Y := Y.swap
  refine cVp (As := [.int (xs 1)]) (rest := []) S Y (c_X11_release (l := l) p_xo p_w p_dd p_nw) cw_X11_release kmL_51 p_xo ok_X11.1 rfl rfl ⟨Nat.le_of_ble_eq_true rfl, Nat.le_of_ble_eq_true rfl⟩ hl.1 rfl (Nat.le_of_ble_eq_true rfl) ⟨Nat.le_of_ble_eq_true rfl, Nat.le_of_ble_eq_true rfl⟩ dL_law_500 (fun r_1573 H locs er_1573 Y => ?_)
  refine lv_fold (z := 0) er_1573 ?_
  have Y := Y.swap
  refine lv_aload_n hx hb dL_law_503 rfl (lv_at hl 1 rfl) ?_
  refine lv_aload_n hx hb dL_law_504 rfl (lv_at hl 3 rfl) ?_
  refine lv_iload_n hx hb dL_law_505 rfl (lv_at hl 0 rfl) ?_
  refine lv_iconst (v := 1) hx hb dL_law_506 (by decide) ?_
  refine lv_iadd hx hb dL_law_507 ?_
  refine lv_fold (z := 1) (by decide) ?_
  refine va_sld hx hb hX hbl hbA Y.2.2 (by unfold vp_in; decide) dL_law_508 ?_
  refine lv_fold (z := xs 1) rfl ?_
  refine cVp (As := [.int (xs 1)]) (rest := [.int 0]) S Y (c_X12_release (l := l) p_xm p_m_a) cw_X12_release kmL_54 p_xm ok_X12.1 rfl rfl ⟨Nat.le_of_ble_eq_true rfl, Nat.le_of_ble_eq_true rfl⟩ hl.1 rfl (Nat.le_of_ble_eq_true rfl) ⟨Nat.le_of_ble_eq_true rfl, Nat.le_of_ble_eq_true rfl⟩ dL_law_509 (fun r_1574 H locs er_1574 Y => ?_)
  refine lv_fold (z := 0) er_1574 ?_
  refine lv_icmp_eq (tgt := 1526) hx hb dL_law_512 (by decide) (fun _ => ?_) (fun h => absurd (by decide) h)
  refine lv_iinc (v := 6) (lv' := [(3, .int 6), (2, .ref xm), (1, .ref xo), (0, .ref b)]) hx hb dL_law_1526 hl (k := 0) rfl (by decide) (by decide) rfl (fun ls hl => ?_)
  refine lv_goto (tgt := 18) hx hb dL_law_1529 (by decide) ?_
  exact tail _ _ _ Y.2.2 (lv_sub hl [0, 3] rfl)
set_option maxHeartbeats 4000000 in
set_option maxRecDepth 100000 in
theorem law_9 {p : Program} {e : Env} {s : State} {m : MethodId} {below : List Frame} {meth : Method} {c : Code} (l : Launch) {b : Nat} {xs : Nat → Int32} (C0 : lw_At p s m meth c b 6 xs) {G : GG} {A : Nat → Prop} (hAe : A = (fun q : Nat => s.heap.size ≤ q)) (S : SX G A p s m meth c RL code 4 ret) {Lx Lm : List Nat} {fx fm : HF} {H : Heap} {locs : List Loc} {ls : Array Slot} {xo xm w ta ag sc nw pa fe cl wo si we k rd jd rg dd mo fo su ch m_a m_im m_te m_tp m_pi m_co m_na m_vl m_tr m_ac m_as_ m_su m_wi_ m_se : Nat} (p_xo : pt Lx fx xo (.inr (11, [.ref w, .ref k, .ref rd, .ref jd, .ref rg, .ref dd, .ref fo, .ref su, .ref ch]))) (p_w : pt Lx fx w (.inr (10, [.ref ta, .ref ag, .ref sc, .ref nw, .ref pa, .ref fe, .ref cl, .ref wo, .ref si, .ref we, .int 0, .int 0, .int (-1), .int 0, .int 0]))) (p_dd : pt Lx fx dd (.inr (1, [.ref w, .ref jd, .ref rg, .ref mo, .int 0]))) (p_xm : pt Lm fm xm (.inr (12, [.ref m_a, .ref m_im, .ref m_te, .ref m_tp, .int 0, .int (-1), .int (-1), .int 0, .int 0, .int 0, .int 0, .long 0, .int 0, .int 0, .int 0, .ref m_pi, .ref m_co, .int 0, .int 0, .int 0, .int 0, .int 0, .ref m_na, .ref m_vl, .ref m_tr, .int 1, .ref m_ac, .ref m_as_, .ref m_su, .ref m_wi_, .int 0, .ref m_se]))) (p_m_a : pt Lm fm m_a (.inl (G.2 0, 10568, .inl a0))) (Y : DY G A s (va_pl Lx fx) Lm fm H locs) (hl : lv_has ls 4 [(3, .int 0), (2, .ref xm), (1, .ref xo), (0, .ref b)]) (tail : ∀ (H : Heap) (locs : List Loc) (ls : Array Slot), va_S A s.heap H locs → lv_has ls 4 [(3, .int 6), (0, .ref b)] → W p l e room_1 s m #[Value.ref b] below meth c H locs 1000 60000 (lw_Z below #[Value.ref b] s) (F0 m 18 ls [])) : W p l e room_1 s m #[Value.ref b] below meth c H locs 1000 60000 (lw_Z below #[Value.ref b] s) (F0 m 33 ls [.int 9]) := by
  obtain ⟨hx, hb, hr, hml, hown, hts, hX, hbl, hlocks, hgv⟩ := id C0
  have hbA : ¬ A b := by rw [hAe]; exact Nat.not_le.mpr hbl
  refine lv_tableIn (off := 484) (tgt := 517) hx hb dL_law_33 (by decide) (by decide) (by decide) (by decide) ?_
  refine lv_aload_n hx hb dL_law_517 rfl (lv_at hl 2 rfl) ?_
  refine lv_aload_n hx hb dL_law_518 rfl (lv_at hl 3 rfl) ?_
  refine lv_iload_n hx hb dL_law_519 rfl (lv_at hl 0 rfl) ?_
  refine lv_iconst (v := 1) hx hb dL_law_520 (by decide) ?_
  refine lv_iadd hx hb dL_law_521 ?_
  refine lv_fold (z := 1) (by decide) ?_
  refine va_sld hx hb hX hbl hbA Y.2.2 (by unfold vp_in; decide) dL_law_522 ?_
  refine lv_fold (z := xs 1) rfl ?_
  have Y := Y.swap
  refine cVp (As := [.int (xs 1)]) (rest := []) S Y (c_X11_kneel (l := l) p_xo p_w p_dd) cw_X11_kneel kmL_55 p_xo ok_X11.1 rfl rfl ⟨Nat.le_of_ble_eq_true rfl, Nat.le_of_ble_eq_true rfl⟩ hl.1 rfl (Nat.le_of_ble_eq_true rfl) ⟨Nat.le_of_ble_eq_true rfl, Nat.le_of_ble_eq_true rfl⟩ dL_law_523 (fun r_1575 H locs er_1575 Y => ?_)
  refine lv_fold (z := (-1)) er_1575 ?_
  have Y := Y.swap
  refine lv_aload_n hx hb dL_law_526 rfl (lv_at hl 1 rfl) ?_
  refine lv_aload_n hx hb dL_law_527 rfl (lv_at hl 3 rfl) ?_
  refine lv_iload_n hx hb dL_law_528 rfl (lv_at hl 0 rfl) ?_
  refine lv_iconst (v := 1) hx hb dL_law_529 (by decide) ?_
  refine lv_iadd hx hb dL_law_530 ?_
  refine lv_fold (z := 1) (by decide) ?_
  refine va_sld hx hb hX hbl hbA Y.2.2 (by unfold vp_in; decide) dL_law_531 ?_
  refine lv_fold (z := xs 1) rfl ?_
  refine cVp (As := [.int (xs 1)]) (rest := [.int (-1)]) S Y (c_X12_kneel (l := l) p_xm p_m_a) cw_X12_kneel kmL_58 p_xm ok_X12.1 rfl rfl ⟨Nat.le_of_ble_eq_true rfl, Nat.le_of_ble_eq_true rfl⟩ hl.1 rfl (Nat.le_of_ble_eq_true rfl) ⟨Nat.le_of_ble_eq_true rfl, Nat.le_of_ble_eq_true rfl⟩ dL_law_532 (fun r_1576 H locs er_1576 Y => ?_)
  refine lv_fold (z := (-1)) er_1576 ?_
  refine lv_icmp_eq (tgt := 1526) hx hb dL_law_535 (by decide) (fun _ => ?_) (fun h => absurd (by decide) h)
  refine lv_iinc (v := 6) (lv' := [(3, .int 6), (2, .ref xm), (1, .ref xo), (0, .ref b)]) hx hb dL_law_1526 hl (k := 0) rfl (by decide) (by decide) rfl (fun ls hl => ?_)
  refine lv_goto (tgt := 18) hx hb dL_law_1529 (by decide) ?_
  exact tail _ _ _ Y.2.2 (lv_sub hl [0, 3] rfl)
set_option maxHeartbeats 4000000 in
set_option maxRecDepth 100000 in
theorem law_10 {p : Program} {e : Env} {s : State} {m : MethodId} {below : List Frame} {meth : Method} {c : Code} (l : Launch) {b : Nat} {xs : Nat → Int32} (C0 : lw_At p s m meth c b 6 xs) {G : GG} {A : Nat → Prop} (hAe : A = (fun q : Nat => s.heap.size ≤ q)) (S : SX G A p s m meth c RL code 4 ret) {Lx Lm : List Nat} {fx fm : HF} {H : Heap} {locs : List Loc} {ls : Array Slot} {xo xm w ta ag sc nw pa fe cl wo si we k rd jd rg dd mo fo su ch m_a m_im m_te m_tp m_pi m_co m_na m_vl m_tr m_ac m_as_ m_su m_wi_ m_se : Nat} (p_xo : pt Lx fx xo (.inr (11, [.ref w, .ref k, .ref rd, .ref jd, .ref rg, .ref dd, .ref fo, .ref su, .ref ch]))) (p_w : pt Lx fx w (.inr (10, [.ref ta, .ref ag, .ref sc, .ref nw, .ref pa, .ref fe, .ref cl, .ref wo, .ref si, .ref we, .int 0, .int 0, .int (-1), .int 0, .int 0]))) (p_dd : pt Lx fx dd (.inr (1, [.ref w, .ref jd, .ref rg, .ref mo, .int 0]))) (p_xm : pt Lm fm xm (.inr (12, [.ref m_a, .ref m_im, .ref m_te, .ref m_tp, .int 0, .int (-1), .int (-1), .int 0, .int 0, .int 0, .int 0, .long 0, .int 0, .int 0, .int 0, .ref m_pi, .ref m_co, .int 0, .int 0, .int 0, .int 0, .int 0, .ref m_na, .ref m_vl, .ref m_tr, .int 1, .ref m_ac, .ref m_as_, .ref m_su, .ref m_wi_, .int 0, .ref m_se]))) (p_m_a : pt Lm fm m_a (.inl (G.2 0, 10568, .inl a0))) (Y : DY G A s (va_pl Lx fx) Lm fm H locs) (hl : lv_has ls 4 [(3, .int 0), (2, .ref xm), (1, .ref xo), (0, .ref b)]) (tail : ∀ (H : Heap) (locs : List Loc) (ls : Array Slot), va_S A s.heap H locs → lv_has ls 4 [(3, .int 6), (0, .ref b)] → W p l e room_1 s m #[Value.ref b] below meth c H locs 1000 60000 (lw_Z below #[Value.ref b] s) (F0 m 18 ls [])) : W p l e room_1 s m #[Value.ref b] below meth c H locs 1000 60000 (lw_Z below #[Value.ref b] s) (F0 m 33 ls [.int 10]) := by
  obtain ⟨hx, hb, hr, hml, hown, hts, hX, hbl, hlocks, hgv⟩ := id C0
  have hbA : ¬ A b := by rw [hAe]; exact Nat.not_le.mpr hbl
  refine lv_tableIn (off := 507) (tgt := 540) hx hb dL_law_33 (by decide) (by decide) (by decide) (by decide) ?_
  refine lv_aload_n hx hb dL_law_540 rfl (lv_at hl 2 rfl) ?_
  refine lv_aload_n hx hb dL_law_541 rfl (lv_at hl 3 rfl) ?_
  refine lv_iload_n hx hb dL_law_542 rfl (lv_at hl 0 rfl) ?_
  refine lv_iconst (v := 1) hx hb dL_law_543 (by decide) ?_
  refine lv_iadd hx hb dL_law_544 ?_
  refine lv_fold (z := 1) (by decide) ?_
  refine va_sld hx hb hX hbl hbA Y.2.2 (by unfold vp_in; decide) dL_law_545 ?_
  refine lv_fold (z := xs 1) rfl ?_
  refine lv_aload_n hx hb dL_law_546 rfl (lv_at hl 3 rfl) ?_
  refine lv_iload_n hx hb dL_law_547 rfl (lv_at hl 0 rfl) ?_
  refine lv_iconst (v := 2) hx hb dL_law_548 (by decide) ?_
  refine lv_iadd hx hb dL_law_549 ?_
  refine lv_fold (z := 2) (by decide) ?_
  refine va_sld hx hb hX hbl hbA Y.2.2 (by unfold vp_in; decide) dL_law_550 ?_
  refine lv_fold (z := xs 2) rfl ?_
  have Y := Y.swap
  refine cVp (As := [.int (xs 1), .int (xs 2)]) (rest := []) S Y (c_X11_skate (l := l) p_xo p_w p_dd) cw_X11_skate kmL_59 p_xo ok_X11.1 rfl rfl ⟨Nat.le_of_ble_eq_true rfl, Nat.le_of_ble_eq_true rfl⟩ hl.1 rfl (Nat.le_of_ble_eq_true rfl) ⟨Nat.le_of_ble_eq_true rfl, Nat.le_of_ble_eq_true rfl⟩ dL_law_551 (fun r_1577 H locs er_1577 Y => ?_)
  refine lv_fold (z := (-1)) er_1577 ?_
  have Y := Y.swap
  refine lv_aload_n hx hb dL_law_554 rfl (lv_at hl 1 rfl) ?_
  refine lv_aload_n hx hb dL_law_555 rfl (lv_at hl 3 rfl) ?_
  refine lv_iload_n hx hb dL_law_556 rfl (lv_at hl 0 rfl) ?_
  refine lv_iconst (v := 1) hx hb dL_law_557 (by decide) ?_
  refine lv_iadd hx hb dL_law_558 ?_
  refine lv_fold (z := 1) (by decide) ?_
  refine va_sld hx hb hX hbl hbA Y.2.2 (by unfold vp_in; decide) dL_law_559 ?_
  refine lv_fold (z := xs 1) rfl ?_
  refine lv_aload_n hx hb dL_law_560 rfl (lv_at hl 3 rfl) ?_
  refine lv_iload_n hx hb dL_law_561 rfl (lv_at hl 0 rfl) ?_
  refine lv_iconst (v := 2) hx hb dL_law_562 (by decide) ?_
  refine lv_iadd hx hb dL_law_563 ?_
  refine lv_fold (z := 2) (by decide) ?_
  refine va_sld hx hb hX hbl hbA Y.2.2 (by unfold vp_in; decide) dL_law_564 ?_
  refine lv_fold (z := xs 2) rfl ?_
  refine cVp (As := [.int (xs 1), .int (xs 2)]) (rest := [.int (-1)]) S Y (c_X12_skate (l := l) p_xm p_m_a) cw_X12_skate kmL_62 p_xm ok_X12.1 rfl rfl ⟨Nat.le_of_ble_eq_true rfl, Nat.le_of_ble_eq_true rfl⟩ hl.1 rfl (Nat.le_of_ble_eq_true rfl) ⟨Nat.le_of_ble_eq_true rfl, Nat.le_of_ble_eq_true rfl⟩ dL_law_565 (fun r_1578 H locs er_1578 Y => ?_)
  refine lv_fold (z := (-1)) er_1578 ?_
  refine lv_icmp_eq (tgt := 1526) hx hb dL_law_568 (by decide) (fun _ => ?_) (fun h => absurd (by decide) h)
  refine lv_iinc (v := 6) (lv' := [(3, .int 6), (2, .ref xm), (1, .ref xo), (0, .ref b)]) hx hb dL_law_1526 hl (k := 0) rfl (by decide) (by decide) rfl (fun ls hl => ?_)
  refine lv_goto (tgt := 18) hx hb dL_law_1529 (by decide) ?_
  exact tail _ _ _ Y.2.2 (lv_sub hl [0, 3] rfl)
set_option maxHeartbeats 4000000 in
set_option maxRecDepth 100000 in
theorem law_11 {p : Program} {e : Env} {s : State} {m : MethodId} {below : List Frame} {meth : Method} {c : Code} (l : Launch) {b : Nat} {xs : Nat → Int32} (C0 : lw_At p s m meth c b 6 xs) {G : GG} {A : Nat → Prop} (hAe : A = (fun q : Nat => s.heap.size ≤ q)) (S : SX G A p s m meth c RL code 4 ret) {Lx Lm : List Nat} {fx fm : HF} {H : Heap} {locs : List Loc} {ls : Array Slot} {xo xm w ta ag sc nw pa fe cl wo si we oa aa k rd jd rg dd mo fo su ch m_a m_im m_te m_tp m_pi m_co m_na m_vl m_tr m_ac m_as_ m_su m_wi_ m_se : Nat} (p_xo : pt Lx fx xo (.inr (11, [.ref w, .ref k, .ref rd, .ref jd, .ref rg, .ref dd, .ref fo, .ref su, .ref ch]))) (p_w : pt Lx fx w (.inr (10, [.ref ta, .ref ag, .ref sc, .ref nw, .ref pa, .ref fe, .ref cl, .ref wo, .ref si, .ref we, .int 0, .int 0, .int (-1), .int 0, .int 0]))) (p_nw : pt Lx fx nw (.inr (4, [.ref oa, .ref aa, .int 0, .int 0, .int 0, .int 0, .int 137]))) (p_rg : pt Lx fx rg (.inr (6, [.ref w, .int 0]))) (p_dd : pt Lx fx dd (.inr (1, [.ref w, .ref jd, .ref rg, .ref mo, .int 0]))) (p_xm : pt Lm fm xm (.inr (12, [.ref m_a, .ref m_im, .ref m_te, .ref m_tp, .int 0, .int (-1), .int (-1), .int 0, .int 0, .int 0, .int 0, .long 0, .int 0, .int 0, .int 0, .ref m_pi, .ref m_co, .int 0, .int 0, .int 0, .int 0, .int 0, .ref m_na, .ref m_vl, .ref m_tr, .int 1, .ref m_ac, .ref m_as_, .ref m_su, .ref m_wi_, .int 0, .ref m_se]))) (p_m_a : pt Lm fm m_a (.inl (G.2 0, 10568, .inl a0))) (Y : DY G A s (va_pl Lx fx) Lm fm H locs) (hl : lv_has ls 4 [(3, .int 0), (2, .ref xm), (1, .ref xo), (0, .ref b)]) (tail : ∀ (H : Heap) (locs : List Loc) (ls : Array Slot), va_S A s.heap H locs → lv_has ls 4 [(3, .int 6), (0, .ref b)] → W p l e room_1 s m #[Value.ref b] below meth c H locs 1000 60000 (lw_Z below #[Value.ref b] s) (F0 m 18 ls [])) : W p l e room_1 s m #[Value.ref b] below meth c H locs 1000 60000 (lw_Z below #[Value.ref b] s) (F0 m 33 ls [.int 11]) := by
  obtain ⟨hx, hb, hr, hml, hown, hts, hX, hbl, hlocks, hgv⟩ := id C0
  have hbA : ¬ A b := by rw [hAe]; exact Nat.not_le.mpr hbl
  refine lv_tableIn (off := 540) (tgt := 573) hx hb dL_law_33 (by decide) (by decide) (by decide) (by decide) ?_
  refine lv_aload_n hx hb dL_law_573 rfl (lv_at hl 2 rfl) ?_
  refine lv_aload_n hx hb dL_law_574 rfl (lv_at hl 3 rfl) ?_
  refine lv_iload_n hx hb dL_law_575 rfl (lv_at hl 0 rfl) ?_
  refine lv_iconst (v := 1) hx hb dL_law_576 (by decide) ?_
  refine lv_iadd hx hb dL_law_577 ?_
  refine lv_fold (z := 1) (by decide) ?_
  refine va_sld hx hb hX hbl hbA Y.2.2 (by unfold vp_in; decide) dL_law_578 ?_
  refine lv_fold (z := xs 1) rfl ?_
  have Y := Y.swap
  refine cVp (As := [.int (xs 1)]) (rest := []) S Y (c_X11_strike (l := l) p_xo p_w p_dd p_rg p_nw) cw_X11_strike kmL_63 p_xo ok_X11.1 rfl rfl ⟨Nat.le_of_ble_eq_true rfl, Nat.le_of_ble_eq_true rfl⟩ hl.1 rfl (Nat.le_of_ble_eq_true rfl) ⟨Nat.le_of_ble_eq_true rfl, Nat.le_of_ble_eq_true rfl⟩ dL_law_579 (fun r_1579 H locs er_1579 Y => ?_)
  refine lv_fold (z := (-1)) er_1579 ?_
  have Y := Y.swap
  refine lv_aload_n hx hb dL_law_582 rfl (lv_at hl 1 rfl) ?_
  refine lv_aload_n hx hb dL_law_583 rfl (lv_at hl 3 rfl) ?_
  refine lv_iload_n hx hb dL_law_584 rfl (lv_at hl 0 rfl) ?_
  refine lv_iconst (v := 1) hx hb dL_law_585 (by decide) ?_
  refine lv_iadd hx hb dL_law_586 ?_
  refine lv_fold (z := 1) (by decide) ?_
  refine va_sld hx hb hX hbl hbA Y.2.2 (by unfold vp_in; decide) dL_law_587 ?_
  refine lv_fold (z := xs 1) rfl ?_
  refine cVp (As := [.int (xs 1)]) (rest := [.int (-1)]) S Y (c_X12_strike (l := l) p_xm p_m_a) cw_X12_strike kmL_66 p_xm ok_X12.1 rfl rfl ⟨Nat.le_of_ble_eq_true rfl, Nat.le_of_ble_eq_true rfl⟩ hl.1 rfl (Nat.le_of_ble_eq_true rfl) ⟨Nat.le_of_ble_eq_true rfl, Nat.le_of_ble_eq_true rfl⟩ dL_law_588 (fun r_1580 H locs er_1580 Y => ?_)
  refine lv_fold (z := (-1)) er_1580 ?_
  refine lv_icmp_eq (tgt := 1526) hx hb dL_law_591 (by decide) (fun _ => ?_) (fun h => absurd (by decide) h)
  refine lv_iinc (v := 6) (lv' := [(3, .int 6), (2, .ref xm), (1, .ref xo), (0, .ref b)]) hx hb dL_law_1526 hl (k := 0) rfl (by decide) (by decide) rfl (fun ls hl => ?_)
  refine lv_goto (tgt := 18) hx hb dL_law_1529 (by decide) ?_
  exact tail _ _ _ Y.2.2 (lv_sub hl [0, 3] rfl)
set_option maxHeartbeats 4000000 in
set_option maxRecDepth 100000 in
theorem law_12 {p : Program} {e : Env} {s : State} {m : MethodId} {below : List Frame} {meth : Method} {c : Code} (l : Launch) {b : Nat} {xs : Nat → Int32} (C0 : lw_At p s m meth c b 6 xs) {G : GG} {A : Nat → Prop} (hAe : A = (fun q : Nat => s.heap.size ≤ q)) (S : SX G A p s m meth c RL code 4 ret) {Lx Lm : List Nat} {fx fm : HF} {H : Heap} {locs : List Loc} {ls : Array Slot} {xo xm w ta ag sc nw pa fe cl wo si we oa aa k rd jd rg dd mo fo su ch m_a m_im m_te m_tp m_pi m_co m_na m_vl m_tr m_ac m_as_ m_su m_wi_ m_se : Nat} {pf : Nat → Option Nat} {L0 : List Nat} (p_xo : pt Lx fx xo (.inr (11, [.ref w, .ref k, .ref rd, .ref jd, .ref rg, .ref dd, .ref fo, .ref su, .ref ch]))) (p_w : pt Lx fx w (.inr (10, [.ref ta, .ref ag, .ref sc, .ref nw, .ref pa, .ref fe, .ref cl, .ref wo, .ref si, .ref we, .int 0, .int 0, .int (-1), .int 0, .int 0]))) (p_nw : pt Lx fx nw (.inr (4, [.ref oa, .ref aa, .int 0, .int 0, .int 0, .int 0, .int 137]))) (p_oa : pt Lx fx oa (.inl (G.2 0, 98, .inl (fun _ => 0)))) (p_aa : pt Lx fx aa (.inl (G.2 0, 90, .inl (fun _ => 0)))) (p_pa : pt Lx fx pa (.inl (G.2 3, 30, .inr (.inr (.inr (.inr pf)))))) (p_dd : pt Lx fx dd (.inr (1, [.ref w, .ref jd, .ref rg, .ref mo, .int 0]))) (p_xm : pt Lm fm xm (.inr (12, [.ref m_a, .ref m_im, .ref m_te, .ref m_tp, .int 0, .int (-1), .int (-1), .int 0, .int 0, .int 0, .int 0, .long 0, .int 0, .int 0, .int 0, .ref m_pi, .ref m_co, .int 0, .int 0, .int 0, .int 0, .int 0, .ref m_na, .ref m_vl, .ref m_tr, .int 1, .ref m_ac, .ref m_as_, .ref m_su, .ref m_wi_, .int 0, .ref m_se]))) (p_m_a : pt Lm fm m_a (.inl (G.2 0, 10568, .inl a0))) (hpf : pastOK G L0 nw Lx fx pf 30) (Y : DY G A s (va_pl Lx fx) Lm fm H locs) (hl : lv_has ls 4 [(3, .int 0), (2, .ref xm), (1, .ref xo), (0, .ref b)]) (tail : ∀ (H : Heap) (locs : List Loc) (ls : Array Slot), va_S A s.heap H locs → lv_has ls 4 [(3, .int 6), (0, .ref b)] → W p l e room_1 s m #[Value.ref b] below meth c H locs 1000 60000 (lw_Z below #[Value.ref b] s) (F0 m 18 ls [])) : W p l e room_1 s m #[Value.ref b] below meth c H locs 1000 60000 (lw_Z below #[Value.ref b] s) (F0 m 33 ls [.int 12]) := by
  obtain ⟨hx, hb, hr, hml, hown, hts, hX, hbl, hlocks, hgv⟩ := id C0
  have hbA : ¬ A b := by rw [hAe]; exact Nat.not_le.mpr hbl
  refine lv_tableIn (off := 563) (tgt := 596) hx hb dL_law_33 (by decide) (by decide) (by decide) (by decide) ?_
  refine lv_aload_n hx hb dL_law_596 rfl (lv_at hl 2 rfl) ?_
  refine lv_aload_n hx hb dL_law_597 rfl (lv_at hl 3 rfl) ?_
  refine lv_iload_n hx hb dL_law_598 rfl (lv_at hl 0 rfl) ?_
  refine lv_iconst (v := 1) hx hb dL_law_599 (by decide) ?_
  refine lv_iadd hx hb dL_law_600 ?_
  refine lv_fold (z := 1) (by decide) ?_
  refine va_sld hx hb hX hbl hbA Y.2.2 (by unfold vp_in; decide) dL_law_601 ?_
  refine lv_fold (z := xs 1) rfl ?_
  have Y := Y.swap
  refine cVi (As := [.int (xs 1)]) (rest := []) S Y (c_X11_day (l := l) p_xo p_w p_dd p_nw p_oa p_aa p_pa hpf) cw_X11_day kmL_67 p_xo ok_X11.1 rfl rfl ⟨Nat.le_of_ble_eq_true rfl, Nat.le_of_ble_eq_true rfl⟩ hl.1 rfl (Nat.le_of_ble_eq_true rfl) ⟨Nat.le_of_ble_eq_true rfl, Nat.le_of_ble_eq_true rfl⟩ dL_law_602 (fun r_1581 L_1582 f_1583 H locs hf_1583 Y => ?_)
  have Y := Y.swap
  refine lv_aload_n hx hb dL_law_605 rfl (lv_at hl 1 rfl) ?_
  refine lv_aload_n hx hb dL_law_606 rfl (lv_at hl 3 rfl) ?_
  refine lv_iload_n hx hb dL_law_607 rfl (lv_at hl 0 rfl) ?_
  refine lv_iconst (v := 1) hx hb dL_law_608 (by decide) ?_
  refine lv_iadd hx hb dL_law_609 ?_
  refine lv_fold (z := 1) (by decide) ?_
  refine va_sld hx hb hX hbl hbA Y.2.2 (by unfold vp_in; decide) dL_law_610 ?_
  refine lv_fold (z := xs 1) rfl ?_
  refine cVi (As := [.int (xs 1)]) (rest := [.int r_1581]) S Y (c_X12_day (l := l) p_xm p_m_a) cw_X12_day kmL_70 p_xm ok_X12.1 rfl rfl ⟨Nat.le_of_ble_eq_true rfl, Nat.le_of_ble_eq_true rfl⟩ hl.1 rfl (Nat.le_of_ble_eq_true rfl) ⟨Nat.le_of_ble_eq_true rfl, Nat.le_of_ble_eq_true rfl⟩ dL_law_611 (fun r_1584 L_1585 f_1586 H locs hf_1586 Y => ?_)
  refine lv_icmp_eq (tgt := 1526) hx hb dL_law_614 (by decide) (fun _ => ?_) (fun h => absurd (hf_1583.trans hf_1586.symm) h)
  refine lv_iinc (v := 6) (lv' := [(3, .int 6), (2, .ref xm), (1, .ref xo), (0, .ref b)]) hx hb dL_law_1526 hl (k := 0) rfl (by decide) (by decide) rfl (fun ls hl => ?_)
  refine lv_goto (tgt := 18) hx hb dL_law_1529 (by decide) ?_
  exact tail _ _ _ Y.2.2 (lv_sub hl [0, 3] rfl)
set_option maxHeartbeats 4000000 in
set_option maxRecDepth 100000 in
theorem law_13 {p : Program} {e : Env} {s : State} {m : MethodId} {below : List Frame} {meth : Method} {c : Code} (l : Launch) {b : Nat} {xs : Nat → Int32} (C0 : lw_At p s m meth c b 6 xs) {G : GG} {A : Nat → Prop} (hAe : A = (fun q : Nat => s.heap.size ≤ q)) (S : SX G A p s m meth c RL code 4 ret) {Lx Lm : List Nat} {fx fm : HF} {H : Heap} {locs : List Loc} {ls : Array Slot} {xo xm w ta ag sc nw pa fe cl wo si we k rd jd rg dd fo su ch m_a m_im m_te m_tp m_pi m_co m_na m_vl m_tr m_ac m_as_ m_su m_wi_ m_se : Nat} (p_xo : pt Lx fx xo (.inr (11, [.ref w, .ref k, .ref rd, .ref jd, .ref rg, .ref dd, .ref fo, .ref su, .ref ch]))) (p_w : pt Lx fx w (.inr (10, [.ref ta, .ref ag, .ref sc, .ref nw, .ref pa, .ref fe, .ref cl, .ref wo, .ref si, .ref we, .int 0, .int 0, .int (-1), .int 0, .int 0]))) (p_xm : pt Lm fm xm (.inr (12, [.ref m_a, .ref m_im, .ref m_te, .ref m_tp, .int 0, .int (-1), .int (-1), .int 0, .int 0, .int 0, .int 0, .long 0, .int 0, .int 0, .int 0, .ref m_pi, .ref m_co, .int 0, .int 0, .int 0, .int 0, .int 0, .ref m_na, .ref m_vl, .ref m_tr, .int 1, .ref m_ac, .ref m_as_, .ref m_su, .ref m_wi_, .int 0, .ref m_se]))) (p_m_a : pt Lm fm m_a (.inl (G.2 0, 10568, .inl a0))) (p_m_te : pt Lm fm m_te (.inl (G.2 0, 2916, .inl (fun _ => 0)))) (Y : DY G A s (va_pl Lx fx) Lm fm H locs) (hl : lv_has ls 4 [(3, .int 0), (2, .ref xm), (1, .ref xo), (0, .ref b)]) (tail : ∀ (H : Heap) (locs : List Loc) (ls : Array Slot), va_S A s.heap H locs → lv_has ls 4 [(3, .int 6), (0, .ref b)] → W p l e room_1 s m #[Value.ref b] below meth c H locs 1000 60000 (lw_Z below #[Value.ref b] s) (F0 m 18 ls [])) : W p l e room_1 s m #[Value.ref b] below meth c H locs 1000 60000 (lw_Z below #[Value.ref b] s) (F0 m 33 ls [.int 13]) := by
  obtain ⟨hx, hb, hr, hml, hown, hts, hX, hbl, hlocks, hgv⟩ := id C0
  have hbA : ¬ A b := by rw [hAe]; exact Nat.not_le.mpr hbl
  refine lv_tableIn (off := 586) (tgt := 619) hx hb dL_law_33 (by decide) (by decide) (by decide) (by decide) ?_
  refine lv_aload_n hx hb dL_law_619 rfl (lv_at hl 2 rfl) ?_
  refine lv_aload_n hx hb dL_law_620 rfl (lv_at hl 3 rfl) ?_
  refine lv_iload_n hx hb dL_law_621 rfl (lv_at hl 0 rfl) ?_
  refine lv_iconst (v := 1) hx hb dL_law_622 (by decide) ?_
  refine lv_iadd hx hb dL_law_623 ?_
  refine lv_fold (z := 1) (by decide) ?_
  refine va_sld hx hb hX hbl hbA Y.2.2 (by unfold vp_in; decide) dL_law_624 ?_
  refine lv_fold (z := xs 1) rfl ?_
  have Y := Y.swap
  refine cVp (As := [.int (xs 1)]) (rest := []) S Y (c_X11_played (l := l) p_xo p_w) cw_X11_played kmL_71 p_xo ok_X11.1 rfl rfl ⟨Nat.le_of_ble_eq_true rfl, Nat.le_of_ble_eq_true rfl⟩ hl.1 rfl (Nat.le_of_ble_eq_true rfl) ⟨Nat.le_of_ble_eq_true rfl, Nat.le_of_ble_eq_true rfl⟩ dL_law_625 (fun r_1587 H locs er_1587 Y => ?_)
  refine lv_fold (z := (-2)) er_1587 ?_
  have Y := Y.swap
  refine lv_aload_n hx hb dL_law_628 rfl (lv_at hl 1 rfl) ?_
  refine lv_aload_n hx hb dL_law_629 rfl (lv_at hl 3 rfl) ?_
  refine lv_iload_n hx hb dL_law_630 rfl (lv_at hl 0 rfl) ?_
  refine lv_iconst (v := 1) hx hb dL_law_631 (by decide) ?_
  refine lv_iadd hx hb dL_law_632 ?_
  refine lv_fold (z := 1) (by decide) ?_
  refine va_sld hx hb hX hbl hbA Y.2.2 (by unfold vp_in; decide) dL_law_633 ?_
  refine lv_fold (z := xs 1) rfl ?_
  refine cVp (As := [.int (xs 1)]) (rest := [.int (-2)]) S Y (c_X12_played (l := l) p_xm p_m_a p_m_te) cw_X12_played kmL_74 p_xm ok_X12.1 rfl rfl ⟨Nat.le_of_ble_eq_true rfl, Nat.le_of_ble_eq_true rfl⟩ hl.1 rfl (Nat.le_of_ble_eq_true rfl) ⟨Nat.le_of_ble_eq_true rfl, Nat.le_of_ble_eq_true rfl⟩ dL_law_634 (fun r_1588 H locs er_1588 Y => ?_)
  refine lv_fold (z := (-2)) er_1588 ?_
  refine lv_icmp_eq (tgt := 1526) hx hb dL_law_637 (by decide) (fun _ => ?_) (fun h => absurd (by decide) h)
  refine lv_iinc (v := 6) (lv' := [(3, .int 6), (2, .ref xm), (1, .ref xo), (0, .ref b)]) hx hb dL_law_1526 hl (k := 0) rfl (by decide) (by decide) rfl (fun ls hl => ?_)
  refine lv_goto (tgt := 18) hx hb dL_law_1529 (by decide) ?_
  exact tail _ _ _ Y.2.2 (lv_sub hl [0, 3] rfl)
set_option maxHeartbeats 4000000 in
set_option maxRecDepth 100000 in
theorem law_14 {p : Program} {e : Env} {s : State} {m : MethodId} {below : List Frame} {meth : Method} {c : Code} (l : Launch) {b : Nat} {xs : Nat → Int32} (C0 : lw_At p s m meth c b 6 xs) {G : GG} {A : Nat → Prop} (hAe : A = (fun q : Nat => s.heap.size ≤ q)) (S : SX G A p s m meth c RL code 4 ret) {Lx Lm : List Nat} {fx fm : HF} {H : Heap} {locs : List Loc} {ls : Array Slot} {xo xm w ta ag sc nw pa fe cl wo si we k rd jd rg dd fo su ch m_a m_im m_te m_tp m_pi m_co m_na m_vl m_tr m_ac m_as_ m_su m_wi_ m_se : Nat} (p_xo : pt Lx fx xo (.inr (11, [.ref w, .ref k, .ref rd, .ref jd, .ref rg, .ref dd, .ref fo, .ref su, .ref ch]))) (p_w : pt Lx fx w (.inr (10, [.ref ta, .ref ag, .ref sc, .ref nw, .ref pa, .ref fe, .ref cl, .ref wo, .ref si, .ref we, .int 0, .int 0, .int (-1), .int 0, .int 0]))) (p_xm : pt Lm fm xm (.inr (12, [.ref m_a, .ref m_im, .ref m_te, .ref m_tp, .int 0, .int (-1), .int (-1), .int 0, .int 0, .int 0, .int 0, .long 0, .int 0, .int 0, .int 0, .ref m_pi, .ref m_co, .int 0, .int 0, .int 0, .int 0, .int 0, .ref m_na, .ref m_vl, .ref m_tr, .int 1, .ref m_ac, .ref m_as_, .ref m_su, .ref m_wi_, .int 0, .ref m_se]))) (p_m_a : pt Lm fm m_a (.inl (G.2 0, 10568, .inl a0))) (Y : DY G A s (va_pl Lx fx) Lm fm H locs) (hl : lv_has ls 4 [(3, .int 0), (2, .ref xm), (1, .ref xo), (0, .ref b)]) (tail : ∀ (H : Heap) (locs : List Loc) (ls : Array Slot), va_S A s.heap H locs → lv_has ls 4 [(3, .int 6), (0, .ref b)] → W p l e room_1 s m #[Value.ref b] below meth c H locs 1000 60000 (lw_Z below #[Value.ref b] s) (F0 m 18 ls [])) : W p l e room_1 s m #[Value.ref b] below meth c H locs 1000 60000 (lw_Z below #[Value.ref b] s) (F0 m 33 ls [.int 14]) := by
  obtain ⟨hx, hb, hr, hml, hown, hts, hX, hbl, hlocks, hgv⟩ := id C0
  have hbA : ¬ A b := by rw [hAe]; exact Nat.not_le.mpr hbl
  refine lv_tableIn (off := 609) (tgt := 642) hx hb dL_law_33 (by decide) (by decide) (by decide) (by decide) ?_
  refine lv_aload_n hx hb dL_law_642 rfl (lv_at hl 2 rfl) ?_
  refine lv_aload_n hx hb dL_law_643 rfl (lv_at hl 3 rfl) ?_
  refine lv_iload_n hx hb dL_law_644 rfl (lv_at hl 0 rfl) ?_
  refine lv_iconst (v := 1) hx hb dL_law_645 (by decide) ?_
  refine lv_iadd hx hb dL_law_646 ?_
  refine lv_fold (z := 1) (by decide) ?_
  refine va_sld hx hb hX hbl hbA Y.2.2 (by unfold vp_in; decide) dL_law_647 ?_
  refine lv_fold (z := xs 1) rfl ?_
  refine lv_aload_n hx hb dL_law_648 rfl (lv_at hl 3 rfl) ?_
  refine lv_iload_n hx hb dL_law_649 rfl (lv_at hl 0 rfl) ?_
  refine lv_iconst (v := 2) hx hb dL_law_650 (by decide) ?_
  refine lv_iadd hx hb dL_law_651 ?_
  refine lv_fold (z := 2) (by decide) ?_
  refine va_sld hx hb hX hbl hbA Y.2.2 (by unfold vp_in; decide) dL_law_652 ?_
  refine lv_fold (z := xs 2) rfl ?_
  have Y := Y.swap
  refine cVp (As := [.int (xs 1), .int (xs 2)]) (rest := []) S Y (c_X11_years (l := l) p_xo p_w) cw_X11_years kmL_75 p_xo ok_X11.1 rfl rfl ⟨Nat.le_of_ble_eq_true rfl, Nat.le_of_ble_eq_true rfl⟩ hl.1 rfl (Nat.le_of_ble_eq_true rfl) ⟨Nat.le_of_ble_eq_true rfl, Nat.le_of_ble_eq_true rfl⟩ dL_law_653 (fun r_1589 H locs er_1589 Y => ?_)
  refine lv_fold (z := (-1)) er_1589 ?_
  have Y := Y.swap
  refine lv_aload_n hx hb dL_law_656 rfl (lv_at hl 1 rfl) ?_
  refine lv_aload_n hx hb dL_law_657 rfl (lv_at hl 3 rfl) ?_
  refine lv_iload_n hx hb dL_law_658 rfl (lv_at hl 0 rfl) ?_
  refine lv_iconst (v := 1) hx hb dL_law_659 (by decide) ?_
  refine lv_iadd hx hb dL_law_660 ?_
  refine lv_fold (z := 1) (by decide) ?_
  refine va_sld hx hb hX hbl hbA Y.2.2 (by unfold vp_in; decide) dL_law_661 ?_
  refine lv_fold (z := xs 1) rfl ?_
  refine lv_aload_n hx hb dL_law_662 rfl (lv_at hl 3 rfl) ?_
  refine lv_iload_n hx hb dL_law_663 rfl (lv_at hl 0 rfl) ?_
  refine lv_iconst (v := 2) hx hb dL_law_664 (by decide) ?_
  refine lv_iadd hx hb dL_law_665 ?_
  refine lv_fold (z := 2) (by decide) ?_
  refine va_sld hx hb hX hbl hbA Y.2.2 (by unfold vp_in; decide) dL_law_666 ?_
  refine lv_fold (z := xs 2) rfl ?_
  refine cVp (As := [.int (xs 1), .int (xs 2)]) (rest := [.int (-1)]) S Y (c_X12_years (l := l) p_xm p_m_a) cw_X12_years kmL_78 p_xm ok_X12.1 rfl rfl ⟨Nat.le_of_ble_eq_true rfl, Nat.le_of_ble_eq_true rfl⟩ hl.1 rfl (Nat.le_of_ble_eq_true rfl) ⟨Nat.le_of_ble_eq_true rfl, Nat.le_of_ble_eq_true rfl⟩ dL_law_667 (fun r_1590 H locs er_1590 Y => ?_)
  refine lv_fold (z := (-1)) er_1590 ?_
  refine lv_icmp_eq (tgt := 1526) hx hb dL_law_670 (by decide) (fun _ => ?_) (fun h => absurd (by decide) h)
  refine lv_iinc (v := 6) (lv' := [(3, .int 6), (2, .ref xm), (1, .ref xo), (0, .ref b)]) hx hb dL_law_1526 hl (k := 0) rfl (by decide) (by decide) rfl (fun ls hl => ?_)
  refine lv_goto (tgt := 18) hx hb dL_law_1529 (by decide) ?_
  exact tail _ _ _ Y.2.2 (lv_sub hl [0, 3] rfl)
set_option maxHeartbeats 4000000 in
set_option maxRecDepth 100000 in
theorem law_15 {p : Program} {e : Env} {s : State} {m : MethodId} {below : List Frame} {meth : Method} {c : Code} (l : Launch) {b : Nat} {xs : Nat → Int32} (C0 : lw_At p s m meth c b 6 xs) {G : GG} {A : Nat → Prop} (hAe : A = (fun q : Nat => s.heap.size ≤ q)) (S : SX G A p s m meth c RL code 4 ret) {Lx Lm : List Nat} {fx fm : HF} {H : Heap} {locs : List Loc} {ls : Array Slot} {xo xm w ta ag sc nw pa fe cl wo si we k rd jd rg dd fo su ch m_a m_im m_te m_tp m_pi m_co m_na m_vl m_tr m_ac m_as_ m_su m_wi_ m_se : Nat} (p_xo : pt Lx fx xo (.inr (11, [.ref w, .ref k, .ref rd, .ref jd, .ref rg, .ref dd, .ref fo, .ref su, .ref ch]))) (p_w : pt Lx fx w (.inr (10, [.ref ta, .ref ag, .ref sc, .ref nw, .ref pa, .ref fe, .ref cl, .ref wo, .ref si, .ref we, .int 0, .int 0, .int (-1), .int 0, .int 0]))) (p_xm : pt Lm fm xm (.inr (12, [.ref m_a, .ref m_im, .ref m_te, .ref m_tp, .int 0, .int (-1), .int (-1), .int 0, .int 0, .int 0, .int 0, .long 0, .int 0, .int 0, .int 0, .ref m_pi, .ref m_co, .int 0, .int 0, .int 0, .int 0, .int 0, .ref m_na, .ref m_vl, .ref m_tr, .int 1, .ref m_ac, .ref m_as_, .ref m_su, .ref m_wi_, .int 0, .ref m_se]))) (p_m_a : pt Lm fm m_a (.inl (G.2 0, 10568, .inl a0))) (Y : DY G A s (va_pl Lx fx) Lm fm H locs) (hl : lv_has ls 4 [(3, .int 0), (2, .ref xm), (1, .ref xo), (0, .ref b)]) (tail : ∀ (H : Heap) (locs : List Loc) (ls : Array Slot), va_S A s.heap H locs → lv_has ls 4 [(3, .int 6), (0, .ref b)] → W p l e room_1 s m #[Value.ref b] below meth c H locs 1000 60000 (lw_Z below #[Value.ref b] s) (F0 m 18 ls [])) : W p l e room_1 s m #[Value.ref b] below meth c H locs 1000 60000 (lw_Z below #[Value.ref b] s) (F0 m 33 ls [.int 15]) := by
  obtain ⟨hx, hb, hr, hml, hown, hts, hX, hbl, hlocks, hgv⟩ := id C0
  have hbA : ¬ A b := by rw [hAe]; exact Nat.not_le.mpr hbl
  refine lv_tableIn (off := 642) (tgt := 675) hx hb dL_law_33 (by decide) (by decide) (by decide) (by decide) ?_
  refine lv_aload_n hx hb dL_law_675 rfl (lv_at hl 2 rfl) ?_
  have Y := Y.swap
  refine cVp (As := []) (rest := []) S Y (c_X11_undo (l := l) p_xo p_w) cw_X11_undo kmL_79 p_xo ok_X11.1 rfl rfl ⟨Nat.le_of_ble_eq_true rfl, Nat.le_of_ble_eq_true rfl⟩ hl.1 rfl (Nat.le_of_ble_eq_true rfl) ⟨Nat.le_of_ble_eq_true rfl, Nat.le_of_ble_eq_true rfl⟩ dL_law_676 (fun r_1591 H locs er_1591 Y => ?_)
  refine lv_fold (z := (-1)) er_1591 ?_
  have Y := Y.swap
  refine lv_aload_n hx hb dL_law_679 rfl (lv_at hl 1 rfl) ?_
  refine cVp (As := []) (rest := [.int (-1)]) S Y (c_X12_undo (l := l) p_xm p_m_a) cw_X12_undo kmL_82 p_xm ok_X12.1 rfl rfl ⟨Nat.le_of_ble_eq_true rfl, Nat.le_of_ble_eq_true rfl⟩ hl.1 rfl (Nat.le_of_ble_eq_true rfl) ⟨Nat.le_of_ble_eq_true rfl, Nat.le_of_ble_eq_true rfl⟩ dL_law_680 (fun r_1592 H locs er_1592 Y => ?_)
  refine lv_fold (z := (-1)) er_1592 ?_
  refine lv_icmp_eq (tgt := 1526) hx hb dL_law_683 (by decide) (fun _ => ?_) (fun h => absurd (by decide) h)
  refine lv_iinc (v := 6) (lv' := [(3, .int 6), (2, .ref xm), (1, .ref xo), (0, .ref b)]) hx hb dL_law_1526 hl (k := 0) rfl (by decide) (by decide) rfl (fun ls hl => ?_)
  refine lv_goto (tgt := 18) hx hb dL_law_1529 (by decide) ?_
  exact tail _ _ _ Y.2.2 (lv_sub hl [0, 3] rfl)
set_option maxHeartbeats 4000000 in
set_option maxRecDepth 100000 in
theorem law_16 {p : Program} {e : Env} {s : State} {m : MethodId} {below : List Frame} {meth : Method} {c : Code} (l : Launch) {b : Nat} {xs : Nat → Int32} (C0 : lw_At p s m meth c b 6 xs) {G : GG} {A : Nat → Prop} (hAe : A = (fun q : Nat => s.heap.size ≤ q)) (S : SX G A p s m meth c RL code 4 ret) {Lx Lm : List Nat} {fx fm : HF} {H : Heap} {locs : List Loc} {ls : Array Slot} {xo xm w ta ag sc nw pa fe cl wo si we k rd jd rg dd fo su ch m_a m_im m_te m_tp m_pi m_co m_na m_vl m_tr m_ac m_as_ m_su m_wi_ m_se : Nat} (p_xo : pt Lx fx xo (.inr (11, [.ref w, .ref k, .ref rd, .ref jd, .ref rg, .ref dd, .ref fo, .ref su, .ref ch]))) (p_w : pt Lx fx w (.inr (10, [.ref ta, .ref ag, .ref sc, .ref nw, .ref pa, .ref fe, .ref cl, .ref wo, .ref si, .ref we, .int 0, .int 0, .int (-1), .int 0, .int 0]))) (p_xm : pt Lm fm xm (.inr (12, [.ref m_a, .ref m_im, .ref m_te, .ref m_tp, .int 0, .int (-1), .int (-1), .int 0, .int 0, .int 0, .int 0, .long 0, .int 0, .int 0, .int 0, .ref m_pi, .ref m_co, .int 0, .int 0, .int 0, .int 0, .int 0, .ref m_na, .ref m_vl, .ref m_tr, .int 1, .ref m_ac, .ref m_as_, .ref m_su, .ref m_wi_, .int 0, .ref m_se]))) (p_m_a : pt Lm fm m_a (.inl (G.2 0, 10568, .inl a0))) (Y : DY G A s (va_pl Lx fx) Lm fm H locs) (hl : lv_has ls 4 [(3, .int 0), (2, .ref xm), (1, .ref xo), (0, .ref b)]) (tail : ∀ (H : Heap) (locs : List Loc) (ls : Array Slot), va_S A s.heap H locs → lv_has ls 4 [(3, .int 6), (0, .ref b)] → W p l e room_1 s m #[Value.ref b] below meth c H locs 1000 60000 (lw_Z below #[Value.ref b] s) (F0 m 18 ls [])) : W p l e room_1 s m #[Value.ref b] below meth c H locs 1000 60000 (lw_Z below #[Value.ref b] s) (F0 m 33 ls [.int 16]) := by
  obtain ⟨hx, hb, hr, hml, hown, hts, hX, hbl, hlocks, hgv⟩ := id C0
  have hbA : ¬ A b := by rw [hAe]; exact Nat.not_le.mpr hbl
  refine lv_tableIn (off := 655) (tgt := 688) hx hb dL_law_33 (by decide) (by decide) (by decide) (by decide) ?_
  refine lv_aload_n hx hb dL_law_688 rfl (lv_at hl 2 rfl) ?_
  refine lv_aload_n hx hb dL_law_689 rfl (lv_at hl 3 rfl) ?_
  refine lv_iload_n hx hb dL_law_690 rfl (lv_at hl 0 rfl) ?_
  refine lv_iconst (v := 1) hx hb dL_law_691 (by decide) ?_
  refine lv_iadd hx hb dL_law_692 ?_
  refine lv_fold (z := 1) (by decide) ?_
  refine va_sld hx hb hX hbl hbA Y.2.2 (by unfold vp_in; decide) dL_law_693 ?_
  refine lv_fold (z := xs 1) rfl ?_
  refine lv_aload_n hx hb dL_law_694 rfl (lv_at hl 3 rfl) ?_
  refine lv_iload_n hx hb dL_law_695 rfl (lv_at hl 0 rfl) ?_
  refine lv_iconst (v := 2) hx hb dL_law_696 (by decide) ?_
  refine lv_iadd hx hb dL_law_697 ?_
  refine lv_fold (z := 2) (by decide) ?_
  refine va_sld hx hb hX hbl hbA Y.2.2 (by unfold vp_in; decide) dL_law_698 ?_
  refine lv_fold (z := xs 2) rfl ?_
  have Y := Y.swap
  refine cVp (As := [.int (xs 1), .int (xs 2)]) (rest := []) S Y (c_X11_of (l := l) p_xo p_w) cw_X11_of kmL_83 p_xo ok_X11.1 rfl rfl ⟨Nat.le_of_ble_eq_true rfl, Nat.le_of_ble_eq_true rfl⟩ hl.1 rfl (Nat.le_of_ble_eq_true rfl) ⟨Nat.le_of_ble_eq_true rfl, Nat.le_of_ble_eq_true rfl⟩ dL_law_699 (fun r_1593 H locs er_1593 Y => ?_)
  refine lv_fold (z := (-1000)) er_1593 ?_
  have Y := Y.swap
  refine lv_aload_n hx hb dL_law_702 rfl (lv_at hl 1 rfl) ?_
  refine lv_aload_n hx hb dL_law_703 rfl (lv_at hl 3 rfl) ?_
  refine lv_iload_n hx hb dL_law_704 rfl (lv_at hl 0 rfl) ?_
  refine lv_iconst (v := 1) hx hb dL_law_705 (by decide) ?_
  refine lv_iadd hx hb dL_law_706 ?_
  refine lv_fold (z := 1) (by decide) ?_
  refine va_sld hx hb hX hbl hbA Y.2.2 (by unfold vp_in; decide) dL_law_707 ?_
  refine lv_fold (z := xs 1) rfl ?_
  refine lv_aload_n hx hb dL_law_708 rfl (lv_at hl 3 rfl) ?_
  refine lv_iload_n hx hb dL_law_709 rfl (lv_at hl 0 rfl) ?_
  refine lv_iconst (v := 2) hx hb dL_law_710 (by decide) ?_
  refine lv_iadd hx hb dL_law_711 ?_
  refine lv_fold (z := 2) (by decide) ?_
  refine va_sld hx hb hX hbl hbA Y.2.2 (by unfold vp_in; decide) dL_law_712 ?_
  refine lv_fold (z := xs 2) rfl ?_
  refine cVp (As := [.int (xs 1), .int (xs 2)]) (rest := [.int (-1000)]) S Y (c_X12_of (l := l) p_xm p_m_a) cw_X12_of kmL_86 p_xm ok_X12.1 rfl rfl ⟨Nat.le_of_ble_eq_true rfl, Nat.le_of_ble_eq_true rfl⟩ hl.1 rfl (Nat.le_of_ble_eq_true rfl) ⟨Nat.le_of_ble_eq_true rfl, Nat.le_of_ble_eq_true rfl⟩ dL_law_713 (fun r_1594 H locs er_1594 Y => ?_)
  refine lv_fold (z := (-1000)) er_1594 ?_
  refine lv_icmp_eq (tgt := 1526) hx hb dL_law_716 (by decide) (fun _ => ?_) (fun h => absurd (by decide) h)
  refine lv_iinc (v := 6) (lv' := [(3, .int 6), (2, .ref xm), (1, .ref xo), (0, .ref b)]) hx hb dL_law_1526 hl (k := 0) rfl (by decide) (by decide) rfl (fun ls hl => ?_)
  refine lv_goto (tgt := 18) hx hb dL_law_1529 (by decide) ?_
  exact tail _ _ _ Y.2.2 (lv_sub hl [0, 3] rfl)
set_option maxHeartbeats 4000000 in
set_option maxRecDepth 100000 in
theorem law_17 {p : Program} {e : Env} {s : State} {m : MethodId} {below : List Frame} {meth : Method} {c : Code} (l : Launch) {b : Nat} {xs : Nat → Int32} (C0 : lw_At p s m meth c b 6 xs) {G : GG} {A : Nat → Prop} (hAe : A = (fun q : Nat => s.heap.size ≤ q)) (S : SX G A p s m meth c RL code 4 ret) {Lx Lm : List Nat} {fx fm : HF} {H : Heap} {locs : List Loc} {ls : Array Slot} {xo xm w ta ag sc nw pa fe cl wo si we oa aa k rd jd rg dd fo su ch m_a m_im m_te m_tp m_pi m_co m_na m_vl m_tr m_ac m_as_ m_su m_wi_ m_se : Nat} (p_xo : pt Lx fx xo (.inr (11, [.ref w, .ref k, .ref rd, .ref jd, .ref rg, .ref dd, .ref fo, .ref su, .ref ch]))) (p_w : pt Lx fx w (.inr (10, [.ref ta, .ref ag, .ref sc, .ref nw, .ref pa, .ref fe, .ref cl, .ref wo, .ref si, .ref we, .int 0, .int 0, .int (-1), .int 0, .int 0]))) (p_nw : pt Lx fx nw (.inr (4, [.ref oa, .ref aa, .int 0, .int 0, .int 0, .int 0, .int 137]))) (p_xm : pt Lm fm xm (.inr (12, [.ref m_a, .ref m_im, .ref m_te, .ref m_tp, .int 0, .int (-1), .int (-1), .int 0, .int 0, .int 0, .int 0, .long 0, .int 0, .int 0, .int 0, .ref m_pi, .ref m_co, .int 0, .int 0, .int 0, .int 0, .int 0, .ref m_na, .ref m_vl, .ref m_tr, .int 1, .ref m_ac, .ref m_as_, .ref m_su, .ref m_wi_, .int 0, .ref m_se]))) (p_m_a : pt Lm fm m_a (.inl (G.2 0, 10568, .inl a0))) (Y : DY G A s (va_pl Lx fx) Lm fm H locs) (hl : lv_has ls 4 [(3, .int 0), (2, .ref xm), (1, .ref xo), (0, .ref b)]) (tail : ∀ (H : Heap) (locs : List Loc) (ls : Array Slot), va_S A s.heap H locs → lv_has ls 4 [(3, .int 6), (0, .ref b)] → W p l e room_1 s m #[Value.ref b] below meth c H locs 1000 60000 (lw_Z below #[Value.ref b] s) (F0 m 18 ls [])) : W p l e room_1 s m #[Value.ref b] below meth c H locs 1000 60000 (lw_Z below #[Value.ref b] s) (F0 m 33 ls [.int 17]) := by
  obtain ⟨hx, hb, hr, hml, hown, hts, hX, hbl, hlocks, hgv⟩ := id C0
  have hbA : ¬ A b := by rw [hAe]; exact Nat.not_le.mpr hbl
  refine lv_tableIn (off := 688) (tgt := 721) hx hb dL_law_33 (by decide) (by decide) (by decide) (by decide) ?_
  refine lv_aload_n hx hb dL_law_721 rfl (lv_at hl 2 rfl) ?_
  refine lv_aload_n hx hb dL_law_722 rfl (lv_at hl 3 rfl) ?_
  refine lv_iload_n hx hb dL_law_723 rfl (lv_at hl 0 rfl) ?_
  refine lv_iconst (v := 1) hx hb dL_law_724 (by decide) ?_
  refine lv_iadd hx hb dL_law_725 ?_
  refine lv_fold (z := 1) (by decide) ?_
  refine va_sld hx hb hX hbl hbA Y.2.2 (by unfold vp_in; decide) dL_law_726 ?_
  refine lv_fold (z := xs 1) rfl ?_
  refine lv_aload_n hx hb dL_law_727 rfl (lv_at hl 3 rfl) ?_
  refine lv_iload_n hx hb dL_law_728 rfl (lv_at hl 0 rfl) ?_
  refine lv_iconst (v := 2) hx hb dL_law_729 (by decide) ?_
  refine lv_iadd hx hb dL_law_730 ?_
  refine lv_fold (z := 2) (by decide) ?_
  refine va_sld hx hb hX hbl hbA Y.2.2 (by unfold vp_in; decide) dL_law_731 ?_
  refine lv_fold (z := xs 2) rfl ?_
  have Y := Y.swap
  refine cVp (As := [.int (xs 1), .int (xs 2)]) (rest := []) S Y (c_X11_ofOath (l := l) p_xo p_w p_nw) cw_X11_ofOath kmL_87 p_xo ok_X11.1 rfl rfl ⟨Nat.le_of_ble_eq_true rfl, Nat.le_of_ble_eq_true rfl⟩ hl.1 rfl (Nat.le_of_ble_eq_true rfl) ⟨Nat.le_of_ble_eq_true rfl, Nat.le_of_ble_eq_true rfl⟩ dL_law_732 (fun r_1595 H locs er_1595 Y => ?_)
  refine lv_fold (z := (-1)) er_1595 ?_
  have Y := Y.swap
  refine lv_aload_n hx hb dL_law_735 rfl (lv_at hl 1 rfl) ?_
  refine lv_aload_n hx hb dL_law_736 rfl (lv_at hl 3 rfl) ?_
  refine lv_iload_n hx hb dL_law_737 rfl (lv_at hl 0 rfl) ?_
  refine lv_iconst (v := 1) hx hb dL_law_738 (by decide) ?_
  refine lv_iadd hx hb dL_law_739 ?_
  refine lv_fold (z := 1) (by decide) ?_
  refine va_sld hx hb hX hbl hbA Y.2.2 (by unfold vp_in; decide) dL_law_740 ?_
  refine lv_fold (z := xs 1) rfl ?_
  refine lv_aload_n hx hb dL_law_741 rfl (lv_at hl 3 rfl) ?_
  refine lv_iload_n hx hb dL_law_742 rfl (lv_at hl 0 rfl) ?_
  refine lv_iconst (v := 2) hx hb dL_law_743 (by decide) ?_
  refine lv_iadd hx hb dL_law_744 ?_
  refine lv_fold (z := 2) (by decide) ?_
  refine va_sld hx hb hX hbl hbA Y.2.2 (by unfold vp_in; decide) dL_law_745 ?_
  refine lv_fold (z := xs 2) rfl ?_
  refine cVp (As := [.int (xs 1), .int (xs 2)]) (rest := [.int (-1)]) S Y (c_X12_ofOath (l := l) p_xm p_m_a) cw_X12_ofOath kmL_90 p_xm ok_X12.1 rfl rfl ⟨Nat.le_of_ble_eq_true rfl, Nat.le_of_ble_eq_true rfl⟩ hl.1 rfl (Nat.le_of_ble_eq_true rfl) ⟨Nat.le_of_ble_eq_true rfl, Nat.le_of_ble_eq_true rfl⟩ dL_law_746 (fun r_1596 H locs er_1596 Y => ?_)
  refine lv_fold (z := (-1)) er_1596 ?_
  refine lv_icmp_eq (tgt := 1526) hx hb dL_law_749 (by decide) (fun _ => ?_) (fun h => absurd (by decide) h)
  refine lv_iinc (v := 6) (lv' := [(3, .int 6), (2, .ref xm), (1, .ref xo), (0, .ref b)]) hx hb dL_law_1526 hl (k := 0) rfl (by decide) (by decide) rfl (fun ls hl => ?_)
  refine lv_goto (tgt := 18) hx hb dL_law_1529 (by decide) ?_
  exact tail _ _ _ Y.2.2 (lv_sub hl [0, 3] rfl)
set_option maxHeartbeats 4000000 in
set_option maxRecDepth 100000 in
theorem law_18 {p : Program} {e : Env} {s : State} {m : MethodId} {below : List Frame} {meth : Method} {c : Code} (l : Launch) {b : Nat} {xs : Nat → Int32} (C0 : lw_At p s m meth c b 6 xs) {G : GG} {A : Nat → Prop} (hAe : A = (fun q : Nat => s.heap.size ≤ q)) (S : SX G A p s m meth c RL code 4 ret) {Lx Lm : List Nat} {fx fm : HF} {H : Heap} {locs : List Loc} {ls : Array Slot} {xo xm w ta ag sc nw pa fe cl wo si we oa aa k rd jd rg dd fo su ch m_a m_im m_te m_tp m_pi m_co m_na m_vl m_tr m_ac m_as_ m_su m_wi_ m_se : Nat} (p_xo : pt Lx fx xo (.inr (11, [.ref w, .ref k, .ref rd, .ref jd, .ref rg, .ref dd, .ref fo, .ref su, .ref ch]))) (p_w : pt Lx fx w (.inr (10, [.ref ta, .ref ag, .ref sc, .ref nw, .ref pa, .ref fe, .ref cl, .ref wo, .ref si, .ref we, .int 0, .int 0, .int (-1), .int 0, .int 0]))) (p_nw : pt Lx fx nw (.inr (4, [.ref oa, .ref aa, .int 0, .int 0, .int 0, .int 0, .int 137]))) (p_xm : pt Lm fm xm (.inr (12, [.ref m_a, .ref m_im, .ref m_te, .ref m_tp, .int 0, .int (-1), .int (-1), .int 0, .int 0, .int 0, .int 0, .long 0, .int 0, .int 0, .int 0, .ref m_pi, .ref m_co, .int 0, .int 0, .int 0, .int 0, .int 0, .ref m_na, .ref m_vl, .ref m_tr, .int 1, .ref m_ac, .ref m_as_, .ref m_su, .ref m_wi_, .int 0, .ref m_se]))) (p_m_a : pt Lm fm m_a (.inl (G.2 0, 10568, .inl a0))) (Y : DY G A s (va_pl Lx fx) Lm fm H locs) (hl : lv_has ls 4 [(3, .int 0), (2, .ref xm), (1, .ref xo), (0, .ref b)]) (tail : ∀ (H : Heap) (locs : List Loc) (ls : Array Slot), va_S A s.heap H locs → lv_has ls 4 [(3, .int 6), (0, .ref b)] → W p l e room_1 s m #[Value.ref b] below meth c H locs 1000 60000 (lw_Z below #[Value.ref b] s) (F0 m 18 ls [])) : W p l e room_1 s m #[Value.ref b] below meth c H locs 1000 60000 (lw_Z below #[Value.ref b] s) (F0 m 33 ls [.int 18]) := by
  obtain ⟨hx, hb, hr, hml, hown, hts, hX, hbl, hlocks, hgv⟩ := id C0
  have hbA : ¬ A b := by rw [hAe]; exact Nat.not_le.mpr hbl
  refine lv_tableIn (off := 721) (tgt := 754) hx hb dL_law_33 (by decide) (by decide) (by decide) (by decide) ?_
  refine lv_aload_n hx hb dL_law_754 rfl (lv_at hl 2 rfl) ?_
  refine lv_aload_n hx hb dL_law_755 rfl (lv_at hl 3 rfl) ?_
  refine lv_iload_n hx hb dL_law_756 rfl (lv_at hl 0 rfl) ?_
  refine lv_iconst (v := 1) hx hb dL_law_757 (by decide) ?_
  refine lv_iadd hx hb dL_law_758 ?_
  refine lv_fold (z := 1) (by decide) ?_
  refine va_sld hx hb hX hbl hbA Y.2.2 (by unfold vp_in; decide) dL_law_759 ?_
  refine lv_fold (z := xs 1) rfl ?_
  have Y := Y.swap
  refine cVp (As := [.int (xs 1)]) (rest := []) S Y (c_X11_is (l := l) p_xo p_w p_nw) cw_X11_is kmL_91 p_xo ok_X11.1 rfl rfl ⟨Nat.le_of_ble_eq_true rfl, Nat.le_of_ble_eq_true rfl⟩ hl.1 rfl (Nat.le_of_ble_eq_true rfl) ⟨Nat.le_of_ble_eq_true rfl, Nat.le_of_ble_eq_true rfl⟩ dL_law_760 (fun r_1597 H locs er_1597 Y => ?_)
  have Y := Y.swap
  refine lv_aload_n hx hb dL_law_763 rfl (lv_at hl 1 rfl) ?_
  refine lv_aload_n hx hb dL_law_764 rfl (lv_at hl 3 rfl) ?_
  refine lv_iload_n hx hb dL_law_765 rfl (lv_at hl 0 rfl) ?_
  refine lv_iconst (v := 1) hx hb dL_law_766 (by decide) ?_
  refine lv_iadd hx hb dL_law_767 ?_
  refine lv_fold (z := 1) (by decide) ?_
  refine va_sld hx hb hX hbl hbA Y.2.2 (by unfold vp_in; decide) dL_law_768 ?_
  refine lv_fold (z := xs 1) rfl ?_
  refine cVp (As := [.int (xs 1)]) (rest := [.int r_1597]) S Y (c_X12_is (l := l) p_xm p_m_a) cw_X12_is kmL_94 p_xm ok_X12.1 rfl rfl ⟨Nat.le_of_ble_eq_true rfl, Nat.le_of_ble_eq_true rfl⟩ hl.1 rfl (Nat.le_of_ble_eq_true rfl) ⟨Nat.le_of_ble_eq_true rfl, Nat.le_of_ble_eq_true rfl⟩ dL_law_769 (fun r_1598 H locs er_1598 Y => ?_)
  refine lv_icmp_eq (tgt := 1526) hx hb dL_law_772 (by decide) (fun _ => ?_) (fun h => absurd (er_1597.trans er_1598.symm) h)
  refine lv_iinc (v := 6) (lv' := [(3, .int 6), (2, .ref xm), (1, .ref xo), (0, .ref b)]) hx hb dL_law_1526 hl (k := 0) rfl (by decide) (by decide) rfl (fun ls hl => ?_)
  refine lv_goto (tgt := 18) hx hb dL_law_1529 (by decide) ?_
  exact tail _ _ _ Y.2.2 (lv_sub hl [0, 3] rfl)
set_option maxHeartbeats 4000000 in
set_option maxRecDepth 100000 in
theorem law_19 {p : Program} {e : Env} {s : State} {m : MethodId} {below : List Frame} {meth : Method} {c : Code} (l : Launch) {b : Nat} {xs : Nat → Int32} (C0 : lw_At p s m meth c b 6 xs) {G : GG} {A : Nat → Prop} (hAe : A = (fun q : Nat => s.heap.size ≤ q)) (S : SX G A p s m meth c RL code 4 ret) {Lx Lm : List Nat} {fx fm : HF} {H : Heap} {locs : List Loc} {ls : Array Slot} {xo xm w ta ag sc nw pa fe cl wo si we oa aa k rd jd rg dd fo su ch m_a m_im m_te m_tp m_pi m_co m_na m_vl m_tr m_ac m_as_ m_su m_wi_ m_se : Nat} (p_xo : pt Lx fx xo (.inr (11, [.ref w, .ref k, .ref rd, .ref jd, .ref rg, .ref dd, .ref fo, .ref su, .ref ch]))) (p_w : pt Lx fx w (.inr (10, [.ref ta, .ref ag, .ref sc, .ref nw, .ref pa, .ref fe, .ref cl, .ref wo, .ref si, .ref we, .int 0, .int 0, .int (-1), .int 0, .int 0]))) (p_nw : pt Lx fx nw (.inr (4, [.ref oa, .ref aa, .int 0, .int 0, .int 0, .int 0, .int 137]))) (p_xm : pt Lm fm xm (.inr (12, [.ref m_a, .ref m_im, .ref m_te, .ref m_tp, .int 0, .int (-1), .int (-1), .int 0, .int 0, .int 0, .int 0, .long 0, .int 0, .int 0, .int 0, .ref m_pi, .ref m_co, .int 0, .int 0, .int 0, .int 0, .int 0, .ref m_na, .ref m_vl, .ref m_tr, .int 1, .ref m_ac, .ref m_as_, .ref m_su, .ref m_wi_, .int 0, .ref m_se]))) (p_m_a : pt Lm fm m_a (.inl (G.2 0, 10568, .inl a0))) (Y : DY G A s (va_pl Lx fx) Lm fm H locs) (hl : lv_has ls 4 [(3, .int 0), (2, .ref xm), (1, .ref xo), (0, .ref b)]) (tail : ∀ (H : Heap) (locs : List Loc) (ls : Array Slot), va_S A s.heap H locs → lv_has ls 4 [(3, .int 6), (0, .ref b)] → W p l e room_1 s m #[Value.ref b] below meth c H locs 1000 60000 (lw_Z below #[Value.ref b] s) (F0 m 18 ls [])) : W p l e room_1 s m #[Value.ref b] below meth c H locs 1000 60000 (lw_Z below #[Value.ref b] s) (F0 m 33 ls [.int 19]) := by
  obtain ⟨hx, hb, hr, hml, hown, hts, hX, hbl, hlocks, hgv⟩ := id C0
  have hbA : ¬ A b := by rw [hAe]; exact Nat.not_le.mpr hbl
  refine lv_tableIn (off := 744) (tgt := 777) hx hb dL_law_33 (by decide) (by decide) (by decide) (by decide) ?_
  refine lv_aload_n hx hb dL_law_777 rfl (lv_at hl 2 rfl) ?_
  refine lv_aload_n hx hb dL_law_778 rfl (lv_at hl 3 rfl) ?_
  refine lv_iload_n hx hb dL_law_779 rfl (lv_at hl 0 rfl) ?_
  refine lv_iconst (v := 1) hx hb dL_law_780 (by decide) ?_
  refine lv_iadd hx hb dL_law_781 ?_
  refine lv_fold (z := 1) (by decide) ?_
  refine va_sld hx hb hX hbl hbA Y.2.2 (by unfold vp_in; decide) dL_law_782 ?_
  refine lv_fold (z := xs 1) rfl ?_
  refine lv_aload_n hx hb dL_law_783 rfl (lv_at hl 3 rfl) ?_
  refine lv_iload_n hx hb dL_law_784 rfl (lv_at hl 0 rfl) ?_
  refine lv_iconst (v := 2) hx hb dL_law_785 (by decide) ?_
  refine lv_iadd hx hb dL_law_786 ?_
  refine lv_fold (z := 2) (by decide) ?_
  refine va_sld hx hb hX hbl hbA Y.2.2 (by unfold vp_in; decide) dL_law_787 ?_
  refine lv_fold (z := xs 2) rfl ?_
  have Y := Y.swap
  refine cVp (As := [.int (xs 1), .int (xs 2)]) (rest := []) S Y (c_X11_book (l := l) p_xo p_w p_nw) cw_X11_book kmL_95 p_xo ok_X11.1 rfl rfl ⟨Nat.le_of_ble_eq_true rfl, Nat.le_of_ble_eq_true rfl⟩ hl.1 rfl (Nat.le_of_ble_eq_true rfl) ⟨Nat.le_of_ble_eq_true rfl, Nat.le_of_ble_eq_true rfl⟩ dL_law_788 (fun r_1599 H locs er_1599 Y => ?_)
  have Y := Y.swap
  refine lv_aload_n hx hb dL_law_791 rfl (lv_at hl 1 rfl) ?_
  refine lv_aload_n hx hb dL_law_792 rfl (lv_at hl 3 rfl) ?_
  refine lv_iload_n hx hb dL_law_793 rfl (lv_at hl 0 rfl) ?_
  refine lv_iconst (v := 1) hx hb dL_law_794 (by decide) ?_
  refine lv_iadd hx hb dL_law_795 ?_
  refine lv_fold (z := 1) (by decide) ?_
  refine va_sld hx hb hX hbl hbA Y.2.2 (by unfold vp_in; decide) dL_law_796 ?_
  refine lv_fold (z := xs 1) rfl ?_
  refine lv_aload_n hx hb dL_law_797 rfl (lv_at hl 3 rfl) ?_
  refine lv_iload_n hx hb dL_law_798 rfl (lv_at hl 0 rfl) ?_
  refine lv_iconst (v := 2) hx hb dL_law_799 (by decide) ?_
  refine lv_iadd hx hb dL_law_800 ?_
  refine lv_fold (z := 2) (by decide) ?_
  refine va_sld hx hb hX hbl hbA Y.2.2 (by unfold vp_in; decide) dL_law_801 ?_
  refine lv_fold (z := xs 2) rfl ?_
  refine cVp (As := [.int (xs 1), .int (xs 2)]) (rest := [.int r_1599]) S Y (c_X12_book (l := l) p_xm p_m_a) cw_X12_book kmL_98 p_xm ok_X12.1 rfl rfl ⟨Nat.le_of_ble_eq_true rfl, Nat.le_of_ble_eq_true rfl⟩ hl.1 rfl (Nat.le_of_ble_eq_true rfl) ⟨Nat.le_of_ble_eq_true rfl, Nat.le_of_ble_eq_true rfl⟩ dL_law_802 (fun r_1600 H locs er_1600 Y => ?_)
  refine lv_icmp_eq (tgt := 1526) hx hb dL_law_805 (by decide) (fun _ => ?_) (fun h => absurd (er_1599.trans er_1600.symm) h)
  refine lv_iinc (v := 6) (lv' := [(3, .int 6), (2, .ref xm), (1, .ref xo), (0, .ref b)]) hx hb dL_law_1526 hl (k := 0) rfl (by decide) (by decide) rfl (fun ls hl => ?_)
  refine lv_goto (tgt := 18) hx hb dL_law_1529 (by decide) ?_
  exact tail _ _ _ Y.2.2 (lv_sub hl [0, 3] rfl)
set_option maxHeartbeats 4000000 in
set_option maxRecDepth 100000 in
theorem law_20 {p : Program} {e : Env} {s : State} {m : MethodId} {below : List Frame} {meth : Method} {c : Code} (l : Launch) {b : Nat} {xs : Nat → Int32} (C0 : lw_At p s m meth c b 6 xs) {G : GG} {A : Nat → Prop} (hAe : A = (fun q : Nat => s.heap.size ≤ q)) (S : SX G A p s m meth c RL code 4 ret) {Lx Lm : List Nat} {fx fm : HF} {H : Heap} {locs : List Loc} {ls : Array Slot} {xo xm w ta ag sc nw pa fe cl wo si we oa aa k sl slo sla rd jd rg dd fo su ch m_a m_im m_te m_tp m_pi m_co m_na m_vl m_tr m_ac m_as_ m_su m_wi_ m_se : Nat} (p_xo : pt Lx fx xo (.inr (11, [.ref w, .ref k, .ref rd, .ref jd, .ref rg, .ref dd, .ref fo, .ref su, .ref ch]))) (p_w : pt Lx fx w (.inr (10, [.ref ta, .ref ag, .ref sc, .ref nw, .ref pa, .ref fe, .ref cl, .ref wo, .ref si, .ref we, .int 0, .int 0, .int (-1), .int 0, .int 0]))) (p_nw : pt Lx fx nw (.inr (4, [.ref oa, .ref aa, .int 0, .int 0, .int 0, .int 0, .int 137]))) (p_oa : pt Lx fx oa (.inl (G.2 0, 98, .inl (fun _ => 0)))) (p_aa : pt Lx fx aa (.inl (G.2 0, 90, .inl (fun _ => 0)))) (p_sl : pt Lx fx sl (.inr (4, [.ref slo, .ref sla, .int 0, .int 0, .int 0, .int 0, .int 137]))) (p_slo : pt Lx fx slo (.inl (G.2 0, 98, .inl (fun _ => 0)))) (p_sla : pt Lx fx sla (.inl (G.2 0, 90, .inl (fun _ => 0)))) (p_fo : pt Lx fx fo (.inr (2, [.ref w, .ref jd, .ref dd, .ref sl]))) (p_xm : pt Lm fm xm (.inr (12, [.ref m_a, .ref m_im, .ref m_te, .ref m_tp, .int 0, .int (-1), .int (-1), .int 0, .int 0, .int 0, .int 0, .long 0, .int 0, .int 0, .int 0, .ref m_pi, .ref m_co, .int 0, .int 0, .int 0, .int 0, .int 0, .ref m_na, .ref m_vl, .ref m_tr, .int 1, .ref m_ac, .ref m_as_, .ref m_su, .ref m_wi_, .int 0, .ref m_se]))) (p_m_a : pt Lm fm m_a (.inl (G.2 0, 10568, .inl a0))) (p_m_as_ : pt Lm fm m_as_ (.inl (G.2 0, 114, .inl (fun _ => 0)))) (n8 : sl ≠ nw) (Y : DY G A s (va_pl Lx fx) Lm fm H locs) (hl : lv_has ls 4 [(3, .int 0), (2, .ref xm), (1, .ref xo), (0, .ref b)]) (tail : ∀ (H : Heap) (locs : List Loc) (ls : Array Slot), va_S A s.heap H locs → lv_has ls 4 [(3, .int 6), (0, .ref b)] → W p l e room_1 s m #[Value.ref b] below meth c H locs 1000 60000 (lw_Z below #[Value.ref b] s) (F0 m 18 ls [])) : W p l e room_1 s m #[Value.ref b] below meth c H locs 1000 60000 (lw_Z below #[Value.ref b] s) (F0 m 33 ls [.int 20]) := by
  obtain ⟨hx, hb, hr, hml, hown, hts, hX, hbl, hlocks, hgv⟩ := id C0
  have hbA : ¬ A b := by rw [hAe]; exact Nat.not_le.mpr hbl
  refine lv_tableIn (off := 777) (tgt := 810) hx hb dL_law_33 (by decide) (by decide) (by decide) (by decide) ?_
  refine lv_aload_n hx hb dL_law_810 rfl (lv_at hl 2 rfl) ?_
  refine lv_aload_n hx hb dL_law_811 rfl (lv_at hl 3 rfl) ?_
  refine lv_iload_n hx hb dL_law_812 rfl (lv_at hl 0 rfl) ?_
  refine lv_iconst (v := 1) hx hb dL_law_813 (by decide) ?_
  refine lv_iadd hx hb dL_law_814 ?_
  refine lv_fold (z := 1) (by decide) ?_
  refine va_sld hx hb hX hbl hbA Y.2.2 (by unfold vp_in; decide) dL_law_815 ?_
  refine lv_fold (z := xs 1) rfl ?_
  refine lv_aload_n hx hb dL_law_816 rfl (lv_at hl 3 rfl) ?_
  refine lv_iload_n hx hb dL_law_817 rfl (lv_at hl 0 rfl) ?_
  refine lv_iconst (v := 2) hx hb dL_law_818 (by decide) ?_
  refine lv_iadd hx hb dL_law_819 ?_
  refine lv_fold (z := 2) (by decide) ?_
  refine va_sld hx hb hX hbl hbA Y.2.2 (by unfold vp_in; decide) dL_law_820 ?_
  refine lv_fold (z := xs 2) rfl ?_
  have Y := Y.swap
  refine cVi (As := [.int (xs 1), .int (xs 2)]) (rest := []) S Y (c_X11_foretold (l := l) p_xo p_w p_nw p_oa p_aa p_fo p_sl p_slo p_sla (n8)) cw_X11_foretold kmL_99 p_xo ok_X11.1 rfl rfl ⟨Nat.le_of_ble_eq_true rfl, Nat.le_of_ble_eq_true rfl⟩ hl.1 rfl (Nat.le_of_ble_eq_true rfl) ⟨Nat.le_of_ble_eq_true rfl, Nat.le_of_ble_eq_true rfl⟩ dL_law_821 (fun r_1601 L_1602 f_1603 H locs hf_1603 Y => ?_)
  have Y := Y.swap
  refine lv_aload_n hx hb dL_law_824 rfl (lv_at hl 1 rfl) ?_
  refine lv_aload_n hx hb dL_law_825 rfl (lv_at hl 3 rfl) ?_
  refine lv_iload_n hx hb dL_law_826 rfl (lv_at hl 0 rfl) ?_
  refine lv_iconst (v := 1) hx hb dL_law_827 (by decide) ?_
  refine lv_iadd hx hb dL_law_828 ?_
  refine lv_fold (z := 1) (by decide) ?_
  refine va_sld hx hb hX hbl hbA Y.2.2 (by unfold vp_in; decide) dL_law_829 ?_
  refine lv_fold (z := xs 1) rfl ?_
  refine lv_aload_n hx hb dL_law_830 rfl (lv_at hl 3 rfl) ?_
  refine lv_iload_n hx hb dL_law_831 rfl (lv_at hl 0 rfl) ?_
  refine lv_iconst (v := 2) hx hb dL_law_832 (by decide) ?_
  refine lv_iadd hx hb dL_law_833 ?_
  refine lv_fold (z := 2) (by decide) ?_
  refine va_sld hx hb hX hbl hbA Y.2.2 (by unfold vp_in; decide) dL_law_834 ?_
  refine lv_fold (z := xs 2) rfl ?_
  refine cVi (As := [.int (xs 1), .int (xs 2)]) (rest := [.int r_1601]) S Y (c_X12_foretold (l := l) p_xm p_m_a p_m_as_) cw_X12_foretold kmL_102 p_xm ok_X12.1 rfl rfl ⟨Nat.le_of_ble_eq_true rfl, Nat.le_of_ble_eq_true rfl⟩ hl.1 rfl (Nat.le_of_ble_eq_true rfl) ⟨Nat.le_of_ble_eq_true rfl, Nat.le_of_ble_eq_true rfl⟩ dL_law_835 (fun r_1604 L_1605 f_1606 H locs hf_1606 Y => ?_)
  refine lv_icmp_eq (tgt := 1526) hx hb dL_law_838 (by decide) (fun _ => ?_) (fun h => absurd (hf_1603.trans hf_1606.symm) h)
  refine lv_iinc (v := 6) (lv' := [(3, .int 6), (2, .ref xm), (1, .ref xo), (0, .ref b)]) hx hb dL_law_1526 hl (k := 0) rfl (by decide) (by decide) rfl (fun ls hl => ?_)
  refine lv_goto (tgt := 18) hx hb dL_law_1529 (by decide) ?_
  exact tail _ _ _ Y.2.2 (lv_sub hl [0, 3] rfl)
set_option maxHeartbeats 4000000 in
set_option maxRecDepth 100000 in
theorem law_21 {p : Program} {e : Env} {s : State} {m : MethodId} {below : List Frame} {meth : Method} {c : Code} (l : Launch) {b : Nat} {xs : Nat → Int32} (C0 : lw_At p s m meth c b 6 xs) {G : GG} {A : Nat → Prop} (hAe : A = (fun q : Nat => s.heap.size ≤ q)) (S : SX G A p s m meth c RL code 4 ret) {Lx Lm : List Nat} {fx fm : HF} {H : Heap} {locs : List Loc} {ls : Array Slot} {xo xm w ta ag sc nw pa fe cl wo si we k rd jd rg dd fo su ch m_a m_im m_te m_tp m_pi m_co m_na m_vl m_tr m_ac m_as_ m_su m_wi_ m_se : Nat} (p_xo : pt Lx fx xo (.inr (11, [.ref w, .ref k, .ref rd, .ref jd, .ref rg, .ref dd, .ref fo, .ref su, .ref ch]))) (p_w : pt Lx fx w (.inr (10, [.ref ta, .ref ag, .ref sc, .ref nw, .ref pa, .ref fe, .ref cl, .ref wo, .ref si, .ref we, .int 0, .int 0, .int (-1), .int 0, .int 0]))) (p_xm : pt Lm fm xm (.inr (12, [.ref m_a, .ref m_im, .ref m_te, .ref m_tp, .int 0, .int (-1), .int (-1), .int 0, .int 0, .int 0, .int 0, .long 0, .int 0, .int 0, .int 0, .ref m_pi, .ref m_co, .int 0, .int 0, .int 0, .int 0, .int 0, .ref m_na, .ref m_vl, .ref m_tr, .int 1, .ref m_ac, .ref m_as_, .ref m_su, .ref m_wi_, .int 0, .ref m_se]))) (p_m_a : pt Lm fm m_a (.inl (G.2 0, 10568, .inl a0))) (Y : DY G A s (va_pl Lx fx) Lm fm H locs) (hl : lv_has ls 4 [(3, .int 0), (2, .ref xm), (1, .ref xo), (0, .ref b)]) (tail : ∀ (H : Heap) (locs : List Loc) (ls : Array Slot), va_S A s.heap H locs → lv_has ls 4 [(3, .int 6), (0, .ref b)] → W p l e room_1 s m #[Value.ref b] below meth c H locs 1000 60000 (lw_Z below #[Value.ref b] s) (F0 m 18 ls [])) : W p l e room_1 s m #[Value.ref b] below meth c H locs 1000 60000 (lw_Z below #[Value.ref b] s) (F0 m 33 ls [.int 21]) := by
  obtain ⟨hx, hb, hr, hml, hown, hts, hX, hbl, hlocks, hgv⟩ := id C0
  have hbA : ¬ A b := by rw [hAe]; exact Nat.not_le.mpr hbl
  refine lv_tableIn (off := 810) (tgt := 843) hx hb dL_law_33 (by decide) (by decide) (by decide) (by decide) ?_
  refine lv_aload_n hx hb dL_law_843 rfl (lv_at hl 2 rfl) ?_
  refine lv_aload_n hx hb dL_law_844 rfl (lv_at hl 3 rfl) ?_
  refine lv_iload_n hx hb dL_law_845 rfl (lv_at hl 0 rfl) ?_
  refine lv_iconst (v := 1) hx hb dL_law_846 (by decide) ?_
  refine lv_iadd hx hb dL_law_847 ?_
  refine lv_fold (z := 1) (by decide) ?_
  refine va_sld hx hb hX hbl hbA Y.2.2 (by unfold vp_in; decide) dL_law_848 ?_
  refine lv_fold (z := xs 1) rfl ?_
  have Y := Y.swap
  refine cVp (As := [.int (xs 1)]) (rest := []) S Y (c_X11_firstAche (l := l) p_xo p_w) cw_X11_firstAche kmL_103 p_xo ok_X11.1 rfl rfl ⟨Nat.le_of_ble_eq_true rfl, Nat.le_of_ble_eq_true rfl⟩ hl.1 rfl (Nat.le_of_ble_eq_true rfl) ⟨Nat.le_of_ble_eq_true rfl, Nat.le_of_ble_eq_true rfl⟩ dL_law_849 (fun r_1607 H locs er_1607 Y => ?_)
  refine lv_fold (z := (-1)) er_1607 ?_
  have Y := Y.swap
  refine lv_aload_n hx hb dL_law_852 rfl (lv_at hl 1 rfl) ?_
  refine lv_aload_n hx hb dL_law_853 rfl (lv_at hl 3 rfl) ?_
  refine lv_iload_n hx hb dL_law_854 rfl (lv_at hl 0 rfl) ?_
  refine lv_iconst (v := 1) hx hb dL_law_855 (by decide) ?_
  refine lv_iadd hx hb dL_law_856 ?_
  refine lv_fold (z := 1) (by decide) ?_
  refine va_sld hx hb hX hbl hbA Y.2.2 (by unfold vp_in; decide) dL_law_857 ?_
  refine lv_fold (z := xs 1) rfl ?_
  refine cVp (As := [.int (xs 1)]) (rest := [.int (-1)]) S Y (c_X12_firstAche (l := l) p_xm p_m_a) cw_X12_firstAche kmL_106 p_xm ok_X12.1 rfl rfl ⟨Nat.le_of_ble_eq_true rfl, Nat.le_of_ble_eq_true rfl⟩ hl.1 rfl (Nat.le_of_ble_eq_true rfl) ⟨Nat.le_of_ble_eq_true rfl, Nat.le_of_ble_eq_true rfl⟩ dL_law_858 (fun r_1608 H locs er_1608 Y => ?_)
  refine lv_fold (z := (-1)) er_1608 ?_
  refine lv_icmp_eq (tgt := 1526) hx hb dL_law_861 (by decide) (fun _ => ?_) (fun h => absurd (by decide) h)
  refine lv_iinc (v := 6) (lv' := [(3, .int 6), (2, .ref xm), (1, .ref xo), (0, .ref b)]) hx hb dL_law_1526 hl (k := 0) rfl (by decide) (by decide) rfl (fun ls hl => ?_)
  refine lv_goto (tgt := 18) hx hb dL_law_1529 (by decide) ?_
  exact tail _ _ _ Y.2.2 (lv_sub hl [0, 3] rfl)
set_option maxHeartbeats 4000000 in
set_option maxRecDepth 100000 in
theorem law_22 {p : Program} {e : Env} {s : State} {m : MethodId} {below : List Frame} {meth : Method} {c : Code} (l : Launch) {b : Nat} {xs : Nat → Int32} (C0 : lw_At p s m meth c b 6 xs) {G : GG} {A : Nat → Prop} (hAe : A = (fun q : Nat => s.heap.size ≤ q)) (S : SX G A p s m meth c RL code 4 ret) {Lx Lm : List Nat} {fx fm : HF} {H : Heap} {locs : List Loc} {ls : Array Slot} {xo xm w ta ag sc nw pa fe cl wo si we oa aa k sl rd jd rg dd fo su ch m_a m_im m_te m_tp m_pi m_co m_na m_vl m_tr m_ac m_as_ m_su m_wi_ m_se : Nat} (p_xo : pt Lx fx xo (.inr (11, [.ref w, .ref k, .ref rd, .ref jd, .ref rg, .ref dd, .ref fo, .ref su, .ref ch]))) (p_w : pt Lx fx w (.inr (10, [.ref ta, .ref ag, .ref sc, .ref nw, .ref pa, .ref fe, .ref cl, .ref wo, .ref si, .ref we, .int 0, .int 0, .int (-1), .int 0, .int 0]))) (p_nw : pt Lx fx nw (.inr (4, [.ref oa, .ref aa, .int 0, .int 0, .int 0, .int 0, .int 137]))) (p_fo : pt Lx fx fo (.inr (2, [.ref w, .ref jd, .ref dd, .ref sl]))) (p_xm : pt Lm fm xm (.inr (12, [.ref m_a, .ref m_im, .ref m_te, .ref m_tp, .int 0, .int (-1), .int (-1), .int 0, .int 0, .int 0, .int 0, .long 0, .int 0, .int 0, .int 0, .ref m_pi, .ref m_co, .int 0, .int 0, .int 0, .int 0, .int 0, .ref m_na, .ref m_vl, .ref m_tr, .int 1, .ref m_ac, .ref m_as_, .ref m_su, .ref m_wi_, .int 0, .ref m_se]))) (p_m_a : pt Lm fm m_a (.inl (G.2 0, 10568, .inl a0))) (Y : DY G A s (va_pl Lx fx) Lm fm H locs) (hl : lv_has ls 4 [(3, .int 0), (2, .ref xm), (1, .ref xo), (0, .ref b)]) (tail : ∀ (H : Heap) (locs : List Loc) (ls : Array Slot), va_S A s.heap H locs → lv_has ls 4 [(3, .int 6), (0, .ref b)] → W p l e room_1 s m #[Value.ref b] below meth c H locs 1000 60000 (lw_Z below #[Value.ref b] s) (F0 m 18 ls [])) : W p l e room_1 s m #[Value.ref b] below meth c H locs 1000 60000 (lw_Z below #[Value.ref b] s) (F0 m 33 ls [.int 22]) := by
  obtain ⟨hx, hb, hr, hml, hown, hts, hX, hbl, hlocks, hgv⟩ := id C0
  have hbA : ¬ A b := by rw [hAe]; exact Nat.not_le.mpr hbl
  refine lv_tableIn (off := 833) (tgt := 866) hx hb dL_law_33 (by decide) (by decide) (by decide) (by decide) ?_
  refine lv_aload_n hx hb dL_law_866 rfl (lv_at hl 2 rfl) ?_
  refine lv_aload_n hx hb dL_law_867 rfl (lv_at hl 3 rfl) ?_
  refine lv_iload_n hx hb dL_law_868 rfl (lv_at hl 0 rfl) ?_
  refine lv_iconst (v := 1) hx hb dL_law_869 (by decide) ?_
  refine lv_iadd hx hb dL_law_870 ?_
  refine lv_fold (z := 1) (by decide) ?_
  refine va_sld hx hb hX hbl hbA Y.2.2 (by unfold vp_in; decide) dL_law_871 ?_
  refine lv_fold (z := xs 1) rfl ?_
  have Y := Y.swap
  refine cVp (As := [.int (xs 1)]) (rest := []) S Y (c_X11_fades (l := l) p_xo p_w p_fo p_nw) cw_X11_fades kmL_107 p_xo ok_X11.1 rfl rfl ⟨Nat.le_of_ble_eq_true rfl, Nat.le_of_ble_eq_true rfl⟩ hl.1 rfl (Nat.le_of_ble_eq_true rfl) ⟨Nat.le_of_ble_eq_true rfl, Nat.le_of_ble_eq_true rfl⟩ dL_law_872 (fun r_1609 H locs er_1609 Y => ?_)
  refine lv_fold (z := (-1)) er_1609 ?_
  have Y := Y.swap
  refine lv_aload_n hx hb dL_law_875 rfl (lv_at hl 1 rfl) ?_
  refine lv_aload_n hx hb dL_law_876 rfl (lv_at hl 3 rfl) ?_
  refine lv_iload_n hx hb dL_law_877 rfl (lv_at hl 0 rfl) ?_
  refine lv_iconst (v := 1) hx hb dL_law_878 (by decide) ?_
  refine lv_iadd hx hb dL_law_879 ?_
  refine lv_fold (z := 1) (by decide) ?_
  refine va_sld hx hb hX hbl hbA Y.2.2 (by unfold vp_in; decide) dL_law_880 ?_
  refine lv_fold (z := xs 1) rfl ?_
  refine cVp (As := [.int (xs 1)]) (rest := [.int (-1)]) S Y (c_X12_fades (l := l) p_xm p_m_a) cw_X12_fades kmL_110 p_xm ok_X12.1 rfl rfl ⟨Nat.le_of_ble_eq_true rfl, Nat.le_of_ble_eq_true rfl⟩ hl.1 rfl (Nat.le_of_ble_eq_true rfl) ⟨Nat.le_of_ble_eq_true rfl, Nat.le_of_ble_eq_true rfl⟩ dL_law_881 (fun r_1610 H locs er_1610 Y => ?_)
  refine lv_fold (z := (-1)) er_1610 ?_
  refine lv_icmp_eq (tgt := 1526) hx hb dL_law_884 (by decide) (fun _ => ?_) (fun h => absurd (by decide) h)
  refine lv_iinc (v := 6) (lv' := [(3, .int 6), (2, .ref xm), (1, .ref xo), (0, .ref b)]) hx hb dL_law_1526 hl (k := 0) rfl (by decide) (by decide) rfl (fun ls hl => ?_)
  refine lv_goto (tgt := 18) hx hb dL_law_1529 (by decide) ?_
  exact tail _ _ _ Y.2.2 (lv_sub hl [0, 3] rfl)
set_option maxHeartbeats 4000000 in
set_option maxRecDepth 100000 in
theorem law_23 {p : Program} {e : Env} {s : State} {m : MethodId} {below : List Frame} {meth : Method} {c : Code} (l : Launch) {b : Nat} {xs : Nat → Int32} (C0 : lw_At p s m meth c b 6 xs) {G : GG} {A : Nat → Prop} (hAe : A = (fun q : Nat => s.heap.size ≤ q)) (S : SX G A p s m meth c RL code 4 ret) {Lx Lm : List Nat} {fx fm : HF} {H : Heap} {locs : List Loc} {ls : Array Slot} {xo xm w ta ag sc nw pa fe cl wo si we oa aa c1 k rd jd rg dd fo su ch m_a m_im m_te m_tp m_pi m_co m_na m_vl m_tr m_ac m_as_ m_su m_wi_ m_se : Nat} (p_xo : pt Lx fx xo (.inr (11, [.ref w, .ref k, .ref rd, .ref jd, .ref rg, .ref dd, .ref fo, .ref su, .ref ch]))) (p_w : pt Lx fx w (.inr (10, [.ref ta, .ref ag, .ref sc, .ref nw, .ref pa, .ref fe, .ref cl, .ref wo, .ref si, .ref we, .int 0, .int 0, .int (-1), .int 0, .int 0]))) (p_nw : pt Lx fx nw (.inr (4, [.ref oa, .ref aa, .int 0, .int 0, .int 0, .int 0, .int 137]))) (p_fe : pt Lx fx fe (.inr (9, [.ref c1, .int 6, .int 0]))) (p_xm : pt Lm fm xm (.inr (12, [.ref m_a, .ref m_im, .ref m_te, .ref m_tp, .int 0, .int (-1), .int (-1), .int 0, .int 0, .int 0, .int 0, .long 0, .int 0, .int 0, .int 0, .ref m_pi, .ref m_co, .int 0, .int 0, .int 0, .int 0, .int 0, .ref m_na, .ref m_vl, .ref m_tr, .int 1, .ref m_ac, .ref m_as_, .ref m_su, .ref m_wi_, .int 0, .ref m_se]))) (p_m_a : pt Lm fm m_a (.inl (G.2 0, 10568, .inl a0))) (Y : DY G A s (va_pl Lx fx) Lm fm H locs) (hl : lv_has ls 4 [(3, .int 0), (2, .ref xm), (1, .ref xo), (0, .ref b)]) (tail : ∀ (H : Heap) (locs : List Loc) (ls : Array Slot), va_S A s.heap H locs → lv_has ls 4 [(3, .int 6), (0, .ref b)] → W p l e room_1 s m #[Value.ref b] below meth c H locs 1000 60000 (lw_Z below #[Value.ref b] s) (F0 m 18 ls [])) : W p l e room_1 s m #[Value.ref b] below meth c H locs 1000 60000 (lw_Z below #[Value.ref b] s) (F0 m 33 ls [.int 23]) := by
  obtain ⟨hx, hb, hr, hml, hown, hts, hX, hbl, hlocks, hgv⟩ := id C0
  have hbA : ¬ A b := by rw [hAe]; exact Nat.not_le.mpr hbl
  refine lv_tableIn (off := 856) (tgt := 889) hx hb dL_law_33 (by decide) (by decide) (by decide) (by decide) ?_
  refine lv_aload_n hx hb dL_law_889 rfl (lv_at hl 2 rfl) ?_
  refine lv_aload_n hx hb dL_law_890 rfl (lv_at hl 3 rfl) ?_
  refine lv_iload_n hx hb dL_law_891 rfl (lv_at hl 0 rfl) ?_
  refine lv_iconst (v := 1) hx hb dL_law_892 (by decide) ?_
  refine lv_iadd hx hb dL_law_893 ?_
  refine lv_fold (z := 1) (by decide) ?_
  refine va_sld hx hb hX hbl hbA Y.2.2 (by unfold vp_in; decide) dL_law_894 ?_
  refine lv_fold (z := xs 1) rfl ?_
  refine lv_aload_n hx hb dL_law_895 rfl (lv_at hl 3 rfl) ?_
  refine lv_iload_n hx hb dL_law_896 rfl (lv_at hl 0 rfl) ?_
  refine lv_iconst (v := 2) hx hb dL_law_897 (by decide) ?_
  refine lv_iadd hx hb dL_law_898 ?_
  refine lv_fold (z := 2) (by decide) ?_
  refine va_sld hx hb hX hbl hbA Y.2.2 (by unfold vp_in; decide) dL_law_899 ?_
  refine lv_fold (z := xs 2) rfl ?_
  refine lv_aload_n hx hb dL_law_900 rfl (lv_at hl 3 rfl) ?_
  refine lv_iload_n hx hb dL_law_901 rfl (lv_at hl 0 rfl) ?_
  refine lv_iconst (v := 3) hx hb dL_law_902 (by decide) ?_
  refine lv_iadd hx hb dL_law_903 ?_
  refine lv_fold (z := 3) (by decide) ?_
  refine va_sld hx hb hX hbl hbA Y.2.2 (by unfold vp_in; decide) dL_law_904 ?_
  refine lv_fold (z := xs 3) rfl ?_
  have Y := Y.swap
  refine cVi (As := [.int (xs 1), .int (xs 2), .int (xs 3)]) (rest := []) S Y (c_X11_felt (l := l) p_xo p_w p_nw p_fe) cw_X11_felt kmL_111 p_xo ok_X11.1 rfl rfl ⟨Nat.le_of_ble_eq_true rfl, Nat.le_of_ble_eq_true rfl⟩ hl.1 rfl (Nat.le_of_ble_eq_true rfl) ⟨Nat.le_of_ble_eq_true rfl, Nat.le_of_ble_eq_true rfl⟩ dL_law_905 (fun r_1611 L_1612 f_1613 H locs hf_1613 Y => ?_)
  have Y := Y.swap
  refine lv_aload_n hx hb dL_law_908 rfl (lv_at hl 1 rfl) ?_
  refine lv_aload_n hx hb dL_law_909 rfl (lv_at hl 3 rfl) ?_
  refine lv_iload_n hx hb dL_law_910 rfl (lv_at hl 0 rfl) ?_
  refine lv_iconst (v := 1) hx hb dL_law_911 (by decide) ?_
  refine lv_iadd hx hb dL_law_912 ?_
  refine lv_fold (z := 1) (by decide) ?_
  refine va_sld hx hb hX hbl hbA Y.2.2 (by unfold vp_in; decide) dL_law_913 ?_
  refine lv_fold (z := xs 1) rfl ?_
  refine lv_aload_n hx hb dL_law_914 rfl (lv_at hl 3 rfl) ?_
  refine lv_iload_n hx hb dL_law_915 rfl (lv_at hl 0 rfl) ?_
  refine lv_iconst (v := 2) hx hb dL_law_916 (by decide) ?_
  refine lv_iadd hx hb dL_law_917 ?_
  refine lv_fold (z := 2) (by decide) ?_
  refine va_sld hx hb hX hbl hbA Y.2.2 (by unfold vp_in; decide) dL_law_918 ?_
  refine lv_fold (z := xs 2) rfl ?_
  refine lv_aload_n hx hb dL_law_919 rfl (lv_at hl 3 rfl) ?_
  refine lv_iload_n hx hb dL_law_920 rfl (lv_at hl 0 rfl) ?_
  refine lv_iconst (v := 3) hx hb dL_law_921 (by decide) ?_
  refine lv_iadd hx hb dL_law_922 ?_
  refine lv_fold (z := 3) (by decide) ?_
  refine va_sld hx hb hX hbl hbA Y.2.2 (by unfold vp_in; decide) dL_law_923 ?_
  refine lv_fold (z := xs 3) rfl ?_
  refine cVi (As := [.int (xs 1), .int (xs 2), .int (xs 3)]) (rest := [.int r_1611]) S Y (c_X12_felt (l := l) p_xm p_m_a) cw_X12_felt kmL_115 p_xm ok_X12.1 rfl rfl ⟨Nat.le_of_ble_eq_true rfl, Nat.le_of_ble_eq_true rfl⟩ hl.1 rfl (Nat.le_of_ble_eq_true rfl) ⟨Nat.le_of_ble_eq_true rfl, Nat.le_of_ble_eq_true rfl⟩ dL_law_924 (fun r_1614 L_1615 f_1616 H locs hf_1616 Y => ?_)
  refine lv_icmp_eq (tgt := 1526) hx hb dL_law_927 (by decide) (fun _ => ?_) (fun h => absurd (hf_1613.trans hf_1616.symm) h)
  refine lv_iinc (v := 6) (lv' := [(3, .int 6), (2, .ref xm), (1, .ref xo), (0, .ref b)]) hx hb dL_law_1526 hl (k := 0) rfl (by decide) (by decide) rfl (fun ls hl => ?_)
  refine lv_goto (tgt := 18) hx hb dL_law_1529 (by decide) ?_
  exact tail _ _ _ Y.2.2 (lv_sub hl [0, 3] rfl)
set_option maxHeartbeats 4000000 in
set_option maxRecDepth 100000 in
theorem law_24 {p : Program} {e : Env} {s : State} {m : MethodId} {below : List Frame} {meth : Method} {c : Code} (l : Launch) {b : Nat} {xs : Nat → Int32} (C0 : lw_At p s m meth c b 6 xs) {G : GG} {A : Nat → Prop} (hAe : A = (fun q : Nat => s.heap.size ≤ q)) (S : SX G A p s m meth c RL code 4 ret) {Lx Lm : List Nat} {fx fm : HF} {H : Heap} {locs : List Loc} {ls : Array Slot} {xo xm w ta ag sc nw pa fe cl wo si we k rd jd rg dd fo su ch m_a m_im m_te m_tp m_pi m_co m_na m_vl m_tr m_ac m_as_ m_su m_wi_ m_se : Nat} (p_xo : pt Lx fx xo (.inr (11, [.ref w, .ref k, .ref rd, .ref jd, .ref rg, .ref dd, .ref fo, .ref su, .ref ch]))) (p_w : pt Lx fx w (.inr (10, [.ref ta, .ref ag, .ref sc, .ref nw, .ref pa, .ref fe, .ref cl, .ref wo, .ref si, .ref we, .int 0, .int 0, .int (-1), .int 0, .int 0]))) (p_xm : pt Lm fm xm (.inr (12, [.ref m_a, .ref m_im, .ref m_te, .ref m_tp, .int 0, .int (-1), .int (-1), .int 0, .int 0, .int 0, .int 0, .long 0, .int 0, .int 0, .int 0, .ref m_pi, .ref m_co, .int 0, .int 0, .int 0, .int 0, .int 0, .ref m_na, .ref m_vl, .ref m_tr, .int 1, .ref m_ac, .ref m_as_, .ref m_su, .ref m_wi_, .int 0, .ref m_se]))) (p_m_a : pt Lm fm m_a (.inl (G.2 0, 10568, .inl a0))) (Y : DY G A s (va_pl Lx fx) Lm fm H locs) (hl : lv_has ls 4 [(3, .int 0), (2, .ref xm), (1, .ref xo), (0, .ref b)]) (tail : ∀ (H : Heap) (locs : List Loc) (ls : Array Slot), va_S A s.heap H locs → lv_has ls 4 [(3, .int 6), (0, .ref b)] → W p l e room_1 s m #[Value.ref b] below meth c H locs 1000 60000 (lw_Z below #[Value.ref b] s) (F0 m 18 ls [])) : W p l e room_1 s m #[Value.ref b] below meth c H locs 1000 60000 (lw_Z below #[Value.ref b] s) (F0 m 33 ls [.int 24]) := by
  obtain ⟨hx, hb, hr, hml, hown, hts, hX, hbl, hlocks, hgv⟩ := id C0
  have hbA : ¬ A b := by rw [hAe]; exact Nat.not_le.mpr hbl
  refine lv_tableIn (off := 899) (tgt := 932) hx hb dL_law_33 (by decide) (by decide) (by decide) (by decide) ?_
  refine lv_aload_n hx hb dL_law_932 rfl (lv_at hl 2 rfl) ?_
  refine lv_aload_n hx hb dL_law_933 rfl (lv_at hl 3 rfl) ?_
  refine lv_iload_n hx hb dL_law_934 rfl (lv_at hl 0 rfl) ?_
  refine lv_iconst (v := 1) hx hb dL_law_935 (by decide) ?_
  refine lv_iadd hx hb dL_law_936 ?_
  refine lv_fold (z := 1) (by decide) ?_
  refine va_sld hx hb hX hbl hbA Y.2.2 (by unfold vp_in; decide) dL_law_937 ?_
  refine lv_fold (z := xs 1) rfl ?_
  refine lv_aload_n hx hb dL_law_938 rfl (lv_at hl 3 rfl) ?_
  refine lv_iload_n hx hb dL_law_939 rfl (lv_at hl 0 rfl) ?_
  refine lv_iconst (v := 2) hx hb dL_law_940 (by decide) ?_
  refine lv_iadd hx hb dL_law_941 ?_
  refine lv_fold (z := 2) (by decide) ?_
  refine va_sld hx hb hX hbl hbA Y.2.2 (by unfold vp_in; decide) dL_law_942 ?_
  refine lv_fold (z := xs 2) rfl ?_
  have Y := Y.swap
  refine cVp (As := [.int (xs 1), .int (xs 2)]) (rest := []) S Y (c_X11_breaches (l := l) p_xo p_w) cw_X11_breaches kmL_116 p_xo ok_X11.1 rfl rfl ⟨Nat.le_of_ble_eq_true rfl, Nat.le_of_ble_eq_true rfl⟩ hl.1 rfl (Nat.le_of_ble_eq_true rfl) ⟨Nat.le_of_ble_eq_true rfl, Nat.le_of_ble_eq_true rfl⟩ dL_law_943 (fun r_1617 H locs er_1617 Y => ?_)
  refine lv_fold (z := (-1)) er_1617 ?_
  have Y := Y.swap
  refine lv_aload_n hx hb dL_law_946 rfl (lv_at hl 1 rfl) ?_
  refine lv_aload_n hx hb dL_law_947 rfl (lv_at hl 3 rfl) ?_
  refine lv_iload_n hx hb dL_law_948 rfl (lv_at hl 0 rfl) ?_
  refine lv_iconst (v := 1) hx hb dL_law_949 (by decide) ?_
  refine lv_iadd hx hb dL_law_950 ?_
  refine lv_fold (z := 1) (by decide) ?_
  refine va_sld hx hb hX hbl hbA Y.2.2 (by unfold vp_in; decide) dL_law_951 ?_
  refine lv_fold (z := xs 1) rfl ?_
  refine lv_aload_n hx hb dL_law_952 rfl (lv_at hl 3 rfl) ?_
  refine lv_iload_n hx hb dL_law_953 rfl (lv_at hl 0 rfl) ?_
  refine lv_iconst (v := 2) hx hb dL_law_954 (by decide) ?_
  refine lv_iadd hx hb dL_law_955 ?_
  refine lv_fold (z := 2) (by decide) ?_
  refine va_sld hx hb hX hbl hbA Y.2.2 (by unfold vp_in; decide) dL_law_956 ?_
  refine lv_fold (z := xs 2) rfl ?_
  refine cVp (As := [.int (xs 1), .int (xs 2)]) (rest := [.int (-1)]) S Y (c_X12_breaches (l := l) p_xm p_m_a) cw_X12_breaches kmL_119 p_xm ok_X12.1 rfl rfl ⟨Nat.le_of_ble_eq_true rfl, Nat.le_of_ble_eq_true rfl⟩ hl.1 rfl (Nat.le_of_ble_eq_true rfl) ⟨Nat.le_of_ble_eq_true rfl, Nat.le_of_ble_eq_true rfl⟩ dL_law_957 (fun r_1618 H locs er_1618 Y => ?_)
  refine lv_fold (z := (-1)) er_1618 ?_
  refine lv_icmp_eq (tgt := 1526) hx hb dL_law_960 (by decide) (fun _ => ?_) (fun h => absurd (by decide) h)
  refine lv_iinc (v := 6) (lv' := [(3, .int 6), (2, .ref xm), (1, .ref xo), (0, .ref b)]) hx hb dL_law_1526 hl (k := 0) rfl (by decide) (by decide) rfl (fun ls hl => ?_)
  refine lv_goto (tgt := 18) hx hb dL_law_1529 (by decide) ?_
  exact tail _ _ _ Y.2.2 (lv_sub hl [0, 3] rfl)
set_option maxHeartbeats 4000000 in
set_option maxRecDepth 100000 in
theorem law_25 {p : Program} {e : Env} {s : State} {m : MethodId} {below : List Frame} {meth : Method} {c : Code} (l : Launch) {b : Nat} {xs : Nat → Int32} (C0 : lw_At p s m meth c b 6 xs) {G : GG} {A : Nat → Prop} (hAe : A = (fun q : Nat => s.heap.size ≤ q)) (S : SX G A p s m meth c RL code 4 ret) {Lx Lm : List Nat} {fx fm : HF} {H : Heap} {locs : List Loc} {ls : Array Slot} {xo xm w ta ag sc nw pa fe cl wo si we oa aa k rd jd rg dd fo su ch m_a m_im m_te m_tp m_pi m_co m_na m_vl m_tr m_ac m_as_ m_su m_wi_ m_se : Nat} (p_xo : pt Lx fx xo (.inr (11, [.ref w, .ref k, .ref rd, .ref jd, .ref rg, .ref dd, .ref fo, .ref su, .ref ch]))) (p_w : pt Lx fx w (.inr (10, [.ref ta, .ref ag, .ref sc, .ref nw, .ref pa, .ref fe, .ref cl, .ref wo, .ref si, .ref we, .int 0, .int 0, .int (-1), .int 0, .int 0]))) (p_nw : pt Lx fx nw (.inr (4, [.ref oa, .ref aa, .int 0, .int 0, .int 0, .int 0, .int 137]))) (p_xm : pt Lm fm xm (.inr (12, [.ref m_a, .ref m_im, .ref m_te, .ref m_tp, .int 0, .int (-1), .int (-1), .int 0, .int 0, .int 0, .int 0, .long 0, .int 0, .int 0, .int 0, .ref m_pi, .ref m_co, .int 0, .int 0, .int 0, .int 0, .int 0, .ref m_na, .ref m_vl, .ref m_tr, .int 1, .ref m_ac, .ref m_as_, .ref m_su, .ref m_wi_, .int 0, .ref m_se]))) (p_m_a : pt Lm fm m_a (.inl (G.2 0, 10568, .inl a0))) (Y : DY G A s (va_pl Lx fx) Lm fm H locs) (hl : lv_has ls 4 [(3, .int 0), (2, .ref xm), (1, .ref xo), (0, .ref b)]) (tail : ∀ (H : Heap) (locs : List Loc) (ls : Array Slot), va_S A s.heap H locs → lv_has ls 4 [(3, .int 6), (0, .ref b)] → W p l e room_1 s m #[Value.ref b] below meth c H locs 1000 60000 (lw_Z below #[Value.ref b] s) (F0 m 18 ls [])) : W p l e room_1 s m #[Value.ref b] below meth c H locs 1000 60000 (lw_Z below #[Value.ref b] s) (F0 m 33 ls [.int 25]) := by
  obtain ⟨hx, hb, hr, hml, hown, hts, hX, hbl, hlocks, hgv⟩ := id C0
  have hbA : ¬ A b := by rw [hAe]; exact Nat.not_le.mpr hbl
  refine lv_tableIn (off := 932) (tgt := 965) hx hb dL_law_33 (by decide) (by decide) (by decide) (by decide) ?_
  refine lv_aload_n hx hb dL_law_965 rfl (lv_at hl 2 rfl) ?_
  refine lv_aload_n hx hb dL_law_966 rfl (lv_at hl 3 rfl) ?_
  refine lv_iload_n hx hb dL_law_967 rfl (lv_at hl 0 rfl) ?_
  refine lv_iconst (v := 1) hx hb dL_law_968 (by decide) ?_
  refine lv_iadd hx hb dL_law_969 ?_
  refine lv_fold (z := 1) (by decide) ?_
  refine va_sld hx hb hX hbl hbA Y.2.2 (by unfold vp_in; decide) dL_law_970 ?_
  refine lv_fold (z := xs 1) rfl ?_
  refine lv_aload_n hx hb dL_law_971 rfl (lv_at hl 3 rfl) ?_
  refine lv_iload_n hx hb dL_law_972 rfl (lv_at hl 0 rfl) ?_
  refine lv_iconst (v := 2) hx hb dL_law_973 (by decide) ?_
  refine lv_iadd hx hb dL_law_974 ?_
  refine lv_fold (z := 2) (by decide) ?_
  refine va_sld hx hb hX hbl hbA Y.2.2 (by unfold vp_in; decide) dL_law_975 ?_
  refine lv_fold (z := xs 2) rfl ?_
  refine lv_if_eq (tgt := 983) hx hb dL_law_976 (by decide) (fun c_1619 => ?_) (fun c_1619 => ?_)
  · refine lv_iconst (v := 0) hx hb dL_law_983 (by decide) ?_
    have Y := Y.swap
    refine cVp (As := [.int (xs 1), .int 0]) (rest := []) S Y (c_X11_odds (l := l) p_xo p_w p_nw) cw_X11_odds kmL_120 p_xo ok_X11.1 rfl rfl ⟨Nat.le_of_ble_eq_true rfl, Nat.le_of_ble_eq_true rfl⟩ hl.1 rfl (Nat.le_of_ble_eq_true rfl) ⟨Nat.le_of_ble_eq_true rfl, Nat.le_of_ble_eq_true rfl⟩ dL_law_984 (fun r_1620 H locs er_1620 Y => ?_)
    refine lv_fold (z := (-1)) er_1620 ?_
    have Y := Y.swap
    refine lv_aload_n hx hb dL_law_987 rfl (lv_at hl 1 rfl) ?_
    refine lv_aload_n hx hb dL_law_988 rfl (lv_at hl 3 rfl) ?_
    refine lv_iload_n hx hb dL_law_989 rfl (lv_at hl 0 rfl) ?_
    refine lv_iconst (v := 1) hx hb dL_law_990 (by decide) ?_
    refine lv_iadd hx hb dL_law_991 ?_
    refine lv_fold (z := 1) (by decide) ?_
    refine va_sld hx hb hX hbl hbA Y.2.2 (by unfold vp_in; decide) dL_law_992 ?_
    refine lv_fold (z := xs 1) rfl ?_
    refine lv_aload_n hx hb dL_law_993 rfl (lv_at hl 3 rfl) ?_
    refine lv_iload_n hx hb dL_law_994 rfl (lv_at hl 0 rfl) ?_
    refine lv_iconst (v := 2) hx hb dL_law_995 (by decide) ?_
    refine lv_iadd hx hb dL_law_996 ?_
    refine lv_fold (z := 2) (by decide) ?_
    refine va_sld hx hb hX hbl hbA Y.2.2 (by unfold vp_in; decide) dL_law_997 ?_
    refine lv_fold (z := xs 2) rfl ?_
    refine lv_if_eq (tgt := 1005) hx hb dL_law_998 (by decide) (fun _ => ?_) (fun h => absurd c_1619 h)
    refine lv_iconst (v := 0) hx hb dL_law_1005 (by decide) ?_
    refine cVp (As := [.int (xs 1), .int 0]) (rest := [.int (-1)]) S Y (c_X12_odds (l := l) p_xm p_m_a) cw_X12_odds kmL_124 p_xm ok_X12.1 rfl rfl ⟨Nat.le_of_ble_eq_true rfl, Nat.le_of_ble_eq_true rfl⟩ hl.1 rfl (Nat.le_of_ble_eq_true rfl) ⟨Nat.le_of_ble_eq_true rfl, Nat.le_of_ble_eq_true rfl⟩ dL_law_1006 (fun r_1621 H locs er_1621 Y => ?_)
    refine lv_fold (z := (-1)) er_1621 ?_
    refine lv_icmp_eq (tgt := 1526) hx hb dL_law_1009 (by decide) (fun _ => ?_) (fun h => absurd (by decide) h)
    refine lv_iinc (v := 6) (lv' := [(3, .int 6), (2, .ref xm), (1, .ref xo), (0, .ref b)]) hx hb dL_law_1526 hl (k := 0) rfl (by decide) (by decide) rfl (fun ls hl => ?_)
    refine lv_goto (tgt := 18) hx hb dL_law_1529 (by decide) ?_
    exact tail _ _ _ Y.2.2 (lv_sub hl [0, 3] rfl)
  · refine lv_iconst (v := 1) hx hb dL_law_979 (by decide) ?_
    refine lv_goto (tgt := 984) hx hb dL_law_980 (by decide) ?_
    have Y := Y.swap
    refine cVp (As := [.int (xs 1), .int 1]) (rest := []) S Y (c_X11_odds (l := l) p_xo p_w p_nw) cw_X11_odds kmL_120 p_xo ok_X11.1 rfl rfl ⟨Nat.le_of_ble_eq_true rfl, Nat.le_of_ble_eq_true rfl⟩ hl.1 rfl (Nat.le_of_ble_eq_true rfl) ⟨Nat.le_of_ble_eq_true rfl, Nat.le_of_ble_eq_true rfl⟩ dL_law_984 (fun r_1622 H locs er_1622 Y => ?_)
    refine lv_fold (z := (-1)) er_1622 ?_
    have Y := Y.swap
    refine lv_aload_n hx hb dL_law_987 rfl (lv_at hl 1 rfl) ?_
    refine lv_aload_n hx hb dL_law_988 rfl (lv_at hl 3 rfl) ?_
    refine lv_iload_n hx hb dL_law_989 rfl (lv_at hl 0 rfl) ?_
    refine lv_iconst (v := 1) hx hb dL_law_990 (by decide) ?_
    refine lv_iadd hx hb dL_law_991 ?_
    refine lv_fold (z := 1) (by decide) ?_
    refine va_sld hx hb hX hbl hbA Y.2.2 (by unfold vp_in; decide) dL_law_992 ?_
    refine lv_fold (z := xs 1) rfl ?_
    refine lv_aload_n hx hb dL_law_993 rfl (lv_at hl 3 rfl) ?_
    refine lv_iload_n hx hb dL_law_994 rfl (lv_at hl 0 rfl) ?_
    refine lv_iconst (v := 2) hx hb dL_law_995 (by decide) ?_
    refine lv_iadd hx hb dL_law_996 ?_
    refine lv_fold (z := 2) (by decide) ?_
    refine va_sld hx hb hX hbl hbA Y.2.2 (by unfold vp_in; decide) dL_law_997 ?_
    refine lv_fold (z := xs 2) rfl ?_
    refine lv_if_eq (tgt := 1005) hx hb dL_law_998 (by decide) (fun h => absurd h c_1619) (fun _ => ?_)
    refine lv_iconst (v := 1) hx hb dL_law_1001 (by decide) ?_
    refine lv_goto (tgt := 1006) hx hb dL_law_1002 (by decide) ?_
    refine cVp (As := [.int (xs 1), .int 1]) (rest := [.int (-1)]) S Y (c_X12_odds (l := l) p_xm p_m_a) cw_X12_odds kmL_124 p_xm ok_X12.1 rfl rfl ⟨Nat.le_of_ble_eq_true rfl, Nat.le_of_ble_eq_true rfl⟩ hl.1 rfl (Nat.le_of_ble_eq_true rfl) ⟨Nat.le_of_ble_eq_true rfl, Nat.le_of_ble_eq_true rfl⟩ dL_law_1006 (fun r_1623 H locs er_1623 Y => ?_)
    refine lv_fold (z := (-1)) er_1623 ?_
    refine lv_icmp_eq (tgt := 1526) hx hb dL_law_1009 (by decide) (fun _ => ?_) (fun h => absurd (by decide) h)
    refine lv_iinc (v := 6) (lv' := [(3, .int 6), (2, .ref xm), (1, .ref xo), (0, .ref b)]) hx hb dL_law_1526 hl (k := 0) rfl (by decide) (by decide) rfl (fun ls hl => ?_)
    refine lv_goto (tgt := 18) hx hb dL_law_1529 (by decide) ?_
    exact tail _ _ _ Y.2.2 (lv_sub hl [0, 3] rfl)
set_option maxHeartbeats 4000000 in
set_option maxRecDepth 100000 in
theorem law_26 {p : Program} {e : Env} {s : State} {m : MethodId} {below : List Frame} {meth : Method} {c : Code} (l : Launch) {b : Nat} {xs : Nat → Int32} (C0 : lw_At p s m meth c b 6 xs) {G : GG} {A : Nat → Prop} (hAe : A = (fun q : Nat => s.heap.size ≤ q)) (S : SX G A p s m meth c RL code 4 ret) {Lx Lm : List Nat} {fx fm : HF} {H : Heap} {locs : List Loc} {ls : Array Slot} {xo xm w ta ag sc nw pa fe cl wo si we k rd jd rg dd fo su ch m_a m_im m_te m_tp m_pi m_co m_na m_vl m_tr m_ac m_as_ m_su m_wi_ m_se : Nat} (p_xo : pt Lx fx xo (.inr (11, [.ref w, .ref k, .ref rd, .ref jd, .ref rg, .ref dd, .ref fo, .ref su, .ref ch]))) (p_w : pt Lx fx w (.inr (10, [.ref ta, .ref ag, .ref sc, .ref nw, .ref pa, .ref fe, .ref cl, .ref wo, .ref si, .ref we, .int 0, .int 0, .int (-1), .int 0, .int 0]))) (p_xm : pt Lm fm xm (.inr (12, [.ref m_a, .ref m_im, .ref m_te, .ref m_tp, .int 0, .int (-1), .int (-1), .int 0, .int 0, .int 0, .int 0, .long 0, .int 0, .int 0, .int 0, .ref m_pi, .ref m_co, .int 0, .int 0, .int 0, .int 0, .int 0, .ref m_na, .ref m_vl, .ref m_tr, .int 1, .ref m_ac, .ref m_as_, .ref m_su, .ref m_wi_, .int 0, .ref m_se]))) (p_m_a : pt Lm fm m_a (.inl (G.2 0, 10568, .inl a0))) (Y : DY G A s (va_pl Lx fx) Lm fm H locs) (hl : lv_has ls 4 [(3, .int 0), (2, .ref xm), (1, .ref xo), (0, .ref b)]) (tail : ∀ (H : Heap) (locs : List Loc) (ls : Array Slot), va_S A s.heap H locs → lv_has ls 4 [(3, .int 6), (0, .ref b)] → W p l e room_1 s m #[Value.ref b] below meth c H locs 1000 60000 (lw_Z below #[Value.ref b] s) (F0 m 18 ls [])) : W p l e room_1 s m #[Value.ref b] below meth c H locs 1000 60000 (lw_Z below #[Value.ref b] s) (F0 m 33 ls [.int 26]) := by
  obtain ⟨hx, hb, hr, hml, hown, hts, hX, hbl, hlocks, hgv⟩ := id C0
  have hbA : ¬ A b := by rw [hAe]; exact Nat.not_le.mpr hbl
  refine lv_tableIn (off := 981) (tgt := 1014) hx hb dL_law_33 (by decide) (by decide) (by decide) (by decide) ?_
  refine lv_aload_n hx hb dL_law_1014 rfl (lv_at hl 2 rfl) ?_
  refine lv_aload_n hx hb dL_law_1015 rfl (lv_at hl 3 rfl) ?_
  refine lv_iload_n hx hb dL_law_1016 rfl (lv_at hl 0 rfl) ?_
  refine lv_iconst (v := 1) hx hb dL_law_1017 (by decide) ?_
  refine lv_iadd hx hb dL_law_1018 ?_
  refine lv_fold (z := 1) (by decide) ?_
  refine va_sld hx hb hX hbl hbA Y.2.2 (by unfold vp_in; decide) dL_law_1019 ?_
  refine lv_fold (z := xs 1) rfl ?_
  have Y := Y.swap
  refine cVp (As := [.int (xs 1)]) (rest := []) S Y (c_X11_nextAsked (l := l) p_xo p_w) cw_X11_nextAsked kmL_125 p_xo ok_X11.1 rfl rfl ⟨Nat.le_of_ble_eq_true rfl, Nat.le_of_ble_eq_true rfl⟩ hl.1 rfl (Nat.le_of_ble_eq_true rfl) ⟨Nat.le_of_ble_eq_true rfl, Nat.le_of_ble_eq_true rfl⟩ dL_law_1020 (fun r_1624 H locs er_1624 Y => ?_)
  refine lv_fold (z := (-1)) er_1624 ?_
  have Y := Y.swap
  refine lv_aload_n hx hb dL_law_1023 rfl (lv_at hl 1 rfl) ?_
  refine lv_aload_n hx hb dL_law_1024 rfl (lv_at hl 3 rfl) ?_
  refine lv_iload_n hx hb dL_law_1025 rfl (lv_at hl 0 rfl) ?_
  refine lv_iconst (v := 1) hx hb dL_law_1026 (by decide) ?_
  refine lv_iadd hx hb dL_law_1027 ?_
  refine lv_fold (z := 1) (by decide) ?_
  refine va_sld hx hb hX hbl hbA Y.2.2 (by unfold vp_in; decide) dL_law_1028 ?_
  refine lv_fold (z := xs 1) rfl ?_
  refine cVp (As := [.int (xs 1)]) (rest := [.int (-1)]) S Y (c_X12_nextAsked (l := l) p_xm p_m_a) cw_X12_nextAsked kmL_128 p_xm ok_X12.1 rfl rfl ⟨Nat.le_of_ble_eq_true rfl, Nat.le_of_ble_eq_true rfl⟩ hl.1 rfl (Nat.le_of_ble_eq_true rfl) ⟨Nat.le_of_ble_eq_true rfl, Nat.le_of_ble_eq_true rfl⟩ dL_law_1029 (fun r_1625 H locs er_1625 Y => ?_)
  refine lv_fold (z := (-1)) er_1625 ?_
  refine lv_icmp_eq (tgt := 1526) hx hb dL_law_1032 (by decide) (fun _ => ?_) (fun h => absurd (by decide) h)
  refine lv_iinc (v := 6) (lv' := [(3, .int 6), (2, .ref xm), (1, .ref xo), (0, .ref b)]) hx hb dL_law_1526 hl (k := 0) rfl (by decide) (by decide) rfl (fun ls hl => ?_)
  refine lv_goto (tgt := 18) hx hb dL_law_1529 (by decide) ?_
  exact tail _ _ _ Y.2.2 (lv_sub hl [0, 3] rfl)
set_option maxHeartbeats 4000000 in
set_option maxRecDepth 100000 in
theorem law_27 {p : Program} {e : Env} {s : State} {m : MethodId} {below : List Frame} {meth : Method} {c : Code} (l : Launch) {b : Nat} {xs : Nat → Int32} (C0 : lw_At p s m meth c b 6 xs) {G : GG} {A : Nat → Prop} (hAe : A = (fun q : Nat => s.heap.size ≤ q)) (S : SX G A p s m meth c RL code 4 ret) {Lx Lm : List Nat} {fx fm : HF} {H : Heap} {locs : List Loc} {ls : Array Slot} {xo xm w ta ag sc nw pa fe cl wo si we oa aa c2 k rd jd rg dd fo su ch m_a m_im m_te m_tp m_pi m_co m_na m_vl m_tr m_ac m_as_ m_su m_wi_ m_se : Nat} (p_xo : pt Lx fx xo (.inr (11, [.ref w, .ref k, .ref rd, .ref jd, .ref rg, .ref dd, .ref fo, .ref su, .ref ch]))) (p_w : pt Lx fx w (.inr (10, [.ref ta, .ref ag, .ref sc, .ref nw, .ref pa, .ref fe, .ref cl, .ref wo, .ref si, .ref we, .int 0, .int 0, .int (-1), .int 0, .int 0]))) (p_nw : pt Lx fx nw (.inr (4, [.ref oa, .ref aa, .int 0, .int 0, .int 0, .int 0, .int 137]))) (p_cl : pt Lx fx cl (.inr (9, [.ref c2, .int 8, .int 0]))) (p_xm : pt Lm fm xm (.inr (12, [.ref m_a, .ref m_im, .ref m_te, .ref m_tp, .int 0, .int (-1), .int (-1), .int 0, .int 0, .int 0, .int 0, .long 0, .int 0, .int 0, .int 0, .ref m_pi, .ref m_co, .int 0, .int 0, .int 0, .int 0, .int 0, .ref m_na, .ref m_vl, .ref m_tr, .int 1, .ref m_ac, .ref m_as_, .ref m_su, .ref m_wi_, .int 0, .ref m_se]))) (p_m_a : pt Lm fm m_a (.inl (G.2 0, 10568, .inl a0))) (Y : DY G A s (va_pl Lx fx) Lm fm H locs) (hl : lv_has ls 4 [(3, .int 0), (2, .ref xm), (1, .ref xo), (0, .ref b)]) (tail : ∀ (H : Heap) (locs : List Loc) (ls : Array Slot), va_S A s.heap H locs → lv_has ls 4 [(3, .int 6), (0, .ref b)] → W p l e room_1 s m #[Value.ref b] below meth c H locs 1000 60000 (lw_Z below #[Value.ref b] s) (F0 m 18 ls [])) : W p l e room_1 s m #[Value.ref b] below meth c H locs 1000 60000 (lw_Z below #[Value.ref b] s) (F0 m 33 ls [.int 27]) := by
  obtain ⟨hx, hb, hr, hml, hown, hts, hX, hbl, hlocks, hgv⟩ := id C0
  have hbA : ¬ A b := by rw [hAe]; exact Nat.not_le.mpr hbl
  refine lv_tableIn (off := 1004) (tgt := 1037) hx hb dL_law_33 (by decide) (by decide) (by decide) (by decide) ?_
  refine lv_aload_n hx hb dL_law_1037 rfl (lv_at hl 2 rfl) ?_
  refine lv_aload_n hx hb dL_law_1038 rfl (lv_at hl 3 rfl) ?_
  refine lv_iload_n hx hb dL_law_1039 rfl (lv_at hl 0 rfl) ?_
  refine lv_iconst (v := 1) hx hb dL_law_1040 (by decide) ?_
  refine lv_iadd hx hb dL_law_1041 ?_
  refine lv_fold (z := 1) (by decide) ?_
  refine va_sld hx hb hX hbl hbA Y.2.2 (by unfold vp_in; decide) dL_law_1042 ?_
  refine lv_fold (z := xs 1) rfl ?_
  refine lv_aload_n hx hb dL_law_1043 rfl (lv_at hl 3 rfl) ?_
  refine lv_iload_n hx hb dL_law_1044 rfl (lv_at hl 0 rfl) ?_
  refine lv_iconst (v := 2) hx hb dL_law_1045 (by decide) ?_
  refine lv_iadd hx hb dL_law_1046 ?_
  refine lv_fold (z := 2) (by decide) ?_
  refine va_sld hx hb hX hbl hbA Y.2.2 (by unfold vp_in; decide) dL_law_1047 ?_
  refine lv_fold (z := xs 2) rfl ?_
  have Y := Y.swap
  refine cVi (As := [.int (xs 1), .int (xs 2)]) (rest := []) S Y (c_X11_clash (l := l) p_xo p_w p_nw p_cl) cw_X11_clash kmL_129 p_xo ok_X11.1 rfl rfl ⟨Nat.le_of_ble_eq_true rfl, Nat.le_of_ble_eq_true rfl⟩ hl.1 rfl (Nat.le_of_ble_eq_true rfl) ⟨Nat.le_of_ble_eq_true rfl, Nat.le_of_ble_eq_true rfl⟩ dL_law_1048 (fun r_1626 L_1627 f_1628 H locs hf_1628 Y => ?_)
  have Y := Y.swap
  refine lv_aload_n hx hb dL_law_1051 rfl (lv_at hl 1 rfl) ?_
  refine lv_aload_n hx hb dL_law_1052 rfl (lv_at hl 3 rfl) ?_
  refine lv_iload_n hx hb dL_law_1053 rfl (lv_at hl 0 rfl) ?_
  refine lv_iconst (v := 1) hx hb dL_law_1054 (by decide) ?_
  refine lv_iadd hx hb dL_law_1055 ?_
  refine lv_fold (z := 1) (by decide) ?_
  refine va_sld hx hb hX hbl hbA Y.2.2 (by unfold vp_in; decide) dL_law_1056 ?_
  refine lv_fold (z := xs 1) rfl ?_
  refine lv_aload_n hx hb dL_law_1057 rfl (lv_at hl 3 rfl) ?_
  refine lv_iload_n hx hb dL_law_1058 rfl (lv_at hl 0 rfl) ?_
  refine lv_iconst (v := 2) hx hb dL_law_1059 (by decide) ?_
  refine lv_iadd hx hb dL_law_1060 ?_
  refine lv_fold (z := 2) (by decide) ?_
  refine va_sld hx hb hX hbl hbA Y.2.2 (by unfold vp_in; decide) dL_law_1061 ?_
  refine lv_fold (z := xs 2) rfl ?_
  refine cVi (As := [.int (xs 1), .int (xs 2)]) (rest := [.int r_1626]) S Y (c_X12_clash (l := l) p_xm p_m_a) cw_X12_clash kmL_132 p_xm ok_X12.1 rfl rfl ⟨Nat.le_of_ble_eq_true rfl, Nat.le_of_ble_eq_true rfl⟩ hl.1 rfl (Nat.le_of_ble_eq_true rfl) ⟨Nat.le_of_ble_eq_true rfl, Nat.le_of_ble_eq_true rfl⟩ dL_law_1062 (fun r_1629 L_1630 f_1631 H locs hf_1631 Y => ?_)
  refine lv_icmp_eq (tgt := 1526) hx hb dL_law_1065 (by decide) (fun _ => ?_) (fun h => absurd (hf_1628.trans hf_1631.symm) h)
  refine lv_iinc (v := 6) (lv' := [(3, .int 6), (2, .ref xm), (1, .ref xo), (0, .ref b)]) hx hb dL_law_1526 hl (k := 0) rfl (by decide) (by decide) rfl (fun ls hl => ?_)
  refine lv_goto (tgt := 18) hx hb dL_law_1529 (by decide) ?_
  exact tail _ _ _ Y.2.2 (lv_sub hl [0, 3] rfl)
set_option maxHeartbeats 4000000 in
set_option maxRecDepth 100000 in
theorem law_28 {p : Program} {e : Env} {s : State} {m : MethodId} {below : List Frame} {meth : Method} {c : Code} (l : Launch) {b : Nat} {xs : Nat → Int32} (C0 : lw_At p s m meth c b 6 xs) {G : GG} {A : Nat → Prop} (hAe : A = (fun q : Nat => s.heap.size ≤ q)) (S : SX G A p s m meth c RL code 4 ret) {Lx Lm : List Nat} {fx fm : HF} {H : Heap} {locs : List Loc} {ls : Array Slot} {xo xm w ta ag sc nw pa fe cl wo si we c2 k rd jd rg dd fo su ch pr kn m_a m_im m_te m_tp m_pi m_co m_na m_vl m_tr m_ac m_as_ m_su m_wi_ m_se : Nat} (p_xo : pt Lx fx xo (.inr (11, [.ref w, .ref k, .ref rd, .ref jd, .ref rg, .ref dd, .ref fo, .ref su, .ref ch]))) (p_w : pt Lx fx w (.inr (10, [.ref ta, .ref ag, .ref sc, .ref nw, .ref pa, .ref fe, .ref cl, .ref wo, .ref si, .ref we, .int 0, .int 0, .int (-1), .int 0, .int 0]))) (p_cl : pt Lx fx cl (.inr (9, [.ref c2, .int 8, .int 0]))) (p_ch : pt Lx fx ch (.inr (0, [.ref w, .ref pr, .ref kn]))) (p_xm : pt Lm fm xm (.inr (12, [.ref m_a, .ref m_im, .ref m_te, .ref m_tp, .int 0, .int (-1), .int (-1), .int 0, .int 0, .int 0, .int 0, .long 0, .int 0, .int 0, .int 0, .ref m_pi, .ref m_co, .int 0, .int 0, .int 0, .int 0, .int 0, .ref m_na, .ref m_vl, .ref m_tr, .int 1, .ref m_ac, .ref m_as_, .ref m_su, .ref m_wi_, .int 0, .ref m_se]))) (p_m_a : pt Lm fm m_a (.inl (G.2 0, 10568, .inl a0))) (Y : DY G A s (va_pl Lx fx) Lm fm H locs) (hl : lv_has ls 4 [(3, .int 0), (2, .ref xm), (1, .ref xo), (0, .ref b)]) (tail : ∀ (H : Heap) (locs : List Loc) (ls : Array Slot), va_S A s.heap H locs → lv_has ls 4 [(3, .int 6), (0, .ref b)] → W p l e room_1 s m #[Value.ref b] below meth c H locs 1000 60000 (lw_Z below #[Value.ref b] s) (F0 m 18 ls [])) : W p l e room_1 s m #[Value.ref b] below meth c H locs 1000 60000 (lw_Z below #[Value.ref b] s) (F0 m 33 ls [.int 28]) := by
  obtain ⟨hx, hb, hr, hml, hown, hts, hX, hbl, hlocks, hgv⟩ := id C0
  have hbA : ¬ A b := by rw [hAe]; exact Nat.not_le.mpr hbl
  refine lv_tableIn (off := 1037) (tgt := 1070) hx hb dL_law_33 (by decide) (by decide) (by decide) (by decide) ?_
  refine lv_aload_n hx hb dL_law_1070 rfl (lv_at hl 2 rfl) ?_
  have Y := Y.swap
  refine cVp (As := []) (rest := []) S Y (c_X11_leastReleased (l := l) p_xo p_w p_ch p_cl) cw_X11_leastReleased kmL_133 p_xo ok_X11.1 rfl rfl ⟨Nat.le_of_ble_eq_true rfl, Nat.le_of_ble_eq_true rfl⟩ hl.1 rfl (Nat.le_of_ble_eq_true rfl) ⟨Nat.le_of_ble_eq_true rfl, Nat.le_of_ble_eq_true rfl⟩ dL_law_1071 (fun r_1632 H locs er_1632 Y => ?_)
  refine lv_fold (z := 0) er_1632 ?_
  have Y := Y.swap
  refine lv_aload_n hx hb dL_law_1074 rfl (lv_at hl 1 rfl) ?_
  refine cVp (As := []) (rest := [.int 0]) S Y (c_X12_leastReleased (l := l) p_xm p_m_a) cw_X12_leastReleased kmL_136 p_xm ok_X12.1 rfl rfl ⟨Nat.le_of_ble_eq_true rfl, Nat.le_of_ble_eq_true rfl⟩ hl.1 rfl (Nat.le_of_ble_eq_true rfl) ⟨Nat.le_of_ble_eq_true rfl, Nat.le_of_ble_eq_true rfl⟩ dL_law_1075 (fun r_1633 H locs er_1633 Y => ?_)
  refine lv_fold (z := 0) er_1633 ?_
  refine lv_icmp_eq (tgt := 1526) hx hb dL_law_1078 (by decide) (fun _ => ?_) (fun h => absurd (by decide) h)
  refine lv_iinc (v := 6) (lv' := [(3, .int 6), (2, .ref xm), (1, .ref xo), (0, .ref b)]) hx hb dL_law_1526 hl (k := 0) rfl (by decide) (by decide) rfl (fun ls hl => ?_)
  refine lv_goto (tgt := 18) hx hb dL_law_1529 (by decide) ?_
  exact tail _ _ _ Y.2.2 (lv_sub hl [0, 3] rfl)
set_option maxHeartbeats 4000000 in
set_option maxRecDepth 100000 in
theorem law_29 {p : Program} {e : Env} {s : State} {m : MethodId} {below : List Frame} {meth : Method} {c : Code} (l : Launch) {b : Nat} {xs : Nat → Int32} (C0 : lw_At p s m meth c b 6 xs) {G : GG} {A : Nat → Prop} (hAe : A = (fun q : Nat => s.heap.size ≤ q)) (S : SX G A p s m meth c RL code 4 ret) {Lx Lm : List Nat} {fx fm : HF} {H : Heap} {locs : List Loc} {ls : Array Slot} {xo xm w ta ag sc nw pa fe cl wo si we k rd jd rg dd fo su ch m_a m_im m_te m_tp m_pi m_co m_na m_vl m_tr m_ac m_as_ m_su m_wi_ m_se : Nat} (p_xo : pt Lx fx xo (.inr (11, [.ref w, .ref k, .ref rd, .ref jd, .ref rg, .ref dd, .ref fo, .ref su, .ref ch]))) (p_w : pt Lx fx w (.inr (10, [.ref ta, .ref ag, .ref sc, .ref nw, .ref pa, .ref fe, .ref cl, .ref wo, .ref si, .ref we, .int 0, .int 0, .int (-1), .int 0, .int 0]))) (p_xm : pt Lm fm xm (.inr (12, [.ref m_a, .ref m_im, .ref m_te, .ref m_tp, .int 0, .int (-1), .int (-1), .int 0, .int 0, .int 0, .int 0, .long 0, .int 0, .int 0, .int 0, .ref m_pi, .ref m_co, .int 0, .int 0, .int 0, .int 0, .int 0, .ref m_na, .ref m_vl, .ref m_tr, .int 1, .ref m_ac, .ref m_as_, .ref m_su, .ref m_wi_, .int 0, .ref m_se]))) (p_m_a : pt Lm fm m_a (.inl (G.2 0, 10568, .inl a0))) (Y : DY G A s (va_pl Lx fx) Lm fm H locs) (hl : lv_has ls 4 [(3, .int 0), (2, .ref xm), (1, .ref xo), (0, .ref b)]) (tail : ∀ (H : Heap) (locs : List Loc) (ls : Array Slot), va_S A s.heap H locs → lv_has ls 4 [(3, .int 6), (0, .ref b)] → W p l e room_1 s m #[Value.ref b] below meth c H locs 1000 60000 (lw_Z below #[Value.ref b] s) (F0 m 18 ls [])) : W p l e room_1 s m #[Value.ref b] below meth c H locs 1000 60000 (lw_Z below #[Value.ref b] s) (F0 m 33 ls [.int 29]) := by
  obtain ⟨hx, hb, hr, hml, hown, hts, hX, hbl, hlocks, hgv⟩ := id C0
  have hbA : ¬ A b := by rw [hAe]; exact Nat.not_le.mpr hbl
  refine lv_tableIn (off := 1050) (tgt := 1083) hx hb dL_law_33 (by decide) (by decide) (by decide) (by decide) ?_
  refine lv_aload_n hx hb dL_law_1083 rfl (lv_at hl 2 rfl) ?_
  refine lv_aload_n hx hb dL_law_1084 rfl (lv_at hl 3 rfl) ?_
  refine lv_iload_n hx hb dL_law_1085 rfl (lv_at hl 0 rfl) ?_
  refine lv_iconst (v := 1) hx hb dL_law_1086 (by decide) ?_
  refine lv_iadd hx hb dL_law_1087 ?_
  refine lv_fold (z := 1) (by decide) ?_
  refine va_sld hx hb hX hbl hbA Y.2.2 (by unfold vp_in; decide) dL_law_1088 ?_
  refine lv_fold (z := xs 1) rfl ?_
  refine lv_aload_n hx hb dL_law_1089 rfl (lv_at hl 3 rfl) ?_
  refine lv_iload_n hx hb dL_law_1090 rfl (lv_at hl 0 rfl) ?_
  refine lv_iconst (v := 2) hx hb dL_law_1091 (by decide) ?_
  refine lv_iadd hx hb dL_law_1092 ?_
  refine lv_fold (z := 2) (by decide) ?_
  refine va_sld hx hb hX hbl hbA Y.2.2 (by unfold vp_in; decide) dL_law_1093 ?_
  refine lv_fold (z := xs 2) rfl ?_
  refine lv_aload_n hx hb dL_law_1094 rfl (lv_at hl 3 rfl) ?_
  refine lv_iload_n hx hb dL_law_1095 rfl (lv_at hl 0 rfl) ?_
  refine lv_iconst (v := 3) hx hb dL_law_1096 (by decide) ?_
  refine lv_iadd hx hb dL_law_1097 ?_
  refine lv_fold (z := 3) (by decide) ?_
  refine va_sld hx hb hX hbl hbA Y.2.2 (by unfold vp_in; decide) dL_law_1098 ?_
  refine lv_fold (z := xs 3) rfl ?_
  have Y := Y.swap
  refine cVp (As := [.int (xs 1), .int (xs 2), .int (xs 3)]) (rest := []) S Y (c_X11_forged (l := l) p_xo p_w) cw_X11_forged kmL_137 p_xo ok_X11.1 rfl rfl ⟨Nat.le_of_ble_eq_true rfl, Nat.le_of_ble_eq_true rfl⟩ hl.1 rfl (Nat.le_of_ble_eq_true rfl) ⟨Nat.le_of_ble_eq_true rfl, Nat.le_of_ble_eq_true rfl⟩ dL_law_1099 (fun r_1634 H locs er_1634 Y => ?_)
  refine lv_fold (z := (-1000)) er_1634 ?_
  have Y := Y.swap
  refine lv_aload_n hx hb dL_law_1102 rfl (lv_at hl 1 rfl) ?_
  refine lv_aload_n hx hb dL_law_1103 rfl (lv_at hl 3 rfl) ?_
  refine lv_iload_n hx hb dL_law_1104 rfl (lv_at hl 0 rfl) ?_
  refine lv_iconst (v := 1) hx hb dL_law_1105 (by decide) ?_
  refine lv_iadd hx hb dL_law_1106 ?_
  refine lv_fold (z := 1) (by decide) ?_
  refine va_sld hx hb hX hbl hbA Y.2.2 (by unfold vp_in; decide) dL_law_1107 ?_
  refine lv_fold (z := xs 1) rfl ?_
  refine lv_aload_n hx hb dL_law_1108 rfl (lv_at hl 3 rfl) ?_
  refine lv_iload_n hx hb dL_law_1109 rfl (lv_at hl 0 rfl) ?_
  refine lv_iconst (v := 2) hx hb dL_law_1110 (by decide) ?_
  refine lv_iadd hx hb dL_law_1111 ?_
  refine lv_fold (z := 2) (by decide) ?_
  refine va_sld hx hb hX hbl hbA Y.2.2 (by unfold vp_in; decide) dL_law_1112 ?_
  refine lv_fold (z := xs 2) rfl ?_
  refine lv_aload_n hx hb dL_law_1113 rfl (lv_at hl 3 rfl) ?_
  refine lv_iload_n hx hb dL_law_1114 rfl (lv_at hl 0 rfl) ?_
  refine lv_iconst (v := 3) hx hb dL_law_1115 (by decide) ?_
  refine lv_iadd hx hb dL_law_1116 ?_
  refine lv_fold (z := 3) (by decide) ?_
  refine va_sld hx hb hX hbl hbA Y.2.2 (by unfold vp_in; decide) dL_law_1117 ?_
  refine lv_fold (z := xs 3) rfl ?_
  refine cVp (As := [.int (xs 1), .int (xs 2), .int (xs 3)]) (rest := [.int (-1000)]) S Y (c_X12_forged (l := l) p_xm p_m_a) cw_X12_forged kmL_140 p_xm ok_X12.1 rfl rfl ⟨Nat.le_of_ble_eq_true rfl, Nat.le_of_ble_eq_true rfl⟩ hl.1 rfl (Nat.le_of_ble_eq_true rfl) ⟨Nat.le_of_ble_eq_true rfl, Nat.le_of_ble_eq_true rfl⟩ dL_law_1118 (fun r_1635 H locs er_1635 Y => ?_)
  refine lv_fold (z := (-1000)) er_1635 ?_
  refine lv_icmp_eq (tgt := 1526) hx hb dL_law_1121 (by decide) (fun _ => ?_) (fun h => absurd (by decide) h)
  refine lv_iinc (v := 6) (lv' := [(3, .int 6), (2, .ref xm), (1, .ref xo), (0, .ref b)]) hx hb dL_law_1526 hl (k := 0) rfl (by decide) (by decide) rfl (fun ls hl => ?_)
  refine lv_goto (tgt := 18) hx hb dL_law_1529 (by decide) ?_
  exact tail _ _ _ Y.2.2 (lv_sub hl [0, 3] rfl)
set_option maxHeartbeats 4000000 in
set_option maxRecDepth 100000 in
theorem law_30 {p : Program} {e : Env} {s : State} {m : MethodId} {below : List Frame} {meth : Method} {c : Code} (l : Launch) {b : Nat} {xs : Nat → Int32} (C0 : lw_At p s m meth c b 6 xs) {G : GG} {A : Nat → Prop} (hAe : A = (fun q : Nat => s.heap.size ≤ q)) (S : SX G A p s m meth c RL code 4 ret) {Lx Lm : List Nat} {fx fm : HF} {H : Heap} {locs : List Loc} {ls : Array Slot} {xo xm w ta ag sc nw pa fe cl wo si we c3 k rd jd rg dd fo su ch m_a m_im m_te m_tp m_pi m_co m_na m_vl m_tr m_ac m_as_ m_su m_wi_ m_se : Nat} (p_xo : pt Lx fx xo (.inr (11, [.ref w, .ref k, .ref rd, .ref jd, .ref rg, .ref dd, .ref fo, .ref su, .ref ch]))) (p_w : pt Lx fx w (.inr (10, [.ref ta, .ref ag, .ref sc, .ref nw, .ref pa, .ref fe, .ref cl, .ref wo, .ref si, .ref we, .int 0, .int 0, .int (-1), .int 0, .int 0]))) (p_wo : pt Lx fx wo (.inr (9, [.ref c3, .int 8, .int 0]))) (p_c3 : pt Lx fx c3 (.inl (G.2 0, 24, .inl (fun _ => 0)))) (p_xm : pt Lm fm xm (.inr (12, [.ref m_a, .ref m_im, .ref m_te, .ref m_tp, .int 0, .int (-1), .int (-1), .int 0, .int 0, .int 0, .int 0, .long 0, .int 0, .int 0, .int 0, .ref m_pi, .ref m_co, .int 0, .int 0, .int 0, .int 0, .int 0, .ref m_na, .ref m_vl, .ref m_tr, .int 1, .ref m_ac, .ref m_as_, .ref m_su, .ref m_wi_, .int 0, .ref m_se]))) (p_m_a : pt Lm fm m_a (.inl (G.2 0, 10568, .inl a0))) (Y : DY G A s (va_pl Lx fx) Lm fm H locs) (hl : lv_has ls 4 [(3, .int 0), (2, .ref xm), (1, .ref xo), (0, .ref b)]) (tail : ∀ (H : Heap) (locs : List Loc) (ls : Array Slot), va_S A s.heap H locs → lv_has ls 4 [(3, .int 6), (0, .ref b)] → W p l e room_1 s m #[Value.ref b] below meth c H locs 1000 60000 (lw_Z below #[Value.ref b] s) (F0 m 18 ls [])) : W p l e room_1 s m #[Value.ref b] below meth c H locs 1000 60000 (lw_Z below #[Value.ref b] s) (F0 m 33 ls [.int 30]) := by
  obtain ⟨hx, hb, hr, hml, hown, hts, hX, hbl, hlocks, hgv⟩ := id C0
  have hbA : ¬ A b := by rw [hAe]; exact Nat.not_le.mpr hbl
  refine lv_tableIn (off := 1093) (tgt := 1126) hx hb dL_law_33 (by decide) (by decide) (by decide) (by decide) ?_
  refine lv_aload_n hx hb dL_law_1126 rfl (lv_at hl 2 rfl) ?_
  refine lv_aload_n hx hb dL_law_1127 rfl (lv_at hl 3 rfl) ?_
  refine lv_iload_n hx hb dL_law_1128 rfl (lv_at hl 0 rfl) ?_
  refine lv_iconst (v := 1) hx hb dL_law_1129 (by decide) ?_
  refine lv_iadd hx hb dL_law_1130 ?_
  refine lv_fold (z := 1) (by decide) ?_
  refine va_sld hx hb hX hbl hbA Y.2.2 (by unfold vp_in; decide) dL_law_1131 ?_
  refine lv_fold (z := xs 1) rfl ?_
  refine lv_aload_n hx hb dL_law_1132 rfl (lv_at hl 3 rfl) ?_
  refine lv_iload_n hx hb dL_law_1133 rfl (lv_at hl 0 rfl) ?_
  refine lv_iconst (v := 2) hx hb dL_law_1134 (by decide) ?_
  refine lv_iadd hx hb dL_law_1135 ?_
  refine lv_fold (z := 2) (by decide) ?_
  refine va_sld hx hb hX hbl hbA Y.2.2 (by unfold vp_in; decide) dL_law_1136 ?_
  refine lv_fold (z := xs 2) rfl ?_
  have Y := Y.swap
  refine cVi (As := [.int (xs 1), .int (xs 2)]) (rest := []) S Y (c_X11_word (l := l) p_xo p_w p_wo p_c3) cw_X11_word kmL_141 p_xo ok_X11.1 rfl rfl ⟨Nat.le_of_ble_eq_true rfl, Nat.le_of_ble_eq_true rfl⟩ hl.1 rfl (Nat.le_of_ble_eq_true rfl) ⟨Nat.le_of_ble_eq_true rfl, Nat.le_of_ble_eq_true rfl⟩ dL_law_1137 (fun r_1636 L_1637 f_1638 H locs hf_1638 Y => ?_)
  have Y := Y.swap
  refine lv_aload_n hx hb dL_law_1140 rfl (lv_at hl 1 rfl) ?_
  refine lv_aload_n hx hb dL_law_1141 rfl (lv_at hl 3 rfl) ?_
  refine lv_iload_n hx hb dL_law_1142 rfl (lv_at hl 0 rfl) ?_
  refine lv_iconst (v := 1) hx hb dL_law_1143 (by decide) ?_
  refine lv_iadd hx hb dL_law_1144 ?_
  refine lv_fold (z := 1) (by decide) ?_
  refine va_sld hx hb hX hbl hbA Y.2.2 (by unfold vp_in; decide) dL_law_1145 ?_
  refine lv_fold (z := xs 1) rfl ?_
  refine lv_aload_n hx hb dL_law_1146 rfl (lv_at hl 3 rfl) ?_
  refine lv_iload_n hx hb dL_law_1147 rfl (lv_at hl 0 rfl) ?_
  refine lv_iconst (v := 2) hx hb dL_law_1148 (by decide) ?_
  refine lv_iadd hx hb dL_law_1149 ?_
  refine lv_fold (z := 2) (by decide) ?_
  refine va_sld hx hb hX hbl hbA Y.2.2 (by unfold vp_in; decide) dL_law_1150 ?_
  refine lv_fold (z := xs 2) rfl ?_
  refine cVi (As := [.int (xs 1), .int (xs 2)]) (rest := [.int r_1636]) S Y (c_X12_word (l := l) p_xm p_m_a) cw_X12_word kmL_144 p_xm ok_X12.1 rfl rfl ⟨Nat.le_of_ble_eq_true rfl, Nat.le_of_ble_eq_true rfl⟩ hl.1 rfl (Nat.le_of_ble_eq_true rfl) ⟨Nat.le_of_ble_eq_true rfl, Nat.le_of_ble_eq_true rfl⟩ dL_law_1151 (fun r_1639 L_1640 f_1641 H locs hf_1641 Y => ?_)
  refine lv_icmp_eq (tgt := 1526) hx hb dL_law_1154 (by decide) (fun _ => ?_) (fun h => absurd (hf_1638.trans hf_1641.symm) h)
  refine lv_iinc (v := 6) (lv' := [(3, .int 6), (2, .ref xm), (1, .ref xo), (0, .ref b)]) hx hb dL_law_1526 hl (k := 0) rfl (by decide) (by decide) rfl (fun ls hl => ?_)
  refine lv_goto (tgt := 18) hx hb dL_law_1529 (by decide) ?_
  exact tail _ _ _ Y.2.2 (lv_sub hl [0, 3] rfl)
set_option maxHeartbeats 4000000 in
set_option maxRecDepth 100000 in
theorem law_31 {p : Program} {e : Env} {s : State} {m : MethodId} {below : List Frame} {meth : Method} {c : Code} (l : Launch) {b : Nat} {xs : Nat → Int32} (C0 : lw_At p s m meth c b 6 xs) {G : GG} {A : Nat → Prop} (hAe : A = (fun q : Nat => s.heap.size ≤ q)) (S : SX G A p s m meth c RL code 4 ret) {Lx Lm : List Nat} {fx fm : HF} {H : Heap} {locs : List Loc} {ls : Array Slot} {xo xm w ta ag sc nw pa fe cl wo si we c3 k rd jd rg dd fo su ch pr kn m_a m_im m_te m_tp m_pi m_co m_na m_vl m_tr m_ac m_as_ m_su m_wi_ m_se : Nat} (p_xo : pt Lx fx xo (.inr (11, [.ref w, .ref k, .ref rd, .ref jd, .ref rg, .ref dd, .ref fo, .ref su, .ref ch]))) (p_w : pt Lx fx w (.inr (10, [.ref ta, .ref ag, .ref sc, .ref nw, .ref pa, .ref fe, .ref cl, .ref wo, .ref si, .ref we, .int 0, .int 0, .int (-1), .int 0, .int 0]))) (p_wo : pt Lx fx wo (.inr (9, [.ref c3, .int 8, .int 0]))) (p_ch : pt Lx fx ch (.inr (0, [.ref w, .ref pr, .ref kn]))) (p_xm : pt Lm fm xm (.inr (12, [.ref m_a, .ref m_im, .ref m_te, .ref m_tp, .int 0, .int (-1), .int (-1), .int 0, .int 0, .int 0, .int 0, .long 0, .int 0, .int 0, .int 0, .ref m_pi, .ref m_co, .int 0, .int 0, .int 0, .int 0, .int 0, .ref m_na, .ref m_vl, .ref m_tr, .int 1, .ref m_ac, .ref m_as_, .ref m_su, .ref m_wi_, .int 0, .ref m_se]))) (p_m_a : pt Lm fm m_a (.inl (G.2 0, 10568, .inl a0))) (Y : DY G A s (va_pl Lx fx) Lm fm H locs) (hl : lv_has ls 4 [(3, .int 0), (2, .ref xm), (1, .ref xo), (0, .ref b)]) (tail : ∀ (H : Heap) (locs : List Loc) (ls : Array Slot), va_S A s.heap H locs → lv_has ls 4 [(3, .int 6), (0, .ref b)] → W p l e room_1 s m #[Value.ref b] below meth c H locs 1000 60000 (lw_Z below #[Value.ref b] s) (F0 m 18 ls [])) : W p l e room_1 s m #[Value.ref b] below meth c H locs 1000 60000 (lw_Z below #[Value.ref b] s) (F0 m 33 ls [.int 31]) := by
  obtain ⟨hx, hb, hr, hml, hown, hts, hX, hbl, hlocks, hgv⟩ := id C0
  have hbA : ¬ A b := by rw [hAe]; exact Nat.not_le.mpr hbl
  refine lv_tableIn (off := 1126) (tgt := 1159) hx hb dL_law_33 (by decide) (by decide) (by decide) (by decide) ?_
  refine lv_aload_n hx hb dL_law_1159 rfl (lv_at hl 2 rfl) ?_
  refine lv_aload_n hx hb dL_law_1160 rfl (lv_at hl 3 rfl) ?_
  refine lv_iload_n hx hb dL_law_1161 rfl (lv_at hl 0 rfl) ?_
  refine lv_iconst (v := 1) hx hb dL_law_1162 (by decide) ?_
  refine lv_iadd hx hb dL_law_1163 ?_
  refine lv_fold (z := 1) (by decide) ?_
  refine va_sld hx hb hX hbl hbA Y.2.2 (by unfold vp_in; decide) dL_law_1164 ?_
  refine lv_fold (z := xs 1) rfl ?_
  have Y := Y.swap
  refine cVp (As := [.int (xs 1)]) (rest := []) S Y (c_X11_inTime (l := l) p_xo p_w p_ch p_wo) cw_X11_inTime kmL_145 p_xo ok_X11.1 rfl rfl ⟨Nat.le_of_ble_eq_true rfl, Nat.le_of_ble_eq_true rfl⟩ hl.1 rfl (Nat.le_of_ble_eq_true rfl) ⟨Nat.le_of_ble_eq_true rfl, Nat.le_of_ble_eq_true rfl⟩ dL_law_1165 (fun r_1642 H locs er_1642 Y => ?_)
  have Y := Y.swap
  refine lv_aload_n hx hb dL_law_1168 rfl (lv_at hl 1 rfl) ?_
  refine lv_aload_n hx hb dL_law_1169 rfl (lv_at hl 3 rfl) ?_
  refine lv_iload_n hx hb dL_law_1170 rfl (lv_at hl 0 rfl) ?_
  refine lv_iconst (v := 1) hx hb dL_law_1171 (by decide) ?_
  refine lv_iadd hx hb dL_law_1172 ?_
  refine lv_fold (z := 1) (by decide) ?_
  refine va_sld hx hb hX hbl hbA Y.2.2 (by unfold vp_in; decide) dL_law_1173 ?_
  refine lv_fold (z := xs 1) rfl ?_
  refine cVp (As := [.int (xs 1)]) (rest := [.int r_1642]) S Y (c_X12_inTime (l := l) p_xm p_m_a) cw_X12_inTime kmL_148 p_xm ok_X12.1 rfl rfl ⟨Nat.le_of_ble_eq_true rfl, Nat.le_of_ble_eq_true rfl⟩ hl.1 rfl (Nat.le_of_ble_eq_true rfl) ⟨Nat.le_of_ble_eq_true rfl, Nat.le_of_ble_eq_true rfl⟩ dL_law_1174 (fun r_1643 H locs er_1643 Y => ?_)
  refine lv_icmp_eq (tgt := 1526) hx hb dL_law_1177 (by decide) (fun _ => ?_) (fun h => absurd (er_1642.trans er_1643.symm) h)
  refine lv_iinc (v := 6) (lv' := [(3, .int 6), (2, .ref xm), (1, .ref xo), (0, .ref b)]) hx hb dL_law_1526 hl (k := 0) rfl (by decide) (by decide) rfl (fun ls hl => ?_)
  refine lv_goto (tgt := 18) hx hb dL_law_1529 (by decide) ?_
  exact tail _ _ _ Y.2.2 (lv_sub hl [0, 3] rfl)
set_option maxHeartbeats 4000000 in
set_option maxRecDepth 100000 in
theorem law_32 {p : Program} {e : Env} {s : State} {m : MethodId} {below : List Frame} {meth : Method} {c : Code} (l : Launch) {b : Nat} {xs : Nat → Int32} (C0 : lw_At p s m meth c b 6 xs) {G : GG} {A : Nat → Prop} (hAe : A = (fun q : Nat => s.heap.size ≤ q)) (S : SX G A p s m meth c RL code 4 ret) {Lx Lm : List Nat} {fx fm : HF} {H : Heap} {locs : List Loc} {ls : Array Slot} {xo xm w ta ag sc nw pa fe cl wo si we k rd jd rg dd fo su ch m_a m_im m_te m_tp m_pi m_co m_na m_vl m_tr m_ac m_as_ m_su m_wi_ m_se : Nat} (p_xo : pt Lx fx xo (.inr (11, [.ref w, .ref k, .ref rd, .ref jd, .ref rg, .ref dd, .ref fo, .ref su, .ref ch]))) (p_w : pt Lx fx w (.inr (10, [.ref ta, .ref ag, .ref sc, .ref nw, .ref pa, .ref fe, .ref cl, .ref wo, .ref si, .ref we, .int 0, .int 0, .int (-1), .int 0, .int 0]))) (p_xm : pt Lm fm xm (.inr (12, [.ref m_a, .ref m_im, .ref m_te, .ref m_tp, .int 0, .int (-1), .int (-1), .int 0, .int 0, .int 0, .int 0, .long 0, .int 0, .int 0, .int 0, .ref m_pi, .ref m_co, .int 0, .int 0, .int 0, .int 0, .int 0, .ref m_na, .ref m_vl, .ref m_tr, .int 1, .ref m_ac, .ref m_as_, .ref m_su, .ref m_wi_, .int 0, .ref m_se]))) (p_m_a : pt Lm fm m_a (.inl (G.2 0, 10568, .inl a0))) (Y : DY G A s (va_pl Lx fx) Lm fm H locs) (hl : lv_has ls 4 [(3, .int 0), (2, .ref xm), (1, .ref xo), (0, .ref b)]) (tail : ∀ (H : Heap) (locs : List Loc) (ls : Array Slot), va_S A s.heap H locs → lv_has ls 4 [(3, .int 6), (0, .ref b)] → W p l e room_1 s m #[Value.ref b] below meth c H locs 1000 60000 (lw_Z below #[Value.ref b] s) (F0 m 18 ls [])) : W p l e room_1 s m #[Value.ref b] below meth c H locs 1000 60000 (lw_Z below #[Value.ref b] s) (F0 m 33 ls [.int 32]) := by
  obtain ⟨hx, hb, hr, hml, hown, hts, hX, hbl, hlocks, hgv⟩ := id C0
  have hbA : ¬ A b := by rw [hAe]; exact Nat.not_le.mpr hbl
  refine lv_tableIn (off := 1149) (tgt := 1182) hx hb dL_law_33 (by decide) (by decide) (by decide) (by decide) ?_
  refine lv_aload_n hx hb dL_law_1182 rfl (lv_at hl 2 rfl) ?_
  refine lv_aload_n hx hb dL_law_1183 rfl (lv_at hl 3 rfl) ?_
  refine lv_iload_n hx hb dL_law_1184 rfl (lv_at hl 0 rfl) ?_
  refine lv_iconst (v := 1) hx hb dL_law_1185 (by decide) ?_
  refine lv_iadd hx hb dL_law_1186 ?_
  refine lv_fold (z := 1) (by decide) ?_
  refine va_sld hx hb hX hbl hbA Y.2.2 (by unfold vp_in; decide) dL_law_1187 ?_
  refine lv_fold (z := xs 1) rfl ?_
  have Y := Y.swap
  refine cVp (As := [.int (xs 1)]) (rest := []) S Y (c_X11_whom (l := l) p_xo p_w) cw_X11_whom kmL_149 p_xo ok_X11.1 rfl rfl ⟨Nat.le_of_ble_eq_true rfl, Nat.le_of_ble_eq_true rfl⟩ hl.1 rfl (Nat.le_of_ble_eq_true rfl) ⟨Nat.le_of_ble_eq_true rfl, Nat.le_of_ble_eq_true rfl⟩ dL_law_1188 (fun r_1644 H locs er_1644 Y => ?_)
  refine lv_fold (z := (-1)) er_1644 ?_
  have Y := Y.swap
  refine lv_aload_n hx hb dL_law_1191 rfl (lv_at hl 1 rfl) ?_
  refine lv_aload_n hx hb dL_law_1192 rfl (lv_at hl 3 rfl) ?_
  refine lv_iload_n hx hb dL_law_1193 rfl (lv_at hl 0 rfl) ?_
  refine lv_iconst (v := 1) hx hb dL_law_1194 (by decide) ?_
  refine lv_iadd hx hb dL_law_1195 ?_
  refine lv_fold (z := 1) (by decide) ?_
  refine va_sld hx hb hX hbl hbA Y.2.2 (by unfold vp_in; decide) dL_law_1196 ?_
  refine lv_fold (z := xs 1) rfl ?_
  refine cVp (As := [.int (xs 1)]) (rest := [.int (-1)]) S Y (c_X12_whom (l := l) p_xm p_m_a) cw_X12_whom kmL_152 p_xm ok_X12.1 rfl rfl ⟨Nat.le_of_ble_eq_true rfl, Nat.le_of_ble_eq_true rfl⟩ hl.1 rfl (Nat.le_of_ble_eq_true rfl) ⟨Nat.le_of_ble_eq_true rfl, Nat.le_of_ble_eq_true rfl⟩ dL_law_1197 (fun r_1645 H locs er_1645 Y => ?_)
  refine lv_fold (z := (-1)) er_1645 ?_
  refine lv_icmp_eq (tgt := 1526) hx hb dL_law_1200 (by decide) (fun _ => ?_) (fun h => absurd (by decide) h)
  refine lv_iinc (v := 6) (lv' := [(3, .int 6), (2, .ref xm), (1, .ref xo), (0, .ref b)]) hx hb dL_law_1526 hl (k := 0) rfl (by decide) (by decide) rfl (fun ls hl => ?_)
  refine lv_goto (tgt := 18) hx hb dL_law_1529 (by decide) ?_
  exact tail _ _ _ Y.2.2 (lv_sub hl [0, 3] rfl)
set_option maxHeartbeats 4000000 in
set_option maxRecDepth 100000 in
theorem law_33 {p : Program} {e : Env} {s : State} {m : MethodId} {below : List Frame} {meth : Method} {c : Code} (l : Launch) {b : Nat} {xs : Nat → Int32} (C0 : lw_At p s m meth c b 6 xs) {G : GG} {A : Nat → Prop} (hAe : A = (fun q : Nat => s.heap.size ≤ q)) (S : SX G A p s m meth c RL code 4 ret) {Lx Lm : List Nat} {fx fm : HF} {H : Heap} {locs : List Loc} {ls : Array Slot} {xo xm w ta ag sc nw pa fe cl wo si we oa aa k rd jd rg dd fo su ch m_a m_im m_te m_tp m_pi m_co m_na m_vl m_tr m_ac m_as_ m_su m_wi_ m_se : Nat} (p_xo : pt Lx fx xo (.inr (11, [.ref w, .ref k, .ref rd, .ref jd, .ref rg, .ref dd, .ref fo, .ref su, .ref ch]))) (p_w : pt Lx fx w (.inr (10, [.ref ta, .ref ag, .ref sc, .ref nw, .ref pa, .ref fe, .ref cl, .ref wo, .ref si, .ref we, .int 0, .int 0, .int (-1), .int 0, .int 0]))) (p_nw : pt Lx fx nw (.inr (4, [.ref oa, .ref aa, .int 0, .int 0, .int 0, .int 0, .int 137]))) (p_rg : pt Lx fx rg (.inr (6, [.ref w, .int 0]))) (p_xm : pt Lm fm xm (.inr (12, [.ref m_a, .ref m_im, .ref m_te, .ref m_tp, .int 0, .int (-1), .int (-1), .int 0, .int 0, .int 0, .int 0, .long 0, .int 0, .int 0, .int 0, .ref m_pi, .ref m_co, .int 0, .int 0, .int 0, .int 0, .int 0, .ref m_na, .ref m_vl, .ref m_tr, .int 1, .ref m_ac, .ref m_as_, .ref m_su, .ref m_wi_, .int 0, .ref m_se]))) (p_m_a : pt Lm fm m_a (.inl (G.2 0, 10568, .inl a0))) (Y : DY G A s (va_pl Lx fx) Lm fm H locs) (hl : lv_has ls 4 [(3, .int 0), (2, .ref xm), (1, .ref xo), (0, .ref b)]) (tail : ∀ (H : Heap) (locs : List Loc) (ls : Array Slot), va_S A s.heap H locs → lv_has ls 4 [(3, .int 6), (0, .ref b)] → W p l e room_1 s m #[Value.ref b] below meth c H locs 1000 60000 (lw_Z below #[Value.ref b] s) (F0 m 18 ls [])) : W p l e room_1 s m #[Value.ref b] below meth c H locs 1000 60000 (lw_Z below #[Value.ref b] s) (F0 m 33 ls [.int 33]) := by
  obtain ⟨hx, hb, hr, hml, hown, hts, hX, hbl, hlocks, hgv⟩ := id C0
  have hbA : ¬ A b := by rw [hAe]; exact Nat.not_le.mpr hbl
  refine lv_tableIn (off := 1172) (tgt := 1205) hx hb dL_law_33 (by decide) (by decide) (by decide) (by decide) ?_
  refine lv_aload_n hx hb dL_law_1205 rfl (lv_at hl 2 rfl) ?_
  have Y := Y.swap
  refine cVi (As := []) (rest := []) S Y (c_X11_ring (l := l) p_xo p_w p_rg p_nw) cw_X11_ring kmL_153 p_xo ok_X11.1 rfl rfl ⟨Nat.le_of_ble_eq_true rfl, Nat.le_of_ble_eq_true rfl⟩ hl.1 rfl (Nat.le_of_ble_eq_true rfl) ⟨Nat.le_of_ble_eq_true rfl, Nat.le_of_ble_eq_true rfl⟩ dL_law_1206 (fun r_1646 L_1647 f_1648 H locs hf_1648 Y => ?_)
  refine lv_fold (z := 0) hf_1648 ?_
  have Y := Y.swap
  refine lv_aload_n hx hb dL_law_1209 rfl (lv_at hl 1 rfl) ?_
  refine cVp (As := []) (rest := [.int 0]) S Y (c_X12_ring (l := l) p_xm p_m_a) cw_X12_ring kmL_156 p_xm ok_X12.1 rfl rfl ⟨Nat.le_of_ble_eq_true rfl, Nat.le_of_ble_eq_true rfl⟩ hl.1 rfl (Nat.le_of_ble_eq_true rfl) ⟨Nat.le_of_ble_eq_true rfl, Nat.le_of_ble_eq_true rfl⟩ dL_law_1210 (fun r_1649 H locs er_1649 Y => ?_)
  refine lv_fold (z := 0) er_1649 ?_
  refine lv_icmp_eq (tgt := 1526) hx hb dL_law_1213 (by decide) (fun _ => ?_) (fun h => absurd (by decide) h)
  refine lv_iinc (v := 6) (lv' := [(3, .int 6), (2, .ref xm), (1, .ref xo), (0, .ref b)]) hx hb dL_law_1526 hl (k := 0) rfl (by decide) (by decide) rfl (fun ls hl => ?_)
  refine lv_goto (tgt := 18) hx hb dL_law_1529 (by decide) ?_
  exact tail _ _ _ Y.2.2 (lv_sub hl [0, 3] rfl)
set_option maxHeartbeats 4000000 in
set_option maxRecDepth 100000 in
theorem law_34 {p : Program} {e : Env} {s : State} {m : MethodId} {below : List Frame} {meth : Method} {c : Code} (l : Launch) {b : Nat} {xs : Nat → Int32} (C0 : lw_At p s m meth c b 6 xs) {G : GG} {A : Nat → Prop} (hAe : A = (fun q : Nat => s.heap.size ≤ q)) (S : SX G A p s m meth c RL code 4 ret) {Lx Lm : List Nat} {fx fm : HF} {H : Heap} {locs : List Loc} {ls : Array Slot} {xo xm w ta ag sc nw pa fe cl wo si we k rd jd rg dd fo su ch pr kn m_a m_im m_te m_tp m_pi m_co m_na m_vl m_tr m_ac m_as_ m_su m_wi_ m_se : Nat} (p_xo : pt Lx fx xo (.inr (11, [.ref w, .ref k, .ref rd, .ref jd, .ref rg, .ref dd, .ref fo, .ref su, .ref ch]))) (p_w : pt Lx fx w (.inr (10, [.ref ta, .ref ag, .ref sc, .ref nw, .ref pa, .ref fe, .ref cl, .ref wo, .ref si, .ref we, .int 0, .int 0, .int (-1), .int 0, .int 0]))) (p_ch : pt Lx fx ch (.inr (0, [.ref w, .ref pr, .ref kn]))) (p_xm : pt Lm fm xm (.inr (12, [.ref m_a, .ref m_im, .ref m_te, .ref m_tp, .int 0, .int (-1), .int (-1), .int 0, .int 0, .int 0, .int 0, .long 0, .int 0, .int 0, .int 0, .ref m_pi, .ref m_co, .int 0, .int 0, .int 0, .int 0, .int 0, .ref m_na, .ref m_vl, .ref m_tr, .int 1, .ref m_ac, .ref m_as_, .ref m_su, .ref m_wi_, .int 0, .ref m_se]))) (p_m_a : pt Lm fm m_a (.inl (G.2 0, 10568, .inl a0))) (p_m_se : pt Lm fm m_se (.inl (G.2 0, 6, .inl (fun _ => 0)))) (Y : DY G A s (va_pl Lx fx) Lm fm H locs) (hl : lv_has ls 4 [(3, .int 0), (2, .ref xm), (1, .ref xo), (0, .ref b)]) (tail : ∀ (H : Heap) (locs : List Loc) (ls : Array Slot), va_S A s.heap H locs → lv_has ls 4 [(3, .int 6), (0, .ref b)] → W p l e room_1 s m #[Value.ref b] below meth c H locs 1000 60000 (lw_Z below #[Value.ref b] s) (F0 m 18 ls [])) : W p l e room_1 s m #[Value.ref b] below meth c H locs 1000 60000 (lw_Z below #[Value.ref b] s) (F0 m 33 ls [.int 34]) := by
  obtain ⟨hx, hb, hr, hml, hown, hts, hX, hbl, hlocks, hgv⟩ := id C0
  have hbA : ¬ A b := by rw [hAe]; exact Nat.not_le.mpr hbl
  refine lv_tableIn (off := 1185) (tgt := 1218) hx hb dL_law_33 (by decide) (by decide) (by decide) (by decide) ?_
  refine lv_aload_n hx hb dL_law_1218 rfl (lv_at hl 2 rfl) ?_
  have Y := Y.swap
  refine cVp (As := []) (rest := []) S Y (c_X11_allSeen (l := l) p_xo p_w p_ch) cw_X11_allSeen kmL_157 p_xo ok_X11.1 rfl rfl ⟨Nat.le_of_ble_eq_true rfl, Nat.le_of_ble_eq_true rfl⟩ hl.1 rfl (Nat.le_of_ble_eq_true rfl) ⟨Nat.le_of_ble_eq_true rfl, Nat.le_of_ble_eq_true rfl⟩ dL_law_1219 (fun r_1650 H locs er_1650 Y => ?_)
  refine lv_fold (z := 0) er_1650 ?_
  have Y := Y.swap
  refine lv_aload_n hx hb dL_law_1222 rfl (lv_at hl 1 rfl) ?_
  refine cVp (As := []) (rest := [.int 0]) S Y (c_X12_allSeen (l := l) p_xm p_m_a p_m_se) cw_X12_allSeen kmL_160 p_xm ok_X12.1 rfl rfl ⟨Nat.le_of_ble_eq_true rfl, Nat.le_of_ble_eq_true rfl⟩ hl.1 rfl (Nat.le_of_ble_eq_true rfl) ⟨Nat.le_of_ble_eq_true rfl, Nat.le_of_ble_eq_true rfl⟩ dL_law_1223 (fun r_1651 H locs er_1651 Y => ?_)
  refine lv_fold (z := 0) er_1651 ?_
  refine lv_icmp_eq (tgt := 1526) hx hb dL_law_1226 (by decide) (fun _ => ?_) (fun h => absurd (by decide) h)
  refine lv_iinc (v := 6) (lv' := [(3, .int 6), (2, .ref xm), (1, .ref xo), (0, .ref b)]) hx hb dL_law_1526 hl (k := 0) rfl (by decide) (by decide) rfl (fun ls hl => ?_)
  refine lv_goto (tgt := 18) hx hb dL_law_1529 (by decide) ?_
  exact tail _ _ _ Y.2.2 (lv_sub hl [0, 3] rfl)
set_option maxHeartbeats 4000000 in
set_option maxRecDepth 100000 in
theorem law_35 {p : Program} {e : Env} {s : State} {m : MethodId} {below : List Frame} {meth : Method} {c : Code} (l : Launch) {b : Nat} {xs : Nat → Int32} (C0 : lw_At p s m meth c b 6 xs) {G : GG} {A : Nat → Prop} (hAe : A = (fun q : Nat => s.heap.size ≤ q)) (S : SX G A p s m meth c RL code 4 ret) {Lx Lm : List Nat} {fx fm : HF} {H : Heap} {locs : List Loc} {ls : Array Slot} {xo xm w ta ag sc nw pa fe cl wo si we oa aa c4 k rd jd rg dd fo su ch m_a m_im m_te m_tp m_pi m_co m_na m_vl m_tr m_ac m_as_ m_su m_wi_ m_se : Nat} (p_xo : pt Lx fx xo (.inr (11, [.ref w, .ref k, .ref rd, .ref jd, .ref rg, .ref dd, .ref fo, .ref su, .ref ch]))) (p_w : pt Lx fx w (.inr (10, [.ref ta, .ref ag, .ref sc, .ref nw, .ref pa, .ref fe, .ref cl, .ref wo, .ref si, .ref we, .int 0, .int 0, .int (-1), .int 0, .int 0]))) (p_nw : pt Lx fx nw (.inr (4, [.ref oa, .ref aa, .int 0, .int 0, .int 0, .int 0, .int 137]))) (p_si : pt Lx fx si (.inr (9, [.ref c4, .int 8, .int 0]))) (p_xm : pt Lm fm xm (.inr (12, [.ref m_a, .ref m_im, .ref m_te, .ref m_tp, .int 0, .int (-1), .int (-1), .int 0, .int 0, .int 0, .int 0, .long 0, .int 0, .int 0, .int 0, .ref m_pi, .ref m_co, .int 0, .int 0, .int 0, .int 0, .int 0, .ref m_na, .ref m_vl, .ref m_tr, .int 1, .ref m_ac, .ref m_as_, .ref m_su, .ref m_wi_, .int 0, .ref m_se]))) (p_m_a : pt Lm fm m_a (.inl (G.2 0, 10568, .inl a0))) (Y : DY G A s (va_pl Lx fx) Lm fm H locs) (hl : lv_has ls 4 [(3, .int 0), (2, .ref xm), (1, .ref xo), (0, .ref b)]) (tail : ∀ (H : Heap) (locs : List Loc) (ls : Array Slot), va_S A s.heap H locs → lv_has ls 4 [(3, .int 6), (0, .ref b)] → W p l e room_1 s m #[Value.ref b] below meth c H locs 1000 60000 (lw_Z below #[Value.ref b] s) (F0 m 18 ls [])) : W p l e room_1 s m #[Value.ref b] below meth c H locs 1000 60000 (lw_Z below #[Value.ref b] s) (F0 m 33 ls [.int 35]) := by
  obtain ⟨hx, hb, hr, hml, hown, hts, hX, hbl, hlocks, hgv⟩ := id C0
  have hbA : ¬ A b := by rw [hAe]; exact Nat.not_le.mpr hbl
  refine lv_tableIn (off := 1198) (tgt := 1231) hx hb dL_law_33 (by decide) (by decide) (by decide) (by decide) ?_
  refine lv_aload_n hx hb dL_law_1231 rfl (lv_at hl 2 rfl) ?_
  refine lv_aload_n hx hb dL_law_1232 rfl (lv_at hl 3 rfl) ?_
  refine lv_iload_n hx hb dL_law_1233 rfl (lv_at hl 0 rfl) ?_
  refine lv_iconst (v := 1) hx hb dL_law_1234 (by decide) ?_
  refine lv_iadd hx hb dL_law_1235 ?_
  refine lv_fold (z := 1) (by decide) ?_
  refine va_sld hx hb hX hbl hbA Y.2.2 (by unfold vp_in; decide) dL_law_1236 ?_
  refine lv_fold (z := xs 1) rfl ?_
  refine lv_aload_n hx hb dL_law_1237 rfl (lv_at hl 3 rfl) ?_
  refine lv_iload_n hx hb dL_law_1238 rfl (lv_at hl 0 rfl) ?_
  refine lv_iconst (v := 2) hx hb dL_law_1239 (by decide) ?_
  refine lv_iadd hx hb dL_law_1240 ?_
  refine lv_fold (z := 2) (by decide) ?_
  refine va_sld hx hb hX hbl hbA Y.2.2 (by unfold vp_in; decide) dL_law_1241 ?_
  refine lv_fold (z := xs 2) rfl ?_
  have Y := Y.swap
  refine cVi (As := [.int (xs 1), .int (xs 2)]) (rest := []) S Y (c_X11_saw (l := l) p_xo p_w p_nw p_si) cw_X11_saw kmL_161 p_xo ok_X11.1 rfl rfl ⟨Nat.le_of_ble_eq_true rfl, Nat.le_of_ble_eq_true rfl⟩ hl.1 rfl (Nat.le_of_ble_eq_true rfl) ⟨Nat.le_of_ble_eq_true rfl, Nat.le_of_ble_eq_true rfl⟩ dL_law_1242 (fun r_1652 L_1653 f_1654 H locs hf_1654 Y => ?_)
  have Y := Y.swap
  refine lv_aload_n hx hb dL_law_1245 rfl (lv_at hl 1 rfl) ?_
  refine lv_aload_n hx hb dL_law_1246 rfl (lv_at hl 3 rfl) ?_
  refine lv_iload_n hx hb dL_law_1247 rfl (lv_at hl 0 rfl) ?_
  refine lv_iconst (v := 1) hx hb dL_law_1248 (by decide) ?_
  refine lv_iadd hx hb dL_law_1249 ?_
  refine lv_fold (z := 1) (by decide) ?_
  refine va_sld hx hb hX hbl hbA Y.2.2 (by unfold vp_in; decide) dL_law_1250 ?_
  refine lv_fold (z := xs 1) rfl ?_
  refine lv_aload_n hx hb dL_law_1251 rfl (lv_at hl 3 rfl) ?_
  refine lv_iload_n hx hb dL_law_1252 rfl (lv_at hl 0 rfl) ?_
  refine lv_iconst (v := 2) hx hb dL_law_1253 (by decide) ?_
  refine lv_iadd hx hb dL_law_1254 ?_
  refine lv_fold (z := 2) (by decide) ?_
  refine va_sld hx hb hX hbl hbA Y.2.2 (by unfold vp_in; decide) dL_law_1255 ?_
  refine lv_fold (z := xs 2) rfl ?_
  refine cVi (As := [.int (xs 1), .int (xs 2)]) (rest := [.int r_1652]) S Y (c_X12_saw (l := l) p_xm p_m_a) cw_X12_saw kmL_164 p_xm ok_X12.1 rfl rfl ⟨Nat.le_of_ble_eq_true rfl, Nat.le_of_ble_eq_true rfl⟩ hl.1 rfl (Nat.le_of_ble_eq_true rfl) ⟨Nat.le_of_ble_eq_true rfl, Nat.le_of_ble_eq_true rfl⟩ dL_law_1256 (fun r_1655 L_1656 f_1657 H locs hf_1657 Y => ?_)
  refine lv_icmp_eq (tgt := 1526) hx hb dL_law_1259 (by decide) (fun _ => ?_) (fun h => absurd (hf_1654.trans hf_1657.symm) h)
  refine lv_iinc (v := 6) (lv' := [(3, .int 6), (2, .ref xm), (1, .ref xo), (0, .ref b)]) hx hb dL_law_1526 hl (k := 0) rfl (by decide) (by decide) rfl (fun ls hl => ?_)
  refine lv_goto (tgt := 18) hx hb dL_law_1529 (by decide) ?_
  exact tail _ _ _ Y.2.2 (lv_sub hl [0, 3] rfl)
set_option maxHeartbeats 4000000 in
set_option maxRecDepth 100000 in
theorem law_36 {p : Program} {e : Env} {s : State} {m : MethodId} {below : List Frame} {meth : Method} {c : Code} (l : Launch) {b : Nat} {xs : Nat → Int32} (C0 : lw_At p s m meth c b 6 xs) {G : GG} {A : Nat → Prop} (hAe : A = (fun q : Nat => s.heap.size ≤ q)) (S : SX G A p s m meth c RL code 4 ret) {Lx Lm : List Nat} {fx fm : HF} {H : Heap} {locs : List Loc} {ls : Array Slot} {xo xm w ta ag sc nw pa fe cl wo si we k rd jd rg dd fo su ch m_a m_im m_te m_tp m_pi m_co m_na m_vl m_tr m_ac m_as_ m_su m_wi_ m_se : Nat} (p_xo : pt Lx fx xo (.inr (11, [.ref w, .ref k, .ref rd, .ref jd, .ref rg, .ref dd, .ref fo, .ref su, .ref ch]))) (p_w : pt Lx fx w (.inr (10, [.ref ta, .ref ag, .ref sc, .ref nw, .ref pa, .ref fe, .ref cl, .ref wo, .ref si, .ref we, .int 0, .int 0, .int (-1), .int 0, .int 0]))) (p_xm : pt Lm fm xm (.inr (12, [.ref m_a, .ref m_im, .ref m_te, .ref m_tp, .int 0, .int (-1), .int (-1), .int 0, .int 0, .int 0, .int 0, .long 0, .int 0, .int 0, .int 0, .ref m_pi, .ref m_co, .int 0, .int 0, .int 0, .int 0, .int 0, .ref m_na, .ref m_vl, .ref m_tr, .int 1, .ref m_ac, .ref m_as_, .ref m_su, .ref m_wi_, .int 0, .ref m_se]))) (p_m_a : pt Lm fm m_a (.inl (G.2 0, 10568, .inl a0))) (Y : DY G A s (va_pl Lx fx) Lm fm H locs) (hl : lv_has ls 4 [(3, .int 0), (2, .ref xm), (1, .ref xo), (0, .ref b)]) (tail : ∀ (H : Heap) (locs : List Loc) (ls : Array Slot), va_S A s.heap H locs → lv_has ls 4 [(3, .int 6), (0, .ref b)] → W p l e room_1 s m #[Value.ref b] below meth c H locs 1000 60000 (lw_Z below #[Value.ref b] s) (F0 m 18 ls [])) : W p l e room_1 s m #[Value.ref b] below meth c H locs 1000 60000 (lw_Z below #[Value.ref b] s) (F0 m 33 ls [.int 36]) := by
  obtain ⟨hx, hb, hr, hml, hown, hts, hX, hbl, hlocks, hgv⟩ := id C0
  have hbA : ¬ A b := by rw [hAe]; exact Nat.not_le.mpr hbl
  refine lv_tableIn (off := 1231) (tgt := 1264) hx hb dL_law_33 (by decide) (by decide) (by decide) (by decide) ?_
  refine lv_aload_n hx hb dL_law_1264 rfl (lv_at hl 2 rfl) ?_
  refine lv_aload_n hx hb dL_law_1265 rfl (lv_at hl 3 rfl) ?_
  refine lv_iload_n hx hb dL_law_1266 rfl (lv_at hl 0 rfl) ?_
  refine lv_iconst (v := 1) hx hb dL_law_1267 (by decide) ?_
  refine lv_iadd hx hb dL_law_1268 ?_
  refine lv_fold (z := 1) (by decide) ?_
  refine va_sld hx hb hX hbl hbA Y.2.2 (by unfold vp_in; decide) dL_law_1269 ?_
  refine lv_fold (z := xs 1) rfl ?_
  have Y := Y.swap
  refine cVp (As := [.int (xs 1)]) (rest := []) S Y (c_X11_known (l := l) p_xo p_w) cw_X11_known kmL_165 p_xo ok_X11.1 rfl rfl ⟨Nat.le_of_ble_eq_true rfl, Nat.le_of_ble_eq_true rfl⟩ hl.1 rfl (Nat.le_of_ble_eq_true rfl) ⟨Nat.le_of_ble_eq_true rfl, Nat.le_of_ble_eq_true rfl⟩ dL_law_1270 (fun r_1658 H locs er_1658 Y => ?_)
  refine lv_fold (z := (-1)) er_1658 ?_
  have Y := Y.swap
  refine lv_aload_n hx hb dL_law_1273 rfl (lv_at hl 1 rfl) ?_
  refine lv_aload_n hx hb dL_law_1274 rfl (lv_at hl 3 rfl) ?_
  refine lv_iload_n hx hb dL_law_1275 rfl (lv_at hl 0 rfl) ?_
  refine lv_iconst (v := 1) hx hb dL_law_1276 (by decide) ?_
  refine lv_iadd hx hb dL_law_1277 ?_
  refine lv_fold (z := 1) (by decide) ?_
  refine va_sld hx hb hX hbl hbA Y.2.2 (by unfold vp_in; decide) dL_law_1278 ?_
  refine lv_fold (z := xs 1) rfl ?_
  refine cVp (As := [.int (xs 1)]) (rest := [.int (-1)]) S Y (c_X12_known (l := l) p_xm p_m_a) cw_X12_known kmL_168 p_xm ok_X12.1 rfl rfl ⟨Nat.le_of_ble_eq_true rfl, Nat.le_of_ble_eq_true rfl⟩ hl.1 rfl (Nat.le_of_ble_eq_true rfl) ⟨Nat.le_of_ble_eq_true rfl, Nat.le_of_ble_eq_true rfl⟩ dL_law_1279 (fun r_1659 H locs er_1659 Y => ?_)
  refine lv_fold (z := (-1)) er_1659 ?_
  refine lv_icmp_eq (tgt := 1526) hx hb dL_law_1282 (by decide) (fun _ => ?_) (fun h => absurd (by decide) h)
  refine lv_iinc (v := 6) (lv' := [(3, .int 6), (2, .ref xm), (1, .ref xo), (0, .ref b)]) hx hb dL_law_1526 hl (k := 0) rfl (by decide) (by decide) rfl (fun ls hl => ?_)
  refine lv_goto (tgt := 18) hx hb dL_law_1529 (by decide) ?_
  exact tail _ _ _ Y.2.2 (lv_sub hl [0, 3] rfl)
set_option maxHeartbeats 4000000 in
set_option maxRecDepth 100000 in
theorem law_37 {p : Program} {e : Env} {s : State} {m : MethodId} {below : List Frame} {meth : Method} {c : Code} (l : Launch) {b : Nat} {xs : Nat → Int32} (C0 : lw_At p s m meth c b 6 xs) {G : GG} {A : Nat → Prop} (hAe : A = (fun q : Nat => s.heap.size ≤ q)) (S : SX G A p s m meth c RL code 4 ret) {Lx Lm : List Nat} {fx fm : HF} {H : Heap} {locs : List Loc} {ls : Array Slot} {xo xm w ta ag sc nw pa fe cl wo si we k rd jd rg dd fo su ch pr kn m_a m_im m_te m_tp m_pi m_co m_na m_vl m_tr m_ac m_as_ m_su m_wi_ m_se : Nat} (p_xo : pt Lx fx xo (.inr (11, [.ref w, .ref k, .ref rd, .ref jd, .ref rg, .ref dd, .ref fo, .ref su, .ref ch]))) (p_w : pt Lx fx w (.inr (10, [.ref ta, .ref ag, .ref sc, .ref nw, .ref pa, .ref fe, .ref cl, .ref wo, .ref si, .ref we, .int 0, .int 0, .int (-1), .int 0, .int 0]))) (p_ch : pt Lx fx ch (.inr (0, [.ref w, .ref pr, .ref kn]))) (p_xm : pt Lm fm xm (.inr (12, [.ref m_a, .ref m_im, .ref m_te, .ref m_tp, .int 0, .int (-1), .int (-1), .int 0, .int 0, .int 0, .int 0, .long 0, .int 0, .int 0, .int 0, .ref m_pi, .ref m_co, .int 0, .int 0, .int 0, .int 0, .int 0, .ref m_na, .ref m_vl, .ref m_tr, .int 1, .ref m_ac, .ref m_as_, .ref m_su, .ref m_wi_, .int 0, .ref m_se]))) (p_m_a : pt Lm fm m_a (.inl (G.2 0, 10568, .inl a0))) (p_m_se : pt Lm fm m_se (.inl (G.2 0, 6, .inl (fun _ => 0)))) (Y : DY G A s (va_pl Lx fx) Lm fm H locs) (hl : lv_has ls 4 [(3, .int 0), (2, .ref xm), (1, .ref xo), (0, .ref b)]) (tail : ∀ (H : Heap) (locs : List Loc) (ls : Array Slot), va_S A s.heap H locs → lv_has ls 4 [(3, .int 6), (0, .ref b)] → W p l e room_1 s m #[Value.ref b] below meth c H locs 1000 60000 (lw_Z below #[Value.ref b] s) (F0 m 18 ls [])) : W p l e room_1 s m #[Value.ref b] below meth c H locs 1000 60000 (lw_Z below #[Value.ref b] s) (F0 m 33 ls [.int 37]) := by
  obtain ⟨hx, hb, hr, hml, hown, hts, hX, hbl, hlocks, hgv⟩ := id C0
  have hbA : ¬ A b := by rw [hAe]; exact Nat.not_le.mpr hbl
  refine lv_tableIn (off := 1254) (tgt := 1287) hx hb dL_law_33 (by decide) (by decide) (by decide) (by decide) ?_
  refine lv_aload_n hx hb dL_law_1287 rfl (lv_at hl 2 rfl) ?_
  have Y := Y.swap
  refine cVp (As := []) (rest := []) S Y (c_X11_together (l := l) p_xo p_w p_ch) cw_X11_together kmL_169 p_xo ok_X11.1 rfl rfl ⟨Nat.le_of_ble_eq_true rfl, Nat.le_of_ble_eq_true rfl⟩ hl.1 rfl (Nat.le_of_ble_eq_true rfl) ⟨Nat.le_of_ble_eq_true rfl, Nat.le_of_ble_eq_true rfl⟩ dL_law_1288 (fun r_1660 H locs er_1660 Y => ?_)
  refine lv_fold (z := 0) er_1660 ?_
  have Y := Y.swap
  refine lv_aload_n hx hb dL_law_1291 rfl (lv_at hl 1 rfl) ?_
  refine cVp (As := []) (rest := [.int 0]) S Y (c_X12_together (l := l) p_xm p_m_a p_m_se) cw_X12_together kmL_172 p_xm ok_X12.1 rfl rfl ⟨Nat.le_of_ble_eq_true rfl, Nat.le_of_ble_eq_true rfl⟩ hl.1 rfl (Nat.le_of_ble_eq_true rfl) ⟨Nat.le_of_ble_eq_true rfl, Nat.le_of_ble_eq_true rfl⟩ dL_law_1292 (fun r_1661 H locs er_1661 Y => ?_)
  refine lv_fold (z := 0) er_1661 ?_
  refine lv_icmp_eq (tgt := 1526) hx hb dL_law_1295 (by decide) (fun _ => ?_) (fun h => absurd (by decide) h)
  refine lv_iinc (v := 6) (lv' := [(3, .int 6), (2, .ref xm), (1, .ref xo), (0, .ref b)]) hx hb dL_law_1526 hl (k := 0) rfl (by decide) (by decide) rfl (fun ls hl => ?_)
  refine lv_goto (tgt := 18) hx hb dL_law_1529 (by decide) ?_
  exact tail _ _ _ Y.2.2 (lv_sub hl [0, 3] rfl)
set_option maxHeartbeats 4000000 in
set_option maxRecDepth 100000 in
theorem law_38 {p : Program} {e : Env} {s : State} {m : MethodId} {below : List Frame} {meth : Method} {c : Code} (l : Launch) {b : Nat} {xs : Nat → Int32} (C0 : lw_At p s m meth c b 6 xs) {G : GG} {A : Nat → Prop} (hAe : A = (fun q : Nat => s.heap.size ≤ q)) (S : SX G A p s m meth c RL code 4 ret) {Lx Lm : List Nat} {fx fm : HF} {H : Heap} {locs : List Loc} {ls : Array Slot} {xo xm w ta ag sc nw pa fe cl wo si we oa aa k rd jd rg dd fo su ch m_a m_im m_te m_tp m_pi m_co m_na m_vl m_tr m_ac m_as_ m_su m_wi_ m_se : Nat} (p_xo : pt Lx fx xo (.inr (11, [.ref w, .ref k, .ref rd, .ref jd, .ref rg, .ref dd, .ref fo, .ref su, .ref ch]))) (p_w : pt Lx fx w (.inr (10, [.ref ta, .ref ag, .ref sc, .ref nw, .ref pa, .ref fe, .ref cl, .ref wo, .ref si, .ref we, .int 0, .int 0, .int (-1), .int 0, .int 0]))) (p_nw : pt Lx fx nw (.inr (4, [.ref oa, .ref aa, .int 0, .int 0, .int 0, .int 0, .int 137]))) (p_xm : pt Lm fm xm (.inr (12, [.ref m_a, .ref m_im, .ref m_te, .ref m_tp, .int 0, .int (-1), .int (-1), .int 0, .int 0, .int 0, .int 0, .long 0, .int 0, .int 0, .int 0, .ref m_pi, .ref m_co, .int 0, .int 0, .int 0, .int 0, .int 0, .ref m_na, .ref m_vl, .ref m_tr, .int 1, .ref m_ac, .ref m_as_, .ref m_su, .ref m_wi_, .int 0, .ref m_se]))) (p_m_a : pt Lm fm m_a (.inl (G.2 0, 10568, .inl a0))) (Y : DY G A s (va_pl Lx fx) Lm fm H locs) (hl : lv_has ls 4 [(3, .int 0), (2, .ref xm), (1, .ref xo), (0, .ref b)]) (tail : ∀ (H : Heap) (locs : List Loc) (ls : Array Slot), va_S A s.heap H locs → lv_has ls 4 [(3, .int 6), (0, .ref b)] → W p l e room_1 s m #[Value.ref b] below meth c H locs 1000 60000 (lw_Z below #[Value.ref b] s) (F0 m 18 ls [])) : W p l e room_1 s m #[Value.ref b] below meth c H locs 1000 60000 (lw_Z below #[Value.ref b] s) (F0 m 33 ls [.int 38]) := by
  obtain ⟨hx, hb, hr, hml, hown, hts, hX, hbl, hlocks, hgv⟩ := id C0
  have hbA : ¬ A b := by rw [hAe]; exact Nat.not_le.mpr hbl
  refine lv_tableIn (off := 1267) (tgt := 1300) hx hb dL_law_33 (by decide) (by decide) (by decide) (by decide) ?_
  refine lv_aload_n hx hb dL_law_1300 rfl (lv_at hl 2 rfl) ?_
  refine lv_aload_n hx hb dL_law_1301 rfl (lv_at hl 3 rfl) ?_
  refine lv_iload_n hx hb dL_law_1302 rfl (lv_at hl 0 rfl) ?_
  refine lv_iconst (v := 1) hx hb dL_law_1303 (by decide) ?_
  refine lv_iadd hx hb dL_law_1304 ?_
  refine lv_fold (z := 1) (by decide) ?_
  refine va_sld hx hb hX hbl hbA Y.2.2 (by unfold vp_in; decide) dL_law_1305 ?_
  refine lv_fold (z := xs 1) rfl ?_
  refine lv_aload_n hx hb dL_law_1306 rfl (lv_at hl 3 rfl) ?_
  refine lv_iload_n hx hb dL_law_1307 rfl (lv_at hl 0 rfl) ?_
  refine lv_iconst (v := 2) hx hb dL_law_1308 (by decide) ?_
  refine lv_iadd hx hb dL_law_1309 ?_
  refine lv_fold (z := 2) (by decide) ?_
  refine va_sld hx hb hX hbl hbA Y.2.2 (by unfold vp_in; decide) dL_law_1310 ?_
  refine lv_fold (z := xs 2) rfl ?_
  refine lv_aload_n hx hb dL_law_1311 rfl (lv_at hl 3 rfl) ?_
  refine lv_iload_n hx hb dL_law_1312 rfl (lv_at hl 0 rfl) ?_
  refine lv_iconst (v := 3) hx hb dL_law_1313 (by decide) ?_
  refine lv_iadd hx hb dL_law_1314 ?_
  refine lv_fold (z := 3) (by decide) ?_
  refine va_sld hx hb hX hbl hbA Y.2.2 (by unfold vp_in; decide) dL_law_1315 ?_
  refine lv_fold (z := xs 3) rfl ?_
  refine lv_aload_n hx hb dL_law_1316 rfl (lv_at hl 3 rfl) ?_
  refine lv_iload_n hx hb dL_law_1317 rfl (lv_at hl 0 rfl) ?_
  refine lv_iconst (v := 4) hx hb dL_law_1318 (by decide) ?_
  refine lv_iadd hx hb dL_law_1319 ?_
  refine lv_fold (z := 4) (by decide) ?_
  refine va_sld hx hb hX hbl hbA Y.2.2 (by unfold vp_in; decide) dL_law_1320 ?_
  refine lv_fold (z := xs 4) rfl ?_
  refine lv_if_eq (tgt := 1328) hx hb dL_law_1321 (by decide) (fun c_1662 => ?_) (fun c_1662 => ?_)
  · refine lv_iconst (v := 0) hx hb dL_law_1328 (by decide) ?_
    have Y := Y.swap
    refine cVp (As := [.int (xs 1), .int (xs 2), .int (xs 3), .int 0]) (rest := []) S Y (c_X11_copy (l := l) p_xo p_w p_nw) cw_X11_copy kmL_173 p_xo ok_X11.1 rfl rfl ⟨Nat.le_of_ble_eq_true rfl, Nat.le_of_ble_eq_true rfl⟩ hl.1 rfl (Nat.le_of_ble_eq_true rfl) ⟨Nat.le_of_ble_eq_true rfl, Nat.le_of_ble_eq_true rfl⟩ dL_law_1329 (fun r_1663 H locs er_1663 Y => ?_)
    refine lv_fold (z := (-100000)) er_1663 ?_
    have Y := Y.swap
    refine lv_aload_n hx hb dL_law_1332 rfl (lv_at hl 1 rfl) ?_
    refine lv_aload_n hx hb dL_law_1333 rfl (lv_at hl 3 rfl) ?_
    refine lv_iload_n hx hb dL_law_1334 rfl (lv_at hl 0 rfl) ?_
    refine lv_iconst (v := 1) hx hb dL_law_1335 (by decide) ?_
    refine lv_iadd hx hb dL_law_1336 ?_
    refine lv_fold (z := 1) (by decide) ?_
    refine va_sld hx hb hX hbl hbA Y.2.2 (by unfold vp_in; decide) dL_law_1337 ?_
    refine lv_fold (z := xs 1) rfl ?_
    refine lv_aload_n hx hb dL_law_1338 rfl (lv_at hl 3 rfl) ?_
    refine lv_iload_n hx hb dL_law_1339 rfl (lv_at hl 0 rfl) ?_
    refine lv_iconst (v := 2) hx hb dL_law_1340 (by decide) ?_
    refine lv_iadd hx hb dL_law_1341 ?_
    refine lv_fold (z := 2) (by decide) ?_
    refine va_sld hx hb hX hbl hbA Y.2.2 (by unfold vp_in; decide) dL_law_1342 ?_
    refine lv_fold (z := xs 2) rfl ?_
    refine lv_aload_n hx hb dL_law_1343 rfl (lv_at hl 3 rfl) ?_
    refine lv_iload_n hx hb dL_law_1344 rfl (lv_at hl 0 rfl) ?_
    refine lv_iconst (v := 3) hx hb dL_law_1345 (by decide) ?_
    refine lv_iadd hx hb dL_law_1346 ?_
    refine lv_fold (z := 3) (by decide) ?_
    refine va_sld hx hb hX hbl hbA Y.2.2 (by unfold vp_in; decide) dL_law_1347 ?_
    refine lv_fold (z := xs 3) rfl ?_
    refine lv_aload_n hx hb dL_law_1348 rfl (lv_at hl 3 rfl) ?_
    refine lv_iload_n hx hb dL_law_1349 rfl (lv_at hl 0 rfl) ?_
    refine lv_iconst (v := 4) hx hb dL_law_1350 (by decide) ?_
    refine lv_iadd hx hb dL_law_1351 ?_
    refine lv_fold (z := 4) (by decide) ?_
    refine va_sld hx hb hX hbl hbA Y.2.2 (by unfold vp_in; decide) dL_law_1352 ?_
    refine lv_fold (z := xs 4) rfl ?_
    refine lv_if_eq (tgt := 1360) hx hb dL_law_1353 (by decide) (fun _ => ?_) (fun h => absurd c_1662 h)
    refine lv_iconst (v := 0) hx hb dL_law_1360 (by decide) ?_
    refine cVp (As := [.int (xs 1), .int (xs 2), .int (xs 3), .int 0]) (rest := [.int (-100000)]) S Y (c_X12_copy_ (l := l) p_xm p_m_a) cw_X12_copy_ kmL_177 p_xm ok_X12.1 rfl rfl ⟨Nat.le_of_ble_eq_true rfl, Nat.le_of_ble_eq_true rfl⟩ hl.1 rfl (Nat.le_of_ble_eq_true rfl) ⟨Nat.le_of_ble_eq_true rfl, Nat.le_of_ble_eq_true rfl⟩ dL_law_1361 (fun r_1664 H locs er_1664 Y => ?_)
    refine lv_fold (z := (-100000)) er_1664 ?_
    refine lv_icmp_eq (tgt := 1526) hx hb dL_law_1364 (by decide) (fun _ => ?_) (fun h => absurd (by decide) h)
    refine lv_iinc (v := 6) (lv' := [(3, .int 6), (2, .ref xm), (1, .ref xo), (0, .ref b)]) hx hb dL_law_1526 hl (k := 0) rfl (by decide) (by decide) rfl (fun ls hl => ?_)
    refine lv_goto (tgt := 18) hx hb dL_law_1529 (by decide) ?_
    exact tail _ _ _ Y.2.2 (lv_sub hl [0, 3] rfl)
  · refine lv_iconst (v := 1) hx hb dL_law_1324 (by decide) ?_
    refine lv_goto (tgt := 1329) hx hb dL_law_1325 (by decide) ?_
    have Y := Y.swap
    refine cVp (As := [.int (xs 1), .int (xs 2), .int (xs 3), .int 1]) (rest := []) S Y (c_X11_copy (l := l) p_xo p_w p_nw) cw_X11_copy kmL_173 p_xo ok_X11.1 rfl rfl ⟨Nat.le_of_ble_eq_true rfl, Nat.le_of_ble_eq_true rfl⟩ hl.1 rfl (Nat.le_of_ble_eq_true rfl) ⟨Nat.le_of_ble_eq_true rfl, Nat.le_of_ble_eq_true rfl⟩ dL_law_1329 (fun r_1665 H locs er_1665 Y => ?_)
    refine lv_fold (z := (-100000)) er_1665 ?_
    have Y := Y.swap
    refine lv_aload_n hx hb dL_law_1332 rfl (lv_at hl 1 rfl) ?_
    refine lv_aload_n hx hb dL_law_1333 rfl (lv_at hl 3 rfl) ?_
    refine lv_iload_n hx hb dL_law_1334 rfl (lv_at hl 0 rfl) ?_
    refine lv_iconst (v := 1) hx hb dL_law_1335 (by decide) ?_
    refine lv_iadd hx hb dL_law_1336 ?_
    refine lv_fold (z := 1) (by decide) ?_
    refine va_sld hx hb hX hbl hbA Y.2.2 (by unfold vp_in; decide) dL_law_1337 ?_
    refine lv_fold (z := xs 1) rfl ?_
    refine lv_aload_n hx hb dL_law_1338 rfl (lv_at hl 3 rfl) ?_
    refine lv_iload_n hx hb dL_law_1339 rfl (lv_at hl 0 rfl) ?_
    refine lv_iconst (v := 2) hx hb dL_law_1340 (by decide) ?_
    refine lv_iadd hx hb dL_law_1341 ?_
    refine lv_fold (z := 2) (by decide) ?_
    refine va_sld hx hb hX hbl hbA Y.2.2 (by unfold vp_in; decide) dL_law_1342 ?_
    refine lv_fold (z := xs 2) rfl ?_
    refine lv_aload_n hx hb dL_law_1343 rfl (lv_at hl 3 rfl) ?_
    refine lv_iload_n hx hb dL_law_1344 rfl (lv_at hl 0 rfl) ?_
    refine lv_iconst (v := 3) hx hb dL_law_1345 (by decide) ?_
    refine lv_iadd hx hb dL_law_1346 ?_
    refine lv_fold (z := 3) (by decide) ?_
    refine va_sld hx hb hX hbl hbA Y.2.2 (by unfold vp_in; decide) dL_law_1347 ?_
    refine lv_fold (z := xs 3) rfl ?_
    refine lv_aload_n hx hb dL_law_1348 rfl (lv_at hl 3 rfl) ?_
    refine lv_iload_n hx hb dL_law_1349 rfl (lv_at hl 0 rfl) ?_
    refine lv_iconst (v := 4) hx hb dL_law_1350 (by decide) ?_
    refine lv_iadd hx hb dL_law_1351 ?_
    refine lv_fold (z := 4) (by decide) ?_
    refine va_sld hx hb hX hbl hbA Y.2.2 (by unfold vp_in; decide) dL_law_1352 ?_
    refine lv_fold (z := xs 4) rfl ?_
    refine lv_if_eq (tgt := 1360) hx hb dL_law_1353 (by decide) (fun h => absurd h c_1662) (fun _ => ?_)
    refine lv_iconst (v := 1) hx hb dL_law_1356 (by decide) ?_
    refine lv_goto (tgt := 1361) hx hb dL_law_1357 (by decide) ?_
    refine cVp (As := [.int (xs 1), .int (xs 2), .int (xs 3), .int 1]) (rest := [.int (-100000)]) S Y (c_X12_copy_ (l := l) p_xm p_m_a) cw_X12_copy_ kmL_177 p_xm ok_X12.1 rfl rfl ⟨Nat.le_of_ble_eq_true rfl, Nat.le_of_ble_eq_true rfl⟩ hl.1 rfl (Nat.le_of_ble_eq_true rfl) ⟨Nat.le_of_ble_eq_true rfl, Nat.le_of_ble_eq_true rfl⟩ dL_law_1361 (fun r_1666 H locs er_1666 Y => ?_)
    refine lv_fold (z := (-100000)) er_1666 ?_
    refine lv_icmp_eq (tgt := 1526) hx hb dL_law_1364 (by decide) (fun _ => ?_) (fun h => absurd (by decide) h)
    refine lv_iinc (v := 6) (lv' := [(3, .int 6), (2, .ref xm), (1, .ref xo), (0, .ref b)]) hx hb dL_law_1526 hl (k := 0) rfl (by decide) (by decide) rfl (fun ls hl => ?_)
    refine lv_goto (tgt := 18) hx hb dL_law_1529 (by decide) ?_
    exact tail _ _ _ Y.2.2 (lv_sub hl [0, 3] rfl)
set_option maxHeartbeats 4000000 in
set_option maxRecDepth 100000 in
theorem law_39 {p : Program} {e : Env} {s : State} {m : MethodId} {below : List Frame} {meth : Method} {c : Code} (l : Launch) {b : Nat} {xs : Nat → Int32} (C0 : lw_At p s m meth c b 6 xs) {G : GG} {A : Nat → Prop} (hAe : A = (fun q : Nat => s.heap.size ≤ q)) (S : SX G A p s m meth c RL code 4 ret) {Lx Lm : List Nat} {fx fm : HF} {H : Heap} {locs : List Loc} {ls : Array Slot} {xo xm w ta ag sc nw pa fe cl wo si we oa aa c5 k rd jd rg dd fo su ch m_a m_im m_te m_tp m_pi m_co m_na m_vl m_tr m_ac m_as_ m_su m_wi_ m_se : Nat} (p_xo : pt Lx fx xo (.inr (11, [.ref w, .ref k, .ref rd, .ref jd, .ref rg, .ref dd, .ref fo, .ref su, .ref ch]))) (p_w : pt Lx fx w (.inr (10, [.ref ta, .ref ag, .ref sc, .ref nw, .ref pa, .ref fe, .ref cl, .ref wo, .ref si, .ref we, .int 0, .int 0, .int (-1), .int 0, .int 0]))) (p_nw : pt Lx fx nw (.inr (4, [.ref oa, .ref aa, .int 0, .int 0, .int 0, .int 0, .int 137]))) (p_we : pt Lx fx we (.inr (9, [.ref c5, .int 8, .int 0]))) (p_xm : pt Lm fm xm (.inr (12, [.ref m_a, .ref m_im, .ref m_te, .ref m_tp, .int 0, .int (-1), .int (-1), .int 0, .int 0, .int 0, .int 0, .long 0, .int 0, .int 0, .int 0, .ref m_pi, .ref m_co, .int 0, .int 0, .int 0, .int 0, .int 0, .ref m_na, .ref m_vl, .ref m_tr, .int 1, .ref m_ac, .ref m_as_, .ref m_su, .ref m_wi_, .int 0, .ref m_se]))) (p_m_a : pt Lm fm m_a (.inl (G.2 0, 10568, .inl a0))) (Y : DY G A s (va_pl Lx fx) Lm fm H locs) (hl : lv_has ls 4 [(3, .int 0), (2, .ref xm), (1, .ref xo), (0, .ref b)]) (tail : ∀ (H : Heap) (locs : List Loc) (ls : Array Slot), va_S A s.heap H locs → lv_has ls 4 [(3, .int 6), (0, .ref b)] → W p l e room_1 s m #[Value.ref b] below meth c H locs 1000 60000 (lw_Z below #[Value.ref b] s) (F0 m 18 ls [])) : W p l e room_1 s m #[Value.ref b] below meth c H locs 1000 60000 (lw_Z below #[Value.ref b] s) (F0 m 33 ls [.int 39]) := by
  obtain ⟨hx, hb, hr, hml, hown, hts, hX, hbl, hlocks, hgv⟩ := id C0
  have hbA : ¬ A b := by rw [hAe]; exact Nat.not_le.mpr hbl
  refine lv_tableIn (off := 1336) (tgt := 1369) hx hb dL_law_33 (by decide) (by decide) (by decide) (by decide) ?_
  refine lv_aload_n hx hb dL_law_1369 rfl (lv_at hl 2 rfl) ?_
  refine lv_aload_n hx hb dL_law_1370 rfl (lv_at hl 3 rfl) ?_
  refine lv_iload_n hx hb dL_law_1371 rfl (lv_at hl 0 rfl) ?_
  refine lv_iconst (v := 1) hx hb dL_law_1372 (by decide) ?_
  refine lv_iadd hx hb dL_law_1373 ?_
  refine lv_fold (z := 1) (by decide) ?_
  refine va_sld hx hb hX hbl hbA Y.2.2 (by unfold vp_in; decide) dL_law_1374 ?_
  refine lv_fold (z := xs 1) rfl ?_
  refine lv_aload_n hx hb dL_law_1375 rfl (lv_at hl 3 rfl) ?_
  refine lv_iload_n hx hb dL_law_1376 rfl (lv_at hl 0 rfl) ?_
  refine lv_iconst (v := 2) hx hb dL_law_1377 (by decide) ?_
  refine lv_iadd hx hb dL_law_1378 ?_
  refine lv_fold (z := 2) (by decide) ?_
  refine va_sld hx hb hX hbl hbA Y.2.2 (by unfold vp_in; decide) dL_law_1379 ?_
  refine lv_fold (z := xs 2) rfl ?_
  have Y := Y.swap
  refine cVi (As := [.int (xs 1), .int (xs 2)]) (rest := []) S Y (c_X11_worn (l := l) p_xo p_w p_nw p_we) cw_X11_worn kmL_178 p_xo ok_X11.1 rfl rfl ⟨Nat.le_of_ble_eq_true rfl, Nat.le_of_ble_eq_true rfl⟩ hl.1 rfl (Nat.le_of_ble_eq_true rfl) ⟨Nat.le_of_ble_eq_true rfl, Nat.le_of_ble_eq_true rfl⟩ dL_law_1380 (fun r_1667 L_1668 f_1669 H locs hf_1669 Y => ?_)
  have Y := Y.swap
  refine lv_aload_n hx hb dL_law_1383 rfl (lv_at hl 1 rfl) ?_
  refine lv_aload_n hx hb dL_law_1384 rfl (lv_at hl 3 rfl) ?_
  refine lv_iload_n hx hb dL_law_1385 rfl (lv_at hl 0 rfl) ?_
  refine lv_iconst (v := 1) hx hb dL_law_1386 (by decide) ?_
  refine lv_iadd hx hb dL_law_1387 ?_
  refine lv_fold (z := 1) (by decide) ?_
  refine va_sld hx hb hX hbl hbA Y.2.2 (by unfold vp_in; decide) dL_law_1388 ?_
  refine lv_fold (z := xs 1) rfl ?_
  refine lv_aload_n hx hb dL_law_1389 rfl (lv_at hl 3 rfl) ?_
  refine lv_iload_n hx hb dL_law_1390 rfl (lv_at hl 0 rfl) ?_
  refine lv_iconst (v := 2) hx hb dL_law_1391 (by decide) ?_
  refine lv_iadd hx hb dL_law_1392 ?_
  refine lv_fold (z := 2) (by decide) ?_
  refine va_sld hx hb hX hbl hbA Y.2.2 (by unfold vp_in; decide) dL_law_1393 ?_
  refine lv_fold (z := xs 2) rfl ?_
  refine cVi (As := [.int (xs 1), .int (xs 2)]) (rest := [.int r_1667]) S Y (c_X12_worn (l := l) p_xm p_m_a) cw_X12_worn kmL_181 p_xm ok_X12.1 rfl rfl ⟨Nat.le_of_ble_eq_true rfl, Nat.le_of_ble_eq_true rfl⟩ hl.1 rfl (Nat.le_of_ble_eq_true rfl) ⟨Nat.le_of_ble_eq_true rfl, Nat.le_of_ble_eq_true rfl⟩ dL_law_1394 (fun r_1670 L_1671 f_1672 H locs hf_1672 Y => ?_)
  refine lv_icmp_eq (tgt := 1526) hx hb dL_law_1397 (by decide) (fun _ => ?_) (fun h => absurd (hf_1669.trans hf_1672.symm) h)
  refine lv_iinc (v := 6) (lv' := [(3, .int 6), (2, .ref xm), (1, .ref xo), (0, .ref b)]) hx hb dL_law_1526 hl (k := 0) rfl (by decide) (by decide) rfl (fun ls hl => ?_)
  refine lv_goto (tgt := 18) hx hb dL_law_1529 (by decide) ?_
  exact tail _ _ _ Y.2.2 (lv_sub hl [0, 3] rfl)
set_option maxHeartbeats 4000000 in
set_option maxRecDepth 100000 in
theorem law_40 {p : Program} {e : Env} {s : State} {m : MethodId} {below : List Frame} {meth : Method} {c : Code} (l : Launch) {b : Nat} {xs : Nat → Int32} (C0 : lw_At p s m meth c b 6 xs) {G : GG} {A : Nat → Prop} (hAe : A = (fun q : Nat => s.heap.size ≤ q)) (S : SX G A p s m meth c RL code 4 ret) {Lx Lm : List Nat} {fx fm : HF} {H : Heap} {locs : List Loc} {ls : Array Slot} {xo xm w ta ag sc nw pa fe cl wo si we k rd jd rg dd fo su ch m_a m_im m_te m_tp m_pi m_co m_na m_vl m_tr m_ac m_as_ m_su m_wi_ m_se : Nat} (p_xo : pt Lx fx xo (.inr (11, [.ref w, .ref k, .ref rd, .ref jd, .ref rg, .ref dd, .ref fo, .ref su, .ref ch]))) (p_w : pt Lx fx w (.inr (10, [.ref ta, .ref ag, .ref sc, .ref nw, .ref pa, .ref fe, .ref cl, .ref wo, .ref si, .ref we, .int 0, .int 0, .int (-1), .int 0, .int 0]))) (p_xm : pt Lm fm xm (.inr (12, [.ref m_a, .ref m_im, .ref m_te, .ref m_tp, .int 0, .int (-1), .int (-1), .int 0, .int 0, .int 0, .int 0, .long 0, .int 0, .int 0, .int 0, .ref m_pi, .ref m_co, .int 0, .int 0, .int 0, .int 0, .int 0, .ref m_na, .ref m_vl, .ref m_tr, .int 1, .ref m_ac, .ref m_as_, .ref m_su, .ref m_wi_, .int 0, .ref m_se]))) (p_m_a : pt Lm fm m_a (.inl (G.2 0, 10568, .inl a0))) (Y : DY G A s (va_pl Lx fx) Lm fm H locs) (hl : lv_has ls 4 [(3, .int 0), (2, .ref xm), (1, .ref xo), (0, .ref b)]) (tail : ∀ (H : Heap) (locs : List Loc) (ls : Array Slot), va_S A s.heap H locs → lv_has ls 4 [(3, .int 6), (0, .ref b)] → W p l e room_1 s m #[Value.ref b] below meth c H locs 1000 60000 (lw_Z below #[Value.ref b] s) (F0 m 18 ls [])) : W p l e room_1 s m #[Value.ref b] below meth c H locs 1000 60000 (lw_Z below #[Value.ref b] s) (F0 m 33 ls [.int 40]) := by
  obtain ⟨hx, hb, hr, hml, hown, hts, hX, hbl, hlocks, hgv⟩ := id C0
  have hbA : ¬ A b := by rw [hAe]; exact Nat.not_le.mpr hbl
  refine lv_tableIn (off := 1369) (tgt := 1402) hx hb dL_law_33 (by decide) (by decide) (by decide) (by decide) ?_
  refine lv_aload_n hx hb dL_law_1402 rfl (lv_at hl 2 rfl) ?_
  have Y := Y.swap
  refine cVp (As := []) (rest := []) S Y (c_X11_whose (l := l) p_xo p_w) cw_X11_whose kmL_182 p_xo ok_X11.1 rfl rfl ⟨Nat.le_of_ble_eq_true rfl, Nat.le_of_ble_eq_true rfl⟩ hl.1 rfl (Nat.le_of_ble_eq_true rfl) ⟨Nat.le_of_ble_eq_true rfl, Nat.le_of_ble_eq_true rfl⟩ dL_law_1403 (fun r_1673 H locs er_1673 Y => ?_)
  refine lv_fold (z := 0) er_1673 ?_
  have Y := Y.swap
  refine lv_aload_n hx hb dL_law_1406 rfl (lv_at hl 1 rfl) ?_
  refine cVp (As := []) (rest := [.int 0]) S Y (c_X12_whose (l := l) p_xm p_m_a) cw_X12_whose kmL_185 p_xm ok_X12.1 rfl rfl ⟨Nat.le_of_ble_eq_true rfl, Nat.le_of_ble_eq_true rfl⟩ hl.1 rfl (Nat.le_of_ble_eq_true rfl) ⟨Nat.le_of_ble_eq_true rfl, Nat.le_of_ble_eq_true rfl⟩ dL_law_1407 (fun r_1674 H locs er_1674 Y => ?_)
  refine lv_fold (z := 0) er_1674 ?_
  refine lv_icmp_eq (tgt := 1526) hx hb dL_law_1410 (by decide) (fun _ => ?_) (fun h => absurd (by decide) h)
  refine lv_iinc (v := 6) (lv' := [(3, .int 6), (2, .ref xm), (1, .ref xo), (0, .ref b)]) hx hb dL_law_1526 hl (k := 0) rfl (by decide) (by decide) rfl (fun ls hl => ?_)
  refine lv_goto (tgt := 18) hx hb dL_law_1529 (by decide) ?_
  exact tail _ _ _ Y.2.2 (lv_sub hl [0, 3] rfl)
set_option maxHeartbeats 4000000 in
set_option maxRecDepth 100000 in
theorem law_41 {p : Program} {e : Env} {s : State} {m : MethodId} {below : List Frame} {meth : Method} {c : Code} (l : Launch) {b : Nat} {xs : Nat → Int32} (C0 : lw_At p s m meth c b 6 xs) {G : GG} {A : Nat → Prop} (hAe : A = (fun q : Nat => s.heap.size ≤ q)) (S : SX G A p s m meth c RL code 4 ret) {Lx Lm : List Nat} {fx fm : HF} {H : Heap} {locs : List Loc} {ls : Array Slot} {xo xm w ta ag sc nw pa fe cl wo si we k rd jd rg dd fo su ch pr kn m_a m_im m_te m_tp m_pi m_co m_na m_vl m_tr m_ac m_as_ m_su m_wi_ m_se : Nat} (p_xo : pt Lx fx xo (.inr (11, [.ref w, .ref k, .ref rd, .ref jd, .ref rg, .ref dd, .ref fo, .ref su, .ref ch]))) (p_w : pt Lx fx w (.inr (10, [.ref ta, .ref ag, .ref sc, .ref nw, .ref pa, .ref fe, .ref cl, .ref wo, .ref si, .ref we, .int 0, .int 0, .int (-1), .int 0, .int 0]))) (p_ch : pt Lx fx ch (.inr (0, [.ref w, .ref pr, .ref kn]))) (p_xm : pt Lm fm xm (.inr (12, [.ref m_a, .ref m_im, .ref m_te, .ref m_tp, .int 0, .int (-1), .int (-1), .int 0, .int 0, .int 0, .int 0, .long 0, .int 0, .int 0, .int 0, .ref m_pi, .ref m_co, .int 0, .int 0, .int 0, .int 0, .int 0, .ref m_na, .ref m_vl, .ref m_tr, .int 1, .ref m_ac, .ref m_as_, .ref m_su, .ref m_wi_, .int 0, .ref m_se]))) (p_m_a : pt Lm fm m_a (.inl (G.2 0, 10568, .inl a0))) (Y : DY G A s (va_pl Lx fx) Lm fm H locs) (hl : lv_has ls 4 [(3, .int 0), (2, .ref xm), (1, .ref xo), (0, .ref b)]) (tail : ∀ (H : Heap) (locs : List Loc) (ls : Array Slot), va_S A s.heap H locs → lv_has ls 4 [(3, .int 6), (0, .ref b)] → W p l e room_1 s m #[Value.ref b] below meth c H locs 1000 60000 (lw_Z below #[Value.ref b] s) (F0 m 18 ls [])) : W p l e room_1 s m #[Value.ref b] below meth c H locs 1000 60000 (lw_Z below #[Value.ref b] s) (F0 m 33 ls [.int 41]) := by
  obtain ⟨hx, hb, hr, hml, hown, hts, hX, hbl, hlocks, hgv⟩ := id C0
  have hbA : ¬ A b := by rw [hAe]; exact Nat.not_le.mpr hbl
  refine lv_tableIn (off := 1382) (tgt := 1415) hx hb dL_law_33 (by decide) (by decide) (by decide) (by decide) ?_
  refine lv_aload_n hx hb dL_law_1415 rfl (lv_at hl 2 rfl) ?_
  have Y := Y.swap
  refine cVp (As := []) (rest := []) S Y (c_X11_mostSworn (l := l) p_xo p_w p_ch) cw_X11_mostSworn kmL_186 p_xo ok_X11.1 rfl rfl ⟨Nat.le_of_ble_eq_true rfl, Nat.le_of_ble_eq_true rfl⟩ hl.1 rfl (Nat.le_of_ble_eq_true rfl) ⟨Nat.le_of_ble_eq_true rfl, Nat.le_of_ble_eq_true rfl⟩ dL_law_1416 (fun r_1675 H locs er_1675 Y => ?_)
  refine lv_fold (z := (-1)) er_1675 ?_
  have Y := Y.swap
  refine lv_aload_n hx hb dL_law_1419 rfl (lv_at hl 1 rfl) ?_
  refine cVp (As := []) (rest := [.int (-1)]) S Y (c_X12_mostSworn (l := l) p_xm p_m_a) cw_X12_mostSworn kmL_189 p_xm ok_X12.1 rfl rfl ⟨Nat.le_of_ble_eq_true rfl, Nat.le_of_ble_eq_true rfl⟩ hl.1 rfl (Nat.le_of_ble_eq_true rfl) ⟨Nat.le_of_ble_eq_true rfl, Nat.le_of_ble_eq_true rfl⟩ dL_law_1420 (fun r_1676 H locs er_1676 Y => ?_)
  refine lv_fold (z := (-1)) er_1676 ?_
  refine lv_icmp_eq (tgt := 1526) hx hb dL_law_1423 (by decide) (fun _ => ?_) (fun h => absurd (by decide) h)
  refine lv_iinc (v := 6) (lv' := [(3, .int 6), (2, .ref xm), (1, .ref xo), (0, .ref b)]) hx hb dL_law_1526 hl (k := 0) rfl (by decide) (by decide) rfl (fun ls hl => ?_)
  refine lv_goto (tgt := 18) hx hb dL_law_1529 (by decide) ?_
  exact tail _ _ _ Y.2.2 (lv_sub hl [0, 3] rfl)
set_option maxHeartbeats 4000000 in
set_option maxRecDepth 100000 in
theorem law_42 {p : Program} {e : Env} {s : State} {m : MethodId} {below : List Frame} {meth : Method} {c : Code} (l : Launch) {b : Nat} {xs : Nat → Int32} (C0 : lw_At p s m meth c b 6 xs) {G : GG} {A : Nat → Prop} (hAe : A = (fun q : Nat => s.heap.size ≤ q)) (S : SX G A p s m meth c RL code 4 ret) {Lx Lm : List Nat} {fx fm : HF} {H : Heap} {locs : List Loc} {ls : Array Slot} {xo xm w ta ag sc nw pa fe cl wo si we oa aa k rd jd rg dd fo su ch pr kn m_a m_im m_te m_tp m_pi m_co m_na m_vl m_tr m_ac m_as_ m_su m_wi_ m_se : Nat} (p_xo : pt Lx fx xo (.inr (11, [.ref w, .ref k, .ref rd, .ref jd, .ref rg, .ref dd, .ref fo, .ref su, .ref ch]))) (p_w : pt Lx fx w (.inr (10, [.ref ta, .ref ag, .ref sc, .ref nw, .ref pa, .ref fe, .ref cl, .ref wo, .ref si, .ref we, .int 0, .int 0, .int (-1), .int 0, .int 0]))) (p_nw : pt Lx fx nw (.inr (4, [.ref oa, .ref aa, .int 0, .int 0, .int 0, .int 0, .int 137]))) (p_ch : pt Lx fx ch (.inr (0, [.ref w, .ref pr, .ref kn]))) (p_xm : pt Lm fm xm (.inr (12, [.ref m_a, .ref m_im, .ref m_te, .ref m_tp, .int 0, .int (-1), .int (-1), .int 0, .int 0, .int 0, .int 0, .long 0, .int 0, .int 0, .int 0, .ref m_pi, .ref m_co, .int 0, .int 0, .int 0, .int 0, .int 0, .ref m_na, .ref m_vl, .ref m_tr, .int 1, .ref m_ac, .ref m_as_, .ref m_su, .ref m_wi_, .int 0, .ref m_se]))) (p_m_a : pt Lm fm m_a (.inl (G.2 0, 10568, .inl a0))) (Y : DY G A s (va_pl Lx fx) Lm fm H locs) (hl : lv_has ls 4 [(3, .int 0), (2, .ref xm), (1, .ref xo), (0, .ref b)]) (tail : ∀ (H : Heap) (locs : List Loc) (ls : Array Slot), va_S A s.heap H locs → lv_has ls 4 [(3, .int 6), (0, .ref b)] → W p l e room_1 s m #[Value.ref b] below meth c H locs 1000 60000 (lw_Z below #[Value.ref b] s) (F0 m 18 ls [])) : W p l e room_1 s m #[Value.ref b] below meth c H locs 1000 60000 (lw_Z below #[Value.ref b] s) (F0 m 33 ls [.int 42]) := by
  obtain ⟨hx, hb, hr, hml, hown, hts, hX, hbl, hlocks, hgv⟩ := id C0
  have hbA : ¬ A b := by rw [hAe]; exact Nat.not_le.mpr hbl
  refine lv_tableIn (off := 1395) (tgt := 1428) hx hb dL_law_33 (by decide) (by decide) (by decide) (by decide) ?_
  refine lv_aload_n hx hb dL_law_1428 rfl (lv_at hl 2 rfl) ?_
  have Y := Y.swap
  refine cVp (As := []) (rest := []) S Y (c_X11_faithful (l := l) p_xo p_w p_ch p_nw) cw_X11_faithful kmL_190 p_xo ok_X11.1 rfl rfl ⟨Nat.le_of_ble_eq_true rfl, Nat.le_of_ble_eq_true rfl⟩ hl.1 rfl (Nat.le_of_ble_eq_true rfl) ⟨Nat.le_of_ble_eq_true rfl, Nat.le_of_ble_eq_true rfl⟩ dL_law_1429 (fun r_1677 H locs er_1677 Y => ?_)
  refine lv_fold (z := 0) er_1677 ?_
  have Y := Y.swap
  refine lv_aload_n hx hb dL_law_1432 rfl (lv_at hl 1 rfl) ?_
  refine cVp (As := []) (rest := [.int 0]) S Y (c_X12_faithful (l := l) p_xm p_m_a) cw_X12_faithful kmL_193 p_xm ok_X12.1 rfl rfl ⟨Nat.le_of_ble_eq_true rfl, Nat.le_of_ble_eq_true rfl⟩ hl.1 rfl (Nat.le_of_ble_eq_true rfl) ⟨Nat.le_of_ble_eq_true rfl, Nat.le_of_ble_eq_true rfl⟩ dL_law_1433 (fun r_1678 H locs er_1678 Y => ?_)
  refine lv_fold (z := 0) er_1678 ?_
  refine lv_icmp_eq (tgt := 1526) hx hb dL_law_1436 (by decide) (fun _ => ?_) (fun h => absurd (by decide) h)
  refine lv_iinc (v := 6) (lv' := [(3, .int 6), (2, .ref xm), (1, .ref xo), (0, .ref b)]) hx hb dL_law_1526 hl (k := 0) rfl (by decide) (by decide) rfl (fun ls hl => ?_)
  refine lv_goto (tgt := 18) hx hb dL_law_1529 (by decide) ?_
  exact tail _ _ _ Y.2.2 (lv_sub hl [0, 3] rfl)
set_option maxHeartbeats 4000000 in
set_option maxRecDepth 100000 in
theorem law_43 {p : Program} {e : Env} {s : State} {m : MethodId} {below : List Frame} {meth : Method} {c : Code} (l : Launch) {b : Nat} {xs : Nat → Int32} (C0 : lw_At p s m meth c b 6 xs) {G : GG} {A : Nat → Prop} (hAe : A = (fun q : Nat => s.heap.size ≤ q)) (S : SX G A p s m meth c RL code 4 ret) {Lx Lm : List Nat} {fx fm : HF} {H : Heap} {locs : List Loc} {ls : Array Slot} {xo xm w ta ag sc nw pa fe cl wo si we oa aa k rd jd rg dd fo su ch m_a m_im m_te m_tp m_pi m_co m_na m_vl m_tr m_ac m_as_ m_su m_wi_ m_se : Nat} (p_xo : pt Lx fx xo (.inr (11, [.ref w, .ref k, .ref rd, .ref jd, .ref rg, .ref dd, .ref fo, .ref su, .ref ch]))) (p_w : pt Lx fx w (.inr (10, [.ref ta, .ref ag, .ref sc, .ref nw, .ref pa, .ref fe, .ref cl, .ref wo, .ref si, .ref we, .int 0, .int 0, .int (-1), .int 0, .int 0]))) (p_nw : pt Lx fx nw (.inr (4, [.ref oa, .ref aa, .int 0, .int 0, .int 0, .int 0, .int 137]))) (p_xm : pt Lm fm xm (.inr (12, [.ref m_a, .ref m_im, .ref m_te, .ref m_tp, .int 0, .int (-1), .int (-1), .int 0, .int 0, .int 0, .int 0, .long 0, .int 0, .int 0, .int 0, .ref m_pi, .ref m_co, .int 0, .int 0, .int 0, .int 0, .int 0, .ref m_na, .ref m_vl, .ref m_tr, .int 1, .ref m_ac, .ref m_as_, .ref m_su, .ref m_wi_, .int 0, .ref m_se]))) (p_m_a : pt Lm fm m_a (.inl (G.2 0, 10568, .inl a0))) (Y : DY G A s (va_pl Lx fx) Lm fm H locs) (hl : lv_has ls 4 [(3, .int 0), (2, .ref xm), (1, .ref xo), (0, .ref b)]) (tail : ∀ (H : Heap) (locs : List Loc) (ls : Array Slot), va_S A s.heap H locs → lv_has ls 4 [(3, .int 6), (0, .ref b)] → W p l e room_1 s m #[Value.ref b] below meth c H locs 1000 60000 (lw_Z below #[Value.ref b] s) (F0 m 18 ls [])) : W p l e room_1 s m #[Value.ref b] below meth c H locs 1000 60000 (lw_Z below #[Value.ref b] s) (F0 m 33 ls [.int 43]) := by
  obtain ⟨hx, hb, hr, hml, hown, hts, hX, hbl, hlocks, hgv⟩ := id C0
  have hbA : ¬ A b := by rw [hAe]; exact Nat.not_le.mpr hbl
  refine lv_tableIn (off := 1408) (tgt := 1441) hx hb dL_law_33 (by decide) (by decide) (by decide) (by decide) ?_
  refine lv_aload_n hx hb dL_law_1441 rfl (lv_at hl 2 rfl) ?_
  refine lv_aload_n hx hb dL_law_1442 rfl (lv_at hl 3 rfl) ?_
  refine lv_iload_n hx hb dL_law_1443 rfl (lv_at hl 0 rfl) ?_
  refine lv_iconst (v := 1) hx hb dL_law_1444 (by decide) ?_
  refine lv_iadd hx hb dL_law_1445 ?_
  refine lv_fold (z := 1) (by decide) ?_
  refine va_sld hx hb hX hbl hbA Y.2.2 (by unfold vp_in; decide) dL_law_1446 ?_
  refine lv_fold (z := xs 1) rfl ?_
  have Y := Y.swap
  refine cVp (As := [.int (xs 1)]) (rest := []) S Y (c_X11_ached (l := l) p_xo p_w p_nw) cw_X11_ached kmL_194 p_xo ok_X11.1 rfl rfl ⟨Nat.le_of_ble_eq_true rfl, Nat.le_of_ble_eq_true rfl⟩ hl.1 rfl (Nat.le_of_ble_eq_true rfl) ⟨Nat.le_of_ble_eq_true rfl, Nat.le_of_ble_eq_true rfl⟩ dL_law_1447 (fun r_1679 H locs er_1679 Y => ?_)
  have Y := Y.swap
  refine lv_aload_n hx hb dL_law_1450 rfl (lv_at hl 1 rfl) ?_
  refine lv_aload_n hx hb dL_law_1451 rfl (lv_at hl 3 rfl) ?_
  refine lv_iload_n hx hb dL_law_1452 rfl (lv_at hl 0 rfl) ?_
  refine lv_iconst (v := 1) hx hb dL_law_1453 (by decide) ?_
  refine lv_iadd hx hb dL_law_1454 ?_
  refine lv_fold (z := 1) (by decide) ?_
  refine va_sld hx hb hX hbl hbA Y.2.2 (by unfold vp_in; decide) dL_law_1455 ?_
  refine lv_fold (z := xs 1) rfl ?_
  refine cVp (As := [.int (xs 1)]) (rest := [.int r_1679]) S Y (c_X12_ached (l := l) p_xm p_m_a) cw_X12_ached kmL_197 p_xm ok_X12.1 rfl rfl ⟨Nat.le_of_ble_eq_true rfl, Nat.le_of_ble_eq_true rfl⟩ hl.1 rfl (Nat.le_of_ble_eq_true rfl) ⟨Nat.le_of_ble_eq_true rfl, Nat.le_of_ble_eq_true rfl⟩ dL_law_1456 (fun r_1680 H locs er_1680 Y => ?_)
  refine lv_icmp_eq (tgt := 1526) hx hb dL_law_1459 (by decide) (fun _ => ?_) (fun h => absurd (er_1679.trans er_1680.symm) h)
  refine lv_iinc (v := 6) (lv' := [(3, .int 6), (2, .ref xm), (1, .ref xo), (0, .ref b)]) hx hb dL_law_1526 hl (k := 0) rfl (by decide) (by decide) rfl (fun ls hl => ?_)
  refine lv_goto (tgt := 18) hx hb dL_law_1529 (by decide) ?_
  exact tail _ _ _ Y.2.2 (lv_sub hl [0, 3] rfl)
set_option maxHeartbeats 4000000 in
set_option maxRecDepth 100000 in
theorem law_44 {p : Program} {e : Env} {s : State} {m : MethodId} {below : List Frame} {meth : Method} {c : Code} (l : Launch) {b : Nat} {xs : Nat → Int32} (C0 : lw_At p s m meth c b 6 xs) {G : GG} {A : Nat → Prop} (hAe : A = (fun q : Nat => s.heap.size ≤ q)) (S : SX G A p s m meth c RL code 4 ret) {Lx Lm : List Nat} {fx fm : HF} {H : Heap} {locs : List Loc} {ls : Array Slot} {xo xm w ta ag sc nw pa fe cl wo si we oa aa k rd jd rg dd fo su ch m_a m_im m_te m_tp m_pi m_co m_na m_vl m_tr m_ac m_as_ m_su m_wi_ m_se : Nat} (p_xo : pt Lx fx xo (.inr (11, [.ref w, .ref k, .ref rd, .ref jd, .ref rg, .ref dd, .ref fo, .ref su, .ref ch]))) (p_w : pt Lx fx w (.inr (10, [.ref ta, .ref ag, .ref sc, .ref nw, .ref pa, .ref fe, .ref cl, .ref wo, .ref si, .ref we, .int 0, .int 0, .int (-1), .int 0, .int 0]))) (p_nw : pt Lx fx nw (.inr (4, [.ref oa, .ref aa, .int 0, .int 0, .int 0, .int 0, .int 137]))) (p_xm : pt Lm fm xm (.inr (12, [.ref m_a, .ref m_im, .ref m_te, .ref m_tp, .int 0, .int (-1), .int (-1), .int 0, .int 0, .int 0, .int 0, .long 0, .int 0, .int 0, .int 0, .ref m_pi, .ref m_co, .int 0, .int 0, .int 0, .int 0, .int 0, .ref m_na, .ref m_vl, .ref m_tr, .int 1, .ref m_ac, .ref m_as_, .ref m_su, .ref m_wi_, .int 0, .ref m_se]))) (p_m_a : pt Lm fm m_a (.inl (G.2 0, 10568, .inl a0))) (Y : DY G A s (va_pl Lx fx) Lm fm H locs) (hl : lv_has ls 4 [(3, .int 0), (2, .ref xm), (1, .ref xo), (0, .ref b)]) (tail : ∀ (H : Heap) (locs : List Loc) (ls : Array Slot), va_S A s.heap H locs → lv_has ls 4 [(3, .int 6), (0, .ref b)] → W p l e room_1 s m #[Value.ref b] below meth c H locs 1000 60000 (lw_Z below #[Value.ref b] s) (F0 m 18 ls [])) : W p l e room_1 s m #[Value.ref b] below meth c H locs 1000 60000 (lw_Z below #[Value.ref b] s) (F0 m 33 ls [.int 44]) := by
  obtain ⟨hx, hb, hr, hml, hown, hts, hX, hbl, hlocks, hgv⟩ := id C0
  have hbA : ¬ A b := by rw [hAe]; exact Nat.not_le.mpr hbl
  refine lv_tableIn (off := 1431) (tgt := 1464) hx hb dL_law_33 (by decide) (by decide) (by decide) (by decide) ?_
  refine lv_aload_n hx hb dL_law_1464 rfl (lv_at hl 2 rfl) ?_
  have Y := Y.swap
  refine cVp (As := []) (rest := []) S Y (c_X11_worstDay (l := l) p_xo p_w p_nw) cw_X11_worstDay kmL_198 p_xo ok_X11.1 rfl rfl ⟨Nat.le_of_ble_eq_true rfl, Nat.le_of_ble_eq_true rfl⟩ hl.1 rfl (Nat.le_of_ble_eq_true rfl) ⟨Nat.le_of_ble_eq_true rfl, Nat.le_of_ble_eq_true rfl⟩ dL_law_1465 (fun r_1681 H locs er_1681 Y => ?_)
  refine lv_fold (z := (-1)) er_1681 ?_
  have Y := Y.swap
  refine lv_aload_n hx hb dL_law_1468 rfl (lv_at hl 1 rfl) ?_
  refine cVp (As := []) (rest := [.int (-1)]) S Y (c_X12_worstDay (l := l) p_xm p_m_a) cw_X12_worstDay kmL_201 p_xm ok_X12.1 rfl rfl ⟨Nat.le_of_ble_eq_true rfl, Nat.le_of_ble_eq_true rfl⟩ hl.1 rfl (Nat.le_of_ble_eq_true rfl) ⟨Nat.le_of_ble_eq_true rfl, Nat.le_of_ble_eq_true rfl⟩ dL_law_1469 (fun r_1682 H locs er_1682 Y => ?_)
  refine lv_fold (z := (-1)) er_1682 ?_
  refine lv_icmp_eq (tgt := 1526) hx hb dL_law_1472 (by decide) (fun _ => ?_) (fun h => absurd (by decide) h)
  refine lv_iinc (v := 6) (lv' := [(3, .int 6), (2, .ref xm), (1, .ref xo), (0, .ref b)]) hx hb dL_law_1526 hl (k := 0) rfl (by decide) (by decide) rfl (fun ls hl => ?_)
  refine lv_goto (tgt := 18) hx hb dL_law_1529 (by decide) ?_
  exact tail _ _ _ Y.2.2 (lv_sub hl [0, 3] rfl)
set_option maxHeartbeats 4000000 in
set_option maxRecDepth 100000 in
theorem law_45 {p : Program} {e : Env} {s : State} {m : MethodId} {below : List Frame} {meth : Method} {c : Code} (l : Launch) {b : Nat} {xs : Nat → Int32} (C0 : lw_At p s m meth c b 6 xs) {G : GG} {A : Nat → Prop} (hAe : A = (fun q : Nat => s.heap.size ≤ q)) (S : SX G A p s m meth c RL code 4 ret) {Lx Lm : List Nat} {fx fm : HF} {H : Heap} {locs : List Loc} {ls : Array Slot} {xo xm w ta ag sc nw pa fe cl wo si we oa aa c1 c2 c3 c4 c5 k k_ta k_ag k_sc k_nw k_pa k_fe k_cl k_wo k_si k_we k_oa k_aa k_c1 k_c2 k_c3 k_c4 k_c5 rd jd rg dd fo su ch m_a m_im m_te m_tp m_pi m_co m_na m_vl m_tr m_ac m_as_ m_su m_wi_ m_se : Nat} {pf k_pf : Nat → Option Nat} {LT : List Nat} {m_gi : Nat → Int32} {L0 : List Nat} (p_xo : pt Lx fx xo (.inr (11, [.ref w, .ref k, .ref rd, .ref jd, .ref rg, .ref dd, .ref fo, .ref su, .ref ch]))) (p_w : pt Lx fx w (.inr (10, [.ref ta, .ref ag, .ref sc, .ref nw, .ref pa, .ref fe, .ref cl, .ref wo, .ref si, .ref we, .int 0, .int 0, .int (-1), .int 0, .int 0]))) (p_ta : pt Lx fx ta (.inl (G.2 0, 6, .inl (fun _ => 0)))) (p_ag : pt Lx fx ag (.inl (G.2 0, 6, .inl (fun _ => 0)))) (p_nw : pt Lx fx nw (.inr (4, [.ref oa, .ref aa, .int 0, .int 0, .int 0, .int 0, .int 137]))) (p_oa : pt Lx fx oa (.inl (G.2 0, 98, .inl (fun _ => 0)))) (p_aa : pt Lx fx aa (.inl (G.2 0, 90, .inl (fun _ => 0)))) (p_pa : pt Lx fx pa (.inl (G.2 3, 30, .inr (.inr (.inr (.inr pf)))))) (p_fe : pt Lx fx fe (.inr (9, [.ref c1, .int 6, .int 0]))) (p_cl : pt Lx fx cl (.inr (9, [.ref c2, .int 8, .int 0]))) (p_wo : pt Lx fx wo (.inr (9, [.ref c3, .int 8, .int 0]))) (p_si : pt Lx fx si (.inr (9, [.ref c4, .int 8, .int 0]))) (p_we : pt Lx fx we (.inr (9, [.ref c5, .int 8, .int 0]))) (p_c1 : pt Lx fx c1 (.inl (G.2 0, 24, .inl (fun _ => 0)))) (p_c2 : pt Lx fx c2 (.inl (G.2 0, 24, .inl (fun _ => 0)))) (p_c3 : pt Lx fx c3 (.inl (G.2 0, 24, .inl (fun _ => 0)))) (p_c4 : pt Lx fx c4 (.inl (G.2 0, 24, .inl (fun _ => 0)))) (p_c5 : pt Lx fx c5 (.inl (G.2 0, 24, .inl (fun _ => 0)))) (p_k : pt Lx fx k (.inr (10, [.ref k_ta, .ref k_ag, .ref k_sc, .ref k_nw, .ref k_pa, .ref k_fe, .ref k_cl, .ref k_wo, .ref k_si, .ref k_we, .int 0, .int 0, .int (-1), .int 0, .int 0]))) (p_k_ta : pt Lx fx k_ta (.inl (G.2 0, 6, .inl (fun _ => 0)))) (p_k_ag : pt Lx fx k_ag (.inl (G.2 0, 6, .inl (fun _ => 0)))) (p_k_nw : pt Lx fx k_nw (.inr (4, [.ref k_oa, .ref k_aa, .int 0, .int 0, .int 0, .int 0, .int 137]))) (p_k_oa : pt Lx fx k_oa (.inl (G.2 0, 98, .inl (fun _ => 0)))) (p_k_aa : pt Lx fx k_aa (.inl (G.2 0, 90, .inl (fun _ => 0)))) (p_k_pa : pt Lx fx k_pa (.inl (G.2 3, 30, .inr (.inr (.inr (.inr k_pf)))))) (p_k_fe : pt Lx fx k_fe (.inr (9, [.ref k_c1, .int 6, .int 0]))) (p_k_cl : pt Lx fx k_cl (.inr (9, [.ref k_c2, .int 8, .int 0]))) (p_k_wo : pt Lx fx k_wo (.inr (9, [.ref k_c3, .int 8, .int 0]))) (p_k_si : pt Lx fx k_si (.inr (9, [.ref k_c4, .int 8, .int 0]))) (p_k_we : pt Lx fx k_we (.inr (9, [.ref k_c5, .int 8, .int 0]))) (p_k_c1 : pt Lx fx k_c1 (.inl (G.2 0, 24, .inl (fun _ => 0)))) (p_k_c2 : pt Lx fx k_c2 (.inl (G.2 0, 24, .inl (fun _ => 0)))) (p_k_c3 : pt Lx fx k_c3 (.inl (G.2 0, 24, .inl (fun _ => 0)))) (p_k_c4 : pt Lx fx k_c4 (.inl (G.2 0, 24, .inl (fun _ => 0)))) (p_k_c5 : pt Lx fx k_c5 (.inl (G.2 0, 24, .inl (fun _ => 0)))) (p_xm : pt Lm fm xm (.inr (12, [.ref m_a, .ref m_im, .ref m_te, .ref m_tp, .int 0, .int (-1), .int (-1), .int 0, .int 0, .int 0, .int 0, .long 0, .int 0, .int 0, .int 0, .ref m_pi, .ref m_co, .int 0, .int 0, .int 0, .int 0, .int 0, .ref m_na, .ref m_vl, .ref m_tr, .int 1, .ref m_ac, .ref m_as_, .ref m_su, .ref m_wi_, .int 0, .ref m_se]))) (p_m_a : pt Lm fm m_a (.inl (G.2 0, 10568, .inl a0))) (p_m_im : pt Lm fm m_im (.inl (G.2 0, 10568, .inl m_gi))) (hpf : pastOK G L0 nw Lx fx pf 30) (hpk : pastOK G LT k_nw Lx fx k_pf 30) (hinT : (∀ j, j < 30 → ∀ o, pf j = some o → o ∈ LT)) (hnwT : nw ∈ LT) (hknT : k_nw ∉ LT) (n9 : w ≠ k) (m_n1 : m_a ≠ m_im) (Y : DY G A s (va_pl Lx fx) Lm fm H locs) (hl : lv_has ls 4 [(3, .int 0), (2, .ref xm), (1, .ref xo), (0, .ref b)]) (tail : ∀ (H : Heap) (locs : List Loc) (ls : Array Slot), va_S A s.heap H locs → lv_has ls 4 [(3, .int 6), (0, .ref b)] → W p l e room_1 s m #[Value.ref b] below meth c H locs 1000 60000 (lw_Z below #[Value.ref b] s) (F0 m 18 ls [])) : W p l e room_1 s m #[Value.ref b] below meth c H locs 1000 60000 (lw_Z below #[Value.ref b] s) (F0 m 33 ls [.int 45]) := by
  obtain ⟨hx, hb, hr, hml, hown, hts, hX, hbl, hlocks, hgv⟩ := id C0
  have hbA : ¬ A b := by rw [hAe]; exact Nat.not_le.mpr hbl
  refine lv_tableIn (off := 1444) (tgt := 1477) hx hb dL_law_33 (by decide) (by decide) (by decide) (by decide) ?_
  refine lv_aload_n hx hb dL_law_1477 rfl (lv_at hl 2 rfl) ?_
  have Y := Y.swap
  refine cVi (As := []) (rest := []) S Y (c_X11_image (l := l) p_xo p_w p_ta p_ag p_nw p_oa p_aa p_pa p_fe p_c1 p_cl p_c2 p_wo p_c3 p_si p_c4 p_we p_c5 p_k p_k_ta p_k_ag p_k_nw p_k_oa p_k_aa p_k_pa p_k_fe p_k_c1 p_k_cl p_k_c2 p_k_wo p_k_c3 p_k_si p_k_c4 p_k_we p_k_c5 hpf hpk hinT hnwT hknT (n9)) cw_X11_image kmL_202 p_xo ok_X11.1 rfl rfl ⟨Nat.le_of_ble_eq_true rfl, Nat.le_of_ble_eq_true rfl⟩ hl.1 rfl (Nat.le_of_ble_eq_true rfl) ⟨Nat.le_of_ble_eq_true rfl, Nat.le_of_ble_eq_true rfl⟩ dL_law_1478 (fun r_1683 L_1684 f_1685 H locs hf_1685 Y => ?_)
  refine lv_fold (z := 0) hf_1685 ?_
  have Y := Y.swap
  refine lv_aload_n hx hb dL_law_1481 rfl (lv_at hl 1 rfl) ?_
  refine cVi (As := []) (rest := [.int 0]) S Y (c_X12_image (l := l) p_xm p_m_a p_m_im (m_n1)) cw_X12_image kmL_205 p_xm ok_X12.1 rfl rfl ⟨Nat.le_of_ble_eq_true rfl, Nat.le_of_ble_eq_true rfl⟩ hl.1 rfl (Nat.le_of_ble_eq_true rfl) ⟨Nat.le_of_ble_eq_true rfl, Nat.le_of_ble_eq_true rfl⟩ dL_law_1482 (fun r_1686 L_1687 f_1688 H locs hf_1688 Y => ?_)
  refine lv_fold (z := 0) hf_1688 ?_
  refine lv_icmp_eq (tgt := 1526) hx hb dL_law_1485 (by decide) (fun _ => ?_) (fun h => absurd (by decide) h)
  refine lv_iinc (v := 6) (lv' := [(3, .int 6), (2, .ref xm), (1, .ref xo), (0, .ref b)]) hx hb dL_law_1526 hl (k := 0) rfl (by decide) (by decide) rfl (fun ls hl => ?_)
  refine lv_goto (tgt := 18) hx hb dL_law_1529 (by decide) ?_
  exact tail _ _ _ Y.2.2 (lv_sub hl [0, 3] rfl)
set_option maxHeartbeats 4000000 in
set_option maxRecDepth 100000 in
theorem law_46 {p : Program} {e : Env} {s : State} {m : MethodId} {below : List Frame} {meth : Method} {c : Code} (l : Launch) {b : Nat} {xs : Nat → Int32} (C0 : lw_At p s m meth c b 6 xs) {G : GG} {A : Nat → Prop} (hAe : A = (fun q : Nat => s.heap.size ≤ q)) (S : SX G A p s m meth c RL code 4 ret) {Lx Lm : List Nat} {fx fm : HF} {H : Heap} {locs : List Loc} {ls : Array Slot} {xo xm w ta ag sc nw pa fe cl wo si we oa aa c1 c2 c3 c4 c5 k k_ta k_ag k_sc k_nw k_pa k_fe k_cl k_wo k_si k_we k_oa k_aa k_c1 k_c2 k_c3 k_c4 k_c5 rd jd rg dd fo su ch m_a m_im m_te m_tp m_pi m_co m_na m_vl m_tr m_ac m_as_ m_su m_wi_ m_se : Nat} {pf k_pf : Nat → Option Nat} {LT : List Nat} {m_gi : Nat → Int32} {L0 : List Nat} (p_xo : pt Lx fx xo (.inr (11, [.ref w, .ref k, .ref rd, .ref jd, .ref rg, .ref dd, .ref fo, .ref su, .ref ch]))) (p_w : pt Lx fx w (.inr (10, [.ref ta, .ref ag, .ref sc, .ref nw, .ref pa, .ref fe, .ref cl, .ref wo, .ref si, .ref we, .int 0, .int 0, .int (-1), .int 0, .int 0]))) (p_ta : pt Lx fx ta (.inl (G.2 0, 6, .inl (fun _ => 0)))) (p_ag : pt Lx fx ag (.inl (G.2 0, 6, .inl (fun _ => 0)))) (p_nw : pt Lx fx nw (.inr (4, [.ref oa, .ref aa, .int 0, .int 0, .int 0, .int 0, .int 137]))) (p_oa : pt Lx fx oa (.inl (G.2 0, 98, .inl (fun _ => 0)))) (p_aa : pt Lx fx aa (.inl (G.2 0, 90, .inl (fun _ => 0)))) (p_pa : pt Lx fx pa (.inl (G.2 3, 30, .inr (.inr (.inr (.inr pf)))))) (p_fe : pt Lx fx fe (.inr (9, [.ref c1, .int 6, .int 0]))) (p_cl : pt Lx fx cl (.inr (9, [.ref c2, .int 8, .int 0]))) (p_wo : pt Lx fx wo (.inr (9, [.ref c3, .int 8, .int 0]))) (p_si : pt Lx fx si (.inr (9, [.ref c4, .int 8, .int 0]))) (p_we : pt Lx fx we (.inr (9, [.ref c5, .int 8, .int 0]))) (p_c1 : pt Lx fx c1 (.inl (G.2 0, 24, .inl (fun _ => 0)))) (p_c2 : pt Lx fx c2 (.inl (G.2 0, 24, .inl (fun _ => 0)))) (p_c3 : pt Lx fx c3 (.inl (G.2 0, 24, .inl (fun _ => 0)))) (p_c4 : pt Lx fx c4 (.inl (G.2 0, 24, .inl (fun _ => 0)))) (p_c5 : pt Lx fx c5 (.inl (G.2 0, 24, .inl (fun _ => 0)))) (p_k : pt Lx fx k (.inr (10, [.ref k_ta, .ref k_ag, .ref k_sc, .ref k_nw, .ref k_pa, .ref k_fe, .ref k_cl, .ref k_wo, .ref k_si, .ref k_we, .int 0, .int 0, .int (-1), .int 0, .int 0]))) (p_k_ta : pt Lx fx k_ta (.inl (G.2 0, 6, .inl (fun _ => 0)))) (p_k_ag : pt Lx fx k_ag (.inl (G.2 0, 6, .inl (fun _ => 0)))) (p_k_nw : pt Lx fx k_nw (.inr (4, [.ref k_oa, .ref k_aa, .int 0, .int 0, .int 0, .int 0, .int 137]))) (p_k_oa : pt Lx fx k_oa (.inl (G.2 0, 98, .inl (fun _ => 0)))) (p_k_aa : pt Lx fx k_aa (.inl (G.2 0, 90, .inl (fun _ => 0)))) (p_k_pa : pt Lx fx k_pa (.inl (G.2 3, 30, .inr (.inr (.inr (.inr k_pf)))))) (p_k_fe : pt Lx fx k_fe (.inr (9, [.ref k_c1, .int 6, .int 0]))) (p_k_cl : pt Lx fx k_cl (.inr (9, [.ref k_c2, .int 8, .int 0]))) (p_k_wo : pt Lx fx k_wo (.inr (9, [.ref k_c3, .int 8, .int 0]))) (p_k_si : pt Lx fx k_si (.inr (9, [.ref k_c4, .int 8, .int 0]))) (p_k_we : pt Lx fx k_we (.inr (9, [.ref k_c5, .int 8, .int 0]))) (p_k_c1 : pt Lx fx k_c1 (.inl (G.2 0, 24, .inl (fun _ => 0)))) (p_k_c2 : pt Lx fx k_c2 (.inl (G.2 0, 24, .inl (fun _ => 0)))) (p_k_c3 : pt Lx fx k_c3 (.inl (G.2 0, 24, .inl (fun _ => 0)))) (p_k_c4 : pt Lx fx k_c4 (.inl (G.2 0, 24, .inl (fun _ => 0)))) (p_k_c5 : pt Lx fx k_c5 (.inl (G.2 0, 24, .inl (fun _ => 0)))) (p_xm : pt Lm fm xm (.inr (12, [.ref m_a, .ref m_im, .ref m_te, .ref m_tp, .int 0, .int (-1), .int (-1), .int 0, .int 0, .int 0, .int 0, .long 0, .int 0, .int 0, .int 0, .ref m_pi, .ref m_co, .int 0, .int 0, .int 0, .int 0, .int 0, .ref m_na, .ref m_vl, .ref m_tr, .int 1, .ref m_ac, .ref m_as_, .ref m_su, .ref m_wi_, .int 0, .ref m_se]))) (p_m_a : pt Lm fm m_a (.inl (G.2 0, 10568, .inl a0))) (p_m_im : pt Lm fm m_im (.inl (G.2 0, 10568, .inl m_gi))) (hpf : pastOK G L0 nw Lx fx pf 30) (hpk : pastOK G LT k_nw Lx fx k_pf 30) (hinT : (∀ j, j < 30 → ∀ o, pf j = some o → o ∈ LT)) (hnwT : nw ∈ LT) (hknT : k_nw ∉ LT) (n9 : w ≠ k) (m_n1 : m_a ≠ m_im) (m_hgi : ∀ k, k < 10568 → m_gi k = a0 k) (Y : DY G A s (va_pl Lx fx) Lm fm H locs) (hl : lv_has ls 4 [(3, .int 0), (2, .ref xm), (1, .ref xo), (0, .ref b)]) (tail : ∀ (H : Heap) (locs : List Loc) (ls : Array Slot), va_S A s.heap H locs → lv_has ls 4 [(3, .int 6), (0, .ref b)] → W p l e room_1 s m #[Value.ref b] below meth c H locs 1000 60000 (lw_Z below #[Value.ref b] s) (F0 m 18 ls [])) : W p l e room_1 s m #[Value.ref b] below meth c H locs 1000 60000 (lw_Z below #[Value.ref b] s) (F0 m 33 ls [.int 46]) := by
  obtain ⟨hx, hb, hr, hml, hown, hts, hX, hbl, hlocks, hgv⟩ := id C0
  have hbA : ¬ A b := by rw [hAe]; exact Nat.not_le.mpr hbl
  refine lv_tableIn (off := 1457) (tgt := 1490) hx hb dL_law_33 (by decide) (by decide) (by decide) (by decide) ?_
  refine lv_aload_n hx hb dL_law_1490 rfl (lv_at hl 2 rfl) ?_
  have Y := Y.swap
  refine cVi (As := []) (rest := []) S Y (c_X11_back (l := l) p_xo p_w p_ta p_ag p_nw p_oa p_aa p_pa p_fe p_c1 p_cl p_c2 p_wo p_c3 p_si p_c4 p_we p_c5 p_k p_k_ta p_k_ag p_k_nw p_k_oa p_k_aa p_k_pa p_k_fe p_k_c1 p_k_cl p_k_c2 p_k_wo p_k_c3 p_k_si p_k_c4 p_k_we p_k_c5 hpf hpk hinT hnwT hknT (n9)) cw_X11_back kmL_206 p_xo ok_X11.1 rfl rfl ⟨Nat.le_of_ble_eq_true rfl, Nat.le_of_ble_eq_true rfl⟩ hl.1 rfl (Nat.le_of_ble_eq_true rfl) ⟨Nat.le_of_ble_eq_true rfl, Nat.le_of_ble_eq_true rfl⟩ dL_law_1491 (fun r_1689 L_1690 f_1691 H locs hf_1691 Y => ?_)
  refine lv_fold (z := 0) hf_1691 ?_
  have Y := Y.swap
  refine lv_aload_n hx hb dL_law_1494 rfl (lv_at hl 1 rfl) ?_
  refine cVi (As := []) (rest := [.int 0]) S Y (c_X12_back (l := l) p_xm p_m_a p_m_im (m_n1) ((m_hgi 10 (by decide)).trans (by decide))) cw_X12_back kmL_209 p_xm ok_X12.1 rfl rfl ⟨Nat.le_of_ble_eq_true rfl, Nat.le_of_ble_eq_true rfl⟩ hl.1 rfl (Nat.le_of_ble_eq_true rfl) ⟨Nat.le_of_ble_eq_true rfl, Nat.le_of_ble_eq_true rfl⟩ dL_law_1495 (fun r_1692 L_1693 f_1694 H locs hf_1694 Y => ?_)
  refine lv_fold (z := 0) hf_1694 ?_
  refine lv_icmp_eq (tgt := 1526) hx hb dL_law_1498 (by decide) (fun _ => ?_) (fun h => absurd (by decide) h)
  refine lv_iinc (v := 6) (lv' := [(3, .int 6), (2, .ref xm), (1, .ref xo), (0, .ref b)]) hx hb dL_law_1526 hl (k := 0) rfl (by decide) (by decide) rfl (fun ls hl => ?_)
  refine lv_goto (tgt := 18) hx hb dL_law_1529 (by decide) ?_
  exact tail _ _ _ Y.2.2 (lv_sub hl [0, 3] rfl)
set_option maxHeartbeats 4000000 in
set_option maxRecDepth 100000 in
theorem law_47 {p : Program} {e : Env} {s : State} {m : MethodId} {below : List Frame} {meth : Method} {c : Code} (l : Launch) {b : Nat} {xs : Nat → Int32} (C0 : lw_At p s m meth c b 6 xs) {G : GG} {A : Nat → Prop} (hAe : A = (fun q : Nat => s.heap.size ≤ q)) (S : SX G A p s m meth c RL code 4 ret) {Lx Lm : List Nat} {fx fm : HF} {H : Heap} {locs : List Loc} {ls : Array Slot} {xo xm w ta ag sc nw pa fe cl wo si we c1 c2 c3 c4 c5 k rd tp ki pl va jd rg dd fo su ch m_a m_im m_te m_tp m_pi m_co m_na m_vl m_tr m_ac m_as_ m_su m_wi_ m_se : Nat} (p_xo : pt Lx fx xo (.inr (11, [.ref w, .ref k, .ref rd, .ref jd, .ref rg, .ref dd, .ref fo, .ref su, .ref ch]))) (p_w : pt Lx fx w (.inr (10, [.ref ta, .ref ag, .ref sc, .ref nw, .ref pa, .ref fe, .ref cl, .ref wo, .ref si, .ref we, .int 0, .int 0, .int (-1), .int 0, .int 0]))) (p_fe : pt Lx fx fe (.inr (9, [.ref c1, .int 6, .int 0]))) (p_cl : pt Lx fx cl (.inr (9, [.ref c2, .int 8, .int 0]))) (p_wo : pt Lx fx wo (.inr (9, [.ref c3, .int 8, .int 0]))) (p_si : pt Lx fx si (.inr (9, [.ref c4, .int 8, .int 0]))) (p_we : pt Lx fx we (.inr (9, [.ref c5, .int 8, .int 0]))) (p_rd : pt Lx fx rd (.inr (5, [.ref tp, .ref ki, .ref pl, .ref va, .int 0, .int 0, .int 0, .int 0, .int 0, .int 0, .int 0, .null, .int (-1), .int (-1)]))) (p_xm : pt Lm fm xm (.inr (12, [.ref m_a, .ref m_im, .ref m_te, .ref m_tp, .int 0, .int (-1), .int (-1), .int 0, .int 0, .int 0, .int 0, .long 0, .int 0, .int 0, .int 0, .ref m_pi, .ref m_co, .int 0, .int 0, .int 0, .int 0, .int 0, .ref m_na, .ref m_vl, .ref m_tr, .int 1, .ref m_ac, .ref m_as_, .ref m_su, .ref m_wi_, .int 0, .ref m_se]))) (p_m_a : pt Lm fm m_a (.inl (G.2 0, 10568, .inl a0))) (Y : DY G A s (va_pl Lx fx) Lm fm H locs) (hl : lv_has ls 4 [(3, .int 0), (2, .ref xm), (1, .ref xo), (0, .ref b)]) (tail : ∀ (H : Heap) (locs : List Loc) (ls : Array Slot), va_S A s.heap H locs → lv_has ls 4 [(3, .int 6), (0, .ref b)] → W p l e room_1 s m #[Value.ref b] below meth c H locs 1000 60000 (lw_Z below #[Value.ref b] s) (F0 m 18 ls [])) : W p l e room_1 s m #[Value.ref b] below meth c H locs 1000 60000 (lw_Z below #[Value.ref b] s) (F0 m 33 ls [.int 47]) := by
  obtain ⟨hx, hb, hr, hml, hown, hts, hX, hbl, hlocks, hgv⟩ := id C0
  have hbA : ¬ A b := by rw [hAe]; exact Nat.not_le.mpr hbl
  refine lv_tableIn (off := 1470) (tgt := 1503) hx hb dL_law_33 (by decide) (by decide) (by decide) (by decide) ?_
  refine lv_aload_n hx hb dL_law_1503 rfl (lv_at hl 2 rfl) ?_
  refine lv_aload_n hx hb dL_law_1504 rfl (lv_at hl 3 rfl) ?_
  refine lv_iload_n hx hb dL_law_1505 rfl (lv_at hl 0 rfl) ?_
  refine lv_iconst (v := 1) hx hb dL_law_1506 (by decide) ?_
  refine lv_iadd hx hb dL_law_1507 ?_
  refine lv_fold (z := 1) (by decide) ?_
  refine va_sld hx hb hX hbl hbA Y.2.2 (by unfold vp_in; decide) dL_law_1508 ?_
  refine lv_fold (z := xs 1) rfl ?_
  have Y := Y.swap
  refine cVp (As := [.int (xs 1)]) (rest := []) S Y (c_X11_about (l := l) p_xo p_w p_fe p_cl p_wo p_si p_we p_rd) cw_X11_about kmL_210 p_xo ok_X11.1 rfl rfl ⟨Nat.le_of_ble_eq_true rfl, Nat.le_of_ble_eq_true rfl⟩ hl.1 rfl (Nat.le_of_ble_eq_true rfl) ⟨Nat.le_of_ble_eq_true rfl, Nat.le_of_ble_eq_true rfl⟩ dL_law_1509 (fun r_1695 H locs er_1695 Y => ?_)
  have Y := Y.swap
  refine lv_aload_n hx hb dL_law_1512 rfl (lv_at hl 1 rfl) ?_
  refine lv_aload_n hx hb dL_law_1513 rfl (lv_at hl 3 rfl) ?_
  refine lv_iload_n hx hb dL_law_1514 rfl (lv_at hl 0 rfl) ?_
  refine lv_iconst (v := 1) hx hb dL_law_1515 (by decide) ?_
  refine lv_iadd hx hb dL_law_1516 ?_
  refine lv_fold (z := 1) (by decide) ?_
  refine va_sld hx hb hX hbl hbA Y.2.2 (by unfold vp_in; decide) dL_law_1517 ?_
  refine lv_fold (z := xs 1) rfl ?_
  refine cVp (As := [.int (xs 1)]) (rest := [.int r_1695]) S Y (c_X12_about (l := l) p_xm p_m_a) cw_X12_about kmL_213 p_xm ok_X12.1 rfl rfl ⟨Nat.le_of_ble_eq_true rfl, Nat.le_of_ble_eq_true rfl⟩ hl.1 rfl (Nat.le_of_ble_eq_true rfl) ⟨Nat.le_of_ble_eq_true rfl, Nat.le_of_ble_eq_true rfl⟩ dL_law_1518 (fun r_1696 H locs er_1696 Y => ?_)
  refine lv_icmp_eq (tgt := 1526) hx hb dL_law_1521 (by decide) (fun _ => ?_) (fun h => absurd (er_1695.trans er_1696.symm) h)
  refine lv_iinc (v := 6) (lv' := [(3, .int 6), (2, .ref xm), (1, .ref xo), (0, .ref b)]) hx hb dL_law_1526 hl (k := 0) rfl (by decide) (by decide) rfl (fun ls hl => ?_)
  refine lv_goto (tgt := 18) hx hb dL_law_1529 (by decide) ?_
  exact tail _ _ _ Y.2.2 (lv_sub hl [0, 3] rfl)
