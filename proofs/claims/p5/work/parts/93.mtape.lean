theorem dX12_isFigure_0 : decode cX12_isFigure 0 = .ok (.iload_n 0, 1) := by decide +kernel
theorem dX12_isFigure_1 : decode cX12_isFigure 1 = .ok (.bipush 48, 2) := by decide +kernel
theorem dX12_isFigure_3 : decode cX12_isFigure 3 = .ok (.if_icmp .lt 13, 3) := by decide +kernel
theorem dX12_isFigure_16 : decode cX12_isFigure 16 = .ok (.iconst 0, 1) := by decide +kernel
theorem dX12_isFigure_17 : decode cX12_isFigure 17 = .ok (.ireturn, 1) := by decide +kernel
theorem dX12_isFigure_6 : decode cX12_isFigure 6 = .ok (.iload_n 0, 1) := by decide +kernel
theorem dX12_isFigure_7 : decode cX12_isFigure 7 = .ok (.bipush 57, 2) := by decide +kernel
theorem dX12_isFigure_9 : decode cX12_isFigure 9 = .ok (.if_icmp .gt 7, 3) := by decide +kernel
theorem dX12_isFigure_12 : decode cX12_isFigure 12 = .ok (.iconst 1, 1) := by decide +kernel
theorem dX12_isFigure_13 : decode cX12_isFigure 13 = .ok (.goto 4, 3) := by decide +kernel
theorem dX12_isLetterByte_0 : decode cX12_isLetterByte 0 = .ok (.iload_n 0, 1) := by decide +kernel
theorem dX12_isLetterByte_1 : decode cX12_isLetterByte 1 = .ok (.bipush 97, 2) := by decide +kernel
theorem dX12_isLetterByte_3 : decode cX12_isLetterByte 3 = .ok (.if_icmp .lt 9, 3) := by decide +kernel
theorem dX12_isLetterByte_12 : decode cX12_isLetterByte 12 = .ok (.iload_n 0, 1) := by decide +kernel
theorem dX12_isLetterByte_13 : decode cX12_isLetterByte 13 = .ok (.bipush 65, 2) := by decide +kernel
theorem dX12_isLetterByte_15 : decode cX12_isLetterByte 15 = .ok (.if_icmp .lt 13, 3) := by decide +kernel
theorem dX12_isLetterByte_28 : decode cX12_isLetterByte 28 = .ok (.iconst 0, 1) := by decide +kernel
theorem dX12_isLetterByte_29 : decode cX12_isLetterByte 29 = .ok (.ireturn, 1) := by decide +kernel
theorem dX12_isLetterByte_18 : decode cX12_isLetterByte 18 = .ok (.iload_n 0, 1) := by decide +kernel
theorem dX12_isLetterByte_19 : decode cX12_isLetterByte 19 = .ok (.bipush 90, 2) := by decide +kernel
theorem dX12_isLetterByte_21 : decode cX12_isLetterByte 21 = .ok (.if_icmp .gt 7, 3) := by decide +kernel
theorem dX12_isLetterByte_24 : decode cX12_isLetterByte 24 = .ok (.iconst 1, 1) := by decide +kernel
theorem dX12_isLetterByte_25 : decode cX12_isLetterByte 25 = .ok (.goto 4, 3) := by decide +kernel
theorem dX12_isLetterByte_6 : decode cX12_isLetterByte 6 = .ok (.iload_n 0, 1) := by decide +kernel
theorem dX12_isLetterByte_7 : decode cX12_isLetterByte 7 = .ok (.bipush 122, 2) := by decide +kernel
theorem dX12_isLetterByte_9 : decode cX12_isLetterByte 9 = .ok (.if_icmp .le 15, 3) := by decide +kernel
theorem dX12_byteAt_0 : decode cX12_byteAt 0 = .ok (.iload_n 1, 1) := by decide +kernel
theorem dX12_byteAt_1 : decode cX12_byteAt 1 = .ok (.aload_n 0, 1) := by decide +kernel
theorem dX12_byteAt_2 : decode cX12_byteAt 2 = .ok (.getfield 81, 3) := by decide +kernel
theorem dX12_byteAt_5 : decode cX12_byteAt 5 = .ok (.if_icmp .ge 12, 3) := by decide +kernel
theorem dX12_byteAt_17 : decode cX12_byteAt 17 = .ok (.iconst (-1), 1) := by decide +kernel
theorem dX12_byteAt_18 : decode cX12_byteAt 18 = .ok (.ireturn, 1) := by decide +kernel
theorem dX12_byteAt_8 : decode cX12_byteAt 8 = .ok (.aload_n 0, 1) := by decide +kernel
theorem dX12_byteAt_9 : decode cX12_byteAt 9 = .ok (.getfield 19, 3) := by decide +kernel
theorem kf12_19 : inW (Cond.fieldLink RX12 19 "KneeOathsModel" "tape" "[I") := ⟨List.mem_of_getElem? (i := 1501) (by decide +kernel), by decide +kernel⟩
theorem dX12_byteAt_12 : decode cX12_byteAt 12 = .ok (.iload_n 1, 1) := by decide +kernel
theorem dX12_byteAt_13 : decode cX12_byteAt 13 = .ok (.iaload, 1) := by decide +kernel
theorem dX12_byteAt_14 : decode cX12_byteAt 14 = .ok (.goto 4, 3) := by decide +kernel
theorem dX12_isSign_0 : decode cX12_isSign 0 = .ok (.iload_n 0, 1) := by decide +kernel
theorem dX12_isSign_1 : decode cX12_isSign 1 = .ok (.tableswitch 129 35 62 #[127, 129, 129, 129, 129, 127, 127, 127, 127, 127, 127, 129, 127, 129, 129, 129, 129, 129, 129, 129, 129, 129, 129, 129, 127, 127, 127, 127], 127) := by decide +kernel
theorem swM_35_62 (x : Int32) : x = 35 ∨ x = 36 ∨ x = 37 ∨ x = 38 ∨ x = 39 ∨ x = 40 ∨ x = 41 ∨ x = 42 ∨ x = 43 ∨ x = 44 ∨ x = 45 ∨ x = 46 ∨ x = 47 ∨ x = 48 ∨ x = 49 ∨ x = 50 ∨ x = 51 ∨ x = 52 ∨ x = 53 ∨ x = 54 ∨ x = 55 ∨ x = 56 ∨ x = 57 ∨ x = 58 ∨ x = 59 ∨ x = 60 ∨ x = 61 ∨ x = 62 ∨ (x.toInt < 35 ∨ 62 < x.toInt) := by
  have key : ∀ k : Int32, x.toInt = k.toInt → x = k := fun k h => Int32.toInt_inj.mp h
  by_cases h1 : x.toInt < 35
  · simp [h1]
  by_cases h2 : 62 < x.toInt
  · simp [h2]
  have h3 : x.toInt = 35 ∨ x.toInt = 36 ∨ x.toInt = 37 ∨ x.toInt = 38 ∨ x.toInt = 39 ∨ x.toInt = 40 ∨ x.toInt = 41 ∨ x.toInt = 42 ∨ x.toInt = 43 ∨ x.toInt = 44 ∨ x.toInt = 45 ∨ x.toInt = 46 ∨ x.toInt = 47 ∨ x.toInt = 48 ∨ x.toInt = 49 ∨ x.toInt = 50 ∨ x.toInt = 51 ∨ x.toInt = 52 ∨ x.toInt = 53 ∨ x.toInt = 54 ∨ x.toInt = 55 ∨ x.toInt = 56 ∨ x.toInt = 57 ∨ x.toInt = 58 ∨ x.toInt = 59 ∨ x.toInt = 60 ∨ x.toInt = 61 ∨ x.toInt = 62 := by omega
  rcases h3 with h | h | h | h | h | h | h | h | h | h | h | h | h | h | h | h | h | h | h | h | h | h | h | h | h | h | h | h
  · rw [key 35 (h.trans (by decide))]; decide
  · rw [key 36 (h.trans (by decide))]; decide
  · rw [key 37 (h.trans (by decide))]; decide
  · rw [key 38 (h.trans (by decide))]; decide
  · rw [key 39 (h.trans (by decide))]; decide
  · rw [key 40 (h.trans (by decide))]; decide
  · rw [key 41 (h.trans (by decide))]; decide
  · rw [key 42 (h.trans (by decide))]; decide
  · rw [key 43 (h.trans (by decide))]; decide
  · rw [key 44 (h.trans (by decide))]; decide
  · rw [key 45 (h.trans (by decide))]; decide
  · rw [key 46 (h.trans (by decide))]; decide
  · rw [key 47 (h.trans (by decide))]; decide
  · rw [key 48 (h.trans (by decide))]; decide
  · rw [key 49 (h.trans (by decide))]; decide
  · rw [key 50 (h.trans (by decide))]; decide
  · rw [key 51 (h.trans (by decide))]; decide
  · rw [key 52 (h.trans (by decide))]; decide
  · rw [key 53 (h.trans (by decide))]; decide
  · rw [key 54 (h.trans (by decide))]; decide
  · rw [key 55 (h.trans (by decide))]; decide
  · rw [key 56 (h.trans (by decide))]; decide
  · rw [key 57 (h.trans (by decide))]; decide
  · rw [key 58 (h.trans (by decide))]; decide
  · rw [key 59 (h.trans (by decide))]; decide
  · rw [key 60 (h.trans (by decide))]; decide
  · rw [key 61 (h.trans (by decide))]; decide
  · rw [key 62 (h.trans (by decide))]; decide
theorem dX12_isSign_128 : decode cX12_isSign 128 = .ok (.iconst 1, 1) := by decide +kernel
theorem dX12_isSign_129 : decode cX12_isSign 129 = .ok (.ireturn, 1) := by decide +kernel
theorem dX12_isSign_130 : decode cX12_isSign 130 = .ok (.iconst 0, 1) := by decide +kernel
theorem dX12_isSign_131 : decode cX12_isSign 131 = .ok (.ireturn, 1) := by decide +kernel
theorem dX12_nextToken_0 : decode cX12_nextToken 0 = .ok (.aload_n 0, 1) := by decide +kernel
theorem dX12_nextToken_1 : decode cX12_nextToken 1 = .ok (.aload_n 0, 1) := by decide +kernel
theorem dX12_nextToken_2 : decode cX12_nextToken 2 = .ok (.getfield 88, 3) := by decide +kernel
theorem kf12_88 : inW (Cond.fieldLink RX12 88 "KneeOathsModel" "at" "I") := ⟨List.mem_of_getElem? (i := 1505) (by decide +kernel), by decide +kernel⟩
theorem dX12_nextToken_5 : decode cX12_nextToken 5 = .ok (.invokevirtual 91, 3) := by decide +kernel
theorem cw_X12_byteAt : CWv yX12_byteAt cX12_byteAt 2 (some .int) 1 := ⟨⟨⟨List.mem_of_getElem? (i := 137) (by decide +kernel), by decide +kernel⟩, ⟨List.mem_of_getElem? (i := 1631) (by decide +kernel), by decide +kernel⟩, by decide +kernel⟩, ⟨List.mem_of_getElem? (i := 1630) (by decide +kernel), by decide +kernel⟩, ⟨List.mem_of_getElem? (i := 51) (by decide +kernel), by decide +kernel⟩⟩
theorem km12_91 : inW (Cond.methodLink RX12 91 yX12_byteAt) := ⟨List.mem_of_getElem? (i := 1628) (by decide +kernel), by decide +kernel⟩
theorem dX12_nextToken_8 : decode cX12_nextToken 8 = .ok (.bipush 32, 2) := by decide +kernel
theorem dX12_nextToken_10 : decode cX12_nextToken 10 = .ok (.if_icmp .eq 16, 3) := by decide +kernel
theorem dX12_nextToken_26 : decode cX12_nextToken 26 = .ok (.aload_n 0, 1) := by decide +kernel
theorem dX12_nextToken_27 : decode cX12_nextToken 27 = .ok (.dup, 1) := by decide +kernel
theorem dX12_nextToken_28 : decode cX12_nextToken 28 = .ok (.getfield 88, 3) := by decide +kernel
theorem dX12_nextToken_31 : decode cX12_nextToken 31 = .ok (.iconst 1, 1) := by decide +kernel
theorem dX12_nextToken_32 : decode cX12_nextToken 32 = .ok (.iadd, 1) := by decide +kernel
theorem dX12_nextToken_33 : decode cX12_nextToken 33 = .ok (.putfield 88, 3) := by decide +kernel
theorem dX12_nextToken_36 : decode cX12_nextToken 36 = .ok (.goto (-36), 3) := by decide +kernel
theorem dX12_nextToken_13 : decode cX12_nextToken 13 = .ok (.aload_n 0, 1) := by decide +kernel
theorem dX12_nextToken_14 : decode cX12_nextToken 14 = .ok (.aload_n 0, 1) := by decide +kernel
theorem dX12_nextToken_15 : decode cX12_nextToken 15 = .ok (.getfield 88, 3) := by decide +kernel
theorem dX12_nextToken_18 : decode cX12_nextToken 18 = .ok (.invokevirtual 91, 3) := by decide +kernel
theorem dX12_nextToken_21 : decode cX12_nextToken 21 = .ok (.bipush 10, 2) := by decide +kernel
theorem dX12_nextToken_23 : decode cX12_nextToken 23 = .ok (.if_icmp .ne 16, 3) := by decide +kernel
theorem dX12_nextToken_39 : decode cX12_nextToken 39 = .ok (.aload_n 0, 1) := by decide +kernel
theorem dX12_nextToken_40 : decode cX12_nextToken 40 = .ok (.aload_n 0, 1) := by decide +kernel
theorem dX12_nextToken_41 : decode cX12_nextToken 41 = .ok (.getfield 88, 3) := by decide +kernel
theorem dX12_nextToken_44 : decode cX12_nextToken 44 = .ok (.putfield 95, 3) := by decide +kernel
theorem kf12_95 : inW (Cond.fieldLink RX12 95 "KneeOathsModel" "place" "I") := ⟨List.mem_of_getElem? (i := 1506) (by decide +kernel), by decide +kernel⟩
theorem dX12_nextToken_47 : decode cX12_nextToken 47 = .ok (.aload_n 0, 1) := by decide +kernel
theorem dX12_nextToken_48 : decode cX12_nextToken 48 = .ok (.aload_n 0, 1) := by decide +kernel
theorem dX12_nextToken_49 : decode cX12_nextToken 49 = .ok (.getfield 88, 3) := by decide +kernel
theorem dX12_nextToken_52 : decode cX12_nextToken 52 = .ok (.invokevirtual 91, 3) := by decide +kernel
theorem dX12_nextToken_55 : decode cX12_nextToken 55 = .ok (.istore_n 1, 1) := by decide +kernel
theorem dX12_nextToken_56 : decode cX12_nextToken 56 = .ok (.iload_n 1, 1) := by decide +kernel
theorem dX12_nextToken_57 : decode cX12_nextToken 57 = .ok (.ifCond .ge 11, 3) := by decide +kernel
theorem dX12_nextToken_68 : decode cX12_nextToken 68 = .ok (.iload_n 1, 1) := by decide +kernel
theorem dX12_nextToken_69 : decode cX12_nextToken 69 = .ok (.invokestatic 101, 3) := by decide +kernel
theorem cw_X12_isFigure : CWs yX12_isFigure cX12_isFigure 1 (some .boolean) 1 := ⟨⟨⟨List.mem_of_getElem? (i := 137) (by decide +kernel), by decide +kernel⟩, ⟨List.mem_of_getElem? (i := 1634) (by decide +kernel), by decide +kernel⟩, by decide +kernel⟩, ⟨List.mem_of_getElem? (i := 1633) (by decide +kernel), by decide +kernel⟩⟩
theorem km12_101 : inW (Cond.methodLink RX12 101 yX12_isFigure) := ⟨List.mem_of_getElem? (i := 1632) (by decide +kernel), by decide +kernel⟩
theorem dX12_nextToken_72 : decode cX12_nextToken 72 = .ok (.ifCond .eq 79, 3) := by decide +kernel
theorem dX12_nextToken_151 : decode cX12_nextToken 151 = .ok (.iload_n 1, 1) := by decide +kernel
theorem dX12_nextToken_152 : decode cX12_nextToken 152 = .ok (.invokestatic 108, 3) := by decide +kernel
theorem cw_X12_isLetterByte : CWs yX12_isLetterByte cX12_isLetterByte 1 (some .boolean) 1 := ⟨⟨⟨List.mem_of_getElem? (i := 137) (by decide +kernel), by decide +kernel⟩, ⟨List.mem_of_getElem? (i := 1638) (by decide +kernel), by decide +kernel⟩, by decide +kernel⟩, ⟨List.mem_of_getElem? (i := 1637) (by decide +kernel), by decide +kernel⟩⟩
theorem km12_108 : inW (Cond.methodLink RX12 108 yX12_isLetterByte) := ⟨List.mem_of_getElem? (i := 1636) (by decide +kernel), by decide +kernel⟩
theorem dX12_nextToken_155 : decode cX12_nextToken 155 = .ok (.ifCond .eq 79, 3) := by decide +kernel
theorem dX12_nextToken_234 : decode cX12_nextToken 234 = .ok (.aload_n 0, 1) := by decide +kernel
theorem dX12_nextToken_235 : decode cX12_nextToken 235 = .ok (.iload_n 1, 1) := by decide +kernel
theorem dX12_nextToken_236 : decode cX12_nextToken 236 = .ok (.invokestatic 117, 3) := by decide +kernel
theorem cw_X12_isSign : CWs yX12_isSign cX12_isSign 1 (some .boolean) 1 := ⟨⟨⟨List.mem_of_getElem? (i := 137) (by decide +kernel), by decide +kernel⟩, ⟨List.mem_of_getElem? (i := 1642) (by decide +kernel), by decide +kernel⟩, by decide +kernel⟩, ⟨List.mem_of_getElem? (i := 1641) (by decide +kernel), by decide +kernel⟩⟩
theorem km12_117 : inW (Cond.methodLink RX12 117 yX12_isSign) := ⟨List.mem_of_getElem? (i := 1640) (by decide +kernel), by decide +kernel⟩
theorem dX12_nextToken_239 : decode cX12_nextToken 239 = .ok (.ifCond .eq 7, 3) := by decide +kernel
theorem dX12_nextToken_246 : decode cX12_nextToken 246 = .ok (.iconst 3, 1) := by decide +kernel
theorem dX12_nextToken_247 : decode cX12_nextToken 247 = .ok (.putfield 98, 3) := by decide +kernel
theorem kf12_98 : inW (Cond.fieldLink RX12 98 "KneeOathsModel" "token" "I") := ⟨List.mem_of_getElem? (i := 1507) (by decide +kernel), by decide +kernel⟩
theorem dX12_nextToken_250 : decode cX12_nextToken 250 = .ok (.aload_n 0, 1) := by decide +kernel
theorem dX12_nextToken_251 : decode cX12_nextToken 251 = .ok (.dup, 1) := by decide +kernel
theorem dX12_nextToken_252 : decode cX12_nextToken 252 = .ok (.getfield 88, 3) := by decide +kernel
theorem dX12_nextToken_255 : decode cX12_nextToken 255 = .ok (.iconst 1, 1) := by decide +kernel
theorem dX12_nextToken_256 : decode cX12_nextToken 256 = .ok (.iadd, 1) := by decide +kernel
theorem dX12_nextToken_257 : decode cX12_nextToken 257 = .ok (.putfield 88, 3) := by decide +kernel
theorem dX12_nextToken_260 : decode cX12_nextToken 260 = .ok (.iload_n 1, 1) := by decide +kernel
theorem dX12_nextToken_261 : decode cX12_nextToken 261 = .ok (.bipush 60, 2) := by decide +kernel
theorem dX12_nextToken_263 : decode cX12_nextToken 263 = .ok (.if_icmp .eq 9, 3) := by decide +kernel
theorem dX12_nextToken_272 : decode cX12_nextToken 272 = .ok (.aload_n 0, 1) := by decide +kernel
theorem dX12_nextToken_273 : decode cX12_nextToken 273 = .ok (.aload_n 0, 1) := by decide +kernel
theorem dX12_nextToken_274 : decode cX12_nextToken 274 = .ok (.getfield 88, 3) := by decide +kernel
theorem dX12_nextToken_277 : decode cX12_nextToken 277 = .ok (.invokevirtual 91, 3) := by decide +kernel
theorem dX12_nextToken_280 : decode cX12_nextToken 280 = .ok (.bipush 61, 2) := by decide +kernel
theorem dX12_nextToken_282 : decode cX12_nextToken 282 = .ok (.if_icmp .ne 28, 3) := by decide +kernel
theorem dX12_nextToken_310 : decode cX12_nextToken 310 = .ok (.return_, 1) := by decide +kernel
theorem dX12_nextToken_285 : decode cX12_nextToken 285 = .ok (.aload_n 0, 1) := by decide +kernel
theorem dX12_nextToken_286 : decode cX12_nextToken 286 = .ok (.iload_n 1, 1) := by decide +kernel
theorem dX12_nextToken_287 : decode cX12_nextToken 287 = .ok (.bipush 60, 2) := by decide +kernel
theorem dX12_nextToken_289 : decode cX12_nextToken 289 = .ok (.if_icmp .ne 7, 3) := by decide +kernel
theorem dX12_nextToken_292 : decode cX12_nextToken 292 = .ok (.iconst 4, 1) := by decide +kernel
theorem dX12_nextToken_293 : decode cX12_nextToken 293 = .ok (.goto 4, 3) := by decide +kernel
theorem dX12_nextToken_297 : decode cX12_nextToken 297 = .ok (.putfield 98, 3) := by decide +kernel
theorem dX12_nextToken_300 : decode cX12_nextToken 300 = .ok (.aload_n 0, 1) := by decide +kernel
theorem dX12_nextToken_301 : decode cX12_nextToken 301 = .ok (.dup, 1) := by decide +kernel
theorem dX12_nextToken_302 : decode cX12_nextToken 302 = .ok (.getfield 88, 3) := by decide +kernel
theorem dX12_nextToken_305 : decode cX12_nextToken 305 = .ok (.iconst 1, 1) := by decide +kernel
theorem dX12_nextToken_306 : decode cX12_nextToken 306 = .ok (.iadd, 1) := by decide +kernel
theorem dX12_nextToken_307 : decode cX12_nextToken 307 = .ok (.putfield 88, 3) := by decide +kernel
theorem dX12_nextToken_266 : decode cX12_nextToken 266 = .ok (.iload_n 1, 1) := by decide +kernel
theorem dX12_nextToken_267 : decode cX12_nextToken 267 = .ok (.bipush 62, 2) := by decide +kernel
theorem dX12_nextToken_269 : decode cX12_nextToken 269 = .ok (.if_icmp .ne 41, 3) := by decide +kernel
theorem dX12_nextToken_296 : decode cX12_nextToken 296 = .ok (.iconst 5, 1) := by decide +kernel
theorem dX12_nextToken_242 : decode cX12_nextToken 242 = .ok (.iload_n 1, 1) := by decide +kernel
theorem dX12_nextToken_243 : decode cX12_nextToken 243 = .ok (.goto 4, 3) := by decide +kernel
theorem dX12_nextToken_158 : decode cX12_nextToken 158 = .ok (.aload_n 0, 1) := by decide +kernel
theorem dX12_nextToken_159 : decode cX12_nextToken 159 = .ok (.iconst 2, 1) := by decide +kernel
theorem dX12_nextToken_160 : decode cX12_nextToken 160 = .ok (.putfield 98, 3) := by decide +kernel
theorem dX12_nextToken_163 : decode cX12_nextToken 163 = .ok (.aload_n 0, 1) := by decide +kernel
theorem dX12_nextToken_164 : decode cX12_nextToken 164 = .ok (.lconst 0, 1) := by decide +kernel
theorem dX12_nextToken_165 : decode cX12_nextToken 165 = .ok (.putfield 111, 3) := by decide +kernel
theorem kf12_111 : inW (Cond.fieldLink RX12 111 "KneeOathsModel" "word" "J") := ⟨List.mem_of_getElem? (i := 1509) (by decide +kernel), by decide +kernel⟩
theorem dX12_nextToken_75 : decode cX12_nextToken 75 = .ok (.aload_n 0, 1) := by decide +kernel
theorem dX12_nextToken_76 : decode cX12_nextToken 76 = .ok (.iconst 1, 1) := by decide +kernel
theorem dX12_nextToken_77 : decode cX12_nextToken 77 = .ok (.putfield 98, 3) := by decide +kernel
theorem dX12_nextToken_80 : decode cX12_nextToken 80 = .ok (.aload_n 0, 1) := by decide +kernel
theorem dX12_nextToken_81 : decode cX12_nextToken 81 = .ok (.iconst 0, 1) := by decide +kernel
theorem dX12_nextToken_82 : decode cX12_nextToken 82 = .ok (.putfield 104, 3) := by decide +kernel
theorem kf12_104 : inW (Cond.fieldLink RX12 104 "KneeOathsModel" "number" "I") := ⟨List.mem_of_getElem? (i := 1508) (by decide +kernel), by decide +kernel⟩
theorem dX12_nextToken_60 : decode cX12_nextToken 60 = .ok (.aload_n 0, 1) := by decide +kernel
theorem dX12_nextToken_61 : decode cX12_nextToken 61 = .ok (.iconst 0, 1) := by decide +kernel
theorem dX12_nextToken_62 : decode cX12_nextToken 62 = .ok (.putfield 98, 3) := by decide +kernel
theorem dX12_nextToken_65 : decode cX12_nextToken 65 = .ok (.goto 245, 3) := by decide +kernel
theorem dX12_nextToken_168 : decode cX12_nextToken 168 = .ok (.aload_n 0, 1) := by decide +kernel
theorem dX12_nextToken_169 : decode cX12_nextToken 169 = .ok (.aload_n 0, 1) := by decide +kernel
theorem dX12_nextToken_170 : decode cX12_nextToken 170 = .ok (.getfield 88, 3) := by decide +kernel
theorem dX12_nextToken_173 : decode cX12_nextToken 173 = .ok (.invokevirtual 91, 3) := by decide +kernel
theorem dX12_nextToken_176 : decode cX12_nextToken 176 = .ok (.invokestatic 108, 3) := by decide +kernel
theorem dX12_nextToken_179 : decode cX12_nextToken 179 = .ok (.ifCond .eq 131, 3) := by decide +kernel
theorem dX12_nextToken_182 : decode cX12_nextToken 182 = .ok (.aload_n 0, 1) := by decide +kernel
theorem dX12_nextToken_183 : decode cX12_nextToken 183 = .ok (.aload_n 0, 1) := by decide +kernel
theorem dX12_nextToken_184 : decode cX12_nextToken 184 = .ok (.getfield 111, 3) := by decide +kernel
theorem dX12_nextToken_187 : decode cX12_nextToken 187 = .ok (.bipush 48, 2) := by decide +kernel
theorem dX12_nextToken_189 : decode cX12_nextToken 189 = .ok (.lshr, 1) := by decide +kernel
theorem dX12_nextToken_190 : decode cX12_nextToken 190 = .ok (.lconst 0, 1) := by decide +kernel
theorem dX12_nextToken_191 : decode cX12_nextToken 191 = .ok (.lcmp, 1) := by decide +kernel
theorem dX12_nextToken_192 : decode cX12_nextToken 192 = .ok (.ifCond .eq 9, 3) := by decide +kernel
theorem dX12_nextToken_201 : decode cX12_nextToken 201 = .ok (.aload_n 0, 1) := by decide +kernel
theorem dX12_nextToken_202 : decode cX12_nextToken 202 = .ok (.getfield 111, 3) := by decide +kernel
theorem dX12_nextToken_205 : decode cX12_nextToken 205 = .ok (.bipush 8, 2) := by decide +kernel
theorem dX12_nextToken_207 : decode cX12_nextToken 207 = .ok (.lshl, 1) := by decide +kernel
theorem dX12_nextToken_208 : decode cX12_nextToken 208 = .ok (.aload_n 0, 1) := by decide +kernel
theorem dX12_nextToken_209 : decode cX12_nextToken 209 = .ok (.aload_n 0, 1) := by decide +kernel
theorem dX12_nextToken_210 : decode cX12_nextToken 210 = .ok (.getfield 88, 3) := by decide +kernel
theorem dX12_nextToken_213 : decode cX12_nextToken 213 = .ok (.invokevirtual 91, 3) := by decide +kernel
theorem dX12_nextToken_216 : decode cX12_nextToken 216 = .ok (.i2l, 1) := by decide +kernel
theorem dX12_nextToken_217 : decode cX12_nextToken 217 = .ok (.lor, 1) := by decide +kernel
theorem dX12_nextToken_218 : decode cX12_nextToken 218 = .ok (.putfield 111, 3) := by decide +kernel
theorem dX12_nextToken_221 : decode cX12_nextToken 221 = .ok (.aload_n 0, 1) := by decide +kernel
theorem dX12_nextToken_222 : decode cX12_nextToken 222 = .ok (.dup, 1) := by decide +kernel
theorem dX12_nextToken_223 : decode cX12_nextToken 223 = .ok (.getfield 88, 3) := by decide +kernel
theorem dX12_nextToken_226 : decode cX12_nextToken 226 = .ok (.iconst 1, 1) := by decide +kernel
theorem dX12_nextToken_227 : decode cX12_nextToken 227 = .ok (.iadd, 1) := by decide +kernel
theorem dX12_nextToken_228 : decode cX12_nextToken 228 = .ok (.putfield 88, 3) := by decide +kernel
theorem dX12_nextToken_231 : decode cX12_nextToken 231 = .ok (.goto (-63), 3) := by decide +kernel
theorem dX12_nextToken_195 : decode cX12_nextToken 195 = .ok (.ldc2_w 115, 3) := by decide +kernel
theorem kl12_115 : inW (Cond.constantLong RX12 115 (1152921504606846976)) := ⟨List.mem_of_getElem? (i := 1639) (by decide +kernel), by decide +kernel⟩
theorem dX12_nextToken_198 : decode cX12_nextToken 198 = .ok (.goto 20, 3) := by decide +kernel
theorem dX12_nextToken_85 : decode cX12_nextToken 85 = .ok (.aload_n 0, 1) := by decide +kernel
theorem dX12_nextToken_86 : decode cX12_nextToken 86 = .ok (.aload_n 0, 1) := by decide +kernel
theorem dX12_nextToken_87 : decode cX12_nextToken 87 = .ok (.getfield 88, 3) := by decide +kernel
theorem dX12_nextToken_90 : decode cX12_nextToken 90 = .ok (.invokevirtual 91, 3) := by decide +kernel
theorem dX12_nextToken_93 : decode cX12_nextToken 93 = .ok (.invokestatic 101, 3) := by decide +kernel
theorem dX12_nextToken_96 : decode cX12_nextToken 96 = .ok (.ifCond .eq 214, 3) := by decide +kernel
theorem dX12_nextToken_99 : decode cX12_nextToken 99 = .ok (.aload_n 0, 1) := by decide +kernel
theorem dX12_nextToken_100 : decode cX12_nextToken 100 = .ok (.aload_n 0, 1) := by decide +kernel
theorem dX12_nextToken_101 : decode cX12_nextToken 101 = .ok (.getfield 104, 3) := by decide +kernel
theorem dX12_nextToken_104 : decode cX12_nextToken 104 = .ok (.ldc 107, 2) := by decide +kernel
theorem kk12_107 : inW (Cond.constant RX12 107 (99999)) := ⟨List.mem_of_getElem? (i := 1635) (by decide +kernel), by decide +kernel⟩
theorem dX12_nextToken_106 : decode cX12_nextToken 106 = .ok (.if_icmp .le 10, 3) := by decide +kernel
theorem dX12_nextToken_116 : decode cX12_nextToken 116 = .ok (.bipush 10, 2) := by decide +kernel
theorem dX12_nextToken_118 : decode cX12_nextToken 118 = .ok (.aload_n 0, 1) := by decide +kernel
theorem dX12_nextToken_119 : decode cX12_nextToken 119 = .ok (.getfield 104, 3) := by decide +kernel
theorem dX12_nextToken_122 : decode cX12_nextToken 122 = .ok (.imul, 1) := by decide +kernel
theorem dX12_nextToken_123 : decode cX12_nextToken 123 = .ok (.aload_n 0, 1) := by decide +kernel
theorem dX12_nextToken_124 : decode cX12_nextToken 124 = .ok (.aload_n 0, 1) := by decide +kernel
theorem dX12_nextToken_125 : decode cX12_nextToken 125 = .ok (.getfield 88, 3) := by decide +kernel
theorem dX12_nextToken_128 : decode cX12_nextToken 128 = .ok (.invokevirtual 91, 3) := by decide +kernel
theorem dX12_nextToken_131 : decode cX12_nextToken 131 = .ok (.iadd, 1) := by decide +kernel
theorem dX12_nextToken_132 : decode cX12_nextToken 132 = .ok (.bipush 48, 2) := by decide +kernel
theorem dX12_nextToken_134 : decode cX12_nextToken 134 = .ok (.isub, 1) := by decide +kernel
theorem dX12_nextToken_135 : decode cX12_nextToken 135 = .ok (.putfield 104, 3) := by decide +kernel
theorem dX12_nextToken_138 : decode cX12_nextToken 138 = .ok (.aload_n 0, 1) := by decide +kernel
theorem dX12_nextToken_139 : decode cX12_nextToken 139 = .ok (.dup, 1) := by decide +kernel
theorem dX12_nextToken_140 : decode cX12_nextToken 140 = .ok (.getfield 88, 3) := by decide +kernel
theorem dX12_nextToken_143 : decode cX12_nextToken 143 = .ok (.iconst 1, 1) := by decide +kernel
theorem dX12_nextToken_144 : decode cX12_nextToken 144 = .ok (.iadd, 1) := by decide +kernel
theorem dX12_nextToken_145 : decode cX12_nextToken 145 = .ok (.putfield 88, 3) := by decide +kernel
theorem dX12_nextToken_148 : decode cX12_nextToken 148 = .ok (.goto (-63), 3) := by decide +kernel
theorem dX12_nextToken_109 : decode cX12_nextToken 109 = .ok (.aload_n 0, 1) := by decide +kernel
theorem dX12_nextToken_110 : decode cX12_nextToken 110 = .ok (.getfield 104, 3) := by decide +kernel
theorem dX12_nextToken_113 : decode cX12_nextToken 113 = .ok (.goto 22, 3) := by decide +kernel
theorem obM {G : GG} {L : List Nat} {f : HF} {ad : Nat → Nat → Nat} {PA PX pa : (Nat → Int32) → Prop} {PI : PIT} {td fa fp at9 ps9 tk nu t0 wr so pd op9 cg iw on9 is9 se : Int32} {wd : Int64} (I : SH (spM PA PI PX pa) nnM G ad L f) (h : pt L f (ad 0 0) (.inr (12, [.ref (ad 1 0), .ref (ad 2 0), .ref (ad 3 0), .ref (ad 4 0), .int td, .int fa, .int fp, .int at9, .int ps9, .int tk, .int nu, .long wd, .int t0, .int wr, .int so, .ref (ad 5 0), .ref (ad 6 0), .int pd, .int op9, .int cg, .int iw, .int on9, .ref (ad 7 0), .ref (ad 8 0), .ref (ad 9 0), .int is9, .ref (ad 10 0), .ref (ad 11 0), .ref (ad 12 0), .ref (ad 13 0), .int se, .ref (ad 14 0)]))) : bn (lim 0 300 PI.2.1).1 (lim 0 300 PI.2.1).2 td ∧ bn (lim (-2147483648) 2147483647 PI.2.2.1).1 (lim (-2147483648) 2147483647 PI.2.2.1).2 fa ∧ bn (lim (-2147483648) 2147483647 PI.2.2.2.1).1 (lim (-2147483648) 2147483647 PI.2.2.2.1).2 fp ∧ bn 0 300 at9 ∧ bn 0 300 ps9 ∧ bn 0 2187 t0 ∧ bn 0 300 wr ∧ bn 0 160 pd ∧ bn 0 8 op9 ∧ bn 0 8 cg ∧ bn 0 1 iw ∧ bn 0 1 is9 := by
  obtain ⟨x4, x5, x6, x7, x8, x9, x10, x11, x12, x13, x14, x17, x18, x19, x20, x21, x25, x30, p, b4, b5, b6, b7, b8, b9, b10, b12, b13, b14, b17, b18, b19, b20, b21, b25, b30⟩ := opnM_0 (j := 0) I (by decide)
  have e := p.2.symm.trans h.2
  simp only [Sum.inr.injEq, Prod.mk.injEq, List.cons.injEq, Value.int.injEq, Value.long.injEq, true_and, and_true] at e
  obtain ⟨rfl, rfl, rfl, rfl, rfl, rfl, rfl, rfl, rfl, rfl, rfl, rfl, rfl, rfl, rfl, rfl, rfl, rfl⟩ := e
  exact ⟨b4, b5, b6, b7, b8, b12, b13, b17, b18, b19, b20, b25⟩
def FG (i : Int32) : Prop := bn 48 57 i
def LT9 (i : Int32) : Prop := (65 ≤ i.toInt ∧ i.toInt ≤ 90) ∨ (97 ≤ i.toInt ∧ i.toInt ≤ 122)
def BY (gt : Nat → Int32) (td i : Int32) : Int32 := if i < td then gt i.toNatClampNeg else -1
def TK (a p t : Int32) : Prop := p.toInt ≤ a.toInt ∧ (¬ t = 0 → p.toInt < a.toInt)
set_option maxHeartbeats 4000000 in
set_option maxRecDepth 100000 in
theorem x_X12_isFigure {l : Launch} {G : GG}  {L : List Nat} {f : HF}  {i1 : Int32}  : PMp l yX12_isFigure cX12_isFigure 1 .boolean 0 0 0 G [.int i1] L f (fun r => (bn 0 1 r ∧ (¬ r = 0 → bn 48 57 i1 ∧ FG i1) ∧ (r = 0 → ¬ FG i1))) := by
  refine PMi.of (post := fun r L1 f1 => ((bn 0 1 r ∧ (¬ r = 0 → bn 48 57 i1 ∧ FG i1) ∧ (r = 0 → ¬ FG i1))) ∧ L1 = L ∧ f1 = f) (own := RX12) (by decide) rfl (Nat.le_of_ble_eq_true rfl) (fun sz p e s m args below meth c A ls hA1 hname S Y hl => ?_)
  have hx := S.hx
  have hb := S.hb
  have hl : lv_has ls 1 [(0, .int i1)] := hl
  refine lv_iload_n hx hb dX12_isFigure_0 rfl (lv_at hl 0 rfl) ?_
  refine lv_bipush (v := 48) hx hb dX12_isFigure_1 (by decide) ?_
  refine lv_icmp_lt (tgt := 16) hx hb dX12_isFigure_3 (by decide) (fun c_83945 => ?_) (fun c_83945 => ?_)
  · have B_83946 : bn (-2147483648) 47 i1 := bn_w (bn_ltl c_83945 (bn_any i1) (show bn 48 48 (48 : Int32) from bn_k (by decide))) (by decide)
    refine lv_iconst (v := 0) hx hb dX12_isFigure_16 (by decide) ?_
    exact prI (post := fun r L1 f1 => ((bn 0 1 r ∧ (¬ r = 0 → bn 48 57 i1 ∧ FG i1) ∧ (r = 0 → ¬ FG i1))) ∧ L1 = L ∧ f1 = f) S Y rfl (by decide) (by decide) hA1 ⟨⟨bn_k (by decide), fun h => absurd rfl h, fun _ hb => by have q0 := c_83945; rw [Int32.lt_iff_toInt_lt] at q0; rw [show (48 : Int32).toInt = 48 from rfl] at q0; unfold FG at hb; (try unfold bn at hb); omega⟩, rfl, rfl⟩ dX12_isFigure_17
  · have B_83947 : bn 48 2147483647 i1 := bn_w (bn_gel c_83945 (bn_any i1) (show bn 48 48 (48 : Int32) from bn_k (by decide))) (by decide)
    refine lv_iload_n hx hb dX12_isFigure_6 rfl (lv_at hl 0 rfl) ?_
    refine lv_bipush (v := 57) hx hb dX12_isFigure_7 (by decide) ?_
    refine lv_icmp_gt (tgt := 16) hx hb dX12_isFigure_9 (by decide) (fun c_83948 => ?_) (fun c_83948 => ?_)
    · have B_83949 : bn 58 2147483647 i1 := bn_w (bn_ltr c_83948 (show bn 57 57 (57 : Int32) from bn_k (by decide)) B_83947) (by decide)
      refine lv_iconst (v := 0) hx hb dX12_isFigure_16 (by decide) ?_
      exact prI (post := fun r L1 f1 => ((bn 0 1 r ∧ (¬ r = 0 → bn 48 57 i1 ∧ FG i1) ∧ (r = 0 → ¬ FG i1))) ∧ L1 = L ∧ f1 = f) S Y rfl (by decide) (by decide) hA1 ⟨⟨bn_k (by decide), fun h => absurd rfl h, fun _ hb => by have q0 := (Int32.not_lt.mp c_83945); rw [Int32.le_iff_toInt_le] at q0; rw [show (48 : Int32).toInt = 48 from rfl] at q0; have q1 := c_83948; rw [Int32.lt_iff_toInt_lt] at q1; rw [show (57 : Int32).toInt = 57 from rfl] at q1; unfold FG at hb; (try unfold bn at hb); omega⟩, rfl, rfl⟩ dX12_isFigure_17
    · have B_83950 : bn 48 57 i1 := bn_w (bn_ger c_83948 (show bn 57 57 (57 : Int32) from bn_k (by decide)) B_83947) (by decide)
      refine lv_iconst (v := 1) hx hb dX12_isFigure_12 (by decide) ?_
      refine lv_goto (tgt := 17) hx hb dX12_isFigure_13 (by decide) ?_
      exact prI (post := fun r L1 f1 => ((bn 0 1 r ∧ (¬ r = 0 → bn 48 57 i1 ∧ FG i1) ∧ (r = 0 → ¬ FG i1))) ∧ L1 = L ∧ f1 = f) S Y rfl (by decide) (by decide) hA1 ⟨⟨bn_k (by decide), fun _ => ⟨bn_w B_83950 (by decide), by have q0 := (Int32.not_lt.mp c_83945); rw [Int32.le_iff_toInt_le] at q0; rw [show (48 : Int32).toInt = 48 from rfl] at q0; have q1 := (Int32.not_lt.mp c_83948); rw [Int32.le_iff_toInt_le] at q1; rw [show (57 : Int32).toInt = 57 from rfl] at q1; unfold FG; (try unfold bn); omega⟩, fun e => absurd e (by decide)⟩, rfl, rfl⟩ dX12_isFigure_17
set_option maxHeartbeats 4000000 in
set_option maxRecDepth 100000 in
theorem x_X12_isLetterByte {l : Launch} {G : GG}  {L : List Nat} {f : HF}  {i1 : Int32}  : PMp l yX12_isLetterByte cX12_isLetterByte 1 .boolean 0 0 0 G [.int i1] L f (fun r => (bn 0 1 r ∧ (¬ r = 0 → bn 65 122 i1 ∧ LT9 i1) ∧ (r = 0 → ¬ LT9 i1))) := by
  refine PMi.of (post := fun r L1 f1 => ((bn 0 1 r ∧ (¬ r = 0 → bn 65 122 i1 ∧ LT9 i1) ∧ (r = 0 → ¬ LT9 i1))) ∧ L1 = L ∧ f1 = f) (own := RX12) (by decide) rfl (Nat.le_of_ble_eq_true rfl) (fun sz p e s m args below meth c A ls hA1 hname S Y hl => ?_)
  have hx := S.hx
  have hb := S.hb
  have hl : lv_has ls 1 [(0, .int i1)] := hl
  refine lv_iload_n hx hb dX12_isLetterByte_0 rfl (lv_at hl 0 rfl) ?_
  refine lv_bipush (v := 97) hx hb dX12_isLetterByte_1 (by decide) ?_
  refine lv_icmp_lt (tgt := 12) hx hb dX12_isLetterByte_3 (by decide) (fun c_83975 => ?_) (fun c_83975 => ?_)
  · have B_83976 : bn (-2147483648) 96 i1 := bn_w (bn_ltl c_83975 (bn_any i1) (show bn 97 97 (97 : Int32) from bn_k (by decide))) (by decide)
    refine lv_iload_n hx hb dX12_isLetterByte_12 rfl (lv_at hl 0 rfl) ?_
    refine lv_bipush (v := 65) hx hb dX12_isLetterByte_13 (by decide) ?_
    refine lv_icmp_lt (tgt := 28) hx hb dX12_isLetterByte_15 (by decide) (fun c_83978 => ?_) (fun c_83978 => ?_)
    · have B_83979 : bn (-2147483648) 64 i1 := bn_w (bn_ltl c_83978 B_83976 (show bn 65 65 (65 : Int32) from bn_k (by decide))) (by decide)
      refine lv_iconst (v := 0) hx hb dX12_isLetterByte_28 (by decide) ?_
      exact prI (post := fun r L1 f1 => ((bn 0 1 r ∧ (¬ r = 0 → bn 65 122 i1 ∧ LT9 i1) ∧ (r = 0 → ¬ LT9 i1))) ∧ L1 = L ∧ f1 = f) S Y rfl (by decide) (by decide) hA1 ⟨⟨bn_k (by decide), fun h => absurd rfl h, fun _ hb => by have q0 := c_83975; rw [Int32.lt_iff_toInt_lt] at q0; rw [show (97 : Int32).toInt = 97 from rfl] at q0; have q1 := c_83978; rw [Int32.lt_iff_toInt_lt] at q1; rw [show (65 : Int32).toInt = 65 from rfl] at q1; unfold LT9 at hb; (try unfold bn at hb); omega⟩, rfl, rfl⟩ dX12_isLetterByte_29
    · have B_83980 : bn 65 96 i1 := bn_w (bn_gel c_83978 B_83976 (show bn 65 65 (65 : Int32) from bn_k (by decide))) (by decide)
      refine lv_iload_n hx hb dX12_isLetterByte_18 rfl (lv_at hl 0 rfl) ?_
      refine lv_bipush (v := 90) hx hb dX12_isLetterByte_19 (by decide) ?_
      refine lv_icmp_gt (tgt := 28) hx hb dX12_isLetterByte_21 (by decide) (fun c_83981 => ?_) (fun c_83981 => ?_)
      · have B_83982 : bn 91 96 i1 := bn_w (bn_ltr c_83981 (show bn 90 90 (90 : Int32) from bn_k (by decide)) B_83980) (by decide)
        refine lv_iconst (v := 0) hx hb dX12_isLetterByte_28 (by decide) ?_
        exact prI (post := fun r L1 f1 => ((bn 0 1 r ∧ (¬ r = 0 → bn 65 122 i1 ∧ LT9 i1) ∧ (r = 0 → ¬ LT9 i1))) ∧ L1 = L ∧ f1 = f) S Y rfl (by decide) (by decide) hA1 ⟨⟨bn_k (by decide), fun h => absurd rfl h, fun _ hb => by have q0 := c_83975; rw [Int32.lt_iff_toInt_lt] at q0; rw [show (97 : Int32).toInt = 97 from rfl] at q0; have q1 := (Int32.not_lt.mp c_83978); rw [Int32.le_iff_toInt_le] at q1; rw [show (65 : Int32).toInt = 65 from rfl] at q1; have q2 := c_83981; rw [Int32.lt_iff_toInt_lt] at q2; rw [show (90 : Int32).toInt = 90 from rfl] at q2; unfold LT9 at hb; (try unfold bn at hb); omega⟩, rfl, rfl⟩ dX12_isLetterByte_29
      · have B_83983 : bn 65 90 i1 := bn_w (bn_ger c_83981 (show bn 90 90 (90 : Int32) from bn_k (by decide)) B_83980) (by decide)
        refine lv_iconst (v := 1) hx hb dX12_isLetterByte_24 (by decide) ?_
        refine lv_goto (tgt := 29) hx hb dX12_isLetterByte_25 (by decide) ?_
        exact prI (post := fun r L1 f1 => ((bn 0 1 r ∧ (¬ r = 0 → bn 65 122 i1 ∧ LT9 i1) ∧ (r = 0 → ¬ LT9 i1))) ∧ L1 = L ∧ f1 = f) S Y rfl (by decide) (by decide) hA1 ⟨⟨bn_k (by decide), fun _ => ⟨bn_w B_83983 (by decide), by have q0 := c_83975; rw [Int32.lt_iff_toInt_lt] at q0; rw [show (97 : Int32).toInt = 97 from rfl] at q0; have q1 := (Int32.not_lt.mp c_83978); rw [Int32.le_iff_toInt_le] at q1; rw [show (65 : Int32).toInt = 65 from rfl] at q1; have q2 := (Int32.not_lt.mp c_83981); rw [Int32.le_iff_toInt_le] at q2; rw [show (90 : Int32).toInt = 90 from rfl] at q2; unfold LT9; (try unfold bn); omega⟩, fun e => absurd e (by decide)⟩, rfl, rfl⟩ dX12_isLetterByte_29
  · have B_83977 : bn 97 2147483647 i1 := bn_w (bn_gel c_83975 (bn_any i1) (show bn 97 97 (97 : Int32) from bn_k (by decide))) (by decide)
    refine lv_iload_n hx hb dX12_isLetterByte_6 rfl (lv_at hl 0 rfl) ?_
    refine lv_bipush (v := 122) hx hb dX12_isLetterByte_7 (by decide) ?_
    refine lv_icmp_le (tgt := 24) hx hb dX12_isLetterByte_9 (by decide) (fun c_83984 => ?_) (fun c_83984 => ?_)
    · have B_83985 : bn 97 122 i1 := bn_w (bn_lel c_83984 B_83977 (show bn 122 122 (122 : Int32) from bn_k (by decide))) (by decide)
      refine lv_iconst (v := 1) hx hb dX12_isLetterByte_24 (by decide) ?_
      refine lv_goto (tgt := 29) hx hb dX12_isLetterByte_25 (by decide) ?_
      exact prI (post := fun r L1 f1 => ((bn 0 1 r ∧ (¬ r = 0 → bn 65 122 i1 ∧ LT9 i1) ∧ (r = 0 → ¬ LT9 i1))) ∧ L1 = L ∧ f1 = f) S Y rfl (by decide) (by decide) hA1 ⟨⟨bn_k (by decide), fun _ => ⟨bn_w B_83985 (by decide), by have q0 := (Int32.not_lt.mp c_83975); rw [Int32.le_iff_toInt_le] at q0; rw [show (97 : Int32).toInt = 97 from rfl] at q0; have q1 := c_83984; rw [Int32.le_iff_toInt_le] at q1; rw [show (122 : Int32).toInt = 122 from rfl] at q1; unfold LT9; (try unfold bn); omega⟩, fun e => absurd e (by decide)⟩, rfl, rfl⟩ dX12_isLetterByte_29
    · have B_83986 : bn 123 2147483647 i1 := bn_w (bn_gtl c_83984 B_83977 (show bn 122 122 (122 : Int32) from bn_k (by decide))) (by decide)
      refine lv_iload_n hx hb dX12_isLetterByte_12 rfl (lv_at hl 0 rfl) ?_
      refine lv_bipush (v := 65) hx hb dX12_isLetterByte_13 (by decide) ?_
      refine lv_icmp_lt (tgt := 28) hx hb dX12_isLetterByte_15 (by decide) (fun h => absurd h (bd_nlt B_83986 (show bn 65 65 (65 : Int32) from bn_k (by decide)) (by decide))) (fun _ => ?_)
      refine lv_iload_n hx hb dX12_isLetterByte_18 rfl (lv_at hl 0 rfl) ?_
      refine lv_bipush (v := 90) hx hb dX12_isLetterByte_19 (by decide) ?_
      refine lv_icmp_gt (tgt := 28) hx hb dX12_isLetterByte_21 (by decide) (fun _ => ?_) (fun h => absurd (bd_lt (show bn 90 90 (90 : Int32) from bn_k (by decide)) B_83986 (by decide)) h)
      refine lv_iconst (v := 0) hx hb dX12_isLetterByte_28 (by decide) ?_
      exact prI (post := fun r L1 f1 => ((bn 0 1 r ∧ (¬ r = 0 → bn 65 122 i1 ∧ LT9 i1) ∧ (r = 0 → ¬ LT9 i1))) ∧ L1 = L ∧ f1 = f) S Y rfl (by decide) (by decide) hA1 ⟨⟨bn_k (by decide), fun h => absurd rfl h, fun _ hb => by have q0 := (Int32.not_lt.mp c_83975); rw [Int32.le_iff_toInt_le] at q0; rw [show (97 : Int32).toInt = 97 from rfl] at q0; have q1 := (Int32.not_le.mp c_83984); rw [Int32.lt_iff_toInt_lt] at q1; rw [show (122 : Int32).toInt = 122 from rfl] at q1; unfold LT9 at hb; (try unfold bn at hb); omega⟩, rfl, rfl⟩ dX12_isLetterByte_29
set_option maxHeartbeats 4000000 in
set_option maxRecDepth 100000 in
theorem x_X12_byteAt {l : Launch} {G : GG}  {L : List Nat} {f : HF} {ad : Nat → Nat → Nat} {pa : (Nat → Int32) → Prop} {PA : (Nat → Int32) → Prop} {PI : PIT} {PX : (Nat → Int32) → Prop} {i1 : Int32} {td fa fp at9 ps9 tk nu t0 wr so pd op9 cg iw on9 is9 se : Int32} {wd : Int64} {gt : Nat → Int32} (I : SH (spM PA PI PX pa) nnM G ad L f) (p_ad_0_0 : pt L f (ad 0 0) (.inr (12, [.ref (ad 1 0), .ref (ad 2 0), .ref (ad 3 0), .ref (ad 4 0), .int td, .int fa, .int fp, .int at9, .int ps9, .int tk, .int nu, .long wd, .int t0, .int wr, .int so, .ref (ad 5 0), .ref (ad 6 0), .int pd, .int op9, .int cg, .int iw, .int on9, .ref (ad 7 0), .ref (ad 8 0), .ref (ad 9 0), .int is9, .ref (ad 10 0), .ref (ad 11 0), .ref (ad 12 0), .ref (ad 13 0), .int se, .ref (ad 14 0)]))) (p_ad_4_0 : pt L f (ad 4 0) (.inl (G.2 0, 300, .inl gt))) (b_i1 : bn 0 2147483647 i1) : PMp l yX12_byteAt cX12_byteAt 2 .int 0 0 0 G [.ref (ad 0 0), .int i1] L f (fun r => ((¬ r = -1 → bn 0 299 i1) ∧ r = BY gt td i1)) := by
  refine PMi.of (post := fun r L1 f1 => (((¬ r = -1 → bn 0 299 i1) ∧ r = BY gt td i1)) ∧ L1 = L ∧ f1 = f) (own := RX12) (by decide) rfl (Nat.le_of_ble_eq_true rfl) (fun sz p e s m args below meth c A ls hA1 hname S Y hl => ?_)
  have hx := S.hx
  have hb := S.hb
  have hl : lv_has ls 2 [(0, .ref (ad 0 0)), (1, .int i1)] := hl
  obtain ⟨bfe_4, bfe_5, bfe_6, bfe_7, bfe_8, bfe_12, bfe_13, bfe_17, bfe_18, bfe_19, bfe_20, bfe_25⟩ := obM I p_ad_0_0
  refine lv_iload_n hx hb dX12_byteAt_0 rfl (lv_at hl 1 rfl) ?_
  refine lv_aload_n hx hb dX12_byteAt_1 rfl (lv_at hl 0 rfl) ?_
  refine pg_get S Y ok_X12 4 (by decide) kf12_81 (v := .int td) p_ad_0_0 rfl dX12_byteAt_2 ?_
  refine lv_icmp_ge (tgt := 17) hx hb dX12_byteAt_5 (by decide) (fun c_83995 => ?_) (fun c_83995 => ?_)
  · refine lv_iconst (v := (-1)) hx hb dX12_byteAt_17 (by decide) ?_
    exact prI (post := fun r L1 f1 => (((¬ r = -1 → bn 0 299 i1) ∧ r = BY gt td i1)) ∧ L1 = L ∧ f1 = f) S Y rfl (by decide) (by decide) hA1 ⟨⟨fun h => absurd rfl h, by unfold BY; rw [if_neg (Int32.not_lt.mpr c_83995)]⟩, rfl, rfl⟩ dX12_byteAt_18
  · have B_83996 : bn 1 300 td := bn_w (bn_gtl c_83995 (bn_w (a' := 0) (b' := 300) bfe_4 (lim_b _ _ _)) b_i1) (by decide)
    have B_83997 : bn 0 299 i1 := bn_w (bn_gtr c_83995 (bn_w (a' := 0) (b' := 300) bfe_4 (lim_b _ _ _)) b_i1) (by decide)
    refine lv_aload_n hx hb dX12_byteAt_8 rfl (lv_at hl 0 rfl) ?_
    refine pg_get S Y ok_X12 3 (by decide) kf12_19 (v := .ref (ad 4 0)) p_ad_0_0 rfl dX12_byteAt_9 ?_
    refine lv_iload_n hx hb dX12_byteAt_12 rfl (lv_at hl 1 rfl) ?_
    obtain ⟨v_83998, ev_83998⟩ : ∃ z, z = gt (i1 : Int32).toNatClampNeg := ⟨_, rfl⟩
    refine pg_iald S Y (v := v_83998) p_ad_4_0 (vp_bn B_83997 (by decide)) ev_83998.symm dX12_byteAt_13 ?_
    refine lv_goto (tgt := 18) hx hb dX12_byteAt_14 (by decide) ?_
    exact prI (post := fun r L1 f1 => (((¬ r = -1 → bn 0 299 i1) ∧ r = BY gt td i1)) ∧ L1 = L ∧ f1 = f) S Y rfl (by decide) (by decide) hA1 ⟨⟨fun _ => bn_w B_83997 (by decide), by unfold BY; rw [if_pos (Int32.not_le.mp c_83995)]; exact ev_83998⟩, rfl, rfl⟩ dX12_byteAt_18
set_option maxHeartbeats 4000000 in
set_option maxRecDepth 100000 in
theorem x_X12_isSign {l : Launch} {G : GG}  {L : List Nat} {f : HF}  {i1 : Int32}  : PMp l yX12_isSign cX12_isSign 1 .boolean 0 0 0 G [.int i1] L f (fun r => (bn 0 1 r ∧ (r = 1 ∧ isSg i1.toInt ∨ r = 0 ∧ ¬ isSg i1.toInt))) := by
  refine PMi.of (post := fun r L1 f1 => ((bn 0 1 r ∧ (r = 1 ∧ isSg i1.toInt ∨ r = 0 ∧ ¬ isSg i1.toInt))) ∧ L1 = L ∧ f1 = f) (own := RX12) (by decide) rfl (Nat.le_of_ble_eq_true rfl) (fun sz p e s m args below meth c A ls hA1 hname S Y hl => ?_)
  have hx := S.hx
  have hb := S.hb
  have hl : lv_has ls 1 [(0, .int i1)] := hl
  refine lv_iload_n hx hb dX12_isSign_0 rfl (lv_at hl 0 rfl) ?_
  rcases swM_35_62 i1 with h_84001 | h_84001 | h_84001 | h_84001 | h_84001 | h_84001 | h_84001 | h_84001 | h_84001 | h_84001 | h_84001 | h_84001 | h_84001 | h_84001 | h_84001 | h_84001 | h_84001 | h_84001 | h_84001 | h_84001 | h_84001 | h_84001 | h_84001 | h_84001 | h_84001 | h_84001 | h_84001 | h_84001 | h_84001
  · refine lv_fold (z := 35) h_84001 ?_
    refine lv_tableIn (off := 127) (tgt := 128) hx hb dX12_isSign_1 (by decide) (by decide) (by decide) (by decide) ?_
    refine lv_iconst (v := 1) hx hb dX12_isSign_128 (by decide) ?_
    exact prI (post := fun r L1 f1 => ((bn 0 1 r ∧ (r = 1 ∧ isSg i1.toInt ∨ r = 0 ∧ ¬ isSg i1.toInt))) ∧ L1 = L ∧ f1 = f) S Y rfl (by decide) (by decide) hA1 ⟨⟨bn_k (by decide), Or.inl ⟨rfl, by rw [h_84001]; decide⟩⟩, rfl, rfl⟩ dX12_isSign_129
  · refine lv_fold (z := 36) h_84001 ?_
    refine lv_tableIn (off := 129) (tgt := 130) hx hb dX12_isSign_1 (by decide) (by decide) (by decide) (by decide) ?_
    refine lv_iconst (v := 0) hx hb dX12_isSign_130 (by decide) ?_
    exact prI (post := fun r L1 f1 => ((bn 0 1 r ∧ (r = 1 ∧ isSg i1.toInt ∨ r = 0 ∧ ¬ isSg i1.toInt))) ∧ L1 = L ∧ f1 = f) S Y rfl (by decide) (by decide) hA1 ⟨⟨bn_k (by decide), Or.inr ⟨rfl, by rw [h_84001]; decide⟩⟩, rfl, rfl⟩ dX12_isSign_131
  · refine lv_fold (z := 37) h_84001 ?_
    refine lv_tableIn (off := 129) (tgt := 130) hx hb dX12_isSign_1 (by decide) (by decide) (by decide) (by decide) ?_
    refine lv_iconst (v := 0) hx hb dX12_isSign_130 (by decide) ?_
    exact prI (post := fun r L1 f1 => ((bn 0 1 r ∧ (r = 1 ∧ isSg i1.toInt ∨ r = 0 ∧ ¬ isSg i1.toInt))) ∧ L1 = L ∧ f1 = f) S Y rfl (by decide) (by decide) hA1 ⟨⟨bn_k (by decide), Or.inr ⟨rfl, by rw [h_84001]; decide⟩⟩, rfl, rfl⟩ dX12_isSign_131
  · refine lv_fold (z := 38) h_84001 ?_
    refine lv_tableIn (off := 129) (tgt := 130) hx hb dX12_isSign_1 (by decide) (by decide) (by decide) (by decide) ?_
    refine lv_iconst (v := 0) hx hb dX12_isSign_130 (by decide) ?_
    exact prI (post := fun r L1 f1 => ((bn 0 1 r ∧ (r = 1 ∧ isSg i1.toInt ∨ r = 0 ∧ ¬ isSg i1.toInt))) ∧ L1 = L ∧ f1 = f) S Y rfl (by decide) (by decide) hA1 ⟨⟨bn_k (by decide), Or.inr ⟨rfl, by rw [h_84001]; decide⟩⟩, rfl, rfl⟩ dX12_isSign_131
  · refine lv_fold (z := 39) h_84001 ?_
    refine lv_tableIn (off := 129) (tgt := 130) hx hb dX12_isSign_1 (by decide) (by decide) (by decide) (by decide) ?_
    refine lv_iconst (v := 0) hx hb dX12_isSign_130 (by decide) ?_
    exact prI (post := fun r L1 f1 => ((bn 0 1 r ∧ (r = 1 ∧ isSg i1.toInt ∨ r = 0 ∧ ¬ isSg i1.toInt))) ∧ L1 = L ∧ f1 = f) S Y rfl (by decide) (by decide) hA1 ⟨⟨bn_k (by decide), Or.inr ⟨rfl, by rw [h_84001]; decide⟩⟩, rfl, rfl⟩ dX12_isSign_131
  · refine lv_fold (z := 40) h_84001 ?_
    refine lv_tableIn (off := 127) (tgt := 128) hx hb dX12_isSign_1 (by decide) (by decide) (by decide) (by decide) ?_
    refine lv_iconst (v := 1) hx hb dX12_isSign_128 (by decide) ?_
    exact prI (post := fun r L1 f1 => ((bn 0 1 r ∧ (r = 1 ∧ isSg i1.toInt ∨ r = 0 ∧ ¬ isSg i1.toInt))) ∧ L1 = L ∧ f1 = f) S Y rfl (by decide) (by decide) hA1 ⟨⟨bn_k (by decide), Or.inl ⟨rfl, by rw [h_84001]; decide⟩⟩, rfl, rfl⟩ dX12_isSign_129
  · refine lv_fold (z := 41) h_84001 ?_
    refine lv_tableIn (off := 127) (tgt := 128) hx hb dX12_isSign_1 (by decide) (by decide) (by decide) (by decide) ?_
    refine lv_iconst (v := 1) hx hb dX12_isSign_128 (by decide) ?_
    exact prI (post := fun r L1 f1 => ((bn 0 1 r ∧ (r = 1 ∧ isSg i1.toInt ∨ r = 0 ∧ ¬ isSg i1.toInt))) ∧ L1 = L ∧ f1 = f) S Y rfl (by decide) (by decide) hA1 ⟨⟨bn_k (by decide), Or.inl ⟨rfl, by rw [h_84001]; decide⟩⟩, rfl, rfl⟩ dX12_isSign_129
  · refine lv_fold (z := 42) h_84001 ?_
    refine lv_tableIn (off := 127) (tgt := 128) hx hb dX12_isSign_1 (by decide) (by decide) (by decide) (by decide) ?_
    refine lv_iconst (v := 1) hx hb dX12_isSign_128 (by decide) ?_
    exact prI (post := fun r L1 f1 => ((bn 0 1 r ∧ (r = 1 ∧ isSg i1.toInt ∨ r = 0 ∧ ¬ isSg i1.toInt))) ∧ L1 = L ∧ f1 = f) S Y rfl (by decide) (by decide) hA1 ⟨⟨bn_k (by decide), Or.inl ⟨rfl, by rw [h_84001]; decide⟩⟩, rfl, rfl⟩ dX12_isSign_129
  · refine lv_fold (z := 43) h_84001 ?_
    refine lv_tableIn (off := 127) (tgt := 128) hx hb dX12_isSign_1 (by decide) (by decide) (by decide) (by decide) ?_
    refine lv_iconst (v := 1) hx hb dX12_isSign_128 (by decide) ?_
    exact prI (post := fun r L1 f1 => ((bn 0 1 r ∧ (r = 1 ∧ isSg i1.toInt ∨ r = 0 ∧ ¬ isSg i1.toInt))) ∧ L1 = L ∧ f1 = f) S Y rfl (by decide) (by decide) hA1 ⟨⟨bn_k (by decide), Or.inl ⟨rfl, by rw [h_84001]; decide⟩⟩, rfl, rfl⟩ dX12_isSign_129
  · refine lv_fold (z := 44) h_84001 ?_
    refine lv_tableIn (off := 127) (tgt := 128) hx hb dX12_isSign_1 (by decide) (by decide) (by decide) (by decide) ?_
    refine lv_iconst (v := 1) hx hb dX12_isSign_128 (by decide) ?_
    exact prI (post := fun r L1 f1 => ((bn 0 1 r ∧ (r = 1 ∧ isSg i1.toInt ∨ r = 0 ∧ ¬ isSg i1.toInt))) ∧ L1 = L ∧ f1 = f) S Y rfl (by decide) (by decide) hA1 ⟨⟨bn_k (by decide), Or.inl ⟨rfl, by rw [h_84001]; decide⟩⟩, rfl, rfl⟩ dX12_isSign_129
  · refine lv_fold (z := 45) h_84001 ?_
    refine lv_tableIn (off := 127) (tgt := 128) hx hb dX12_isSign_1 (by decide) (by decide) (by decide) (by decide) ?_
    refine lv_iconst (v := 1) hx hb dX12_isSign_128 (by decide) ?_
    exact prI (post := fun r L1 f1 => ((bn 0 1 r ∧ (r = 1 ∧ isSg i1.toInt ∨ r = 0 ∧ ¬ isSg i1.toInt))) ∧ L1 = L ∧ f1 = f) S Y rfl (by decide) (by decide) hA1 ⟨⟨bn_k (by decide), Or.inl ⟨rfl, by rw [h_84001]; decide⟩⟩, rfl, rfl⟩ dX12_isSign_129
  · refine lv_fold (z := 46) h_84001 ?_
    refine lv_tableIn (off := 129) (tgt := 130) hx hb dX12_isSign_1 (by decide) (by decide) (by decide) (by decide) ?_
    refine lv_iconst (v := 0) hx hb dX12_isSign_130 (by decide) ?_
    exact prI (post := fun r L1 f1 => ((bn 0 1 r ∧ (r = 1 ∧ isSg i1.toInt ∨ r = 0 ∧ ¬ isSg i1.toInt))) ∧ L1 = L ∧ f1 = f) S Y rfl (by decide) (by decide) hA1 ⟨⟨bn_k (by decide), Or.inr ⟨rfl, by rw [h_84001]; decide⟩⟩, rfl, rfl⟩ dX12_isSign_131
  · refine lv_fold (z := 47) h_84001 ?_
    refine lv_tableIn (off := 127) (tgt := 128) hx hb dX12_isSign_1 (by decide) (by decide) (by decide) (by decide) ?_
    refine lv_iconst (v := 1) hx hb dX12_isSign_128 (by decide) ?_
    exact prI (post := fun r L1 f1 => ((bn 0 1 r ∧ (r = 1 ∧ isSg i1.toInt ∨ r = 0 ∧ ¬ isSg i1.toInt))) ∧ L1 = L ∧ f1 = f) S Y rfl (by decide) (by decide) hA1 ⟨⟨bn_k (by decide), Or.inl ⟨rfl, by rw [h_84001]; decide⟩⟩, rfl, rfl⟩ dX12_isSign_129
  · refine lv_fold (z := 48) h_84001 ?_
    refine lv_tableIn (off := 129) (tgt := 130) hx hb dX12_isSign_1 (by decide) (by decide) (by decide) (by decide) ?_
    refine lv_iconst (v := 0) hx hb dX12_isSign_130 (by decide) ?_
    exact prI (post := fun r L1 f1 => ((bn 0 1 r ∧ (r = 1 ∧ isSg i1.toInt ∨ r = 0 ∧ ¬ isSg i1.toInt))) ∧ L1 = L ∧ f1 = f) S Y rfl (by decide) (by decide) hA1 ⟨⟨bn_k (by decide), Or.inr ⟨rfl, by rw [h_84001]; decide⟩⟩, rfl, rfl⟩ dX12_isSign_131
  · refine lv_fold (z := 49) h_84001 ?_
    refine lv_tableIn (off := 129) (tgt := 130) hx hb dX12_isSign_1 (by decide) (by decide) (by decide) (by decide) ?_
    refine lv_iconst (v := 0) hx hb dX12_isSign_130 (by decide) ?_
    exact prI (post := fun r L1 f1 => ((bn 0 1 r ∧ (r = 1 ∧ isSg i1.toInt ∨ r = 0 ∧ ¬ isSg i1.toInt))) ∧ L1 = L ∧ f1 = f) S Y rfl (by decide) (by decide) hA1 ⟨⟨bn_k (by decide), Or.inr ⟨rfl, by rw [h_84001]; decide⟩⟩, rfl, rfl⟩ dX12_isSign_131
  · refine lv_fold (z := 50) h_84001 ?_
    refine lv_tableIn (off := 129) (tgt := 130) hx hb dX12_isSign_1 (by decide) (by decide) (by decide) (by decide) ?_
    refine lv_iconst (v := 0) hx hb dX12_isSign_130 (by decide) ?_
    exact prI (post := fun r L1 f1 => ((bn 0 1 r ∧ (r = 1 ∧ isSg i1.toInt ∨ r = 0 ∧ ¬ isSg i1.toInt))) ∧ L1 = L ∧ f1 = f) S Y rfl (by decide) (by decide) hA1 ⟨⟨bn_k (by decide), Or.inr ⟨rfl, by rw [h_84001]; decide⟩⟩, rfl, rfl⟩ dX12_isSign_131
  · refine lv_fold (z := 51) h_84001 ?_
    refine lv_tableIn (off := 129) (tgt := 130) hx hb dX12_isSign_1 (by decide) (by decide) (by decide) (by decide) ?_
    refine lv_iconst (v := 0) hx hb dX12_isSign_130 (by decide) ?_
    exact prI (post := fun r L1 f1 => ((bn 0 1 r ∧ (r = 1 ∧ isSg i1.toInt ∨ r = 0 ∧ ¬ isSg i1.toInt))) ∧ L1 = L ∧ f1 = f) S Y rfl (by decide) (by decide) hA1 ⟨⟨bn_k (by decide), Or.inr ⟨rfl, by rw [h_84001]; decide⟩⟩, rfl, rfl⟩ dX12_isSign_131
  · refine lv_fold (z := 52) h_84001 ?_
    refine lv_tableIn (off := 129) (tgt := 130) hx hb dX12_isSign_1 (by decide) (by decide) (by decide) (by decide) ?_
    refine lv_iconst (v := 0) hx hb dX12_isSign_130 (by decide) ?_
    exact prI (post := fun r L1 f1 => ((bn 0 1 r ∧ (r = 1 ∧ isSg i1.toInt ∨ r = 0 ∧ ¬ isSg i1.toInt))) ∧ L1 = L ∧ f1 = f) S Y rfl (by decide) (by decide) hA1 ⟨⟨bn_k (by decide), Or.inr ⟨rfl, by rw [h_84001]; decide⟩⟩, rfl, rfl⟩ dX12_isSign_131
  · refine lv_fold (z := 53) h_84001 ?_
    refine lv_tableIn (off := 129) (tgt := 130) hx hb dX12_isSign_1 (by decide) (by decide) (by decide) (by decide) ?_
    refine lv_iconst (v := 0) hx hb dX12_isSign_130 (by decide) ?_
    exact prI (post := fun r L1 f1 => ((bn 0 1 r ∧ (r = 1 ∧ isSg i1.toInt ∨ r = 0 ∧ ¬ isSg i1.toInt))) ∧ L1 = L ∧ f1 = f) S Y rfl (by decide) (by decide) hA1 ⟨⟨bn_k (by decide), Or.inr ⟨rfl, by rw [h_84001]; decide⟩⟩, rfl, rfl⟩ dX12_isSign_131
  · refine lv_fold (z := 54) h_84001 ?_
    refine lv_tableIn (off := 129) (tgt := 130) hx hb dX12_isSign_1 (by decide) (by decide) (by decide) (by decide) ?_
    refine lv_iconst (v := 0) hx hb dX12_isSign_130 (by decide) ?_
    exact prI (post := fun r L1 f1 => ((bn 0 1 r ∧ (r = 1 ∧ isSg i1.toInt ∨ r = 0 ∧ ¬ isSg i1.toInt))) ∧ L1 = L ∧ f1 = f) S Y rfl (by decide) (by decide) hA1 ⟨⟨bn_k (by decide), Or.inr ⟨rfl, by rw [h_84001]; decide⟩⟩, rfl, rfl⟩ dX12_isSign_131
  · refine lv_fold (z := 55) h_84001 ?_
    refine lv_tableIn (off := 129) (tgt := 130) hx hb dX12_isSign_1 (by decide) (by decide) (by decide) (by decide) ?_
    refine lv_iconst (v := 0) hx hb dX12_isSign_130 (by decide) ?_
    exact prI (post := fun r L1 f1 => ((bn 0 1 r ∧ (r = 1 ∧ isSg i1.toInt ∨ r = 0 ∧ ¬ isSg i1.toInt))) ∧ L1 = L ∧ f1 = f) S Y rfl (by decide) (by decide) hA1 ⟨⟨bn_k (by decide), Or.inr ⟨rfl, by rw [h_84001]; decide⟩⟩, rfl, rfl⟩ dX12_isSign_131
  · refine lv_fold (z := 56) h_84001 ?_
    refine lv_tableIn (off := 129) (tgt := 130) hx hb dX12_isSign_1 (by decide) (by decide) (by decide) (by decide) ?_
    refine lv_iconst (v := 0) hx hb dX12_isSign_130 (by decide) ?_
    exact prI (post := fun r L1 f1 => ((bn 0 1 r ∧ (r = 1 ∧ isSg i1.toInt ∨ r = 0 ∧ ¬ isSg i1.toInt))) ∧ L1 = L ∧ f1 = f) S Y rfl (by decide) (by decide) hA1 ⟨⟨bn_k (by decide), Or.inr ⟨rfl, by rw [h_84001]; decide⟩⟩, rfl, rfl⟩ dX12_isSign_131
  · refine lv_fold (z := 57) h_84001 ?_
    refine lv_tableIn (off := 129) (tgt := 130) hx hb dX12_isSign_1 (by decide) (by decide) (by decide) (by decide) ?_
    refine lv_iconst (v := 0) hx hb dX12_isSign_130 (by decide) ?_
    exact prI (post := fun r L1 f1 => ((bn 0 1 r ∧ (r = 1 ∧ isSg i1.toInt ∨ r = 0 ∧ ¬ isSg i1.toInt))) ∧ L1 = L ∧ f1 = f) S Y rfl (by decide) (by decide) hA1 ⟨⟨bn_k (by decide), Or.inr ⟨rfl, by rw [h_84001]; decide⟩⟩, rfl, rfl⟩ dX12_isSign_131
  · refine lv_fold (z := 58) h_84001 ?_
    refine lv_tableIn (off := 129) (tgt := 130) hx hb dX12_isSign_1 (by decide) (by decide) (by decide) (by decide) ?_
    refine lv_iconst (v := 0) hx hb dX12_isSign_130 (by decide) ?_
    exact prI (post := fun r L1 f1 => ((bn 0 1 r ∧ (r = 1 ∧ isSg i1.toInt ∨ r = 0 ∧ ¬ isSg i1.toInt))) ∧ L1 = L ∧ f1 = f) S Y rfl (by decide) (by decide) hA1 ⟨⟨bn_k (by decide), Or.inr ⟨rfl, by rw [h_84001]; decide⟩⟩, rfl, rfl⟩ dX12_isSign_131
  · refine lv_fold (z := 59) h_84001 ?_
    refine lv_tableIn (off := 127) (tgt := 128) hx hb dX12_isSign_1 (by decide) (by decide) (by decide) (by decide) ?_
    refine lv_iconst (v := 1) hx hb dX12_isSign_128 (by decide) ?_
    exact prI (post := fun r L1 f1 => ((bn 0 1 r ∧ (r = 1 ∧ isSg i1.toInt ∨ r = 0 ∧ ¬ isSg i1.toInt))) ∧ L1 = L ∧ f1 = f) S Y rfl (by decide) (by decide) hA1 ⟨⟨bn_k (by decide), Or.inl ⟨rfl, by rw [h_84001]; decide⟩⟩, rfl, rfl⟩ dX12_isSign_129
  · refine lv_fold (z := 60) h_84001 ?_
    refine lv_tableIn (off := 127) (tgt := 128) hx hb dX12_isSign_1 (by decide) (by decide) (by decide) (by decide) ?_
    refine lv_iconst (v := 1) hx hb dX12_isSign_128 (by decide) ?_
    exact prI (post := fun r L1 f1 => ((bn 0 1 r ∧ (r = 1 ∧ isSg i1.toInt ∨ r = 0 ∧ ¬ isSg i1.toInt))) ∧ L1 = L ∧ f1 = f) S Y rfl (by decide) (by decide) hA1 ⟨⟨bn_k (by decide), Or.inl ⟨rfl, by rw [h_84001]; decide⟩⟩, rfl, rfl⟩ dX12_isSign_129
  · refine lv_fold (z := 61) h_84001 ?_
    refine lv_tableIn (off := 127) (tgt := 128) hx hb dX12_isSign_1 (by decide) (by decide) (by decide) (by decide) ?_
    refine lv_iconst (v := 1) hx hb dX12_isSign_128 (by decide) ?_
    exact prI (post := fun r L1 f1 => ((bn 0 1 r ∧ (r = 1 ∧ isSg i1.toInt ∨ r = 0 ∧ ¬ isSg i1.toInt))) ∧ L1 = L ∧ f1 = f) S Y rfl (by decide) (by decide) hA1 ⟨⟨bn_k (by decide), Or.inl ⟨rfl, by rw [h_84001]; decide⟩⟩, rfl, rfl⟩ dX12_isSign_129
  · refine lv_fold (z := 62) h_84001 ?_
    refine lv_tableIn (off := 127) (tgt := 128) hx hb dX12_isSign_1 (by decide) (by decide) (by decide) (by decide) ?_
    refine lv_iconst (v := 1) hx hb dX12_isSign_128 (by decide) ?_
    exact prI (post := fun r L1 f1 => ((bn 0 1 r ∧ (r = 1 ∧ isSg i1.toInt ∨ r = 0 ∧ ¬ isSg i1.toInt))) ∧ L1 = L ∧ f1 = f) S Y rfl (by decide) (by decide) hA1 ⟨⟨bn_k (by decide), Or.inl ⟨rfl, by rw [h_84001]; decide⟩⟩, rfl, rfl⟩ dX12_isSign_129
  · refine lv_tableOut (tgt := 130) hx hb dX12_isSign_1 h_84001 (by decide) ?_
    refine lv_iconst (v := 0) hx hb dX12_isSign_130 (by decide) ?_
    exact prI (post := fun r L1 f1 => ((bn 0 1 r ∧ (r = 1 ∧ isSg i1.toInt ∨ r = 0 ∧ ¬ isSg i1.toInt))) ∧ L1 = L ∧ f1 = f) S Y rfl (by decide) (by decide) hA1 ⟨⟨bn_k (by decide), Or.inr ⟨rfl, by have s1 := h_84001; unfold isSg; omega⟩⟩, rfl, rfl⟩ dX12_isSign_131
section NTX
variable {gt : Nat → Int32} {td i r a p nu at9 ps9 tk : Int32} {wd : Int64} {n q : Nat} {B : Nat → Int}
theorem BY_in (e : r = BY gt td i) (hi : 0 ≤ i.toInt) (h : i.toInt < td.toInt) : r.toInt = bI gt i.toInt.toNat := by
  rw [e]; unfold BY; rw [if_pos (Int32.lt_iff_toInt_lt.mpr h)]; rfl
theorem BY_out (e : r = BY gt td i) (h : ¬ i.toInt < td.toInt) : r = -1 := by
  rw [e]; unfold BY; rw [if_neg (fun z => h (Int32.lt_iff_toInt_lt.mp z))]
/-- a byte that isn't -1 is one of the tape -/
theorem BY_lt (e : r = BY gt td i) (h : ¬ r = -1) : i.toInt < td.toInt := by
  apply Int.not_le.mp
  intro z
  exact h (BY_out e (by omega))
theorem BY_neg (hB : BYT gt) (e : r = BY gt td i) (hi : 0 ≤ i.toInt) (h : r.toInt < 0) : ¬ i.toInt < td.toInt := by
  intro z
  have k := BY_in e hi z
  have k2 := (hB i.toInt.toNat).1
  have k : r.toInt = (gt i.toInt.toNat).toInt := k
  omega
theorem NT_e (hp : p.toInt = (skB B n n q : Int)) (ha : a = p) (hn : n ≤ skB B n n q) (ht : tk = 0) : NT9 B n q a p tk nu wd := by
  unfold NT9
  rw [tk0_e hn]
  exact ⟨hp, by rw [ha]; exact hp, Or.inl ⟨ht, rfl⟩⟩
theorem NT_l (hp : p.toInt = (skB B n n q : Int)) (hn : skB B n n q < n) (hl : isLt (B (skB B n n q))) (ha : a.toInt = (ltE B n n (skB B n n q) : Int)) (ht : tk = 2) (hd : dgs (sl B (skB B n n q) (ltE B n n (skB B n n q))).reverse) (hw : wd.toInt = pkR (sl B (skB B n n q) (ltE B n n (skB B n n q))).reverse) : NT9 B n q a p tk nu wd := by
  unfold NT9
  rw [tk0_l hn hl]
  exact ⟨hp, ha, Or.inr (Or.inr (Or.inl ⟨ht, rfl, hd, hw⟩))⟩
theorem NT_d (hp : p.toInt = (skB B n n q : Int)) (hn : skB B n n q < n) (hl : ¬ isLt (B (skB B n n q))) (hd : isDg (B (skB B n n q))) (ha : a.toInt = ((dgE B n n (skB B n n q) 0).1 : Int)) (ht : tk = 1) (h0 : 0 ≤ nu.toInt) (hv : (dgE B n n (skB B n n q) 0).2 = min 10000 nu.toInt) : NT9 B n q a p tk nu wd := by
  unfold NT9
  rw [tk0_d hn hl hd]
  exact ⟨hp, ha, Or.inr (Or.inl ⟨ht, rfl, h0, hv⟩)⟩
theorem NT_g (hp : p.toInt = (skB B n n q : Int)) (hn : skB B n n q < n) (hl : ¬ isLt (B (skB B n n q))) (hd : ¬ isDg (B (skB B n n q))) (ha : a.toInt = ((sgT B n (skB B n n q)).2 : Int)) (hk : (tk = 4 ∧ (sgT B n (skB B n n q)).1 = 316) ∨ (tk = 5 ∧ (sgT B n (skB B n n q)).1 = 318) ∨ (tk = 3 ∧ (sgT B n (skB B n n q)).1 = 1001) ∨ (isSg tk.toInt ∧ (sgT B n (skB B n n q)).1 = tk.toInt)) : NT9 B n q a p tk nu wd := by
  unfold NT9
  rw [tk0_s hn hl hd]
  exact ⟨hp, ha, Or.inr (Or.inr (Or.inr hk))⟩
/-- the skipping: where it stands -/
def SKI (B : Nat → Int) (n q : Nat) (y : Int32) : Prop := (q : Int) ≤ y.toInt ∧ skB B n n q = skB B n n y.toInt.toNat
theorem SK_0 {y : Int32} (e : y.toInt = (q : Int)) : SKI B n q y := ⟨by omega, by rw [show y.toInt.toNat = q by omega]⟩
theorem SK_s {y x : Int32} (h : SKI B n q y) (hl : y.toInt < (n : Int)) (hb : B y.toInt.toNat = 32 ∨ B y.toInt.toNat = 10) (ex : x.toInt = y.toInt + 1) : SKI B n q x := by
  obtain ⟨h1, h2⟩ := h
  refine ⟨by omega, ?_⟩
  rw [h2, skB_s ⟨by omega, hb⟩, show x.toInt.toNat = y.toInt.toNat + 1 by omega]
theorem SK_e {y : Int32} (h : SKI B n q y) (hn : ¬ (y.toInt < (n : Int) ∧ (B y.toInt.toNat = 32 ∨ B y.toInt.toNat = 10))) : skB B n n q = y.toInt.toNat := by
  rw [h.2]
  exact skB_no (fun z => hn ⟨by have := h.1; omega, z.2⟩)
/-- the letters: where they stand, their number -/
def LTI (B : Nat → Int) (n p : Nat) (y : Int32) (wd : Int64) : Prop := (p : Int) ≤ y.toInt ∧ y.toInt ≤ (n : Int) ∧ ltE B n n p = ltE B n n y.toInt.toNat ∧ dgs (sl B p y.toInt.toNat).reverse ∧ wd.toInt = pkR (sl B p y.toInt.toNat).reverse
theorem sl_0 : sl B q q = [] := by unfold sl; rw [Nat.sub_self]; rfl
theorem sl_s {z : Nat} (h : q ≤ z) : (sl B q (z + 1)).reverse = B z :: (sl B q z).reverse := by
  unfold sl
  rw [show z + 1 - q = (z - q) + 1 by omega, List.range_succ, List.map_append, List.reverse_append]
  show [B (q + (z - q))].reverse ++ _ = _
  rw [show q + (z - q) = z by omega]; rfl
theorem LT_0 {y : Int32} (e : y.toInt = (q : Int)) (hl : q ≤ n) : LTI B n q y 0 := by
  have e2 : y.toInt.toNat = q := by omega
  refine ⟨by omega, by omega, by rw [e2], ?_, ?_⟩
  · rw [e2, sl_0]; intro x hx; exact absurd hx (by simp)
  · rw [e2, sl_0]; rfl
theorem LT_s {y x c : Int32} {w2 : Int64} (h : LTI B n q y wd) (hl : y.toInt < (n : Int)) (hb : isLt (B y.toInt.toNat)) (ex : x.toInt = y.toInt + 1) (hw : w2.toInt = if 281474976710656 ≤ wd.toInt then 1152921504606846976 else wd.toInt * 256 + B y.toInt.toNat) : LTI B n q x w2 := by
  obtain ⟨h1, h2, h3, h4, h5⟩ := h
  have e2 : x.toInt.toNat = y.toInt.toNat + 1 := by omega
  have e3 := sl_s (B := B) (q := q) (z := y.toInt.toNat) (by omega)
  refine ⟨by omega, by omega, ?_, ?_, ?_⟩
  · rw [h3, ltE_s ⟨by omega, hb⟩, e2]
  · rw [e2, e3]
    intro z hz
    rcases List.mem_cons.mp hz with r | r
    · rw [r]; unfold isLt at hb; omega
    · exact h4 z r
  · rw [e2, e3, hw, h5]
    rfl
theorem LT_e {y : Int32} (h : LTI B n q y wd) (hn : ¬ (y.toInt < (n : Int) ∧ isLt (B y.toInt.toNat))) : (ltE B n n q : Int) = y.toInt ∧ dgs (sl B q (ltE B n n q)).reverse ∧ wd.toInt = pkR (sl B q (ltE B n n q)).reverse := by
  obtain ⟨h1, h2, h3, h4, h5⟩ := h
  have e : ltE B n n q = y.toInt.toNat := by rw [h3]; exact ltE_no (fun z => hn ⟨by omega, z.2⟩)
  rw [e]; exact ⟨by omega, h4, h5⟩
/-- the figures -/
def DGI (B : Nat → Int) (n p : Nat) (y nu : Int32) : Prop := (p : Int) ≤ y.toInt ∧ y.toInt ≤ (n : Int) ∧ dgE B n n p 0 = dgE B n n y.toInt.toNat (min 10000 nu.toInt) ∧ 0 ≤ nu.toInt
theorem DG_0 {y : Int32} (e : y.toInt = (q : Int)) (hl : q ≤ n) : DGI B n q y 0 := ⟨by omega, by omega, by rw [show y.toInt.toNat = q by omega]; rfl, by decide⟩
theorem DG_s {y x nu2 : Int32} (h : DGI B n q y nu) (hl : y.toInt < (n : Int)) (hb : isDg (B y.toInt.toNat)) (ex : x.toInt = y.toInt + 1) (hv : (99999 < nu.toInt ∧ nu2 = nu) ∨ (nu.toInt ≤ 99999 ∧ nu2.toInt = 10 * nu.toInt + B y.toInt.toNat - 48)) : DGI B n q x nu2 := by
  obtain ⟨h1, h2, h3, h4⟩ := h
  have e2 : x.toInt.toNat = y.toInt.toNat + 1 := by omega
  refine ⟨by omega, by omega, ?_, ?_⟩
  · rw [h3, dgE_s ⟨by omega, hb⟩, e2]
    congr 1
    rcases hv with ⟨v1, rfl⟩ | ⟨v1, v2⟩
    · omega
    · omega
  · rcases hv with ⟨v1, rfl⟩ | ⟨v1, v2⟩
    · exact h4
    · omega
theorem DG_e {y : Int32} (h : DGI B n q y nu) (hn : ¬ (y.toInt < (n : Int) ∧ isDg (B y.toInt.toNat))) : y.toInt = ((dgE B n n q 0).1 : Int) ∧ (dgE B n n q 0).2 = min 10000 nu.toInt := by
  obtain ⟨h1, h2, h3, h4⟩ := h
  rw [h3, dgE_no (fun z => hn ⟨by omega, z.2⟩)]
  exact ⟨by show y.toInt = ((y.toInt.toNat : Nat) : Int); omega, rfl⟩
end NTX
theorem ge_nm9 {r : Int32} (h : bn 0 2147483647 r) : ¬ r = -1 := by
  intro e
  have h1 := h.1
  rw [e] at h1
  exact absurd h1 (by decide)
theorem FG_dg {r : Int32} (h : FG r) : isDg r.toInt := ⟨h.1, h.2⟩
theorem dg_FG {r : Int32} (h : isDg r.toInt) : FG r := ⟨h.1, h.2⟩
theorem L9_lt {r : Int32} (h : LT9 r) : isLt r.toInt := by unfold LT9 at h; unfold isLt; omega
theorem lt_L9 {r : Int32} (h : isLt r.toInt) : LT9 r := by unfold isLt at h; unfold LT9; omega
theorem fg_no {b : Int32} {gt : Nat → Int32} {td y : Int32} {P : Int32 → Prop} {Q : Int → Prop} (hq : ∀ x : Int32, Q x.toInt → P x) (e : b = BY gt td y) (h0 : 0 ≤ y.toInt) (hn : ¬ P b) : ¬ (y.toInt < td.toInt ∧ Q (bI gt y.toInt.toNat)) := by
  rintro ⟨z1, z2⟩
  rw [← BY_in e h0 z1] at z2
  exact hn (hq b z2)
theorem fg_no0 {td y : Int32} {p : Prop} (h : ¬ y.toInt < td.toInt) : ¬ (y.toInt < td.toInt ∧ p) := fun z => h z.1
theorem lc_z {v : Int32} {a : Int64} (e : v = lg_cmp a 0) (h : v = 0) : a = 0 := by
  rw [h] at e
  unfold lg_cmp at e
  split at e
  · exact absurd e (by decide)
  · next q =>
    split at e
    · next q2 => exact q2
    · exact absurd e (by decide)
section SGM
variable {gt : Nat → Int32} {td r0 r1 x : Int32} {p : Nat}
theorem sg_yM (h0 : r0.toInt = bI gt p) (hs : r0 = 60 ∨ r0 = 62) (e1 : r1 = BY gt td x) (hx : x.toInt = (p : Int) + 1) (h1 : r1 = 61) : sgT (bI gt) td.toInt.toNat p = (bI gt p + 256, p + 2) := by
  have hlt := BY_lt e1 (by rw [h1]; decide)
  have e2 := BY_in e1 (by omega) hlt
  rw [h1, show x.toInt.toNat = p + 1 by omega] at e2
  have e2 : (61 : Int) = bI gt (p + 1) := e2
  have e3 : bI gt p = 60 ∨ bI gt p = 62 := by
    rcases hs with h | h
    · rw [h] at h0; exact Or.inl h0.symm
    · rw [h] at h0; exact Or.inr h0.symm
  unfold sgT
  rw [if_pos ⟨e3, by omega, e2.symm⟩]
theorem sg_n2M (e1 : r1 = BY gt td x) (hx : x.toInt = (p : Int) + 1) (h1 : ¬ r1 = 61) : sgT (bI gt) td.toInt.toNat p = (if isSg (bI gt p) then bI gt p else 1001, p + 1) := by
  unfold sgT
  rw [if_neg]
  rintro ⟨-, q2, q3⟩
  have e2 := BY_in e1 (by omega) (by omega)
  rw [show x.toInt.toNat = p + 1 by omega] at e2
  exact h1 (Int32.toInt_inj.mp (e2.trans q3))
end SGM
set_option maxHeartbeats 4000000 in
set_option maxRecDepth 100000 in
theorem x_X12_nextToken {l : Launch} {G : GG}  {L : List Nat} {f : HF} {ad : Nat → Nat → Nat} {pa : (Nat → Int32) → Prop} {PA : (Nat → Int32) → Prop} {PI : PIT} {PX : (Nat → Int32) → Prop} {td fa fp at9 ps9 tk nu t0 wr so pd op9 cg iw on9 is9 se : Int32} {wd : Int64} {gt gp gc : Nat → Int32} (I : SH (spM PA PI PX pa) nnM G ad L f) (p_ad_0_0 : pt L f (ad 0 0) (.inr (12, [.ref (ad 1 0), .ref (ad 2 0), .ref (ad 3 0), .ref (ad 4 0), .int td, .int fa, .int fp, .int at9, .int ps9, .int tk, .int nu, .long wd, .int t0, .int wr, .int so, .ref (ad 5 0), .ref (ad 6 0), .int pd, .int op9, .int cg, .int iw, .int on9, .ref (ad 7 0), .ref (ad 8 0), .ref (ad 9 0), .int is9, .ref (ad 10 0), .ref (ad 11 0), .ref (ad 12 0), .ref (ad 13 0), .int se, .ref (ad 14 0)]))) (p_ad_4_0 : pt L f (ad 4 0) (.inl (G.2 0, 300, .inl gt))) (p_ad_5_0 : pt L f (ad 5 0) (.inl (G.2 0, 160, .inl gp))) (p_ad_6_0 : pt L f (ad 6 0) (.inl (G.2 0, 9, .inl gc))) (hB : BYT gt) : PMv l yX12_nextToken cX12_nextToken 2 1 0 0 G [.ref (ad 0 0)] L f (fun L1 f1 => ∃ at92 : Int32, ∃ ps92 : Int32, ∃ tk2 : Int32, ∃ nu2 : Int32, ∃ wd2 : Int64, SH (spM PA PI PX pa) nnM G ad L1 f1 ∧ pt L1 f1 (ad 0 0) (.inr (12, [.ref (ad 1 0), .ref (ad 2 0), .ref (ad 3 0), .ref (ad 4 0), .int td, .int fa, .int fp, .int at92, .int ps92, .int tk2, .int nu2, .long wd2, .int t0, .int wr, .int so, .ref (ad 5 0), .ref (ad 6 0), .int pd, .int op9, .int cg, .int iw, .int on9, .ref (ad 7 0), .ref (ad 8 0), .ref (ad 9 0), .int is9, .ref (ad 10 0), .ref (ad 11 0), .ref (ad 12 0), .ref (ad 13 0), .int se, .ref (ad 14 0)])) ∧ pt L1 f1 (ad 4 0) (.inl (G.2 0, 300, .inl gt)) ∧ pt L1 f1 (ad 5 0) (.inl (G.2 0, 160, .inl gp)) ∧ pt L1 f1 (ad 6 0) (.inl (G.2 0, 9, .inl gc)) ∧ TK at92 ps92 tk2 ∧ at9.toInt ≤ ps92.toInt ∧ NT9 (bI gt) td.toInt.toNat at9.toInt.toNat at92 ps92 tk2 nu2 wd2) := by
  refine PMv.of (post := fun L1 f1 => ∃ at92 : Int32, ∃ ps92 : Int32, ∃ tk2 : Int32, ∃ nu2 : Int32, ∃ wd2 : Int64, SH (spM PA PI PX pa) nnM G ad L1 f1 ∧ pt L1 f1 (ad 0 0) (.inr (12, [.ref (ad 1 0), .ref (ad 2 0), .ref (ad 3 0), .ref (ad 4 0), .int td, .int fa, .int fp, .int at92, .int ps92, .int tk2, .int nu2, .long wd2, .int t0, .int wr, .int so, .ref (ad 5 0), .ref (ad 6 0), .int pd, .int op9, .int cg, .int iw, .int on9, .ref (ad 7 0), .ref (ad 8 0), .ref (ad 9 0), .int is9, .ref (ad 10 0), .ref (ad 11 0), .ref (ad 12 0), .ref (ad 13 0), .int se, .ref (ad 14 0)])) ∧ pt L1 f1 (ad 4 0) (.inl (G.2 0, 300, .inl gt)) ∧ pt L1 f1 (ad 5 0) (.inl (G.2 0, 160, .inl gp)) ∧ pt L1 f1 (ad 6 0) (.inl (G.2 0, 9, .inl gc)) ∧ TK at92 ps92 tk2 ∧ at9.toInt ≤ ps92.toInt ∧ NT9 (bI gt) td.toInt.toNat at9.toInt.toNat at92 ps92 tk2 nu2 wd2) (own := RX12) (by decide) rfl (Nat.le_of_ble_eq_true rfl) (fun sz p e s m args below meth c A ls hA1 hname S Y hl => ?_)
  have hx := S.hx
  have hb := S.hb
  have hl : lv_has ls 2 [(0, .ref (ad 0 0))] := hl
  obtain ⟨bfe_4, bfe_5, bfe_6, bfe_7, bfe_8, bfe_12, bfe_13, bfe_17, bfe_18, bfe_19, bfe_20, bfe_25⟩ := obM I p_ad_0_0
  have J_168 : ∀ (n168 : Nat) (y168_1 y168_f7 y168_f8 y168_f9 y168_f10 : Int32) (y168_f11 : Int64) (L_168 : List Nat) (f_168 : HF) (H : Heap) (locs : List Loc) (ls : Array Slot), (SH (spM PA PI PX pa) nnM G ad L_168 f_168) → (bn 65 122 y168_1) → (bn 0 300 y168_f7) → (bn 0 299 y168_f8) → (bn 2 2 y168_f9) → ((at9.toInt ≤ y168_f8.toInt ∧ (y168_f8.toInt < y168_f7.toInt ∨ y168_f8 = y168_f7 ∧ LT9 (BY gt td y168_f8))) ∧ y168_f8.toInt = (skB (bI gt) td.toInt.toNat td.toInt.toNat at9.toInt.toNat : Int) ∧ skB (bI gt) td.toInt.toNat td.toInt.toNat at9.toInt.toNat < td.toInt.toNat ∧ isLt (bI gt (skB (bI gt) td.toInt.toNat td.toInt.toNat at9.toInt.toNat)) ∧ LTI (bI gt) td.toInt.toNat (skB (bI gt) td.toInt.toNat td.toInt.toNat at9.toInt.toNat) y168_f7 y168_f11) → (pt L_168 f_168 (ad 0 0) (.inr (12, [.ref (ad 1 0), .ref (ad 2 0), .ref (ad 3 0), .ref (ad 4 0), .int td, .int fa, .int fp, .int y168_f7, .int y168_f8, .int y168_f9, .int y168_f10, .long y168_f11, .int t0, .int wr, .int so, .ref (ad 5 0), .ref (ad 6 0), .int pd, .int op9, .int cg, .int iw, .int on9, .ref (ad 7 0), .ref (ad 8 0), .ref (ad 9 0), .int is9, .ref (ad 10 0), .ref (ad 11 0), .ref (ad 12 0), .ref (ad 13 0), .int se, .ref (ad 14 0)]))) → (pt L_168 f_168 (ad 4 0) (.inl (G.2 0, 300, .inl gt))) → (pt L_168 f_168 (ad 5 0) (.inl (G.2 0, 160, .inl gp))) → (pt L_168 f_168 (ad 6 0) (.inl (G.2 0, 9, .inl gc))) → (((300 : Int) - y168_f7.toInt).toNat = n168) → (DY G A s [] L_168 f_168 H locs) → (lv_has ls 2 [(0, .ref (ad 0 0)), (1, .int y168_1)]) → W p l e (rmD 1 0 0) s m args below meth c H locs (0) (0) (MQ below (va_Qv (fun (u : List Nat × HF) => (fun L1 f1 => ∃ at92 : Int32, ∃ ps92 : Int32, ∃ tk2 : Int32, ∃ nu2 : Int32, ∃ wd2 : Int64, SH (spM PA PI PX pa) nnM G ad L1 f1 ∧ pt L1 f1 (ad 0 0) (.inr (12, [.ref (ad 1 0), .ref (ad 2 0), .ref (ad 3 0), .ref (ad 4 0), .int td, .int fa, .int fp, .int at92, .int ps92, .int tk2, .int nu2, .long wd2, .int t0, .int wr, .int so, .ref (ad 5 0), .ref (ad 6 0), .int pd, .int op9, .int cg, .int iw, .int on9, .ref (ad 7 0), .ref (ad 8 0), .ref (ad 9 0), .int is9, .ref (ad 10 0), .ref (ad 11 0), .ref (ad 12 0), .ref (ad 13 0), .int se, .ref (ad 14 0)])) ∧ pt L1 f1 (ad 4 0) (.inl (G.2 0, 300, .inl gt)) ∧ pt L1 f1 (ad 5 0) (.inl (G.2 0, 160, .inl gp)) ∧ pt L1 f1 (ad 6 0) (.inl (G.2 0, 9, .inl gc)) ∧ TK at92 ps92 tk2 ∧ at9.toInt ≤ ps92.toInt ∧ NT9 (bI gt) td.toInt.toNat at9.toInt.toNat at92 ps92 tk2 nu2 wd2) u.1 u.2) (fun u t => pOut G (va_A (va_pl L f) sz) u.1 u.2 t) (va_A (va_pl L f) sz)) args s 0 0 A) (F0 m 168 ls []) := by
    intro n168
    induction n168 using Nat.strongRecOn with
    | _ n168 ih168 =>
      intro y168_1 y168_f7 y168_f8 y168_f9 y168_f10 y168_f11 L_168 f_168 H locs ls I b_y168_1 b_y168_f7 b_y168_f8 b_y168_f9 h168 p_ad_0_0 p_ad_4_0 p_ad_5_0 p_ad_6_0 hm168 Y hl
      obtain ⟨bf168_4, bf168_5, bf168_6, bf168_7, bf168_8, bf168_12, bf168_13, bf168_17, bf168_18, bf168_19, bf168_20, bf168_25⟩ := obM I p_ad_0_0
      refine lv_aload_n hx hb dX12_nextToken_168 rfl (lv_at hl 0 rfl) ?_
      refine lv_aload_n hx hb dX12_nextToken_169 rfl (lv_at hl 0 rfl) ?_
      refine pg_get S Y ok_X12 7 (by decide) kf12_88 (v := .int y168_f7) p_ad_0_0 rfl dX12_nextToken_170 ?_
      refine cVp (As := [.int y168_f7]) (rest := []) S Y (x_X12_byteAt (l := l) I p_ad_0_0 p_ad_4_0 (bn_w bf168_7 (by decide))) cw_X12_byteAt km12_91 p_ad_0_0 ok_X12.1 rfl rfl ⟨Nat.le_of_ble_eq_true rfl, Nat.le_of_ble_eq_true rfl⟩ hl.1 rfl (Nat.le_of_ble_eq_true rfl) ⟨Nat.le_of_ble_eq_true rfl, Nat.le_of_ble_eq_true rfl⟩ dX12_nextToken_173 (fun r_84362 H locs er_84362 Y => ?_)
      refine cSp (As := [.int r_84362]) (rest := []) S Y (x_X12_isLetterByte (l := l) ) cw_X12_isLetterByte km12_108 rfl ⟨Nat.le_of_ble_eq_true rfl, Nat.le_of_ble_eq_true rfl⟩ hl.1 rfl (Nat.le_of_ble_eq_true rfl) ⟨Nat.le_of_ble_eq_true rfl, Nat.le_of_ble_eq_true rfl⟩ dX12_nextToken_176 (fun r_84363 H locs er_84363 Y => ?_)
      refine lv_if_eq (tgt := 310) hx hb dX12_nextToken_179 (by decide) (fun c_84364 => ?_) (fun c_84364 => ?_)
      · have B_84365 : bn 0 0 r_84363 := bn_w (bn_eq c_84364 (show bn 0 0 (0 : Int32) from bn_k (by decide))) (by decide)
        exact prV (post := fun L1 f1 => ∃ at92 : Int32, ∃ ps92 : Int32, ∃ tk2 : Int32, ∃ nu2 : Int32, ∃ wd2 : Int64, SH (spM PA PI PX pa) nnM G ad L1 f1 ∧ pt L1 f1 (ad 0 0) (.inr (12, [.ref (ad 1 0), .ref (ad 2 0), .ref (ad 3 0), .ref (ad 4 0), .int td, .int fa, .int fp, .int at92, .int ps92, .int tk2, .int nu2, .long wd2, .int t0, .int wr, .int so, .ref (ad 5 0), .ref (ad 6 0), .int pd, .int op9, .int cg, .int iw, .int on9, .ref (ad 7 0), .ref (ad 8 0), .ref (ad 9 0), .int is9, .ref (ad 10 0), .ref (ad 11 0), .ref (ad 12 0), .ref (ad 13 0), .int se, .ref (ad 14 0)])) ∧ pt L1 f1 (ad 4 0) (.inl (G.2 0, 300, .inl gt)) ∧ pt L1 f1 (ad 5 0) (.inl (G.2 0, 160, .inl gp)) ∧ pt L1 f1 (ad 6 0) (.inl (G.2 0, 9, .inl gc)) ∧ TK at92 ps92 tk2 ∧ at9.toInt ≤ ps92.toInt ∧ NT9 (bI gt) td.toInt.toNat at9.toInt.toNat at92 ps92 tk2 nu2 wd2) S Y (by decide) (by decide) hA1 ⟨y168_f7, y168_f8, y168_f9, y168_f10, y168_f11, I, p_ad_0_0, p_ad_4_0, p_ad_5_0, p_ad_6_0, ⟨by have z9 := (show y168_f8.toInt < y168_f7.toInt from by rcases h168.1.2 with z8 | ⟨z8, z7⟩; exact z8; exact absurd z7 (by rw [z8, ← er_84362.2]; exact er_84363.2.2 c_84364)); omega, fun _ => (show y168_f8.toInt < y168_f7.toInt from by rcases h168.1.2 with z8 | ⟨z8, z7⟩; exact z8; exact absurd z7 (by rw [z8, ← er_84362.2]; exact er_84363.2.2 c_84364))⟩, h168.1.1, (by have h9 := LT_e h168.2.2.2.2 (fun z => (fg_no (P := LT9) (Q := fun z => isLt z) (fun x h => lt_L9 h) er_84362.2 ((bn_w (a' := 0) (b' := 2147483647) bf168_7 (by decide))).1 (er_84363.2.2 c_84364)) ⟨by have k9 := z.1; have k7 := (show 0 ≤ td.toInt from (bn_w (a' := 0) (b' := 300) bfe_4 (lim_b _ _ _)).1); omega, z.2⟩); exact NT_l h168.2.1 h168.2.2.1 h168.2.2.2.1 h9.1.symm (Int32.toInt_inj.mp (show y168_f9.toInt = 2 from by have k9 := (b_y168_f9).1; have k8 := (b_y168_f9).2; omega)) h9.2.1 h9.2.2)⟩ dX12_nextToken_310
      · have B_84366 : bn 65 122 r_84362 := bn_w (bn_i (bn_any r_84362) (er_84363.2.1 c_84364).1) (by decide)
        have B_84367 : bn 0 299 y168_f7 := bn_w (bn_i bf168_7 (er_84362.1 (bd_ne B_84366 (show bn (-1) (-1) (-1 : Int32) from bn_k (by decide)) (by decide)))) (by decide)
        have B_84368 : bn 1 1 r_84363 := bn_w (bn_nel c_84364 er_84363.1 (show bn 0 0 (0 : Int32) from bn_k (by decide))) (by decide)
        refine lv_aload_n hx hb dX12_nextToken_182 rfl (lv_at hl 0 rfl) ?_
        refine lv_aload_n hx hb dX12_nextToken_183 rfl (lv_at hl 0 rfl) ?_
        refine pg_get S Y ok_X12 11 (by decide) kf12_111 (v := .long y168_f11) p_ad_0_0 rfl dX12_nextToken_184 ?_
        refine lv_bipush (v := 48) hx hb dX12_nextToken_187 (by decide) ?_
        obtain ⟨x_84369, ex_84369⟩ : ∃ z : Int64, z = y168_f11 >>> ((48 : Int32).toInt64 &&& 63) := ⟨_, rfl⟩
        refine lv_lshr (v := x_84369) hx hb dX12_nextToken_189 ex_84369.symm ?_
        refine lv_lconst (v := 0) hx hb dX12_nextToken_190 (by decide) ?_
        refine W.lcmp hx hb dX12_nextToken_191 ?_
        refine lv_topi (fun x_84370 ex_84370 => ?_)
        refine lv_if_eq (tgt := 201) hx hb dX12_nextToken_192 (by decide) (fun c_84371 => ?_) (fun c_84371 => ?_)
        · have B_84372 : bn 0 0 x_84370 := bn_w (bn_eq c_84371 (show bn 0 0 (0 : Int32) from bn_k (by decide))) (by decide)
          refine lv_aload_n hx hb dX12_nextToken_201 rfl (lv_at hl 0 rfl) ?_
          refine pg_get S Y ok_X12 11 (by decide) kf12_111 (v := .long y168_f11) p_ad_0_0 rfl dX12_nextToken_202 ?_
          refine lv_bipush (v := 8) hx hb dX12_nextToken_205 (by decide) ?_
          obtain ⟨x_84373, ex_84373⟩ : ∃ z : Int64, z = y168_f11 <<< ((8 : Int32).toInt64 &&& 63) := ⟨_, rfl⟩
          refine lv_lshl (v := x_84373) hx hb dX12_nextToken_207 ex_84373.symm ?_
          refine lv_aload_n hx hb dX12_nextToken_208 rfl (lv_at hl 0 rfl) ?_
          refine lv_aload_n hx hb dX12_nextToken_209 rfl (lv_at hl 0 rfl) ?_
          refine pg_get S Y ok_X12 7 (by decide) kf12_88 (v := .int y168_f7) p_ad_0_0 rfl dX12_nextToken_210 ?_
          refine cVp (As := [.int y168_f7]) (rest := [.long x_84373, .ref (ad 0 0)]) S Y (x_X12_byteAt (l := l) I p_ad_0_0 p_ad_4_0 (bn_w B_84367 (by decide))) cw_X12_byteAt km12_91 p_ad_0_0 ok_X12.1 rfl rfl ⟨Nat.le_of_ble_eq_true rfl, Nat.le_of_ble_eq_true rfl⟩ hl.1 rfl (Nat.le_of_ble_eq_true rfl) ⟨Nat.le_of_ble_eq_true rfl, Nat.le_of_ble_eq_true rfl⟩ dX12_nextToken_213 (fun r_84374 H locs er_84374 Y => ?_)
          refine lv_i2l hx hb dX12_nextToken_216 rfl ?_
          refine lv_topl (fun x_84375 ex_84375 => ?_)
          refine lv_lor hx hb dX12_nextToken_217 ?_
          refine lv_topl (fun x_84376 ex_84376 => ?_)
          refine pg_put S Y ok_X12 11 (by decide) kf12_111 rfl (fs' := [.ref (ad 1 0), .ref (ad 2 0), .ref (ad 3 0), .ref (ad 4 0), .int td, .int fa, .int fp, .int y168_f7, .int y168_f8, .int y168_f9, .int y168_f10, .long x_84376, .int t0, .int wr, .int so, .ref (ad 5 0), .ref (ad 6 0), .int pd, .int op9, .int cg, .int iw, .int on9, .ref (ad 7 0), .ref (ad 8 0), .ref (ad 9 0), .int is9, .ref (ad 10 0), .ref (ad 11 0), .ref (ad 12 0), .ref (ad 13 0), .int se, .ref (ad 14 0)]) (v := .long x_84376) p_ad_0_0 rfl rfl rfl (Nat.le_of_ble_eq_true rfl) dX12_nextToken_218 (fun f_84377 H locs ef_84377 Y => ?_)
          have p_ad_4_0 := p_ad_4_0.up ef_84377 (I.ne (k := 4) (j := 0) (k' := 0) (j' := 0) (by decide) (by decide) (Or.inl (by decide)))
          have p_ad_5_0 := p_ad_5_0.up ef_84377 (I.ne (k := 5) (j := 0) (k' := 0) (j' := 0) (by decide) (by decide) (Or.inl (by decide)))
          have p_ad_6_0 := p_ad_6_0.up ef_84377 (I.ne (k := 6) (j := 0) (k' := 0) (j' := 0) (by decide) (by decide) (Or.inl (by decide)))
          have p_ad_0_0 := p_ad_0_0.me ef_84377
          have I := I.up (k := 0) (j := 0) (by decide) ef_84377 (okE_o (okFs_c okV_r (okFs_c okV_r (okFs_c okV_r (okFs_c okV_r (okFs_c (okV_p bf168_4) (okFs_c (okV_p bf168_5) (okFs_c (okV_p bf168_6) (okFs_c (okV_i bf168_7) (okFs_c (okV_i bf168_8) (okFs_c (okV_i (bn_any _)) (okFs_c (okV_i (bn_any _)) (okFs_c okV_l (okFs_c (okV_i bf168_12) (okFs_c (okV_i bf168_13) (okFs_c (okV_i (bn_any _)) (okFs_c okV_r (okFs_c okV_r (okFs_c (okV_i bf168_17) (okFs_c (okV_i bf168_18) (okFs_c (okV_i bf168_19) (okFs_c (okV_i bf168_20) (okFs_c (okV_i (bn_any _)) (okFs_c okV_r (okFs_c okV_r (okFs_c okV_r (okFs_c (okV_i bf168_25) (okFs_c okV_r (okFs_c okV_r (okFs_c okV_r (okFs_c okV_r (okFs_c (okV_i (bn_any _)) (okFs_c okV_r okFs_n)))))))))))))))))))))))))))))))))
          refine lv_aload_n hx hb dX12_nextToken_221 rfl (lv_at hl 0 rfl) ?_
          refine lv_dup hx hb dX12_nextToken_222 rfl ?_
          refine pg_get S Y ok_X12 7 (by decide) kf12_88 (v := .int y168_f7) p_ad_0_0 rfl dX12_nextToken_223 ?_
          refine lv_iconst (v := 1) hx hb dX12_nextToken_226 (by decide) ?_
          refine lv_iadd hx hb dX12_nextToken_227 ?_
          refine lv_topi (fun x_84378 ex_84378 => ?_)
          refine pg_put S Y ok_X12 7 (by decide) kf12_88 rfl (fs' := [.ref (ad 1 0), .ref (ad 2 0), .ref (ad 3 0), .ref (ad 4 0), .int td, .int fa, .int fp, .int x_84378, .int y168_f8, .int y168_f9, .int y168_f10, .long x_84376, .int t0, .int wr, .int so, .ref (ad 5 0), .ref (ad 6 0), .int pd, .int op9, .int cg, .int iw, .int on9, .ref (ad 7 0), .ref (ad 8 0), .ref (ad 9 0), .int is9, .ref (ad 10 0), .ref (ad 11 0), .ref (ad 12 0), .ref (ad 13 0), .int se, .ref (ad 14 0)]) (v := .int x_84378) p_ad_0_0 rfl rfl rfl (Nat.le_of_ble_eq_true rfl) dX12_nextToken_228 (fun f_84379 H locs ef_84379 Y => ?_)
          have p_ad_4_0 := p_ad_4_0.up ef_84379 (I.ne (k := 4) (j := 0) (k' := 0) (j' := 0) (by decide) (by decide) (Or.inl (by decide)))
          have p_ad_5_0 := p_ad_5_0.up ef_84379 (I.ne (k := 5) (j := 0) (k' := 0) (j' := 0) (by decide) (by decide) (Or.inl (by decide)))
          have p_ad_6_0 := p_ad_6_0.up ef_84379 (I.ne (k := 6) (j := 0) (k' := 0) (j' := 0) (by decide) (by decide) (Or.inl (by decide)))
          have p_ad_0_0 := p_ad_0_0.me ef_84379
          have I := I.up (k := 0) (j := 0) (by decide) ef_84379 (okE_o (okFs_c okV_r (okFs_c okV_r (okFs_c okV_r (okFs_c okV_r (okFs_c (okV_p bf168_4) (okFs_c (okV_p bf168_5) (okFs_c (okV_p bf168_6) (okFs_c (okV_i (bn_w (bn_eq ex_84378 (bn_add B_84367 (show bn 1 1 (1 : Int32) from bn_k (by decide)) (by decide))) (by decide))) (okFs_c (okV_i bf168_8) (okFs_c (okV_i (bn_any _)) (okFs_c (okV_i (bn_any _)) (okFs_c okV_l (okFs_c (okV_i bf168_12) (okFs_c (okV_i bf168_13) (okFs_c (okV_i (bn_any _)) (okFs_c okV_r (okFs_c okV_r (okFs_c (okV_i bf168_17) (okFs_c (okV_i bf168_18) (okFs_c (okV_i bf168_19) (okFs_c (okV_i bf168_20) (okFs_c (okV_i (bn_any _)) (okFs_c okV_r (okFs_c okV_r (okFs_c okV_r (okFs_c (okV_i bf168_25) (okFs_c okV_r (okFs_c okV_r (okFs_c okV_r (okFs_c okV_r (okFs_c (okV_i (bn_any _)) (okFs_c okV_r okFs_n)))))))))))))))))))))))))))))))))
          refine lv_goto (tgt := 168) hx hb dX12_nextToken_231 (by decide) ?_
          exact ih168 _ (by rw [← hm168]; exact ms_up (m := 1) ex_84378 (show bn 1 1 (1 : Int32) from bn_k (by decide)) B_84367 (bn_w (bn_eq ex_84378 (bn_add B_84367 (show bn 1 1 (1 : Int32) from bn_k (by decide)) (by decide))) (by decide) : bn 0 300 x_84378) (by decide)) y168_1 x_84378 y168_f8 y168_f9 y168_f10 x_84376 _ _  _ _ _ I (bn_w b_y168_1 (by decide)) (bn_w (bn_eq ex_84378 (bn_add B_84367 (show bn 1 1 (1 : Int32) from bn_k (by decide)) (by decide))) (by decide)) (bn_w b_y168_f8 (by decide)) (bn_w b_y168_f9 (by decide)) ⟨⟨h168.1.1, Or.inl (by have z9 := (la_add ex_84378 (rfl : y168_f7.toInt = y168_f7.toInt) (show (1 : Int32).toInt = 1 from rfl) B_84367 (show bn 1 1 (1 : Int32) from bn_k (by decide)) (by decide)); rcases h168.1.2 with z8 | ⟨z8, _⟩ <;> (try rw [z8]) <;> omega)⟩, ⟨h168.2.1, h168.2.2.1, h168.2.2.2.1, LT_s (c := 0) h168.2.2.2.2 (show _ < ((td.toInt.toNat : Nat) : Int) from by have k9 := (BY_lt er_84362.2 (ge_nm9 (bn_w B_84366 (by decide)))); omega) (by rw [← (BY_in er_84362.2 ((bn_w (a' := 0) (b' := 2147483647) B_84367 (by decide))).1 (BY_lt er_84362.2 (ge_nm9 (bn_w B_84366 (by decide)))))]; exact L9_lt (er_84363.2.1 c_84364).2) (la_add ex_84378 (rfl : y168_f7.toInt = y168_f7.toInt) (show (1 : Int32).toInt = 1 from rfl) B_84367 (show bn 1 1 (1 : Int32) from bn_k (by decide)) (by decide)) (by rw [if_neg (by have k9 := ((shr48 (by rw [h168.2.2.2.2.2.2.2.2]; exact (pkR_hi h168.2.2.2.2.2.2.2.1).1) ex_84369).mp (lc_z ex_84370 c_84371)); omega), ← (BY_in er_84374.2 ((bn_w (a' := 0) (b' := 2147483647) B_84367 (by decide))).1 (BY_lt er_84362.2 (ge_nm9 (bn_w B_84366 (by decide)))))]; exact lor8 (by rw [h168.2.2.2.2.2.2.2.2]; exact (pkR_hi h168.2.2.2.2.2.2.2.1).1) ((shr48 (by rw [h168.2.2.2.2.2.2.2.2]; exact (pkR_hi h168.2.2.2.2.2.2.2.1).1) ex_84369).mp (lc_z ex_84370 c_84371)) (show bn 0 255 r_84374 from by have k9 := (show r_84374.toInt = (gt y168_f7.toInt.toNat).toInt from (BY_in er_84374.2 ((bn_w (a' := 0) (b' := 2147483647) B_84367 (by decide))).1 (BY_lt er_84362.2 (ge_nm9 (bn_w B_84366 (by decide)))))); have k8 := hB y168_f7.toInt.toNat; exact ⟨by have k7 := k8.1; omega, by have k7 := k8.2; omega⟩) ex_84373 ex_84375 ex_84376)⟩⟩ p_ad_0_0 p_ad_4_0 p_ad_5_0 p_ad_6_0 rfl Y (lv_sub hl [0, 1] rfl)
        · refine lv_ldc2 (v := 1152921504606846976) hx hb S.ow (S.w kl12_115) dX12_nextToken_195 ?_
          refine lv_goto (tgt := 218) hx hb dX12_nextToken_198 (by decide) ?_
          refine pg_put S Y ok_X12 11 (by decide) kf12_111 rfl (fs' := [.ref (ad 1 0), .ref (ad 2 0), .ref (ad 3 0), .ref (ad 4 0), .int td, .int fa, .int fp, .int y168_f7, .int y168_f8, .int y168_f9, .int y168_f10, .long 1152921504606846976, .int t0, .int wr, .int so, .ref (ad 5 0), .ref (ad 6 0), .int pd, .int op9, .int cg, .int iw, .int on9, .ref (ad 7 0), .ref (ad 8 0), .ref (ad 9 0), .int is9, .ref (ad 10 0), .ref (ad 11 0), .ref (ad 12 0), .ref (ad 13 0), .int se, .ref (ad 14 0)]) (v := .long 1152921504606846976) p_ad_0_0 rfl rfl rfl (Nat.le_of_ble_eq_true rfl) dX12_nextToken_218 (fun f_84380 H locs ef_84380 Y => ?_)
          have p_ad_4_0 := p_ad_4_0.up ef_84380 (I.ne (k := 4) (j := 0) (k' := 0) (j' := 0) (by decide) (by decide) (Or.inl (by decide)))
          have p_ad_5_0 := p_ad_5_0.up ef_84380 (I.ne (k := 5) (j := 0) (k' := 0) (j' := 0) (by decide) (by decide) (Or.inl (by decide)))
          have p_ad_6_0 := p_ad_6_0.up ef_84380 (I.ne (k := 6) (j := 0) (k' := 0) (j' := 0) (by decide) (by decide) (Or.inl (by decide)))
          have p_ad_0_0 := p_ad_0_0.me ef_84380
          have I := I.up (k := 0) (j := 0) (by decide) ef_84380 (okE_o (okFs_c okV_r (okFs_c okV_r (okFs_c okV_r (okFs_c okV_r (okFs_c (okV_p bf168_4) (okFs_c (okV_p bf168_5) (okFs_c (okV_p bf168_6) (okFs_c (okV_i bf168_7) (okFs_c (okV_i bf168_8) (okFs_c (okV_i (bn_any _)) (okFs_c (okV_i (bn_any _)) (okFs_c okV_l (okFs_c (okV_i bf168_12) (okFs_c (okV_i bf168_13) (okFs_c (okV_i (bn_any _)) (okFs_c okV_r (okFs_c okV_r (okFs_c (okV_i bf168_17) (okFs_c (okV_i bf168_18) (okFs_c (okV_i bf168_19) (okFs_c (okV_i bf168_20) (okFs_c (okV_i (bn_any _)) (okFs_c okV_r (okFs_c okV_r (okFs_c okV_r (okFs_c (okV_i bf168_25) (okFs_c okV_r (okFs_c okV_r (okFs_c okV_r (okFs_c okV_r (okFs_c (okV_i (bn_any _)) (okFs_c okV_r okFs_n)))))))))))))))))))))))))))))))))
          refine lv_aload_n hx hb dX12_nextToken_221 rfl (lv_at hl 0 rfl) ?_
          refine lv_dup hx hb dX12_nextToken_222 rfl ?_
          refine pg_get S Y ok_X12 7 (by decide) kf12_88 (v := .int y168_f7) p_ad_0_0 rfl dX12_nextToken_223 ?_
          refine lv_iconst (v := 1) hx hb dX12_nextToken_226 (by decide) ?_
          refine lv_iadd hx hb dX12_nextToken_227 ?_
          refine lv_topi (fun x_84381 ex_84381 => ?_)
          refine pg_put S Y ok_X12 7 (by decide) kf12_88 rfl (fs' := [.ref (ad 1 0), .ref (ad 2 0), .ref (ad 3 0), .ref (ad 4 0), .int td, .int fa, .int fp, .int x_84381, .int y168_f8, .int y168_f9, .int y168_f10, .long 1152921504606846976, .int t0, .int wr, .int so, .ref (ad 5 0), .ref (ad 6 0), .int pd, .int op9, .int cg, .int iw, .int on9, .ref (ad 7 0), .ref (ad 8 0), .ref (ad 9 0), .int is9, .ref (ad 10 0), .ref (ad 11 0), .ref (ad 12 0), .ref (ad 13 0), .int se, .ref (ad 14 0)]) (v := .int x_84381) p_ad_0_0 rfl rfl rfl (Nat.le_of_ble_eq_true rfl) dX12_nextToken_228 (fun f_84382 H locs ef_84382 Y => ?_)
          have p_ad_4_0 := p_ad_4_0.up ef_84382 (I.ne (k := 4) (j := 0) (k' := 0) (j' := 0) (by decide) (by decide) (Or.inl (by decide)))
          have p_ad_5_0 := p_ad_5_0.up ef_84382 (I.ne (k := 5) (j := 0) (k' := 0) (j' := 0) (by decide) (by decide) (Or.inl (by decide)))
          have p_ad_6_0 := p_ad_6_0.up ef_84382 (I.ne (k := 6) (j := 0) (k' := 0) (j' := 0) (by decide) (by decide) (Or.inl (by decide)))
          have p_ad_0_0 := p_ad_0_0.me ef_84382
          have I := I.up (k := 0) (j := 0) (by decide) ef_84382 (okE_o (okFs_c okV_r (okFs_c okV_r (okFs_c okV_r (okFs_c okV_r (okFs_c (okV_p bf168_4) (okFs_c (okV_p bf168_5) (okFs_c (okV_p bf168_6) (okFs_c (okV_i (bn_w (bn_eq ex_84381 (bn_add B_84367 (show bn 1 1 (1 : Int32) from bn_k (by decide)) (by decide))) (by decide))) (okFs_c (okV_i bf168_8) (okFs_c (okV_i (bn_any _)) (okFs_c (okV_i (bn_any _)) (okFs_c okV_l (okFs_c (okV_i bf168_12) (okFs_c (okV_i bf168_13) (okFs_c (okV_i (bn_any _)) (okFs_c okV_r (okFs_c okV_r (okFs_c (okV_i bf168_17) (okFs_c (okV_i bf168_18) (okFs_c (okV_i bf168_19) (okFs_c (okV_i bf168_20) (okFs_c (okV_i (bn_any _)) (okFs_c okV_r (okFs_c okV_r (okFs_c okV_r (okFs_c (okV_i bf168_25) (okFs_c okV_r (okFs_c okV_r (okFs_c okV_r (okFs_c okV_r (okFs_c (okV_i (bn_any _)) (okFs_c okV_r okFs_n)))))))))))))))))))))))))))))))))
          refine lv_goto (tgt := 168) hx hb dX12_nextToken_231 (by decide) ?_
          exact ih168 _ (by rw [← hm168]; exact ms_up (m := 1) ex_84381 (show bn 1 1 (1 : Int32) from bn_k (by decide)) B_84367 (bn_w (bn_eq ex_84381 (bn_add B_84367 (show bn 1 1 (1 : Int32) from bn_k (by decide)) (by decide))) (by decide) : bn 0 300 x_84381) (by decide)) y168_1 x_84381 y168_f8 y168_f9 y168_f10 1152921504606846976 _ _  _ _ _ I (bn_w b_y168_1 (by decide)) (bn_w (bn_eq ex_84381 (bn_add B_84367 (show bn 1 1 (1 : Int32) from bn_k (by decide)) (by decide))) (by decide)) (bn_w b_y168_f8 (by decide)) (bn_w b_y168_f9 (by decide)) ⟨⟨h168.1.1, Or.inl (by have z9 := (la_add ex_84381 (rfl : y168_f7.toInt = y168_f7.toInt) (show (1 : Int32).toInt = 1 from rfl) B_84367 (show bn 1 1 (1 : Int32) from bn_k (by decide)) (by decide)); rcases h168.1.2 with z8 | ⟨z8, _⟩ <;> (try rw [z8]) <;> omega)⟩, ⟨h168.2.1, h168.2.2.1, h168.2.2.2.1, LT_s (c := 0) h168.2.2.2.2 (show _ < ((td.toInt.toNat : Nat) : Int) from by have k9 := (BY_lt er_84362.2 (ge_nm9 (bn_w B_84366 (by decide)))); omega) (by rw [← (BY_in er_84362.2 ((bn_w (a' := 0) (b' := 2147483647) B_84367 (by decide))).1 (BY_lt er_84362.2 (ge_nm9 (bn_w B_84366 (by decide)))))]; exact L9_lt (er_84363.2.1 c_84364).2) (la_add ex_84381 (rfl : y168_f7.toInt = y168_f7.toInt) (show (1 : Int32).toInt = 1 from rfl) B_84367 (show bn 1 1 (1 : Int32) from bn_k (by decide)) (by decide)) (by rw [if_pos (by have k9 := mt (shr48 (by rw [h168.2.2.2.2.2.2.2.2]; exact (pkR_hi h168.2.2.2.2.2.2.2.1).1) ex_84369).mpr (lc_nz ex_84370 c_84371); omega)]; rfl)⟩⟩ p_ad_0_0 p_ad_4_0 p_ad_5_0 p_ad_6_0 rfl Y (lv_sub hl [0, 1] rfl)
  have J_85 : ∀ (n85 : Nat) (y85_1 y85_f7 y85_f8 y85_f9 y85_f10 : Int32) (y85_f11 : Int64) (L_85 : List Nat) (f_85 : HF) (H : Heap) (locs : List Loc) (ls : Array Slot), (SH (spM PA PI PX pa) nnM G ad L_85 f_85) → (bn 48 57 y85_1) → (bn 0 300 y85_f7) → (bn 0 299 y85_f8) → (bn 1 1 y85_f9) → (bn 0 1000000 y85_f10) → ((at9.toInt ≤ y85_f8.toInt ∧ (y85_f8.toInt < y85_f7.toInt ∨ y85_f8 = y85_f7 ∧ FG (BY gt td y85_f8))) ∧ y85_f8.toInt = (skB (bI gt) td.toInt.toNat td.toInt.toNat at9.toInt.toNat : Int) ∧ skB (bI gt) td.toInt.toNat td.toInt.toNat at9.toInt.toNat < td.toInt.toNat ∧ isDg (bI gt (skB (bI gt) td.toInt.toNat td.toInt.toNat at9.toInt.toNat)) ∧ DGI (bI gt) td.toInt.toNat (skB (bI gt) td.toInt.toNat td.toInt.toNat at9.toInt.toNat) y85_f7 y85_f10) → (pt L_85 f_85 (ad 0 0) (.inr (12, [.ref (ad 1 0), .ref (ad 2 0), .ref (ad 3 0), .ref (ad 4 0), .int td, .int fa, .int fp, .int y85_f7, .int y85_f8, .int y85_f9, .int y85_f10, .long y85_f11, .int t0, .int wr, .int so, .ref (ad 5 0), .ref (ad 6 0), .int pd, .int op9, .int cg, .int iw, .int on9, .ref (ad 7 0), .ref (ad 8 0), .ref (ad 9 0), .int is9, .ref (ad 10 0), .ref (ad 11 0), .ref (ad 12 0), .ref (ad 13 0), .int se, .ref (ad 14 0)]))) → (pt L_85 f_85 (ad 4 0) (.inl (G.2 0, 300, .inl gt))) → (pt L_85 f_85 (ad 5 0) (.inl (G.2 0, 160, .inl gp))) → (pt L_85 f_85 (ad 6 0) (.inl (G.2 0, 9, .inl gc))) → (((300 : Int) - y85_f7.toInt).toNat = n85) → (DY G A s [] L_85 f_85 H locs) → (lv_has ls 2 [(0, .ref (ad 0 0)), (1, .int y85_1)]) → W p l e (rmD 1 0 0) s m args below meth c H locs (0) (0) (MQ below (va_Qv (fun (u : List Nat × HF) => (fun L1 f1 => ∃ at92 : Int32, ∃ ps92 : Int32, ∃ tk2 : Int32, ∃ nu2 : Int32, ∃ wd2 : Int64, SH (spM PA PI PX pa) nnM G ad L1 f1 ∧ pt L1 f1 (ad 0 0) (.inr (12, [.ref (ad 1 0), .ref (ad 2 0), .ref (ad 3 0), .ref (ad 4 0), .int td, .int fa, .int fp, .int at92, .int ps92, .int tk2, .int nu2, .long wd2, .int t0, .int wr, .int so, .ref (ad 5 0), .ref (ad 6 0), .int pd, .int op9, .int cg, .int iw, .int on9, .ref (ad 7 0), .ref (ad 8 0), .ref (ad 9 0), .int is9, .ref (ad 10 0), .ref (ad 11 0), .ref (ad 12 0), .ref (ad 13 0), .int se, .ref (ad 14 0)])) ∧ pt L1 f1 (ad 4 0) (.inl (G.2 0, 300, .inl gt)) ∧ pt L1 f1 (ad 5 0) (.inl (G.2 0, 160, .inl gp)) ∧ pt L1 f1 (ad 6 0) (.inl (G.2 0, 9, .inl gc)) ∧ TK at92 ps92 tk2 ∧ at9.toInt ≤ ps92.toInt ∧ NT9 (bI gt) td.toInt.toNat at9.toInt.toNat at92 ps92 tk2 nu2 wd2) u.1 u.2) (fun u t => pOut G (va_A (va_pl L f) sz) u.1 u.2 t) (va_A (va_pl L f) sz)) args s 0 0 A) (F0 m 85 ls []) := by
    intro n85
    induction n85 using Nat.strongRecOn with
    | _ n85 ih85 =>
      intro y85_1 y85_f7 y85_f8 y85_f9 y85_f10 y85_f11 L_85 f_85 H locs ls I b_y85_1 b_y85_f7 b_y85_f8 b_y85_f9 b_y85_f10 h85 p_ad_0_0 p_ad_4_0 p_ad_5_0 p_ad_6_0 hm85 Y hl
      obtain ⟨bf85_4, bf85_5, bf85_6, bf85_7, bf85_8, bf85_12, bf85_13, bf85_17, bf85_18, bf85_19, bf85_20, bf85_25⟩ := obM I p_ad_0_0
      refine lv_aload_n hx hb dX12_nextToken_85 rfl (lv_at hl 0 rfl) ?_
      refine lv_aload_n hx hb dX12_nextToken_86 rfl (lv_at hl 0 rfl) ?_
      refine pg_get S Y ok_X12 7 (by decide) kf12_88 (v := .int y85_f7) p_ad_0_0 rfl dX12_nextToken_87 ?_
      refine cVp (As := [.int y85_f7]) (rest := []) S Y (x_X12_byteAt (l := l) I p_ad_0_0 p_ad_4_0 (bn_w bf85_7 (by decide))) cw_X12_byteAt km12_91 p_ad_0_0 ok_X12.1 rfl rfl ⟨Nat.le_of_ble_eq_true rfl, Nat.le_of_ble_eq_true rfl⟩ hl.1 rfl (Nat.le_of_ble_eq_true rfl) ⟨Nat.le_of_ble_eq_true rfl, Nat.le_of_ble_eq_true rfl⟩ dX12_nextToken_90 (fun r_84383 H locs er_84383 Y => ?_)
      refine cSp (As := [.int r_84383]) (rest := []) S Y (x_X12_isFigure (l := l) ) cw_X12_isFigure km12_101 rfl ⟨Nat.le_of_ble_eq_true rfl, Nat.le_of_ble_eq_true rfl⟩ hl.1 rfl (Nat.le_of_ble_eq_true rfl) ⟨Nat.le_of_ble_eq_true rfl, Nat.le_of_ble_eq_true rfl⟩ dX12_nextToken_93 (fun r_84384 H locs er_84384 Y => ?_)
      refine lv_if_eq (tgt := 310) hx hb dX12_nextToken_96 (by decide) (fun c_84385 => ?_) (fun c_84385 => ?_)
      · have B_84386 : bn 0 0 r_84384 := bn_w (bn_eq c_84385 (show bn 0 0 (0 : Int32) from bn_k (by decide))) (by decide)
        exact prV (post := fun L1 f1 => ∃ at92 : Int32, ∃ ps92 : Int32, ∃ tk2 : Int32, ∃ nu2 : Int32, ∃ wd2 : Int64, SH (spM PA PI PX pa) nnM G ad L1 f1 ∧ pt L1 f1 (ad 0 0) (.inr (12, [.ref (ad 1 0), .ref (ad 2 0), .ref (ad 3 0), .ref (ad 4 0), .int td, .int fa, .int fp, .int at92, .int ps92, .int tk2, .int nu2, .long wd2, .int t0, .int wr, .int so, .ref (ad 5 0), .ref (ad 6 0), .int pd, .int op9, .int cg, .int iw, .int on9, .ref (ad 7 0), .ref (ad 8 0), .ref (ad 9 0), .int is9, .ref (ad 10 0), .ref (ad 11 0), .ref (ad 12 0), .ref (ad 13 0), .int se, .ref (ad 14 0)])) ∧ pt L1 f1 (ad 4 0) (.inl (G.2 0, 300, .inl gt)) ∧ pt L1 f1 (ad 5 0) (.inl (G.2 0, 160, .inl gp)) ∧ pt L1 f1 (ad 6 0) (.inl (G.2 0, 9, .inl gc)) ∧ TK at92 ps92 tk2 ∧ at9.toInt ≤ ps92.toInt ∧ NT9 (bI gt) td.toInt.toNat at9.toInt.toNat at92 ps92 tk2 nu2 wd2) S Y (by decide) (by decide) hA1 ⟨y85_f7, y85_f8, y85_f9, y85_f10, y85_f11, I, p_ad_0_0, p_ad_4_0, p_ad_5_0, p_ad_6_0, ⟨by have z9 := (show y85_f8.toInt < y85_f7.toInt from by rcases h85.1.2 with z8 | ⟨z8, z7⟩; exact z8; exact absurd z7 (by rw [z8, ← er_84383.2]; exact er_84384.2.2 c_84385)); omega, fun _ => (show y85_f8.toInt < y85_f7.toInt from by rcases h85.1.2 with z8 | ⟨z8, z7⟩; exact z8; exact absurd z7 (by rw [z8, ← er_84383.2]; exact er_84384.2.2 c_84385))⟩, h85.1.1, (by have h9 := DG_e h85.2.2.2.2 (fun z => (fg_no (P := FG) (Q := fun z => isDg z) (fun x h => dg_FG h) er_84383.2 ((bn_w (a' := 0) (b' := 2147483647) bf85_7 (by decide))).1 (er_84384.2.2 c_84385)) ⟨by have k9 := z.1; have k7 := (show 0 ≤ td.toInt from (bn_w (a' := 0) (b' := 300) bfe_4 (lim_b _ _ _)).1); omega, z.2⟩); exact NT_d h85.2.1 h85.2.2.1 (fun z => by have k9 := h85.2.2.2.1; unfold isLt at z; omega) h85.2.2.2.1 h9.1 (Int32.toInt_inj.mp (show y85_f9.toInt = 1 from by have k9 := (b_y85_f9).1; have k8 := (b_y85_f9).2; omega)) h85.2.2.2.2.2.2.2 h9.2)⟩ dX12_nextToken_310
      · have B_84387 : bn 48 57 r_84383 := bn_w (bn_i (bn_any r_84383) (er_84384.2.1 c_84385).1) (by decide)
        have B_84388 : bn 0 299 y85_f7 := bn_w (bn_i bf85_7 (er_84383.1 (bd_ne B_84387 (show bn (-1) (-1) (-1 : Int32) from bn_k (by decide)) (by decide)))) (by decide)
        have B_84389 : bn 1 1 r_84384 := bn_w (bn_nel c_84385 er_84384.1 (show bn 0 0 (0 : Int32) from bn_k (by decide))) (by decide)
        refine lv_aload_n hx hb dX12_nextToken_99 rfl (lv_at hl 0 rfl) ?_
        refine lv_aload_n hx hb dX12_nextToken_100 rfl (lv_at hl 0 rfl) ?_
        refine pg_get S Y ok_X12 10 (by decide) kf12_104 (v := .int y85_f10) p_ad_0_0 rfl dX12_nextToken_101 ?_
        refine lv_ldc (v := 99999) hx hb S.ow (S.w kk12_107) dX12_nextToken_104 ?_
        refine lv_icmp_le (tgt := 116) hx hb dX12_nextToken_106 (by decide) (fun c_84390 => ?_) (fun c_84390 => ?_)
        · have B_84391 : bn 0 99999 y85_f10 := bn_w (bn_lel c_84390 b_y85_f10 (show bn 99999 99999 (99999 : Int32) from bn_k (by decide))) (by decide)
          have B_84393 : bn 0 99999 y85_f10 := ⟨h85.2.2.2.2.2.2.2, by have z9 := c_84390; rw [Int32.le_iff_toInt_le] at z9; exact z9⟩
          refine lv_bipush (v := 10) hx hb dX12_nextToken_116 (by decide) ?_
          refine lv_aload_n hx hb dX12_nextToken_118 rfl (lv_at hl 0 rfl) ?_
          refine pg_get S Y ok_X12 10 (by decide) kf12_104 (v := .int y85_f10) p_ad_0_0 rfl dX12_nextToken_119 ?_
          refine lv_imul hx hb dX12_nextToken_122 ?_
          refine lv_topi (fun x_84394 ex_84394 => ?_)
          refine lv_aload_n hx hb dX12_nextToken_123 rfl (lv_at hl 0 rfl) ?_
          refine lv_aload_n hx hb dX12_nextToken_124 rfl (lv_at hl 0 rfl) ?_
          refine pg_get S Y ok_X12 7 (by decide) kf12_88 (v := .int y85_f7) p_ad_0_0 rfl dX12_nextToken_125 ?_
          refine cVp (As := [.int y85_f7]) (rest := [.int x_84394, .ref (ad 0 0)]) S Y (x_X12_byteAt (l := l) I p_ad_0_0 p_ad_4_0 (bn_w B_84388 (by decide))) cw_X12_byteAt km12_91 p_ad_0_0 ok_X12.1 rfl rfl ⟨Nat.le_of_ble_eq_true rfl, Nat.le_of_ble_eq_true rfl⟩ hl.1 rfl (Nat.le_of_ble_eq_true rfl) ⟨Nat.le_of_ble_eq_true rfl, Nat.le_of_ble_eq_true rfl⟩ dX12_nextToken_128 (fun r_84395 H locs er_84395 Y => ?_)
          have B_84396 : bn 48 57 r_84395 := by rw [show r_84395 = r_84383 from er_84395.2.trans er_84383.2.symm]; exact (er_84384.2.1 c_84385).1
          refine lv_iadd hx hb dX12_nextToken_131 ?_
          refine lv_topi (fun x_84397 ex_84397 => ?_)
          refine lv_bipush (v := 48) hx hb dX12_nextToken_132 (by decide) ?_
          refine lv_isub hx hb dX12_nextToken_134 ?_
          refine lv_topi (fun x_84398 ex_84398 => ?_)
          refine pg_put S Y ok_X12 10 (by decide) kf12_104 rfl (fs' := [.ref (ad 1 0), .ref (ad 2 0), .ref (ad 3 0), .ref (ad 4 0), .int td, .int fa, .int fp, .int y85_f7, .int y85_f8, .int y85_f9, .int x_84398, .long y85_f11, .int t0, .int wr, .int so, .ref (ad 5 0), .ref (ad 6 0), .int pd, .int op9, .int cg, .int iw, .int on9, .ref (ad 7 0), .ref (ad 8 0), .ref (ad 9 0), .int is9, .ref (ad 10 0), .ref (ad 11 0), .ref (ad 12 0), .ref (ad 13 0), .int se, .ref (ad 14 0)]) (v := .int x_84398) p_ad_0_0 rfl rfl rfl (Nat.le_of_ble_eq_true rfl) dX12_nextToken_135 (fun f_84399 H locs ef_84399 Y => ?_)
          have p_ad_4_0 := p_ad_4_0.up ef_84399 (I.ne (k := 4) (j := 0) (k' := 0) (j' := 0) (by decide) (by decide) (Or.inl (by decide)))
          have p_ad_5_0 := p_ad_5_0.up ef_84399 (I.ne (k := 5) (j := 0) (k' := 0) (j' := 0) (by decide) (by decide) (Or.inl (by decide)))
          have p_ad_6_0 := p_ad_6_0.up ef_84399 (I.ne (k := 6) (j := 0) (k' := 0) (j' := 0) (by decide) (by decide) (Or.inl (by decide)))
          have p_ad_0_0 := p_ad_0_0.me ef_84399
          have I := I.up (k := 0) (j := 0) (by decide) ef_84399 (okE_o (okFs_c okV_r (okFs_c okV_r (okFs_c okV_r (okFs_c okV_r (okFs_c (okV_p bf85_4) (okFs_c (okV_p bf85_5) (okFs_c (okV_p bf85_6) (okFs_c (okV_i bf85_7) (okFs_c (okV_i bf85_8) (okFs_c (okV_i (bn_any _)) (okFs_c (okV_i (bn_w (bn_eq ex_84398 (bn_sub (bn_eq ex_84397 (bn_add (bn_eq ex_84394 (bn_mul (show bn 10 10 (10 : Int32) from bn_k (by decide)) B_84393 (by decide))) B_84396 (by decide))) (show bn 48 48 (48 : Int32) from bn_k (by decide)) (by decide))) (by decide))) (okFs_c okV_l (okFs_c (okV_i bf85_12) (okFs_c (okV_i bf85_13) (okFs_c (okV_i (bn_any _)) (okFs_c okV_r (okFs_c okV_r (okFs_c (okV_i bf85_17) (okFs_c (okV_i bf85_18) (okFs_c (okV_i bf85_19) (okFs_c (okV_i bf85_20) (okFs_c (okV_i (bn_any _)) (okFs_c okV_r (okFs_c okV_r (okFs_c okV_r (okFs_c (okV_i bf85_25) (okFs_c okV_r (okFs_c okV_r (okFs_c okV_r (okFs_c okV_r (okFs_c (okV_i (bn_any _)) (okFs_c okV_r okFs_n)))))))))))))))))))))))))))))))))
          refine lv_aload_n hx hb dX12_nextToken_138 rfl (lv_at hl 0 rfl) ?_
          refine lv_dup hx hb dX12_nextToken_139 rfl ?_
          refine pg_get S Y ok_X12 7 (by decide) kf12_88 (v := .int y85_f7) p_ad_0_0 rfl dX12_nextToken_140 ?_
          refine lv_iconst (v := 1) hx hb dX12_nextToken_143 (by decide) ?_
          refine lv_iadd hx hb dX12_nextToken_144 ?_
          refine lv_topi (fun x_84400 ex_84400 => ?_)
          refine pg_put S Y ok_X12 7 (by decide) kf12_88 rfl (fs' := [.ref (ad 1 0), .ref (ad 2 0), .ref (ad 3 0), .ref (ad 4 0), .int td, .int fa, .int fp, .int x_84400, .int y85_f8, .int y85_f9, .int x_84398, .long y85_f11, .int t0, .int wr, .int so, .ref (ad 5 0), .ref (ad 6 0), .int pd, .int op9, .int cg, .int iw, .int on9, .ref (ad 7 0), .ref (ad 8 0), .ref (ad 9 0), .int is9, .ref (ad 10 0), .ref (ad 11 0), .ref (ad 12 0), .ref (ad 13 0), .int se, .ref (ad 14 0)]) (v := .int x_84400) p_ad_0_0 rfl rfl rfl (Nat.le_of_ble_eq_true rfl) dX12_nextToken_145 (fun f_84401 H locs ef_84401 Y => ?_)
          have p_ad_4_0 := p_ad_4_0.up ef_84401 (I.ne (k := 4) (j := 0) (k' := 0) (j' := 0) (by decide) (by decide) (Or.inl (by decide)))
          have p_ad_5_0 := p_ad_5_0.up ef_84401 (I.ne (k := 5) (j := 0) (k' := 0) (j' := 0) (by decide) (by decide) (Or.inl (by decide)))
          have p_ad_6_0 := p_ad_6_0.up ef_84401 (I.ne (k := 6) (j := 0) (k' := 0) (j' := 0) (by decide) (by decide) (Or.inl (by decide)))
          have p_ad_0_0 := p_ad_0_0.me ef_84401
          have I := I.up (k := 0) (j := 0) (by decide) ef_84401 (okE_o (okFs_c okV_r (okFs_c okV_r (okFs_c okV_r (okFs_c okV_r (okFs_c (okV_p bf85_4) (okFs_c (okV_p bf85_5) (okFs_c (okV_p bf85_6) (okFs_c (okV_i (bn_w (bn_eq ex_84400 (bn_add B_84388 (show bn 1 1 (1 : Int32) from bn_k (by decide)) (by decide))) (by decide))) (okFs_c (okV_i bf85_8) (okFs_c (okV_i (bn_any _)) (okFs_c (okV_i (bn_w (bn_eq ex_84398 (bn_sub (bn_eq ex_84397 (bn_add (bn_eq ex_84394 (bn_mul (show bn 10 10 (10 : Int32) from bn_k (by decide)) B_84393 (by decide))) B_84396 (by decide))) (show bn 48 48 (48 : Int32) from bn_k (by decide)) (by decide))) (by decide))) (okFs_c okV_l (okFs_c (okV_i bf85_12) (okFs_c (okV_i bf85_13) (okFs_c (okV_i (bn_any _)) (okFs_c okV_r (okFs_c okV_r (okFs_c (okV_i bf85_17) (okFs_c (okV_i bf85_18) (okFs_c (okV_i bf85_19) (okFs_c (okV_i bf85_20) (okFs_c (okV_i (bn_any _)) (okFs_c okV_r (okFs_c okV_r (okFs_c okV_r (okFs_c (okV_i bf85_25) (okFs_c okV_r (okFs_c okV_r (okFs_c okV_r (okFs_c okV_r (okFs_c (okV_i (bn_any _)) (okFs_c okV_r okFs_n)))))))))))))))))))))))))))))))))
          refine lv_goto (tgt := 85) hx hb dX12_nextToken_148 (by decide) ?_
          exact ih85 _ (by rw [← hm85]; exact ms_up (m := 1) ex_84400 (show bn 1 1 (1 : Int32) from bn_k (by decide)) B_84388 (bn_w (bn_eq ex_84400 (bn_add B_84388 (show bn 1 1 (1 : Int32) from bn_k (by decide)) (by decide))) (by decide) : bn 0 300 x_84400) (by decide)) y85_1 x_84400 y85_f8 y85_f9 x_84398 y85_f11 _ _  _ _ _ I (bn_w b_y85_1 (by decide)) (bn_w (bn_eq ex_84400 (bn_add B_84388 (show bn 1 1 (1 : Int32) from bn_k (by decide)) (by decide))) (by decide)) (bn_w b_y85_f8 (by decide)) (bn_w b_y85_f9 (by decide)) (bn_w (bn_eq ex_84398 (bn_sub (bn_eq ex_84397 (bn_add (bn_eq ex_84394 (bn_mul (show bn 10 10 (10 : Int32) from bn_k (by decide)) B_84393 (by decide))) B_84396 (by decide))) (show bn 48 48 (48 : Int32) from bn_k (by decide)) (by decide))) (by decide)) ⟨⟨h85.1.1, Or.inl (by have z9 := (la_add ex_84400 (rfl : y85_f7.toInt = y85_f7.toInt) (show (1 : Int32).toInt = 1 from rfl) B_84388 (show bn 1 1 (1 : Int32) from bn_k (by decide)) (by decide)); rcases h85.1.2 with z8 | ⟨z8, _⟩ <;> (try rw [z8]) <;> omega)⟩, ⟨h85.2.1, h85.2.2.1, h85.2.2.2.1, DG_s h85.2.2.2.2 (show _ < ((td.toInt.toNat : Nat) : Int) from by have k9 := (BY_lt er_84383.2 (ge_nm9 (bn_w B_84387 (by decide)))); omega) (by rw [← (BY_in er_84383.2 ((bn_w (a' := 0) (b' := 2147483647) B_84388 (by decide))).1 (BY_lt er_84383.2 (ge_nm9 (bn_w B_84387 (by decide)))))]; exact FG_dg (er_84384.2.1 c_84385).2) (la_add ex_84400 (rfl : y85_f7.toInt = y85_f7.toInt) (show (1 : Int32).toInt = 1 from rfl) B_84388 (show bn 1 1 (1 : Int32) from bn_k (by decide)) (by decide)) (Or.inr ⟨by have z9 := c_84390; rw [Int32.le_iff_toInt_le] at z9; exact z9, by have z9 := (la_sub ex_84398 (la_add ex_84397 (la_mul ex_84394 (show (10 : Int32).toInt = 10 from rfl) (rfl : y85_f10.toInt = y85_f10.toInt) (show bn 10 10 (10 : Int32) from bn_k (by decide)) B_84393 (by decide)) (rfl : r_84395.toInt = r_84395.toInt) (bn_eq ex_84394 (bn_mul (show bn 10 10 (10 : Int32) from bn_k (by decide)) B_84393 (by decide))) B_84396 (by decide)) (show (48 : Int32).toInt = 48 from rfl) (bn_eq ex_84397 (bn_add (bn_eq ex_84394 (bn_mul (show bn 10 10 (10 : Int32) from bn_k (by decide)) B_84393 (by decide))) B_84396 (by decide))) (show bn 48 48 (48 : Int32) from bn_k (by decide)) (by decide)); have z8 := (BY_in er_84395.2 ((bn_w (a' := 0) (b' := 2147483647) B_84388 (by decide))).1 (BY_lt er_84383.2 (ge_nm9 (bn_w B_84387 (by decide))))); omega⟩)⟩⟩ p_ad_0_0 p_ad_4_0 p_ad_5_0 p_ad_6_0 rfl Y (lv_sub hl [0, 1] rfl)
        · have B_84392 : bn 100000 1000000 y85_f10 := bn_w (bn_gtl c_84390 b_y85_f10 (show bn 99999 99999 (99999 : Int32) from bn_k (by decide))) (by decide)
          refine lv_aload_n hx hb dX12_nextToken_109 rfl (lv_at hl 0 rfl) ?_
          refine pg_get S Y ok_X12 10 (by decide) kf12_104 (v := .int y85_f10) p_ad_0_0 rfl dX12_nextToken_110 ?_
          refine lv_goto (tgt := 135) hx hb dX12_nextToken_113 (by decide) ?_
          refine pg_put S Y ok_X12 10 (by decide) kf12_104 rfl (fs' := [.ref (ad 1 0), .ref (ad 2 0), .ref (ad 3 0), .ref (ad 4 0), .int td, .int fa, .int fp, .int y85_f7, .int y85_f8, .int y85_f9, .int y85_f10, .long y85_f11, .int t0, .int wr, .int so, .ref (ad 5 0), .ref (ad 6 0), .int pd, .int op9, .int cg, .int iw, .int on9, .ref (ad 7 0), .ref (ad 8 0), .ref (ad 9 0), .int is9, .ref (ad 10 0), .ref (ad 11 0), .ref (ad 12 0), .ref (ad 13 0), .int se, .ref (ad 14 0)]) (v := .int y85_f10) p_ad_0_0 rfl rfl rfl (Nat.le_of_ble_eq_true rfl) dX12_nextToken_135 (fun f_84402 H locs ef_84402 Y => ?_)
          have p_ad_4_0 := p_ad_4_0.up ef_84402 (I.ne (k := 4) (j := 0) (k' := 0) (j' := 0) (by decide) (by decide) (Or.inl (by decide)))
          have p_ad_5_0 := p_ad_5_0.up ef_84402 (I.ne (k := 5) (j := 0) (k' := 0) (j' := 0) (by decide) (by decide) (Or.inl (by decide)))
          have p_ad_6_0 := p_ad_6_0.up ef_84402 (I.ne (k := 6) (j := 0) (k' := 0) (j' := 0) (by decide) (by decide) (Or.inl (by decide)))
          have p_ad_0_0 := p_ad_0_0.me ef_84402
          have I := I.up (k := 0) (j := 0) (by decide) ef_84402 (okE_o (okFs_c okV_r (okFs_c okV_r (okFs_c okV_r (okFs_c okV_r (okFs_c (okV_p bf85_4) (okFs_c (okV_p bf85_5) (okFs_c (okV_p bf85_6) (okFs_c (okV_i bf85_7) (okFs_c (okV_i bf85_8) (okFs_c (okV_i (bn_any _)) (okFs_c (okV_i (bn_w B_84392 (by decide))) (okFs_c okV_l (okFs_c (okV_i bf85_12) (okFs_c (okV_i bf85_13) (okFs_c (okV_i (bn_any _)) (okFs_c okV_r (okFs_c okV_r (okFs_c (okV_i bf85_17) (okFs_c (okV_i bf85_18) (okFs_c (okV_i bf85_19) (okFs_c (okV_i bf85_20) (okFs_c (okV_i (bn_any _)) (okFs_c okV_r (okFs_c okV_r (okFs_c okV_r (okFs_c (okV_i bf85_25) (okFs_c okV_r (okFs_c okV_r (okFs_c okV_r (okFs_c okV_r (okFs_c (okV_i (bn_any _)) (okFs_c okV_r okFs_n)))))))))))))))))))))))))))))))))
          refine lv_aload_n hx hb dX12_nextToken_138 rfl (lv_at hl 0 rfl) ?_
          refine lv_dup hx hb dX12_nextToken_139 rfl ?_
          refine pg_get S Y ok_X12 7 (by decide) kf12_88 (v := .int y85_f7) p_ad_0_0 rfl dX12_nextToken_140 ?_
          refine lv_iconst (v := 1) hx hb dX12_nextToken_143 (by decide) ?_
          refine lv_iadd hx hb dX12_nextToken_144 ?_
          refine lv_topi (fun x_84403 ex_84403 => ?_)
          refine pg_put S Y ok_X12 7 (by decide) kf12_88 rfl (fs' := [.ref (ad 1 0), .ref (ad 2 0), .ref (ad 3 0), .ref (ad 4 0), .int td, .int fa, .int fp, .int x_84403, .int y85_f8, .int y85_f9, .int y85_f10, .long y85_f11, .int t0, .int wr, .int so, .ref (ad 5 0), .ref (ad 6 0), .int pd, .int op9, .int cg, .int iw, .int on9, .ref (ad 7 0), .ref (ad 8 0), .ref (ad 9 0), .int is9, .ref (ad 10 0), .ref (ad 11 0), .ref (ad 12 0), .ref (ad 13 0), .int se, .ref (ad 14 0)]) (v := .int x_84403) p_ad_0_0 rfl rfl rfl (Nat.le_of_ble_eq_true rfl) dX12_nextToken_145 (fun f_84404 H locs ef_84404 Y => ?_)
          have p_ad_4_0 := p_ad_4_0.up ef_84404 (I.ne (k := 4) (j := 0) (k' := 0) (j' := 0) (by decide) (by decide) (Or.inl (by decide)))
          have p_ad_5_0 := p_ad_5_0.up ef_84404 (I.ne (k := 5) (j := 0) (k' := 0) (j' := 0) (by decide) (by decide) (Or.inl (by decide)))
          have p_ad_6_0 := p_ad_6_0.up ef_84404 (I.ne (k := 6) (j := 0) (k' := 0) (j' := 0) (by decide) (by decide) (Or.inl (by decide)))
          have p_ad_0_0 := p_ad_0_0.me ef_84404
          have I := I.up (k := 0) (j := 0) (by decide) ef_84404 (okE_o (okFs_c okV_r (okFs_c okV_r (okFs_c okV_r (okFs_c okV_r (okFs_c (okV_p bf85_4) (okFs_c (okV_p bf85_5) (okFs_c (okV_p bf85_6) (okFs_c (okV_i (bn_w (bn_eq ex_84403 (bn_add B_84388 (show bn 1 1 (1 : Int32) from bn_k (by decide)) (by decide))) (by decide))) (okFs_c (okV_i bf85_8) (okFs_c (okV_i (bn_any _)) (okFs_c (okV_i (bn_w B_84392 (by decide))) (okFs_c okV_l (okFs_c (okV_i bf85_12) (okFs_c (okV_i bf85_13) (okFs_c (okV_i (bn_any _)) (okFs_c okV_r (okFs_c okV_r (okFs_c (okV_i bf85_17) (okFs_c (okV_i bf85_18) (okFs_c (okV_i bf85_19) (okFs_c (okV_i bf85_20) (okFs_c (okV_i (bn_any _)) (okFs_c okV_r (okFs_c okV_r (okFs_c okV_r (okFs_c (okV_i bf85_25) (okFs_c okV_r (okFs_c okV_r (okFs_c okV_r (okFs_c okV_r (okFs_c (okV_i (bn_any _)) (okFs_c okV_r okFs_n)))))))))))))))))))))))))))))))))
          refine lv_goto (tgt := 85) hx hb dX12_nextToken_148 (by decide) ?_
          exact ih85 _ (by rw [← hm85]; exact ms_up (m := 1) ex_84403 (show bn 1 1 (1 : Int32) from bn_k (by decide)) B_84388 (bn_w (bn_eq ex_84403 (bn_add B_84388 (show bn 1 1 (1 : Int32) from bn_k (by decide)) (by decide))) (by decide) : bn 0 300 x_84403) (by decide)) y85_1 x_84403 y85_f8 y85_f9 y85_f10 y85_f11 _ _  _ _ _ I (bn_w b_y85_1 (by decide)) (bn_w (bn_eq ex_84403 (bn_add B_84388 (show bn 1 1 (1 : Int32) from bn_k (by decide)) (by decide))) (by decide)) (bn_w b_y85_f8 (by decide)) (bn_w b_y85_f9 (by decide)) (bn_w B_84392 (by decide)) ⟨⟨h85.1.1, Or.inl (by have z9 := (la_add ex_84403 (rfl : y85_f7.toInt = y85_f7.toInt) (show (1 : Int32).toInt = 1 from rfl) B_84388 (show bn 1 1 (1 : Int32) from bn_k (by decide)) (by decide)); rcases h85.1.2 with z8 | ⟨z8, _⟩ <;> (try rw [z8]) <;> omega)⟩, ⟨h85.2.1, h85.2.2.1, h85.2.2.2.1, DG_s h85.2.2.2.2 (show _ < ((td.toInt.toNat : Nat) : Int) from by have k9 := (BY_lt er_84383.2 (ge_nm9 (bn_w B_84387 (by decide)))); omega) (by rw [← (BY_in er_84383.2 ((bn_w (a' := 0) (b' := 2147483647) B_84388 (by decide))).1 (BY_lt er_84383.2 (ge_nm9 (bn_w B_84387 (by decide)))))]; exact FG_dg (er_84384.2.1 c_84385).2) (la_add ex_84403 (rfl : y85_f7.toInt = y85_f7.toInt) (show (1 : Int32).toInt = 1 from rfl) B_84388 (show bn 1 1 (1 : Int32) from bn_k (by decide)) (by decide)) (Or.inl ⟨by have z9 := (Int32.not_le.mp c_84390); rw [Int32.lt_iff_toInt_lt] at z9; exact z9, rfl⟩)⟩⟩ p_ad_0_0 p_ad_4_0 p_ad_5_0 p_ad_6_0 rfl Y (lv_sub hl [0, 1] rfl)
  have J_0 : ∀ (n0 : Nat) (y0_f7 y0_f8 y0_f9 y0_f10 : Int32) (y0_f11 : Int64) (L_0 : List Nat) (f_0 : HF) (H : Heap) (locs : List Loc) (ls : Array Slot), (SH (spM PA PI PX pa) nnM G ad L_0 f_0) → (bn 0 300 y0_f7) → (bn 0 300 y0_f8) → (at9.toInt ≤ y0_f7.toInt ∧ SKI (bI gt) td.toInt.toNat at9.toInt.toNat y0_f7) → (pt L_0 f_0 (ad 0 0) (.inr (12, [.ref (ad 1 0), .ref (ad 2 0), .ref (ad 3 0), .ref (ad 4 0), .int td, .int fa, .int fp, .int y0_f7, .int y0_f8, .int y0_f9, .int y0_f10, .long y0_f11, .int t0, .int wr, .int so, .ref (ad 5 0), .ref (ad 6 0), .int pd, .int op9, .int cg, .int iw, .int on9, .ref (ad 7 0), .ref (ad 8 0), .ref (ad 9 0), .int is9, .ref (ad 10 0), .ref (ad 11 0), .ref (ad 12 0), .ref (ad 13 0), .int se, .ref (ad 14 0)]))) → (pt L_0 f_0 (ad 4 0) (.inl (G.2 0, 300, .inl gt))) → (pt L_0 f_0 (ad 5 0) (.inl (G.2 0, 160, .inl gp))) → (pt L_0 f_0 (ad 6 0) (.inl (G.2 0, 9, .inl gc))) → (((300 : Int) - y0_f7.toInt).toNat = n0) → (DY G A s [] L_0 f_0 H locs) → (lv_has ls 2 [(0, .ref (ad 0 0))]) → W p l e (rmD 1 0 0) s m args below meth c H locs (0) (0) (MQ below (va_Qv (fun (u : List Nat × HF) => (fun L1 f1 => ∃ at92 : Int32, ∃ ps92 : Int32, ∃ tk2 : Int32, ∃ nu2 : Int32, ∃ wd2 : Int64, SH (spM PA PI PX pa) nnM G ad L1 f1 ∧ pt L1 f1 (ad 0 0) (.inr (12, [.ref (ad 1 0), .ref (ad 2 0), .ref (ad 3 0), .ref (ad 4 0), .int td, .int fa, .int fp, .int at92, .int ps92, .int tk2, .int nu2, .long wd2, .int t0, .int wr, .int so, .ref (ad 5 0), .ref (ad 6 0), .int pd, .int op9, .int cg, .int iw, .int on9, .ref (ad 7 0), .ref (ad 8 0), .ref (ad 9 0), .int is9, .ref (ad 10 0), .ref (ad 11 0), .ref (ad 12 0), .ref (ad 13 0), .int se, .ref (ad 14 0)])) ∧ pt L1 f1 (ad 4 0) (.inl (G.2 0, 300, .inl gt)) ∧ pt L1 f1 (ad 5 0) (.inl (G.2 0, 160, .inl gp)) ∧ pt L1 f1 (ad 6 0) (.inl (G.2 0, 9, .inl gc)) ∧ TK at92 ps92 tk2 ∧ at9.toInt ≤ ps92.toInt ∧ NT9 (bI gt) td.toInt.toNat at9.toInt.toNat at92 ps92 tk2 nu2 wd2) u.1 u.2) (fun u t => pOut G (va_A (va_pl L f) sz) u.1 u.2 t) (va_A (va_pl L f) sz)) args s 0 0 A) (F0 m 0 ls []) := by
    intro n0
    induction n0 using Nat.strongRecOn with
    | _ n0 ih0 =>
      intro y0_f7 y0_f8 y0_f9 y0_f10 y0_f11 L_0 f_0 H locs ls I b_y0_f7 b_y0_f8 hat p_ad_0_0 p_ad_4_0 p_ad_5_0 p_ad_6_0 hm0 Y hl
      obtain ⟨bf0_4, bf0_5, bf0_6, bf0_7, bf0_8, bf0_12, bf0_13, bf0_17, bf0_18, bf0_19, bf0_20, bf0_25⟩ := obM I p_ad_0_0
      refine lv_aload_n hx hb dX12_nextToken_0 rfl (lv_at hl 0 rfl) ?_
      refine lv_aload_n hx hb dX12_nextToken_1 rfl (lv_at hl 0 rfl) ?_
      refine pg_get S Y ok_X12 7 (by decide) kf12_88 (v := .int y0_f7) p_ad_0_0 rfl dX12_nextToken_2 ?_
      refine cVp (As := [.int y0_f7]) (rest := []) S Y (x_X12_byteAt (l := l) I p_ad_0_0 p_ad_4_0 (bn_w bf0_7 (by decide))) cw_X12_byteAt km12_91 p_ad_0_0 ok_X12.1 rfl rfl ⟨Nat.le_of_ble_eq_true rfl, Nat.le_of_ble_eq_true rfl⟩ hl.1 rfl (Nat.le_of_ble_eq_true rfl) ⟨Nat.le_of_ble_eq_true rfl, Nat.le_of_ble_eq_true rfl⟩ dX12_nextToken_5 (fun r_84405 H locs er_84405 Y => ?_)
      refine lv_bipush (v := 32) hx hb dX12_nextToken_8 (by decide) ?_
      refine lv_icmp_eq (tgt := 26) hx hb dX12_nextToken_10 (by decide) (fun c_84406 => ?_) (fun c_84406 => ?_)
      · have B_84407 : bn 32 32 r_84405 := bn_w (bn_eq c_84406 (show bn 32 32 (32 : Int32) from bn_k (by decide))) (by decide)
        have B_84408 : bn 0 299 y0_f7 := bn_w (bn_i bf0_7 (er_84405.1 (bd_ne B_84407 (show bn (-1) (-1) (-1 : Int32) from bn_k (by decide)) (by decide)))) (by decide)
        refine lv_aload_n hx hb dX12_nextToken_26 rfl (lv_at hl 0 rfl) ?_
        refine lv_dup hx hb dX12_nextToken_27 rfl ?_
        refine pg_get S Y ok_X12 7 (by decide) kf12_88 (v := .int y0_f7) p_ad_0_0 rfl dX12_nextToken_28 ?_
        refine lv_iconst (v := 1) hx hb dX12_nextToken_31 (by decide) ?_
        refine lv_iadd hx hb dX12_nextToken_32 ?_
        refine lv_topi (fun x_84409 ex_84409 => ?_)
        refine pg_put S Y ok_X12 7 (by decide) kf12_88 rfl (fs' := [.ref (ad 1 0), .ref (ad 2 0), .ref (ad 3 0), .ref (ad 4 0), .int td, .int fa, .int fp, .int x_84409, .int y0_f8, .int y0_f9, .int y0_f10, .long y0_f11, .int t0, .int wr, .int so, .ref (ad 5 0), .ref (ad 6 0), .int pd, .int op9, .int cg, .int iw, .int on9, .ref (ad 7 0), .ref (ad 8 0), .ref (ad 9 0), .int is9, .ref (ad 10 0), .ref (ad 11 0), .ref (ad 12 0), .ref (ad 13 0), .int se, .ref (ad 14 0)]) (v := .int x_84409) p_ad_0_0 rfl rfl rfl (Nat.le_of_ble_eq_true rfl) dX12_nextToken_33 (fun f_84410 H locs ef_84410 Y => ?_)
        have p_ad_4_0 := p_ad_4_0.up ef_84410 (I.ne (k := 4) (j := 0) (k' := 0) (j' := 0) (by decide) (by decide) (Or.inl (by decide)))
        have p_ad_5_0 := p_ad_5_0.up ef_84410 (I.ne (k := 5) (j := 0) (k' := 0) (j' := 0) (by decide) (by decide) (Or.inl (by decide)))
        have p_ad_6_0 := p_ad_6_0.up ef_84410 (I.ne (k := 6) (j := 0) (k' := 0) (j' := 0) (by decide) (by decide) (Or.inl (by decide)))
        have p_ad_0_0 := p_ad_0_0.me ef_84410
        have I := I.up (k := 0) (j := 0) (by decide) ef_84410 (okE_o (okFs_c okV_r (okFs_c okV_r (okFs_c okV_r (okFs_c okV_r (okFs_c (okV_p bf0_4) (okFs_c (okV_p bf0_5) (okFs_c (okV_p bf0_6) (okFs_c (okV_i (bn_w (bn_eq ex_84409 (bn_add B_84408 (show bn 1 1 (1 : Int32) from bn_k (by decide)) (by decide))) (by decide))) (okFs_c (okV_i bf0_8) (okFs_c (okV_i (bn_any _)) (okFs_c (okV_i (bn_any _)) (okFs_c okV_l (okFs_c (okV_i bf0_12) (okFs_c (okV_i bf0_13) (okFs_c (okV_i (bn_any _)) (okFs_c okV_r (okFs_c okV_r (okFs_c (okV_i bf0_17) (okFs_c (okV_i bf0_18) (okFs_c (okV_i bf0_19) (okFs_c (okV_i bf0_20) (okFs_c (okV_i (bn_any _)) (okFs_c okV_r (okFs_c okV_r (okFs_c okV_r (okFs_c (okV_i bf0_25) (okFs_c okV_r (okFs_c okV_r (okFs_c okV_r (okFs_c okV_r (okFs_c (okV_i (bn_any _)) (okFs_c okV_r okFs_n)))))))))))))))))))))))))))))))))
        refine lv_goto (tgt := 0) hx hb dX12_nextToken_36 (by decide) ?_
        exact ih0 _ (by rw [← hm0]; exact ms_up (m := 1) ex_84409 (show bn 1 1 (1 : Int32) from bn_k (by decide)) B_84408 (bn_w (bn_eq ex_84409 (bn_add B_84408 (show bn 1 1 (1 : Int32) from bn_k (by decide)) (by decide))) (by decide) : bn 0 300 x_84409) (by decide)) x_84409 y0_f8 y0_f9 y0_f10 y0_f11 _ _  _ _ _ I (bn_w (bn_eq ex_84409 (bn_add B_84408 (show bn 1 1 (1 : Int32) from bn_k (by decide)) (by decide))) (by decide)) (bn_w bf0_8 (by decide)) ⟨by have z9 := (la_add ex_84409 (rfl : y0_f7.toInt = y0_f7.toInt) (show (1 : Int32).toInt = 1 from rfl) B_84408 (show bn 1 1 (1 : Int32) from bn_k (by decide)) (by decide)); have z8 := hat.1; omega, SK_s hat.2 (show _ < ((td.toInt.toNat : Nat) : Int) from by have k9 := (BY_lt er_84405.2 (by rw [c_84406]; decide)); omega) (Or.inl ((BY_in er_84405.2 ((bn_w (a' := 0) (b' := 2147483647) B_84408 (by decide))).1 (BY_lt er_84405.2 (by rw [c_84406]; decide))).symm.trans (by rw [c_84406]; rfl))) (la_add ex_84409 (rfl : y0_f7.toInt = y0_f7.toInt) (show (1 : Int32).toInt = 1 from rfl) B_84408 (show bn 1 1 (1 : Int32) from bn_k (by decide)) (by decide))⟩ p_ad_0_0 p_ad_4_0 p_ad_5_0 p_ad_6_0 rfl Y (lv_sub hl [0] rfl)
      · refine lv_aload_n hx hb dX12_nextToken_13 rfl (lv_at hl 0 rfl) ?_
        refine lv_aload_n hx hb dX12_nextToken_14 rfl (lv_at hl 0 rfl) ?_
        refine pg_get S Y ok_X12 7 (by decide) kf12_88 (v := .int y0_f7) p_ad_0_0 rfl dX12_nextToken_15 ?_
        refine cVp (As := [.int y0_f7]) (rest := []) S Y (x_X12_byteAt (l := l) I p_ad_0_0 p_ad_4_0 (bn_w bf0_7 (by decide))) cw_X12_byteAt km12_91 p_ad_0_0 ok_X12.1 rfl rfl ⟨Nat.le_of_ble_eq_true rfl, Nat.le_of_ble_eq_true rfl⟩ hl.1 rfl (Nat.le_of_ble_eq_true rfl) ⟨Nat.le_of_ble_eq_true rfl, Nat.le_of_ble_eq_true rfl⟩ dX12_nextToken_18 (fun r_84411 H locs er_84411 Y => ?_)
        refine lv_bipush (v := 10) hx hb dX12_nextToken_21 (by decide) ?_
        refine lv_icmp_ne (tgt := 39) hx hb dX12_nextToken_23 (by decide) (fun c_84412 => ?_) (fun c_84412 => ?_)
        · have hSK := SK_e (B := bI gt) (n := td.toInt.toNat) (q := at9.toInt.toNat) hat.2 (fun z => z.2.elim (fun q => c_84406 (Int32.toInt_inj.mp ((BY_in er_84405.2 ((bn_w (a' := 0) (b' := 2147483647) bf0_7 (by decide))).1 (by have k9 := z.1; have k7 := (show 0 ≤ td.toInt from (bn_w (a' := 0) (b' := 300) bfe_4 (lim_b _ _ _)).1); omega)).trans (q.trans rfl)))) (fun q => c_84412 (Int32.toInt_inj.mp ((BY_in er_84411.2 ((bn_w (a' := 0) (b' := 2147483647) bf0_7 (by decide))).1 (by have k9 := z.1; have k7 := (show 0 ≤ td.toInt from (bn_w (a' := 0) (b' := 300) bfe_4 (lim_b _ _ _)).1); omega)).trans (q.trans rfl)))))
          have hSP : y0_f7.toInt = (skB (bI gt) td.toInt.toNat td.toInt.toNat at9.toInt.toNat : Int) := by rw [hSK]; have k9 := ((bn_w (a' := 0) (b' := 2147483647) bf0_7 (by decide))).1; omega
          refine lv_aload_n hx hb dX12_nextToken_39 rfl (lv_at hl 0 rfl) ?_
          refine lv_aload_n hx hb dX12_nextToken_40 rfl (lv_at hl 0 rfl) ?_
          refine pg_get S Y ok_X12 7 (by decide) kf12_88 (v := .int y0_f7) p_ad_0_0 rfl dX12_nextToken_41 ?_
          refine pg_put S Y ok_X12 8 (by decide) kf12_95 rfl (fs' := [.ref (ad 1 0), .ref (ad 2 0), .ref (ad 3 0), .ref (ad 4 0), .int td, .int fa, .int fp, .int y0_f7, .int y0_f7, .int y0_f9, .int y0_f10, .long y0_f11, .int t0, .int wr, .int so, .ref (ad 5 0), .ref (ad 6 0), .int pd, .int op9, .int cg, .int iw, .int on9, .ref (ad 7 0), .ref (ad 8 0), .ref (ad 9 0), .int is9, .ref (ad 10 0), .ref (ad 11 0), .ref (ad 12 0), .ref (ad 13 0), .int se, .ref (ad 14 0)]) (v := .int y0_f7) p_ad_0_0 rfl rfl rfl (Nat.le_of_ble_eq_true rfl) dX12_nextToken_44 (fun f_84415 H locs ef_84415 Y => ?_)
          have p_ad_4_0 := p_ad_4_0.up ef_84415 (I.ne (k := 4) (j := 0) (k' := 0) (j' := 0) (by decide) (by decide) (Or.inl (by decide)))
          have p_ad_5_0 := p_ad_5_0.up ef_84415 (I.ne (k := 5) (j := 0) (k' := 0) (j' := 0) (by decide) (by decide) (Or.inl (by decide)))
          have p_ad_6_0 := p_ad_6_0.up ef_84415 (I.ne (k := 6) (j := 0) (k' := 0) (j' := 0) (by decide) (by decide) (Or.inl (by decide)))
          have p_ad_0_0 := p_ad_0_0.me ef_84415
          have I := I.up (k := 0) (j := 0) (by decide) ef_84415 (okE_o (okFs_c okV_r (okFs_c okV_r (okFs_c okV_r (okFs_c okV_r (okFs_c (okV_p bf0_4) (okFs_c (okV_p bf0_5) (okFs_c (okV_p bf0_6) (okFs_c (okV_i bf0_7) (okFs_c (okV_i (bn_w bf0_7 (by decide))) (okFs_c (okV_i (bn_any _)) (okFs_c (okV_i (bn_any _)) (okFs_c okV_l (okFs_c (okV_i bf0_12) (okFs_c (okV_i bf0_13) (okFs_c (okV_i (bn_any _)) (okFs_c okV_r (okFs_c okV_r (okFs_c (okV_i bf0_17) (okFs_c (okV_i bf0_18) (okFs_c (okV_i bf0_19) (okFs_c (okV_i bf0_20) (okFs_c (okV_i (bn_any _)) (okFs_c okV_r (okFs_c okV_r (okFs_c okV_r (okFs_c (okV_i bf0_25) (okFs_c okV_r (okFs_c okV_r (okFs_c okV_r (okFs_c okV_r (okFs_c (okV_i (bn_any _)) (okFs_c okV_r okFs_n)))))))))))))))))))))))))))))))))
          refine lv_aload_n hx hb dX12_nextToken_47 rfl (lv_at hl 0 rfl) ?_
          refine lv_aload_n hx hb dX12_nextToken_48 rfl (lv_at hl 0 rfl) ?_
          refine pg_get S Y ok_X12 7 (by decide) kf12_88 (v := .int y0_f7) p_ad_0_0 rfl dX12_nextToken_49 ?_
          refine cVp (As := [.int y0_f7]) (rest := []) S Y (x_X12_byteAt (l := l) I p_ad_0_0 p_ad_4_0 (bn_w bf0_7 (by decide))) cw_X12_byteAt km12_91 p_ad_0_0 ok_X12.1 rfl rfl ⟨Nat.le_of_ble_eq_true rfl, Nat.le_of_ble_eq_true rfl⟩ hl.1 rfl (Nat.le_of_ble_eq_true rfl) ⟨Nat.le_of_ble_eq_true rfl, Nat.le_of_ble_eq_true rfl⟩ dX12_nextToken_52 (fun r_84416 H locs er_84416 Y => ?_)
          refine lv_istore_n (lv' := [(1, .int r_84416), (0, .ref (ad 0 0))]) hx hb dX12_nextToken_55 rfl hl (by decide) rfl (fun ls hl => ?_)
          refine lv_iload_n hx hb dX12_nextToken_56 rfl (lv_at hl 0 rfl) ?_
          refine lv_if_ge (tgt := 68) hx hb dX12_nextToken_57 (by decide) (fun c_84417 => ?_) (fun c_84417 => ?_)
          · have B_84418 : bn 0 2147483647 r_84416 := bn_w (bn_ler c_84417 (show bn 0 0 (0 : Int32) from bn_k (by decide)) (bn_any r_84416)) (by decide)
            have B_84419 : bn 0 299 y0_f7 := bn_w (bn_i bf0_7 (er_84416.1 (bd_ne B_84418 (show bn (-1) (-1) (-1 : Int32) from bn_k (by decide)) (by decide)))) (by decide)
            refine lv_iload_n hx hb dX12_nextToken_68 rfl (lv_at hl 0 rfl) ?_
            refine cSp (As := [.int r_84416]) (rest := []) S Y (x_X12_isFigure (l := l) ) cw_X12_isFigure km12_101 rfl ⟨Nat.le_of_ble_eq_true rfl, Nat.le_of_ble_eq_true rfl⟩ hl.1 rfl (Nat.le_of_ble_eq_true rfl) ⟨Nat.le_of_ble_eq_true rfl, Nat.le_of_ble_eq_true rfl⟩ dX12_nextToken_69 (fun r_84421 H locs er_84421 Y => ?_)
            refine lv_if_eq (tgt := 151) hx hb dX12_nextToken_72 (by decide) (fun c_84422 => ?_) (fun c_84422 => ?_)
            · have B_84423 : bn 0 0 r_84421 := bn_w (bn_eq c_84422 (show bn 0 0 (0 : Int32) from bn_k (by decide))) (by decide)
              refine lv_iload_n hx hb dX12_nextToken_151 rfl (lv_at hl 0 rfl) ?_
              refine cSp (As := [.int r_84416]) (rest := []) S Y (x_X12_isLetterByte (l := l) ) cw_X12_isLetterByte km12_108 rfl ⟨Nat.le_of_ble_eq_true rfl, Nat.le_of_ble_eq_true rfl⟩ hl.1 rfl (Nat.le_of_ble_eq_true rfl) ⟨Nat.le_of_ble_eq_true rfl, Nat.le_of_ble_eq_true rfl⟩ dX12_nextToken_152 (fun r_84426 H locs er_84426 Y => ?_)
              refine lv_if_eq (tgt := 234) hx hb dX12_nextToken_155 (by decide) (fun c_84427 => ?_) (fun c_84427 => ?_)
              · have B_84428 : bn 0 0 r_84426 := bn_w (bn_eq c_84427 (show bn 0 0 (0 : Int32) from bn_k (by decide))) (by decide)
                refine lv_aload_n hx hb dX12_nextToken_234 rfl (lv_at hl 1 rfl) ?_
                refine lv_iload_n hx hb dX12_nextToken_235 rfl (lv_at hl 0 rfl) ?_
                refine cSp (As := [.int r_84416]) (rest := [.ref (ad 0 0)]) S Y (x_X12_isSign (l := l) ) cw_X12_isSign km12_117 rfl ⟨Nat.le_of_ble_eq_true rfl, Nat.le_of_ble_eq_true rfl⟩ hl.1 rfl (Nat.le_of_ble_eq_true rfl) ⟨Nat.le_of_ble_eq_true rfl, Nat.le_of_ble_eq_true rfl⟩ dX12_nextToken_236 (fun r_84431 H locs er_84431 Y => ?_)
                refine lv_if_eq (tgt := 246) hx hb dX12_nextToken_239 (by decide) (fun c_84432 => ?_) (fun c_84432 => ?_)
                · have B_84433 : bn 0 0 r_84431 := bn_w (bn_eq c_84432 (show bn 0 0 (0 : Int32) from bn_k (by decide))) (by decide)
                  refine lv_iconst (v := 3) hx hb dX12_nextToken_246 (by decide) ?_
                  refine pg_put S Y ok_X12 9 (by decide) kf12_98 rfl (fs' := [.ref (ad 1 0), .ref (ad 2 0), .ref (ad 3 0), .ref (ad 4 0), .int td, .int fa, .int fp, .int y0_f7, .int y0_f7, .int 3, .int y0_f10, .long y0_f11, .int t0, .int wr, .int so, .ref (ad 5 0), .ref (ad 6 0), .int pd, .int op9, .int cg, .int iw, .int on9, .ref (ad 7 0), .ref (ad 8 0), .ref (ad 9 0), .int is9, .ref (ad 10 0), .ref (ad 11 0), .ref (ad 12 0), .ref (ad 13 0), .int se, .ref (ad 14 0)]) (v := .int 3) p_ad_0_0 rfl rfl rfl (Nat.le_of_ble_eq_true rfl) dX12_nextToken_247 (fun f_84435 H locs ef_84435 Y => ?_)
                  have p_ad_4_0 := p_ad_4_0.up ef_84435 (I.ne (k := 4) (j := 0) (k' := 0) (j' := 0) (by decide) (by decide) (Or.inl (by decide)))
                  have p_ad_5_0 := p_ad_5_0.up ef_84435 (I.ne (k := 5) (j := 0) (k' := 0) (j' := 0) (by decide) (by decide) (Or.inl (by decide)))
                  have p_ad_6_0 := p_ad_6_0.up ef_84435 (I.ne (k := 6) (j := 0) (k' := 0) (j' := 0) (by decide) (by decide) (Or.inl (by decide)))
                  have p_ad_0_0 := p_ad_0_0.me ef_84435
                  have I := I.up (k := 0) (j := 0) (by decide) ef_84435 (okE_o (okFs_c okV_r (okFs_c okV_r (okFs_c okV_r (okFs_c okV_r (okFs_c (okV_p bf0_4) (okFs_c (okV_p bf0_5) (okFs_c (okV_p bf0_6) (okFs_c (okV_i bf0_7) (okFs_c (okV_i (bn_w bf0_7 (by decide))) (okFs_c (okV_i (bn_w (show bn 3 3 (3 : Int32) from bn_k (by decide)) (by decide))) (okFs_c (okV_i (bn_any _)) (okFs_c okV_l (okFs_c (okV_i bf0_12) (okFs_c (okV_i bf0_13) (okFs_c (okV_i (bn_any _)) (okFs_c okV_r (okFs_c okV_r (okFs_c (okV_i bf0_17) (okFs_c (okV_i bf0_18) (okFs_c (okV_i bf0_19) (okFs_c (okV_i bf0_20) (okFs_c (okV_i (bn_any _)) (okFs_c okV_r (okFs_c okV_r (okFs_c okV_r (okFs_c (okV_i bf0_25) (okFs_c okV_r (okFs_c okV_r (okFs_c okV_r (okFs_c okV_r (okFs_c (okV_i (bn_any _)) (okFs_c okV_r okFs_n)))))))))))))))))))))))))))))))))
                  refine lv_aload_n hx hb dX12_nextToken_250 rfl (lv_at hl 1 rfl) ?_
                  refine lv_dup hx hb dX12_nextToken_251 rfl ?_
                  refine pg_get S Y ok_X12 7 (by decide) kf12_88 (v := .int y0_f7) p_ad_0_0 rfl dX12_nextToken_252 ?_
                  refine lv_iconst (v := 1) hx hb dX12_nextToken_255 (by decide) ?_
                  refine lv_iadd hx hb dX12_nextToken_256 ?_
                  refine lv_topi (fun x_84436 ex_84436 => ?_)
                  refine pg_put S Y ok_X12 7 (by decide) kf12_88 rfl (fs' := [.ref (ad 1 0), .ref (ad 2 0), .ref (ad 3 0), .ref (ad 4 0), .int td, .int fa, .int fp, .int x_84436, .int y0_f7, .int 3, .int y0_f10, .long y0_f11, .int t0, .int wr, .int so, .ref (ad 5 0), .ref (ad 6 0), .int pd, .int op9, .int cg, .int iw, .int on9, .ref (ad 7 0), .ref (ad 8 0), .ref (ad 9 0), .int is9, .ref (ad 10 0), .ref (ad 11 0), .ref (ad 12 0), .ref (ad 13 0), .int se, .ref (ad 14 0)]) (v := .int x_84436) p_ad_0_0 rfl rfl rfl (Nat.le_of_ble_eq_true rfl) dX12_nextToken_257 (fun f_84437 H locs ef_84437 Y => ?_)
                  have p_ad_4_0 := p_ad_4_0.up ef_84437 (I.ne (k := 4) (j := 0) (k' := 0) (j' := 0) (by decide) (by decide) (Or.inl (by decide)))
                  have p_ad_5_0 := p_ad_5_0.up ef_84437 (I.ne (k := 5) (j := 0) (k' := 0) (j' := 0) (by decide) (by decide) (Or.inl (by decide)))
                  have p_ad_6_0 := p_ad_6_0.up ef_84437 (I.ne (k := 6) (j := 0) (k' := 0) (j' := 0) (by decide) (by decide) (Or.inl (by decide)))
                  have p_ad_0_0 := p_ad_0_0.me ef_84437
                  have I := I.up (k := 0) (j := 0) (by decide) ef_84437 (okE_o (okFs_c okV_r (okFs_c okV_r (okFs_c okV_r (okFs_c okV_r (okFs_c (okV_p bf0_4) (okFs_c (okV_p bf0_5) (okFs_c (okV_p bf0_6) (okFs_c (okV_i (bn_w (bn_eq ex_84436 (bn_add B_84419 (show bn 1 1 (1 : Int32) from bn_k (by decide)) (by decide))) (by decide))) (okFs_c (okV_i (bn_w bf0_7 (by decide))) (okFs_c (okV_i (bn_w (show bn 3 3 (3 : Int32) from bn_k (by decide)) (by decide))) (okFs_c (okV_i (bn_any _)) (okFs_c okV_l (okFs_c (okV_i bf0_12) (okFs_c (okV_i bf0_13) (okFs_c (okV_i (bn_any _)) (okFs_c okV_r (okFs_c okV_r (okFs_c (okV_i bf0_17) (okFs_c (okV_i bf0_18) (okFs_c (okV_i bf0_19) (okFs_c (okV_i bf0_20) (okFs_c (okV_i (bn_any _)) (okFs_c okV_r (okFs_c okV_r (okFs_c okV_r (okFs_c (okV_i bf0_25) (okFs_c okV_r (okFs_c okV_r (okFs_c okV_r (okFs_c okV_r (okFs_c (okV_i (bn_any _)) (okFs_c okV_r okFs_n)))))))))))))))))))))))))))))))))
                  refine lv_iload_n hx hb dX12_nextToken_260 rfl (lv_at hl 0 rfl) ?_
                  refine lv_bipush (v := 60) hx hb dX12_nextToken_261 (by decide) ?_
                  refine lv_icmp_eq (tgt := 272) hx hb dX12_nextToken_263 (by decide) (fun c_84438 => ?_) (fun c_84438 => ?_)
                  · have B_84439 : bn 60 60 r_84416 := bn_w (bn_eq c_84438 (show bn 60 60 (60 : Int32) from bn_k (by decide))) (by decide)
                    refine lv_aload_n hx hb dX12_nextToken_272 rfl (lv_at hl 1 rfl) ?_
                    refine lv_aload_n hx hb dX12_nextToken_273 rfl (lv_at hl 1 rfl) ?_
                    refine pg_get S Y ok_X12 7 (by decide) kf12_88 (v := .int x_84436) p_ad_0_0 rfl dX12_nextToken_274 ?_
                    refine cVp (As := [.int x_84436]) (rest := []) S Y (x_X12_byteAt (l := l) I p_ad_0_0 p_ad_4_0 (bn_w (bn_eq ex_84436 (bn_add B_84419 (show bn 1 1 (1 : Int32) from bn_k (by decide)) (by decide))) (by decide))) cw_X12_byteAt km12_91 p_ad_0_0 ok_X12.1 rfl rfl ⟨Nat.le_of_ble_eq_true rfl, Nat.le_of_ble_eq_true rfl⟩ hl.1 rfl (Nat.le_of_ble_eq_true rfl) ⟨Nat.le_of_ble_eq_true rfl, Nat.le_of_ble_eq_true rfl⟩ dX12_nextToken_277 (fun r_84440 H locs er_84440 Y => ?_)
                    refine lv_bipush (v := 61) hx hb dX12_nextToken_280 (by decide) ?_
                    refine lv_icmp_ne (tgt := 310) hx hb dX12_nextToken_282 (by decide) (fun c_84441 => ?_) (fun c_84441 => ?_)
                    · exact prV (post := fun L1 f1 => ∃ at92 : Int32, ∃ ps92 : Int32, ∃ tk2 : Int32, ∃ nu2 : Int32, ∃ wd2 : Int64, SH (spM PA PI PX pa) nnM G ad L1 f1 ∧ pt L1 f1 (ad 0 0) (.inr (12, [.ref (ad 1 0), .ref (ad 2 0), .ref (ad 3 0), .ref (ad 4 0), .int td, .int fa, .int fp, .int at92, .int ps92, .int tk2, .int nu2, .long wd2, .int t0, .int wr, .int so, .ref (ad 5 0), .ref (ad 6 0), .int pd, .int op9, .int cg, .int iw, .int on9, .ref (ad 7 0), .ref (ad 8 0), .ref (ad 9 0), .int is9, .ref (ad 10 0), .ref (ad 11 0), .ref (ad 12 0), .ref (ad 13 0), .int se, .ref (ad 14 0)])) ∧ pt L1 f1 (ad 4 0) (.inl (G.2 0, 300, .inl gt)) ∧ pt L1 f1 (ad 5 0) (.inl (G.2 0, 160, .inl gp)) ∧ pt L1 f1 (ad 6 0) (.inl (G.2 0, 9, .inl gc)) ∧ TK at92 ps92 tk2 ∧ at9.toInt ≤ ps92.toInt ∧ NT9 (bI gt) td.toInt.toNat at9.toInt.toNat at92 ps92 tk2 nu2 wd2) S Y (by decide) (by decide) hA1 ⟨x_84436, y0_f7, 3, y0_f10, y0_f11, I, p_ad_0_0, p_ad_4_0, p_ad_5_0, p_ad_6_0, ⟨by have z9 := (la_add ex_84436 (rfl : y0_f7.toInt = y0_f7.toInt) (show (1 : Int32).toInt = 1 from rfl) B_84419 (show bn 1 1 (1 : Int32) from bn_k (by decide)) (by decide)); omega, fun _ => by have z9 := (la_add ex_84436 (rfl : y0_f7.toInt = y0_f7.toInt) (show (1 : Int32).toInt = 1 from rfl) B_84419 (show bn 1 1 (1 : Int32) from bn_k (by decide)) (by decide)); omega⟩, hat.1, (by have h0 := (show r_84416.toInt = bI gt (skB (bI gt) td.toInt.toNat td.toInt.toNat at9.toInt.toNat) from by rw [hSK]; exact (BY_in er_84416.2 ((bn_w (a' := 0) (b' := 2147483647) B_84419 (by decide))).1 (BY_lt er_84416.2 (ge_nm9 (bn_w B_84439 (by decide)))))); exact NT_g hSP (by rw [hSK]; have k9 := (BY_lt er_84416.2 (ge_nm9 (bn_w B_84439 (by decide)))); have k8 := ((bn_w (a' := 0) (b' := 2147483647) B_84419 (by decide))).1; omega) (by rw [hSK]; exact (fun z => er_84426.2.2 c_84427 (lt_L9 (by rw [(BY_in er_84416.2 ((bn_w (a' := 0) (b' := 2147483647) B_84419 (by decide))).1 (BY_lt er_84416.2 (ge_nm9 (bn_w B_84439 (by decide)))))]; exact z)))) (by rw [hSK]; exact (fun z => er_84421.2.2 c_84422 (dg_FG (by rw [(BY_in er_84416.2 ((bn_w (a' := 0) (b' := 2147483647) B_84419 (by decide))).1 (BY_lt er_84416.2 (ge_nm9 (bn_w B_84439 (by decide)))))]; exact z)))) (by rw [(sg_n2M er_84440.2 (by have k9 := (la_add ex_84436 (rfl : y0_f7.toInt = y0_f7.toInt) (show (1 : Int32).toInt = 1 from rfl) B_84419 (show bn 1 1 (1 : Int32) from bn_k (by decide)) (by decide)); have k8 := hSP; omega) c_84441)]; show _ = ((_ + 1 : Nat) : Int); have k9 := (la_add ex_84436 (rfl : y0_f7.toInt = y0_f7.toInt) (show (1 : Int32).toInt = 1 from rfl) B_84419 (show bn 1 1 (1 : Int32) from bn_k (by decide)) (by decide)); have k8 := hSP; omega) (Or.inr (Or.inr (Or.inl ⟨rfl, by rw [(sg_n2M er_84440.2 (by have k9 := (la_add ex_84436 (rfl : y0_f7.toInt = y0_f7.toInt) (show (1 : Int32).toInt = 1 from rfl) B_84419 (show bn 1 1 (1 : Int32) from bn_k (by decide)) (by decide)); have k8 := hSP; omega) c_84441)]; show (if isSg _ then _ else _) = _; rw [if_neg (by rw [← h0]; exact cls_f er_84431.2 c_84432)]⟩))))⟩ dX12_nextToken_310
                    · have B_84442 : bn 61 61 r_84440 := bn_w (bn_eq c_84441 (show bn 61 61 (61 : Int32) from bn_k (by decide))) (by decide)
                      have B_84443 : bn 1 299 x_84436 := bn_w (bn_i (bn_eq ex_84436 (bn_add B_84419 (show bn 1 1 (1 : Int32) from bn_k (by decide)) (by decide))) (er_84440.1 (bd_ne B_84442 (show bn (-1) (-1) (-1 : Int32) from bn_k (by decide)) (by decide)))) (by decide)
                      refine lv_aload_n hx hb dX12_nextToken_285 rfl (lv_at hl 1 rfl) ?_
                      refine lv_iload_n hx hb dX12_nextToken_286 rfl (lv_at hl 0 rfl) ?_
                      refine lv_bipush (v := 60) hx hb dX12_nextToken_287 (by decide) ?_
                      refine lv_icmp_ne (tgt := 296) hx hb dX12_nextToken_289 (by decide) (fun h => absurd c_84438 h) (fun _ => ?_)
                      refine lv_iconst (v := 4) hx hb dX12_nextToken_292 (by decide) ?_
                      refine lv_goto (tgt := 297) hx hb dX12_nextToken_293 (by decide) ?_
                      refine pg_put S Y ok_X12 9 (by decide) kf12_98 rfl (fs' := [.ref (ad 1 0), .ref (ad 2 0), .ref (ad 3 0), .ref (ad 4 0), .int td, .int fa, .int fp, .int x_84436, .int y0_f7, .int 4, .int y0_f10, .long y0_f11, .int t0, .int wr, .int so, .ref (ad 5 0), .ref (ad 6 0), .int pd, .int op9, .int cg, .int iw, .int on9, .ref (ad 7 0), .ref (ad 8 0), .ref (ad 9 0), .int is9, .ref (ad 10 0), .ref (ad 11 0), .ref (ad 12 0), .ref (ad 13 0), .int se, .ref (ad 14 0)]) (v := .int 4) p_ad_0_0 rfl rfl rfl (Nat.le_of_ble_eq_true rfl) dX12_nextToken_297 (fun f_84444 H locs ef_84444 Y => ?_)
                      have p_ad_4_0 := p_ad_4_0.up ef_84444 (I.ne (k := 4) (j := 0) (k' := 0) (j' := 0) (by decide) (by decide) (Or.inl (by decide)))
                      have p_ad_5_0 := p_ad_5_0.up ef_84444 (I.ne (k := 5) (j := 0) (k' := 0) (j' := 0) (by decide) (by decide) (Or.inl (by decide)))
                      have p_ad_6_0 := p_ad_6_0.up ef_84444 (I.ne (k := 6) (j := 0) (k' := 0) (j' := 0) (by decide) (by decide) (Or.inl (by decide)))
                      have p_ad_0_0 := p_ad_0_0.me ef_84444
                      have I := I.up (k := 0) (j := 0) (by decide) ef_84444 (okE_o (okFs_c okV_r (okFs_c okV_r (okFs_c okV_r (okFs_c okV_r (okFs_c (okV_p bf0_4) (okFs_c (okV_p bf0_5) (okFs_c (okV_p bf0_6) (okFs_c (okV_i (bn_w (bn_eq ex_84436 (bn_add B_84419 (show bn 1 1 (1 : Int32) from bn_k (by decide)) (by decide))) (by decide))) (okFs_c (okV_i (bn_w bf0_7 (by decide))) (okFs_c (okV_i (bn_w (show bn 4 4 (4 : Int32) from bn_k (by decide)) (by decide))) (okFs_c (okV_i (bn_any _)) (okFs_c okV_l (okFs_c (okV_i bf0_12) (okFs_c (okV_i bf0_13) (okFs_c (okV_i (bn_any _)) (okFs_c okV_r (okFs_c okV_r (okFs_c (okV_i bf0_17) (okFs_c (okV_i bf0_18) (okFs_c (okV_i bf0_19) (okFs_c (okV_i bf0_20) (okFs_c (okV_i (bn_any _)) (okFs_c okV_r (okFs_c okV_r (okFs_c okV_r (okFs_c (okV_i bf0_25) (okFs_c okV_r (okFs_c okV_r (okFs_c okV_r (okFs_c okV_r (okFs_c (okV_i (bn_any _)) (okFs_c okV_r okFs_n)))))))))))))))))))))))))))))))))
                      refine lv_aload_n hx hb dX12_nextToken_300 rfl (lv_at hl 1 rfl) ?_
                      refine lv_dup hx hb dX12_nextToken_301 rfl ?_
                      refine pg_get S Y ok_X12 7 (by decide) kf12_88 (v := .int x_84436) p_ad_0_0 rfl dX12_nextToken_302 ?_
                      refine lv_iconst (v := 1) hx hb dX12_nextToken_305 (by decide) ?_
                      refine lv_iadd hx hb dX12_nextToken_306 ?_
                      refine lv_topi (fun x_84445 ex_84445 => ?_)
                      refine pg_put S Y ok_X12 7 (by decide) kf12_88 rfl (fs' := [.ref (ad 1 0), .ref (ad 2 0), .ref (ad 3 0), .ref (ad 4 0), .int td, .int fa, .int fp, .int x_84445, .int y0_f7, .int 4, .int y0_f10, .long y0_f11, .int t0, .int wr, .int so, .ref (ad 5 0), .ref (ad 6 0), .int pd, .int op9, .int cg, .int iw, .int on9, .ref (ad 7 0), .ref (ad 8 0), .ref (ad 9 0), .int is9, .ref (ad 10 0), .ref (ad 11 0), .ref (ad 12 0), .ref (ad 13 0), .int se, .ref (ad 14 0)]) (v := .int x_84445) p_ad_0_0 rfl rfl rfl (Nat.le_of_ble_eq_true rfl) dX12_nextToken_307 (fun f_84446 H locs ef_84446 Y => ?_)
                      have p_ad_4_0 := p_ad_4_0.up ef_84446 (I.ne (k := 4) (j := 0) (k' := 0) (j' := 0) (by decide) (by decide) (Or.inl (by decide)))
                      have p_ad_5_0 := p_ad_5_0.up ef_84446 (I.ne (k := 5) (j := 0) (k' := 0) (j' := 0) (by decide) (by decide) (Or.inl (by decide)))
                      have p_ad_6_0 := p_ad_6_0.up ef_84446 (I.ne (k := 6) (j := 0) (k' := 0) (j' := 0) (by decide) (by decide) (Or.inl (by decide)))
                      have p_ad_0_0 := p_ad_0_0.me ef_84446
                      have I := I.up (k := 0) (j := 0) (by decide) ef_84446 (okE_o (okFs_c okV_r (okFs_c okV_r (okFs_c okV_r (okFs_c okV_r (okFs_c (okV_p bf0_4) (okFs_c (okV_p bf0_5) (okFs_c (okV_p bf0_6) (okFs_c (okV_i (bn_w (bn_eq ex_84445 (bn_add B_84443 (show bn 1 1 (1 : Int32) from bn_k (by decide)) (by decide))) (by decide))) (okFs_c (okV_i (bn_w bf0_7 (by decide))) (okFs_c (okV_i (bn_w (show bn 4 4 (4 : Int32) from bn_k (by decide)) (by decide))) (okFs_c (okV_i (bn_any _)) (okFs_c okV_l (okFs_c (okV_i bf0_12) (okFs_c (okV_i bf0_13) (okFs_c (okV_i (bn_any _)) (okFs_c okV_r (okFs_c okV_r (okFs_c (okV_i bf0_17) (okFs_c (okV_i bf0_18) (okFs_c (okV_i bf0_19) (okFs_c (okV_i bf0_20) (okFs_c (okV_i (bn_any _)) (okFs_c okV_r (okFs_c okV_r (okFs_c okV_r (okFs_c (okV_i bf0_25) (okFs_c okV_r (okFs_c okV_r (okFs_c okV_r (okFs_c okV_r (okFs_c (okV_i (bn_any _)) (okFs_c okV_r okFs_n)))))))))))))))))))))))))))))))))
                      exact prV (post := fun L1 f1 => ∃ at92 : Int32, ∃ ps92 : Int32, ∃ tk2 : Int32, ∃ nu2 : Int32, ∃ wd2 : Int64, SH (spM PA PI PX pa) nnM G ad L1 f1 ∧ pt L1 f1 (ad 0 0) (.inr (12, [.ref (ad 1 0), .ref (ad 2 0), .ref (ad 3 0), .ref (ad 4 0), .int td, .int fa, .int fp, .int at92, .int ps92, .int tk2, .int nu2, .long wd2, .int t0, .int wr, .int so, .ref (ad 5 0), .ref (ad 6 0), .int pd, .int op9, .int cg, .int iw, .int on9, .ref (ad 7 0), .ref (ad 8 0), .ref (ad 9 0), .int is9, .ref (ad 10 0), .ref (ad 11 0), .ref (ad 12 0), .ref (ad 13 0), .int se, .ref (ad 14 0)])) ∧ pt L1 f1 (ad 4 0) (.inl (G.2 0, 300, .inl gt)) ∧ pt L1 f1 (ad 5 0) (.inl (G.2 0, 160, .inl gp)) ∧ pt L1 f1 (ad 6 0) (.inl (G.2 0, 9, .inl gc)) ∧ TK at92 ps92 tk2 ∧ at9.toInt ≤ ps92.toInt ∧ NT9 (bI gt) td.toInt.toNat at9.toInt.toNat at92 ps92 tk2 nu2 wd2) S Y (by decide) (by decide) hA1 ⟨x_84445, y0_f7, 4, y0_f10, y0_f11, I, p_ad_0_0, p_ad_4_0, p_ad_5_0, p_ad_6_0, ⟨by have z9 := (la_add ex_84445 (la_add ex_84436 (rfl : y0_f7.toInt = y0_f7.toInt) (show (1 : Int32).toInt = 1 from rfl) B_84419 (show bn 1 1 (1 : Int32) from bn_k (by decide)) (by decide)) (show (1 : Int32).toInt = 1 from rfl) B_84443 (show bn 1 1 (1 : Int32) from bn_k (by decide)) (by decide)); omega, fun _ => by have z9 := (la_add ex_84445 (la_add ex_84436 (rfl : y0_f7.toInt = y0_f7.toInt) (show (1 : Int32).toInt = 1 from rfl) B_84419 (show bn 1 1 (1 : Int32) from bn_k (by decide)) (by decide)) (show (1 : Int32).toInt = 1 from rfl) B_84443 (show bn 1 1 (1 : Int32) from bn_k (by decide)) (by decide)); omega⟩, hat.1, (by have h0 := (show r_84416.toInt = bI gt (skB (bI gt) td.toInt.toNat td.toInt.toNat at9.toInt.toNat) from by rw [hSK]; exact (BY_in er_84416.2 ((bn_w (a' := 0) (b' := 2147483647) B_84419 (by decide))).1 (BY_lt er_84416.2 (ge_nm9 (bn_w B_84439 (by decide)))))); exact NT_g hSP (by rw [hSK]; have k9 := (BY_lt er_84416.2 (ge_nm9 (bn_w B_84439 (by decide)))); have k8 := ((bn_w (a' := 0) (b' := 2147483647) B_84419 (by decide))).1; omega) (by rw [hSK]; exact (fun z => er_84426.2.2 c_84427 (lt_L9 (by rw [(BY_in er_84416.2 ((bn_w (a' := 0) (b' := 2147483647) B_84419 (by decide))).1 (BY_lt er_84416.2 (ge_nm9 (bn_w B_84439 (by decide)))))]; exact z)))) (by rw [hSK]; exact (fun z => er_84421.2.2 c_84422 (dg_FG (by rw [(BY_in er_84416.2 ((bn_w (a' := 0) (b' := 2147483647) B_84419 (by decide))).1 (BY_lt er_84416.2 (ge_nm9 (bn_w B_84439 (by decide)))))]; exact z)))) (by rw [(sg_yM h0 (Or.inl c_84438) er_84440.2 (by have k9 := (la_add ex_84436 (rfl : y0_f7.toInt = y0_f7.toInt) (show (1 : Int32).toInt = 1 from rfl) B_84419 (show bn 1 1 (1 : Int32) from bn_k (by decide)) (by decide)); have k8 := hSP; omega) c_84441)]; show _ = ((_ + 2 : Nat) : Int); have k9 := (la_add ex_84445 (la_add ex_84436 (rfl : y0_f7.toInt = y0_f7.toInt) (show (1 : Int32).toInt = 1 from rfl) B_84419 (show bn 1 1 (1 : Int32) from bn_k (by decide)) (by decide)) (show (1 : Int32).toInt = 1 from rfl) B_84443 (show bn 1 1 (1 : Int32) from bn_k (by decide)) (by decide)); have k8 := hSP; omega) (Or.inl ⟨rfl, by rw [(sg_yM h0 (Or.inl c_84438) er_84440.2 (by have k9 := (la_add ex_84436 (rfl : y0_f7.toInt = y0_f7.toInt) (show (1 : Int32).toInt = 1 from rfl) B_84419 (show bn 1 1 (1 : Int32) from bn_k (by decide)) (by decide)); have k8 := hSP; omega) c_84441)]; show bI gt _ + 256 = 316; have k9 := h0; rw [c_84438] at k9; have k9 : (60 : Int) = _ := k9; omega⟩))⟩ dX12_nextToken_310
                  · refine lv_iload_n hx hb dX12_nextToken_266 rfl (lv_at hl 0 rfl) ?_
                    refine lv_bipush (v := 62) hx hb dX12_nextToken_267 (by decide) ?_
                    refine lv_icmp_ne (tgt := 310) hx hb dX12_nextToken_269 (by decide) (fun c_84447 => ?_) (fun c_84447 => ?_)
                    · exact prV (post := fun L1 f1 => ∃ at92 : Int32, ∃ ps92 : Int32, ∃ tk2 : Int32, ∃ nu2 : Int32, ∃ wd2 : Int64, SH (spM PA PI PX pa) nnM G ad L1 f1 ∧ pt L1 f1 (ad 0 0) (.inr (12, [.ref (ad 1 0), .ref (ad 2 0), .ref (ad 3 0), .ref (ad 4 0), .int td, .int fa, .int fp, .int at92, .int ps92, .int tk2, .int nu2, .long wd2, .int t0, .int wr, .int so, .ref (ad 5 0), .ref (ad 6 0), .int pd, .int op9, .int cg, .int iw, .int on9, .ref (ad 7 0), .ref (ad 8 0), .ref (ad 9 0), .int is9, .ref (ad 10 0), .ref (ad 11 0), .ref (ad 12 0), .ref (ad 13 0), .int se, .ref (ad 14 0)])) ∧ pt L1 f1 (ad 4 0) (.inl (G.2 0, 300, .inl gt)) ∧ pt L1 f1 (ad 5 0) (.inl (G.2 0, 160, .inl gp)) ∧ pt L1 f1 (ad 6 0) (.inl (G.2 0, 9, .inl gc)) ∧ TK at92 ps92 tk2 ∧ at9.toInt ≤ ps92.toInt ∧ NT9 (bI gt) td.toInt.toNat at9.toInt.toNat at92 ps92 tk2 nu2 wd2) S Y (by decide) (by decide) hA1 ⟨x_84436, y0_f7, 3, y0_f10, y0_f11, I, p_ad_0_0, p_ad_4_0, p_ad_5_0, p_ad_6_0, ⟨by have z9 := (la_add ex_84436 (rfl : y0_f7.toInt = y0_f7.toInt) (show (1 : Int32).toInt = 1 from rfl) B_84419 (show bn 1 1 (1 : Int32) from bn_k (by decide)) (by decide)); omega, fun _ => by have z9 := (la_add ex_84436 (rfl : y0_f7.toInt = y0_f7.toInt) (show (1 : Int32).toInt = 1 from rfl) B_84419 (show bn 1 1 (1 : Int32) from bn_k (by decide)) (by decide)); omega⟩, hat.1, (by have h0 := (show r_84416.toInt = bI gt (skB (bI gt) td.toInt.toNat td.toInt.toNat at9.toInt.toNat) from by rw [hSK]; exact (BY_in er_84416.2 ((bn_w (a' := 0) (b' := 2147483647) B_84419 (by decide))).1 (BY_lt er_84416.2 (ge_nm9 (bn_w B_84418 (by decide)))))); exact NT_g hSP (by rw [hSK]; have k9 := (BY_lt er_84416.2 (ge_nm9 (bn_w B_84418 (by decide)))); have k8 := ((bn_w (a' := 0) (b' := 2147483647) B_84419 (by decide))).1; omega) (by rw [hSK]; exact (fun z => er_84426.2.2 c_84427 (lt_L9 (by rw [(BY_in er_84416.2 ((bn_w (a' := 0) (b' := 2147483647) B_84419 (by decide))).1 (BY_lt er_84416.2 (ge_nm9 (bn_w B_84418 (by decide)))))]; exact z)))) (by rw [hSK]; exact (fun z => er_84421.2.2 c_84422 (dg_FG (by rw [(BY_in er_84416.2 ((bn_w (a' := 0) (b' := 2147483647) B_84419 (by decide))).1 (BY_lt er_84416.2 (ge_nm9 (bn_w B_84418 (by decide)))))]; exact z)))) (by rw [(sg_n1 h0 c_84438 c_84447)]; show _ = ((_ + 1 : Nat) : Int); have k9 := (la_add ex_84436 (rfl : y0_f7.toInt = y0_f7.toInt) (show (1 : Int32).toInt = 1 from rfl) B_84419 (show bn 1 1 (1 : Int32) from bn_k (by decide)) (by decide)); have k8 := hSP; omega) (Or.inr (Or.inr (Or.inl ⟨rfl, by rw [(sg_n1 h0 c_84438 c_84447)]; show (if isSg _ then _ else _) = _; rw [if_neg (by rw [← h0]; exact cls_f er_84431.2 c_84432)]⟩))))⟩ dX12_nextToken_310
                    · have B_84448 : bn 62 62 r_84416 := bn_w (bn_eq c_84447 (show bn 62 62 (62 : Int32) from bn_k (by decide))) (by decide)
                      refine lv_aload_n hx hb dX12_nextToken_272 rfl (lv_at hl 1 rfl) ?_
                      refine lv_aload_n hx hb dX12_nextToken_273 rfl (lv_at hl 1 rfl) ?_
                      refine pg_get S Y ok_X12 7 (by decide) kf12_88 (v := .int x_84436) p_ad_0_0 rfl dX12_nextToken_274 ?_
                      refine cVp (As := [.int x_84436]) (rest := []) S Y (x_X12_byteAt (l := l) I p_ad_0_0 p_ad_4_0 (bn_w (bn_eq ex_84436 (bn_add B_84419 (show bn 1 1 (1 : Int32) from bn_k (by decide)) (by decide))) (by decide))) cw_X12_byteAt km12_91 p_ad_0_0 ok_X12.1 rfl rfl ⟨Nat.le_of_ble_eq_true rfl, Nat.le_of_ble_eq_true rfl⟩ hl.1 rfl (Nat.le_of_ble_eq_true rfl) ⟨Nat.le_of_ble_eq_true rfl, Nat.le_of_ble_eq_true rfl⟩ dX12_nextToken_277 (fun r_84449 H locs er_84449 Y => ?_)
                      refine lv_bipush (v := 61) hx hb dX12_nextToken_280 (by decide) ?_
                      refine lv_icmp_ne (tgt := 310) hx hb dX12_nextToken_282 (by decide) (fun c_84450 => ?_) (fun c_84450 => ?_)
                      · exact prV (post := fun L1 f1 => ∃ at92 : Int32, ∃ ps92 : Int32, ∃ tk2 : Int32, ∃ nu2 : Int32, ∃ wd2 : Int64, SH (spM PA PI PX pa) nnM G ad L1 f1 ∧ pt L1 f1 (ad 0 0) (.inr (12, [.ref (ad 1 0), .ref (ad 2 0), .ref (ad 3 0), .ref (ad 4 0), .int td, .int fa, .int fp, .int at92, .int ps92, .int tk2, .int nu2, .long wd2, .int t0, .int wr, .int so, .ref (ad 5 0), .ref (ad 6 0), .int pd, .int op9, .int cg, .int iw, .int on9, .ref (ad 7 0), .ref (ad 8 0), .ref (ad 9 0), .int is9, .ref (ad 10 0), .ref (ad 11 0), .ref (ad 12 0), .ref (ad 13 0), .int se, .ref (ad 14 0)])) ∧ pt L1 f1 (ad 4 0) (.inl (G.2 0, 300, .inl gt)) ∧ pt L1 f1 (ad 5 0) (.inl (G.2 0, 160, .inl gp)) ∧ pt L1 f1 (ad 6 0) (.inl (G.2 0, 9, .inl gc)) ∧ TK at92 ps92 tk2 ∧ at9.toInt ≤ ps92.toInt ∧ NT9 (bI gt) td.toInt.toNat at9.toInt.toNat at92 ps92 tk2 nu2 wd2) S Y (by decide) (by decide) hA1 ⟨x_84436, y0_f7, 3, y0_f10, y0_f11, I, p_ad_0_0, p_ad_4_0, p_ad_5_0, p_ad_6_0, ⟨by have z9 := (la_add ex_84436 (rfl : y0_f7.toInt = y0_f7.toInt) (show (1 : Int32).toInt = 1 from rfl) B_84419 (show bn 1 1 (1 : Int32) from bn_k (by decide)) (by decide)); omega, fun _ => by have z9 := (la_add ex_84436 (rfl : y0_f7.toInt = y0_f7.toInt) (show (1 : Int32).toInt = 1 from rfl) B_84419 (show bn 1 1 (1 : Int32) from bn_k (by decide)) (by decide)); omega⟩, hat.1, (by have h0 := (show r_84416.toInt = bI gt (skB (bI gt) td.toInt.toNat td.toInt.toNat at9.toInt.toNat) from by rw [hSK]; exact (BY_in er_84416.2 ((bn_w (a' := 0) (b' := 2147483647) B_84419 (by decide))).1 (BY_lt er_84416.2 (ge_nm9 (bn_w B_84448 (by decide)))))); exact NT_g hSP (by rw [hSK]; have k9 := (BY_lt er_84416.2 (ge_nm9 (bn_w B_84448 (by decide)))); have k8 := ((bn_w (a' := 0) (b' := 2147483647) B_84419 (by decide))).1; omega) (by rw [hSK]; exact (fun z => er_84426.2.2 c_84427 (lt_L9 (by rw [(BY_in er_84416.2 ((bn_w (a' := 0) (b' := 2147483647) B_84419 (by decide))).1 (BY_lt er_84416.2 (ge_nm9 (bn_w B_84448 (by decide)))))]; exact z)))) (by rw [hSK]; exact (fun z => er_84421.2.2 c_84422 (dg_FG (by rw [(BY_in er_84416.2 ((bn_w (a' := 0) (b' := 2147483647) B_84419 (by decide))).1 (BY_lt er_84416.2 (ge_nm9 (bn_w B_84448 (by decide)))))]; exact z)))) (by rw [(sg_n2M er_84449.2 (by have k9 := (la_add ex_84436 (rfl : y0_f7.toInt = y0_f7.toInt) (show (1 : Int32).toInt = 1 from rfl) B_84419 (show bn 1 1 (1 : Int32) from bn_k (by decide)) (by decide)); have k8 := hSP; omega) c_84450)]; show _ = ((_ + 1 : Nat) : Int); have k9 := (la_add ex_84436 (rfl : y0_f7.toInt = y0_f7.toInt) (show (1 : Int32).toInt = 1 from rfl) B_84419 (show bn 1 1 (1 : Int32) from bn_k (by decide)) (by decide)); have k8 := hSP; omega) (Or.inr (Or.inr (Or.inl ⟨rfl, by rw [(sg_n2M er_84449.2 (by have k9 := (la_add ex_84436 (rfl : y0_f7.toInt = y0_f7.toInt) (show (1 : Int32).toInt = 1 from rfl) B_84419 (show bn 1 1 (1 : Int32) from bn_k (by decide)) (by decide)); have k8 := hSP; omega) c_84450)]; show (if isSg _ then _ else _) = _; rw [if_neg (by rw [← h0]; exact cls_f er_84431.2 c_84432)]⟩))))⟩ dX12_nextToken_310
                      · have B_84451 : bn 61 61 r_84449 := bn_w (bn_eq c_84450 (show bn 61 61 (61 : Int32) from bn_k (by decide))) (by decide)
                        have B_84452 : bn 1 299 x_84436 := bn_w (bn_i (bn_eq ex_84436 (bn_add B_84419 (show bn 1 1 (1 : Int32) from bn_k (by decide)) (by decide))) (er_84449.1 (bd_ne B_84451 (show bn (-1) (-1) (-1 : Int32) from bn_k (by decide)) (by decide)))) (by decide)
                        refine lv_aload_n hx hb dX12_nextToken_285 rfl (lv_at hl 1 rfl) ?_
                        refine lv_iload_n hx hb dX12_nextToken_286 rfl (lv_at hl 0 rfl) ?_
                        refine lv_bipush (v := 60) hx hb dX12_nextToken_287 (by decide) ?_
                        refine lv_icmp_ne (tgt := 296) hx hb dX12_nextToken_289 (by decide) (fun _ => ?_) (fun h => absurd h c_84438)
                        refine lv_iconst (v := 5) hx hb dX12_nextToken_296 (by decide) ?_
                        refine pg_put S Y ok_X12 9 (by decide) kf12_98 rfl (fs' := [.ref (ad 1 0), .ref (ad 2 0), .ref (ad 3 0), .ref (ad 4 0), .int td, .int fa, .int fp, .int x_84436, .int y0_f7, .int 5, .int y0_f10, .long y0_f11, .int t0, .int wr, .int so, .ref (ad 5 0), .ref (ad 6 0), .int pd, .int op9, .int cg, .int iw, .int on9, .ref (ad 7 0), .ref (ad 8 0), .ref (ad 9 0), .int is9, .ref (ad 10 0), .ref (ad 11 0), .ref (ad 12 0), .ref (ad 13 0), .int se, .ref (ad 14 0)]) (v := .int 5) p_ad_0_0 rfl rfl rfl (Nat.le_of_ble_eq_true rfl) dX12_nextToken_297 (fun f_84453 H locs ef_84453 Y => ?_)
                        have p_ad_4_0 := p_ad_4_0.up ef_84453 (I.ne (k := 4) (j := 0) (k' := 0) (j' := 0) (by decide) (by decide) (Or.inl (by decide)))
                        have p_ad_5_0 := p_ad_5_0.up ef_84453 (I.ne (k := 5) (j := 0) (k' := 0) (j' := 0) (by decide) (by decide) (Or.inl (by decide)))
                        have p_ad_6_0 := p_ad_6_0.up ef_84453 (I.ne (k := 6) (j := 0) (k' := 0) (j' := 0) (by decide) (by decide) (Or.inl (by decide)))
                        have p_ad_0_0 := p_ad_0_0.me ef_84453
                        have I := I.up (k := 0) (j := 0) (by decide) ef_84453 (okE_o (okFs_c okV_r (okFs_c okV_r (okFs_c okV_r (okFs_c okV_r (okFs_c (okV_p bf0_4) (okFs_c (okV_p bf0_5) (okFs_c (okV_p bf0_6) (okFs_c (okV_i (bn_w (bn_eq ex_84436 (bn_add B_84419 (show bn 1 1 (1 : Int32) from bn_k (by decide)) (by decide))) (by decide))) (okFs_c (okV_i (bn_w bf0_7 (by decide))) (okFs_c (okV_i (bn_w (show bn 5 5 (5 : Int32) from bn_k (by decide)) (by decide))) (okFs_c (okV_i (bn_any _)) (okFs_c okV_l (okFs_c (okV_i bf0_12) (okFs_c (okV_i bf0_13) (okFs_c (okV_i (bn_any _)) (okFs_c okV_r (okFs_c okV_r (okFs_c (okV_i bf0_17) (okFs_c (okV_i bf0_18) (okFs_c (okV_i bf0_19) (okFs_c (okV_i bf0_20) (okFs_c (okV_i (bn_any _)) (okFs_c okV_r (okFs_c okV_r (okFs_c okV_r (okFs_c (okV_i bf0_25) (okFs_c okV_r (okFs_c okV_r (okFs_c okV_r (okFs_c okV_r (okFs_c (okV_i (bn_any _)) (okFs_c okV_r okFs_n)))))))))))))))))))))))))))))))))
                        refine lv_aload_n hx hb dX12_nextToken_300 rfl (lv_at hl 1 rfl) ?_
                        refine lv_dup hx hb dX12_nextToken_301 rfl ?_
                        refine pg_get S Y ok_X12 7 (by decide) kf12_88 (v := .int x_84436) p_ad_0_0 rfl dX12_nextToken_302 ?_
                        refine lv_iconst (v := 1) hx hb dX12_nextToken_305 (by decide) ?_
                        refine lv_iadd hx hb dX12_nextToken_306 ?_
                        refine lv_topi (fun x_84454 ex_84454 => ?_)
                        refine pg_put S Y ok_X12 7 (by decide) kf12_88 rfl (fs' := [.ref (ad 1 0), .ref (ad 2 0), .ref (ad 3 0), .ref (ad 4 0), .int td, .int fa, .int fp, .int x_84454, .int y0_f7, .int 5, .int y0_f10, .long y0_f11, .int t0, .int wr, .int so, .ref (ad 5 0), .ref (ad 6 0), .int pd, .int op9, .int cg, .int iw, .int on9, .ref (ad 7 0), .ref (ad 8 0), .ref (ad 9 0), .int is9, .ref (ad 10 0), .ref (ad 11 0), .ref (ad 12 0), .ref (ad 13 0), .int se, .ref (ad 14 0)]) (v := .int x_84454) p_ad_0_0 rfl rfl rfl (Nat.le_of_ble_eq_true rfl) dX12_nextToken_307 (fun f_84455 H locs ef_84455 Y => ?_)
                        have p_ad_4_0 := p_ad_4_0.up ef_84455 (I.ne (k := 4) (j := 0) (k' := 0) (j' := 0) (by decide) (by decide) (Or.inl (by decide)))
                        have p_ad_5_0 := p_ad_5_0.up ef_84455 (I.ne (k := 5) (j := 0) (k' := 0) (j' := 0) (by decide) (by decide) (Or.inl (by decide)))
                        have p_ad_6_0 := p_ad_6_0.up ef_84455 (I.ne (k := 6) (j := 0) (k' := 0) (j' := 0) (by decide) (by decide) (Or.inl (by decide)))
                        have p_ad_0_0 := p_ad_0_0.me ef_84455
                        have I := I.up (k := 0) (j := 0) (by decide) ef_84455 (okE_o (okFs_c okV_r (okFs_c okV_r (okFs_c okV_r (okFs_c okV_r (okFs_c (okV_p bf0_4) (okFs_c (okV_p bf0_5) (okFs_c (okV_p bf0_6) (okFs_c (okV_i (bn_w (bn_eq ex_84454 (bn_add B_84452 (show bn 1 1 (1 : Int32) from bn_k (by decide)) (by decide))) (by decide))) (okFs_c (okV_i (bn_w bf0_7 (by decide))) (okFs_c (okV_i (bn_w (show bn 5 5 (5 : Int32) from bn_k (by decide)) (by decide))) (okFs_c (okV_i (bn_any _)) (okFs_c okV_l (okFs_c (okV_i bf0_12) (okFs_c (okV_i bf0_13) (okFs_c (okV_i (bn_any _)) (okFs_c okV_r (okFs_c okV_r (okFs_c (okV_i bf0_17) (okFs_c (okV_i bf0_18) (okFs_c (okV_i bf0_19) (okFs_c (okV_i bf0_20) (okFs_c (okV_i (bn_any _)) (okFs_c okV_r (okFs_c okV_r (okFs_c okV_r (okFs_c (okV_i bf0_25) (okFs_c okV_r (okFs_c okV_r (okFs_c okV_r (okFs_c okV_r (okFs_c (okV_i (bn_any _)) (okFs_c okV_r okFs_n)))))))))))))))))))))))))))))))))
                        exact prV (post := fun L1 f1 => ∃ at92 : Int32, ∃ ps92 : Int32, ∃ tk2 : Int32, ∃ nu2 : Int32, ∃ wd2 : Int64, SH (spM PA PI PX pa) nnM G ad L1 f1 ∧ pt L1 f1 (ad 0 0) (.inr (12, [.ref (ad 1 0), .ref (ad 2 0), .ref (ad 3 0), .ref (ad 4 0), .int td, .int fa, .int fp, .int at92, .int ps92, .int tk2, .int nu2, .long wd2, .int t0, .int wr, .int so, .ref (ad 5 0), .ref (ad 6 0), .int pd, .int op9, .int cg, .int iw, .int on9, .ref (ad 7 0), .ref (ad 8 0), .ref (ad 9 0), .int is9, .ref (ad 10 0), .ref (ad 11 0), .ref (ad 12 0), .ref (ad 13 0), .int se, .ref (ad 14 0)])) ∧ pt L1 f1 (ad 4 0) (.inl (G.2 0, 300, .inl gt)) ∧ pt L1 f1 (ad 5 0) (.inl (G.2 0, 160, .inl gp)) ∧ pt L1 f1 (ad 6 0) (.inl (G.2 0, 9, .inl gc)) ∧ TK at92 ps92 tk2 ∧ at9.toInt ≤ ps92.toInt ∧ NT9 (bI gt) td.toInt.toNat at9.toInt.toNat at92 ps92 tk2 nu2 wd2) S Y (by decide) (by decide) hA1 ⟨x_84454, y0_f7, 5, y0_f10, y0_f11, I, p_ad_0_0, p_ad_4_0, p_ad_5_0, p_ad_6_0, ⟨by have z9 := (la_add ex_84454 (la_add ex_84436 (rfl : y0_f7.toInt = y0_f7.toInt) (show (1 : Int32).toInt = 1 from rfl) B_84419 (show bn 1 1 (1 : Int32) from bn_k (by decide)) (by decide)) (show (1 : Int32).toInt = 1 from rfl) B_84452 (show bn 1 1 (1 : Int32) from bn_k (by decide)) (by decide)); omega, fun _ => by have z9 := (la_add ex_84454 (la_add ex_84436 (rfl : y0_f7.toInt = y0_f7.toInt) (show (1 : Int32).toInt = 1 from rfl) B_84419 (show bn 1 1 (1 : Int32) from bn_k (by decide)) (by decide)) (show (1 : Int32).toInt = 1 from rfl) B_84452 (show bn 1 1 (1 : Int32) from bn_k (by decide)) (by decide)); omega⟩, hat.1, (by have h0 := (show r_84416.toInt = bI gt (skB (bI gt) td.toInt.toNat td.toInt.toNat at9.toInt.toNat) from by rw [hSK]; exact (BY_in er_84416.2 ((bn_w (a' := 0) (b' := 2147483647) B_84419 (by decide))).1 (BY_lt er_84416.2 (ge_nm9 (bn_w B_84448 (by decide)))))); exact NT_g hSP (by rw [hSK]; have k9 := (BY_lt er_84416.2 (ge_nm9 (bn_w B_84448 (by decide)))); have k8 := ((bn_w (a' := 0) (b' := 2147483647) B_84419 (by decide))).1; omega) (by rw [hSK]; exact (fun z => er_84426.2.2 c_84427 (lt_L9 (by rw [(BY_in er_84416.2 ((bn_w (a' := 0) (b' := 2147483647) B_84419 (by decide))).1 (BY_lt er_84416.2 (ge_nm9 (bn_w B_84448 (by decide)))))]; exact z)))) (by rw [hSK]; exact (fun z => er_84421.2.2 c_84422 (dg_FG (by rw [(BY_in er_84416.2 ((bn_w (a' := 0) (b' := 2147483647) B_84419 (by decide))).1 (BY_lt er_84416.2 (ge_nm9 (bn_w B_84448 (by decide)))))]; exact z)))) (by rw [(sg_yM h0 (Or.inr c_84447) er_84449.2 (by have k9 := (la_add ex_84436 (rfl : y0_f7.toInt = y0_f7.toInt) (show (1 : Int32).toInt = 1 from rfl) B_84419 (show bn 1 1 (1 : Int32) from bn_k (by decide)) (by decide)); have k8 := hSP; omega) c_84450)]; show _ = ((_ + 2 : Nat) : Int); have k9 := (la_add ex_84454 (la_add ex_84436 (rfl : y0_f7.toInt = y0_f7.toInt) (show (1 : Int32).toInt = 1 from rfl) B_84419 (show bn 1 1 (1 : Int32) from bn_k (by decide)) (by decide)) (show (1 : Int32).toInt = 1 from rfl) B_84452 (show bn 1 1 (1 : Int32) from bn_k (by decide)) (by decide)); have k8 := hSP; omega) (Or.inr (Or.inl ⟨rfl, by rw [(sg_yM h0 (Or.inr c_84447) er_84449.2 (by have k9 := (la_add ex_84436 (rfl : y0_f7.toInt = y0_f7.toInt) (show (1 : Int32).toInt = 1 from rfl) B_84419 (show bn 1 1 (1 : Int32) from bn_k (by decide)) (by decide)); have k8 := hSP; omega) c_84450)]; show bI gt _ + 256 = 318; have k9 := h0; rw [c_84447] at k9; have k9 : (62 : Int) = _ := k9; omega⟩)))⟩ dX12_nextToken_310
                · have B_84434 : bn 1 1 r_84431 := bn_w (bn_nel c_84432 er_84431.1 (show bn 0 0 (0 : Int32) from bn_k (by decide))) (by decide)
                  refine lv_iload_n hx hb dX12_nextToken_242 rfl (lv_at hl 0 rfl) ?_
                  refine lv_goto (tgt := 247) hx hb dX12_nextToken_243 (by decide) ?_
                  refine pg_put S Y ok_X12 9 (by decide) kf12_98 rfl (fs' := [.ref (ad 1 0), .ref (ad 2 0), .ref (ad 3 0), .ref (ad 4 0), .int td, .int fa, .int fp, .int y0_f7, .int y0_f7, .int r_84416, .int y0_f10, .long y0_f11, .int t0, .int wr, .int so, .ref (ad 5 0), .ref (ad 6 0), .int pd, .int op9, .int cg, .int iw, .int on9, .ref (ad 7 0), .ref (ad 8 0), .ref (ad 9 0), .int is9, .ref (ad 10 0), .ref (ad 11 0), .ref (ad 12 0), .ref (ad 13 0), .int se, .ref (ad 14 0)]) (v := .int r_84416) p_ad_0_0 rfl rfl rfl (Nat.le_of_ble_eq_true rfl) dX12_nextToken_247 (fun f_84456 H locs ef_84456 Y => ?_)
                  have p_ad_4_0 := p_ad_4_0.up ef_84456 (I.ne (k := 4) (j := 0) (k' := 0) (j' := 0) (by decide) (by decide) (Or.inl (by decide)))
                  have p_ad_5_0 := p_ad_5_0.up ef_84456 (I.ne (k := 5) (j := 0) (k' := 0) (j' := 0) (by decide) (by decide) (Or.inl (by decide)))
                  have p_ad_6_0 := p_ad_6_0.up ef_84456 (I.ne (k := 6) (j := 0) (k' := 0) (j' := 0) (by decide) (by decide) (Or.inl (by decide)))
                  have p_ad_0_0 := p_ad_0_0.me ef_84456
                  have I := I.up (k := 0) (j := 0) (by decide) ef_84456 (okE_o (okFs_c okV_r (okFs_c okV_r (okFs_c okV_r (okFs_c okV_r (okFs_c (okV_p bf0_4) (okFs_c (okV_p bf0_5) (okFs_c (okV_p bf0_6) (okFs_c (okV_i bf0_7) (okFs_c (okV_i (bn_w bf0_7 (by decide))) (okFs_c (okV_i (bn_w B_84418 (by decide))) (okFs_c (okV_i (bn_any _)) (okFs_c okV_l (okFs_c (okV_i bf0_12) (okFs_c (okV_i bf0_13) (okFs_c (okV_i (bn_any _)) (okFs_c okV_r (okFs_c okV_r (okFs_c (okV_i bf0_17) (okFs_c (okV_i bf0_18) (okFs_c (okV_i bf0_19) (okFs_c (okV_i bf0_20) (okFs_c (okV_i (bn_any _)) (okFs_c okV_r (okFs_c okV_r (okFs_c okV_r (okFs_c (okV_i bf0_25) (okFs_c okV_r (okFs_c okV_r (okFs_c okV_r (okFs_c okV_r (okFs_c (okV_i (bn_any _)) (okFs_c okV_r okFs_n)))))))))))))))))))))))))))))))))
                  refine lv_aload_n hx hb dX12_nextToken_250 rfl (lv_at hl 1 rfl) ?_
                  refine lv_dup hx hb dX12_nextToken_251 rfl ?_
                  refine pg_get S Y ok_X12 7 (by decide) kf12_88 (v := .int y0_f7) p_ad_0_0 rfl dX12_nextToken_252 ?_
                  refine lv_iconst (v := 1) hx hb dX12_nextToken_255 (by decide) ?_
                  refine lv_iadd hx hb dX12_nextToken_256 ?_
                  refine lv_topi (fun x_84457 ex_84457 => ?_)
                  refine pg_put S Y ok_X12 7 (by decide) kf12_88 rfl (fs' := [.ref (ad 1 0), .ref (ad 2 0), .ref (ad 3 0), .ref (ad 4 0), .int td, .int fa, .int fp, .int x_84457, .int y0_f7, .int r_84416, .int y0_f10, .long y0_f11, .int t0, .int wr, .int so, .ref (ad 5 0), .ref (ad 6 0), .int pd, .int op9, .int cg, .int iw, .int on9, .ref (ad 7 0), .ref (ad 8 0), .ref (ad 9 0), .int is9, .ref (ad 10 0), .ref (ad 11 0), .ref (ad 12 0), .ref (ad 13 0), .int se, .ref (ad 14 0)]) (v := .int x_84457) p_ad_0_0 rfl rfl rfl (Nat.le_of_ble_eq_true rfl) dX12_nextToken_257 (fun f_84458 H locs ef_84458 Y => ?_)
                  have p_ad_4_0 := p_ad_4_0.up ef_84458 (I.ne (k := 4) (j := 0) (k' := 0) (j' := 0) (by decide) (by decide) (Or.inl (by decide)))
                  have p_ad_5_0 := p_ad_5_0.up ef_84458 (I.ne (k := 5) (j := 0) (k' := 0) (j' := 0) (by decide) (by decide) (Or.inl (by decide)))
                  have p_ad_6_0 := p_ad_6_0.up ef_84458 (I.ne (k := 6) (j := 0) (k' := 0) (j' := 0) (by decide) (by decide) (Or.inl (by decide)))
                  have p_ad_0_0 := p_ad_0_0.me ef_84458
                  have I := I.up (k := 0) (j := 0) (by decide) ef_84458 (okE_o (okFs_c okV_r (okFs_c okV_r (okFs_c okV_r (okFs_c okV_r (okFs_c (okV_p bf0_4) (okFs_c (okV_p bf0_5) (okFs_c (okV_p bf0_6) (okFs_c (okV_i (bn_w (bn_eq ex_84457 (bn_add B_84419 (show bn 1 1 (1 : Int32) from bn_k (by decide)) (by decide))) (by decide))) (okFs_c (okV_i (bn_w bf0_7 (by decide))) (okFs_c (okV_i (bn_w B_84418 (by decide))) (okFs_c (okV_i (bn_any _)) (okFs_c okV_l (okFs_c (okV_i bf0_12) (okFs_c (okV_i bf0_13) (okFs_c (okV_i (bn_any _)) (okFs_c okV_r (okFs_c okV_r (okFs_c (okV_i bf0_17) (okFs_c (okV_i bf0_18) (okFs_c (okV_i bf0_19) (okFs_c (okV_i bf0_20) (okFs_c (okV_i (bn_any _)) (okFs_c okV_r (okFs_c okV_r (okFs_c okV_r (okFs_c (okV_i bf0_25) (okFs_c okV_r (okFs_c okV_r (okFs_c okV_r (okFs_c okV_r (okFs_c (okV_i (bn_any _)) (okFs_c okV_r okFs_n)))))))))))))))))))))))))))))))))
                  refine lv_iload_n hx hb dX12_nextToken_260 rfl (lv_at hl 0 rfl) ?_
                  refine lv_bipush (v := 60) hx hb dX12_nextToken_261 (by decide) ?_
                  refine lv_icmp_eq (tgt := 272) hx hb dX12_nextToken_263 (by decide) (fun c_84459 => ?_) (fun c_84459 => ?_)
                  · have B_84460 : bn 60 60 r_84416 := bn_w (bn_eq c_84459 (show bn 60 60 (60 : Int32) from bn_k (by decide))) (by decide)
                    refine lv_aload_n hx hb dX12_nextToken_272 rfl (lv_at hl 1 rfl) ?_
                    refine lv_aload_n hx hb dX12_nextToken_273 rfl (lv_at hl 1 rfl) ?_
                    refine pg_get S Y ok_X12 7 (by decide) kf12_88 (v := .int x_84457) p_ad_0_0 rfl dX12_nextToken_274 ?_
                    refine cVp (As := [.int x_84457]) (rest := []) S Y (x_X12_byteAt (l := l) I p_ad_0_0 p_ad_4_0 (bn_w (bn_eq ex_84457 (bn_add B_84419 (show bn 1 1 (1 : Int32) from bn_k (by decide)) (by decide))) (by decide))) cw_X12_byteAt km12_91 p_ad_0_0 ok_X12.1 rfl rfl ⟨Nat.le_of_ble_eq_true rfl, Nat.le_of_ble_eq_true rfl⟩ hl.1 rfl (Nat.le_of_ble_eq_true rfl) ⟨Nat.le_of_ble_eq_true rfl, Nat.le_of_ble_eq_true rfl⟩ dX12_nextToken_277 (fun r_84461 H locs er_84461 Y => ?_)
                    refine lv_bipush (v := 61) hx hb dX12_nextToken_280 (by decide) ?_
                    refine lv_icmp_ne (tgt := 310) hx hb dX12_nextToken_282 (by decide) (fun c_84462 => ?_) (fun c_84462 => ?_)
                    · exact prV (post := fun L1 f1 => ∃ at92 : Int32, ∃ ps92 : Int32, ∃ tk2 : Int32, ∃ nu2 : Int32, ∃ wd2 : Int64, SH (spM PA PI PX pa) nnM G ad L1 f1 ∧ pt L1 f1 (ad 0 0) (.inr (12, [.ref (ad 1 0), .ref (ad 2 0), .ref (ad 3 0), .ref (ad 4 0), .int td, .int fa, .int fp, .int at92, .int ps92, .int tk2, .int nu2, .long wd2, .int t0, .int wr, .int so, .ref (ad 5 0), .ref (ad 6 0), .int pd, .int op9, .int cg, .int iw, .int on9, .ref (ad 7 0), .ref (ad 8 0), .ref (ad 9 0), .int is9, .ref (ad 10 0), .ref (ad 11 0), .ref (ad 12 0), .ref (ad 13 0), .int se, .ref (ad 14 0)])) ∧ pt L1 f1 (ad 4 0) (.inl (G.2 0, 300, .inl gt)) ∧ pt L1 f1 (ad 5 0) (.inl (G.2 0, 160, .inl gp)) ∧ pt L1 f1 (ad 6 0) (.inl (G.2 0, 9, .inl gc)) ∧ TK at92 ps92 tk2 ∧ at9.toInt ≤ ps92.toInt ∧ NT9 (bI gt) td.toInt.toNat at9.toInt.toNat at92 ps92 tk2 nu2 wd2) S Y (by decide) (by decide) hA1 ⟨x_84457, y0_f7, r_84416, y0_f10, y0_f11, I, p_ad_0_0, p_ad_4_0, p_ad_5_0, p_ad_6_0, ⟨by have z9 := (la_add ex_84457 (rfl : y0_f7.toInt = y0_f7.toInt) (show (1 : Int32).toInt = 1 from rfl) B_84419 (show bn 1 1 (1 : Int32) from bn_k (by decide)) (by decide)); omega, fun _ => by have z9 := (la_add ex_84457 (rfl : y0_f7.toInt = y0_f7.toInt) (show (1 : Int32).toInt = 1 from rfl) B_84419 (show bn 1 1 (1 : Int32) from bn_k (by decide)) (by decide)); omega⟩, hat.1, (by have h0 := (show r_84416.toInt = bI gt (skB (bI gt) td.toInt.toNat td.toInt.toNat at9.toInt.toNat) from by rw [hSK]; exact (BY_in er_84416.2 ((bn_w (a' := 0) (b' := 2147483647) B_84419 (by decide))).1 (BY_lt er_84416.2 (ge_nm9 (bn_w B_84460 (by decide)))))); exact NT_g hSP (by rw [hSK]; have k9 := (BY_lt er_84416.2 (ge_nm9 (bn_w B_84460 (by decide)))); have k8 := ((bn_w (a' := 0) (b' := 2147483647) B_84419 (by decide))).1; omega) (by rw [hSK]; exact (fun z => er_84426.2.2 c_84427 (lt_L9 (by rw [(BY_in er_84416.2 ((bn_w (a' := 0) (b' := 2147483647) B_84419 (by decide))).1 (BY_lt er_84416.2 (ge_nm9 (bn_w B_84460 (by decide)))))]; exact z)))) (by rw [hSK]; exact (fun z => er_84421.2.2 c_84422 (dg_FG (by rw [(BY_in er_84416.2 ((bn_w (a' := 0) (b' := 2147483647) B_84419 (by decide))).1 (BY_lt er_84416.2 (ge_nm9 (bn_w B_84460 (by decide)))))]; exact z)))) (by rw [(sg_n2M er_84461.2 (by have k9 := (la_add ex_84457 (rfl : y0_f7.toInt = y0_f7.toInt) (show (1 : Int32).toInt = 1 from rfl) B_84419 (show bn 1 1 (1 : Int32) from bn_k (by decide)) (by decide)); have k8 := hSP; omega) c_84462)]; show _ = ((_ + 1 : Nat) : Int); have k9 := (la_add ex_84457 (rfl : y0_f7.toInt = y0_f7.toInt) (show (1 : Int32).toInt = 1 from rfl) B_84419 (show bn 1 1 (1 : Int32) from bn_k (by decide)) (by decide)); have k8 := hSP; omega) (Or.inr (Or.inr (Or.inr ⟨cls_t er_84431.2 c_84432, by rw [(sg_n2M er_84461.2 (by have k9 := (la_add ex_84457 (rfl : y0_f7.toInt = y0_f7.toInt) (show (1 : Int32).toInt = 1 from rfl) B_84419 (show bn 1 1 (1 : Int32) from bn_k (by decide)) (by decide)); have k8 := hSP; omega) c_84462)]; show (if isSg _ then _ else _) = _; rw [if_pos (by rw [← h0]; exact cls_t er_84431.2 c_84432), ← h0]⟩))))⟩ dX12_nextToken_310
                    · have B_84463 : bn 61 61 r_84461 := bn_w (bn_eq c_84462 (show bn 61 61 (61 : Int32) from bn_k (by decide))) (by decide)
                      have B_84464 : bn 1 299 x_84457 := bn_w (bn_i (bn_eq ex_84457 (bn_add B_84419 (show bn 1 1 (1 : Int32) from bn_k (by decide)) (by decide))) (er_84461.1 (bd_ne B_84463 (show bn (-1) (-1) (-1 : Int32) from bn_k (by decide)) (by decide)))) (by decide)
                      refine lv_aload_n hx hb dX12_nextToken_285 rfl (lv_at hl 1 rfl) ?_
                      refine lv_iload_n hx hb dX12_nextToken_286 rfl (lv_at hl 0 rfl) ?_
                      refine lv_bipush (v := 60) hx hb dX12_nextToken_287 (by decide) ?_
                      refine lv_icmp_ne (tgt := 296) hx hb dX12_nextToken_289 (by decide) (fun h => absurd c_84459 h) (fun _ => ?_)
                      refine lv_iconst (v := 4) hx hb dX12_nextToken_292 (by decide) ?_
                      refine lv_goto (tgt := 297) hx hb dX12_nextToken_293 (by decide) ?_
                      refine pg_put S Y ok_X12 9 (by decide) kf12_98 rfl (fs' := [.ref (ad 1 0), .ref (ad 2 0), .ref (ad 3 0), .ref (ad 4 0), .int td, .int fa, .int fp, .int x_84457, .int y0_f7, .int 4, .int y0_f10, .long y0_f11, .int t0, .int wr, .int so, .ref (ad 5 0), .ref (ad 6 0), .int pd, .int op9, .int cg, .int iw, .int on9, .ref (ad 7 0), .ref (ad 8 0), .ref (ad 9 0), .int is9, .ref (ad 10 0), .ref (ad 11 0), .ref (ad 12 0), .ref (ad 13 0), .int se, .ref (ad 14 0)]) (v := .int 4) p_ad_0_0 rfl rfl rfl (Nat.le_of_ble_eq_true rfl) dX12_nextToken_297 (fun f_84465 H locs ef_84465 Y => ?_)
                      have p_ad_4_0 := p_ad_4_0.up ef_84465 (I.ne (k := 4) (j := 0) (k' := 0) (j' := 0) (by decide) (by decide) (Or.inl (by decide)))
                      have p_ad_5_0 := p_ad_5_0.up ef_84465 (I.ne (k := 5) (j := 0) (k' := 0) (j' := 0) (by decide) (by decide) (Or.inl (by decide)))
                      have p_ad_6_0 := p_ad_6_0.up ef_84465 (I.ne (k := 6) (j := 0) (k' := 0) (j' := 0) (by decide) (by decide) (Or.inl (by decide)))
                      have p_ad_0_0 := p_ad_0_0.me ef_84465
                      have I := I.up (k := 0) (j := 0) (by decide) ef_84465 (okE_o (okFs_c okV_r (okFs_c okV_r (okFs_c okV_r (okFs_c okV_r (okFs_c (okV_p bf0_4) (okFs_c (okV_p bf0_5) (okFs_c (okV_p bf0_6) (okFs_c (okV_i (bn_w (bn_eq ex_84457 (bn_add B_84419 (show bn 1 1 (1 : Int32) from bn_k (by decide)) (by decide))) (by decide))) (okFs_c (okV_i (bn_w bf0_7 (by decide))) (okFs_c (okV_i (bn_w (show bn 4 4 (4 : Int32) from bn_k (by decide)) (by decide))) (okFs_c (okV_i (bn_any _)) (okFs_c okV_l (okFs_c (okV_i bf0_12) (okFs_c (okV_i bf0_13) (okFs_c (okV_i (bn_any _)) (okFs_c okV_r (okFs_c okV_r (okFs_c (okV_i bf0_17) (okFs_c (okV_i bf0_18) (okFs_c (okV_i bf0_19) (okFs_c (okV_i bf0_20) (okFs_c (okV_i (bn_any _)) (okFs_c okV_r (okFs_c okV_r (okFs_c okV_r (okFs_c (okV_i bf0_25) (okFs_c okV_r (okFs_c okV_r (okFs_c okV_r (okFs_c okV_r (okFs_c (okV_i (bn_any _)) (okFs_c okV_r okFs_n)))))))))))))))))))))))))))))))))
                      refine lv_aload_n hx hb dX12_nextToken_300 rfl (lv_at hl 1 rfl) ?_
                      refine lv_dup hx hb dX12_nextToken_301 rfl ?_
                      refine pg_get S Y ok_X12 7 (by decide) kf12_88 (v := .int x_84457) p_ad_0_0 rfl dX12_nextToken_302 ?_
                      refine lv_iconst (v := 1) hx hb dX12_nextToken_305 (by decide) ?_
                      refine lv_iadd hx hb dX12_nextToken_306 ?_
                      refine lv_topi (fun x_84466 ex_84466 => ?_)
                      refine pg_put S Y ok_X12 7 (by decide) kf12_88 rfl (fs' := [.ref (ad 1 0), .ref (ad 2 0), .ref (ad 3 0), .ref (ad 4 0), .int td, .int fa, .int fp, .int x_84466, .int y0_f7, .int 4, .int y0_f10, .long y0_f11, .int t0, .int wr, .int so, .ref (ad 5 0), .ref (ad 6 0), .int pd, .int op9, .int cg, .int iw, .int on9, .ref (ad 7 0), .ref (ad 8 0), .ref (ad 9 0), .int is9, .ref (ad 10 0), .ref (ad 11 0), .ref (ad 12 0), .ref (ad 13 0), .int se, .ref (ad 14 0)]) (v := .int x_84466) p_ad_0_0 rfl rfl rfl (Nat.le_of_ble_eq_true rfl) dX12_nextToken_307 (fun f_84467 H locs ef_84467 Y => ?_)
                      have p_ad_4_0 := p_ad_4_0.up ef_84467 (I.ne (k := 4) (j := 0) (k' := 0) (j' := 0) (by decide) (by decide) (Or.inl (by decide)))
                      have p_ad_5_0 := p_ad_5_0.up ef_84467 (I.ne (k := 5) (j := 0) (k' := 0) (j' := 0) (by decide) (by decide) (Or.inl (by decide)))
                      have p_ad_6_0 := p_ad_6_0.up ef_84467 (I.ne (k := 6) (j := 0) (k' := 0) (j' := 0) (by decide) (by decide) (Or.inl (by decide)))
                      have p_ad_0_0 := p_ad_0_0.me ef_84467
                      have I := I.up (k := 0) (j := 0) (by decide) ef_84467 (okE_o (okFs_c okV_r (okFs_c okV_r (okFs_c okV_r (okFs_c okV_r (okFs_c (okV_p bf0_4) (okFs_c (okV_p bf0_5) (okFs_c (okV_p bf0_6) (okFs_c (okV_i (bn_w (bn_eq ex_84466 (bn_add B_84464 (show bn 1 1 (1 : Int32) from bn_k (by decide)) (by decide))) (by decide))) (okFs_c (okV_i (bn_w bf0_7 (by decide))) (okFs_c (okV_i (bn_w (show bn 4 4 (4 : Int32) from bn_k (by decide)) (by decide))) (okFs_c (okV_i (bn_any _)) (okFs_c okV_l (okFs_c (okV_i bf0_12) (okFs_c (okV_i bf0_13) (okFs_c (okV_i (bn_any _)) (okFs_c okV_r (okFs_c okV_r (okFs_c (okV_i bf0_17) (okFs_c (okV_i bf0_18) (okFs_c (okV_i bf0_19) (okFs_c (okV_i bf0_20) (okFs_c (okV_i (bn_any _)) (okFs_c okV_r (okFs_c okV_r (okFs_c okV_r (okFs_c (okV_i bf0_25) (okFs_c okV_r (okFs_c okV_r (okFs_c okV_r (okFs_c okV_r (okFs_c (okV_i (bn_any _)) (okFs_c okV_r okFs_n)))))))))))))))))))))))))))))))))
                      exact prV (post := fun L1 f1 => ∃ at92 : Int32, ∃ ps92 : Int32, ∃ tk2 : Int32, ∃ nu2 : Int32, ∃ wd2 : Int64, SH (spM PA PI PX pa) nnM G ad L1 f1 ∧ pt L1 f1 (ad 0 0) (.inr (12, [.ref (ad 1 0), .ref (ad 2 0), .ref (ad 3 0), .ref (ad 4 0), .int td, .int fa, .int fp, .int at92, .int ps92, .int tk2, .int nu2, .long wd2, .int t0, .int wr, .int so, .ref (ad 5 0), .ref (ad 6 0), .int pd, .int op9, .int cg, .int iw, .int on9, .ref (ad 7 0), .ref (ad 8 0), .ref (ad 9 0), .int is9, .ref (ad 10 0), .ref (ad 11 0), .ref (ad 12 0), .ref (ad 13 0), .int se, .ref (ad 14 0)])) ∧ pt L1 f1 (ad 4 0) (.inl (G.2 0, 300, .inl gt)) ∧ pt L1 f1 (ad 5 0) (.inl (G.2 0, 160, .inl gp)) ∧ pt L1 f1 (ad 6 0) (.inl (G.2 0, 9, .inl gc)) ∧ TK at92 ps92 tk2 ∧ at9.toInt ≤ ps92.toInt ∧ NT9 (bI gt) td.toInt.toNat at9.toInt.toNat at92 ps92 tk2 nu2 wd2) S Y (by decide) (by decide) hA1 ⟨x_84466, y0_f7, 4, y0_f10, y0_f11, I, p_ad_0_0, p_ad_4_0, p_ad_5_0, p_ad_6_0, ⟨by have z9 := (la_add ex_84466 (la_add ex_84457 (rfl : y0_f7.toInt = y0_f7.toInt) (show (1 : Int32).toInt = 1 from rfl) B_84419 (show bn 1 1 (1 : Int32) from bn_k (by decide)) (by decide)) (show (1 : Int32).toInt = 1 from rfl) B_84464 (show bn 1 1 (1 : Int32) from bn_k (by decide)) (by decide)); omega, fun _ => by have z9 := (la_add ex_84466 (la_add ex_84457 (rfl : y0_f7.toInt = y0_f7.toInt) (show (1 : Int32).toInt = 1 from rfl) B_84419 (show bn 1 1 (1 : Int32) from bn_k (by decide)) (by decide)) (show (1 : Int32).toInt = 1 from rfl) B_84464 (show bn 1 1 (1 : Int32) from bn_k (by decide)) (by decide)); omega⟩, hat.1, (by have h0 := (show r_84416.toInt = bI gt (skB (bI gt) td.toInt.toNat td.toInt.toNat at9.toInt.toNat) from by rw [hSK]; exact (BY_in er_84416.2 ((bn_w (a' := 0) (b' := 2147483647) B_84419 (by decide))).1 (BY_lt er_84416.2 (ge_nm9 (bn_w B_84460 (by decide)))))); exact NT_g hSP (by rw [hSK]; have k9 := (BY_lt er_84416.2 (ge_nm9 (bn_w B_84460 (by decide)))); have k8 := ((bn_w (a' := 0) (b' := 2147483647) B_84419 (by decide))).1; omega) (by rw [hSK]; exact (fun z => er_84426.2.2 c_84427 (lt_L9 (by rw [(BY_in er_84416.2 ((bn_w (a' := 0) (b' := 2147483647) B_84419 (by decide))).1 (BY_lt er_84416.2 (ge_nm9 (bn_w B_84460 (by decide)))))]; exact z)))) (by rw [hSK]; exact (fun z => er_84421.2.2 c_84422 (dg_FG (by rw [(BY_in er_84416.2 ((bn_w (a' := 0) (b' := 2147483647) B_84419 (by decide))).1 (BY_lt er_84416.2 (ge_nm9 (bn_w B_84460 (by decide)))))]; exact z)))) (by rw [(sg_yM h0 (Or.inl c_84459) er_84461.2 (by have k9 := (la_add ex_84457 (rfl : y0_f7.toInt = y0_f7.toInt) (show (1 : Int32).toInt = 1 from rfl) B_84419 (show bn 1 1 (1 : Int32) from bn_k (by decide)) (by decide)); have k8 := hSP; omega) c_84462)]; show _ = ((_ + 2 : Nat) : Int); have k9 := (la_add ex_84466 (la_add ex_84457 (rfl : y0_f7.toInt = y0_f7.toInt) (show (1 : Int32).toInt = 1 from rfl) B_84419 (show bn 1 1 (1 : Int32) from bn_k (by decide)) (by decide)) (show (1 : Int32).toInt = 1 from rfl) B_84464 (show bn 1 1 (1 : Int32) from bn_k (by decide)) (by decide)); have k8 := hSP; omega) (Or.inl ⟨rfl, by rw [(sg_yM h0 (Or.inl c_84459) er_84461.2 (by have k9 := (la_add ex_84457 (rfl : y0_f7.toInt = y0_f7.toInt) (show (1 : Int32).toInt = 1 from rfl) B_84419 (show bn 1 1 (1 : Int32) from bn_k (by decide)) (by decide)); have k8 := hSP; omega) c_84462)]; show bI gt _ + 256 = 316; have k9 := h0; rw [c_84459] at k9; have k9 : (60 : Int) = _ := k9; omega⟩))⟩ dX12_nextToken_310
                  · refine lv_iload_n hx hb dX12_nextToken_266 rfl (lv_at hl 0 rfl) ?_
                    refine lv_bipush (v := 62) hx hb dX12_nextToken_267 (by decide) ?_
                    refine lv_icmp_ne (tgt := 310) hx hb dX12_nextToken_269 (by decide) (fun c_84468 => ?_) (fun c_84468 => ?_)
                    · exact prV (post := fun L1 f1 => ∃ at92 : Int32, ∃ ps92 : Int32, ∃ tk2 : Int32, ∃ nu2 : Int32, ∃ wd2 : Int64, SH (spM PA PI PX pa) nnM G ad L1 f1 ∧ pt L1 f1 (ad 0 0) (.inr (12, [.ref (ad 1 0), .ref (ad 2 0), .ref (ad 3 0), .ref (ad 4 0), .int td, .int fa, .int fp, .int at92, .int ps92, .int tk2, .int nu2, .long wd2, .int t0, .int wr, .int so, .ref (ad 5 0), .ref (ad 6 0), .int pd, .int op9, .int cg, .int iw, .int on9, .ref (ad 7 0), .ref (ad 8 0), .ref (ad 9 0), .int is9, .ref (ad 10 0), .ref (ad 11 0), .ref (ad 12 0), .ref (ad 13 0), .int se, .ref (ad 14 0)])) ∧ pt L1 f1 (ad 4 0) (.inl (G.2 0, 300, .inl gt)) ∧ pt L1 f1 (ad 5 0) (.inl (G.2 0, 160, .inl gp)) ∧ pt L1 f1 (ad 6 0) (.inl (G.2 0, 9, .inl gc)) ∧ TK at92 ps92 tk2 ∧ at9.toInt ≤ ps92.toInt ∧ NT9 (bI gt) td.toInt.toNat at9.toInt.toNat at92 ps92 tk2 nu2 wd2) S Y (by decide) (by decide) hA1 ⟨x_84457, y0_f7, r_84416, y0_f10, y0_f11, I, p_ad_0_0, p_ad_4_0, p_ad_5_0, p_ad_6_0, ⟨by have z9 := (la_add ex_84457 (rfl : y0_f7.toInt = y0_f7.toInt) (show (1 : Int32).toInt = 1 from rfl) B_84419 (show bn 1 1 (1 : Int32) from bn_k (by decide)) (by decide)); omega, fun _ => by have z9 := (la_add ex_84457 (rfl : y0_f7.toInt = y0_f7.toInt) (show (1 : Int32).toInt = 1 from rfl) B_84419 (show bn 1 1 (1 : Int32) from bn_k (by decide)) (by decide)); omega⟩, hat.1, (by have h0 := (show r_84416.toInt = bI gt (skB (bI gt) td.toInt.toNat td.toInt.toNat at9.toInt.toNat) from by rw [hSK]; exact (BY_in er_84416.2 ((bn_w (a' := 0) (b' := 2147483647) B_84419 (by decide))).1 (BY_lt er_84416.2 (ge_nm9 (bn_w B_84418 (by decide)))))); exact NT_g hSP (by rw [hSK]; have k9 := (BY_lt er_84416.2 (ge_nm9 (bn_w B_84418 (by decide)))); have k8 := ((bn_w (a' := 0) (b' := 2147483647) B_84419 (by decide))).1; omega) (by rw [hSK]; exact (fun z => er_84426.2.2 c_84427 (lt_L9 (by rw [(BY_in er_84416.2 ((bn_w (a' := 0) (b' := 2147483647) B_84419 (by decide))).1 (BY_lt er_84416.2 (ge_nm9 (bn_w B_84418 (by decide)))))]; exact z)))) (by rw [hSK]; exact (fun z => er_84421.2.2 c_84422 (dg_FG (by rw [(BY_in er_84416.2 ((bn_w (a' := 0) (b' := 2147483647) B_84419 (by decide))).1 (BY_lt er_84416.2 (ge_nm9 (bn_w B_84418 (by decide)))))]; exact z)))) (by rw [(sg_n1 h0 c_84459 c_84468)]; show _ = ((_ + 1 : Nat) : Int); have k9 := (la_add ex_84457 (rfl : y0_f7.toInt = y0_f7.toInt) (show (1 : Int32).toInt = 1 from rfl) B_84419 (show bn 1 1 (1 : Int32) from bn_k (by decide)) (by decide)); have k8 := hSP; omega) (Or.inr (Or.inr (Or.inr ⟨cls_t er_84431.2 c_84432, by rw [(sg_n1 h0 c_84459 c_84468)]; show (if isSg _ then _ else _) = _; rw [if_pos (by rw [← h0]; exact cls_t er_84431.2 c_84432), ← h0]⟩))))⟩ dX12_nextToken_310
                    · have B_84469 : bn 62 62 r_84416 := bn_w (bn_eq c_84468 (show bn 62 62 (62 : Int32) from bn_k (by decide))) (by decide)
                      refine lv_aload_n hx hb dX12_nextToken_272 rfl (lv_at hl 1 rfl) ?_
                      refine lv_aload_n hx hb dX12_nextToken_273 rfl (lv_at hl 1 rfl) ?_
                      refine pg_get S Y ok_X12 7 (by decide) kf12_88 (v := .int x_84457) p_ad_0_0 rfl dX12_nextToken_274 ?_
                      refine cVp (As := [.int x_84457]) (rest := []) S Y (x_X12_byteAt (l := l) I p_ad_0_0 p_ad_4_0 (bn_w (bn_eq ex_84457 (bn_add B_84419 (show bn 1 1 (1 : Int32) from bn_k (by decide)) (by decide))) (by decide))) cw_X12_byteAt km12_91 p_ad_0_0 ok_X12.1 rfl rfl ⟨Nat.le_of_ble_eq_true rfl, Nat.le_of_ble_eq_true rfl⟩ hl.1 rfl (Nat.le_of_ble_eq_true rfl) ⟨Nat.le_of_ble_eq_true rfl, Nat.le_of_ble_eq_true rfl⟩ dX12_nextToken_277 (fun r_84470 H locs er_84470 Y => ?_)
                      refine lv_bipush (v := 61) hx hb dX12_nextToken_280 (by decide) ?_
                      refine lv_icmp_ne (tgt := 310) hx hb dX12_nextToken_282 (by decide) (fun c_84471 => ?_) (fun c_84471 => ?_)
                      · exact prV (post := fun L1 f1 => ∃ at92 : Int32, ∃ ps92 : Int32, ∃ tk2 : Int32, ∃ nu2 : Int32, ∃ wd2 : Int64, SH (spM PA PI PX pa) nnM G ad L1 f1 ∧ pt L1 f1 (ad 0 0) (.inr (12, [.ref (ad 1 0), .ref (ad 2 0), .ref (ad 3 0), .ref (ad 4 0), .int td, .int fa, .int fp, .int at92, .int ps92, .int tk2, .int nu2, .long wd2, .int t0, .int wr, .int so, .ref (ad 5 0), .ref (ad 6 0), .int pd, .int op9, .int cg, .int iw, .int on9, .ref (ad 7 0), .ref (ad 8 0), .ref (ad 9 0), .int is9, .ref (ad 10 0), .ref (ad 11 0), .ref (ad 12 0), .ref (ad 13 0), .int se, .ref (ad 14 0)])) ∧ pt L1 f1 (ad 4 0) (.inl (G.2 0, 300, .inl gt)) ∧ pt L1 f1 (ad 5 0) (.inl (G.2 0, 160, .inl gp)) ∧ pt L1 f1 (ad 6 0) (.inl (G.2 0, 9, .inl gc)) ∧ TK at92 ps92 tk2 ∧ at9.toInt ≤ ps92.toInt ∧ NT9 (bI gt) td.toInt.toNat at9.toInt.toNat at92 ps92 tk2 nu2 wd2) S Y (by decide) (by decide) hA1 ⟨x_84457, y0_f7, r_84416, y0_f10, y0_f11, I, p_ad_0_0, p_ad_4_0, p_ad_5_0, p_ad_6_0, ⟨by have z9 := (la_add ex_84457 (rfl : y0_f7.toInt = y0_f7.toInt) (show (1 : Int32).toInt = 1 from rfl) B_84419 (show bn 1 1 (1 : Int32) from bn_k (by decide)) (by decide)); omega, fun _ => by have z9 := (la_add ex_84457 (rfl : y0_f7.toInt = y0_f7.toInt) (show (1 : Int32).toInt = 1 from rfl) B_84419 (show bn 1 1 (1 : Int32) from bn_k (by decide)) (by decide)); omega⟩, hat.1, (by have h0 := (show r_84416.toInt = bI gt (skB (bI gt) td.toInt.toNat td.toInt.toNat at9.toInt.toNat) from by rw [hSK]; exact (BY_in er_84416.2 ((bn_w (a' := 0) (b' := 2147483647) B_84419 (by decide))).1 (BY_lt er_84416.2 (ge_nm9 (bn_w B_84469 (by decide)))))); exact NT_g hSP (by rw [hSK]; have k9 := (BY_lt er_84416.2 (ge_nm9 (bn_w B_84469 (by decide)))); have k8 := ((bn_w (a' := 0) (b' := 2147483647) B_84419 (by decide))).1; omega) (by rw [hSK]; exact (fun z => er_84426.2.2 c_84427 (lt_L9 (by rw [(BY_in er_84416.2 ((bn_w (a' := 0) (b' := 2147483647) B_84419 (by decide))).1 (BY_lt er_84416.2 (ge_nm9 (bn_w B_84469 (by decide)))))]; exact z)))) (by rw [hSK]; exact (fun z => er_84421.2.2 c_84422 (dg_FG (by rw [(BY_in er_84416.2 ((bn_w (a' := 0) (b' := 2147483647) B_84419 (by decide))).1 (BY_lt er_84416.2 (ge_nm9 (bn_w B_84469 (by decide)))))]; exact z)))) (by rw [(sg_n2M er_84470.2 (by have k9 := (la_add ex_84457 (rfl : y0_f7.toInt = y0_f7.toInt) (show (1 : Int32).toInt = 1 from rfl) B_84419 (show bn 1 1 (1 : Int32) from bn_k (by decide)) (by decide)); have k8 := hSP; omega) c_84471)]; show _ = ((_ + 1 : Nat) : Int); have k9 := (la_add ex_84457 (rfl : y0_f7.toInt = y0_f7.toInt) (show (1 : Int32).toInt = 1 from rfl) B_84419 (show bn 1 1 (1 : Int32) from bn_k (by decide)) (by decide)); have k8 := hSP; omega) (Or.inr (Or.inr (Or.inr ⟨cls_t er_84431.2 c_84432, by rw [(sg_n2M er_84470.2 (by have k9 := (la_add ex_84457 (rfl : y0_f7.toInt = y0_f7.toInt) (show (1 : Int32).toInt = 1 from rfl) B_84419 (show bn 1 1 (1 : Int32) from bn_k (by decide)) (by decide)); have k8 := hSP; omega) c_84471)]; show (if isSg _ then _ else _) = _; rw [if_pos (by rw [← h0]; exact cls_t er_84431.2 c_84432), ← h0]⟩))))⟩ dX12_nextToken_310
                      · have B_84472 : bn 61 61 r_84470 := bn_w (bn_eq c_84471 (show bn 61 61 (61 : Int32) from bn_k (by decide))) (by decide)
                        have B_84473 : bn 1 299 x_84457 := bn_w (bn_i (bn_eq ex_84457 (bn_add B_84419 (show bn 1 1 (1 : Int32) from bn_k (by decide)) (by decide))) (er_84470.1 (bd_ne B_84472 (show bn (-1) (-1) (-1 : Int32) from bn_k (by decide)) (by decide)))) (by decide)
                        refine lv_aload_n hx hb dX12_nextToken_285 rfl (lv_at hl 1 rfl) ?_
                        refine lv_iload_n hx hb dX12_nextToken_286 rfl (lv_at hl 0 rfl) ?_
                        refine lv_bipush (v := 60) hx hb dX12_nextToken_287 (by decide) ?_
                        refine lv_icmp_ne (tgt := 296) hx hb dX12_nextToken_289 (by decide) (fun _ => ?_) (fun h => absurd h c_84459)
                        refine lv_iconst (v := 5) hx hb dX12_nextToken_296 (by decide) ?_
                        refine pg_put S Y ok_X12 9 (by decide) kf12_98 rfl (fs' := [.ref (ad 1 0), .ref (ad 2 0), .ref (ad 3 0), .ref (ad 4 0), .int td, .int fa, .int fp, .int x_84457, .int y0_f7, .int 5, .int y0_f10, .long y0_f11, .int t0, .int wr, .int so, .ref (ad 5 0), .ref (ad 6 0), .int pd, .int op9, .int cg, .int iw, .int on9, .ref (ad 7 0), .ref (ad 8 0), .ref (ad 9 0), .int is9, .ref (ad 10 0), .ref (ad 11 0), .ref (ad 12 0), .ref (ad 13 0), .int se, .ref (ad 14 0)]) (v := .int 5) p_ad_0_0 rfl rfl rfl (Nat.le_of_ble_eq_true rfl) dX12_nextToken_297 (fun f_84474 H locs ef_84474 Y => ?_)
                        have p_ad_4_0 := p_ad_4_0.up ef_84474 (I.ne (k := 4) (j := 0) (k' := 0) (j' := 0) (by decide) (by decide) (Or.inl (by decide)))
                        have p_ad_5_0 := p_ad_5_0.up ef_84474 (I.ne (k := 5) (j := 0) (k' := 0) (j' := 0) (by decide) (by decide) (Or.inl (by decide)))
                        have p_ad_6_0 := p_ad_6_0.up ef_84474 (I.ne (k := 6) (j := 0) (k' := 0) (j' := 0) (by decide) (by decide) (Or.inl (by decide)))
                        have p_ad_0_0 := p_ad_0_0.me ef_84474
                        have I := I.up (k := 0) (j := 0) (by decide) ef_84474 (okE_o (okFs_c okV_r (okFs_c okV_r (okFs_c okV_r (okFs_c okV_r (okFs_c (okV_p bf0_4) (okFs_c (okV_p bf0_5) (okFs_c (okV_p bf0_6) (okFs_c (okV_i (bn_w (bn_eq ex_84457 (bn_add B_84419 (show bn 1 1 (1 : Int32) from bn_k (by decide)) (by decide))) (by decide))) (okFs_c (okV_i (bn_w bf0_7 (by decide))) (okFs_c (okV_i (bn_w (show bn 5 5 (5 : Int32) from bn_k (by decide)) (by decide))) (okFs_c (okV_i (bn_any _)) (okFs_c okV_l (okFs_c (okV_i bf0_12) (okFs_c (okV_i bf0_13) (okFs_c (okV_i (bn_any _)) (okFs_c okV_r (okFs_c okV_r (okFs_c (okV_i bf0_17) (okFs_c (okV_i bf0_18) (okFs_c (okV_i bf0_19) (okFs_c (okV_i bf0_20) (okFs_c (okV_i (bn_any _)) (okFs_c okV_r (okFs_c okV_r (okFs_c okV_r (okFs_c (okV_i bf0_25) (okFs_c okV_r (okFs_c okV_r (okFs_c okV_r (okFs_c okV_r (okFs_c (okV_i (bn_any _)) (okFs_c okV_r okFs_n)))))))))))))))))))))))))))))))))
                        refine lv_aload_n hx hb dX12_nextToken_300 rfl (lv_at hl 1 rfl) ?_
                        refine lv_dup hx hb dX12_nextToken_301 rfl ?_
                        refine pg_get S Y ok_X12 7 (by decide) kf12_88 (v := .int x_84457) p_ad_0_0 rfl dX12_nextToken_302 ?_
                        refine lv_iconst (v := 1) hx hb dX12_nextToken_305 (by decide) ?_
                        refine lv_iadd hx hb dX12_nextToken_306 ?_
                        refine lv_topi (fun x_84475 ex_84475 => ?_)
                        refine pg_put S Y ok_X12 7 (by decide) kf12_88 rfl (fs' := [.ref (ad 1 0), .ref (ad 2 0), .ref (ad 3 0), .ref (ad 4 0), .int td, .int fa, .int fp, .int x_84475, .int y0_f7, .int 5, .int y0_f10, .long y0_f11, .int t0, .int wr, .int so, .ref (ad 5 0), .ref (ad 6 0), .int pd, .int op9, .int cg, .int iw, .int on9, .ref (ad 7 0), .ref (ad 8 0), .ref (ad 9 0), .int is9, .ref (ad 10 0), .ref (ad 11 0), .ref (ad 12 0), .ref (ad 13 0), .int se, .ref (ad 14 0)]) (v := .int x_84475) p_ad_0_0 rfl rfl rfl (Nat.le_of_ble_eq_true rfl) dX12_nextToken_307 (fun f_84476 H locs ef_84476 Y => ?_)
                        have p_ad_4_0 := p_ad_4_0.up ef_84476 (I.ne (k := 4) (j := 0) (k' := 0) (j' := 0) (by decide) (by decide) (Or.inl (by decide)))
                        have p_ad_5_0 := p_ad_5_0.up ef_84476 (I.ne (k := 5) (j := 0) (k' := 0) (j' := 0) (by decide) (by decide) (Or.inl (by decide)))
                        have p_ad_6_0 := p_ad_6_0.up ef_84476 (I.ne (k := 6) (j := 0) (k' := 0) (j' := 0) (by decide) (by decide) (Or.inl (by decide)))
                        have p_ad_0_0 := p_ad_0_0.me ef_84476
                        have I := I.up (k := 0) (j := 0) (by decide) ef_84476 (okE_o (okFs_c okV_r (okFs_c okV_r (okFs_c okV_r (okFs_c okV_r (okFs_c (okV_p bf0_4) (okFs_c (okV_p bf0_5) (okFs_c (okV_p bf0_6) (okFs_c (okV_i (bn_w (bn_eq ex_84475 (bn_add B_84473 (show bn 1 1 (1 : Int32) from bn_k (by decide)) (by decide))) (by decide))) (okFs_c (okV_i (bn_w bf0_7 (by decide))) (okFs_c (okV_i (bn_w (show bn 5 5 (5 : Int32) from bn_k (by decide)) (by decide))) (okFs_c (okV_i (bn_any _)) (okFs_c okV_l (okFs_c (okV_i bf0_12) (okFs_c (okV_i bf0_13) (okFs_c (okV_i (bn_any _)) (okFs_c okV_r (okFs_c okV_r (okFs_c (okV_i bf0_17) (okFs_c (okV_i bf0_18) (okFs_c (okV_i bf0_19) (okFs_c (okV_i bf0_20) (okFs_c (okV_i (bn_any _)) (okFs_c okV_r (okFs_c okV_r (okFs_c okV_r (okFs_c (okV_i bf0_25) (okFs_c okV_r (okFs_c okV_r (okFs_c okV_r (okFs_c okV_r (okFs_c (okV_i (bn_any _)) (okFs_c okV_r okFs_n)))))))))))))))))))))))))))))))))
                        exact prV (post := fun L1 f1 => ∃ at92 : Int32, ∃ ps92 : Int32, ∃ tk2 : Int32, ∃ nu2 : Int32, ∃ wd2 : Int64, SH (spM PA PI PX pa) nnM G ad L1 f1 ∧ pt L1 f1 (ad 0 0) (.inr (12, [.ref (ad 1 0), .ref (ad 2 0), .ref (ad 3 0), .ref (ad 4 0), .int td, .int fa, .int fp, .int at92, .int ps92, .int tk2, .int nu2, .long wd2, .int t0, .int wr, .int so, .ref (ad 5 0), .ref (ad 6 0), .int pd, .int op9, .int cg, .int iw, .int on9, .ref (ad 7 0), .ref (ad 8 0), .ref (ad 9 0), .int is9, .ref (ad 10 0), .ref (ad 11 0), .ref (ad 12 0), .ref (ad 13 0), .int se, .ref (ad 14 0)])) ∧ pt L1 f1 (ad 4 0) (.inl (G.2 0, 300, .inl gt)) ∧ pt L1 f1 (ad 5 0) (.inl (G.2 0, 160, .inl gp)) ∧ pt L1 f1 (ad 6 0) (.inl (G.2 0, 9, .inl gc)) ∧ TK at92 ps92 tk2 ∧ at9.toInt ≤ ps92.toInt ∧ NT9 (bI gt) td.toInt.toNat at9.toInt.toNat at92 ps92 tk2 nu2 wd2) S Y (by decide) (by decide) hA1 ⟨x_84475, y0_f7, 5, y0_f10, y0_f11, I, p_ad_0_0, p_ad_4_0, p_ad_5_0, p_ad_6_0, ⟨by have z9 := (la_add ex_84475 (la_add ex_84457 (rfl : y0_f7.toInt = y0_f7.toInt) (show (1 : Int32).toInt = 1 from rfl) B_84419 (show bn 1 1 (1 : Int32) from bn_k (by decide)) (by decide)) (show (1 : Int32).toInt = 1 from rfl) B_84473 (show bn 1 1 (1 : Int32) from bn_k (by decide)) (by decide)); omega, fun _ => by have z9 := (la_add ex_84475 (la_add ex_84457 (rfl : y0_f7.toInt = y0_f7.toInt) (show (1 : Int32).toInt = 1 from rfl) B_84419 (show bn 1 1 (1 : Int32) from bn_k (by decide)) (by decide)) (show (1 : Int32).toInt = 1 from rfl) B_84473 (show bn 1 1 (1 : Int32) from bn_k (by decide)) (by decide)); omega⟩, hat.1, (by have h0 := (show r_84416.toInt = bI gt (skB (bI gt) td.toInt.toNat td.toInt.toNat at9.toInt.toNat) from by rw [hSK]; exact (BY_in er_84416.2 ((bn_w (a' := 0) (b' := 2147483647) B_84419 (by decide))).1 (BY_lt er_84416.2 (ge_nm9 (bn_w B_84469 (by decide)))))); exact NT_g hSP (by rw [hSK]; have k9 := (BY_lt er_84416.2 (ge_nm9 (bn_w B_84469 (by decide)))); have k8 := ((bn_w (a' := 0) (b' := 2147483647) B_84419 (by decide))).1; omega) (by rw [hSK]; exact (fun z => er_84426.2.2 c_84427 (lt_L9 (by rw [(BY_in er_84416.2 ((bn_w (a' := 0) (b' := 2147483647) B_84419 (by decide))).1 (BY_lt er_84416.2 (ge_nm9 (bn_w B_84469 (by decide)))))]; exact z)))) (by rw [hSK]; exact (fun z => er_84421.2.2 c_84422 (dg_FG (by rw [(BY_in er_84416.2 ((bn_w (a' := 0) (b' := 2147483647) B_84419 (by decide))).1 (BY_lt er_84416.2 (ge_nm9 (bn_w B_84469 (by decide)))))]; exact z)))) (by rw [(sg_yM h0 (Or.inr c_84468) er_84470.2 (by have k9 := (la_add ex_84457 (rfl : y0_f7.toInt = y0_f7.toInt) (show (1 : Int32).toInt = 1 from rfl) B_84419 (show bn 1 1 (1 : Int32) from bn_k (by decide)) (by decide)); have k8 := hSP; omega) c_84471)]; show _ = ((_ + 2 : Nat) : Int); have k9 := (la_add ex_84475 (la_add ex_84457 (rfl : y0_f7.toInt = y0_f7.toInt) (show (1 : Int32).toInt = 1 from rfl) B_84419 (show bn 1 1 (1 : Int32) from bn_k (by decide)) (by decide)) (show (1 : Int32).toInt = 1 from rfl) B_84473 (show bn 1 1 (1 : Int32) from bn_k (by decide)) (by decide)); have k8 := hSP; omega) (Or.inr (Or.inl ⟨rfl, by rw [(sg_yM h0 (Or.inr c_84468) er_84470.2 (by have k9 := (la_add ex_84457 (rfl : y0_f7.toInt = y0_f7.toInt) (show (1 : Int32).toInt = 1 from rfl) B_84419 (show bn 1 1 (1 : Int32) from bn_k (by decide)) (by decide)); have k8 := hSP; omega) c_84471)]; show bI gt _ + 256 = 318; have k9 := h0; rw [c_84468] at k9; have k9 : (62 : Int) = _ := k9; omega⟩)))⟩ dX12_nextToken_310
              · have B_84429 : bn 65 122 r_84416 := bn_w (bn_i B_84418 (er_84426.2.1 c_84427).1) (by decide)
                have B_84430 : bn 1 1 r_84426 := bn_w (bn_nel c_84427 er_84426.1 (show bn 0 0 (0 : Int32) from bn_k (by decide))) (by decide)
                refine lv_aload_n hx hb dX12_nextToken_158 rfl (lv_at hl 1 rfl) ?_
                refine lv_iconst (v := 2) hx hb dX12_nextToken_159 (by decide) ?_
                refine pg_put S Y ok_X12 9 (by decide) kf12_98 rfl (fs' := [.ref (ad 1 0), .ref (ad 2 0), .ref (ad 3 0), .ref (ad 4 0), .int td, .int fa, .int fp, .int y0_f7, .int y0_f7, .int 2, .int y0_f10, .long y0_f11, .int t0, .int wr, .int so, .ref (ad 5 0), .ref (ad 6 0), .int pd, .int op9, .int cg, .int iw, .int on9, .ref (ad 7 0), .ref (ad 8 0), .ref (ad 9 0), .int is9, .ref (ad 10 0), .ref (ad 11 0), .ref (ad 12 0), .ref (ad 13 0), .int se, .ref (ad 14 0)]) (v := .int 2) p_ad_0_0 rfl rfl rfl (Nat.le_of_ble_eq_true rfl) dX12_nextToken_160 (fun f_84477 H locs ef_84477 Y => ?_)
                have p_ad_4_0 := p_ad_4_0.up ef_84477 (I.ne (k := 4) (j := 0) (k' := 0) (j' := 0) (by decide) (by decide) (Or.inl (by decide)))
                have p_ad_5_0 := p_ad_5_0.up ef_84477 (I.ne (k := 5) (j := 0) (k' := 0) (j' := 0) (by decide) (by decide) (Or.inl (by decide)))
                have p_ad_6_0 := p_ad_6_0.up ef_84477 (I.ne (k := 6) (j := 0) (k' := 0) (j' := 0) (by decide) (by decide) (Or.inl (by decide)))
                have p_ad_0_0 := p_ad_0_0.me ef_84477
                have I := I.up (k := 0) (j := 0) (by decide) ef_84477 (okE_o (okFs_c okV_r (okFs_c okV_r (okFs_c okV_r (okFs_c okV_r (okFs_c (okV_p bf0_4) (okFs_c (okV_p bf0_5) (okFs_c (okV_p bf0_6) (okFs_c (okV_i bf0_7) (okFs_c (okV_i (bn_w bf0_7 (by decide))) (okFs_c (okV_i (bn_w (show bn 2 2 (2 : Int32) from bn_k (by decide)) (by decide))) (okFs_c (okV_i (bn_any _)) (okFs_c okV_l (okFs_c (okV_i bf0_12) (okFs_c (okV_i bf0_13) (okFs_c (okV_i (bn_any _)) (okFs_c okV_r (okFs_c okV_r (okFs_c (okV_i bf0_17) (okFs_c (okV_i bf0_18) (okFs_c (okV_i bf0_19) (okFs_c (okV_i bf0_20) (okFs_c (okV_i (bn_any _)) (okFs_c okV_r (okFs_c okV_r (okFs_c okV_r (okFs_c (okV_i bf0_25) (okFs_c okV_r (okFs_c okV_r (okFs_c okV_r (okFs_c okV_r (okFs_c (okV_i (bn_any _)) (okFs_c okV_r okFs_n)))))))))))))))))))))))))))))))))
                refine lv_aload_n hx hb dX12_nextToken_163 rfl (lv_at hl 1 rfl) ?_
                refine lv_lconst (v := 0) hx hb dX12_nextToken_164 (by decide) ?_
                refine pg_put S Y ok_X12 11 (by decide) kf12_111 rfl (fs' := [.ref (ad 1 0), .ref (ad 2 0), .ref (ad 3 0), .ref (ad 4 0), .int td, .int fa, .int fp, .int y0_f7, .int y0_f7, .int 2, .int y0_f10, .long 0, .int t0, .int wr, .int so, .ref (ad 5 0), .ref (ad 6 0), .int pd, .int op9, .int cg, .int iw, .int on9, .ref (ad 7 0), .ref (ad 8 0), .ref (ad 9 0), .int is9, .ref (ad 10 0), .ref (ad 11 0), .ref (ad 12 0), .ref (ad 13 0), .int se, .ref (ad 14 0)]) (v := .long 0) p_ad_0_0 rfl rfl rfl (Nat.le_of_ble_eq_true rfl) dX12_nextToken_165 (fun f_84478 H locs ef_84478 Y => ?_)
                have p_ad_4_0 := p_ad_4_0.up ef_84478 (I.ne (k := 4) (j := 0) (k' := 0) (j' := 0) (by decide) (by decide) (Or.inl (by decide)))
                have p_ad_5_0 := p_ad_5_0.up ef_84478 (I.ne (k := 5) (j := 0) (k' := 0) (j' := 0) (by decide) (by decide) (Or.inl (by decide)))
                have p_ad_6_0 := p_ad_6_0.up ef_84478 (I.ne (k := 6) (j := 0) (k' := 0) (j' := 0) (by decide) (by decide) (Or.inl (by decide)))
                have p_ad_0_0 := p_ad_0_0.me ef_84478
                have I := I.up (k := 0) (j := 0) (by decide) ef_84478 (okE_o (okFs_c okV_r (okFs_c okV_r (okFs_c okV_r (okFs_c okV_r (okFs_c (okV_p bf0_4) (okFs_c (okV_p bf0_5) (okFs_c (okV_p bf0_6) (okFs_c (okV_i bf0_7) (okFs_c (okV_i (bn_w bf0_7 (by decide))) (okFs_c (okV_i (bn_w (show bn 2 2 (2 : Int32) from bn_k (by decide)) (by decide))) (okFs_c (okV_i (bn_any _)) (okFs_c okV_l (okFs_c (okV_i bf0_12) (okFs_c (okV_i bf0_13) (okFs_c (okV_i (bn_any _)) (okFs_c okV_r (okFs_c okV_r (okFs_c (okV_i bf0_17) (okFs_c (okV_i bf0_18) (okFs_c (okV_i bf0_19) (okFs_c (okV_i bf0_20) (okFs_c (okV_i (bn_any _)) (okFs_c okV_r (okFs_c okV_r (okFs_c okV_r (okFs_c (okV_i bf0_25) (okFs_c okV_r (okFs_c okV_r (okFs_c okV_r (okFs_c okV_r (okFs_c (okV_i (bn_any _)) (okFs_c okV_r okFs_n)))))))))))))))))))))))))))))))))
                exact J_168 _ r_84416 y0_f7 y0_f7 2 y0_f10 0 _ _  _ _ _ I (bn_w B_84429 (by decide)) (bn_w B_84419 (by decide)) (bn_w B_84419 (by decide)) (bn_w (show bn 2 2 (2 : Int32) from bn_k (by decide)) (by decide)) ⟨⟨hat.1, Or.inr ⟨rfl, (by rw [← er_84416.2]; exact (er_84426.2.1 c_84427).2)⟩⟩, ⟨hSP, by rw [hSK]; have k9 := (BY_lt er_84416.2 (ge_nm9 (bn_w B_84429 (by decide)))); have k8 := ((bn_w (a' := 0) (b' := 2147483647) B_84419 (by decide))).1; omega, by rw [hSK, ← (BY_in er_84416.2 ((bn_w (a' := 0) (b' := 2147483647) B_84419 (by decide))).1 (BY_lt er_84416.2 (ge_nm9 (bn_w B_84429 (by decide)))))]; exact L9_lt (er_84426.2.1 c_84427).2, LT_0 hSP (by rw [hSK]; have k9 := (BY_lt er_84416.2 (ge_nm9 (bn_w B_84429 (by decide)))); have k8 := ((bn_w (a' := 0) (b' := 2147483647) B_84419 (by decide))).1; omega)⟩⟩ p_ad_0_0 p_ad_4_0 p_ad_5_0 p_ad_6_0 rfl Y (lv_sub hl [1, 0] rfl)
            · have B_84424 : bn 48 57 r_84416 := bn_w (bn_i B_84418 (er_84421.2.1 c_84422).1) (by decide)
              have B_84425 : bn 1 1 r_84421 := bn_w (bn_nel c_84422 er_84421.1 (show bn 0 0 (0 : Int32) from bn_k (by decide))) (by decide)
              refine lv_aload_n hx hb dX12_nextToken_75 rfl (lv_at hl 1 rfl) ?_
              refine lv_iconst (v := 1) hx hb dX12_nextToken_76 (by decide) ?_
              refine pg_put S Y ok_X12 9 (by decide) kf12_98 rfl (fs' := [.ref (ad 1 0), .ref (ad 2 0), .ref (ad 3 0), .ref (ad 4 0), .int td, .int fa, .int fp, .int y0_f7, .int y0_f7, .int 1, .int y0_f10, .long y0_f11, .int t0, .int wr, .int so, .ref (ad 5 0), .ref (ad 6 0), .int pd, .int op9, .int cg, .int iw, .int on9, .ref (ad 7 0), .ref (ad 8 0), .ref (ad 9 0), .int is9, .ref (ad 10 0), .ref (ad 11 0), .ref (ad 12 0), .ref (ad 13 0), .int se, .ref (ad 14 0)]) (v := .int 1) p_ad_0_0 rfl rfl rfl (Nat.le_of_ble_eq_true rfl) dX12_nextToken_77 (fun f_84479 H locs ef_84479 Y => ?_)
              have p_ad_4_0 := p_ad_4_0.up ef_84479 (I.ne (k := 4) (j := 0) (k' := 0) (j' := 0) (by decide) (by decide) (Or.inl (by decide)))
              have p_ad_5_0 := p_ad_5_0.up ef_84479 (I.ne (k := 5) (j := 0) (k' := 0) (j' := 0) (by decide) (by decide) (Or.inl (by decide)))
              have p_ad_6_0 := p_ad_6_0.up ef_84479 (I.ne (k := 6) (j := 0) (k' := 0) (j' := 0) (by decide) (by decide) (Or.inl (by decide)))
              have p_ad_0_0 := p_ad_0_0.me ef_84479
              have I := I.up (k := 0) (j := 0) (by decide) ef_84479 (okE_o (okFs_c okV_r (okFs_c okV_r (okFs_c okV_r (okFs_c okV_r (okFs_c (okV_p bf0_4) (okFs_c (okV_p bf0_5) (okFs_c (okV_p bf0_6) (okFs_c (okV_i bf0_7) (okFs_c (okV_i (bn_w bf0_7 (by decide))) (okFs_c (okV_i (bn_w (show bn 1 1 (1 : Int32) from bn_k (by decide)) (by decide))) (okFs_c (okV_i (bn_any _)) (okFs_c okV_l (okFs_c (okV_i bf0_12) (okFs_c (okV_i bf0_13) (okFs_c (okV_i (bn_any _)) (okFs_c okV_r (okFs_c okV_r (okFs_c (okV_i bf0_17) (okFs_c (okV_i bf0_18) (okFs_c (okV_i bf0_19) (okFs_c (okV_i bf0_20) (okFs_c (okV_i (bn_any _)) (okFs_c okV_r (okFs_c okV_r (okFs_c okV_r (okFs_c (okV_i bf0_25) (okFs_c okV_r (okFs_c okV_r (okFs_c okV_r (okFs_c okV_r (okFs_c (okV_i (bn_any _)) (okFs_c okV_r okFs_n)))))))))))))))))))))))))))))))))
              refine lv_aload_n hx hb dX12_nextToken_80 rfl (lv_at hl 1 rfl) ?_
              refine lv_iconst (v := 0) hx hb dX12_nextToken_81 (by decide) ?_
              refine pg_put S Y ok_X12 10 (by decide) kf12_104 rfl (fs' := [.ref (ad 1 0), .ref (ad 2 0), .ref (ad 3 0), .ref (ad 4 0), .int td, .int fa, .int fp, .int y0_f7, .int y0_f7, .int 1, .int 0, .long y0_f11, .int t0, .int wr, .int so, .ref (ad 5 0), .ref (ad 6 0), .int pd, .int op9, .int cg, .int iw, .int on9, .ref (ad 7 0), .ref (ad 8 0), .ref (ad 9 0), .int is9, .ref (ad 10 0), .ref (ad 11 0), .ref (ad 12 0), .ref (ad 13 0), .int se, .ref (ad 14 0)]) (v := .int 0) p_ad_0_0 rfl rfl rfl (Nat.le_of_ble_eq_true rfl) dX12_nextToken_82 (fun f_84480 H locs ef_84480 Y => ?_)
              have p_ad_4_0 := p_ad_4_0.up ef_84480 (I.ne (k := 4) (j := 0) (k' := 0) (j' := 0) (by decide) (by decide) (Or.inl (by decide)))
              have p_ad_5_0 := p_ad_5_0.up ef_84480 (I.ne (k := 5) (j := 0) (k' := 0) (j' := 0) (by decide) (by decide) (Or.inl (by decide)))
              have p_ad_6_0 := p_ad_6_0.up ef_84480 (I.ne (k := 6) (j := 0) (k' := 0) (j' := 0) (by decide) (by decide) (Or.inl (by decide)))
              have p_ad_0_0 := p_ad_0_0.me ef_84480
              have I := I.up (k := 0) (j := 0) (by decide) ef_84480 (okE_o (okFs_c okV_r (okFs_c okV_r (okFs_c okV_r (okFs_c okV_r (okFs_c (okV_p bf0_4) (okFs_c (okV_p bf0_5) (okFs_c (okV_p bf0_6) (okFs_c (okV_i bf0_7) (okFs_c (okV_i (bn_w bf0_7 (by decide))) (okFs_c (okV_i (bn_w (show bn 1 1 (1 : Int32) from bn_k (by decide)) (by decide))) (okFs_c (okV_i (bn_w (show bn 0 0 (0 : Int32) from bn_k (by decide)) (by decide))) (okFs_c okV_l (okFs_c (okV_i bf0_12) (okFs_c (okV_i bf0_13) (okFs_c (okV_i (bn_any _)) (okFs_c okV_r (okFs_c okV_r (okFs_c (okV_i bf0_17) (okFs_c (okV_i bf0_18) (okFs_c (okV_i bf0_19) (okFs_c (okV_i bf0_20) (okFs_c (okV_i (bn_any _)) (okFs_c okV_r (okFs_c okV_r (okFs_c okV_r (okFs_c (okV_i bf0_25) (okFs_c okV_r (okFs_c okV_r (okFs_c okV_r (okFs_c okV_r (okFs_c (okV_i (bn_any _)) (okFs_c okV_r okFs_n)))))))))))))))))))))))))))))))))
              exact J_85 _ r_84416 y0_f7 y0_f7 1 0 y0_f11 _ _  _ _ _ I (bn_w B_84424 (by decide)) (bn_w B_84419 (by decide)) (bn_w B_84419 (by decide)) (bn_w (show bn 1 1 (1 : Int32) from bn_k (by decide)) (by decide)) (bn_w (show bn 0 0 (0 : Int32) from bn_k (by decide)) (by decide)) ⟨⟨hat.1, Or.inr ⟨rfl, (by rw [← er_84416.2]; exact (er_84421.2.1 c_84422).2)⟩⟩, ⟨hSP, by rw [hSK]; have k9 := (BY_lt er_84416.2 (ge_nm9 (bn_w B_84424 (by decide)))); have k8 := ((bn_w (a' := 0) (b' := 2147483647) B_84419 (by decide))).1; omega, by rw [hSK, ← (BY_in er_84416.2 ((bn_w (a' := 0) (b' := 2147483647) B_84419 (by decide))).1 (BY_lt er_84416.2 (ge_nm9 (bn_w B_84424 (by decide)))))]; exact FG_dg (er_84421.2.1 c_84422).2, DG_0 hSP (by rw [hSK]; have k9 := (BY_lt er_84416.2 (ge_nm9 (bn_w B_84424 (by decide)))); have k8 := ((bn_w (a' := 0) (b' := 2147483647) B_84419 (by decide))).1; omega)⟩⟩ p_ad_0_0 p_ad_4_0 p_ad_5_0 p_ad_6_0 rfl Y (lv_sub hl [1, 0] rfl)
          · have B_84420 : bn (-2147483648) (-1) r_84416 := bn_w (bn_gtr c_84417 (show bn 0 0 (0 : Int32) from bn_k (by decide)) (bn_any r_84416)) (by decide)
            refine lv_aload_n hx hb dX12_nextToken_60 rfl (lv_at hl 1 rfl) ?_
            refine lv_iconst (v := 0) hx hb dX12_nextToken_61 (by decide) ?_
            refine pg_put S Y ok_X12 9 (by decide) kf12_98 rfl (fs' := [.ref (ad 1 0), .ref (ad 2 0), .ref (ad 3 0), .ref (ad 4 0), .int td, .int fa, .int fp, .int y0_f7, .int y0_f7, .int 0, .int y0_f10, .long y0_f11, .int t0, .int wr, .int so, .ref (ad 5 0), .ref (ad 6 0), .int pd, .int op9, .int cg, .int iw, .int on9, .ref (ad 7 0), .ref (ad 8 0), .ref (ad 9 0), .int is9, .ref (ad 10 0), .ref (ad 11 0), .ref (ad 12 0), .ref (ad 13 0), .int se, .ref (ad 14 0)]) (v := .int 0) p_ad_0_0 rfl rfl rfl (Nat.le_of_ble_eq_true rfl) dX12_nextToken_62 (fun f_84481 H locs ef_84481 Y => ?_)
            have p_ad_4_0 := p_ad_4_0.up ef_84481 (I.ne (k := 4) (j := 0) (k' := 0) (j' := 0) (by decide) (by decide) (Or.inl (by decide)))
            have p_ad_5_0 := p_ad_5_0.up ef_84481 (I.ne (k := 5) (j := 0) (k' := 0) (j' := 0) (by decide) (by decide) (Or.inl (by decide)))
            have p_ad_6_0 := p_ad_6_0.up ef_84481 (I.ne (k := 6) (j := 0) (k' := 0) (j' := 0) (by decide) (by decide) (Or.inl (by decide)))
            have p_ad_0_0 := p_ad_0_0.me ef_84481
            have I := I.up (k := 0) (j := 0) (by decide) ef_84481 (okE_o (okFs_c okV_r (okFs_c okV_r (okFs_c okV_r (okFs_c okV_r (okFs_c (okV_p bf0_4) (okFs_c (okV_p bf0_5) (okFs_c (okV_p bf0_6) (okFs_c (okV_i bf0_7) (okFs_c (okV_i (bn_w bf0_7 (by decide))) (okFs_c (okV_i (bn_w (show bn 0 0 (0 : Int32) from bn_k (by decide)) (by decide))) (okFs_c (okV_i (bn_any _)) (okFs_c okV_l (okFs_c (okV_i bf0_12) (okFs_c (okV_i bf0_13) (okFs_c (okV_i (bn_any _)) (okFs_c okV_r (okFs_c okV_r (okFs_c (okV_i bf0_17) (okFs_c (okV_i bf0_18) (okFs_c (okV_i bf0_19) (okFs_c (okV_i bf0_20) (okFs_c (okV_i (bn_any _)) (okFs_c okV_r (okFs_c okV_r (okFs_c okV_r (okFs_c (okV_i bf0_25) (okFs_c okV_r (okFs_c okV_r (okFs_c okV_r (okFs_c okV_r (okFs_c (okV_i (bn_any _)) (okFs_c okV_r okFs_n)))))))))))))))))))))))))))))))))
            refine lv_goto (tgt := 310) hx hb dX12_nextToken_65 (by decide) ?_
            exact prV (post := fun L1 f1 => ∃ at92 : Int32, ∃ ps92 : Int32, ∃ tk2 : Int32, ∃ nu2 : Int32, ∃ wd2 : Int64, SH (spM PA PI PX pa) nnM G ad L1 f1 ∧ pt L1 f1 (ad 0 0) (.inr (12, [.ref (ad 1 0), .ref (ad 2 0), .ref (ad 3 0), .ref (ad 4 0), .int td, .int fa, .int fp, .int at92, .int ps92, .int tk2, .int nu2, .long wd2, .int t0, .int wr, .int so, .ref (ad 5 0), .ref (ad 6 0), .int pd, .int op9, .int cg, .int iw, .int on9, .ref (ad 7 0), .ref (ad 8 0), .ref (ad 9 0), .int is9, .ref (ad 10 0), .ref (ad 11 0), .ref (ad 12 0), .ref (ad 13 0), .int se, .ref (ad 14 0)])) ∧ pt L1 f1 (ad 4 0) (.inl (G.2 0, 300, .inl gt)) ∧ pt L1 f1 (ad 5 0) (.inl (G.2 0, 160, .inl gp)) ∧ pt L1 f1 (ad 6 0) (.inl (G.2 0, 9, .inl gc)) ∧ TK at92 ps92 tk2 ∧ at9.toInt ≤ ps92.toInt ∧ NT9 (bI gt) td.toInt.toNat at9.toInt.toNat at92 ps92 tk2 nu2 wd2) S Y (by decide) (by decide) hA1 ⟨y0_f7, y0_f7, 0, y0_f10, y0_f11, I, p_ad_0_0, p_ad_4_0, p_ad_5_0, p_ad_6_0, ⟨Int.le_refl _, fun h => absurd rfl h⟩, hat.1, (NT_e hSP rfl (by rw [hSK]; have k9 := BY_neg hB er_84416.2 ((bn_w (a' := 0) (b' := 2147483647) bf0_7 (by decide))).1 (by have k8 := (Int32.not_le.mp c_84417); rw [Int32.lt_iff_toInt_lt] at k8; exact k8); have k7 := ((bn_w (a' := 0) (b' := 2147483647) bf0_7 (by decide))).1; omega) rfl)⟩ dX12_nextToken_310
        · have B_84413 : bn 10 10 r_84411 := bn_w (bn_eq c_84412 (show bn 10 10 (10 : Int32) from bn_k (by decide))) (by decide)
          have B_84414 : bn 0 299 y0_f7 := bn_w (bn_i bf0_7 (er_84411.1 (bd_ne B_84413 (show bn (-1) (-1) (-1 : Int32) from bn_k (by decide)) (by decide)))) (by decide)
          refine lv_aload_n hx hb dX12_nextToken_26 rfl (lv_at hl 0 rfl) ?_
          refine lv_dup hx hb dX12_nextToken_27 rfl ?_
          refine pg_get S Y ok_X12 7 (by decide) kf12_88 (v := .int y0_f7) p_ad_0_0 rfl dX12_nextToken_28 ?_
          refine lv_iconst (v := 1) hx hb dX12_nextToken_31 (by decide) ?_
          refine lv_iadd hx hb dX12_nextToken_32 ?_
          refine lv_topi (fun x_84482 ex_84482 => ?_)
          refine pg_put S Y ok_X12 7 (by decide) kf12_88 rfl (fs' := [.ref (ad 1 0), .ref (ad 2 0), .ref (ad 3 0), .ref (ad 4 0), .int td, .int fa, .int fp, .int x_84482, .int y0_f8, .int y0_f9, .int y0_f10, .long y0_f11, .int t0, .int wr, .int so, .ref (ad 5 0), .ref (ad 6 0), .int pd, .int op9, .int cg, .int iw, .int on9, .ref (ad 7 0), .ref (ad 8 0), .ref (ad 9 0), .int is9, .ref (ad 10 0), .ref (ad 11 0), .ref (ad 12 0), .ref (ad 13 0), .int se, .ref (ad 14 0)]) (v := .int x_84482) p_ad_0_0 rfl rfl rfl (Nat.le_of_ble_eq_true rfl) dX12_nextToken_33 (fun f_84483 H locs ef_84483 Y => ?_)
          have p_ad_4_0 := p_ad_4_0.up ef_84483 (I.ne (k := 4) (j := 0) (k' := 0) (j' := 0) (by decide) (by decide) (Or.inl (by decide)))
          have p_ad_5_0 := p_ad_5_0.up ef_84483 (I.ne (k := 5) (j := 0) (k' := 0) (j' := 0) (by decide) (by decide) (Or.inl (by decide)))
          have p_ad_6_0 := p_ad_6_0.up ef_84483 (I.ne (k := 6) (j := 0) (k' := 0) (j' := 0) (by decide) (by decide) (Or.inl (by decide)))
          have p_ad_0_0 := p_ad_0_0.me ef_84483
          have I := I.up (k := 0) (j := 0) (by decide) ef_84483 (okE_o (okFs_c okV_r (okFs_c okV_r (okFs_c okV_r (okFs_c okV_r (okFs_c (okV_p bf0_4) (okFs_c (okV_p bf0_5) (okFs_c (okV_p bf0_6) (okFs_c (okV_i (bn_w (bn_eq ex_84482 (bn_add B_84414 (show bn 1 1 (1 : Int32) from bn_k (by decide)) (by decide))) (by decide))) (okFs_c (okV_i bf0_8) (okFs_c (okV_i (bn_any _)) (okFs_c (okV_i (bn_any _)) (okFs_c okV_l (okFs_c (okV_i bf0_12) (okFs_c (okV_i bf0_13) (okFs_c (okV_i (bn_any _)) (okFs_c okV_r (okFs_c okV_r (okFs_c (okV_i bf0_17) (okFs_c (okV_i bf0_18) (okFs_c (okV_i bf0_19) (okFs_c (okV_i bf0_20) (okFs_c (okV_i (bn_any _)) (okFs_c okV_r (okFs_c okV_r (okFs_c okV_r (okFs_c (okV_i bf0_25) (okFs_c okV_r (okFs_c okV_r (okFs_c okV_r (okFs_c okV_r (okFs_c (okV_i (bn_any _)) (okFs_c okV_r okFs_n)))))))))))))))))))))))))))))))))
          refine lv_goto (tgt := 0) hx hb dX12_nextToken_36 (by decide) ?_
          exact ih0 _ (by rw [← hm0]; exact ms_up (m := 1) ex_84482 (show bn 1 1 (1 : Int32) from bn_k (by decide)) B_84414 (bn_w (bn_eq ex_84482 (bn_add B_84414 (show bn 1 1 (1 : Int32) from bn_k (by decide)) (by decide))) (by decide) : bn 0 300 x_84482) (by decide)) x_84482 y0_f8 y0_f9 y0_f10 y0_f11 _ _  _ _ _ I (bn_w (bn_eq ex_84482 (bn_add B_84414 (show bn 1 1 (1 : Int32) from bn_k (by decide)) (by decide))) (by decide)) (bn_w bf0_8 (by decide)) ⟨by have z9 := (la_add ex_84482 (rfl : y0_f7.toInt = y0_f7.toInt) (show (1 : Int32).toInt = 1 from rfl) B_84414 (show bn 1 1 (1 : Int32) from bn_k (by decide)) (by decide)); have z8 := hat.1; omega, SK_s hat.2 (show _ < ((td.toInt.toNat : Nat) : Int) from by have k9 := (BY_lt er_84411.2 (by rw [c_84412]; decide)); omega) (Or.inr ((BY_in er_84411.2 ((bn_w (a' := 0) (b' := 2147483647) B_84414 (by decide))).1 (BY_lt er_84411.2 (by rw [c_84412]; decide))).symm.trans (by rw [c_84412]; rfl))) (la_add ex_84482 (rfl : y0_f7.toInt = y0_f7.toInt) (show (1 : Int32).toInt = 1 from rfl) B_84414 (show bn 1 1 (1 : Int32) from bn_k (by decide)) (by decide))⟩ p_ad_0_0 p_ad_4_0 p_ad_5_0 p_ad_6_0 rfl Y (lv_sub hl [0] rfl)
  exact J_0 _ at9 ps9 tk nu wd _ _  _ _ _ I (bn_w bfe_7 (by decide)) (bn_w bfe_8 (by decide)) ⟨Int.le_refl _, SK_0 (by have h9 := ((bn_w (a' := 0) (b' := 2147483647) bfe_7 (by decide))).1; omega)⟩ p_ad_0_0 p_ad_4_0 p_ad_5_0 p_ad_6_0 rfl Y (lv_sub hl [0] rfl)
