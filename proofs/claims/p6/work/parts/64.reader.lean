theorem dX5_comparing_0 : decode cX5_comparing 0 = .ok (.iload_n 0, 1) := by decide +kernel
theorem dX5_comparing_1 : decode cX5_comparing 1 = .ok (.lookupswitch 77 #[(35, 74), (60, 59), (61, 71), (62, 65), (316, 62), (318, 68)], 59) := by decide +kernel
theorem dX5_comparing_75 : decode cX5_comparing 75 = .ok (.bipush 17, 2) := by decide +kernel
theorem dX5_comparing_77 : decode cX5_comparing 77 = .ok (.ireturn, 1) := by decide +kernel
theorem dX5_comparing_60 : decode cX5_comparing 60 = .ok (.bipush 12, 2) := by decide +kernel
theorem dX5_comparing_62 : decode cX5_comparing 62 = .ok (.ireturn, 1) := by decide +kernel
theorem dX5_comparing_72 : decode cX5_comparing 72 = .ok (.bipush 16, 2) := by decide +kernel
theorem dX5_comparing_74 : decode cX5_comparing 74 = .ok (.ireturn, 1) := by decide +kernel
theorem dX5_comparing_66 : decode cX5_comparing 66 = .ok (.bipush 14, 2) := by decide +kernel
theorem dX5_comparing_68 : decode cX5_comparing 68 = .ok (.ireturn, 1) := by decide +kernel
theorem dX5_comparing_63 : decode cX5_comparing 63 = .ok (.bipush 13, 2) := by decide +kernel
theorem dX5_comparing_65 : decode cX5_comparing 65 = .ok (.ireturn, 1) := by decide +kernel
theorem dX5_comparing_69 : decode cX5_comparing 69 = .ok (.bipush 15, 2) := by decide +kernel
theorem dX5_comparing_71 : decode cX5_comparing 71 = .ok (.ireturn, 1) := by decide +kernel
theorem dX5_comparing_78 : decode cX5_comparing 78 = .ok (.iconst (-1), 1) := by decide +kernel
theorem dX5_comparing_79 : decode cX5_comparing 79 = .ok (.ireturn, 1) := by decide +kernel
theorem dX5_size_0 : decode cX5_size 0 = .ok (.aload_n 0, 1) := by decide +kernel
theorem dX5_size_1 : decode cX5_size 1 = .ok (.getfield 31, 3) := by decide +kernel
theorem ok_X5 : clOK 5 RX5 TX5 14 tyX5 := ⟨rfl, fun w h => ⟨(show ∀ w ∈ u_ws RX5 TX5 14, w ∈ lw_tbl by decide +kernel) w h, (show ∀ w ∈ u_ws RX5 TX5 14, gw w = true by decide +kernel) w h⟩, tyX5_ok, nmX5⟩
theorem kf5_31 : inW (Cond.fieldLink RX5 31 "KneeOaths$Reader" "length" "I") := ⟨List.mem_of_getElem? (i := 343) (by decide +kernel), by decide +kernel⟩
theorem dX5_size_4 : decode cX5_size 4 = .ok (.ireturn, 1) := by decide +kernel
theorem dX5_faultKind_0 : decode cX5_faultKind 0 = .ok (.aload_n 0, 1) := by decide +kernel
theorem dX5_faultKind_1 : decode cX5_faultKind 1 = .ok (.getfield 24, 3) := by decide +kernel
theorem kf5_24 : inW (Cond.fieldLink RX5 24 "KneeOaths$Reader" "faultKind" "I") := ⟨List.mem_of_getElem? (i := 351) (by decide +kernel), by decide +kernel⟩
theorem dX5_faultKind_4 : decode cX5_faultKind 4 = .ok (.ireturn, 1) := by decide +kernel
theorem dX5_faultPlace_0 : decode cX5_faultPlace 0 = .ok (.aload_n 0, 1) := by decide +kernel
theorem dX5_faultPlace_1 : decode cX5_faultPlace 1 = .ok (.getfield 28, 3) := by decide +kernel
theorem kf5_28 : inW (Cond.fieldLink RX5 28 "KneeOaths$Reader" "faultPlace" "I") := ⟨List.mem_of_getElem? (i := 352) (by decide +kernel), by decide +kernel⟩
theorem dX5_faultPlace_4 : decode cX5_faultPlace 4 = .ok (.ireturn, 1) := by decide +kernel
theorem dX5_hasRoomFor_0 : decode cX5_hasRoomFor 0 = .ok (.aload_n 0, 1) := by decide +kernel
theorem dX5_hasRoomFor_1 : decode cX5_hasRoomFor 1 = .ok (.getfield 31, 3) := by decide +kernel
theorem dX5_hasRoomFor_4 : decode cX5_hasRoomFor 4 = .ok (.iload_n 1, 1) := by decide +kernel
theorem dX5_hasRoomFor_5 : decode cX5_hasRoomFor 5 = .ok (.iadd, 1) := by decide +kernel
theorem dX5_hasRoomFor_6 : decode cX5_hasRoomFor 6 = .ok (.sipush 300, 3) := by decide +kernel
theorem dX5_hasRoomFor_9 : decode cX5_hasRoomFor 9 = .ok (.if_icmp .gt 7, 3) := by decide +kernel
theorem dX5_hasRoomFor_16 : decode cX5_hasRoomFor 16 = .ok (.iconst 0, 1) := by decide +kernel
theorem dX5_hasRoomFor_17 : decode cX5_hasRoomFor 17 = .ok (.ireturn, 1) := by decide +kernel
theorem dX5_hasRoomFor_12 : decode cX5_hasRoomFor 12 = .ok (.iconst 1, 1) := by decide +kernel
theorem dX5_hasRoomFor_13 : decode cX5_hasRoomFor 13 = .ok (.goto 4, 3) := by decide +kernel
theorem dX5_append_0 : decode cX5_append 0 = .ok (.bipush 24, 2) := by decide +kernel
theorem dX5_append_2 : decode cX5_append 2 = .ok (.istore_n 2, 1) := by decide +kernel
theorem dX5_append_3 : decode cX5_append 3 = .ok (.iload_n 2, 1) := by decide +kernel
theorem dX5_append_4 : decode cX5_append 4 = .ok (.ifCond .lt 45, 3) := by decide +kernel
theorem dX5_append_7 : decode cX5_append 7 = .ok (.aload_n 0, 1) := by decide +kernel
theorem dX5_append_8 : decode cX5_append 8 = .ok (.getfield 31, 3) := by decide +kernel
theorem dX5_append_11 : decode cX5_append 11 = .ok (.sipush 300, 3) := by decide +kernel
theorem dX5_append_14 : decode cX5_append 14 = .ok (.if_icmp .ge 29, 3) := by decide +kernel
theorem dX5_append_17 : decode cX5_append 17 = .ok (.aload_n 0, 1) := by decide +kernel
theorem dX5_append_18 : decode cX5_append 18 = .ok (.getfield 9, 3) := by decide +kernel
theorem kf5_9 : inW (Cond.fieldLink RX5 9 "KneeOaths$Reader" "tape" "[I") := ⟨List.mem_of_getElem? (i := 339) (by decide +kernel), by decide +kernel⟩
theorem dX5_append_21 : decode cX5_append 21 = .ok (.aload_n 0, 1) := by decide +kernel
theorem dX5_append_22 : decode cX5_append 22 = .ok (.getfield 31, 3) := by decide +kernel
theorem dX5_append_25 : decode cX5_append 25 = .ok (.iload_n 1, 1) := by decide +kernel
theorem dX5_append_26 : decode cX5_append 26 = .ok (.iload_n 2, 1) := by decide +kernel
theorem dX5_append_27 : decode cX5_append 27 = .ok (.iushr, 1) := by decide +kernel
theorem dX5_append_28 : decode cX5_append 28 = .ok (.sipush 255, 3) := by decide +kernel
theorem dX5_append_31 : decode cX5_append 31 = .ok (.iand, 1) := by decide +kernel
theorem dX5_append_32 : decode cX5_append 32 = .ok (.iastore, 1) := by decide +kernel
theorem dX5_append_33 : decode cX5_append 33 = .ok (.aload_n 0, 1) := by decide +kernel
theorem dX5_append_34 : decode cX5_append 34 = .ok (.dup, 1) := by decide +kernel
theorem dX5_append_35 : decode cX5_append 35 = .ok (.getfield 31, 3) := by decide +kernel
theorem dX5_append_38 : decode cX5_append 38 = .ok (.iconst 1, 1) := by decide +kernel
theorem dX5_append_39 : decode cX5_append 39 = .ok (.iadd, 1) := by decide +kernel
theorem dX5_append_40 : decode cX5_append 40 = .ok (.putfield 31, 3) := by decide +kernel
theorem dX5_append_43 : decode cX5_append 43 = .ok (.iinc 2 (-8), 3) := by decide +kernel
theorem dX5_append_46 : decode cX5_append 46 = .ok (.goto (-43), 3) := by decide +kernel
theorem dX5_append_49 : decode cX5_append 49 = .ok (.return_, 1) := by decide +kernel
theorem dX5_cutTo_0 : decode cX5_cutTo 0 = .ok (.iload_n 1, 1) := by decide +kernel
theorem dX5_cutTo_1 : decode cX5_cutTo 1 = .ok (.ifCond .lt 11, 3) := by decide +kernel
theorem dX5_cutTo_12 : decode cX5_cutTo 12 = .ok (.iconst 0, 1) := by decide +kernel
theorem dX5_cutTo_13 : decode cX5_cutTo 13 = .ok (.ireturn, 1) := by decide +kernel
theorem dX5_cutTo_4 : decode cX5_cutTo 4 = .ok (.iload_n 1, 1) := by decide +kernel
theorem dX5_cutTo_5 : decode cX5_cutTo 5 = .ok (.aload_n 0, 1) := by decide +kernel
theorem dX5_cutTo_6 : decode cX5_cutTo 6 = .ok (.getfield 31, 3) := by decide +kernel
theorem dX5_cutTo_9 : decode cX5_cutTo 9 = .ok (.if_icmp .le 5, 3) := by decide +kernel
theorem dX5_cutTo_14 : decode cX5_cutTo 14 = .ok (.aload_n 0, 1) := by decide +kernel
theorem dX5_cutTo_15 : decode cX5_cutTo 15 = .ok (.iload_n 1, 1) := by decide +kernel
theorem dX5_cutTo_16 : decode cX5_cutTo 16 = .ok (.putfield 31, 3) := by decide +kernel
theorem dX5_cutTo_19 : decode cX5_cutTo 19 = .ok (.iconst 1, 1) := by decide +kernel
theorem dX5_cutTo_20 : decode cX5_cutTo 20 = .ok (.ireturn, 1) := by decide +kernel
theorem dX5_byteAt_0 : decode cX5_byteAt 0 = .ok (.iload_n 1, 1) := by decide +kernel
theorem dX5_byteAt_1 : decode cX5_byteAt 1 = .ok (.ifCond .lt 20, 3) := by decide +kernel
theorem dX5_byteAt_21 : decode cX5_byteAt 21 = .ok (.iconst (-1), 1) := by decide +kernel
theorem dX5_byteAt_22 : decode cX5_byteAt 22 = .ok (.ireturn, 1) := by decide +kernel
theorem dX5_byteAt_4 : decode cX5_byteAt 4 = .ok (.iload_n 1, 1) := by decide +kernel
theorem dX5_byteAt_5 : decode cX5_byteAt 5 = .ok (.aload_n 0, 1) := by decide +kernel
theorem dX5_byteAt_6 : decode cX5_byteAt 6 = .ok (.getfield 31, 3) := by decide +kernel
theorem dX5_byteAt_9 : decode cX5_byteAt 9 = .ok (.if_icmp .ge 12, 3) := by decide +kernel
theorem dX5_byteAt_12 : decode cX5_byteAt 12 = .ok (.aload_n 0, 1) := by decide +kernel
theorem dX5_byteAt_13 : decode cX5_byteAt 13 = .ok (.getfield 9, 3) := by decide +kernel
theorem dX5_byteAt_16 : decode cX5_byteAt 16 = .ok (.iload_n 1, 1) := by decide +kernel
theorem dX5_byteAt_17 : decode cX5_byteAt 17 = .ok (.iaload, 1) := by decide +kernel
theorem dX5_byteAt_18 : decode cX5_byteAt 18 = .ok (.goto 4, 3) := by decide +kernel
theorem dX5_isLetter_0 : decode cX5_isLetter 0 = .ok (.iload_n 0, 1) := by decide +kernel
theorem dX5_isLetter_1 : decode cX5_isLetter 1 = .ok (.bipush 97, 2) := by decide +kernel
theorem dX5_isLetter_3 : decode cX5_isLetter 3 = .ok (.if_icmp .lt 9, 3) := by decide +kernel
theorem dX5_isLetter_12 : decode cX5_isLetter 12 = .ok (.iload_n 0, 1) := by decide +kernel
theorem dX5_isLetter_13 : decode cX5_isLetter 13 = .ok (.bipush 65, 2) := by decide +kernel
theorem dX5_isLetter_15 : decode cX5_isLetter 15 = .ok (.if_icmp .lt 13, 3) := by decide +kernel
theorem dX5_isLetter_28 : decode cX5_isLetter 28 = .ok (.iconst 0, 1) := by decide +kernel
theorem dX5_isLetter_29 : decode cX5_isLetter 29 = .ok (.ireturn, 1) := by decide +kernel
theorem dX5_isLetter_18 : decode cX5_isLetter 18 = .ok (.iload_n 0, 1) := by decide +kernel
theorem dX5_isLetter_19 : decode cX5_isLetter 19 = .ok (.bipush 90, 2) := by decide +kernel
theorem dX5_isLetter_21 : decode cX5_isLetter 21 = .ok (.if_icmp .gt 7, 3) := by decide +kernel
theorem dX5_isLetter_24 : decode cX5_isLetter 24 = .ok (.iconst 1, 1) := by decide +kernel
theorem dX5_isLetter_25 : decode cX5_isLetter 25 = .ok (.goto 4, 3) := by decide +kernel
theorem dX5_isLetter_6 : decode cX5_isLetter 6 = .ok (.iload_n 0, 1) := by decide +kernel
theorem dX5_isLetter_7 : decode cX5_isLetter 7 = .ok (.bipush 122, 2) := by decide +kernel
theorem dX5_isLetter_9 : decode cX5_isLetter 9 = .ok (.if_icmp .le 15, 3) := by decide +kernel
theorem dX5_isDigit_0 : decode cX5_isDigit 0 = .ok (.iload_n 0, 1) := by decide +kernel
theorem dX5_isDigit_1 : decode cX5_isDigit 1 = .ok (.bipush 48, 2) := by decide +kernel
theorem dX5_isDigit_3 : decode cX5_isDigit 3 = .ok (.if_icmp .lt 13, 3) := by decide +kernel
theorem dX5_isDigit_16 : decode cX5_isDigit 16 = .ok (.iconst 0, 1) := by decide +kernel
theorem dX5_isDigit_17 : decode cX5_isDigit 17 = .ok (.ireturn, 1) := by decide +kernel
theorem dX5_isDigit_6 : decode cX5_isDigit 6 = .ok (.iload_n 0, 1) := by decide +kernel
theorem dX5_isDigit_7 : decode cX5_isDigit 7 = .ok (.bipush 57, 2) := by decide +kernel
theorem dX5_isDigit_9 : decode cX5_isDigit 9 = .ok (.if_icmp .gt 7, 3) := by decide +kernel
theorem dX5_isDigit_12 : decode cX5_isDigit 12 = .ok (.iconst 1, 1) := by decide +kernel
theorem dX5_isDigit_13 : decode cX5_isDigit 13 = .ok (.goto 4, 3) := by decide +kernel
theorem dX5_step_0 : decode cX5_step 0 = .ok (.aload_n 0, 1) := by decide +kernel
theorem dX5_step_1 : decode cX5_step 1 = .ok (.getfield 46, 3) := by decide +kernel
theorem kf5_46 : inW (Cond.fieldLink RX5 46 "KneeOaths$Reader" "tokensRead" "I") := ⟨List.mem_of_getElem? (i := 345) (by decide +kernel), by decide +kernel⟩
theorem dX5_step_4 : decode cX5_step 4 = .ok (.aload_n 0, 1) := by decide +kernel
theorem dX5_step_5 : decode cX5_step 5 = .ok (.getfield 62, 3) := by decide +kernel
theorem kf5_62 : inW (Cond.fieldLink RX5 62 "KneeOaths$Reader" "tokenCount" "I") := ⟨List.mem_of_getElem? (i := 344) (by decide +kernel), by decide +kernel⟩
theorem dX5_step_8 : decode cX5_step 8 = .ok (.iconst 1, 1) := by decide +kernel
theorem dX5_step_9 : decode cX5_step 9 = .ok (.isub, 1) := by decide +kernel
theorem dX5_step_10 : decode cX5_step 10 = .ok (.invokestatic 108, 3) := by decide +kernel
theorem km5_108 : inW (Cond.methodLink RX5 108 Lib.Math.min.name) := ⟨List.mem_of_getElem? (i := 667) (by decide +kernel), by decide +kernel⟩
theorem dX5_step_13 : decode cX5_step 13 = .ok (.istore_n 1, 1) := by decide +kernel
theorem dX5_step_14 : decode cX5_step 14 = .ok (.iload_n 1, 1) := by decide +kernel
theorem dX5_step_15 : decode cX5_step 15 = .ok (.ifCond .lt 52, 3) := by decide +kernel
theorem dX5_step_18 : decode cX5_step 18 = .ok (.iload_n 1, 1) := by decide +kernel
theorem dX5_step_19 : decode cX5_step 19 = .ok (.aload_n 0, 1) := by decide +kernel
theorem dX5_step_20 : decode cX5_step 20 = .ok (.getfield 15, 3) := by decide +kernel
theorem kf5_15 : inW (Cond.fieldLink RX5 15 "KneeOaths$Reader" "kinds" "[I") := ⟨List.mem_of_getElem? (i := 340) (by decide +kernel), by decide +kernel⟩
theorem dX5_step_23 : decode cX5_step 23 = .ok (.arraylength, 1) := by decide +kernel
theorem dX5_step_24 : decode cX5_step 24 = .ok (.if_icmp .ge 43, 3) := by decide +kernel
theorem dX5_step_27 : decode cX5_step 27 = .ok (.aload_n 0, 1) := by decide +kernel
theorem dX5_step_28 : decode cX5_step 28 = .ok (.aload_n 0, 1) := by decide +kernel
theorem dX5_step_29 : decode cX5_step 29 = .ok (.getfield 15, 3) := by decide +kernel
theorem dX5_step_32 : decode cX5_step 32 = .ok (.iload_n 1, 1) := by decide +kernel
theorem dX5_step_33 : decode cX5_step 33 = .ok (.iaload, 1) := by decide +kernel
theorem dX5_step_34 : decode cX5_step 34 = .ok (.putfield 52, 3) := by decide +kernel
theorem kf5_52 : inW (Cond.fieldLink RX5 52 "KneeOaths$Reader" "token" "I") := ⟨List.mem_of_getElem? (i := 346) (by decide +kernel), by decide +kernel⟩
theorem dX5_step_37 : decode cX5_step 37 = .ok (.aload_n 0, 1) := by decide +kernel
theorem dX5_step_38 : decode cX5_step 38 = .ok (.aload_n 0, 1) := by decide +kernel
theorem dX5_step_39 : decode cX5_step 39 = .ok (.getfield 18, 3) := by decide +kernel
theorem kf5_18 : inW (Cond.fieldLink RX5 18 "KneeOaths$Reader" "places" "[I") := ⟨List.mem_of_getElem? (i := 341) (by decide +kernel), by decide +kernel⟩
theorem dX5_step_42 : decode cX5_step 42 = .ok (.iload_n 1, 1) := by decide +kernel
theorem dX5_step_43 : decode cX5_step 43 = .ok (.iaload, 1) := by decide +kernel
theorem dX5_step_44 : decode cX5_step 44 = .ok (.putfield 59, 3) := by decide +kernel
theorem kf5_59 : inW (Cond.fieldLink RX5 59 "KneeOaths$Reader" "place" "I") := ⟨List.mem_of_getElem? (i := 347) (by decide +kernel), by decide +kernel⟩
theorem dX5_step_47 : decode cX5_step 47 = .ok (.aload_n 0, 1) := by decide +kernel
theorem dX5_step_48 : decode cX5_step 48 = .ok (.aload_n 0, 1) := by decide +kernel
theorem dX5_step_49 : decode cX5_step 49 = .ok (.getfield 21, 3) := by decide +kernel
theorem kf5_21 : inW (Cond.fieldLink RX5 21 "KneeOaths$Reader" "values" "[I") := ⟨List.mem_of_getElem? (i := 342) (by decide +kernel), by decide +kernel⟩
theorem dX5_step_52 : decode cX5_step 52 = .ok (.iload_n 1, 1) := by decide +kernel
theorem dX5_step_53 : decode cX5_step 53 = .ok (.iaload, 1) := by decide +kernel
theorem dX5_step_54 : decode cX5_step 54 = .ok (.putfield 118, 3) := by decide +kernel
theorem kf5_118 : inW (Cond.fieldLink RX5 118 "KneeOaths$Reader" "value" "I") := ⟨List.mem_of_getElem? (i := 348) (by decide +kernel), by decide +kernel⟩
theorem dX5_step_57 : decode cX5_step 57 = .ok (.aload_n 0, 1) := by decide +kernel
theorem dX5_step_58 : decode cX5_step 58 = .ok (.dup, 1) := by decide +kernel
theorem dX5_step_59 : decode cX5_step 59 = .ok (.getfield 46, 3) := by decide +kernel
theorem dX5_step_62 : decode cX5_step 62 = .ok (.iconst 1, 1) := by decide +kernel
theorem dX5_step_63 : decode cX5_step 63 = .ok (.iadd, 1) := by decide +kernel
theorem dX5_step_64 : decode cX5_step 64 = .ok (.putfield 46, 3) := by decide +kernel
theorem dX5_step_67 : decode cX5_step 67 = .ok (.return_, 1) := by decide +kernel
theorem dX5_fail_0 : decode cX5_fail 0 = .ok (.aload_n 0, 1) := by decide +kernel
theorem dX5_fail_1 : decode cX5_fail 1 = .ok (.iload_n 1, 1) := by decide +kernel
theorem dX5_fail_2 : decode cX5_fail 2 = .ok (.putfield 24, 3) := by decide +kernel
theorem dX5_fail_5 : decode cX5_fail 5 = .ok (.aload_n 0, 1) := by decide +kernel
theorem dX5_fail_6 : decode cX5_fail 6 = .ok (.aload_n 0, 1) := by decide +kernel
theorem dX5_fail_7 : decode cX5_fail 7 = .ok (.getfield 59, 3) := by decide +kernel
theorem dX5_fail_10 : decode cX5_fail 10 = .ok (.putfield 28, 3) := by decide +kernel
theorem dX5_fail_13 : decode cX5_fail 13 = .ok (.iconst 0, 1) := by decide +kernel
theorem dX5_fail_14 : decode cX5_fail 14 = .ok (.ireturn, 1) := by decide +kernel
theorem dX5_expect_0 : decode cX5_expect 0 = .ok (.aload_n 0, 1) := by decide +kernel
theorem dX5_expect_1 : decode cX5_expect 1 = .ok (.getfield 52, 3) := by decide +kernel
theorem dX5_expect_4 : decode cX5_expect 4 = .ok (.iload_n 1, 1) := by decide +kernel
theorem dX5_expect_5 : decode cX5_expect 5 = .ok (.if_icmp .eq 9, 3) := by decide +kernel
theorem dX5_expect_14 : decode cX5_expect 14 = .ok (.aload_n 0, 1) := by decide +kernel
theorem dX5_expect_15 : decode cX5_expect 15 = .ok (.invokevirtual 49, 3) := by decide +kernel
theorem cw_X5_step : CWv yX5_step cX5_step 2 none 0 := ⟨⟨⟨List.mem_of_getElem? (i := 130) (by decide +kernel), by decide +kernel⟩, ⟨List.mem_of_getElem? (i := 733) (by decide +kernel), by decide +kernel⟩, by decide +kernel⟩, ⟨List.mem_of_getElem? (i := 732) (by decide +kernel), by decide +kernel⟩, ⟨List.mem_of_getElem? (i := 8) (by decide +kernel), by decide +kernel⟩⟩
theorem km5_49 : inW (Cond.methodLink RX5 49 yX5_step) := ⟨List.mem_of_getElem? (i := 730) (by decide +kernel), by decide +kernel⟩
theorem dX5_expect_18 : decode cX5_expect 18 = .ok (.iconst 1, 1) := by decide +kernel
theorem dX5_expect_19 : decode cX5_expect 19 = .ok (.ireturn, 1) := by decide +kernel
theorem dX5_expect_8 : decode cX5_expect 8 = .ok (.aload_n 0, 1) := by decide +kernel
theorem dX5_expect_9 : decode cX5_expect 9 = .ok (.iconst 1, 1) := by decide +kernel
theorem dX5_expect_10 : decode cX5_expect 10 = .ok (.invokevirtual 121, 3) := by decide +kernel
theorem cw_X5_fail : CWv yX5_fail cX5_fail 2 (some .boolean) 1 := ⟨⟨⟨List.mem_of_getElem? (i := 130) (by decide +kernel), by decide +kernel⟩, ⟨List.mem_of_getElem? (i := 741) (by decide +kernel), by decide +kernel⟩, by decide +kernel⟩, ⟨List.mem_of_getElem? (i := 740) (by decide +kernel), by decide +kernel⟩, ⟨List.mem_of_getElem? (i := 10) (by decide +kernel), by decide +kernel⟩⟩
theorem km5_121 : inW (Cond.methodLink RX5 121 yX5_fail) := ⟨List.mem_of_getElem? (i := 738) (by decide +kernel), by decide +kernel⟩
theorem dX5_expect_13 : decode cX5_expect 13 = .ok (.ireturn, 1) := by decide +kernel
theorem dX5_readNumber_0 : decode cX5_readNumber 0 = .ok (.aload_n 0, 1) := by decide +kernel
theorem dX5_readNumber_1 : decode cX5_readNumber 1 = .ok (.getfield 52, 3) := by decide +kernel
theorem dX5_readNumber_4 : decode cX5_readNumber 4 = .ok (.sipush 1000, 3) := by decide +kernel
theorem dX5_readNumber_7 : decode cX5_readNumber 7 = .ok (.if_icmp .eq 9, 3) := by decide +kernel
theorem dX5_readNumber_16 : decode cX5_readNumber 16 = .ok (.aload_n 0, 1) := by decide +kernel
theorem dX5_readNumber_17 : decode cX5_readNumber 17 = .ok (.getfield 118, 3) := by decide +kernel
theorem dX5_readNumber_20 : decode cX5_readNumber 20 = .ok (.iload_n 2, 1) := by decide +kernel
theorem dX5_readNumber_21 : decode cX5_readNumber 21 = .ok (.iload_n 3, 1) := by decide +kernel
theorem dX5_readNumber_22 : decode cX5_readNumber 22 = .ok (.invokestatic 160, 3) := by decide +kernel
theorem km5_160 : inW (Cond.methodLinkNest RX5 160 yX11_within "KneeOaths") := ⟨List.mem_of_getElem? (i := 833) (by decide +kernel), by decide +kernel⟩
theorem dX5_readNumber_25 : decode cX5_readNumber 25 = .ok (.ifCond .ne 9, 3) := by decide +kernel
theorem dX5_readNumber_34 : decode cX5_readNumber 34 = .ok (.aload_n 0, 1) := by decide +kernel
theorem dX5_readNumber_35 : decode cX5_readNumber 35 = .ok (.getfield 34, 3) := by decide +kernel
theorem kf5_34 : inW (Cond.fieldLink RX5 34 "KneeOaths$Reader" "script" "LKneeOaths$Script;") := ⟨List.mem_of_getElem? (i := 350) (by decide +kernel), by decide +kernel⟩
theorem dX5_readNumber_38 : decode cX5_readNumber 38 = .ok (.iload_n 1, 1) := by decide +kernel
theorem dX5_readNumber_39 : decode cX5_readNumber 39 = .ok (.aload_n 0, 1) := by decide +kernel
theorem dX5_readNumber_40 : decode cX5_readNumber 40 = .ok (.getfield 118, 3) := by decide +kernel
theorem dX5_readNumber_43 : decode cX5_readNumber 43 = .ok (.invokevirtual 163, 3) := by decide +kernel
theorem km5_163 : inW (Cond.methodLink RX5 163 yX7_setClause) := ⟨List.mem_of_getElem? (i := 834) (by decide +kernel), by decide +kernel⟩
theorem dX5_readNumber_46 : decode cX5_readNumber 46 = .ok (.aload_n 0, 1) := by decide +kernel
theorem dX5_readNumber_47 : decode cX5_readNumber 47 = .ok (.invokevirtual 49, 3) := by decide +kernel
theorem dX5_readNumber_50 : decode cX5_readNumber 50 = .ok (.iconst 1, 1) := by decide +kernel
theorem dX5_readNumber_51 : decode cX5_readNumber 51 = .ok (.ireturn, 1) := by decide +kernel
theorem dX5_readNumber_28 : decode cX5_readNumber 28 = .ok (.aload_n 0, 1) := by decide +kernel
theorem dX5_readNumber_29 : decode cX5_readNumber 29 = .ok (.iconst 2, 1) := by decide +kernel
theorem dX5_readNumber_30 : decode cX5_readNumber 30 = .ok (.invokevirtual 121, 3) := by decide +kernel
theorem dX5_readNumber_33 : decode cX5_readNumber 33 = .ok (.ireturn, 1) := by decide +kernel
theorem dX5_readNumber_10 : decode cX5_readNumber 10 = .ok (.aload_n 0, 1) := by decide +kernel
theorem dX5_readNumber_11 : decode cX5_readNumber 11 = .ok (.iconst 1, 1) := by decide +kernel
theorem dX5_readNumber_12 : decode cX5_readNumber 12 = .ok (.invokevirtual 121, 3) := by decide +kernel
theorem dX5_readNumber_15 : decode cX5_readNumber 15 = .ok (.ireturn, 1) := by decide +kernel
theorem dX5_readKnee_0 : decode cX5_readKnee 0 = .ok (.aload_n 0, 1) := by decide +kernel
theorem dX5_readKnee_1 : decode cX5_readKnee 1 = .ok (.getfield 52, 3) := by decide +kernel
theorem dX5_readKnee_4 : decode cX5_readKnee 4 = .ok (.bipush 20, 2) := by decide +kernel
theorem dX5_readKnee_6 : decode cX5_readKnee 6 = .ok (.if_icmp .eq 18, 3) := by decide +kernel
theorem dX5_readKnee_24 : decode cX5_readKnee 24 = .ok (.aload_n 0, 1) := by decide +kernel
theorem dX5_readKnee_25 : decode cX5_readKnee 25 = .ok (.getfield 34, 3) := by decide +kernel
theorem dX5_readKnee_28 : decode cX5_readKnee 28 = .ok (.iconst 3, 1) := by decide +kernel
theorem dX5_readKnee_29 : decode cX5_readKnee 29 = .ok (.aload_n 0, 1) := by decide +kernel
theorem dX5_readKnee_30 : decode cX5_readKnee 30 = .ok (.getfield 52, 3) := by decide +kernel
theorem dX5_readKnee_33 : decode cX5_readKnee 33 = .ok (.bipush 20, 2) := by decide +kernel
theorem dX5_readKnee_35 : decode cX5_readKnee 35 = .ok (.if_icmp .ne 7, 3) := by decide +kernel
theorem dX5_readKnee_38 : decode cX5_readKnee 38 = .ok (.iconst 0, 1) := by decide +kernel
theorem dX5_readKnee_39 : decode cX5_readKnee 39 = .ok (.goto 4, 3) := by decide +kernel
theorem dX5_readKnee_43 : decode cX5_readKnee 43 = .ok (.invokevirtual 163, 3) := by decide +kernel
theorem dX5_readKnee_46 : decode cX5_readKnee 46 = .ok (.aload_n 0, 1) := by decide +kernel
theorem dX5_readKnee_47 : decode cX5_readKnee 47 = .ok (.invokevirtual 49, 3) := by decide +kernel
theorem dX5_readKnee_50 : decode cX5_readKnee 50 = .ok (.iconst 1, 1) := by decide +kernel
theorem dX5_readKnee_51 : decode cX5_readKnee 51 = .ok (.ireturn, 1) := by decide +kernel
theorem dX5_readKnee_9 : decode cX5_readKnee 9 = .ok (.aload_n 0, 1) := by decide +kernel
theorem dX5_readKnee_10 : decode cX5_readKnee 10 = .ok (.getfield 52, 3) := by decide +kernel
theorem dX5_readKnee_13 : decode cX5_readKnee 13 = .ok (.bipush 21, 2) := by decide +kernel
theorem dX5_readKnee_15 : decode cX5_readKnee 15 = .ok (.if_icmp .eq 9, 3) := by decide +kernel
theorem dX5_readKnee_42 : decode cX5_readKnee 42 = .ok (.iconst 1, 1) := by decide +kernel
theorem dX5_readKnee_18 : decode cX5_readKnee 18 = .ok (.aload_n 0, 1) := by decide +kernel
theorem dX5_readKnee_19 : decode cX5_readKnee 19 = .ok (.iconst 1, 1) := by decide +kernel
theorem dX5_readKnee_20 : decode cX5_readKnee 20 = .ok (.invokevirtual 121, 3) := by decide +kernel
theorem dX5_readKnee_23 : decode cX5_readKnee 23 = .ok (.ireturn, 1) := by decide +kernel
theorem dX5_readDeed_0 : decode cX5_readDeed 0 = .ok (.iload_n 1, 1) := by decide +kernel
theorem dX5_readDeed_1 : decode cX5_readDeed 1 = .ok (.tableswitch 151 3 9 #[43, 80, 133, 133, 151, 151, 142], 43) := by decide +kernel
theorem dX5_readDeed_44 : decode cX5_readDeed 44 = .ok (.aload_n 0, 1) := by decide +kernel
theorem dX5_readDeed_45 : decode cX5_readDeed 45 = .ok (.iconst 1, 1) := by decide +kernel
theorem dX5_readDeed_46 : decode cX5_readDeed 46 = .ok (.iconst 0, 1) := by decide +kernel
theorem dX5_readDeed_47 : decode cX5_readDeed 47 = .ok (.bipush 9, 2) := by decide +kernel
theorem dX5_readDeed_49 : decode cX5_readDeed 49 = .ok (.invokevirtual 154, 3) := by decide +kernel
theorem cw_X5_readNumber : CWv yX5_readNumber cX5_readNumber 4 (some .boolean) 3 := ⟨⟨⟨List.mem_of_getElem? (i := 130) (by decide +kernel), by decide +kernel⟩, ⟨List.mem_of_getElem? (i := 832) (by decide +kernel), by decide +kernel⟩, by decide +kernel⟩, ⟨List.mem_of_getElem? (i := 831) (by decide +kernel), by decide +kernel⟩, ⟨List.mem_of_getElem? (i := 25) (by decide +kernel), by decide +kernel⟩⟩
theorem km5_154 : inW (Cond.methodLink RX5 154 yX5_readNumber) := ⟨List.mem_of_getElem? (i := 829) (by decide +kernel), by decide +kernel⟩
theorem dX5_readDeed_52 : decode cX5_readDeed 52 = .ok (.ifCond .eq 27, 3) := by decide +kernel
theorem dX5_readDeed_79 : decode cX5_readDeed 79 = .ok (.iconst 0, 1) := by decide +kernel
theorem dX5_readDeed_80 : decode cX5_readDeed 80 = .ok (.ireturn, 1) := by decide +kernel
theorem dX5_readDeed_55 : decode cX5_readDeed 55 = .ok (.aload_n 0, 1) := by decide +kernel
theorem dX5_readDeed_56 : decode cX5_readDeed 56 = .ok (.bipush 12, 2) := by decide +kernel
theorem dX5_readDeed_58 : decode cX5_readDeed 58 = .ok (.invokevirtual 140, 3) := by decide +kernel
theorem cw_X5_expect : CWv yX5_expect cX5_expect 2 (some .boolean) 1 := ⟨⟨⟨List.mem_of_getElem? (i := 130) (by decide +kernel), by decide +kernel⟩, ⟨List.mem_of_getElem? (i := 789) (by decide +kernel), by decide +kernel⟩, by decide +kernel⟩, ⟨List.mem_of_getElem? (i := 788) (by decide +kernel), by decide +kernel⟩, ⟨List.mem_of_getElem? (i := 17) (by decide +kernel), by decide +kernel⟩⟩
theorem km5_140 : inW (Cond.methodLink RX5 140 yX5_expect) := ⟨List.mem_of_getElem? (i := 786) (by decide +kernel), by decide +kernel⟩
theorem dX5_readDeed_61 : decode cX5_readDeed 61 = .ok (.ifCond .eq 18, 3) := by decide +kernel
theorem dX5_readDeed_64 : decode cX5_readDeed 64 = .ok (.aload_n 0, 1) := by decide +kernel
theorem dX5_readDeed_65 : decode cX5_readDeed 65 = .ok (.iconst 2, 1) := by decide +kernel
theorem dX5_readDeed_66 : decode cX5_readDeed 66 = .ok (.iconst 0, 1) := by decide +kernel
theorem dX5_readDeed_67 : decode cX5_readDeed 67 = .ok (.bipush 99, 2) := by decide +kernel
theorem dX5_readDeed_69 : decode cX5_readDeed 69 = .ok (.invokevirtual 154, 3) := by decide +kernel
theorem dX5_readDeed_72 : decode cX5_readDeed 72 = .ok (.ifCond .eq 7, 3) := by decide +kernel
theorem dX5_readDeed_75 : decode cX5_readDeed 75 = .ok (.iconst 1, 1) := by decide +kernel
theorem dX5_readDeed_76 : decode cX5_readDeed 76 = .ok (.goto 4, 3) := by decide +kernel
theorem dX5_readDeed_81 : decode cX5_readDeed 81 = .ok (.aload_n 0, 1) := by decide +kernel
theorem dX5_readDeed_82 : decode cX5_readDeed 82 = .ok (.iconst 1, 1) := by decide +kernel
theorem dX5_readDeed_83 : decode cX5_readDeed 83 = .ok (.iconst 0, 1) := by decide +kernel
theorem dX5_readDeed_84 : decode cX5_readDeed 84 = .ok (.iconst 5, 1) := by decide +kernel
theorem dX5_readDeed_85 : decode cX5_readDeed 85 = .ok (.invokevirtual 154, 3) := by decide +kernel
theorem dX5_readDeed_88 : decode cX5_readDeed 88 = .ok (.ifCond .eq 44, 3) := by decide +kernel
theorem dX5_readDeed_132 : decode cX5_readDeed 132 = .ok (.iconst 0, 1) := by decide +kernel
theorem dX5_readDeed_133 : decode cX5_readDeed 133 = .ok (.ireturn, 1) := by decide +kernel
theorem dX5_readDeed_91 : decode cX5_readDeed 91 = .ok (.aload_n 0, 1) := by decide +kernel
theorem dX5_readDeed_92 : decode cX5_readDeed 92 = .ok (.bipush 19, 2) := by decide +kernel
theorem dX5_readDeed_94 : decode cX5_readDeed 94 = .ok (.invokevirtual 140, 3) := by decide +kernel
theorem dX5_readDeed_97 : decode cX5_readDeed 97 = .ok (.ifCond .eq 35, 3) := by decide +kernel
theorem dX5_readDeed_100 : decode cX5_readDeed 100 = .ok (.aload_n 0, 1) := by decide +kernel
theorem dX5_readDeed_101 : decode cX5_readDeed 101 = .ok (.iconst 2, 1) := by decide +kernel
theorem dX5_readDeed_102 : decode cX5_readDeed 102 = .ok (.iconst 0, 1) := by decide +kernel
theorem dX5_readDeed_103 : decode cX5_readDeed 103 = .ok (.iconst 5, 1) := by decide +kernel
theorem dX5_readDeed_104 : decode cX5_readDeed 104 = .ok (.invokevirtual 154, 3) := by decide +kernel
theorem dX5_readDeed_107 : decode cX5_readDeed 107 = .ok (.ifCond .eq 25, 3) := by decide +kernel
theorem dX5_readDeed_110 : decode cX5_readDeed 110 = .ok (.aload_n 0, 1) := by decide +kernel
theorem dX5_readDeed_111 : decode cX5_readDeed 111 = .ok (.invokevirtual 157, 3) := by decide +kernel
theorem cw_X5_readKnee : CWv yX5_readKnee cX5_readKnee 1 (some .boolean) 0 := ⟨⟨⟨List.mem_of_getElem? (i := 130) (by decide +kernel), by decide +kernel⟩, ⟨List.mem_of_getElem? (i := 838) (by decide +kernel), by decide +kernel⟩, by decide +kernel⟩, ⟨List.mem_of_getElem? (i := 837) (by decide +kernel), by decide +kernel⟩, ⟨List.mem_of_getElem? (i := 26) (by decide +kernel), by decide +kernel⟩⟩
theorem km5_157 : inW (Cond.methodLink RX5 157 yX5_readKnee) := ⟨List.mem_of_getElem? (i := 835) (by decide +kernel), by decide +kernel⟩
theorem dX5_readDeed_114 : decode cX5_readDeed 114 = .ok (.ifCond .eq 18, 3) := by decide +kernel
theorem dX5_readDeed_117 : decode cX5_readDeed 117 = .ok (.aload_n 0, 1) := by decide +kernel
theorem dX5_readDeed_118 : decode cX5_readDeed 118 = .ok (.iconst 4, 1) := by decide +kernel
theorem dX5_readDeed_119 : decode cX5_readDeed 119 = .ok (.iconst 1, 1) := by decide +kernel
theorem dX5_readDeed_120 : decode cX5_readDeed 120 = .ok (.bipush 9, 2) := by decide +kernel
theorem dX5_readDeed_122 : decode cX5_readDeed 122 = .ok (.invokevirtual 154, 3) := by decide +kernel
theorem dX5_readDeed_125 : decode cX5_readDeed 125 = .ok (.ifCond .eq 7, 3) := by decide +kernel
theorem dX5_readDeed_128 : decode cX5_readDeed 128 = .ok (.iconst 1, 1) := by decide +kernel
theorem dX5_readDeed_129 : decode cX5_readDeed 129 = .ok (.goto 4, 3) := by decide +kernel
theorem dX5_readDeed_134 : decode cX5_readDeed 134 = .ok (.aload_n 0, 1) := by decide +kernel
theorem dX5_readDeed_135 : decode cX5_readDeed 135 = .ok (.iconst 1, 1) := by decide +kernel
theorem dX5_readDeed_136 : decode cX5_readDeed 136 = .ok (.iconst 0, 1) := by decide +kernel
theorem dX5_readDeed_137 : decode cX5_readDeed 137 = .ok (.bipush 13, 2) := by decide +kernel
theorem dX5_readDeed_139 : decode cX5_readDeed 139 = .ok (.invokevirtual 154, 3) := by decide +kernel
theorem dX5_readDeed_142 : decode cX5_readDeed 142 = .ok (.ireturn, 1) := by decide +kernel
theorem dX5_readDeed_152 : decode cX5_readDeed 152 = .ok (.aload_n 0, 1) := by decide +kernel
theorem dX5_readDeed_153 : decode cX5_readDeed 153 = .ok (.iconst 1, 1) := by decide +kernel
theorem dX5_readDeed_154 : decode cX5_readDeed 154 = .ok (.iconst 0, 1) := by decide +kernel
theorem dX5_readDeed_155 : decode cX5_readDeed 155 = .ok (.iconst 5, 1) := by decide +kernel
theorem dX5_readDeed_156 : decode cX5_readDeed 156 = .ok (.invokevirtual 154, 3) := by decide +kernel
theorem dX5_readDeed_159 : decode cX5_readDeed 159 = .ok (.ireturn, 1) := by decide +kernel
theorem dX5_readDeed_143 : decode cX5_readDeed 143 = .ok (.aload_n 0, 1) := by decide +kernel
theorem dX5_readDeed_144 : decode cX5_readDeed 144 = .ok (.iconst 1, 1) := by decide +kernel
theorem dX5_readDeed_145 : decode cX5_readDeed 145 = .ok (.iconst 1, 1) := by decide +kernel
theorem dX5_readDeed_146 : decode cX5_readDeed 146 = .ok (.bipush 60, 2) := by decide +kernel
theorem dX5_readDeed_148 : decode cX5_readDeed 148 = .ok (.invokevirtual 154, 3) := by decide +kernel
theorem dX5_readDeed_151 : decode cX5_readDeed 151 = .ok (.ireturn, 1) := by decide +kernel
theorem dX5_readPlainNumber_0 : decode cX5_readPlainNumber 0 = .ok (.aload_n 0, 1) := by decide +kernel
theorem dX5_readPlainNumber_1 : decode cX5_readPlainNumber 1 = .ok (.getfield 118, 3) := by decide +kernel
theorem dX5_readPlainNumber_4 : decode cX5_readPlainNumber 4 = .ok (.sipush 9999, 3) := by decide +kernel
theorem dX5_readPlainNumber_7 : decode cX5_readPlainNumber 7 = .ok (.if_icmp .le 9, 3) := by decide +kernel
theorem dX5_readPlainNumber_16 : decode cX5_readPlainNumber 16 = .ok (.aload_n 0, 1) := by decide +kernel
theorem dX5_readPlainNumber_17 : decode cX5_readPlainNumber 17 = .ok (.getfield 34, 3) := by decide +kernel
theorem dX5_readPlainNumber_20 : decode cX5_readPlainNumber 20 = .ok (.iconst 0, 1) := by decide +kernel
theorem dX5_readPlainNumber_21 : decode cX5_readPlainNumber 21 = .ok (.aload_n 0, 1) := by decide +kernel
theorem dX5_readPlainNumber_22 : decode cX5_readPlainNumber 22 = .ok (.getfield 118, 3) := by decide +kernel
theorem dX5_readPlainNumber_25 : decode cX5_readPlainNumber 25 = .ok (.invokevirtual 169, 3) := by decide +kernel
theorem cw_X7_add : CWv yX7_add cX7_add 3 (some .int) 2 := ⟨⟨⟨List.mem_of_getElem? (i := 129) (by decide +kernel), by decide +kernel⟩, ⟨List.mem_of_getElem? (i := 781) (by decide +kernel), by decide +kernel⟩, by decide +kernel⟩, ⟨List.mem_of_getElem? (i := 779) (by decide +kernel), by decide +kernel⟩, ⟨List.mem_of_getElem? (i := 780) (by decide +kernel), by decide +kernel⟩⟩
theorem km5_169 : inW (Cond.methodLink RX5 169 yX7_add) := ⟨List.mem_of_getElem? (i := 778) (by decide +kernel), by decide +kernel⟩
theorem dX5_readPlainNumber_28 : decode cX5_readPlainNumber 28 = .ok (.pop, 1) := by decide +kernel
theorem dX5_readPlainNumber_29 : decode cX5_readPlainNumber 29 = .ok (.aload_n 0, 1) := by decide +kernel
theorem dX5_readPlainNumber_30 : decode cX5_readPlainNumber 30 = .ok (.invokevirtual 49, 3) := by decide +kernel
theorem dX5_readPlainNumber_33 : decode cX5_readPlainNumber 33 = .ok (.iconst 1, 1) := by decide +kernel
theorem dX5_readPlainNumber_34 : decode cX5_readPlainNumber 34 = .ok (.ireturn, 1) := by decide +kernel
theorem dX5_readPlainNumber_10 : decode cX5_readPlainNumber 10 = .ok (.aload_n 0, 1) := by decide +kernel
theorem dX5_readPlainNumber_11 : decode cX5_readPlainNumber 11 = .ok (.iconst 2, 1) := by decide +kernel
theorem dX5_readPlainNumber_12 : decode cX5_readPlainNumber 12 = .ok (.invokevirtual 121, 3) := by decide +kernel
theorem dX5_readPlainNumber_15 : decode cX5_readPlainNumber 15 = .ok (.ireturn, 1) := by decide +kernel
theorem dX5_readName_0 : decode cX5_readName 0 = .ok (.aload_n 0, 1) := by decide +kernel
theorem dX5_readName_1 : decode cX5_readName 1 = .ok (.getfield 144, 3) := by decide +kernel
theorem kf5_144 : inW (Cond.fieldLink RX5 144 "KneeOaths$Reader" "law" "I") := ⟨List.mem_of_getElem? (i := 349) (by decide +kernel), by decide +kernel⟩
theorem dX5_readName_4 : decode cX5_readName 4 = .ok (.iconst 2, 1) := by decide +kernel
theorem dX5_readName_5 : decode cX5_readName 5 = .ok (.if_icmp .ne 18, 3) := by decide +kernel
theorem dX5_readName_23 : decode cX5_readName 23 = .ok (.aload_n 0, 1) := by decide +kernel
theorem dX5_readName_24 : decode cX5_readName 24 = .ok (.getfield 34, 3) := by decide +kernel
theorem dX5_readName_27 : decode cX5_readName 27 = .ok (.iconst 1, 1) := by decide +kernel
theorem dX5_readName_28 : decode cX5_readName 28 = .ok (.aload_n 0, 1) := by decide +kernel
theorem dX5_readName_29 : decode cX5_readName 29 = .ok (.getfield 52, 3) := by decide +kernel
theorem dX5_readName_32 : decode cX5_readName 32 = .ok (.invokevirtual 169, 3) := by decide +kernel
theorem dX5_readName_35 : decode cX5_readName 35 = .ok (.pop, 1) := by decide +kernel
theorem dX5_readName_36 : decode cX5_readName 36 = .ok (.aload_n 0, 1) := by decide +kernel
theorem dX5_readName_37 : decode cX5_readName 37 = .ok (.invokevirtual 49, 3) := by decide +kernel
theorem dX5_readName_40 : decode cX5_readName 40 = .ok (.iconst 1, 1) := by decide +kernel
theorem dX5_readName_41 : decode cX5_readName 41 = .ok (.ireturn, 1) := by decide +kernel
theorem dX5_readName_8 : decode cX5_readName 8 = .ok (.aload_n 0, 1) := by decide +kernel
theorem dX5_readName_9 : decode cX5_readName 9 = .ok (.getfield 52, 3) := by decide +kernel
theorem dX5_readName_12 : decode cX5_readName 12 = .ok (.bipush 14, 2) := by decide +kernel
theorem dX5_readName_14 : decode cX5_readName 14 = .ok (.if_icmp .lt 9, 3) := by decide +kernel
theorem dX5_readName_17 : decode cX5_readName 17 = .ok (.aload_n 0, 1) := by decide +kernel
theorem dX5_readName_18 : decode cX5_readName 18 = .ok (.iconst 5, 1) := by decide +kernel
theorem dX5_readName_19 : decode cX5_readName 19 = .ok (.invokevirtual 121, 3) := by decide +kernel
theorem dX5_readName_22 : decode cX5_readName 22 = .ok (.ireturn, 1) := by decide +kernel
theorem ne_ti {x k : Int32} {n : Int} (h : ¬ x = k) (e : k.toInt = n) : ¬ n = x.toInt := fun z => h (Int32.toInt_inj.mp (by rw [e, z]))
/-! The reading, exactly: rows of tokens, what a reader's method makes of the stack. -/
section RDR
variable {K V Pl : Nat → Int} {N i i0 j k a d o : Nat} {fk fp fk2 fp2 : Int} {r : Int32} {X Y Y' Z : List LI} {x : IT} {b : Bool} {its : List IT} {f : Int}
def RW (N : Nat) (K : Nat → Int) : (Nat → Int32) → Prop := fun g => ∀ k, k < N → (g k).toInt = K k
def RDH (K : Nat → Int) (N : Nat) : Prop := 1 ≤ N ∧ N ≤ 301 ∧ ∀ k, N ≤ k + 1 → K k = 1002
theorem RDH_lt (h : RDH K N) (hi : i < N) (hk : K i ≠ 1002) : i + 1 < N := by
  rcases Nat.lt_or_ge (i + 1) N with z | z
  · exact z
  · exact absurd (h.2.2 i z) hk
theorem RW_at {g : Nat → Int32} {n v : Int32} (h : RW N K g) (e : v = g n.toNatClampNeg) (hi : n.toInt = (k : Int)) (hk : k < N) : v.toInt = K k := by
  have q : n.toNatClampNeg = k := by show n.toInt.toNat = k; omega
  rw [e, q]; exact h k hk
theorem min_i {n m z : Int32} {p q : Int} (e : z = if m < n then m else n) (hx : n.toInt = p) (hy : m.toInt = q) (h : p ≤ q) : z.toInt = p := by
  have c : ¬ m < n := by rw [Int32.lt_iff_toInt_lt]; omega
  rw [e, if_neg c]; exact hx
theorem bn_to {n : Int32} {p q v : Int} (e : n.toInt = v) (h : p ≤ v ∧ v ≤ q) : bn p q n := ⟨by omega, by omega⟩
theorem bn00 {n : Int32} (h : bn 0 0 n) : n = 0 := Int32.toInt_inj.mp (by have h1 := h.1; have h2 := h.2; show n.toInt = 0; omega)
def RDP (K V Pl : Nat → Int) (X : List LI) (i j N : Nat) (fk fp fk2 fp2 : Int) (r : Int32) : Prop :=
  (r = 1 ∧ (∀ S, Tr K V (X ++ S) i S j) ∧ j < N ∧ i < j ∧ fk = fk2 ∧ fp = fp2) ∨ (r = 0 ∧ (∀ S, LL K V (X ++ S) i (fk2, j)) ∧ fk2 ≠ 0 ∧ fp2 = Pl j)
theorem RDP_t (e : RDP K V Pl X i j N fk fp fk2 fp2 r) (h : ¬ r = 0) : r = 1 ∧ (∀ S, Tr K V (X ++ S) i S j) ∧ j < N ∧ i < j ∧ fk = fk2 ∧ fp = fp2 := by
  rcases e with e | e
  · exact e
  · exact absurd e.1 h
theorem RDP_f (e : RDP K V Pl X i j N fk fp fk2 fp2 r) (h : r = 0) : (∀ S, LL K V (X ++ S) i (fk2, j)) ∧ fk2 ≠ 0 ∧ fp2 = Pl j := by
  rcases e with e | e
  · rw [h] at e; exact absurd e.1 (by decide)
  · exact e.2
theorem TrY (h : ∀ S, Tr K V (X ++ S) i0 (((x, o, b) :: Y) ++ S) i) (e : gx x o b (K i) (V i) = (0, a, its, d)) (hd : d < 100) (hY : lay (o + d) b its ++ Y = Y') : ∀ S, Tr K V (X ++ S) i0 (Y' ++ S) (i + a) := fun S => by
  subst hY
  have q := Tr_go (S := Y ++ S) e hd
  rw [← List.append_assoc] at q
  exact Tr_t (h S) q
theorem TrC (h : ∀ S, Tr K V (X ++ S) i0 ((Z ++ Y) ++ S) i) (g : ∀ S, Tr K V (Z ++ S) i S j) : ∀ S, Tr K V (X ++ S) i0 (Y ++ S) j := fun S => by
  have q := h S
  rw [List.append_assoc] at q
  exact Tr_t q (g (Y ++ S))
theorem TrB (h : ∀ S, Tr K V (X ++ S) i0 ((Z ++ Y) ++ S) i) {rr : Int × Nat} (g : ∀ S, LL K V (Z ++ S) i rr) : ∀ S, LL K V (X ++ S) i0 rr := fun S => by
  have q := h S
  rw [List.append_assoc] at q
  exact q _ (g (Y ++ S))
theorem TrN (h : ∀ S, Tr K V (X ++ S) i0 (((x, o, b) :: Y) ++ S) i) (e : gx x o b (K i) (V i) = (f, a, its, d)) (z : f ≠ 0) : ∀ S, LL K V (X ++ S) i0 (f, i) := fun S => h S _ (LL_no e z)
theorem RDPl (h : ∀ S, Tr K V (X ++ S) i0 (Z ++ S) i) (hi : i0 ≤ i) (e : RDP K V Pl Z i j N fk fp fk2 fp2 r) : RDP K V Pl X i0 j N fk fp fk2 fp2 r := by
  rcases e with ⟨e1, e2, e3, e4, e5⟩ | ⟨e1, e2, e3⟩
  · exact Or.inl ⟨e1, fun S => Tr_t (h S) (e2 S), e3, by omega, e5⟩
  · exact Or.inr ⟨e1, fun S => h S _ (e2 S), e3⟩
theorem gx_name (hk : 9 ≤ k ∧ k ≤ 18) : True := trivial
theorem gx_nm {k v : Int} (hk : 9 ≤ k ∧ k ≤ 18) (hb : ¬ (b = true ∧ 14 ≤ k)) : gx kOne o b k v = (0, 1, [], 0) := by
  unfold gx; simp only; rw [if_neg (by omega), if_pos hk, if_neg hb]
theorem gx_rk {k v : Int} (hk : 14 ≤ k ∧ k ≤ 18) (hb : b = true) : gx kOne o b k v = (5, 0, [], 0) := by
  unfold gx; simp only; rw [if_neg (by omega), if_pos (by omega), if_pos ⟨hb, hk.1⟩]
end RDR
theorem cmp_y {r v : Int32} (e : (r = -1 ∧ ¬ isCmp v.toInt) ∨ (bn 12 17 r ∧ isCmp v.toInt)) (h : ¬ r = -1) : v.toInt = 60 ∨ v.toInt = 316 ∨ v.toInt = 62 ∨ v.toInt = 318 ∨ v.toInt = 61 ∨ v.toInt = 35 := by
  rcases e with e | e
  · exact absurd e.1 h
  · exact e.2
theorem cmp_n2 {r v : Int32} (e : (r = -1 ∧ ¬ isCmp v.toInt) ∨ (bn 12 17 r ∧ isCmp v.toInt)) (h : r = -1) : ¬ (v.toInt = 60 ∨ v.toInt = 316 ∨ v.toInt = 62 ∨ v.toInt = 318 ∨ v.toInt = 61 ∨ v.toInt = 35) := by
  rcases e with e | e
  · exact e.2
  · have h1 := e.1.1; rw [h] at h1; exact absurd h1 (by decide)
set_option maxHeartbeats 4000000 in
set_option maxRecDepth 100000 in
theorem x_X5_comparing {l : Launch} {G : GG}  {L : List Nat} {f : HF}  {i1 : Int32}  : PMp l yX5_comparing cX5_comparing 1 .int 0 0 0 G [.int i1] L f (fun r => ((r = -1 ∧ ¬ isCmp i1.toInt) ∨ (bn 12 17 r ∧ isCmp i1.toInt))) := by
  refine PMi.of (post := fun r L1 f1 => (((r = -1 ∧ ¬ isCmp i1.toInt) ∨ (bn 12 17 r ∧ isCmp i1.toInt))) ∧ L1 = L ∧ f1 = f) (own := RX5) (by decide) rfl (Nat.le_of_ble_eq_true rfl) (fun sz p e s m args below meth c A ls hA1 hname S Y hl => ?_)
  have hx := S.hx
  have hb := S.hb
  have hl : lv_has ls 1 [(0, .int i1)] := hl
  refine lv_iload_n hx hb dX5_comparing_0 rfl (lv_at hl 0 rfl) ?_
  have o_39920 : i1 = 35 ∨ i1 = 60 ∨ i1 = 61 ∨ i1 = 62 ∨ i1 = 316 ∨ i1 = 318 ∨ (¬ i1 = 35 ∧ ¬ i1 = 60 ∧ ¬ i1 = 61 ∧ ¬ i1 = 62 ∧ ¬ i1 = 316 ∧ ¬ i1 = 318) := by
    by_cases z_35 : i1 = 35; · simp [z_35]
    by_cases z_60 : i1 = 60; · simp [z_60]
    by_cases z_61 : i1 = 61; · simp [z_61]
    by_cases z_62 : i1 = 62; · simp [z_62]
    by_cases z_316 : i1 = 316; · simp [z_316]
    by_cases z_318 : i1 = 318; · simp [z_318]
    exact Or.inr (Or.inr (Or.inr (Or.inr (Or.inr (Or.inr (⟨z_35, z_60, z_61, z_62, z_316, z_318⟩))))))
  rcases o_39920 with h_39921 | h_39921 | h_39921 | h_39921 | h_39921 | h_39921 | ⟨h_39914, h_39915, h_39916, h_39917, h_39918, h_39919⟩
  · refine lv_fold (z := 35) h_39921 ?_
    refine lv_lookup (off := 74) (tgt := 75) hx hb dX5_comparing_1 (by decide) (by decide) (by decide) ?_
    refine lv_bipush (v := 17) hx hb dX5_comparing_75 (by decide) ?_
    exact prI (post := fun r L1 f1 => (((r = -1 ∧ ¬ isCmp i1.toInt) ∨ (bn 12 17 r ∧ isCmp i1.toInt))) ∧ L1 = L ∧ f1 = f) S Y rfl (by decide) (by decide) hA1 ⟨Or.inr ⟨bn_k (by decide), (by have u1 := (show i1.toInt = 35 from by rw [h_39921]; rfl); unfold isCmp; omega)⟩, rfl, rfl⟩ dX5_comparing_77
  · refine lv_fold (z := 60) h_39921 ?_
    refine lv_lookup (off := 59) (tgt := 60) hx hb dX5_comparing_1 (by decide) (by decide) (by decide) ?_
    refine lv_bipush (v := 12) hx hb dX5_comparing_60 (by decide) ?_
    exact prI (post := fun r L1 f1 => (((r = -1 ∧ ¬ isCmp i1.toInt) ∨ (bn 12 17 r ∧ isCmp i1.toInt))) ∧ L1 = L ∧ f1 = f) S Y rfl (by decide) (by decide) hA1 ⟨Or.inr ⟨bn_k (by decide), (by have u1 := (show i1.toInt = 60 from by rw [h_39921]; rfl); unfold isCmp; omega)⟩, rfl, rfl⟩ dX5_comparing_62
  · refine lv_fold (z := 61) h_39921 ?_
    refine lv_lookup (off := 71) (tgt := 72) hx hb dX5_comparing_1 (by decide) (by decide) (by decide) ?_
    refine lv_bipush (v := 16) hx hb dX5_comparing_72 (by decide) ?_
    exact prI (post := fun r L1 f1 => (((r = -1 ∧ ¬ isCmp i1.toInt) ∨ (bn 12 17 r ∧ isCmp i1.toInt))) ∧ L1 = L ∧ f1 = f) S Y rfl (by decide) (by decide) hA1 ⟨Or.inr ⟨bn_k (by decide), (by have u1 := (show i1.toInt = 61 from by rw [h_39921]; rfl); unfold isCmp; omega)⟩, rfl, rfl⟩ dX5_comparing_74
  · refine lv_fold (z := 62) h_39921 ?_
    refine lv_lookup (off := 65) (tgt := 66) hx hb dX5_comparing_1 (by decide) (by decide) (by decide) ?_
    refine lv_bipush (v := 14) hx hb dX5_comparing_66 (by decide) ?_
    exact prI (post := fun r L1 f1 => (((r = -1 ∧ ¬ isCmp i1.toInt) ∨ (bn 12 17 r ∧ isCmp i1.toInt))) ∧ L1 = L ∧ f1 = f) S Y rfl (by decide) (by decide) hA1 ⟨Or.inr ⟨bn_k (by decide), (by have u1 := (show i1.toInt = 62 from by rw [h_39921]; rfl); unfold isCmp; omega)⟩, rfl, rfl⟩ dX5_comparing_68
  · refine lv_fold (z := 316) h_39921 ?_
    refine lv_lookup (off := 62) (tgt := 63) hx hb dX5_comparing_1 (by decide) (by decide) (by decide) ?_
    refine lv_bipush (v := 13) hx hb dX5_comparing_63 (by decide) ?_
    exact prI (post := fun r L1 f1 => (((r = -1 ∧ ¬ isCmp i1.toInt) ∨ (bn 12 17 r ∧ isCmp i1.toInt))) ∧ L1 = L ∧ f1 = f) S Y rfl (by decide) (by decide) hA1 ⟨Or.inr ⟨bn_k (by decide), (by have u1 := (show i1.toInt = 316 from by rw [h_39921]; rfl); unfold isCmp; omega)⟩, rfl, rfl⟩ dX5_comparing_65
  · refine lv_fold (z := 318) h_39921 ?_
    refine lv_lookup (off := 68) (tgt := 69) hx hb dX5_comparing_1 (by decide) (by decide) (by decide) ?_
    refine lv_bipush (v := 15) hx hb dX5_comparing_69 (by decide) ?_
    exact prI (post := fun r L1 f1 => (((r = -1 ∧ ¬ isCmp i1.toInt) ∨ (bn 12 17 r ∧ isCmp i1.toInt))) ∧ L1 = L ∧ f1 = f) S Y rfl (by decide) (by decide) hA1 ⟨Or.inr ⟨bn_k (by decide), (by have u1 := (show i1.toInt = 318 from by rw [h_39921]; rfl); unfold isCmp; omega)⟩, rfl, rfl⟩ dX5_comparing_71
  · refine lv_lookup (off := 77) (tgt := 78) hx hb dX5_comparing_1 (by decide) (by show Op.lookupswitch.offset [(35, 74), (60, 59), (61, 71), (62, 65), (316, 62), (318, 68)] 77 i1.toInt = 77; rw [Op.lookupswitch.offset_cons, if_neg (ne_ti (n := 35) h_39914 rfl), Op.lookupswitch.offset_cons, if_neg (ne_ti (n := 60) h_39915 rfl), Op.lookupswitch.offset_cons, if_neg (ne_ti (n := 61) h_39916 rfl), Op.lookupswitch.offset_cons, if_neg (ne_ti (n := 62) h_39917 rfl), Op.lookupswitch.offset_cons, if_neg (ne_ti (n := 316) h_39918 rfl), Op.lookupswitch.offset_cons, if_neg (ne_ti (n := 318) h_39919 rfl), Op.lookupswitch.offset_nil]) (by decide) ?_
    refine lv_iconst (v := (-1)) hx hb dX5_comparing_78 (by decide) ?_
    exact prI (post := fun r L1 f1 => (((r = -1 ∧ ¬ isCmp i1.toInt) ∨ (bn 12 17 r ∧ isCmp i1.toInt))) ∧ L1 = L ∧ f1 = f) S Y rfl (by decide) (by decide) hA1 ⟨Or.inl ⟨rfl, (by have u1 := (show i1.toInt ≠ 35 from fun z => h_39914 (Int32.toInt_inj.mp (z.trans rfl))); have u2 := (show i1.toInt ≠ 60 from fun z => h_39915 (Int32.toInt_inj.mp (z.trans rfl))); have u3 := (show i1.toInt ≠ 61 from fun z => h_39916 (Int32.toInt_inj.mp (z.trans rfl))); have u4 := (show i1.toInt ≠ 62 from fun z => h_39917 (Int32.toInt_inj.mp (z.trans rfl))); have u5 := (show i1.toInt ≠ 316 from fun z => h_39918 (Int32.toInt_inj.mp (z.trans rfl))); have u6 := (show i1.toInt ≠ 318 from fun z => h_39919 (Int32.toInt_inj.mp (z.trans rfl))); unfold isCmp; omega)⟩, rfl, rfl⟩ dX5_comparing_79
section TAPE
variable {nL : Int} {B : Nat → Int32} {i1 r v : Int32} {n : Nat}
def byC (x s : Int32) : Int32 := (x.toUInt32 >>> (s.toUInt32 &&& Int32.toUInt32 31)).toInt32 &&& 255
def ap4 (B : Nat → Int32) (n : Nat) (x : Int32) : Nat → Int32 := upd (upd (upd (upd B n (byC x 24)) (n + 1) (byC x 16)) (n + 2) (byC x 8)) (n + 3) (byC x 0)
def cuL (n k : Int) : Int := if 0 ≤ k ∧ k ≤ n then k else n
theorem SHe {sp sp' : Nat → Nat → SP} {nn : Nat → Nat} {G : GG} {ad : Nat → Nat → Nat} {L : List Nat} {f : HF} (I : SH sp nn G ad L f) (e : sp = sp') : SH sp' nn G ad L f := e ▸ I
def byA (B : Nat → Int32) (nL : Int) (i : Int32) : Int32 := if 0 ≤ i.toInt ∧ i.toInt < nL then B i.toInt.toNat else -1
end TAPE
set_option maxHeartbeats 4000000 in
set_option maxRecDepth 100000 in
theorem x_X5_size {l : Launch} {G : GG}  {L : List Nat} {f : HF} {ad : Nat → Nat → Nat} {zC : Int × Int} {zR : Int × Int} {zK : Int × Int} {zP : Int × Int} {zV : Int × Int} {zW : Int × Int} {zF : Int × Int} {zQ : Int × Int} {tT : (Nat → Int32) → Prop} {tU : (Nat → Int32) → Prop} {tP : (Nat → Int32) → Prop} {tV : (Nat → Int32) → Prop} {rf : FS} {sc : Nat → SG} {nL : Int} {fc : Int × Int} {tc w : Nat → Int × Int} {q : Nat → (Nat → Int32) → Prop} (I : SH (spC ((rf, fz (pp nL) zC zR zK zP zV zW zF zQ, tz tT tU tP tV, sc) : RS) fc tc w q) nnC G ad L f) (hW : WBp w 8) (hT : WBp tc 4) (hQ : QIp q) : PMp l yX5_size cX5_size 1 .int 0 0 0 G [.ref (ad 2 0)] L f (fun r => (r.toInt = nL)) := by
  refine PMi.of (post := fun r L1 f1 => ((r.toInt = nL)) ∧ L1 = L ∧ f1 = f) (own := RX5) (by decide) rfl (Nat.le_of_ble_eq_true rfl) (fun sz p e s m args below meth c A ls hA1 hname S Y hl => ?_)
  have hx := S.hx
  have hb := S.hb
  have hl : lv_has ls 1 [(0, .ref (ad 2 0))] := hl
  refine lv_aload_n hx hb dX5_size_0 rfl (lv_at hl 0 rfl) ?_
  obtain ⟨v_39962, v_39964, v_39966, v_39968, v_39970, v_39972, v_39974, v_39976, v_39978, v_39980, p_ad_2_0, b_39963, b_39965, b_39967, b_39969, b_39971, b_39973, b_39975, b_39977, b_39979, b_39981⟩ := opnC_2 (j := 0) I (by decide)
  have p_ad_2_0 : pt L f (ad 2 0) (.inr (5, [.ref (ad 50 0), .ref (ad 51 0), .ref (ad 52 0), .ref (ad 53 0), .int v_39962, .int v_39964, .int v_39966, .int v_39968, .int v_39970, .int v_39972, .int v_39974, v_39976, .int v_39978, .int v_39980])) := p_ad_2_0
  have tv_39962 : v_39962.toInt = nL := lim_eq b_39963
  refine pg_get S Y ok_X5 4 (by decide) kf5_31 (v := .int v_39962) p_ad_2_0 rfl dX5_size_1 ?_
  exact prI (post := fun r L1 f1 => ((r.toInt = nL)) ∧ L1 = L ∧ f1 = f) S Y rfl (by decide) (by decide) hA1 ⟨tv_39962, rfl, rfl⟩ dX5_size_4
set_option maxHeartbeats 4000000 in
set_option maxRecDepth 100000 in
theorem x_X5_faultKind {l : Launch} {G : GG}  {L : List Nat} {f : HF} {ad : Nat → Nat → Nat} {zL : Int × Int} {zC : Int × Int} {zR : Int × Int} {zK : Int × Int} {zP : Int × Int} {zV : Int × Int} {zW : Int × Int} {zQ : Int × Int} {tT : (Nat → Int32) → Prop} {tU : (Nat → Int32) → Prop} {tP : (Nat → Int32) → Prop} {tV : (Nat → Int32) → Prop} {rf : FS} {sc : Nat → SG} {kF : Int} {fc : Int × Int} {tc w : Nat → Int × Int} {q : Nat → (Nat → Int32) → Prop} (I : SH (spC ((rf, fz zL zC zR zK zP zV zW (pp kF) zQ, tz tT tU tP tV, sc) : RS) fc tc w q) nnC G ad L f) (hW : WBp w 8) (hT : WBp tc 4) (hQ : QIp q) : PMp l yX5_faultKind cX5_faultKind 1 .int 0 0 0 G [.ref (ad 2 0)] L f (fun r => (r.toInt = kF)) := by
  refine PMi.of (post := fun r L1 f1 => ((r.toInt = kF)) ∧ L1 = L ∧ f1 = f) (own := RX5) (by decide) rfl (Nat.le_of_ble_eq_true rfl) (fun sz p e s m args below meth c A ls hA1 hname S Y hl => ?_)
  have hx := S.hx
  have hb := S.hb
  have hl : lv_has ls 1 [(0, .ref (ad 2 0))] := hl
  refine lv_aload_n hx hb dX5_faultKind_0 rfl (lv_at hl 0 rfl) ?_
  obtain ⟨v_40022, v_40024, v_40026, v_40028, v_40030, v_40032, v_40034, v_40036, v_40038, v_40040, p_ad_2_0, b_40023, b_40025, b_40027, b_40029, b_40031, b_40033, b_40035, b_40037, b_40039, b_40041⟩ := opnC_2 (j := 0) I (by decide)
  have p_ad_2_0 : pt L f (ad 2 0) (.inr (5, [.ref (ad 50 0), .ref (ad 51 0), .ref (ad 52 0), .ref (ad 53 0), .int v_40022, .int v_40024, .int v_40026, .int v_40028, .int v_40030, .int v_40032, .int v_40034, v_40036, .int v_40038, .int v_40040])) := p_ad_2_0
  have tv_40038 : v_40038.toInt = kF := lim_eq b_40039
  refine pg_get S Y ok_X5 12 (by decide) kf5_24 (v := .int v_40038) p_ad_2_0 rfl dX5_faultKind_1 ?_
  exact prI (post := fun r L1 f1 => ((r.toInt = kF)) ∧ L1 = L ∧ f1 = f) S Y rfl (by decide) (by decide) hA1 ⟨tv_40038, rfl, rfl⟩ dX5_faultKind_4
set_option maxHeartbeats 4000000 in
set_option maxRecDepth 100000 in
theorem x_X5_faultPlace {l : Launch} {G : GG}  {L : List Nat} {f : HF} {ad : Nat → Nat → Nat} {zL : Int × Int} {zC : Int × Int} {zR : Int × Int} {zK : Int × Int} {zP : Int × Int} {zV : Int × Int} {zW : Int × Int} {zF : Int × Int} {tT : (Nat → Int32) → Prop} {tU : (Nat → Int32) → Prop} {tP : (Nat → Int32) → Prop} {tV : (Nat → Int32) → Prop} {rf : FS} {sc : Nat → SG} {pF : Int} {fc : Int × Int} {tc w : Nat → Int × Int} {q : Nat → (Nat → Int32) → Prop} (I : SH (spC ((rf, fz zL zC zR zK zP zV zW zF (pp pF), tz tT tU tP tV, sc) : RS) fc tc w q) nnC G ad L f) (hW : WBp w 8) (hT : WBp tc 4) (hQ : QIp q) : PMp l yX5_faultPlace cX5_faultPlace 1 .int 0 0 0 G [.ref (ad 2 0)] L f (fun r => (r.toInt = pF)) := by
  refine PMi.of (post := fun r L1 f1 => ((r.toInt = pF)) ∧ L1 = L ∧ f1 = f) (own := RX5) (by decide) rfl (Nat.le_of_ble_eq_true rfl) (fun sz p e s m args below meth c A ls hA1 hname S Y hl => ?_)
  have hx := S.hx
  have hb := S.hb
  have hl : lv_has ls 1 [(0, .ref (ad 2 0))] := hl
  refine lv_aload_n hx hb dX5_faultPlace_0 rfl (lv_at hl 0 rfl) ?_
  obtain ⟨v_40082, v_40084, v_40086, v_40088, v_40090, v_40092, v_40094, v_40096, v_40098, v_40100, p_ad_2_0, b_40083, b_40085, b_40087, b_40089, b_40091, b_40093, b_40095, b_40097, b_40099, b_40101⟩ := opnC_2 (j := 0) I (by decide)
  have p_ad_2_0 : pt L f (ad 2 0) (.inr (5, [.ref (ad 50 0), .ref (ad 51 0), .ref (ad 52 0), .ref (ad 53 0), .int v_40082, .int v_40084, .int v_40086, .int v_40088, .int v_40090, .int v_40092, .int v_40094, v_40096, .int v_40098, .int v_40100])) := p_ad_2_0
  have tv_40100 : v_40100.toInt = pF := lim_eq b_40101
  refine pg_get S Y ok_X5 13 (by decide) kf5_28 (v := .int v_40100) p_ad_2_0 rfl dX5_faultPlace_1 ?_
  exact prI (post := fun r L1 f1 => ((r.toInt = pF)) ∧ L1 = L ∧ f1 = f) S Y rfl (by decide) (by decide) hA1 ⟨tv_40100, rfl, rfl⟩ dX5_faultPlace_4
set_option maxHeartbeats 4000000 in
set_option maxRecDepth 100000 in
theorem x_X5_hasRoomFor {l : Launch} {G : GG}  {L : List Nat} {f : HF} {ad : Nat → Nat → Nat} {zC : Int × Int} {zR : Int × Int} {zK : Int × Int} {zP : Int × Int} {zV : Int × Int} {zW : Int × Int} {zF : Int × Int} {zQ : Int × Int} {tT : (Nat → Int32) → Prop} {tU : (Nat → Int32) → Prop} {tP : (Nat → Int32) → Prop} {tV : (Nat → Int32) → Prop} {rf : FS} {sc : Nat → SG} {nL : Int} {fc : Int × Int} {tc w : Nat → Int × Int} {q : Nat → (Nat → Int32) → Prop} {i1 : Int32} (I : SH (spC ((rf, fz (pp nL) zC zR zK zP zV zW zF zQ, tz tT tU tP tV, sc) : RS) fc tc w q) nnC G ad L f) (hW : WBp w 8) (hT : WBp tc 4) (hQ : QIp q) (b_i1 : bn 20 20 i1) : PMp l yX5_hasRoomFor cX5_hasRoomFor 2 .boolean 0 0 0 G [.ref (ad 2 0), .int i1] L f (fun r => (bn 0 1 r ∧ (r = 1 ∧ nL + 20 ≤ 300 ∨ r = 0 ∧ ¬ nL + 20 ≤ 300))) := by
  refine PMi.of (post := fun r L1 f1 => ((bn 0 1 r ∧ (r = 1 ∧ nL + 20 ≤ 300 ∨ r = 0 ∧ ¬ nL + 20 ≤ 300))) ∧ L1 = L ∧ f1 = f) (own := RX5) (by decide) rfl (Nat.le_of_ble_eq_true rfl) (fun sz p e s m args below meth c A ls hA1 hname S Y hl => ?_)
  have hx := S.hx
  have hb := S.hb
  have hl : lv_has ls 2 [(0, .ref (ad 2 0)), (1, .int i1)] := hl
  refine lv_aload_n hx hb dX5_hasRoomFor_0 rfl (lv_at hl 0 rfl) ?_
  obtain ⟨v_40150, v_40152, v_40154, v_40156, v_40158, v_40160, v_40162, v_40164, v_40166, v_40168, p_ad_2_0, b_40151, b_40153, b_40155, b_40157, b_40159, b_40161, b_40163, b_40165, b_40167, b_40169⟩ := opnC_2 (j := 0) I (by decide)
  have p_ad_2_0 : pt L f (ad 2 0) (.inr (5, [.ref (ad 50 0), .ref (ad 51 0), .ref (ad 52 0), .ref (ad 53 0), .int v_40150, .int v_40152, .int v_40154, .int v_40156, .int v_40158, .int v_40160, .int v_40162, v_40164, .int v_40166, .int v_40168])) := p_ad_2_0
  have tv_40150 : v_40150.toInt = nL := lim_eq b_40151
  refine pg_get S Y ok_X5 4 (by decide) kf5_31 (v := .int v_40150) p_ad_2_0 rfl dX5_hasRoomFor_1 ?_
  refine lv_iload_n hx hb dX5_hasRoomFor_4 rfl (lv_at hl 1 rfl) ?_
  refine lv_iadd hx hb dX5_hasRoomFor_5 ?_
  refine lv_topi (fun x_40170 ex_40170 => ?_)
  refine lv_sipush (v := 300) hx hb dX5_hasRoomFor_6 (by decide) ?_
  refine lv_icmp_gt (tgt := 16) hx hb dX5_hasRoomFor_9 (by decide) (fun c_40171 => ?_) (fun c_40171 => ?_)
  · have B_40172 : bn 301 320 x_40170 := bn_w (bn_ltr c_40171 (show bn 300 300 (300 : Int32) from bn_k (by decide)) (bn_eq ex_40170 (bn_add (bn_w (a' := 0) (b' := 300) b_40151 (lim_b _ _ _)) b_i1 (by decide)))) (by decide)
    refine lv_iconst (v := 0) hx hb dX5_hasRoomFor_16 (by decide) ?_
    exact prI (post := fun r L1 f1 => ((bn 0 1 r ∧ (r = 1 ∧ nL + 20 ≤ 300 ∨ r = 0 ∧ ¬ nL + 20 ≤ 300))) ∧ L1 = L ∧ f1 = f) S Y rfl (by decide) (by decide) hA1 ⟨⟨bn_k (by decide), Or.inr ⟨rfl, (by have u0 := b_i1.1; have v0 := b_i1.2; have u1 := tv_40150; have u2 := (show 300 < x_40170.toInt from by have z9 := c_40171; rw [Int32.lt_iff_toInt_lt] at z9; exact z9); have u3 := (la_add ex_40170 tv_40150 (rfl : i1.toInt = i1.toInt) (bn_w (a' := 0) (b' := 300) b_40151 (lim_b _ _ _)) b_i1 (by decide)); omega)⟩⟩, rfl, rfl⟩ dX5_hasRoomFor_17
  · have B_40173 : bn 20 300 x_40170 := bn_w (bn_ger c_40171 (show bn 300 300 (300 : Int32) from bn_k (by decide)) (bn_eq ex_40170 (bn_add (bn_w (a' := 0) (b' := 300) b_40151 (lim_b _ _ _)) b_i1 (by decide)))) (by decide)
    refine lv_iconst (v := 1) hx hb dX5_hasRoomFor_12 (by decide) ?_
    refine lv_goto (tgt := 17) hx hb dX5_hasRoomFor_13 (by decide) ?_
    exact prI (post := fun r L1 f1 => ((bn 0 1 r ∧ (r = 1 ∧ nL + 20 ≤ 300 ∨ r = 0 ∧ ¬ nL + 20 ≤ 300))) ∧ L1 = L ∧ f1 = f) S Y rfl (by decide) (by decide) hA1 ⟨⟨bn_k (by decide), Or.inl ⟨rfl, (by have u0 := b_i1.1; have v0 := b_i1.2; have u1 := tv_40150; have u2 := (show x_40170.toInt ≤ 300 from by have z9 := (Int32.not_lt.mp c_40171); rw [Int32.le_iff_toInt_le] at z9; exact z9); have u3 := (la_add ex_40170 tv_40150 (rfl : i1.toInt = i1.toInt) (bn_w (a' := 0) (b' := 300) b_40151 (lim_b _ _ _)) b_i1 (by decide)); omega)⟩⟩, rfl, rfl⟩ dX5_hasRoomFor_17
set_option maxHeartbeats 4000000 in
set_option maxRecDepth 100000 in
theorem x_X5_append {l : Launch} {G : GG}  {L : List Nat} {f : HF} {ad : Nat → Nat → Nat} {zC : Int × Int} {zR : Int × Int} {zK : Int × Int} {zP : Int × Int} {zV : Int × Int} {zW : Int × Int} {zF : Int × Int} {zQ : Int × Int} {tU : (Nat → Int32) → Prop} {tP : (Nat → Int32) → Prop} {tV : (Nat → Int32) → Prop} {rf : FS} {sc : Nat → SG} {nL : Int} {bT : Nat → Int32} {fc : Int × Int} {tc w : Nat → Int × Int} {q : Nat → (Nat → Int32) → Prop} {i1 : Int32} (I : SH (spC ((rf, fz (pp nL) zC zR zK zP zV zW zF zQ, tz (EQ bT) tU tP tV, sc) : RS) fc tc w q) nnC G ad L f) (hW : WBp w 8) (hT : WBp tc 4) (hQ : QIp q) (hr : 0 ≤ nL ∧ nL ≤ 296) : PMv l yX5_append cX5_append 3 0 0 0 G [.ref (ad 2 0), .int i1] L f (fun L1 f1 => SH (spC ((rf, fz (pp (nL + 4)) zC zR zK zP zV zW zF zQ, tz (EQ (ap4 bT nL.toNat i1)) tU tP tV, sc) : RS) fc tc w q) nnC G ad L1 f1) := by
  refine PMv.of (post := fun L1 f1 => SH (spC ((rf, fz (pp (nL + 4)) zC zR zK zP zV zW zF zQ, tz (EQ (ap4 bT nL.toNat i1)) tU tP tV, sc) : RS) fc tc w q) nnC G ad L1 f1) (own := RX5) (by decide) rfl (Nat.le_of_ble_eq_true rfl) (fun sz p e s m args below meth c A ls hA1 hname S Y hl => ?_)
  have hx := S.hx
  have hb := S.hb
  have hl : lv_has ls 3 [(0, .ref (ad 2 0)), (1, .int i1)] := hl
  refine lv_bipush (v := 24) hx hb dX5_append_0 (by decide) ?_
  refine lv_istore_n (lv' := [(2, .int 24), (0, .ref (ad 2 0)), (1, .int i1)]) hx hb dX5_append_2 rfl hl (by decide) rfl (fun ls hl => ?_)
  refine lv_iload_n hx hb dX5_append_3 rfl (lv_at hl 0 rfl) ?_
  refine lv_if_lt (tgt := 49) hx hb dX5_append_4 (by decide) (fun h => absurd h (by decide)) (fun _ => ?_)
  refine lv_aload_n hx hb dX5_append_7 rfl (lv_at hl 1 rfl) ?_
  obtain ⟨v_40280, v_40282, v_40284, v_40286, v_40288, v_40290, v_40292, v_40294, v_40296, v_40298, p_ad_2_0, b_40281, b_40283, b_40285, b_40287, b_40289, b_40291, b_40293, b_40295, b_40297, b_40299⟩ := opnC_2 (j := 0) I (by decide)
  have p_ad_2_0 : pt L f (ad 2 0) (.inr (5, [.ref (ad 50 0), .ref (ad 51 0), .ref (ad 52 0), .ref (ad 53 0), .int v_40280, .int v_40282, .int v_40284, .int v_40286, .int v_40288, .int v_40290, .int v_40292, v_40294, .int v_40296, .int v_40298])) := p_ad_2_0
  have tv_40280 : v_40280.toInt = nL := lim_eq b_40281
  have B_40300 : bn 0 296 v_40280 := ⟨by have h9 := tv_40280; have h8 := hr; omega, by have h9 := tv_40280; have h8 := hr; omega⟩
  refine pg_get S Y ok_X5 4 (by decide) kf5_31 (v := .int v_40280) p_ad_2_0 rfl dX5_append_8 ?_
  refine lv_sipush (v := 300) hx hb dX5_append_11 (by decide) ?_
  refine lv_icmp_ge (tgt := 43) hx hb dX5_append_14 (by decide) (fun h => absurd h (bd_nle (show bn 300 300 (300 : Int32) from bn_k (by decide)) B_40300 (by decide))) (fun _ => ?_)
  refine lv_aload_n hx hb dX5_append_17 rfl (lv_at hl 1 rfl) ?_
  refine pg_get S Y ok_X5 0 (by decide) kf5_9 (v := .ref (ad 50 0)) p_ad_2_0 rfl dX5_append_18 ?_
  refine lv_aload_n hx hb dX5_append_21 rfl (lv_at hl 1 rfl) ?_
  refine pg_get S Y ok_X5 4 (by decide) kf5_31 (v := .int v_40280) p_ad_2_0 rfl dX5_append_22 ?_
  refine lv_iload_n hx hb dX5_append_25 rfl (lv_at hl 2 rfl) ?_
  refine lv_iload_n hx hb dX5_append_26 rfl (lv_at hl 0 rfl) ?_
  obtain ⟨x_40301, ex_40301⟩ : ∃ z : Int32, z = (i1.toUInt32 >>> ((24 : Int32).toUInt32 &&& Int32.toUInt32 31)).toInt32 := ⟨_, rfl⟩
  refine lv_iushr (v := x_40301) hx hb dX5_append_27 (ex_40301.symm) ?_
  refine lv_sipush (v := 255) hx hb dX5_append_28 (by decide) ?_
  refine lv_iand hx hb dX5_append_31 ?_
  refine lv_topi (fun x_40302 ex_40302 => ?_)
  obtain ⟨g_40303, p_ad_50_0, o_40304⟩ := I.opi (k := 50) (j := 0) (by decide) rfl
  have p_ad_50_0 : pt L f (ad 50 0) (.inl (G.2 0, 300, .inl g_40303)) := p_ad_50_0
  have o_40305 : (EQ bT) g_40303 := o_40304
  refine pg_iast S Y p_ad_50_0 (vp_bn B_40300 (by decide)) dX5_append_32 (fun f_40307 H locs ef_40307 Y => ?_)
  obtain ⟨g_40306, eg_40306⟩ : ∃ z, z = upd (g_40303) (v_40280 : Int32).toNatClampNeg x_40302 := ⟨_, rfl⟩
  rw [← eg_40306] at ef_40307
  have p_ad_2_0 := p_ad_2_0.up ef_40307 (I.ne (k := 2) (j := 0) (k' := 50) (j' := 0) (by decide) (by decide) (Or.inl (by decide)))
  have p_ad_50_0 := p_ad_50_0.me ef_40307
  have o_40308 : (EQ g_40306) g_40306 := rfl
  have I := I.upS (sp' := spC ((rf, fz (pp nL) zC zR zK zP zV zW zF zQ, tz (EQ g_40306) tU tP tV, sc) : RS) fc tc w q) (k := 50) (j := 0) (by decide) ef_40307 (okE_a (g := g_40306) o_40308) tz50C
  refine lv_aload_n hx hb dX5_append_33 rfl (lv_at hl 1 rfl) ?_
  refine lv_dup hx hb dX5_append_34 rfl ?_
  refine pg_get S Y ok_X5 4 (by decide) kf5_31 (v := .int v_40280) p_ad_2_0 rfl dX5_append_35 ?_
  refine lv_iconst (v := 1) hx hb dX5_append_38 (by decide) ?_
  refine lv_iadd hx hb dX5_append_39 ?_
  refine lv_topi (fun x_40309 ex_40309 => ?_)
  refine pg_put S Y ok_X5 4 (by decide) kf5_31 rfl (fs' := [.ref (ad 50 0), .ref (ad 51 0), .ref (ad 52 0), .ref (ad 53 0), .int x_40309, .int v_40282, .int v_40284, .int v_40286, .int v_40288, .int v_40290, .int v_40292, v_40294, .int v_40296, .int v_40298]) (v := .int x_40309) p_ad_2_0 rfl rfl rfl (Nat.le_of_ble_eq_true rfl) dX5_append_40 (fun f_40310 H locs ef_40310 Y => ?_)
  have p_ad_50_0 := p_ad_50_0.up ef_40310 (I.ne (k := 50) (j := 0) (k' := 2) (j' := 0) (by decide) (by decide) (Or.inl (by decide)))
  have p_ad_2_0 := p_ad_2_0.me ef_40310
  have I := I.upS (sp' := spC ((rf, fz (pp (nL + 1)) zC zR zK zP zV zW zF zQ, tz (EQ g_40306) tU tP tV, sc) : RS) fc tc w q) (k := 2) (j := 0) (by decide) ef_40310 (okE_o (okFs_c okV_r (okFs_c okV_r (okFs_c okV_r (okFs_c okV_r (okFs_c (okV_p (lim_mk (bn_w (bn_eq ex_40309 (bn_add B_40300 (show bn 1 1 (1 : Int32) from bn_k (by decide)) (by decide))) (by decide) : bn 0 300 x_40309) (la_add ex_40309 tv_40280 (show (1 : Int32).toInt = 1 from rfl) B_40300 (show bn 1 1 (1 : Int32) from bn_k (by decide)) (by decide)))) (okFs_c (okV_p b_40283) (okFs_c (okV_p b_40285) (okFs_c (okV_p b_40287) (okFs_c (okV_p b_40289) (okFs_c (okV_p b_40291) (okFs_c (okV_p b_40293) (okFs_c b_40295 (okFs_c (okV_p b_40297) (okFs_c (okV_p b_40299) okFs_n))))))))))))))) rsC
  refine lv_iinc (v := 16) (lv' := [(2, .int 16), (0, .ref (ad 2 0)), (1, .int i1)]) hx hb dX5_append_43 hl (k := 0) rfl (by decide) (by decide) rfl (fun ls hl => ?_)
  refine lv_goto (tgt := 3) hx hb dX5_append_46 (by decide) ?_
  refine lv_iload_n hx hb dX5_append_3 rfl (lv_at hl 0 rfl) ?_
  refine lv_if_lt (tgt := 49) hx hb dX5_append_4 (by decide) (fun h => absurd h (by decide)) (fun _ => ?_)
  refine lv_aload_n hx hb dX5_append_7 rfl (lv_at hl 1 rfl) ?_
  refine pg_get S Y ok_X5 4 (by decide) kf5_31 (v := .int x_40309) p_ad_2_0 rfl dX5_append_8 ?_
  refine lv_sipush (v := 300) hx hb dX5_append_11 (by decide) ?_
  refine lv_icmp_ge (tgt := 43) hx hb dX5_append_14 (by decide) (fun h => absurd h (bd_nle (show bn 300 300 (300 : Int32) from bn_k (by decide)) (bn_eq ex_40309 (bn_add B_40300 (show bn 1 1 (1 : Int32) from bn_k (by decide)) (by decide))) (by decide))) (fun _ => ?_)
  refine lv_aload_n hx hb dX5_append_17 rfl (lv_at hl 1 rfl) ?_
  refine pg_get S Y ok_X5 0 (by decide) kf5_9 (v := .ref (ad 50 0)) p_ad_2_0 rfl dX5_append_18 ?_
  refine lv_aload_n hx hb dX5_append_21 rfl (lv_at hl 1 rfl) ?_
  refine pg_get S Y ok_X5 4 (by decide) kf5_31 (v := .int x_40309) p_ad_2_0 rfl dX5_append_22 ?_
  refine lv_iload_n hx hb dX5_append_25 rfl (lv_at hl 2 rfl) ?_
  refine lv_iload_n hx hb dX5_append_26 rfl (lv_at hl 0 rfl) ?_
  obtain ⟨x_40311, ex_40311⟩ : ∃ z : Int32, z = (i1.toUInt32 >>> ((16 : Int32).toUInt32 &&& Int32.toUInt32 31)).toInt32 := ⟨_, rfl⟩
  refine lv_iushr (v := x_40311) hx hb dX5_append_27 (ex_40311.symm) ?_
  refine lv_sipush (v := 255) hx hb dX5_append_28 (by decide) ?_
  refine lv_iand hx hb dX5_append_31 ?_
  refine lv_topi (fun x_40312 ex_40312 => ?_)
  refine pg_iast S Y p_ad_50_0 (vp_bn (bn_eq ex_40309 (bn_add B_40300 (show bn 1 1 (1 : Int32) from bn_k (by decide)) (by decide))) (by decide)) dX5_append_32 (fun f_40314 H locs ef_40314 Y => ?_)
  obtain ⟨g_40313, eg_40313⟩ : ∃ z, z = upd (g_40306) (x_40309 : Int32).toNatClampNeg x_40312 := ⟨_, rfl⟩
  rw [← eg_40313] at ef_40314
  have p_ad_2_0 := p_ad_2_0.up ef_40314 (I.ne (k := 2) (j := 0) (k' := 50) (j' := 0) (by decide) (by decide) (Or.inl (by decide)))
  have p_ad_50_0 := p_ad_50_0.me ef_40314
  have o_40315 : (EQ g_40313) g_40313 := rfl
  have I := I.upS (sp' := spC ((rf, fz (pp (nL + 1)) zC zR zK zP zV zW zF zQ, tz (EQ g_40313) tU tP tV, sc) : RS) fc tc w q) (k := 50) (j := 0) (by decide) ef_40314 (okE_a (g := g_40313) o_40315) tz50C
  refine lv_aload_n hx hb dX5_append_33 rfl (lv_at hl 1 rfl) ?_
  refine lv_dup hx hb dX5_append_34 rfl ?_
  refine pg_get S Y ok_X5 4 (by decide) kf5_31 (v := .int x_40309) p_ad_2_0 rfl dX5_append_35 ?_
  refine lv_iconst (v := 1) hx hb dX5_append_38 (by decide) ?_
  refine lv_iadd hx hb dX5_append_39 ?_
  refine lv_topi (fun x_40316 ex_40316 => ?_)
  refine pg_put S Y ok_X5 4 (by decide) kf5_31 rfl (fs' := [.ref (ad 50 0), .ref (ad 51 0), .ref (ad 52 0), .ref (ad 53 0), .int x_40316, .int v_40282, .int v_40284, .int v_40286, .int v_40288, .int v_40290, .int v_40292, v_40294, .int v_40296, .int v_40298]) (v := .int x_40316) p_ad_2_0 rfl rfl rfl (Nat.le_of_ble_eq_true rfl) dX5_append_40 (fun f_40317 H locs ef_40317 Y => ?_)
  have p_ad_50_0 := p_ad_50_0.up ef_40317 (I.ne (k := 50) (j := 0) (k' := 2) (j' := 0) (by decide) (by decide) (Or.inl (by decide)))
  have p_ad_2_0 := p_ad_2_0.me ef_40317
  have I := I.upS (sp' := spC ((rf, fz (pp ((nL + 1) + 1)) zC zR zK zP zV zW zF zQ, tz (EQ g_40313) tU tP tV, sc) : RS) fc tc w q) (k := 2) (j := 0) (by decide) ef_40317 (okE_o (okFs_c okV_r (okFs_c okV_r (okFs_c okV_r (okFs_c okV_r (okFs_c (okV_p (lim_mk (bn_w (bn_eq ex_40316 (bn_add (bn_eq ex_40309 (bn_add B_40300 (show bn 1 1 (1 : Int32) from bn_k (by decide)) (by decide))) (show bn 1 1 (1 : Int32) from bn_k (by decide)) (by decide))) (by decide) : bn 0 300 x_40316) (la_add ex_40316 (la_add ex_40309 tv_40280 (show (1 : Int32).toInt = 1 from rfl) B_40300 (show bn 1 1 (1 : Int32) from bn_k (by decide)) (by decide)) (show (1 : Int32).toInt = 1 from rfl) (bn_eq ex_40309 (bn_add B_40300 (show bn 1 1 (1 : Int32) from bn_k (by decide)) (by decide))) (show bn 1 1 (1 : Int32) from bn_k (by decide)) (by decide)))) (okFs_c (okV_p b_40283) (okFs_c (okV_p b_40285) (okFs_c (okV_p b_40287) (okFs_c (okV_p b_40289) (okFs_c (okV_p b_40291) (okFs_c (okV_p b_40293) (okFs_c b_40295 (okFs_c (okV_p b_40297) (okFs_c (okV_p b_40299) okFs_n))))))))))))))) rsC
  refine lv_iinc (v := 8) (lv' := [(2, .int 8), (0, .ref (ad 2 0)), (1, .int i1)]) hx hb dX5_append_43 hl (k := 0) rfl (by decide) (by decide) rfl (fun ls hl => ?_)
  refine lv_goto (tgt := 3) hx hb dX5_append_46 (by decide) ?_
  refine lv_iload_n hx hb dX5_append_3 rfl (lv_at hl 0 rfl) ?_
  refine lv_if_lt (tgt := 49) hx hb dX5_append_4 (by decide) (fun h => absurd h (by decide)) (fun _ => ?_)
  refine lv_aload_n hx hb dX5_append_7 rfl (lv_at hl 1 rfl) ?_
  refine pg_get S Y ok_X5 4 (by decide) kf5_31 (v := .int x_40316) p_ad_2_0 rfl dX5_append_8 ?_
  refine lv_sipush (v := 300) hx hb dX5_append_11 (by decide) ?_
  refine lv_icmp_ge (tgt := 43) hx hb dX5_append_14 (by decide) (fun h => absurd h (bd_nle (show bn 300 300 (300 : Int32) from bn_k (by decide)) (bn_eq ex_40316 (bn_add (bn_eq ex_40309 (bn_add B_40300 (show bn 1 1 (1 : Int32) from bn_k (by decide)) (by decide))) (show bn 1 1 (1 : Int32) from bn_k (by decide)) (by decide))) (by decide))) (fun _ => ?_)
  refine lv_aload_n hx hb dX5_append_17 rfl (lv_at hl 1 rfl) ?_
  refine pg_get S Y ok_X5 0 (by decide) kf5_9 (v := .ref (ad 50 0)) p_ad_2_0 rfl dX5_append_18 ?_
  refine lv_aload_n hx hb dX5_append_21 rfl (lv_at hl 1 rfl) ?_
  refine pg_get S Y ok_X5 4 (by decide) kf5_31 (v := .int x_40316) p_ad_2_0 rfl dX5_append_22 ?_
  refine lv_iload_n hx hb dX5_append_25 rfl (lv_at hl 2 rfl) ?_
  refine lv_iload_n hx hb dX5_append_26 rfl (lv_at hl 0 rfl) ?_
  obtain ⟨x_40318, ex_40318⟩ : ∃ z : Int32, z = (i1.toUInt32 >>> ((8 : Int32).toUInt32 &&& Int32.toUInt32 31)).toInt32 := ⟨_, rfl⟩
  refine lv_iushr (v := x_40318) hx hb dX5_append_27 (ex_40318.symm) ?_
  refine lv_sipush (v := 255) hx hb dX5_append_28 (by decide) ?_
  refine lv_iand hx hb dX5_append_31 ?_
  refine lv_topi (fun x_40319 ex_40319 => ?_)
  refine pg_iast S Y p_ad_50_0 (vp_bn (bn_eq ex_40316 (bn_add (bn_eq ex_40309 (bn_add B_40300 (show bn 1 1 (1 : Int32) from bn_k (by decide)) (by decide))) (show bn 1 1 (1 : Int32) from bn_k (by decide)) (by decide))) (by decide)) dX5_append_32 (fun f_40321 H locs ef_40321 Y => ?_)
  obtain ⟨g_40320, eg_40320⟩ : ∃ z, z = upd (g_40313) (x_40316 : Int32).toNatClampNeg x_40319 := ⟨_, rfl⟩
  rw [← eg_40320] at ef_40321
  have p_ad_2_0 := p_ad_2_0.up ef_40321 (I.ne (k := 2) (j := 0) (k' := 50) (j' := 0) (by decide) (by decide) (Or.inl (by decide)))
  have p_ad_50_0 := p_ad_50_0.me ef_40321
  have o_40322 : (EQ g_40320) g_40320 := rfl
  have I := I.upS (sp' := spC ((rf, fz (pp ((nL + 1) + 1)) zC zR zK zP zV zW zF zQ, tz (EQ g_40320) tU tP tV, sc) : RS) fc tc w q) (k := 50) (j := 0) (by decide) ef_40321 (okE_a (g := g_40320) o_40322) tz50C
  refine lv_aload_n hx hb dX5_append_33 rfl (lv_at hl 1 rfl) ?_
  refine lv_dup hx hb dX5_append_34 rfl ?_
  refine pg_get S Y ok_X5 4 (by decide) kf5_31 (v := .int x_40316) p_ad_2_0 rfl dX5_append_35 ?_
  refine lv_iconst (v := 1) hx hb dX5_append_38 (by decide) ?_
  refine lv_iadd hx hb dX5_append_39 ?_
  refine lv_topi (fun x_40323 ex_40323 => ?_)
  refine pg_put S Y ok_X5 4 (by decide) kf5_31 rfl (fs' := [.ref (ad 50 0), .ref (ad 51 0), .ref (ad 52 0), .ref (ad 53 0), .int x_40323, .int v_40282, .int v_40284, .int v_40286, .int v_40288, .int v_40290, .int v_40292, v_40294, .int v_40296, .int v_40298]) (v := .int x_40323) p_ad_2_0 rfl rfl rfl (Nat.le_of_ble_eq_true rfl) dX5_append_40 (fun f_40324 H locs ef_40324 Y => ?_)
  have p_ad_50_0 := p_ad_50_0.up ef_40324 (I.ne (k := 50) (j := 0) (k' := 2) (j' := 0) (by decide) (by decide) (Or.inl (by decide)))
  have p_ad_2_0 := p_ad_2_0.me ef_40324
  have I := I.upS (sp' := spC ((rf, fz (pp (((nL + 1) + 1) + 1)) zC zR zK zP zV zW zF zQ, tz (EQ g_40320) tU tP tV, sc) : RS) fc tc w q) (k := 2) (j := 0) (by decide) ef_40324 (okE_o (okFs_c okV_r (okFs_c okV_r (okFs_c okV_r (okFs_c okV_r (okFs_c (okV_p (lim_mk (bn_w (bn_eq ex_40323 (bn_add (bn_eq ex_40316 (bn_add (bn_eq ex_40309 (bn_add B_40300 (show bn 1 1 (1 : Int32) from bn_k (by decide)) (by decide))) (show bn 1 1 (1 : Int32) from bn_k (by decide)) (by decide))) (show bn 1 1 (1 : Int32) from bn_k (by decide)) (by decide))) (by decide) : bn 0 300 x_40323) (la_add ex_40323 (la_add ex_40316 (la_add ex_40309 tv_40280 (show (1 : Int32).toInt = 1 from rfl) B_40300 (show bn 1 1 (1 : Int32) from bn_k (by decide)) (by decide)) (show (1 : Int32).toInt = 1 from rfl) (bn_eq ex_40309 (bn_add B_40300 (show bn 1 1 (1 : Int32) from bn_k (by decide)) (by decide))) (show bn 1 1 (1 : Int32) from bn_k (by decide)) (by decide)) (show (1 : Int32).toInt = 1 from rfl) (bn_eq ex_40316 (bn_add (bn_eq ex_40309 (bn_add B_40300 (show bn 1 1 (1 : Int32) from bn_k (by decide)) (by decide))) (show bn 1 1 (1 : Int32) from bn_k (by decide)) (by decide))) (show bn 1 1 (1 : Int32) from bn_k (by decide)) (by decide)))) (okFs_c (okV_p b_40283) (okFs_c (okV_p b_40285) (okFs_c (okV_p b_40287) (okFs_c (okV_p b_40289) (okFs_c (okV_p b_40291) (okFs_c (okV_p b_40293) (okFs_c b_40295 (okFs_c (okV_p b_40297) (okFs_c (okV_p b_40299) okFs_n))))))))))))))) rsC
  refine lv_iinc (v := 0) (lv' := [(2, .int 0), (0, .ref (ad 2 0)), (1, .int i1)]) hx hb dX5_append_43 hl (k := 0) rfl (by decide) (by decide) rfl (fun ls hl => ?_)
  refine lv_goto (tgt := 3) hx hb dX5_append_46 (by decide) ?_
  refine lv_iload_n hx hb dX5_append_3 rfl (lv_at hl 0 rfl) ?_
  refine lv_if_lt (tgt := 49) hx hb dX5_append_4 (by decide) (fun h => absurd h (by decide)) (fun _ => ?_)
  refine lv_aload_n hx hb dX5_append_7 rfl (lv_at hl 1 rfl) ?_
  refine pg_get S Y ok_X5 4 (by decide) kf5_31 (v := .int x_40323) p_ad_2_0 rfl dX5_append_8 ?_
  refine lv_sipush (v := 300) hx hb dX5_append_11 (by decide) ?_
  refine lv_icmp_ge (tgt := 43) hx hb dX5_append_14 (by decide) (fun h => absurd h (bd_nle (show bn 300 300 (300 : Int32) from bn_k (by decide)) (bn_eq ex_40323 (bn_add (bn_eq ex_40316 (bn_add (bn_eq ex_40309 (bn_add B_40300 (show bn 1 1 (1 : Int32) from bn_k (by decide)) (by decide))) (show bn 1 1 (1 : Int32) from bn_k (by decide)) (by decide))) (show bn 1 1 (1 : Int32) from bn_k (by decide)) (by decide))) (by decide))) (fun _ => ?_)
  refine lv_aload_n hx hb dX5_append_17 rfl (lv_at hl 1 rfl) ?_
  refine pg_get S Y ok_X5 0 (by decide) kf5_9 (v := .ref (ad 50 0)) p_ad_2_0 rfl dX5_append_18 ?_
  refine lv_aload_n hx hb dX5_append_21 rfl (lv_at hl 1 rfl) ?_
  refine pg_get S Y ok_X5 4 (by decide) kf5_31 (v := .int x_40323) p_ad_2_0 rfl dX5_append_22 ?_
  refine lv_iload_n hx hb dX5_append_25 rfl (lv_at hl 2 rfl) ?_
  refine lv_iload_n hx hb dX5_append_26 rfl (lv_at hl 0 rfl) ?_
  obtain ⟨x_40325, ex_40325⟩ : ∃ z : Int32, z = (i1.toUInt32 >>> ((0 : Int32).toUInt32 &&& Int32.toUInt32 31)).toInt32 := ⟨_, rfl⟩
  refine lv_iushr (v := x_40325) hx hb dX5_append_27 (ex_40325.symm) ?_
  refine lv_sipush (v := 255) hx hb dX5_append_28 (by decide) ?_
  refine lv_iand hx hb dX5_append_31 ?_
  refine lv_topi (fun x_40326 ex_40326 => ?_)
  refine pg_iast S Y p_ad_50_0 (vp_bn (bn_eq ex_40323 (bn_add (bn_eq ex_40316 (bn_add (bn_eq ex_40309 (bn_add B_40300 (show bn 1 1 (1 : Int32) from bn_k (by decide)) (by decide))) (show bn 1 1 (1 : Int32) from bn_k (by decide)) (by decide))) (show bn 1 1 (1 : Int32) from bn_k (by decide)) (by decide))) (by decide)) dX5_append_32 (fun f_40328 H locs ef_40328 Y => ?_)
  obtain ⟨g_40327, eg_40327⟩ : ∃ z, z = upd (g_40320) (x_40323 : Int32).toNatClampNeg x_40326 := ⟨_, rfl⟩
  rw [← eg_40327] at ef_40328
  have p_ad_2_0 := p_ad_2_0.up ef_40328 (I.ne (k := 2) (j := 0) (k' := 50) (j' := 0) (by decide) (by decide) (Or.inl (by decide)))
  have p_ad_50_0 := p_ad_50_0.me ef_40328
  have o_40329 : (EQ g_40327) g_40327 := rfl
  have I := I.upS (sp' := spC ((rf, fz (pp (((nL + 1) + 1) + 1)) zC zR zK zP zV zW zF zQ, tz (EQ g_40327) tU tP tV, sc) : RS) fc tc w q) (k := 50) (j := 0) (by decide) ef_40328 (okE_a (g := g_40327) o_40329) tz50C
  refine lv_aload_n hx hb dX5_append_33 rfl (lv_at hl 1 rfl) ?_
  refine lv_dup hx hb dX5_append_34 rfl ?_
  refine pg_get S Y ok_X5 4 (by decide) kf5_31 (v := .int x_40323) p_ad_2_0 rfl dX5_append_35 ?_
  refine lv_iconst (v := 1) hx hb dX5_append_38 (by decide) ?_
  refine lv_iadd hx hb dX5_append_39 ?_
  refine lv_topi (fun x_40330 ex_40330 => ?_)
  have B_40331 : bn 4 300 x_40330 := bn_w (bn_eq ex_40330 (bn_add (bn_eq ex_40323 (bn_add (bn_eq ex_40316 (bn_add (bn_eq ex_40309 (bn_add B_40300 (show bn 1 1 (1 : Int32) from bn_k (by decide)) (by decide))) (show bn 1 1 (1 : Int32) from bn_k (by decide)) (by decide))) (show bn 1 1 (1 : Int32) from bn_k (by decide)) (by decide))) (show bn 1 1 (1 : Int32) from bn_k (by decide)) (by decide))) (by decide)
  refine pg_put S Y ok_X5 4 (by decide) kf5_31 rfl (fs' := [.ref (ad 50 0), .ref (ad 51 0), .ref (ad 52 0), .ref (ad 53 0), .int x_40330, .int v_40282, .int v_40284, .int v_40286, .int v_40288, .int v_40290, .int v_40292, v_40294, .int v_40296, .int v_40298]) (v := .int x_40330) p_ad_2_0 rfl rfl rfl (Nat.le_of_ble_eq_true rfl) dX5_append_40 (fun f_40332 H locs ef_40332 Y => ?_)
  have p_ad_50_0 := p_ad_50_0.up ef_40332 (I.ne (k := 50) (j := 0) (k' := 2) (j' := 0) (by decide) (by decide) (Or.inl (by decide)))
  have p_ad_2_0 := p_ad_2_0.me ef_40332
  have I := I.upS (sp' := spC ((rf, fz (pp ((((nL + 1) + 1) + 1) + 1)) zC zR zK zP zV zW zF zQ, tz (EQ g_40327) tU tP tV, sc) : RS) fc tc w q) (k := 2) (j := 0) (by decide) ef_40332 (okE_o (okFs_c okV_r (okFs_c okV_r (okFs_c okV_r (okFs_c okV_r (okFs_c (okV_p (lim_mk (bn_w B_40331 (by decide) : bn 0 300 x_40330) (la_add ex_40330 (la_add ex_40323 (la_add ex_40316 (la_add ex_40309 tv_40280 (show (1 : Int32).toInt = 1 from rfl) B_40300 (show bn 1 1 (1 : Int32) from bn_k (by decide)) (by decide)) (show (1 : Int32).toInt = 1 from rfl) (bn_eq ex_40309 (bn_add B_40300 (show bn 1 1 (1 : Int32) from bn_k (by decide)) (by decide))) (show bn 1 1 (1 : Int32) from bn_k (by decide)) (by decide)) (show (1 : Int32).toInt = 1 from rfl) (bn_eq ex_40316 (bn_add (bn_eq ex_40309 (bn_add B_40300 (show bn 1 1 (1 : Int32) from bn_k (by decide)) (by decide))) (show bn 1 1 (1 : Int32) from bn_k (by decide)) (by decide))) (show bn 1 1 (1 : Int32) from bn_k (by decide)) (by decide)) (show (1 : Int32).toInt = 1 from rfl) (bn_eq ex_40323 (bn_add (bn_eq ex_40316 (bn_add (bn_eq ex_40309 (bn_add B_40300 (show bn 1 1 (1 : Int32) from bn_k (by decide)) (by decide))) (show bn 1 1 (1 : Int32) from bn_k (by decide)) (by decide))) (show bn 1 1 (1 : Int32) from bn_k (by decide)) (by decide))) (show bn 1 1 (1 : Int32) from bn_k (by decide)) (by decide)))) (okFs_c (okV_p b_40283) (okFs_c (okV_p b_40285) (okFs_c (okV_p b_40287) (okFs_c (okV_p b_40289) (okFs_c (okV_p b_40291) (okFs_c (okV_p b_40293) (okFs_c b_40295 (okFs_c (okV_p b_40297) (okFs_c (okV_p b_40299) okFs_n))))))))))))))) rsC
  refine lv_iinc (v := (-8)) (lv' := [(2, .int (-8)), (0, .ref (ad 2 0)), (1, .int i1)]) hx hb dX5_append_43 hl (k := 0) rfl (by decide) (by decide) rfl (fun ls hl => ?_)
  refine lv_goto (tgt := 3) hx hb dX5_append_46 (by decide) ?_
  refine lv_iload_n hx hb dX5_append_3 rfl (lv_at hl 0 rfl) ?_
  refine lv_if_lt (tgt := 49) hx hb dX5_append_4 (by decide) (fun _ => ?_) (fun h => absurd (by decide) h)
  exact prV (post := fun L1 f1 => SH (spC ((rf, fz (pp (nL + 4)) zC zR zK zP zV zW zF zQ, tz (EQ (ap4 bT nL.toNat i1)) tU tP tV, sc) : RS) fc tc w q) nnC G ad L1 f1) S Y (by decide) (by decide) hA1 (SHe I (by rw [show nL + 1 + 1 + 1 + 1 = nL + 4 from by omega, show g_40327 = ap4 bT nL.toNat i1 from (by rw [eg_40327, eg_40320, eg_40313, eg_40306, show g_40303 = bT from o_40305, show (v_40280 : Int32).toNatClampNeg = nL.toNat from (by have z9 := tv_40280; have z8 := hr.1; show v_40280.toInt.toNat = _; omega), show (x_40309 : Int32).toNatClampNeg = nL.toNat + 1 from (by have z9 := (la_add ex_40309 tv_40280 (show (1 : Int32).toInt = 1 from rfl) B_40300 (show bn 1 1 (1 : Int32) from bn_k (by decide)) (by decide)); have z8 := hr.1; show x_40309.toInt.toNat = _; omega), show (x_40316 : Int32).toNatClampNeg = nL.toNat + 2 from (by have z9 := (la_add ex_40316 (la_add ex_40309 tv_40280 (show (1 : Int32).toInt = 1 from rfl) B_40300 (show bn 1 1 (1 : Int32) from bn_k (by decide)) (by decide)) (show (1 : Int32).toInt = 1 from rfl) (bn_eq ex_40309 (bn_add B_40300 (show bn 1 1 (1 : Int32) from bn_k (by decide)) (by decide))) (show bn 1 1 (1 : Int32) from bn_k (by decide)) (by decide)); have z8 := hr.1; show x_40316.toInt.toNat = _; omega), show (x_40323 : Int32).toNatClampNeg = nL.toNat + 3 from (by have z9 := (la_add ex_40323 (la_add ex_40316 (la_add ex_40309 tv_40280 (show (1 : Int32).toInt = 1 from rfl) B_40300 (show bn 1 1 (1 : Int32) from bn_k (by decide)) (by decide)) (show (1 : Int32).toInt = 1 from rfl) (bn_eq ex_40309 (bn_add B_40300 (show bn 1 1 (1 : Int32) from bn_k (by decide)) (by decide))) (show bn 1 1 (1 : Int32) from bn_k (by decide)) (by decide)) (show (1 : Int32).toInt = 1 from rfl) (bn_eq ex_40316 (bn_add (bn_eq ex_40309 (bn_add B_40300 (show bn 1 1 (1 : Int32) from bn_k (by decide)) (by decide))) (show bn 1 1 (1 : Int32) from bn_k (by decide)) (by decide))) (show bn 1 1 (1 : Int32) from bn_k (by decide)) (by decide)); have z8 := hr.1; show x_40323.toInt.toNat = _; omega), ex_40302, ex_40301, ex_40312, ex_40311, ex_40319, ex_40318, ex_40326, ex_40325]; rfl)])) dX5_append_49
set_option maxHeartbeats 4000000 in
set_option maxRecDepth 100000 in
theorem x_X5_cutTo {l : Launch} {G : GG}  {L : List Nat} {f : HF} {ad : Nat → Nat → Nat} {zC : Int × Int} {zR : Int × Int} {zK : Int × Int} {zP : Int × Int} {zV : Int × Int} {zW : Int × Int} {zF : Int × Int} {zQ : Int × Int} {tT : (Nat → Int32) → Prop} {tU : (Nat → Int32) → Prop} {tP : (Nat → Int32) → Prop} {tV : (Nat → Int32) → Prop} {rf : FS} {sc : Nat → SG} {nL : Int} {fc : Int × Int} {tc w : Nat → Int × Int} {q : Nat → (Nat → Int32) → Prop} {i1 : Int32} (I : SH (spC ((rf, fz (pp nL) zC zR zK zP zV zW zF zQ, tz tT tU tP tV, sc) : RS) fc tc w q) nnC G ad L f) (hW : WBp w 8) (hT : WBp tc 4) (hQ : QIp q) : PMi l yX5_cutTo cX5_cutTo 2 .boolean 0 0 0 G [.ref (ad 2 0), .int i1] L f (fun r L1 f1 => (bn 0 1 r ∧ (r = 1 ∧ (0 ≤ i1.toInt ∧ i1.toInt ≤ nL) ∨ r = 0 ∧ ¬ (0 ≤ i1.toInt ∧ i1.toInt ≤ nL))) ∧ SH (spC ((rf, fz (pp (cuL nL i1.toInt)) zC zR zK zP zV zW zF zQ, tz tT tU tP tV, sc) : RS) fc tc w q) nnC G ad L1 f1) := by
  refine PMi.of (post := fun r L1 f1 => (bn 0 1 r ∧ (r = 1 ∧ (0 ≤ i1.toInt ∧ i1.toInt ≤ nL) ∨ r = 0 ∧ ¬ (0 ≤ i1.toInt ∧ i1.toInt ≤ nL))) ∧ SH (spC ((rf, fz (pp (cuL nL i1.toInt)) zC zR zK zP zV zW zF zQ, tz tT tU tP tV, sc) : RS) fc tc w q) nnC G ad L1 f1) (own := RX5) (by decide) rfl (Nat.le_of_ble_eq_true rfl) (fun sz p e s m args below meth c A ls hA1 hname S Y hl => ?_)
  have hx := S.hx
  have hb := S.hb
  have hl : lv_has ls 2 [(0, .ref (ad 2 0)), (1, .int i1)] := hl
  refine lv_iload_n hx hb dX5_cutTo_0 rfl (lv_at hl 1 rfl) ?_
  refine lv_if_lt (tgt := 12) hx hb dX5_cutTo_1 (by decide) (fun c_40387 => ?_) (fun c_40387 => ?_)
  · have B_40388 : bn (-2147483648) (-1) i1 := bn_w (bn_ltl c_40387 (bn_any i1) (show bn 0 0 (0 : Int32) from bn_k (by decide))) (by decide)
    refine lv_iconst (v := 0) hx hb dX5_cutTo_12 (by decide) ?_
    exact prI (post := fun r L1 f1 => (bn 0 1 r ∧ (r = 1 ∧ (0 ≤ i1.toInt ∧ i1.toInt ≤ nL) ∨ r = 0 ∧ ¬ (0 ≤ i1.toInt ∧ i1.toInt ≤ nL))) ∧ SH (spC ((rf, fz (pp (cuL nL i1.toInt)) zC zR zK zP zV zW zF zQ, tz tT tU tP tV, sc) : RS) fc tc w q) nnC G ad L1 f1) S Y rfl (by decide) (by decide) hA1 ⟨⟨bn_k (by decide), Or.inr ⟨rfl, (by have u1 := (show i1.toInt < 0 from by have z9 := c_40387; rw [Int32.lt_iff_toInt_lt] at z9; exact z9); omega)⟩⟩, (SHe I (by rw [show cuL nL i1.toInt = nL from if_neg (by have u1 := (show i1.toInt < 0 from by have z9 := c_40387; rw [Int32.lt_iff_toInt_lt] at z9; exact z9); omega)]))⟩ dX5_cutTo_13
  · have B_40389 : bn 0 2147483647 i1 := bn_w (bn_gel c_40387 (bn_any i1) (show bn 0 0 (0 : Int32) from bn_k (by decide))) (by decide)
    refine lv_iload_n hx hb dX5_cutTo_4 rfl (lv_at hl 1 rfl) ?_
    refine lv_aload_n hx hb dX5_cutTo_5 rfl (lv_at hl 0 rfl) ?_
    obtain ⟨v_40390, v_40392, v_40394, v_40396, v_40398, v_40400, v_40402, v_40404, v_40406, v_40408, p_ad_2_0, b_40391, b_40393, b_40395, b_40397, b_40399, b_40401, b_40403, b_40405, b_40407, b_40409⟩ := opnC_2 (j := 0) I (by decide)
    have p_ad_2_0 : pt L f (ad 2 0) (.inr (5, [.ref (ad 50 0), .ref (ad 51 0), .ref (ad 52 0), .ref (ad 53 0), .int v_40390, .int v_40392, .int v_40394, .int v_40396, .int v_40398, .int v_40400, .int v_40402, v_40404, .int v_40406, .int v_40408])) := p_ad_2_0
    have tv_40390 : v_40390.toInt = nL := lim_eq b_40391
    refine pg_get S Y ok_X5 4 (by decide) kf5_31 (v := .int v_40390) p_ad_2_0 rfl dX5_cutTo_6 ?_
    refine lv_icmp_le (tgt := 14) hx hb dX5_cutTo_9 (by decide) (fun c_40410 => ?_) (fun c_40410 => ?_)
    · have B_40411 : bn 0 300 i1 := bn_w (bn_lel c_40410 B_40389 (bn_w (a' := 0) (b' := 300) b_40391 (lim_b _ _ _))) (by decide)
      refine lv_aload_n hx hb dX5_cutTo_14 rfl (lv_at hl 0 rfl) ?_
      refine lv_iload_n hx hb dX5_cutTo_15 rfl (lv_at hl 1 rfl) ?_
      refine pg_put S Y ok_X5 4 (by decide) kf5_31 rfl (fs' := [.ref (ad 50 0), .ref (ad 51 0), .ref (ad 52 0), .ref (ad 53 0), .int i1, .int v_40392, .int v_40394, .int v_40396, .int v_40398, .int v_40400, .int v_40402, v_40404, .int v_40406, .int v_40408]) (v := .int i1) p_ad_2_0 rfl rfl rfl (Nat.le_of_ble_eq_true rfl) dX5_cutTo_16 (fun f_40413 H locs ef_40413 Y => ?_)
      have p_ad_2_0 := p_ad_2_0.me ef_40413
      have I := I.upS (sp' := spC ((rf, fz (pp i1.toInt) zC zR zK zP zV zW zF zQ, tz tT tU tP tV, sc) : RS) fc tc w q) (k := 2) (j := 0) (by decide) ef_40413 (okE_o (okFs_c okV_r (okFs_c okV_r (okFs_c okV_r (okFs_c okV_r (okFs_c (okV_p (lim_mk (bn_w B_40411 (by decide) : bn 0 300 i1) (rfl : i1.toInt = i1.toInt))) (okFs_c (okV_p b_40393) (okFs_c (okV_p b_40395) (okFs_c (okV_p b_40397) (okFs_c (okV_p b_40399) (okFs_c (okV_p b_40401) (okFs_c (okV_p b_40403) (okFs_c b_40405 (okFs_c (okV_p b_40407) (okFs_c (okV_p b_40409) okFs_n))))))))))))))) rsC
      refine lv_iconst (v := 1) hx hb dX5_cutTo_19 (by decide) ?_
      exact prI (post := fun r L1 f1 => (bn 0 1 r ∧ (r = 1 ∧ (0 ≤ i1.toInt ∧ i1.toInt ≤ nL) ∨ r = 0 ∧ ¬ (0 ≤ i1.toInt ∧ i1.toInt ≤ nL))) ∧ SH (spC ((rf, fz (pp (cuL nL i1.toInt)) zC zR zK zP zV zW zF zQ, tz tT tU tP tV, sc) : RS) fc tc w q) nnC G ad L1 f1) S Y rfl (by decide) (by decide) hA1 ⟨⟨bn_k (by decide), Or.inl ⟨rfl, (by have u1 := tv_40390; have u2 := (show 0 ≤ i1.toInt from by have z9 := (Int32.not_lt.mp c_40387); rw [Int32.le_iff_toInt_le] at z9; exact z9); have u3 := (show i1.toInt ≤ v_40390.toInt from by have z9 := c_40410; rw [Int32.le_iff_toInt_le] at z9; exact z9); omega)⟩⟩, (SHe I (by rw [show cuL nL i1.toInt = i1.toInt from if_pos (by have u1 := tv_40390; have u2 := (show 0 ≤ i1.toInt from by have z9 := (Int32.not_lt.mp c_40387); rw [Int32.le_iff_toInt_le] at z9; exact z9); have u3 := (show i1.toInt ≤ v_40390.toInt from by have z9 := c_40410; rw [Int32.le_iff_toInt_le] at z9; exact z9); omega)]))⟩ dX5_cutTo_20
    · have B_40412 : bn 1 2147483647 i1 := bn_w (bn_gtl c_40410 B_40389 (bn_w (a' := 0) (b' := 300) b_40391 (lim_b _ _ _))) (by decide)
      refine lv_iconst (v := 0) hx hb dX5_cutTo_12 (by decide) ?_
      exact prI (post := fun r L1 f1 => (bn 0 1 r ∧ (r = 1 ∧ (0 ≤ i1.toInt ∧ i1.toInt ≤ nL) ∨ r = 0 ∧ ¬ (0 ≤ i1.toInt ∧ i1.toInt ≤ nL))) ∧ SH (spC ((rf, fz (pp (cuL nL i1.toInt)) zC zR zK zP zV zW zF zQ, tz tT tU tP tV, sc) : RS) fc tc w q) nnC G ad L1 f1) S Y rfl (by decide) (by decide) hA1 ⟨⟨bn_k (by decide), Or.inr ⟨rfl, (by have u1 := tv_40390; have u2 := (show 0 ≤ i1.toInt from by have z9 := (Int32.not_lt.mp c_40387); rw [Int32.le_iff_toInt_le] at z9; exact z9); have u3 := (show v_40390.toInt < i1.toInt from by have z9 := (Int32.not_le.mp c_40410); rw [Int32.lt_iff_toInt_lt] at z9; exact z9); omega)⟩⟩, (SHe I (by rw [show cuL nL i1.toInt = nL from if_neg (by have u1 := tv_40390; have u2 := (show 0 ≤ i1.toInt from by have z9 := (Int32.not_lt.mp c_40387); rw [Int32.le_iff_toInt_le] at z9; exact z9); have u3 := (show v_40390.toInt < i1.toInt from by have z9 := (Int32.not_le.mp c_40410); rw [Int32.lt_iff_toInt_lt] at z9; exact z9); omega)]))⟩ dX5_cutTo_13
set_option maxHeartbeats 4000000 in
set_option maxRecDepth 100000 in
theorem x_X5_byteAt {l : Launch} {G : GG}  {L : List Nat} {f : HF} {ad : Nat → Nat → Nat} {zC : Int × Int} {zR : Int × Int} {zK : Int × Int} {zP : Int × Int} {zV : Int × Int} {zW : Int × Int} {zF : Int × Int} {zQ : Int × Int} {tU : (Nat → Int32) → Prop} {tP : (Nat → Int32) → Prop} {tV : (Nat → Int32) → Prop} {rf : FS} {sc : Nat → SG} {nL : Int} {bT : Nat → Int32} {fc : Int × Int} {tc w : Nat → Int × Int} {q : Nat → (Nat → Int32) → Prop} {i1 : Int32} (I : SH (spC ((rf, fz (pp nL) zC zR zK zP zV zW zF zQ, tz (EQ bT) tU tP tV, sc) : RS) fc tc w q) nnC G ad L f) (hW : WBp w 8) (hT : WBp tc 4) (hQ : QIp q) : PMp l yX5_byteAt cX5_byteAt 2 .int 0 0 0 G [.ref (ad 2 0), .int i1] L f (fun r => (r = byA bT nL i1)) := by
  refine PMi.of (post := fun r L1 f1 => ((r = byA bT nL i1)) ∧ L1 = L ∧ f1 = f) (own := RX5) (by decide) rfl (Nat.le_of_ble_eq_true rfl) (fun sz p e s m args below meth c A ls hA1 hname S Y hl => ?_)
  have hx := S.hx
  have hb := S.hb
  have hl : lv_has ls 2 [(0, .ref (ad 2 0)), (1, .int i1)] := hl
  refine lv_iload_n hx hb dX5_byteAt_0 rfl (lv_at hl 1 rfl) ?_
  refine lv_if_lt (tgt := 21) hx hb dX5_byteAt_1 (by decide) (fun c_40474 => ?_) (fun c_40474 => ?_)
  · have B_40475 : bn (-2147483648) (-1) i1 := bn_w (bn_ltl c_40474 (bn_any i1) (show bn 0 0 (0 : Int32) from bn_k (by decide))) (by decide)
    refine lv_iconst (v := (-1)) hx hb dX5_byteAt_21 (by decide) ?_
    exact prI (post := fun r L1 f1 => ((r = byA bT nL i1)) ∧ L1 = L ∧ f1 = f) S Y rfl (by decide) (by decide) hA1 ⟨(if_neg (by have u1 := (show i1.toInt < 0 from by have z9 := c_40474; rw [Int32.lt_iff_toInt_lt] at z9; exact z9); omega)).symm, rfl, rfl⟩ dX5_byteAt_22
  · have B_40476 : bn 0 2147483647 i1 := bn_w (bn_gel c_40474 (bn_any i1) (show bn 0 0 (0 : Int32) from bn_k (by decide))) (by decide)
    refine lv_iload_n hx hb dX5_byteAt_4 rfl (lv_at hl 1 rfl) ?_
    refine lv_aload_n hx hb dX5_byteAt_5 rfl (lv_at hl 0 rfl) ?_
    obtain ⟨v_40477, v_40479, v_40481, v_40483, v_40485, v_40487, v_40489, v_40491, v_40493, v_40495, p_ad_2_0, b_40478, b_40480, b_40482, b_40484, b_40486, b_40488, b_40490, b_40492, b_40494, b_40496⟩ := opnC_2 (j := 0) I (by decide)
    have p_ad_2_0 : pt L f (ad 2 0) (.inr (5, [.ref (ad 50 0), .ref (ad 51 0), .ref (ad 52 0), .ref (ad 53 0), .int v_40477, .int v_40479, .int v_40481, .int v_40483, .int v_40485, .int v_40487, .int v_40489, v_40491, .int v_40493, .int v_40495])) := p_ad_2_0
    have tv_40477 : v_40477.toInt = nL := lim_eq b_40478
    refine pg_get S Y ok_X5 4 (by decide) kf5_31 (v := .int v_40477) p_ad_2_0 rfl dX5_byteAt_6 ?_
    refine lv_icmp_ge (tgt := 21) hx hb dX5_byteAt_9 (by decide) (fun c_40497 => ?_) (fun c_40497 => ?_)
    · refine lv_iconst (v := (-1)) hx hb dX5_byteAt_21 (by decide) ?_
      exact prI (post := fun r L1 f1 => ((r = byA bT nL i1)) ∧ L1 = L ∧ f1 = f) S Y rfl (by decide) (by decide) hA1 ⟨(if_neg (by have u1 := tv_40477; have u2 := (show 0 ≤ i1.toInt from by have z9 := (Int32.not_lt.mp c_40474); rw [Int32.le_iff_toInt_le] at z9; exact z9); have u3 := (show v_40477.toInt ≤ i1.toInt from by have z9 := c_40497; rw [Int32.le_iff_toInt_le] at z9; exact z9); omega)).symm, rfl, rfl⟩ dX5_byteAt_22
    · have B_40498 : bn 1 300 v_40477 := bn_w (bn_gtl c_40497 (bn_w (a' := 0) (b' := 300) b_40478 (lim_b _ _ _)) B_40476) (by decide)
      have B_40499 : bn 0 299 i1 := bn_w (bn_gtr c_40497 (bn_w (a' := 0) (b' := 300) b_40478 (lim_b _ _ _)) B_40476) (by decide)
      refine lv_aload_n hx hb dX5_byteAt_12 rfl (lv_at hl 0 rfl) ?_
      refine pg_get S Y ok_X5 0 (by decide) kf5_9 (v := .ref (ad 50 0)) p_ad_2_0 rfl dX5_byteAt_13 ?_
      refine lv_iload_n hx hb dX5_byteAt_16 rfl (lv_at hl 1 rfl) ?_
      obtain ⟨g_40500, p_ad_50_0, o_40501⟩ := I.opi (k := 50) (j := 0) (by decide) rfl
      have p_ad_50_0 : pt L f (ad 50 0) (.inl (G.2 0, 300, .inl g_40500)) := p_ad_50_0
      have o_40502 : (EQ bT) g_40500 := o_40501
      obtain ⟨v_40503, ev_40503⟩ : ∃ z, z = g_40500 (i1 : Int32).toNatClampNeg := ⟨_, rfl⟩
      refine pg_iald S Y (v := v_40503) p_ad_50_0 (vp_bn B_40499 (by decide)) ev_40503.symm dX5_byteAt_17 ?_
      refine lv_goto (tgt := 22) hx hb dX5_byteAt_18 (by decide) ?_
      exact prI (post := fun r L1 f1 => ((r = byA bT nL i1)) ∧ L1 = L ∧ f1 = f) S Y rfl (by decide) (by decide) hA1 ⟨((show v_40503 = bT i1.toInt.toNat from by rw [ev_40503, show g_40500 = bT from o_40502]; rfl).trans (if_pos (by have u1 := tv_40477; have u2 := (show 0 ≤ i1.toInt from by have z9 := (Int32.not_lt.mp c_40474); rw [Int32.le_iff_toInt_le] at z9; exact z9); have u3 := (show i1.toInt < v_40477.toInt from by have z9 := (Int32.not_le.mp c_40497); rw [Int32.lt_iff_toInt_lt] at z9; exact z9); omega)).symm), rfl, rfl⟩ dX5_byteAt_22
set_option maxHeartbeats 4000000 in
set_option maxRecDepth 100000 in
theorem x_X5_isLetter {l : Launch} {G : GG}  {L : List Nat} {f : HF}  {i1 : Int32}  : PMp l yX5_isLetter cX5_isLetter 1 .boolean 0 0 0 G [.int i1] L f (fun r => (bn 0 1 r ∧ (r = 1 ∧ isLt i1.toInt ∨ r = 0 ∧ ¬ isLt i1.toInt))) := by
  refine PMi.of (post := fun r L1 f1 => ((bn 0 1 r ∧ (r = 1 ∧ isLt i1.toInt ∨ r = 0 ∧ ¬ isLt i1.toInt))) ∧ L1 = L ∧ f1 = f) (own := RX5) (by decide) rfl (Nat.le_of_ble_eq_true rfl) (fun sz p e s m args below meth c A ls hA1 hname S Y hl => ?_)
  have hx := S.hx
  have hb := S.hb
  have hl : lv_has ls 1 [(0, .int i1)] := hl
  refine lv_iload_n hx hb dX5_isLetter_0 rfl (lv_at hl 0 rfl) ?_
  refine lv_bipush (v := 97) hx hb dX5_isLetter_1 (by decide) ?_
  refine lv_icmp_lt (tgt := 12) hx hb dX5_isLetter_3 (by decide) (fun c_40528 => ?_) (fun c_40528 => ?_)
  · have B_40529 : bn (-2147483648) 96 i1 := bn_w (bn_ltl c_40528 (bn_any i1) (show bn 97 97 (97 : Int32) from bn_k (by decide))) (by decide)
    refine lv_iload_n hx hb dX5_isLetter_12 rfl (lv_at hl 0 rfl) ?_
    refine lv_bipush (v := 65) hx hb dX5_isLetter_13 (by decide) ?_
    refine lv_icmp_lt (tgt := 28) hx hb dX5_isLetter_15 (by decide) (fun c_40531 => ?_) (fun c_40531 => ?_)
    · have B_40532 : bn (-2147483648) 64 i1 := bn_w (bn_ltl c_40531 B_40529 (show bn 65 65 (65 : Int32) from bn_k (by decide))) (by decide)
      refine lv_iconst (v := 0) hx hb dX5_isLetter_28 (by decide) ?_
      exact prI (post := fun r L1 f1 => ((bn 0 1 r ∧ (r = 1 ∧ isLt i1.toInt ∨ r = 0 ∧ ¬ isLt i1.toInt))) ∧ L1 = L ∧ f1 = f) S Y rfl (by decide) (by decide) hA1 ⟨⟨bn_k (by decide), Or.inr ⟨rfl, (by have u1 := (show i1.toInt < 97 from by have z9 := c_40528; rw [Int32.lt_iff_toInt_lt] at z9; exact z9); have u2 := (show i1.toInt < 65 from by have z9 := c_40531; rw [Int32.lt_iff_toInt_lt] at z9; exact z9); unfold isLt; omega)⟩⟩, rfl, rfl⟩ dX5_isLetter_29
    · have B_40533 : bn 65 96 i1 := bn_w (bn_gel c_40531 B_40529 (show bn 65 65 (65 : Int32) from bn_k (by decide))) (by decide)
      refine lv_iload_n hx hb dX5_isLetter_18 rfl (lv_at hl 0 rfl) ?_
      refine lv_bipush (v := 90) hx hb dX5_isLetter_19 (by decide) ?_
      refine lv_icmp_gt (tgt := 28) hx hb dX5_isLetter_21 (by decide) (fun c_40534 => ?_) (fun c_40534 => ?_)
      · have B_40535 : bn 91 96 i1 := bn_w (bn_ltr c_40534 (show bn 90 90 (90 : Int32) from bn_k (by decide)) B_40533) (by decide)
        refine lv_iconst (v := 0) hx hb dX5_isLetter_28 (by decide) ?_
        exact prI (post := fun r L1 f1 => ((bn 0 1 r ∧ (r = 1 ∧ isLt i1.toInt ∨ r = 0 ∧ ¬ isLt i1.toInt))) ∧ L1 = L ∧ f1 = f) S Y rfl (by decide) (by decide) hA1 ⟨⟨bn_k (by decide), Or.inr ⟨rfl, (by have u1 := (show i1.toInt < 97 from by have z9 := c_40528; rw [Int32.lt_iff_toInt_lt] at z9; exact z9); have u2 := (show 65 ≤ i1.toInt from by have z9 := (Int32.not_lt.mp c_40531); rw [Int32.le_iff_toInt_le] at z9; exact z9); have u3 := (show 90 < i1.toInt from by have z9 := c_40534; rw [Int32.lt_iff_toInt_lt] at z9; exact z9); unfold isLt; omega)⟩⟩, rfl, rfl⟩ dX5_isLetter_29
      · have B_40536 : bn 65 90 i1 := bn_w (bn_ger c_40534 (show bn 90 90 (90 : Int32) from bn_k (by decide)) B_40533) (by decide)
        refine lv_iconst (v := 1) hx hb dX5_isLetter_24 (by decide) ?_
        refine lv_goto (tgt := 29) hx hb dX5_isLetter_25 (by decide) ?_
        exact prI (post := fun r L1 f1 => ((bn 0 1 r ∧ (r = 1 ∧ isLt i1.toInt ∨ r = 0 ∧ ¬ isLt i1.toInt))) ∧ L1 = L ∧ f1 = f) S Y rfl (by decide) (by decide) hA1 ⟨⟨bn_k (by decide), Or.inl ⟨rfl, (by have u1 := (show i1.toInt < 97 from by have z9 := c_40528; rw [Int32.lt_iff_toInt_lt] at z9; exact z9); have u2 := (show 65 ≤ i1.toInt from by have z9 := (Int32.not_lt.mp c_40531); rw [Int32.le_iff_toInt_le] at z9; exact z9); have u3 := (show i1.toInt ≤ 90 from by have z9 := (Int32.not_lt.mp c_40534); rw [Int32.le_iff_toInt_le] at z9; exact z9); unfold isLt; omega)⟩⟩, rfl, rfl⟩ dX5_isLetter_29
  · have B_40530 : bn 97 2147483647 i1 := bn_w (bn_gel c_40528 (bn_any i1) (show bn 97 97 (97 : Int32) from bn_k (by decide))) (by decide)
    refine lv_iload_n hx hb dX5_isLetter_6 rfl (lv_at hl 0 rfl) ?_
    refine lv_bipush (v := 122) hx hb dX5_isLetter_7 (by decide) ?_
    refine lv_icmp_le (tgt := 24) hx hb dX5_isLetter_9 (by decide) (fun c_40537 => ?_) (fun c_40537 => ?_)
    · have B_40538 : bn 97 122 i1 := bn_w (bn_lel c_40537 B_40530 (show bn 122 122 (122 : Int32) from bn_k (by decide))) (by decide)
      refine lv_iconst (v := 1) hx hb dX5_isLetter_24 (by decide) ?_
      refine lv_goto (tgt := 29) hx hb dX5_isLetter_25 (by decide) ?_
      exact prI (post := fun r L1 f1 => ((bn 0 1 r ∧ (r = 1 ∧ isLt i1.toInt ∨ r = 0 ∧ ¬ isLt i1.toInt))) ∧ L1 = L ∧ f1 = f) S Y rfl (by decide) (by decide) hA1 ⟨⟨bn_k (by decide), Or.inl ⟨rfl, (by have u1 := (show 97 ≤ i1.toInt from by have z9 := (Int32.not_lt.mp c_40528); rw [Int32.le_iff_toInt_le] at z9; exact z9); have u2 := (show i1.toInt ≤ 122 from by have z9 := c_40537; rw [Int32.le_iff_toInt_le] at z9; exact z9); unfold isLt; omega)⟩⟩, rfl, rfl⟩ dX5_isLetter_29
    · have B_40539 : bn 123 2147483647 i1 := bn_w (bn_gtl c_40537 B_40530 (show bn 122 122 (122 : Int32) from bn_k (by decide))) (by decide)
      refine lv_iload_n hx hb dX5_isLetter_12 rfl (lv_at hl 0 rfl) ?_
      refine lv_bipush (v := 65) hx hb dX5_isLetter_13 (by decide) ?_
      refine lv_icmp_lt (tgt := 28) hx hb dX5_isLetter_15 (by decide) (fun h => absurd h (bd_nlt B_40539 (show bn 65 65 (65 : Int32) from bn_k (by decide)) (by decide))) (fun _ => ?_)
      refine lv_iload_n hx hb dX5_isLetter_18 rfl (lv_at hl 0 rfl) ?_
      refine lv_bipush (v := 90) hx hb dX5_isLetter_19 (by decide) ?_
      refine lv_icmp_gt (tgt := 28) hx hb dX5_isLetter_21 (by decide) (fun _ => ?_) (fun h => absurd (bd_lt (show bn 90 90 (90 : Int32) from bn_k (by decide)) B_40539 (by decide)) h)
      refine lv_iconst (v := 0) hx hb dX5_isLetter_28 (by decide) ?_
      exact prI (post := fun r L1 f1 => ((bn 0 1 r ∧ (r = 1 ∧ isLt i1.toInt ∨ r = 0 ∧ ¬ isLt i1.toInt))) ∧ L1 = L ∧ f1 = f) S Y rfl (by decide) (by decide) hA1 ⟨⟨bn_k (by decide), Or.inr ⟨rfl, (by have u1 := (show 97 ≤ i1.toInt from by have z9 := (Int32.not_lt.mp c_40528); rw [Int32.le_iff_toInt_le] at z9; exact z9); have u2 := (show 122 < i1.toInt from by have z9 := (Int32.not_le.mp c_40537); rw [Int32.lt_iff_toInt_lt] at z9; exact z9); unfold isLt; omega)⟩⟩, rfl, rfl⟩ dX5_isLetter_29
set_option maxHeartbeats 4000000 in
set_option maxRecDepth 100000 in
theorem x_X5_isDigit {l : Launch} {G : GG}  {L : List Nat} {f : HF}  {i1 : Int32}  : PMp l yX5_isDigit cX5_isDigit 1 .boolean 0 0 0 G [.int i1] L f (fun r => (bn 0 1 r ∧ (r = 1 ∧ isDg i1.toInt ∨ r = 0 ∧ ¬ isDg i1.toInt))) := by
  refine PMi.of (post := fun r L1 f1 => ((bn 0 1 r ∧ (r = 1 ∧ isDg i1.toInt ∨ r = 0 ∧ ¬ isDg i1.toInt))) ∧ L1 = L ∧ f1 = f) (own := RX5) (by decide) rfl (Nat.le_of_ble_eq_true rfl) (fun sz p e s m args below meth c A ls hA1 hname S Y hl => ?_)
  have hx := S.hx
  have hb := S.hb
  have hl : lv_has ls 1 [(0, .int i1)] := hl
  refine lv_iload_n hx hb dX5_isDigit_0 rfl (lv_at hl 0 rfl) ?_
  refine lv_bipush (v := 48) hx hb dX5_isDigit_1 (by decide) ?_
  refine lv_icmp_lt (tgt := 16) hx hb dX5_isDigit_3 (by decide) (fun c_40552 => ?_) (fun c_40552 => ?_)
  · have B_40553 : bn (-2147483648) 47 i1 := bn_w (bn_ltl c_40552 (bn_any i1) (show bn 48 48 (48 : Int32) from bn_k (by decide))) (by decide)
    refine lv_iconst (v := 0) hx hb dX5_isDigit_16 (by decide) ?_
    exact prI (post := fun r L1 f1 => ((bn 0 1 r ∧ (r = 1 ∧ isDg i1.toInt ∨ r = 0 ∧ ¬ isDg i1.toInt))) ∧ L1 = L ∧ f1 = f) S Y rfl (by decide) (by decide) hA1 ⟨⟨bn_k (by decide), Or.inr ⟨rfl, (by have u1 := (show i1.toInt < 48 from by have z9 := c_40552; rw [Int32.lt_iff_toInt_lt] at z9; exact z9); unfold isDg; omega)⟩⟩, rfl, rfl⟩ dX5_isDigit_17
  · have B_40554 : bn 48 2147483647 i1 := bn_w (bn_gel c_40552 (bn_any i1) (show bn 48 48 (48 : Int32) from bn_k (by decide))) (by decide)
    refine lv_iload_n hx hb dX5_isDigit_6 rfl (lv_at hl 0 rfl) ?_
    refine lv_bipush (v := 57) hx hb dX5_isDigit_7 (by decide) ?_
    refine lv_icmp_gt (tgt := 16) hx hb dX5_isDigit_9 (by decide) (fun c_40555 => ?_) (fun c_40555 => ?_)
    · have B_40556 : bn 58 2147483647 i1 := bn_w (bn_ltr c_40555 (show bn 57 57 (57 : Int32) from bn_k (by decide)) B_40554) (by decide)
      refine lv_iconst (v := 0) hx hb dX5_isDigit_16 (by decide) ?_
      exact prI (post := fun r L1 f1 => ((bn 0 1 r ∧ (r = 1 ∧ isDg i1.toInt ∨ r = 0 ∧ ¬ isDg i1.toInt))) ∧ L1 = L ∧ f1 = f) S Y rfl (by decide) (by decide) hA1 ⟨⟨bn_k (by decide), Or.inr ⟨rfl, (by have u1 := (show 48 ≤ i1.toInt from by have z9 := (Int32.not_lt.mp c_40552); rw [Int32.le_iff_toInt_le] at z9; exact z9); have u2 := (show 57 < i1.toInt from by have z9 := c_40555; rw [Int32.lt_iff_toInt_lt] at z9; exact z9); unfold isDg; omega)⟩⟩, rfl, rfl⟩ dX5_isDigit_17
    · have B_40557 : bn 48 57 i1 := bn_w (bn_ger c_40555 (show bn 57 57 (57 : Int32) from bn_k (by decide)) B_40554) (by decide)
      refine lv_iconst (v := 1) hx hb dX5_isDigit_12 (by decide) ?_
      refine lv_goto (tgt := 17) hx hb dX5_isDigit_13 (by decide) ?_
      exact prI (post := fun r L1 f1 => ((bn 0 1 r ∧ (r = 1 ∧ isDg i1.toInt ∨ r = 0 ∧ ¬ isDg i1.toInt))) ∧ L1 = L ∧ f1 = f) S Y rfl (by decide) (by decide) hA1 ⟨⟨bn_k (by decide), Or.inl ⟨rfl, (by have u1 := (show 48 ≤ i1.toInt from by have z9 := (Int32.not_lt.mp c_40552); rw [Int32.le_iff_toInt_le] at z9; exact z9); have u2 := (show i1.toInt ≤ 57 from by have z9 := (Int32.not_lt.mp c_40555); rw [Int32.le_iff_toInt_le] at z9; exact z9); unfold isDg; omega)⟩⟩, rfl, rfl⟩ dX5_isDigit_17
set_option maxHeartbeats 4000000 in
set_option maxRecDepth 100000 in
theorem x_X5_step {l : Launch} {G : GG}  {L : List Nat} {f : HF} {ad : Nat → Nat → Nat} {zK : Int × Int} {zP : Int × Int} {zV : Int × Int} {zW : Int × Int} {zF : Int × Int} {zQ : Int × Int} {tT : (Nat → Int32) → Prop} {rf : FS} {sc : Nat → SG} {nL : Int} {kN : Nat} {iT : Nat} {kK : Nat → Int} {kP : Nat → Int} {kV : Nat → Int} {fc : Int × Int} {tc w : Nat → Int × Int} {q : Nat → (Nat → Int32) → Prop} (I : SH (spC ((rf, fz (pp nL) (pp (kN : Int)) (pp (iT : Int)) zK zP zV zW zF zQ, tz tT (RW kN kK) (RW kN kP) (RW kN kV), sc) : RS) fc tc w q) nnC G ad L f) (hW : WBp w 8) (hT : WBp tc 4) (hQ : QIp q) (hN : RDH kK kN) (hi : iT < kN) : PMv l yX5_step cX5_step 2 1 0 0 G [.ref (ad 2 0)] L f (fun L1 f1 => SH (spC ((rf, fz (pp nL) (pp (kN : Int)) (pp ((iT + 1 : Nat) : Int)) (pp (kK iT)) (pp (kP iT)) (pp (kV iT)) zW zF zQ, tz tT (RW kN kK) (RW kN kP) (RW kN kV), sc) : RS) fc tc w q) nnC G ad L1 f1) := by
  refine PMv.of (post := fun L1 f1 => SH (spC ((rf, fz (pp nL) (pp (kN : Int)) (pp ((iT + 1 : Nat) : Int)) (pp (kK iT)) (pp (kP iT)) (pp (kV iT)) zW zF zQ, tz tT (RW kN kK) (RW kN kP) (RW kN kV), sc) : RS) fc tc w q) nnC G ad L1 f1) (own := RX5) (by decide) rfl (Nat.le_of_ble_eq_true rfl) (fun sz p e s m args below meth c A ls hA1 hname S Y hl => ?_)
  have hx := S.hx
  have hb := S.hb
  have hl : lv_has ls 2 [(0, .ref (ad 2 0))] := hl
  refine lv_aload_n hx hb dX5_step_0 rfl (lv_at hl 0 rfl) ?_
  obtain ⟨v_40642, v_40644, v_40646, v_40648, v_40650, v_40652, v_40654, v_40656, v_40658, v_40660, p_ad_2_0, b_40643, b_40645, b_40647, b_40649, b_40651, b_40653, b_40655, b_40657, b_40659, b_40661⟩ := opnC_2 (j := 0) I (by decide)
  have p_ad_2_0 : pt L f (ad 2 0) (.inr (5, [.ref (ad 50 0), .ref (ad 51 0), .ref (ad 52 0), .ref (ad 53 0), .int v_40642, .int v_40644, .int v_40646, .int v_40648, .int v_40650, .int v_40652, .int v_40654, v_40656, .int v_40658, .int v_40660])) := p_ad_2_0
  have tv_40642 : v_40642.toInt = nL := lim_eq b_40643
  have tv_40644 : v_40644.toInt = (kN : Int) := lim_eq b_40645
  have B_40662 : bn 1 301 v_40644 := ⟨by have h9 := tv_40644; have h8 := hN.1; omega, by have h9 := tv_40644; have h8 := hN.2.1; omega⟩
  have tv_40646 : v_40646.toInt = (iT : Int) := lim_eq b_40647
  have B_40663 : bn 0 300 v_40646 := ⟨by have h9 := tv_40646; omega, by have h9 := tv_40646; have h8 := hN.2.1; have h7 := hi; omega⟩
  refine pg_get S Y ok_X5 6 (by decide) kf5_46 (v := .int v_40646) p_ad_2_0 rfl dX5_step_1 ?_
  refine lv_aload_n hx hb dX5_step_4 rfl (lv_at hl 0 rfl) ?_
  refine pg_get S Y ok_X5 5 (by decide) kf5_62 (v := .int v_40644) p_ad_2_0 rfl dX5_step_5 ?_
  refine lv_iconst (v := 1) hx hb dX5_step_8 (by decide) ?_
  refine lv_isub hx hb dX5_step_9 ?_
  refine lv_topi (fun x_40664 ex_40664 => ?_)
  refine va_mmin hx hb (S.ml.trans hl.1.symm) S.ow (S.w km5_108) (S.w kMs_min) (S.w kMi) (S.w kMc_min) (Nat.le_of_ble_eq_true rfl) (Nat.le_of_ble_eq_true rfl) (by decide) (by decide) dX5_step_10 ?_
  refine lv_topi (fun x_40665 ex_40665 => ?_)
  have tx_40665 : x_40665.toInt = (iT : Int) := min_i ex_40665 tv_40646 (la_sub ex_40664 tv_40644 (show (1 : Int32).toInt = 1 from rfl) B_40662 (show bn 1 1 (1 : Int32) from bn_k (by decide)) (by decide)) (by have h9 := hi; omega)
  have B_40666 : bn 0 300 x_40665 := bn_to tx_40665 (by have h8 := hN.2.1; have h9 := hi; omega)
  refine lv_istore_n (lv' := [(1, .int x_40665), (0, .ref (ad 2 0))]) hx hb dX5_step_13 rfl hl (by decide) rfl (fun ls hl => ?_)
  refine lv_iload_n hx hb dX5_step_14 rfl (lv_at hl 0 rfl) ?_
  refine lv_if_lt (tgt := 67) hx hb dX5_step_15 (by decide) (fun h => absurd h (bd_nlt B_40666 (show bn 0 0 (0 : Int32) from bn_k (by decide)) (by decide))) (fun _ => ?_)
  refine lv_iload_n hx hb dX5_step_18 rfl (lv_at hl 0 rfl) ?_
  refine lv_aload_n hx hb dX5_step_19 rfl (lv_at hl 1 rfl) ?_
  refine pg_get S Y ok_X5 1 (by decide) kf5_15 (v := .ref (ad 51 0)) p_ad_2_0 rfl dX5_step_20 ?_
  obtain ⟨g_40667, p_ad_51_0, o_40668⟩ := I.opi (k := 51) (j := 0) (by decide) rfl
  have p_ad_51_0 : pt L f (ad 51 0) (.inl (G.2 0, 301, .inl g_40667)) := p_ad_51_0
  have o_40669 : (RW kN kK) g_40667 := o_40668
  refine pg_alen S Y (k := 0) (v := 301) p_ad_51_0 rfl rfl dX5_step_23 ?_
  refine lv_icmp_ge (tgt := 67) hx hb dX5_step_24 (by decide) (fun h => absurd h (bd_nle (show bn 301 301 (301 : Int32) from bn_k (by decide)) B_40666 (by decide))) (fun _ => ?_)
  refine lv_aload_n hx hb dX5_step_27 rfl (lv_at hl 1 rfl) ?_
  refine lv_aload_n hx hb dX5_step_28 rfl (lv_at hl 1 rfl) ?_
  refine pg_get S Y ok_X5 1 (by decide) kf5_15 (v := .ref (ad 51 0)) p_ad_2_0 rfl dX5_step_29 ?_
  refine lv_iload_n hx hb dX5_step_32 rfl (lv_at hl 0 rfl) ?_
  obtain ⟨v_40670, ev_40670⟩ : ∃ z, z = g_40667 (x_40665 : Int32).toNatClampNeg := ⟨_, rfl⟩
  refine pg_iald S Y (v := v_40670) p_ad_51_0 (vp_bn B_40666 (by decide)) ev_40670.symm dX5_step_33 ?_
  have tv_40670 : v_40670.toInt = kK iT := RW_at o_40669 ev_40670 tx_40665 hi
  refine pg_put S Y ok_X5 7 (by decide) kf5_52 rfl (fs' := [.ref (ad 50 0), .ref (ad 51 0), .ref (ad 52 0), .ref (ad 53 0), .int v_40642, .int v_40644, .int v_40646, .int v_40670, .int v_40650, .int v_40652, .int v_40654, v_40656, .int v_40658, .int v_40660]) (v := .int v_40670) p_ad_2_0 rfl rfl rfl (Nat.le_of_ble_eq_true rfl) dX5_step_34 (fun f_40671 H locs ef_40671 Y => ?_)
  have p_ad_51_0 := p_ad_51_0.up ef_40671 (I.ne (k := 51) (j := 0) (k' := 2) (j' := 0) (by decide) (by decide) (Or.inl (by decide)))
  have p_ad_2_0 := p_ad_2_0.me ef_40671
  have I := I.upS (sp' := spC ((rf, fz (pp nL) (pp (kN : Int)) (pp (iT : Int)) (pp (kK iT)) zP zV zW zF zQ, tz tT (RW kN kK) (RW kN kP) (RW kN kV), sc) : RS) fc tc w q) (k := 2) (j := 0) (by decide) ef_40671 (okE_o (okFs_c okV_r (okFs_c okV_r (okFs_c okV_r (okFs_c okV_r (okFs_c (okV_p b_40643) (okFs_c (okV_p b_40645) (okFs_c (okV_p b_40647) (okFs_c (okV_p (lim_mk (bn_w (bn_any v_40670) (by decide) : bn (-2147483648) 2147483647 v_40670) tv_40670)) (okFs_c (okV_p b_40651) (okFs_c (okV_p b_40653) (okFs_c (okV_p b_40655) (okFs_c b_40657 (okFs_c (okV_p b_40659) (okFs_c (okV_p b_40661) okFs_n))))))))))))))) rsC
  refine lv_aload_n hx hb dX5_step_37 rfl (lv_at hl 1 rfl) ?_
  refine lv_aload_n hx hb dX5_step_38 rfl (lv_at hl 1 rfl) ?_
  refine pg_get S Y ok_X5 2 (by decide) kf5_18 (v := .ref (ad 52 0)) p_ad_2_0 rfl dX5_step_39 ?_
  refine lv_iload_n hx hb dX5_step_42 rfl (lv_at hl 0 rfl) ?_
  obtain ⟨g_40672, p_ad_52_0, o_40673⟩ := I.opi (k := 52) (j := 0) (by decide) rfl
  have p_ad_52_0 : pt L f_40671 (ad 52 0) (.inl (G.2 0, 301, .inl g_40672)) := p_ad_52_0
  have o_40674 : (RW kN kP) g_40672 := o_40673
  obtain ⟨v_40675, ev_40675⟩ : ∃ z, z = g_40672 (x_40665 : Int32).toNatClampNeg := ⟨_, rfl⟩
  refine pg_iald S Y (v := v_40675) p_ad_52_0 (vp_bn B_40666 (by decide)) ev_40675.symm dX5_step_43 ?_
  have tv_40675 : v_40675.toInt = kP iT := RW_at o_40674 ev_40675 tx_40665 hi
  refine pg_put S Y ok_X5 8 (by decide) kf5_59 rfl (fs' := [.ref (ad 50 0), .ref (ad 51 0), .ref (ad 52 0), .ref (ad 53 0), .int v_40642, .int v_40644, .int v_40646, .int v_40670, .int v_40675, .int v_40652, .int v_40654, v_40656, .int v_40658, .int v_40660]) (v := .int v_40675) p_ad_2_0 rfl rfl rfl (Nat.le_of_ble_eq_true rfl) dX5_step_44 (fun f_40676 H locs ef_40676 Y => ?_)
  have p_ad_51_0 := p_ad_51_0.up ef_40676 (I.ne (k := 51) (j := 0) (k' := 2) (j' := 0) (by decide) (by decide) (Or.inl (by decide)))
  have p_ad_52_0 := p_ad_52_0.up ef_40676 (I.ne (k := 52) (j := 0) (k' := 2) (j' := 0) (by decide) (by decide) (Or.inl (by decide)))
  have p_ad_2_0 := p_ad_2_0.me ef_40676
  have I := I.upS (sp' := spC ((rf, fz (pp nL) (pp (kN : Int)) (pp (iT : Int)) (pp (kK iT)) (pp (kP iT)) zV zW zF zQ, tz tT (RW kN kK) (RW kN kP) (RW kN kV), sc) : RS) fc tc w q) (k := 2) (j := 0) (by decide) ef_40676 (okE_o (okFs_c okV_r (okFs_c okV_r (okFs_c okV_r (okFs_c okV_r (okFs_c (okV_p b_40643) (okFs_c (okV_p b_40645) (okFs_c (okV_p b_40647) (okFs_c (okV_p (lim_mk (bn_w (bn_any v_40670) (by decide) : bn (-2147483648) 2147483647 v_40670) tv_40670)) (okFs_c (okV_p (lim_mk (bn_w (bn_any v_40675) (by decide) : bn (-2147483648) 2147483647 v_40675) tv_40675)) (okFs_c (okV_p b_40653) (okFs_c (okV_p b_40655) (okFs_c b_40657 (okFs_c (okV_p b_40659) (okFs_c (okV_p b_40661) okFs_n))))))))))))))) rsC
  refine lv_aload_n hx hb dX5_step_47 rfl (lv_at hl 1 rfl) ?_
  refine lv_aload_n hx hb dX5_step_48 rfl (lv_at hl 1 rfl) ?_
  refine pg_get S Y ok_X5 3 (by decide) kf5_21 (v := .ref (ad 53 0)) p_ad_2_0 rfl dX5_step_49 ?_
  refine lv_iload_n hx hb dX5_step_52 rfl (lv_at hl 0 rfl) ?_
  obtain ⟨g_40677, p_ad_53_0, o_40678⟩ := I.opi (k := 53) (j := 0) (by decide) rfl
  have p_ad_53_0 : pt L f_40676 (ad 53 0) (.inl (G.2 0, 301, .inl g_40677)) := p_ad_53_0
  have o_40679 : (RW kN kV) g_40677 := o_40678
  obtain ⟨v_40680, ev_40680⟩ : ∃ z, z = g_40677 (x_40665 : Int32).toNatClampNeg := ⟨_, rfl⟩
  refine pg_iald S Y (v := v_40680) p_ad_53_0 (vp_bn B_40666 (by decide)) ev_40680.symm dX5_step_53 ?_
  have tv_40680 : v_40680.toInt = kV iT := RW_at o_40679 ev_40680 tx_40665 hi
  refine pg_put S Y ok_X5 9 (by decide) kf5_118 rfl (fs' := [.ref (ad 50 0), .ref (ad 51 0), .ref (ad 52 0), .ref (ad 53 0), .int v_40642, .int v_40644, .int v_40646, .int v_40670, .int v_40675, .int v_40680, .int v_40654, v_40656, .int v_40658, .int v_40660]) (v := .int v_40680) p_ad_2_0 rfl rfl rfl (Nat.le_of_ble_eq_true rfl) dX5_step_54 (fun f_40681 H locs ef_40681 Y => ?_)
  have p_ad_51_0 := p_ad_51_0.up ef_40681 (I.ne (k := 51) (j := 0) (k' := 2) (j' := 0) (by decide) (by decide) (Or.inl (by decide)))
  have p_ad_52_0 := p_ad_52_0.up ef_40681 (I.ne (k := 52) (j := 0) (k' := 2) (j' := 0) (by decide) (by decide) (Or.inl (by decide)))
  have p_ad_53_0 := p_ad_53_0.up ef_40681 (I.ne (k := 53) (j := 0) (k' := 2) (j' := 0) (by decide) (by decide) (Or.inl (by decide)))
  have p_ad_2_0 := p_ad_2_0.me ef_40681
  have I := I.upS (sp' := spC ((rf, fz (pp nL) (pp (kN : Int)) (pp (iT : Int)) (pp (kK iT)) (pp (kP iT)) (pp (kV iT)) zW zF zQ, tz tT (RW kN kK) (RW kN kP) (RW kN kV), sc) : RS) fc tc w q) (k := 2) (j := 0) (by decide) ef_40681 (okE_o (okFs_c okV_r (okFs_c okV_r (okFs_c okV_r (okFs_c okV_r (okFs_c (okV_p b_40643) (okFs_c (okV_p b_40645) (okFs_c (okV_p b_40647) (okFs_c (okV_p (lim_mk (bn_w (bn_any v_40670) (by decide) : bn (-2147483648) 2147483647 v_40670) tv_40670)) (okFs_c (okV_p (lim_mk (bn_w (bn_any v_40675) (by decide) : bn (-2147483648) 2147483647 v_40675) tv_40675)) (okFs_c (okV_p (lim_mk (bn_w (bn_any v_40680) (by decide) : bn (-2147483648) 2147483647 v_40680) tv_40680)) (okFs_c (okV_p b_40655) (okFs_c b_40657 (okFs_c (okV_p b_40659) (okFs_c (okV_p b_40661) okFs_n))))))))))))))) rsC
  refine lv_aload_n hx hb dX5_step_57 rfl (lv_at hl 1 rfl) ?_
  refine lv_dup hx hb dX5_step_58 rfl ?_
  refine pg_get S Y ok_X5 6 (by decide) kf5_46 (v := .int v_40646) p_ad_2_0 rfl dX5_step_59 ?_
  refine lv_iconst (v := 1) hx hb dX5_step_62 (by decide) ?_
  refine lv_iadd hx hb dX5_step_63 ?_
  refine lv_topi (fun x_40682 ex_40682 => ?_)
  refine pg_put S Y ok_X5 6 (by decide) kf5_46 rfl (fs' := [.ref (ad 50 0), .ref (ad 51 0), .ref (ad 52 0), .ref (ad 53 0), .int v_40642, .int v_40644, .int x_40682, .int v_40670, .int v_40675, .int v_40680, .int v_40654, v_40656, .int v_40658, .int v_40660]) (v := .int x_40682) p_ad_2_0 rfl rfl rfl (Nat.le_of_ble_eq_true rfl) dX5_step_64 (fun f_40683 H locs ef_40683 Y => ?_)
  have p_ad_51_0 := p_ad_51_0.up ef_40683 (I.ne (k := 51) (j := 0) (k' := 2) (j' := 0) (by decide) (by decide) (Or.inl (by decide)))
  have p_ad_52_0 := p_ad_52_0.up ef_40683 (I.ne (k := 52) (j := 0) (k' := 2) (j' := 0) (by decide) (by decide) (Or.inl (by decide)))
  have p_ad_53_0 := p_ad_53_0.up ef_40683 (I.ne (k := 53) (j := 0) (k' := 2) (j' := 0) (by decide) (by decide) (Or.inl (by decide)))
  have p_ad_2_0 := p_ad_2_0.me ef_40683
  have I := I.upS (sp' := spC ((rf, fz (pp nL) (pp (kN : Int)) (pp ((iT : Int) + 1)) (pp (kK iT)) (pp (kP iT)) (pp (kV iT)) zW zF zQ, tz tT (RW kN kK) (RW kN kP) (RW kN kV), sc) : RS) fc tc w q) (k := 2) (j := 0) (by decide) ef_40683 (okE_o (okFs_c okV_r (okFs_c okV_r (okFs_c okV_r (okFs_c okV_r (okFs_c (okV_p b_40643) (okFs_c (okV_p b_40645) (okFs_c (okV_p (lim_mk (bn_w (bn_eq ex_40682 (bn_add B_40663 (show bn 1 1 (1 : Int32) from bn_k (by decide)) (by decide))) (by decide) : bn (-2147483648) 2147483647 x_40682) (la_add ex_40682 tv_40646 (show (1 : Int32).toInt = 1 from rfl) B_40663 (show bn 1 1 (1 : Int32) from bn_k (by decide)) (by decide)))) (okFs_c (okV_p (lim_mk (bn_w (bn_any v_40670) (by decide) : bn (-2147483648) 2147483647 v_40670) tv_40670)) (okFs_c (okV_p (lim_mk (bn_w (bn_any v_40675) (by decide) : bn (-2147483648) 2147483647 v_40675) tv_40675)) (okFs_c (okV_p (lim_mk (bn_w (bn_any v_40680) (by decide) : bn (-2147483648) 2147483647 v_40680) tv_40680)) (okFs_c (okV_p b_40655) (okFs_c b_40657 (okFs_c (okV_p b_40659) (okFs_c (okV_p b_40661) okFs_n))))))))))))))) rsC
  exact prV (post := fun L1 f1 => SH (spC ((rf, fz (pp nL) (pp (kN : Int)) (pp ((iT + 1 : Nat) : Int)) (pp (kK iT)) (pp (kP iT)) (pp (kV iT)) zW zF zQ, tz tT (RW kN kK) (RW kN kP) (RW kN kV), sc) : RS) fc tc w q) nnC G ad L1 f1) S Y (by decide) (by decide) hA1 I dX5_step_67
set_option maxHeartbeats 4000000 in
set_option maxRecDepth 100000 in
theorem x_X5_fail {l : Launch} {G : GG}  {L : List Nat} {f : HF} {ad : Nat → Nat → Nat} {zL : Int × Int} {zC : Int × Int} {zR : Int × Int} {zK : Int × Int} {zV : Int × Int} {zW : Int × Int} {zF : Int × Int} {zQ : Int × Int} {tT : (Nat → Int32) → Prop} {tU : (Nat → Int32) → Prop} {tP : (Nat → Int32) → Prop} {tV : (Nat → Int32) → Prop} {rf : FS} {sc : Nat → SG} {pF : Int} {fc : Int × Int} {tc w : Nat → Int × Int} {q : Nat → (Nat → Int32) → Prop} {i1 : Int32} (I : SH (spC ((rf, fz zL zC zR zK (pp pF) zV zW zF zQ, tz tT tU tP tV, sc) : RS) fc tc w q) nnC G ad L f) (hW : WBp w 8) (hT : WBp tc 4) (hQ : QIp q) : PMi l yX5_fail cX5_fail 2 .boolean 0 0 0 G [.ref (ad 2 0), .int i1] L f (fun r L1 f1 => bn 0 0 r ∧ SH (spC ((rf, fz zL zC zR zK (pp pF) zV zW (pp i1.toInt) (pp pF), tz tT tU tP tV, sc) : RS) fc tc w q) nnC G ad L1 f1) := by
  refine PMi.of (post := fun r L1 f1 => bn 0 0 r ∧ SH (spC ((rf, fz zL zC zR zK (pp pF) zV zW (pp i1.toInt) (pp pF), tz tT tU tP tV, sc) : RS) fc tc w q) nnC G ad L1 f1) (own := RX5) (by decide) rfl (Nat.le_of_ble_eq_true rfl) (fun sz p e s m args below meth c A ls hA1 hname S Y hl => ?_)
  have hx := S.hx
  have hb := S.hb
  have hl : lv_has ls 2 [(0, .ref (ad 2 0)), (1, .int i1)] := hl
  refine lv_aload_n hx hb dX5_fail_0 rfl (lv_at hl 0 rfl) ?_
  refine lv_iload_n hx hb dX5_fail_1 rfl (lv_at hl 1 rfl) ?_
  obtain ⟨v_40728, v_40730, v_40732, v_40734, v_40736, v_40738, v_40740, v_40742, v_40744, v_40746, p_ad_2_0, b_40729, b_40731, b_40733, b_40735, b_40737, b_40739, b_40741, b_40743, b_40745, b_40747⟩ := opnC_2 (j := 0) I (by decide)
  have p_ad_2_0 : pt L f (ad 2 0) (.inr (5, [.ref (ad 50 0), .ref (ad 51 0), .ref (ad 52 0), .ref (ad 53 0), .int v_40728, .int v_40730, .int v_40732, .int v_40734, .int v_40736, .int v_40738, .int v_40740, v_40742, .int v_40744, .int v_40746])) := p_ad_2_0
  have tv_40736 : v_40736.toInt = pF := lim_eq b_40737
  refine pg_put S Y ok_X5 12 (by decide) kf5_24 rfl (fs' := [.ref (ad 50 0), .ref (ad 51 0), .ref (ad 52 0), .ref (ad 53 0), .int v_40728, .int v_40730, .int v_40732, .int v_40734, .int v_40736, .int v_40738, .int v_40740, v_40742, .int i1, .int v_40746]) (v := .int i1) p_ad_2_0 rfl rfl rfl (Nat.le_of_ble_eq_true rfl) dX5_fail_2 (fun f_40748 H locs ef_40748 Y => ?_)
  have p_ad_2_0 := p_ad_2_0.me ef_40748
  have I := I.upS (sp' := spC ((rf, fz zL zC zR zK (pp pF) zV zW (pp i1.toInt) zQ, tz tT tU tP tV, sc) : RS) fc tc w q) (k := 2) (j := 0) (by decide) ef_40748 (okE_o (okFs_c okV_r (okFs_c okV_r (okFs_c okV_r (okFs_c okV_r (okFs_c (okV_p b_40729) (okFs_c (okV_p b_40731) (okFs_c (okV_p b_40733) (okFs_c (okV_p b_40735) (okFs_c (okV_p b_40737) (okFs_c (okV_p b_40739) (okFs_c (okV_p b_40741) (okFs_c b_40743 (okFs_c (okV_p (lim_mk (bn_w (bn_any i1) (by decide) : bn (-2147483648) 2147483647 i1) (rfl : i1.toInt = i1.toInt))) (okFs_c (okV_p b_40747) okFs_n))))))))))))))) rsC
  refine lv_aload_n hx hb dX5_fail_5 rfl (lv_at hl 0 rfl) ?_
  refine lv_aload_n hx hb dX5_fail_6 rfl (lv_at hl 0 rfl) ?_
  refine pg_get S Y ok_X5 8 (by decide) kf5_59 (v := .int v_40736) p_ad_2_0 rfl dX5_fail_7 ?_
  refine pg_put S Y ok_X5 13 (by decide) kf5_28 rfl (fs' := [.ref (ad 50 0), .ref (ad 51 0), .ref (ad 52 0), .ref (ad 53 0), .int v_40728, .int v_40730, .int v_40732, .int v_40734, .int v_40736, .int v_40738, .int v_40740, v_40742, .int i1, .int v_40736]) (v := .int v_40736) p_ad_2_0 rfl rfl rfl (Nat.le_of_ble_eq_true rfl) dX5_fail_10 (fun f_40749 H locs ef_40749 Y => ?_)
  have p_ad_2_0 := p_ad_2_0.me ef_40749
  have I := I.upS (sp' := spC ((rf, fz zL zC zR zK (pp pF) zV zW (pp i1.toInt) (pp pF), tz tT tU tP tV, sc) : RS) fc tc w q) (k := 2) (j := 0) (by decide) ef_40749 (okE_o (okFs_c okV_r (okFs_c okV_r (okFs_c okV_r (okFs_c okV_r (okFs_c (okV_p b_40729) (okFs_c (okV_p b_40731) (okFs_c (okV_p b_40733) (okFs_c (okV_p b_40735) (okFs_c (okV_p b_40737) (okFs_c (okV_p b_40739) (okFs_c (okV_p b_40741) (okFs_c b_40743 (okFs_c (okV_p (lim_mk (bn_w (bn_any i1) (by decide) : bn (-2147483648) 2147483647 i1) (rfl : i1.toInt = i1.toInt))) (okFs_c (okV_p (lim_mk (bn_w (bn_any v_40736) (by decide) : bn (-2147483648) 2147483647 v_40736) tv_40736)) okFs_n))))))))))))))) rsC
  refine lv_iconst (v := 0) hx hb dX5_fail_13 (by decide) ?_
  exact prI (post := fun r L1 f1 => bn 0 0 r ∧ SH (spC ((rf, fz zL zC zR zK (pp pF) zV zW (pp i1.toInt) (pp pF), tz tT tU tP tV, sc) : RS) fc tc w q) nnC G ad L1 f1) S Y rfl (by decide) (by decide) hA1 ⟨bn_w (show bn 0 0 (0 : Int32) from bn_k (by decide)) (by decide), I⟩ dX5_fail_14
section WINX
def win (r v : Int32) (a b : Int) : Prop := (r = 0 ∧ ¬ (a ≤ v.toInt ∧ v.toInt ≤ b)) ∨ (r = 1 ∧ a ≤ v.toInt ∧ v.toInt ≤ b)
theorem win_f {r v : Int32} {a b : Int} (h : win r v a b) (e : r = 0) : ¬ (a ≤ v.toInt ∧ v.toInt ≤ b) := by
  rcases h with ⟨h1, h2⟩ | ⟨h1, h2⟩
  · exact h2
  · rw [h1] at e; exact absurd e (by decide)
theorem win_t {r v : Int32} {a b : Int} (h : win r v a b) (e : ¬ r = 0) : a ≤ v.toInt ∧ v.toInt ≤ b := by
  rcases h with ⟨h1, h2⟩ | ⟨h1, h2⟩
  · exact absurd h1 e
  · exact h2
end WINX
set_option maxHeartbeats 4000000 in
set_option maxRecDepth 100000 in
theorem x_X11_withinX {l : Launch} {G : GG}  {L : List Nat} {f : HF}  {i1 i2 i3 : Int32}  : PMp l yX11_within cX11_within 3 .boolean 0 0 0 G [.int i1, .int i2, .int i3] L f (fun r => (win r i1 i2.toInt i3.toInt)) := by
  refine PMi.of (post := fun r L1 f1 => ((win r i1 i2.toInt i3.toInt)) ∧ L1 = L ∧ f1 = f) (own := RX11) (by decide) rfl (Nat.le_of_ble_eq_true rfl) (fun sz p e s m args below meth c A ls hA1 hname S Y hl => ?_)
  have hx := S.hx
  have hb := S.hb
  have hl : lv_has ls 3 [(0, .int i1), (1, .int i2), (2, .int i3)] := hl
  refine lv_iload_n hx hb dX11_within_0 rfl (lv_at hl 0 rfl) ?_
  refine lv_iload_n hx hb dX11_within_1 rfl (lv_at hl 1 rfl) ?_
  refine lv_icmp_lt (tgt := 14) hx hb dX11_within_2 (by decide) (fun c_40762 => ?_) (fun c_40762 => ?_)
  · have B_40763 : bn (-2147483648) 2147483646 i1 := bn_w (bn_ltl c_40762 (bn_any i1) (bn_any i2)) (by decide)
    have B_40764 : bn (-2147483647) 2147483647 i2 := bn_w (bn_ltr c_40762 (bn_any i1) (bn_any i2)) (by decide)
    refine lv_iconst (v := 0) hx hb dX11_within_14 (by decide) ?_
    exact prI (post := fun r L1 f1 => ((win r i1 i2.toInt i3.toInt)) ∧ L1 = L ∧ f1 = f) S Y rfl (by decide) (by decide) hA1 ⟨Or.inl ⟨rfl, fun z => by have h := c_40762; rw [Int32.lt_iff_toInt_lt] at h; omega⟩, rfl, rfl⟩ dX11_within_15
  · refine lv_iload_n hx hb dX11_within_5 rfl (lv_at hl 0 rfl) ?_
    refine lv_iload_n hx hb dX11_within_6 rfl (lv_at hl 2 rfl) ?_
    refine lv_icmp_gt (tgt := 14) hx hb dX11_within_7 (by decide) (fun c_40765 => ?_) (fun c_40765 => ?_)
    · have B_40766 : bn (-2147483648) 2147483646 i3 := bn_w (bn_ltl c_40765 (bn_any i3) (bn_any i1)) (by decide)
      have B_40767 : bn (-2147483647) 2147483647 i1 := bn_w (bn_ltr c_40765 (bn_any i3) (bn_any i1)) (by decide)
      refine lv_iconst (v := 0) hx hb dX11_within_14 (by decide) ?_
      exact prI (post := fun r L1 f1 => ((win r i1 i2.toInt i3.toInt)) ∧ L1 = L ∧ f1 = f) S Y rfl (by decide) (by decide) hA1 ⟨Or.inl ⟨rfl, fun z => by have h := c_40765; rw [Int32.lt_iff_toInt_lt] at h; omega⟩, rfl, rfl⟩ dX11_within_15
    · refine lv_iconst (v := 1) hx hb dX11_within_10 (by decide) ?_
      refine lv_goto (tgt := 15) hx hb dX11_within_11 (by decide) ?_
      exact prI (post := fun r L1 f1 => ((win r i1 i2.toInt i3.toInt)) ∧ L1 = L ∧ f1 = f) S Y rfl (by decide) (by decide) hA1 ⟨Or.inr ⟨rfl, by have h := c_40762; rw [Int32.lt_iff_toInt_lt] at h; omega, by have h := c_40765; rw [Int32.lt_iff_toInt_lt] at h; omega⟩, rfl, rfl⟩ dX11_within_15
set_option maxHeartbeats 4000000 in
set_option maxRecDepth 100000 in
theorem x_X5_expect {l : Launch} {G : GG}  {L : List Nat} {f : HF} {ad : Nat → Nat → Nat} {rf : FS} {nL : Int} {lw : Int} {fk : Int} {fp : Int} {kN : Nat} {kK : Nat → Int} {kP : Nat → Int} {kV : Nat → Int} {bT : Nat → Int32} {fc : Int × Int} {tc w : Nat → Int × Int} {q : Nat → (Nat → Int32) → Prop} {i1 : Int32} {iT oT : Nat} {bL : Bool} {sc : Nat → SG} {eN : Int} (I : SH (spC ((rf, fz (pp nL) (pp (kN : Int)) (pp ((iT + 1 : Nat) : Int)) (pp (kK iT)) (pp (kP iT)) (pp (kV iT)) (pp lw) (pp fk) (pp fp), tz (EQ bT) (RW kN kK) (RW kN kP) (RW kN kV), sc) : RS) fc tc w q) nnC G ad L f) (hW : WBp w 8) (hT : WBp tc 4) (hQ : QIp q) (hN : RDH kK kN) (hi : iT < kN) (he : i1.toInt = eN) (hx2 : eN ≠ 1002) : PMi l yX5_expect cX5_expect 2 .boolean 2 0 0 G [.ref (ad 2 0), .int i1] L f (fun r L1 f1 => ∃ j2 : Nat, ∃ fk2 : Int, ∃ fp2 : Int, bn 0 1 r ∧ SH (spC ((rf, fz (pp nL) (pp (kN : Int)) (pp ((j2 + 1 : Nat) : Int)) (pp (kK j2)) (pp (kP j2)) (pp (kV j2)) (pp lw) (pp fk2) (pp fp2), tz (EQ bT) (RW kN kK) (RW kN kP) (RW kN kV), sc) : RS) fc tc w q) nnC G ad L1 f1 ∧ RDP kK kV kP ([((kEx eN), oT, bL)] : List LI) iT j2 kN fk fp fk2 fp2 r) := by
  refine PMi.of (post := fun r L1 f1 => ∃ j2 : Nat, ∃ fk2 : Int, ∃ fp2 : Int, bn 0 1 r ∧ SH (spC ((rf, fz (pp nL) (pp (kN : Int)) (pp ((j2 + 1 : Nat) : Int)) (pp (kK j2)) (pp (kP j2)) (pp (kV j2)) (pp lw) (pp fk2) (pp fp2), tz (EQ bT) (RW kN kK) (RW kN kP) (RW kN kV), sc) : RS) fc tc w q) nnC G ad L1 f1 ∧ RDP kK kV kP ([((kEx eN), oT, bL)] : List LI) iT j2 kN fk fp fk2 fp2 r) (own := RX5) (by decide) rfl (Nat.le_of_ble_eq_true rfl) (fun sz p e s m args below meth c A ls hA1 hname S Y hl => ?_)
  have hx := S.hx
  have hb := S.hb
  have hl : lv_has ls 2 [(0, .ref (ad 2 0)), (1, .int i1)] := hl
  refine lv_aload_n hx hb dX5_expect_0 rfl (lv_at hl 0 rfl) ?_
  obtain ⟨v_40824, v_40826, v_40828, v_40830, v_40832, v_40834, v_40836, v_40838, v_40840, v_40842, p_ad_2_0, b_40825, b_40827, b_40829, b_40831, b_40833, b_40835, b_40837, b_40839, b_40841, b_40843⟩ := opnC_2 (j := 0) I (by decide)
  have p_ad_2_0 : pt L f (ad 2 0) (.inr (5, [.ref (ad 50 0), .ref (ad 51 0), .ref (ad 52 0), .ref (ad 53 0), .int v_40824, .int v_40826, .int v_40828, .int v_40830, .int v_40832, .int v_40834, .int v_40836, v_40838, .int v_40840, .int v_40842])) := p_ad_2_0
  have tv_40824 : v_40824.toInt = nL := lim_eq b_40825
  have tv_40826 : v_40826.toInt = (kN : Int) := lim_eq b_40827
  have tv_40828 : v_40828.toInt = ((iT + 1 : Nat) : Int) := lim_eq b_40829
  have tv_40830 : v_40830.toInt = (kK iT) := lim_eq b_40831
  have tv_40832 : v_40832.toInt = (kP iT) := lim_eq b_40833
  have tv_40834 : v_40834.toInt = (kV iT) := lim_eq b_40835
  have tv_40836 : v_40836.toInt = lw := lim_eq b_40837
  have tv_40840 : v_40840.toInt = fk := lim_eq b_40841
  have tv_40842 : v_40842.toInt = fp := lim_eq b_40843
  refine pg_get S Y ok_X5 7 (by decide) kf5_52 (v := .int v_40830) p_ad_2_0 rfl dX5_expect_1 ?_
  refine lv_iload_n hx hb dX5_expect_4 rfl (lv_at hl 1 rfl) ?_
  refine lv_icmp_eq (tgt := 14) hx hb dX5_expect_5 (by decide) (fun c_40844 => ?_) (fun c_40844 => ?_)
  · refine lv_aload_n hx hb dX5_expect_14 rfl (lv_at hl 0 rfl) ?_
    have hi_40845 : iT + 1 < kN := RDH_lt hN hi (by have u1 := tv_40824; have u2 := tv_40826; have u3 := tv_40828; have u4 := tv_40830; have u5 := tv_40832; have u6 := tv_40834; have u7 := tv_40836; have u8 := tv_40840; have u9 := tv_40842; have u10 := (show v_40830.toInt = i1.toInt from by rw [c_40844]); have u11 := hi; have u12 := hN.1; have u13 := hN.2.1; have u14 := he; have u15 := hx2; omega)
    have tr_40846 : ∀ S, Tr kK kV (([((kEx eN), oT, bL)] : List LI) ++ S) iT (([] : List LI) ++ S) (iT + 1) := (TrY (Y := ([] : List LI)) (a := 1) (its := []) (d := 0) (show ∀ S, Tr kK kV (([((kEx eN), oT, bL)] : List LI) ++ S) iT (([((kEx eN), oT, bL)] : List LI) ++ S) iT from fun _ => Tr_0) (by have u1 := tv_40824; have u2 := tv_40826; have u3 := tv_40828; have u4 := tv_40830; have u5 := tv_40832; have u6 := tv_40834; have u7 := tv_40836; have u8 := tv_40840; have u9 := tv_40842; have u10 := (show v_40830.toInt = i1.toInt from by rw [c_40844]); have u11 := hi; have u12 := hN.1; have u13 := hN.2.1; have u14 := he; unfold gx; simp only [isCmp] <;> (repeat' split) <;> first | rfl | (exfalso; omega)) (by decide) rfl : ∀ S, Tr kK kV (([((kEx eN), oT, bL)] : List LI) ++ S) iT (([] : List LI) ++ S) (iT + 1))
    refine cVv (As := []) (rest := []) S Y (x_X5_step (l := l) I hW hT hQ hN hi_40845) cw_X5_step km5_49 p_ad_2_0 ok_X5.1 rfl rfl ⟨Nat.le_of_ble_eq_true rfl, Nat.le_of_ble_eq_true rfl⟩ hl.1 rfl (Nat.le_of_ble_eq_true rfl) ⟨Nat.le_of_ble_eq_true rfl, Nat.le_of_ble_eq_true rfl⟩ dX5_expect_15 (fun L_40847 f_40848 H locs I Y => ?_)
    refine lv_iconst (v := 1) hx hb dX5_expect_18 (by decide) ?_
    exact prI (post := fun r L1 f1 => ∃ j2 : Nat, ∃ fk2 : Int, ∃ fp2 : Int, bn 0 1 r ∧ SH (spC ((rf, fz (pp nL) (pp (kN : Int)) (pp ((j2 + 1 : Nat) : Int)) (pp (kK j2)) (pp (kP j2)) (pp (kV j2)) (pp lw) (pp fk2) (pp fp2), tz (EQ bT) (RW kN kK) (RW kN kP) (RW kN kV), sc) : RS) fc tc w q) nnC G ad L1 f1 ∧ RDP kK kV kP ([((kEx eN), oT, bL)] : List LI) iT j2 kN fk fp fk2 fp2 r) S Y rfl (by decide) (by decide) hA1 ⟨(iT + 1), fk, fp, bn_w (show bn 1 1 (1 : Int32) from bn_k (by decide)) (by decide), I, (Or.inl ⟨rfl, tr_40846, hi_40845, (by have u1 := tv_40824; have u2 := tv_40826; have u3 := tv_40828; have u4 := tv_40830; have u5 := tv_40832; have u6 := tv_40834; have u7 := tv_40836; have u8 := tv_40840; have u9 := tv_40842; have u10 := (show v_40830.toInt = i1.toInt from by rw [c_40844]); have u11 := hi; have u12 := hN.1; have u13 := hN.2.1; have u14 := he; have u15 := hi_40845; omega), rfl, rfl⟩)⟩ dX5_expect_19
  · refine lv_aload_n hx hb dX5_expect_8 rfl (lv_at hl 0 rfl) ?_
    refine lv_iconst (v := 1) hx hb dX5_expect_9 (by decide) ?_
    refine cVi (As := [.int 1]) (rest := []) S Y (x_X5_fail (l := l) I hW hT hQ) cw_X5_fail km5_121 p_ad_2_0 ok_X5.1 rfl rfl ⟨Nat.le_of_ble_eq_true rfl, Nat.le_of_ble_eq_true rfl⟩ hl.1 rfl (Nat.le_of_ble_eq_true rfl) ⟨Nat.le_of_ble_eq_true rfl, Nat.le_of_ble_eq_true rfl⟩ dX5_expect_10 (fun r_40851 L_40849 f_40850 H locs hr_40851 Y => ?_)
    obtain ⟨er_40851, I⟩ := hr_40851
    exact prI (post := fun r L1 f1 => ∃ j2 : Nat, ∃ fk2 : Int, ∃ fp2 : Int, bn 0 1 r ∧ SH (spC ((rf, fz (pp nL) (pp (kN : Int)) (pp ((j2 + 1 : Nat) : Int)) (pp (kK j2)) (pp (kP j2)) (pp (kV j2)) (pp lw) (pp fk2) (pp fp2), tz (EQ bT) (RW kN kK) (RW kN kP) (RW kN kV), sc) : RS) fc tc w q) nnC G ad L1 f1 ∧ RDP kK kV kP ([((kEx eN), oT, bL)] : List LI) iT j2 kN fk fp fk2 fp2 r) S Y (nw_b (bn_w er_40851 (by decide))) (by decide) (by decide) hA1 ⟨iT, ((1 : Int32).toInt), (kP iT), bn_w er_40851 (by decide), I, (Or.inr ⟨(bn00 er_40851), (TrN (Y := ([] : List LI)) (f := 1) (a := 0) (its := []) (d := 0) (show ∀ S, Tr kK kV (([((kEx eN), oT, bL)] : List LI) ++ S) iT (([((kEx eN), oT, bL)] : List LI) ++ S) iT from fun _ => Tr_0) (by have u1 := tv_40824; have u2 := tv_40826; have u3 := tv_40828; have u4 := tv_40830; have u5 := tv_40832; have u6 := tv_40834; have u7 := tv_40836; have u8 := tv_40840; have u9 := tv_40842; have u10 := (show v_40830.toInt ≠ i1.toInt from fun z => c_40844 (Int32.toInt_inj.mp z)); have u11 := hi; have u12 := hN.1; have u13 := hN.2.1; have u14 := he; unfold gx; simp only [isCmp] <;> (repeat' split) <;> first | rfl | (exfalso; omega)) (by decide)), (by decide), rfl⟩)⟩ dX5_expect_13
set_option maxHeartbeats 4000000 in
set_option maxRecDepth 100000 in
theorem x_X5_readNumber {l : Launch} {G : GG}  {L : List Nat} {f : HF} {ad : Nat → Nat → Nat} {nL : Int} {lw : Int} {fk : Int} {fp : Int} {kN : Nat} {kK : Nat → Int} {kP : Nat → Int} {kV : Nat → Int} {bT : Nat → Int32} {fc : Int × Int} {tc w : Nat → Int × Int} {q : Nat → (Nat → Int32) → Prop} {t : Nat} {i1 i2 i3 : Int32} {iT oT : Nat} {bL : Bool} {sc : Nat → SG} {aN : Int} (I : SH (spC ((RF 30 t, fz (pp nL) (pp (kN : Int)) (pp ((iT + 1 : Nat) : Int)) (pp (kK iT)) (pp (kP iT)) (pp (kV iT)) (pp lw) (pp fk) (pp fp), tz (EQ bT) (RW kN kK) (RW kN kP) (RW kN kV), sc) : RS) fc tc w q) nnC G ad L f) (hW : WBp w 8) (hT : WBp tc 4) (hQ : QIp q) (ht : t < 4) (b_i2 : bn 0 999 i2) (b_i3 : bn 0 999 i3) (hN : RDH kK kN) (hi : iT < kN) (ha : aN = i2.toInt * 1000 + i3.toInt) : PMi l yX5_readNumber cX5_readNumber 4 .boolean 2 0 0 G [.ref (ad 2 0), .int i1, .int i2, .int i3] L f (fun r L1 f1 => ∃ j2 : Nat, ∃ fk2 : Int, ∃ fp2 : Int, bn 0 1 r ∧ SH (spC ((RF 30 t, fz (pp nL) (pp (kN : Int)) (pp ((j2 + 1 : Nat) : Int)) (pp (kK j2)) (pp (kP j2)) (pp (kV j2)) (pp lw) (pp fk2) (pp fp2), tz (EQ bT) (RW kN kK) (RW kN kP) (RW kN kV), sc) : RS) fc tc w q) nnC G ad L1 f1 ∧ RDP kK kV kP ([((kNum aN), oT, bL)] : List LI) iT j2 kN fk fp fk2 fp2 r) := by
  refine PMi.of (post := fun r L1 f1 => ∃ j2 : Nat, ∃ fk2 : Int, ∃ fp2 : Int, bn 0 1 r ∧ SH (spC ((RF 30 t, fz (pp nL) (pp (kN : Int)) (pp ((j2 + 1 : Nat) : Int)) (pp (kK j2)) (pp (kP j2)) (pp (kV j2)) (pp lw) (pp fk2) (pp fp2), tz (EQ bT) (RW kN kK) (RW kN kP) (RW kN kV), sc) : RS) fc tc w q) nnC G ad L1 f1 ∧ RDP kK kV kP ([((kNum aN), oT, bL)] : List LI) iT j2 kN fk fp fk2 fp2 r) (own := RX5) (by decide) rfl (Nat.le_of_ble_eq_true rfl) (fun sz p e s m args below meth c A ls hA1 hname S Y hl => ?_)
  have hx := S.hx
  have hb := S.hb
  have hl : lv_has ls 4 [(0, .ref (ad 2 0)), (1, .int i1), (2, .int i2), (3, .int i3)] := hl
  refine lv_aload_n hx hb dX5_readNumber_0 rfl (lv_at hl 0 rfl) ?_
  obtain ⟨v_40922, v_40924, v_40926, v_40928, v_40930, v_40932, v_40934, v_40936, v_40938, p_ad_2_0, b_40923, b_40925, b_40927, b_40929, b_40931, b_40933, b_40935, b_40937, b_40939⟩ := opnC_2r (j := 0) I (by decide)
  have p_ad_2_0 : pt L f (ad 2 0) (.inr (5, [.ref (ad 50 0), .ref (ad 51 0), .ref (ad 52 0), .ref (ad 53 0), .int v_40922, .int v_40924, .int v_40926, .int v_40928, .int v_40930, .int v_40932, .int v_40934, .ref (ad 30 t), .int v_40936, .int v_40938])) := p_ad_2_0
  have tv_40922 : v_40922.toInt = nL := lim_eq b_40923
  have tv_40924 : v_40924.toInt = (kN : Int) := lim_eq b_40925
  have tv_40926 : v_40926.toInt = ((iT + 1 : Nat) : Int) := lim_eq b_40927
  have tv_40928 : v_40928.toInt = (kK iT) := lim_eq b_40929
  have tv_40930 : v_40930.toInt = (kP iT) := lim_eq b_40931
  have tv_40932 : v_40932.toInt = (kV iT) := lim_eq b_40933
  have tv_40934 : v_40934.toInt = lw := lim_eq b_40935
  have tv_40936 : v_40936.toInt = fk := lim_eq b_40937
  have tv_40938 : v_40938.toInt = fp := lim_eq b_40939
  refine pg_get S Y ok_X5 7 (by decide) kf5_52 (v := .int v_40928) p_ad_2_0 rfl dX5_readNumber_1 ?_
  refine lv_sipush (v := 1000) hx hb dX5_readNumber_4 (by decide) ?_
  refine lv_icmp_eq (tgt := 16) hx hb dX5_readNumber_7 (by decide) (fun c_40940 => ?_) (fun c_40940 => ?_)
  · have B_40941 : bn 1000 1000 v_40928 := bn_w (bn_eq c_40940 (show bn 1000 1000 (1000 : Int32) from bn_k (by decide))) (by decide)
    refine lv_aload_n hx hb dX5_readNumber_16 rfl (lv_at hl 0 rfl) ?_
    refine pg_get S Y ok_X5 9 (by decide) kf5_118 (v := .int v_40932) p_ad_2_0 rfl dX5_readNumber_17 ?_
    refine lv_iload_n hx hb dX5_readNumber_20 rfl (lv_at hl 2 rfl) ?_
    refine lv_iload_n hx hb dX5_readNumber_21 rfl (lv_at hl 3 rfl) ?_
    refine cNp (As := [.int v_40932, .int i2, .int i3]) (rest := []) S Y (x_X11_withinX (l := l) ) cw_X11_within km5_160 rfl ⟨Nat.le_of_ble_eq_true rfl, Nat.le_of_ble_eq_true rfl⟩ hl.1 rfl (Nat.le_of_ble_eq_true rfl) ⟨Nat.le_of_ble_eq_true rfl, Nat.le_of_ble_eq_true rfl⟩ dX5_readNumber_22 (fun r_40942 H locs er_40942 Y => ?_)
    refine lv_if_ne (tgt := 34) hx hb dX5_readNumber_25 (by decide) (fun c_40943 => ?_) (fun c_40943 => ?_)
    · refine lv_aload_n hx hb dX5_readNumber_34 rfl (lv_at hl 0 rfl) ?_
      refine pg_get S Y ok_X5 11 (by decide) kf5_34 (v := .ref (ad 30 t)) p_ad_2_0 rfl dX5_readNumber_35 ?_
      refine lv_iload_n hx hb dX5_readNumber_38 rfl (lv_at hl 1 rfl) ?_
      refine lv_aload_n hx hb dX5_readNumber_39 rfl (lv_at hl 0 rfl) ?_
      refine pg_get S Y ok_X5 9 (by decide) kf5_118 (v := .int v_40932) p_ad_2_0 rfl dX5_readNumber_40 ?_
      refine cVv (As := [.int i1, .int v_40932]) (rest := []) S Y (x_X7_setClause (l := l) (j := t) I hW hT hQ (show t < 8 from by omega)) cw_X7_setClause km5_163 (I.opo (k := 30) (j := t) (show t < 8 from by omega) rfl).choose_spec.1 ok_X7.1 rfl rfl ⟨Nat.le_of_ble_eq_true rfl, Nat.le_of_ble_eq_true rfl⟩ hl.1 rfl (Nat.le_of_ble_eq_true rfl) ⟨Nat.le_of_ble_eq_true rfl, Nat.le_of_ble_eq_true rfl⟩ dX5_readNumber_43 (fun L_40945 f_40946 H locs I Y => ?_)
      refine lv_aload_n hx hb dX5_readNumber_46 rfl (lv_at hl 0 rfl) ?_
      have hi_40947 : iT + 1 < kN := RDH_lt hN hi (by have u1 := tv_40922; have u2 := tv_40924; have u3 := tv_40926; have u4 := tv_40928; have u5 := tv_40930; have u6 := tv_40932; have u7 := tv_40934; have u8 := tv_40936; have u9 := tv_40938; have u10 := (show v_40928.toInt = 1000 from by rw [c_40940]; rfl); have u11 := hi; have u12 := hN.1; have u13 := hN.2.1; have u14 := ha; have u15 := (win_t er_40942 c_40943); have u16 := b_i2.1; have u17 := b_i2.2; have u18 := b_i3.1; have u19 := b_i3.2; omega)
      have tr_40948 : ∀ S, Tr kK kV (([((kNum aN), oT, bL)] : List LI) ++ S) iT (([] : List LI) ++ S) (iT + 1) := (TrY (Y := ([] : List LI)) (a := 1) (its := []) (d := 0) (show ∀ S, Tr kK kV (([((kNum aN), oT, bL)] : List LI) ++ S) iT (([((kNum aN), oT, bL)] : List LI) ++ S) iT from fun _ => Tr_0) (by have u1 := tv_40922; have u2 := tv_40924; have u3 := tv_40926; have u4 := tv_40928; have u5 := tv_40930; have u6 := tv_40932; have u7 := tv_40934; have u8 := tv_40936; have u9 := tv_40938; have u10 := (show v_40928.toInt = 1000 from by rw [c_40940]; rfl); have u11 := hi; have u12 := hN.1; have u13 := hN.2.1; have u14 := ha; have u15 := (win_t er_40942 c_40943); have u16 := b_i2.1; have u17 := b_i2.2; have u18 := b_i3.1; have u19 := b_i3.2; unfold gx; simp only [isCmp] <;> (repeat' split) <;> first | rfl | (exfalso; omega)) (by decide) rfl : ∀ S, Tr kK kV (([((kNum aN), oT, bL)] : List LI) ++ S) iT (([] : List LI) ++ S) (iT + 1))
      refine cVv (As := []) (rest := []) S Y (x_X5_step (l := l) I hW hT hQ hN hi_40947) cw_X5_step km5_49 (I.opo (k := 2) (j := 0) (by decide) rfl).choose_spec.1 ok_X5.1 rfl rfl ⟨Nat.le_of_ble_eq_true rfl, Nat.le_of_ble_eq_true rfl⟩ hl.1 rfl (Nat.le_of_ble_eq_true rfl) ⟨Nat.le_of_ble_eq_true rfl, Nat.le_of_ble_eq_true rfl⟩ dX5_readNumber_47 (fun L_40949 f_40950 H locs I Y => ?_)
      refine lv_iconst (v := 1) hx hb dX5_readNumber_50 (by decide) ?_
      exact prI (post := fun r L1 f1 => ∃ j2 : Nat, ∃ fk2 : Int, ∃ fp2 : Int, bn 0 1 r ∧ SH (spC ((RF 30 t, fz (pp nL) (pp (kN : Int)) (pp ((j2 + 1 : Nat) : Int)) (pp (kK j2)) (pp (kP j2)) (pp (kV j2)) (pp lw) (pp fk2) (pp fp2), tz (EQ bT) (RW kN kK) (RW kN kP) (RW kN kV), sc) : RS) fc tc w q) nnC G ad L1 f1 ∧ RDP kK kV kP ([((kNum aN), oT, bL)] : List LI) iT j2 kN fk fp fk2 fp2 r) S Y rfl (by decide) (by decide) hA1 ⟨(iT + 1), fk, fp, bn_w (show bn 1 1 (1 : Int32) from bn_k (by decide)) (by decide), I, (Or.inl ⟨rfl, tr_40948, hi_40947, (by have u1 := tv_40922; have u2 := tv_40924; have u3 := tv_40926; have u4 := tv_40928; have u5 := tv_40930; have u6 := tv_40932; have u7 := tv_40934; have u8 := tv_40936; have u9 := tv_40938; have u10 := (show v_40928.toInt = 1000 from by rw [c_40940]; rfl); have u11 := hi; have u12 := hN.1; have u13 := hN.2.1; have u14 := ha; have u15 := hi_40947; omega), rfl, rfl⟩)⟩ dX5_readNumber_51
    · have B_40944 : bn 0 0 r_40942 := bn_w (bn_eq c_40943 (show bn 0 0 (0 : Int32) from bn_k (by decide))) (by decide)
      refine lv_aload_n hx hb dX5_readNumber_28 rfl (lv_at hl 0 rfl) ?_
      refine lv_iconst (v := 2) hx hb dX5_readNumber_29 (by decide) ?_
      refine cVi (As := [.int 2]) (rest := []) S Y (x_X5_fail (l := l) I hW hT hQ) cw_X5_fail km5_121 p_ad_2_0 ok_X5.1 rfl rfl ⟨Nat.le_of_ble_eq_true rfl, Nat.le_of_ble_eq_true rfl⟩ hl.1 rfl (Nat.le_of_ble_eq_true rfl) ⟨Nat.le_of_ble_eq_true rfl, Nat.le_of_ble_eq_true rfl⟩ dX5_readNumber_30 (fun r_40953 L_40951 f_40952 H locs hr_40953 Y => ?_)
      obtain ⟨er_40953, I⟩ := hr_40953
      exact prI (post := fun r L1 f1 => ∃ j2 : Nat, ∃ fk2 : Int, ∃ fp2 : Int, bn 0 1 r ∧ SH (spC ((RF 30 t, fz (pp nL) (pp (kN : Int)) (pp ((j2 + 1 : Nat) : Int)) (pp (kK j2)) (pp (kP j2)) (pp (kV j2)) (pp lw) (pp fk2) (pp fp2), tz (EQ bT) (RW kN kK) (RW kN kP) (RW kN kV), sc) : RS) fc tc w q) nnC G ad L1 f1 ∧ RDP kK kV kP ([((kNum aN), oT, bL)] : List LI) iT j2 kN fk fp fk2 fp2 r) S Y (nw_b (bn_w er_40953 (by decide))) (by decide) (by decide) hA1 ⟨iT, ((2 : Int32).toInt), (kP iT), bn_w er_40953 (by decide), I, (Or.inr ⟨(bn00 er_40953), (TrN (Y := ([] : List LI)) (f := 2) (a := 0) (its := []) (d := 0) (show ∀ S, Tr kK kV (([((kNum aN), oT, bL)] : List LI) ++ S) iT (([((kNum aN), oT, bL)] : List LI) ++ S) iT from fun _ => Tr_0) (by have u1 := tv_40922; have u2 := tv_40924; have u3 := tv_40926; have u4 := tv_40928; have u5 := tv_40930; have u6 := tv_40932; have u7 := tv_40934; have u8 := tv_40936; have u9 := tv_40938; have u10 := (show v_40928.toInt = 1000 from by rw [c_40940]; rfl); have u11 := hi; have u12 := hN.1; have u13 := hN.2.1; have u14 := ha; have u15 := (win_f er_40942 c_40943); have u16 := b_i2.1; have u17 := b_i2.2; have u18 := b_i3.1; have u19 := b_i3.2; unfold gx; simp only [isCmp] <;> (repeat' split) <;> first | rfl | (exfalso; omega)) (by decide)), (by decide), rfl⟩)⟩ dX5_readNumber_33
  · refine lv_aload_n hx hb dX5_readNumber_10 rfl (lv_at hl 0 rfl) ?_
    refine lv_iconst (v := 1) hx hb dX5_readNumber_11 (by decide) ?_
    refine cVi (As := [.int 1]) (rest := []) S Y (x_X5_fail (l := l) I hW hT hQ) cw_X5_fail km5_121 p_ad_2_0 ok_X5.1 rfl rfl ⟨Nat.le_of_ble_eq_true rfl, Nat.le_of_ble_eq_true rfl⟩ hl.1 rfl (Nat.le_of_ble_eq_true rfl) ⟨Nat.le_of_ble_eq_true rfl, Nat.le_of_ble_eq_true rfl⟩ dX5_readNumber_12 (fun r_40956 L_40954 f_40955 H locs hr_40956 Y => ?_)
    obtain ⟨er_40956, I⟩ := hr_40956
    exact prI (post := fun r L1 f1 => ∃ j2 : Nat, ∃ fk2 : Int, ∃ fp2 : Int, bn 0 1 r ∧ SH (spC ((RF 30 t, fz (pp nL) (pp (kN : Int)) (pp ((j2 + 1 : Nat) : Int)) (pp (kK j2)) (pp (kP j2)) (pp (kV j2)) (pp lw) (pp fk2) (pp fp2), tz (EQ bT) (RW kN kK) (RW kN kP) (RW kN kV), sc) : RS) fc tc w q) nnC G ad L1 f1 ∧ RDP kK kV kP ([((kNum aN), oT, bL)] : List LI) iT j2 kN fk fp fk2 fp2 r) S Y (nw_b (bn_w er_40956 (by decide))) (by decide) (by decide) hA1 ⟨iT, ((1 : Int32).toInt), (kP iT), bn_w er_40956 (by decide), I, (Or.inr ⟨(bn00 er_40956), (TrN (Y := ([] : List LI)) (f := 1) (a := 0) (its := []) (d := 0) (show ∀ S, Tr kK kV (([((kNum aN), oT, bL)] : List LI) ++ S) iT (([((kNum aN), oT, bL)] : List LI) ++ S) iT from fun _ => Tr_0) (by have u1 := tv_40922; have u2 := tv_40924; have u3 := tv_40926; have u4 := tv_40928; have u5 := tv_40930; have u6 := tv_40932; have u7 := tv_40934; have u8 := tv_40936; have u9 := tv_40938; have u10 := (show v_40928.toInt ≠ 1000 from fun z => c_40940 (Int32.toInt_inj.mp (z.trans rfl))); have u11 := hi; have u12 := hN.1; have u13 := hN.2.1; have u14 := ha; unfold gx; simp only [isCmp] <;> (repeat' split) <;> first | rfl | (exfalso; omega)) (by decide)), (by decide), rfl⟩)⟩ dX5_readNumber_15
set_option maxHeartbeats 4000000 in
set_option maxRecDepth 100000 in
theorem x_X5_readKnee {l : Launch} {G : GG}  {L : List Nat} {f : HF} {ad : Nat → Nat → Nat} {nL : Int} {lw : Int} {fk : Int} {fp : Int} {kN : Nat} {kK : Nat → Int} {kP : Nat → Int} {kV : Nat → Int} {bT : Nat → Int32} {fc : Int × Int} {tc w : Nat → Int × Int} {q : Nat → (Nat → Int32) → Prop} {t : Nat} {iT oT : Nat} {bL : Bool} {sc : Nat → SG} (I : SH (spC ((RF 30 t, fz (pp nL) (pp (kN : Int)) (pp ((iT + 1 : Nat) : Int)) (pp (kK iT)) (pp (kP iT)) (pp (kV iT)) (pp lw) (pp fk) (pp fp), tz (EQ bT) (RW kN kK) (RW kN kP) (RW kN kV), sc) : RS) fc tc w q) nnC G ad L f) (hW : WBp w 8) (hT : WBp tc 4) (hQ : QIp q) (ht : t < 4) (hN : RDH kK kN) (hi : iT < kN) : PMi l yX5_readKnee cX5_readKnee 1 .boolean 2 0 0 G [.ref (ad 2 0)] L f (fun r L1 f1 => ∃ j2 : Nat, ∃ fk2 : Int, ∃ fp2 : Int, bn 0 1 r ∧ SH (spC ((RF 30 t, fz (pp nL) (pp (kN : Int)) (pp ((j2 + 1 : Nat) : Int)) (pp (kK j2)) (pp (kP j2)) (pp (kV j2)) (pp lw) (pp fk2) (pp fp2), tz (EQ bT) (RW kN kK) (RW kN kP) (RW kN kV), sc) : RS) fc tc w q) nnC G ad L1 f1 ∧ RDP kK kV kP ([(kKnee, oT, bL)] : List LI) iT j2 kN fk fp fk2 fp2 r) := by
  refine PMi.of (post := fun r L1 f1 => ∃ j2 : Nat, ∃ fk2 : Int, ∃ fp2 : Int, bn 0 1 r ∧ SH (spC ((RF 30 t, fz (pp nL) (pp (kN : Int)) (pp ((j2 + 1 : Nat) : Int)) (pp (kK j2)) (pp (kP j2)) (pp (kV j2)) (pp lw) (pp fk2) (pp fp2), tz (EQ bT) (RW kN kK) (RW kN kP) (RW kN kV), sc) : RS) fc tc w q) nnC G ad L1 f1 ∧ RDP kK kV kP ([(kKnee, oT, bL)] : List LI) iT j2 kN fk fp fk2 fp2 r) (own := RX5) (by decide) rfl (Nat.le_of_ble_eq_true rfl) (fun sz p e s m args below meth c A ls hA1 hname S Y hl => ?_)
  have hx := S.hx
  have hb := S.hb
  have hl : lv_has ls 1 [(0, .ref (ad 2 0))] := hl
  refine lv_aload_n hx hb dX5_readKnee_0 rfl (lv_at hl 0 rfl) ?_
  obtain ⟨v_41031, v_41033, v_41035, v_41037, v_41039, v_41041, v_41043, v_41045, v_41047, p_ad_2_0, b_41032, b_41034, b_41036, b_41038, b_41040, b_41042, b_41044, b_41046, b_41048⟩ := opnC_2r (j := 0) I (by decide)
  have p_ad_2_0 : pt L f (ad 2 0) (.inr (5, [.ref (ad 50 0), .ref (ad 51 0), .ref (ad 52 0), .ref (ad 53 0), .int v_41031, .int v_41033, .int v_41035, .int v_41037, .int v_41039, .int v_41041, .int v_41043, .ref (ad 30 t), .int v_41045, .int v_41047])) := p_ad_2_0
  have tv_41031 : v_41031.toInt = nL := lim_eq b_41032
  have tv_41033 : v_41033.toInt = (kN : Int) := lim_eq b_41034
  have tv_41035 : v_41035.toInt = ((iT + 1 : Nat) : Int) := lim_eq b_41036
  have tv_41037 : v_41037.toInt = (kK iT) := lim_eq b_41038
  have tv_41039 : v_41039.toInt = (kP iT) := lim_eq b_41040
  have tv_41041 : v_41041.toInt = (kV iT) := lim_eq b_41042
  have tv_41043 : v_41043.toInt = lw := lim_eq b_41044
  have tv_41045 : v_41045.toInt = fk := lim_eq b_41046
  have tv_41047 : v_41047.toInt = fp := lim_eq b_41048
  refine pg_get S Y ok_X5 7 (by decide) kf5_52 (v := .int v_41037) p_ad_2_0 rfl dX5_readKnee_1 ?_
  refine lv_bipush (v := 20) hx hb dX5_readKnee_4 (by decide) ?_
  refine lv_icmp_eq (tgt := 24) hx hb dX5_readKnee_6 (by decide) (fun c_41049 => ?_) (fun c_41049 => ?_)
  · have B_41050 : bn 20 20 v_41037 := bn_w (bn_eq c_41049 (show bn 20 20 (20 : Int32) from bn_k (by decide))) (by decide)
    refine lv_aload_n hx hb dX5_readKnee_24 rfl (lv_at hl 0 rfl) ?_
    refine pg_get S Y ok_X5 11 (by decide) kf5_34 (v := .ref (ad 30 t)) p_ad_2_0 rfl dX5_readKnee_25 ?_
    refine lv_iconst (v := 3) hx hb dX5_readKnee_28 (by decide) ?_
    refine lv_aload_n hx hb dX5_readKnee_29 rfl (lv_at hl 0 rfl) ?_
    refine pg_get S Y ok_X5 7 (by decide) kf5_52 (v := .int v_41037) p_ad_2_0 rfl dX5_readKnee_30 ?_
    refine lv_bipush (v := 20) hx hb dX5_readKnee_33 (by decide) ?_
    refine lv_icmp_ne (tgt := 42) hx hb dX5_readKnee_35 (by decide) (fun h => absurd c_41049 h) (fun _ => ?_)
    refine lv_iconst (v := 0) hx hb dX5_readKnee_38 (by decide) ?_
    refine lv_goto (tgt := 43) hx hb dX5_readKnee_39 (by decide) ?_
    refine cVv (As := [.int 3, .int 0]) (rest := []) S Y (x_X7_setClause (l := l) (j := t) I hW hT hQ (show t < 8 from by omega)) cw_X7_setClause km5_163 (I.opo (k := 30) (j := t) (show t < 8 from by omega) rfl).choose_spec.1 ok_X7.1 rfl rfl ⟨Nat.le_of_ble_eq_true rfl, Nat.le_of_ble_eq_true rfl⟩ hl.1 rfl (Nat.le_of_ble_eq_true rfl) ⟨Nat.le_of_ble_eq_true rfl, Nat.le_of_ble_eq_true rfl⟩ dX5_readKnee_43 (fun L_41051 f_41052 H locs I Y => ?_)
    refine lv_aload_n hx hb dX5_readKnee_46 rfl (lv_at hl 0 rfl) ?_
    have hi_41053 : iT + 1 < kN := RDH_lt hN hi (by have u1 := tv_41031; have u2 := tv_41033; have u3 := tv_41035; have u4 := tv_41037; have u5 := tv_41039; have u6 := tv_41041; have u7 := tv_41043; have u8 := tv_41045; have u9 := tv_41047; have u10 := (show v_41037.toInt = 20 from by rw [c_41049]; rfl); have u11 := hi; have u12 := hN.1; have u13 := hN.2.1; omega)
    have tr_41054 : ∀ S, Tr kK kV (([(kKnee, oT, bL)] : List LI) ++ S) iT (([] : List LI) ++ S) (iT + 1) := (TrY (Y := ([] : List LI)) (a := 1) (its := []) (d := 0) (show ∀ S, Tr kK kV (([(kKnee, oT, bL)] : List LI) ++ S) iT (([(kKnee, oT, bL)] : List LI) ++ S) iT from fun _ => Tr_0) (by have u1 := tv_41031; have u2 := tv_41033; have u3 := tv_41035; have u4 := tv_41037; have u5 := tv_41039; have u6 := tv_41041; have u7 := tv_41043; have u8 := tv_41045; have u9 := tv_41047; have u10 := (show v_41037.toInt = 20 from by rw [c_41049]; rfl); have u11 := hi; have u12 := hN.1; have u13 := hN.2.1; unfold gx; simp only [isCmp] <;> (repeat' split) <;> first | rfl | (exfalso; omega)) (by decide) rfl : ∀ S, Tr kK kV (([(kKnee, oT, bL)] : List LI) ++ S) iT (([] : List LI) ++ S) (iT + 1))
    refine cVv (As := []) (rest := []) S Y (x_X5_step (l := l) I hW hT hQ hN hi_41053) cw_X5_step km5_49 (I.opo (k := 2) (j := 0) (by decide) rfl).choose_spec.1 ok_X5.1 rfl rfl ⟨Nat.le_of_ble_eq_true rfl, Nat.le_of_ble_eq_true rfl⟩ hl.1 rfl (Nat.le_of_ble_eq_true rfl) ⟨Nat.le_of_ble_eq_true rfl, Nat.le_of_ble_eq_true rfl⟩ dX5_readKnee_47 (fun L_41055 f_41056 H locs I Y => ?_)
    refine lv_iconst (v := 1) hx hb dX5_readKnee_50 (by decide) ?_
    exact prI (post := fun r L1 f1 => ∃ j2 : Nat, ∃ fk2 : Int, ∃ fp2 : Int, bn 0 1 r ∧ SH (spC ((RF 30 t, fz (pp nL) (pp (kN : Int)) (pp ((j2 + 1 : Nat) : Int)) (pp (kK j2)) (pp (kP j2)) (pp (kV j2)) (pp lw) (pp fk2) (pp fp2), tz (EQ bT) (RW kN kK) (RW kN kP) (RW kN kV), sc) : RS) fc tc w q) nnC G ad L1 f1 ∧ RDP kK kV kP ([(kKnee, oT, bL)] : List LI) iT j2 kN fk fp fk2 fp2 r) S Y rfl (by decide) (by decide) hA1 ⟨(iT + 1), fk, fp, bn_w (show bn 1 1 (1 : Int32) from bn_k (by decide)) (by decide), I, (Or.inl ⟨rfl, tr_41054, hi_41053, (by have u1 := tv_41031; have u2 := tv_41033; have u3 := tv_41035; have u4 := tv_41037; have u5 := tv_41039; have u6 := tv_41041; have u7 := tv_41043; have u8 := tv_41045; have u9 := tv_41047; have u10 := (show v_41037.toInt = 20 from by rw [c_41049]; rfl); have u11 := hi; have u12 := hN.1; have u13 := hN.2.1; have u14 := hi_41053; omega), rfl, rfl⟩)⟩ dX5_readKnee_51
  · refine lv_aload_n hx hb dX5_readKnee_9 rfl (lv_at hl 0 rfl) ?_
    refine pg_get S Y ok_X5 7 (by decide) kf5_52 (v := .int v_41037) p_ad_2_0 rfl dX5_readKnee_10 ?_
    refine lv_bipush (v := 21) hx hb dX5_readKnee_13 (by decide) ?_
    refine lv_icmp_eq (tgt := 24) hx hb dX5_readKnee_15 (by decide) (fun c_41057 => ?_) (fun c_41057 => ?_)
    · have B_41058 : bn 21 21 v_41037 := bn_w (bn_eq c_41057 (show bn 21 21 (21 : Int32) from bn_k (by decide))) (by decide)
      refine lv_aload_n hx hb dX5_readKnee_24 rfl (lv_at hl 0 rfl) ?_
      refine pg_get S Y ok_X5 11 (by decide) kf5_34 (v := .ref (ad 30 t)) p_ad_2_0 rfl dX5_readKnee_25 ?_
      refine lv_iconst (v := 3) hx hb dX5_readKnee_28 (by decide) ?_
      refine lv_aload_n hx hb dX5_readKnee_29 rfl (lv_at hl 0 rfl) ?_
      refine pg_get S Y ok_X5 7 (by decide) kf5_52 (v := .int v_41037) p_ad_2_0 rfl dX5_readKnee_30 ?_
      refine lv_bipush (v := 20) hx hb dX5_readKnee_33 (by decide) ?_
      refine lv_icmp_ne (tgt := 42) hx hb dX5_readKnee_35 (by decide) (fun _ => ?_) (fun h => absurd h c_41049)
      refine lv_iconst (v := 1) hx hb dX5_readKnee_42 (by decide) ?_
      refine cVv (As := [.int 3, .int 1]) (rest := []) S Y (x_X7_setClause (l := l) (j := t) I hW hT hQ (show t < 8 from by omega)) cw_X7_setClause km5_163 (I.opo (k := 30) (j := t) (show t < 8 from by omega) rfl).choose_spec.1 ok_X7.1 rfl rfl ⟨Nat.le_of_ble_eq_true rfl, Nat.le_of_ble_eq_true rfl⟩ hl.1 rfl (Nat.le_of_ble_eq_true rfl) ⟨Nat.le_of_ble_eq_true rfl, Nat.le_of_ble_eq_true rfl⟩ dX5_readKnee_43 (fun L_41059 f_41060 H locs I Y => ?_)
      refine lv_aload_n hx hb dX5_readKnee_46 rfl (lv_at hl 0 rfl) ?_
      have hi_41061 : iT + 1 < kN := RDH_lt hN hi (by have u1 := tv_41031; have u2 := tv_41033; have u3 := tv_41035; have u4 := tv_41037; have u5 := tv_41039; have u6 := tv_41041; have u7 := tv_41043; have u8 := tv_41045; have u9 := tv_41047; have u10 := (show v_41037.toInt ≠ 20 from fun z => c_41049 (Int32.toInt_inj.mp (z.trans rfl))); have u11 := (show v_41037.toInt = 21 from by rw [c_41057]; rfl); have u12 := hi; have u13 := hN.1; have u14 := hN.2.1; omega)
      have tr_41062 : ∀ S, Tr kK kV (([(kKnee, oT, bL)] : List LI) ++ S) iT (([] : List LI) ++ S) (iT + 1) := (TrY (Y := ([] : List LI)) (a := 1) (its := []) (d := 0) (show ∀ S, Tr kK kV (([(kKnee, oT, bL)] : List LI) ++ S) iT (([(kKnee, oT, bL)] : List LI) ++ S) iT from fun _ => Tr_0) (by have u1 := tv_41031; have u2 := tv_41033; have u3 := tv_41035; have u4 := tv_41037; have u5 := tv_41039; have u6 := tv_41041; have u7 := tv_41043; have u8 := tv_41045; have u9 := tv_41047; have u10 := (show v_41037.toInt ≠ 20 from fun z => c_41049 (Int32.toInt_inj.mp (z.trans rfl))); have u11 := (show v_41037.toInt = 21 from by rw [c_41057]; rfl); have u12 := hi; have u13 := hN.1; have u14 := hN.2.1; unfold gx; simp only [isCmp] <;> (repeat' split) <;> first | rfl | (exfalso; omega)) (by decide) rfl : ∀ S, Tr kK kV (([(kKnee, oT, bL)] : List LI) ++ S) iT (([] : List LI) ++ S) (iT + 1))
      refine cVv (As := []) (rest := []) S Y (x_X5_step (l := l) I hW hT hQ hN hi_41061) cw_X5_step km5_49 (I.opo (k := 2) (j := 0) (by decide) rfl).choose_spec.1 ok_X5.1 rfl rfl ⟨Nat.le_of_ble_eq_true rfl, Nat.le_of_ble_eq_true rfl⟩ hl.1 rfl (Nat.le_of_ble_eq_true rfl) ⟨Nat.le_of_ble_eq_true rfl, Nat.le_of_ble_eq_true rfl⟩ dX5_readKnee_47 (fun L_41063 f_41064 H locs I Y => ?_)
      refine lv_iconst (v := 1) hx hb dX5_readKnee_50 (by decide) ?_
      exact prI (post := fun r L1 f1 => ∃ j2 : Nat, ∃ fk2 : Int, ∃ fp2 : Int, bn 0 1 r ∧ SH (spC ((RF 30 t, fz (pp nL) (pp (kN : Int)) (pp ((j2 + 1 : Nat) : Int)) (pp (kK j2)) (pp (kP j2)) (pp (kV j2)) (pp lw) (pp fk2) (pp fp2), tz (EQ bT) (RW kN kK) (RW kN kP) (RW kN kV), sc) : RS) fc tc w q) nnC G ad L1 f1 ∧ RDP kK kV kP ([(kKnee, oT, bL)] : List LI) iT j2 kN fk fp fk2 fp2 r) S Y rfl (by decide) (by decide) hA1 ⟨(iT + 1), fk, fp, bn_w (show bn 1 1 (1 : Int32) from bn_k (by decide)) (by decide), I, (Or.inl ⟨rfl, tr_41062, hi_41061, (by have u1 := tv_41031; have u2 := tv_41033; have u3 := tv_41035; have u4 := tv_41037; have u5 := tv_41039; have u6 := tv_41041; have u7 := tv_41043; have u8 := tv_41045; have u9 := tv_41047; have u10 := (show v_41037.toInt ≠ 20 from fun z => c_41049 (Int32.toInt_inj.mp (z.trans rfl))); have u11 := (show v_41037.toInt = 21 from by rw [c_41057]; rfl); have u12 := hi; have u13 := hN.1; have u14 := hN.2.1; have u15 := hi_41061; omega), rfl, rfl⟩)⟩ dX5_readKnee_51
    · refine lv_aload_n hx hb dX5_readKnee_18 rfl (lv_at hl 0 rfl) ?_
      refine lv_iconst (v := 1) hx hb dX5_readKnee_19 (by decide) ?_
      refine cVi (As := [.int 1]) (rest := []) S Y (x_X5_fail (l := l) I hW hT hQ) cw_X5_fail km5_121 p_ad_2_0 ok_X5.1 rfl rfl ⟨Nat.le_of_ble_eq_true rfl, Nat.le_of_ble_eq_true rfl⟩ hl.1 rfl (Nat.le_of_ble_eq_true rfl) ⟨Nat.le_of_ble_eq_true rfl, Nat.le_of_ble_eq_true rfl⟩ dX5_readKnee_20 (fun r_41067 L_41065 f_41066 H locs hr_41067 Y => ?_)
      obtain ⟨er_41067, I⟩ := hr_41067
      exact prI (post := fun r L1 f1 => ∃ j2 : Nat, ∃ fk2 : Int, ∃ fp2 : Int, bn 0 1 r ∧ SH (spC ((RF 30 t, fz (pp nL) (pp (kN : Int)) (pp ((j2 + 1 : Nat) : Int)) (pp (kK j2)) (pp (kP j2)) (pp (kV j2)) (pp lw) (pp fk2) (pp fp2), tz (EQ bT) (RW kN kK) (RW kN kP) (RW kN kV), sc) : RS) fc tc w q) nnC G ad L1 f1 ∧ RDP kK kV kP ([(kKnee, oT, bL)] : List LI) iT j2 kN fk fp fk2 fp2 r) S Y (nw_b (bn_w er_41067 (by decide))) (by decide) (by decide) hA1 ⟨iT, ((1 : Int32).toInt), (kP iT), bn_w er_41067 (by decide), I, (Or.inr ⟨(bn00 er_41067), (TrN (Y := ([] : List LI)) (f := 1) (a := 0) (its := []) (d := 0) (show ∀ S, Tr kK kV (([(kKnee, oT, bL)] : List LI) ++ S) iT (([(kKnee, oT, bL)] : List LI) ++ S) iT from fun _ => Tr_0) (by have u1 := tv_41031; have u2 := tv_41033; have u3 := tv_41035; have u4 := tv_41037; have u5 := tv_41039; have u6 := tv_41041; have u7 := tv_41043; have u8 := tv_41045; have u9 := tv_41047; have u10 := (show v_41037.toInt ≠ 20 from fun z => c_41049 (Int32.toInt_inj.mp (z.trans rfl))); have u11 := (show v_41037.toInt ≠ 21 from fun z => c_41057 (Int32.toInt_inj.mp (z.trans rfl))); have u12 := hi; have u13 := hN.1; have u14 := hN.2.1; unfold gx; simp only [isCmp] <;> (repeat' split) <;> first | rfl | (exfalso; omega)) (by decide)), (by decide), rfl⟩)⟩ dX5_readKnee_23
set_option maxHeartbeats 4000000 in
set_option maxRecDepth 100000 in
theorem x_X5_readDeed {l : Launch} {G : GG}  {L : List Nat} {f : HF} {ad : Nat → Nat → Nat} {nL : Int} {lw : Int} {fk : Int} {fp : Int} {kN : Nat} {kK : Nat → Int} {kP : Nat → Int} {kV : Nat → Int} {bT : Nat → Int32} {fc : Int × Int} {tc w : Nat → Int × Int} {q : Nat → (Nat → Int32) → Prop} {t : Nat} {i1 : Int32} {iT oT : Nat} {bL : Bool} {sc : Nat → SG} {X9 : List LI} (I : SH (spC ((RF 30 t, fz (pp nL) (pp (kN : Int)) (pp ((iT + 1 : Nat) : Int)) (pp (kK iT)) (pp (kP iT)) (pp (kV iT)) (pp lw) (pp fk) (pp fp), tz (EQ bT) (RW kN kK) (RW kN kP) (RW kN kV), sc) : RS) fc tc w q) nnC G ad L f) (hW : WBp w 8) (hT : WBp tc 4) (hQ : QIp q) (ht : t < 4) (b_i1 : bn 3 9 i1) (hN : RDH kK kN) (hi : iT < kN) (hX : X9 = lay oT bL (cbody i1.toInt)) : PMi l yX5_readDeed cX5_readDeed 2 .boolean 3 0 0 G [.ref (ad 2 0), .int i1] L f (fun r L1 f1 => ∃ j2 : Nat, ∃ fk2 : Int, ∃ fp2 : Int, bn 0 1 r ∧ SH (spC ((RF 30 t, fz (pp nL) (pp (kN : Int)) (pp ((j2 + 1 : Nat) : Int)) (pp (kK j2)) (pp (kP j2)) (pp (kV j2)) (pp lw) (pp fk2) (pp fp2), tz (EQ bT) (RW kN kK) (RW kN kP) (RW kN kV), sc) : RS) fc tc w q) nnC G ad L1 f1 ∧ RDP kK kV kP X9 iT j2 kN fk fp fk2 fp2 r) := by
  refine PMi.of (post := fun r L1 f1 => ∃ j2 : Nat, ∃ fk2 : Int, ∃ fp2 : Int, bn 0 1 r ∧ SH (spC ((RF 30 t, fz (pp nL) (pp (kN : Int)) (pp ((j2 + 1 : Nat) : Int)) (pp (kK j2)) (pp (kP j2)) (pp (kV j2)) (pp lw) (pp fk2) (pp fp2), tz (EQ bT) (RW kN kK) (RW kN kP) (RW kN kV), sc) : RS) fc tc w q) nnC G ad L1 f1 ∧ RDP kK kV kP X9 iT j2 kN fk fp fk2 fp2 r) (own := RX5) (by decide) rfl (Nat.le_of_ble_eq_true rfl) (fun sz p e s m args below meth c A ls hA1 hname S Y hl => ?_)
  have hx := S.hx
  have hb := S.hb
  have hl : lv_has ls 2 [(0, .ref (ad 2 0)), (1, .int i1)] := hl
  refine lv_iload_n hx hb dX5_readDeed_0 rfl (lv_at hl 1 rfl) ?_
  rcases sw_3_9 i1 with h_41396 | h_41396 | h_41396 | h_41396 | h_41396 | h_41396 | h_41396 | h_41396
  · refine lv_fold (z := 3) h_41396 ?_
    refine lv_tableIn (off := 43) (tgt := 44) hx hb dX5_readDeed_1 (by decide) (by decide) (by decide) (by decide) ?_
    have eX : X9 = ([((kNum 9), oT, bL), ((kEx 12), oT, bL), ((kNum 99), oT, bL)] : List LI) := by rw [hX, h_41396, show (3 : Int32).toInt = 3 from rfl, show cbody 3 = [(kNum 9), (kEx 12), (kNum 99)] from by decide]; rfl
    have tr0 : ∀ S, Tr kK kV (X9 ++ S) iT (([((kNum 9), oT, bL), ((kEx 12), oT, bL), ((kNum 99), oT, bL)] : List LI) ++ S) iT := by rw [eX]; exact fun _ => Tr_0
    refine lv_aload_n hx hb dX5_readDeed_44 rfl (lv_at hl 0 rfl) ?_
    refine lv_iconst (v := 1) hx hb dX5_readDeed_45 (by decide) ?_
    refine lv_iconst (v := 0) hx hb dX5_readDeed_46 (by decide) ?_
    refine lv_bipush (v := 9) hx hb dX5_readDeed_47 (by decide) ?_
    refine cVi (As := [.int 1, .int 0, .int 9]) (rest := []) S Y (x_X5_readNumber (l := l) (t := t) (oT := oT) (bL := bL) (aN := 9) I hW hT hQ ht (bn_w (show bn 0 0 (0 : Int32) from bn_k (by decide)) (by decide)) (bn_w (show bn 9 9 (9 : Int32) from bn_k (by decide)) (by decide)) hN hi (by decide)) cw_X5_readNumber km5_154 (I.opo (k := 2) (j := 0) (by decide) rfl).choose_spec.1 ok_X5.1 rfl rfl ⟨Nat.le_of_ble_eq_true rfl, Nat.le_of_ble_eq_true rfl⟩ hl.1 rfl (Nat.le_of_ble_eq_true rfl) ⟨Nat.le_of_ble_eq_true rfl, Nat.le_of_ble_eq_true rfl⟩ dX5_readDeed_49 (fun r_41399 L_41397 f_41398 H locs hr_41399 Y => ?_)
    obtain ⟨j2_41400, fk2_41401, fp2_41402, er_41399, I, eR_41403⟩ := hr_41399
    refine lv_if_eq (tgt := 79) hx hb dX5_readDeed_52 (by decide) (fun c_41404 => ?_) (fun c_41404 => ?_)
    · have bd_41405 : ∀ S, LL kK kV (X9 ++ S) iT (fk2_41401, j2_41400) := TrB (Z := ([((kNum 9), oT, bL)] : List LI)) (Y := ([((kEx 12), oT, bL), ((kNum 99), oT, bL)] : List LI)) tr0 (RDP_f eR_41403 c_41404).1
      have B_41406 : bn 0 0 r_41399 := bn_w (bn_eq c_41404 (show bn 0 0 (0 : Int32) from bn_k (by decide))) (by decide)
      refine lv_iconst (v := 0) hx hb dX5_readDeed_79 (by decide) ?_
      exact prI (post := fun r L1 f1 => ∃ j2 : Nat, ∃ fk2 : Int, ∃ fp2 : Int, bn 0 1 r ∧ SH (spC ((RF 30 t, fz (pp nL) (pp (kN : Int)) (pp ((j2 + 1 : Nat) : Int)) (pp (kK j2)) (pp (kP j2)) (pp (kV j2)) (pp lw) (pp fk2) (pp fp2), tz (EQ bT) (RW kN kK) (RW kN kP) (RW kN kV), sc) : RS) fc tc w q) nnC G ad L1 f1 ∧ RDP kK kV kP X9 iT j2 kN fk fp fk2 fp2 r) S Y rfl (by decide) (by decide) hA1 ⟨j2_41400, fk2_41401, fp2_41402, bn_w (show bn 0 0 (0 : Int32) from bn_k (by decide)) (by decide), I, (Or.inr ⟨rfl, bd_41405, (RDP_f eR_41403 c_41404).2.1, (RDP_f eR_41403 c_41404).2.2⟩)⟩ dX5_readDeed_80
    · obtain ⟨hr_41410, tg_41407, hj_41408, hl_41409, rfl, rfl⟩ := RDP_t eR_41403 c_41404
      have tr_41411 : ∀ S, Tr kK kV (X9 ++ S) iT (([((kEx 12), oT, bL), ((kNum 99), oT, bL)] : List LI) ++ S) j2_41400 := TrC (Z := ([((kNum 9), oT, bL)] : List LI)) (Y := ([((kEx 12), oT, bL), ((kNum 99), oT, bL)] : List LI)) tr0 tg_41407
      have B_41412 : bn 1 1 r_41399 := bn_w (bn_nel c_41404 er_41399 (show bn 0 0 (0 : Int32) from bn_k (by decide))) (by decide)
      refine lv_aload_n hx hb dX5_readDeed_55 rfl (lv_at hl 0 rfl) ?_
      refine lv_bipush (v := 12) hx hb dX5_readDeed_56 (by decide) ?_
      refine cVi (As := [.int 12]) (rest := []) S Y (x_X5_expect (l := l) (oT := oT) (bL := bL) (eN := 12) I hW hT hQ hN hj_41408 rfl (by decide)) cw_X5_expect km5_140 (I.opo (k := 2) (j := 0) (by decide) rfl).choose_spec.1 ok_X5.1 rfl rfl ⟨Nat.le_of_ble_eq_true rfl, Nat.le_of_ble_eq_true rfl⟩ hl.1 rfl (Nat.le_of_ble_eq_true rfl) ⟨Nat.le_of_ble_eq_true rfl, Nat.le_of_ble_eq_true rfl⟩ dX5_readDeed_58 (fun r_41415 L_41413 f_41414 H locs hr_41415 Y => ?_)
      obtain ⟨j2_41416, fk2_41417, fp2_41418, er_41415, I, eR_41419⟩ := hr_41415
      refine lv_if_eq (tgt := 79) hx hb dX5_readDeed_61 (by decide) (fun c_41420 => ?_) (fun c_41420 => ?_)
      · have bd_41421 : ∀ S, LL kK kV (X9 ++ S) iT (fk2_41417, j2_41416) := TrB (Z := ([((kEx 12), oT, bL)] : List LI)) (Y := ([((kNum 99), oT, bL)] : List LI)) tr_41411 (RDP_f eR_41419 c_41420).1
        have B_41422 : bn 0 0 r_41415 := bn_w (bn_eq c_41420 (show bn 0 0 (0 : Int32) from bn_k (by decide))) (by decide)
        refine lv_iconst (v := 0) hx hb dX5_readDeed_79 (by decide) ?_
        exact prI (post := fun r L1 f1 => ∃ j2 : Nat, ∃ fk2 : Int, ∃ fp2 : Int, bn 0 1 r ∧ SH (spC ((RF 30 t, fz (pp nL) (pp (kN : Int)) (pp ((j2 + 1 : Nat) : Int)) (pp (kK j2)) (pp (kP j2)) (pp (kV j2)) (pp lw) (pp fk2) (pp fp2), tz (EQ bT) (RW kN kK) (RW kN kP) (RW kN kV), sc) : RS) fc tc w q) nnC G ad L1 f1 ∧ RDP kK kV kP X9 iT j2 kN fk fp fk2 fp2 r) S Y rfl (by decide) (by decide) hA1 ⟨j2_41416, fk2_41417, fp2_41418, bn_w (show bn 0 0 (0 : Int32) from bn_k (by decide)) (by decide), I, (Or.inr ⟨rfl, bd_41421, (RDP_f eR_41419 c_41420).2.1, (RDP_f eR_41419 c_41420).2.2⟩)⟩ dX5_readDeed_80
      · obtain ⟨hr_41426, tg_41423, hj_41424, hl_41425, rfl, rfl⟩ := RDP_t eR_41419 c_41420
        have tr_41427 : ∀ S, Tr kK kV (X9 ++ S) iT (([((kNum 99), oT, bL)] : List LI) ++ S) j2_41416 := TrC (Z := ([((kEx 12), oT, bL)] : List LI)) (Y := ([((kNum 99), oT, bL)] : List LI)) tr_41411 tg_41423
        have B_41428 : bn 1 1 r_41415 := bn_w (bn_nel c_41420 er_41415 (show bn 0 0 (0 : Int32) from bn_k (by decide))) (by decide)
        refine lv_aload_n hx hb dX5_readDeed_64 rfl (lv_at hl 0 rfl) ?_
        refine lv_iconst (v := 2) hx hb dX5_readDeed_65 (by decide) ?_
        refine lv_iconst (v := 0) hx hb dX5_readDeed_66 (by decide) ?_
        refine lv_bipush (v := 99) hx hb dX5_readDeed_67 (by decide) ?_
        refine cVi (As := [.int 2, .int 0, .int 99]) (rest := []) S Y (x_X5_readNumber (l := l) (t := t) (oT := oT) (bL := bL) (aN := 99) I hW hT hQ ht (bn_w (show bn 0 0 (0 : Int32) from bn_k (by decide)) (by decide)) (bn_w (show bn 99 99 (99 : Int32) from bn_k (by decide)) (by decide)) hN hj_41424 (by decide)) cw_X5_readNumber km5_154 (I.opo (k := 2) (j := 0) (by decide) rfl).choose_spec.1 ok_X5.1 rfl rfl ⟨Nat.le_of_ble_eq_true rfl, Nat.le_of_ble_eq_true rfl⟩ hl.1 rfl (Nat.le_of_ble_eq_true rfl) ⟨Nat.le_of_ble_eq_true rfl, Nat.le_of_ble_eq_true rfl⟩ dX5_readDeed_69 (fun r_41431 L_41429 f_41430 H locs hr_41431 Y => ?_)
        obtain ⟨j2_41432, fk2_41433, fp2_41434, er_41431, I, eR_41435⟩ := hr_41431
        refine lv_if_eq (tgt := 79) hx hb dX5_readDeed_72 (by decide) (fun c_41436 => ?_) (fun c_41436 => ?_)
        · have bd_41437 : ∀ S, LL kK kV (X9 ++ S) iT (fk2_41433, j2_41432) := TrB (Z := ([((kNum 99), oT, bL)] : List LI)) (Y := ([] : List LI)) tr_41427 (RDP_f eR_41435 c_41436).1
          have B_41438 : bn 0 0 r_41431 := bn_w (bn_eq c_41436 (show bn 0 0 (0 : Int32) from bn_k (by decide))) (by decide)
          refine lv_iconst (v := 0) hx hb dX5_readDeed_79 (by decide) ?_
          exact prI (post := fun r L1 f1 => ∃ j2 : Nat, ∃ fk2 : Int, ∃ fp2 : Int, bn 0 1 r ∧ SH (spC ((RF 30 t, fz (pp nL) (pp (kN : Int)) (pp ((j2 + 1 : Nat) : Int)) (pp (kK j2)) (pp (kP j2)) (pp (kV j2)) (pp lw) (pp fk2) (pp fp2), tz (EQ bT) (RW kN kK) (RW kN kP) (RW kN kV), sc) : RS) fc tc w q) nnC G ad L1 f1 ∧ RDP kK kV kP X9 iT j2 kN fk fp fk2 fp2 r) S Y rfl (by decide) (by decide) hA1 ⟨j2_41432, fk2_41433, fp2_41434, bn_w (show bn 0 0 (0 : Int32) from bn_k (by decide)) (by decide), I, (Or.inr ⟨rfl, bd_41437, (RDP_f eR_41435 c_41436).2.1, (RDP_f eR_41435 c_41436).2.2⟩)⟩ dX5_readDeed_80
        · obtain ⟨hr_41442, tg_41439, hj_41440, hl_41441, rfl, rfl⟩ := RDP_t eR_41435 c_41436
          have tr_41443 : ∀ S, Tr kK kV (X9 ++ S) iT (([] : List LI) ++ S) j2_41432 := TrC (Z := ([((kNum 99), oT, bL)] : List LI)) (Y := ([] : List LI)) tr_41427 tg_41439
          have B_41444 : bn 1 1 r_41431 := bn_w (bn_nel c_41436 er_41431 (show bn 0 0 (0 : Int32) from bn_k (by decide))) (by decide)
          refine lv_iconst (v := 1) hx hb dX5_readDeed_75 (by decide) ?_
          refine lv_goto (tgt := 80) hx hb dX5_readDeed_76 (by decide) ?_
          exact prI (post := fun r L1 f1 => ∃ j2 : Nat, ∃ fk2 : Int, ∃ fp2 : Int, bn 0 1 r ∧ SH (spC ((RF 30 t, fz (pp nL) (pp (kN : Int)) (pp ((j2 + 1 : Nat) : Int)) (pp (kK j2)) (pp (kP j2)) (pp (kV j2)) (pp lw) (pp fk2) (pp fp2), tz (EQ bT) (RW kN kK) (RW kN kP) (RW kN kV), sc) : RS) fc tc w q) nnC G ad L1 f1 ∧ RDP kK kV kP X9 iT j2 kN fk fp fk2 fp2 r) S Y rfl (by decide) (by decide) hA1 ⟨j2_41432, fk, fp, bn_w (show bn 1 1 (1 : Int32) from bn_k (by decide)) (by decide), I, (Or.inl ⟨rfl, tr_41443, hj_41440, (by have u1 := (show i1.toInt = 3 from by rw [h_41396]; rfl); have u2 := hi; have u3 := hN.1; have u4 := hN.2.1; have u5 := hj_41408; have u6 := hl_41409; have u7 := hj_41424; have u8 := hl_41425; have u9 := hj_41440; have u10 := hl_41441; omega), rfl, rfl⟩)⟩ dX5_readDeed_80
  · refine lv_fold (z := 4) h_41396 ?_
    refine lv_tableIn (off := 80) (tgt := 81) hx hb dX5_readDeed_1 (by decide) (by decide) (by decide) (by decide) ?_
    have eX : X9 = ([((kNum 5), oT, bL), ((kEx 19), oT, bL), ((kNum 5), oT, bL), (kKnee, oT, bL), ((kNum 1009), oT, bL)] : List LI) := by rw [hX, h_41396, show (4 : Int32).toInt = 4 from rfl, show cbody 4 = [(kNum 5), (kEx 19), (kNum 5), kKnee, (kNum 1009)] from by decide]; rfl
    have tr0 : ∀ S, Tr kK kV (X9 ++ S) iT (([((kNum 5), oT, bL), ((kEx 19), oT, bL), ((kNum 5), oT, bL), (kKnee, oT, bL), ((kNum 1009), oT, bL)] : List LI) ++ S) iT := by rw [eX]; exact fun _ => Tr_0
    refine lv_aload_n hx hb dX5_readDeed_81 rfl (lv_at hl 0 rfl) ?_
    refine lv_iconst (v := 1) hx hb dX5_readDeed_82 (by decide) ?_
    refine lv_iconst (v := 0) hx hb dX5_readDeed_83 (by decide) ?_
    refine lv_iconst (v := 5) hx hb dX5_readDeed_84 (by decide) ?_
    refine cVi (As := [.int 1, .int 0, .int 5]) (rest := []) S Y (x_X5_readNumber (l := l) (t := t) (oT := oT) (bL := bL) (aN := 5) I hW hT hQ ht (bn_w (show bn 0 0 (0 : Int32) from bn_k (by decide)) (by decide)) (bn_w (show bn 5 5 (5 : Int32) from bn_k (by decide)) (by decide)) hN hi (by decide)) cw_X5_readNumber km5_154 (I.opo (k := 2) (j := 0) (by decide) rfl).choose_spec.1 ok_X5.1 rfl rfl ⟨Nat.le_of_ble_eq_true rfl, Nat.le_of_ble_eq_true rfl⟩ hl.1 rfl (Nat.le_of_ble_eq_true rfl) ⟨Nat.le_of_ble_eq_true rfl, Nat.le_of_ble_eq_true rfl⟩ dX5_readDeed_85 (fun r_41447 L_41445 f_41446 H locs hr_41447 Y => ?_)
    obtain ⟨j2_41448, fk2_41449, fp2_41450, er_41447, I, eR_41451⟩ := hr_41447
    refine lv_if_eq (tgt := 132) hx hb dX5_readDeed_88 (by decide) (fun c_41452 => ?_) (fun c_41452 => ?_)
    · have bd_41453 : ∀ S, LL kK kV (X9 ++ S) iT (fk2_41449, j2_41448) := TrB (Z := ([((kNum 5), oT, bL)] : List LI)) (Y := ([((kEx 19), oT, bL), ((kNum 5), oT, bL), (kKnee, oT, bL), ((kNum 1009), oT, bL)] : List LI)) tr0 (RDP_f eR_41451 c_41452).1
      have B_41454 : bn 0 0 r_41447 := bn_w (bn_eq c_41452 (show bn 0 0 (0 : Int32) from bn_k (by decide))) (by decide)
      refine lv_iconst (v := 0) hx hb dX5_readDeed_132 (by decide) ?_
      exact prI (post := fun r L1 f1 => ∃ j2 : Nat, ∃ fk2 : Int, ∃ fp2 : Int, bn 0 1 r ∧ SH (spC ((RF 30 t, fz (pp nL) (pp (kN : Int)) (pp ((j2 + 1 : Nat) : Int)) (pp (kK j2)) (pp (kP j2)) (pp (kV j2)) (pp lw) (pp fk2) (pp fp2), tz (EQ bT) (RW kN kK) (RW kN kP) (RW kN kV), sc) : RS) fc tc w q) nnC G ad L1 f1 ∧ RDP kK kV kP X9 iT j2 kN fk fp fk2 fp2 r) S Y rfl (by decide) (by decide) hA1 ⟨j2_41448, fk2_41449, fp2_41450, bn_w (show bn 0 0 (0 : Int32) from bn_k (by decide)) (by decide), I, (Or.inr ⟨rfl, bd_41453, (RDP_f eR_41451 c_41452).2.1, (RDP_f eR_41451 c_41452).2.2⟩)⟩ dX5_readDeed_133
    · obtain ⟨hr_41458, tg_41455, hj_41456, hl_41457, rfl, rfl⟩ := RDP_t eR_41451 c_41452
      have tr_41459 : ∀ S, Tr kK kV (X9 ++ S) iT (([((kEx 19), oT, bL), ((kNum 5), oT, bL), (kKnee, oT, bL), ((kNum 1009), oT, bL)] : List LI) ++ S) j2_41448 := TrC (Z := ([((kNum 5), oT, bL)] : List LI)) (Y := ([((kEx 19), oT, bL), ((kNum 5), oT, bL), (kKnee, oT, bL), ((kNum 1009), oT, bL)] : List LI)) tr0 tg_41455
      have B_41460 : bn 1 1 r_41447 := bn_w (bn_nel c_41452 er_41447 (show bn 0 0 (0 : Int32) from bn_k (by decide))) (by decide)
      refine lv_aload_n hx hb dX5_readDeed_91 rfl (lv_at hl 0 rfl) ?_
      refine lv_bipush (v := 19) hx hb dX5_readDeed_92 (by decide) ?_
      refine cVi (As := [.int 19]) (rest := []) S Y (x_X5_expect (l := l) (oT := oT) (bL := bL) (eN := 19) I hW hT hQ hN hj_41456 rfl (by decide)) cw_X5_expect km5_140 (I.opo (k := 2) (j := 0) (by decide) rfl).choose_spec.1 ok_X5.1 rfl rfl ⟨Nat.le_of_ble_eq_true rfl, Nat.le_of_ble_eq_true rfl⟩ hl.1 rfl (Nat.le_of_ble_eq_true rfl) ⟨Nat.le_of_ble_eq_true rfl, Nat.le_of_ble_eq_true rfl⟩ dX5_readDeed_94 (fun r_41463 L_41461 f_41462 H locs hr_41463 Y => ?_)
      obtain ⟨j2_41464, fk2_41465, fp2_41466, er_41463, I, eR_41467⟩ := hr_41463
      refine lv_if_eq (tgt := 132) hx hb dX5_readDeed_97 (by decide) (fun c_41468 => ?_) (fun c_41468 => ?_)
      · have bd_41469 : ∀ S, LL kK kV (X9 ++ S) iT (fk2_41465, j2_41464) := TrB (Z := ([((kEx 19), oT, bL)] : List LI)) (Y := ([((kNum 5), oT, bL), (kKnee, oT, bL), ((kNum 1009), oT, bL)] : List LI)) tr_41459 (RDP_f eR_41467 c_41468).1
        have B_41470 : bn 0 0 r_41463 := bn_w (bn_eq c_41468 (show bn 0 0 (0 : Int32) from bn_k (by decide))) (by decide)
        refine lv_iconst (v := 0) hx hb dX5_readDeed_132 (by decide) ?_
        exact prI (post := fun r L1 f1 => ∃ j2 : Nat, ∃ fk2 : Int, ∃ fp2 : Int, bn 0 1 r ∧ SH (spC ((RF 30 t, fz (pp nL) (pp (kN : Int)) (pp ((j2 + 1 : Nat) : Int)) (pp (kK j2)) (pp (kP j2)) (pp (kV j2)) (pp lw) (pp fk2) (pp fp2), tz (EQ bT) (RW kN kK) (RW kN kP) (RW kN kV), sc) : RS) fc tc w q) nnC G ad L1 f1 ∧ RDP kK kV kP X9 iT j2 kN fk fp fk2 fp2 r) S Y rfl (by decide) (by decide) hA1 ⟨j2_41464, fk2_41465, fp2_41466, bn_w (show bn 0 0 (0 : Int32) from bn_k (by decide)) (by decide), I, (Or.inr ⟨rfl, bd_41469, (RDP_f eR_41467 c_41468).2.1, (RDP_f eR_41467 c_41468).2.2⟩)⟩ dX5_readDeed_133
      · obtain ⟨hr_41474, tg_41471, hj_41472, hl_41473, rfl, rfl⟩ := RDP_t eR_41467 c_41468
        have tr_41475 : ∀ S, Tr kK kV (X9 ++ S) iT (([((kNum 5), oT, bL), (kKnee, oT, bL), ((kNum 1009), oT, bL)] : List LI) ++ S) j2_41464 := TrC (Z := ([((kEx 19), oT, bL)] : List LI)) (Y := ([((kNum 5), oT, bL), (kKnee, oT, bL), ((kNum 1009), oT, bL)] : List LI)) tr_41459 tg_41471
        have B_41476 : bn 1 1 r_41463 := bn_w (bn_nel c_41468 er_41463 (show bn 0 0 (0 : Int32) from bn_k (by decide))) (by decide)
        refine lv_aload_n hx hb dX5_readDeed_100 rfl (lv_at hl 0 rfl) ?_
        refine lv_iconst (v := 2) hx hb dX5_readDeed_101 (by decide) ?_
        refine lv_iconst (v := 0) hx hb dX5_readDeed_102 (by decide) ?_
        refine lv_iconst (v := 5) hx hb dX5_readDeed_103 (by decide) ?_
        refine cVi (As := [.int 2, .int 0, .int 5]) (rest := []) S Y (x_X5_readNumber (l := l) (t := t) (oT := oT) (bL := bL) (aN := 5) I hW hT hQ ht (bn_w (show bn 0 0 (0 : Int32) from bn_k (by decide)) (by decide)) (bn_w (show bn 5 5 (5 : Int32) from bn_k (by decide)) (by decide)) hN hj_41472 (by decide)) cw_X5_readNumber km5_154 (I.opo (k := 2) (j := 0) (by decide) rfl).choose_spec.1 ok_X5.1 rfl rfl ⟨Nat.le_of_ble_eq_true rfl, Nat.le_of_ble_eq_true rfl⟩ hl.1 rfl (Nat.le_of_ble_eq_true rfl) ⟨Nat.le_of_ble_eq_true rfl, Nat.le_of_ble_eq_true rfl⟩ dX5_readDeed_104 (fun r_41479 L_41477 f_41478 H locs hr_41479 Y => ?_)
        obtain ⟨j2_41480, fk2_41481, fp2_41482, er_41479, I, eR_41483⟩ := hr_41479
        refine lv_if_eq (tgt := 132) hx hb dX5_readDeed_107 (by decide) (fun c_41484 => ?_) (fun c_41484 => ?_)
        · have bd_41485 : ∀ S, LL kK kV (X9 ++ S) iT (fk2_41481, j2_41480) := TrB (Z := ([((kNum 5), oT, bL)] : List LI)) (Y := ([(kKnee, oT, bL), ((kNum 1009), oT, bL)] : List LI)) tr_41475 (RDP_f eR_41483 c_41484).1
          have B_41486 : bn 0 0 r_41479 := bn_w (bn_eq c_41484 (show bn 0 0 (0 : Int32) from bn_k (by decide))) (by decide)
          refine lv_iconst (v := 0) hx hb dX5_readDeed_132 (by decide) ?_
          exact prI (post := fun r L1 f1 => ∃ j2 : Nat, ∃ fk2 : Int, ∃ fp2 : Int, bn 0 1 r ∧ SH (spC ((RF 30 t, fz (pp nL) (pp (kN : Int)) (pp ((j2 + 1 : Nat) : Int)) (pp (kK j2)) (pp (kP j2)) (pp (kV j2)) (pp lw) (pp fk2) (pp fp2), tz (EQ bT) (RW kN kK) (RW kN kP) (RW kN kV), sc) : RS) fc tc w q) nnC G ad L1 f1 ∧ RDP kK kV kP X9 iT j2 kN fk fp fk2 fp2 r) S Y rfl (by decide) (by decide) hA1 ⟨j2_41480, fk2_41481, fp2_41482, bn_w (show bn 0 0 (0 : Int32) from bn_k (by decide)) (by decide), I, (Or.inr ⟨rfl, bd_41485, (RDP_f eR_41483 c_41484).2.1, (RDP_f eR_41483 c_41484).2.2⟩)⟩ dX5_readDeed_133
        · obtain ⟨hr_41490, tg_41487, hj_41488, hl_41489, rfl, rfl⟩ := RDP_t eR_41483 c_41484
          have tr_41491 : ∀ S, Tr kK kV (X9 ++ S) iT (([(kKnee, oT, bL), ((kNum 1009), oT, bL)] : List LI) ++ S) j2_41480 := TrC (Z := ([((kNum 5), oT, bL)] : List LI)) (Y := ([(kKnee, oT, bL), ((kNum 1009), oT, bL)] : List LI)) tr_41475 tg_41487
          have B_41492 : bn 1 1 r_41479 := bn_w (bn_nel c_41484 er_41479 (show bn 0 0 (0 : Int32) from bn_k (by decide))) (by decide)
          refine lv_aload_n hx hb dX5_readDeed_110 rfl (lv_at hl 0 rfl) ?_
          refine cVi (As := []) (rest := []) S Y (x_X5_readKnee (l := l) (t := t) (oT := oT) (bL := bL) I hW hT hQ ht hN hj_41488) cw_X5_readKnee km5_157 (I.opo (k := 2) (j := 0) (by decide) rfl).choose_spec.1 ok_X5.1 rfl rfl ⟨Nat.le_of_ble_eq_true rfl, Nat.le_of_ble_eq_true rfl⟩ hl.1 rfl (Nat.le_of_ble_eq_true rfl) ⟨Nat.le_of_ble_eq_true rfl, Nat.le_of_ble_eq_true rfl⟩ dX5_readDeed_111 (fun r_41495 L_41493 f_41494 H locs hr_41495 Y => ?_)
          obtain ⟨j2_41496, fk2_41497, fp2_41498, er_41495, I, eR_41499⟩ := hr_41495
          refine lv_if_eq (tgt := 132) hx hb dX5_readDeed_114 (by decide) (fun c_41500 => ?_) (fun c_41500 => ?_)
          · have bd_41501 : ∀ S, LL kK kV (X9 ++ S) iT (fk2_41497, j2_41496) := TrB (Z := ([(kKnee, oT, bL)] : List LI)) (Y := ([((kNum 1009), oT, bL)] : List LI)) tr_41491 (RDP_f eR_41499 c_41500).1
            have B_41502 : bn 0 0 r_41495 := bn_w (bn_eq c_41500 (show bn 0 0 (0 : Int32) from bn_k (by decide))) (by decide)
            refine lv_iconst (v := 0) hx hb dX5_readDeed_132 (by decide) ?_
            exact prI (post := fun r L1 f1 => ∃ j2 : Nat, ∃ fk2 : Int, ∃ fp2 : Int, bn 0 1 r ∧ SH (spC ((RF 30 t, fz (pp nL) (pp (kN : Int)) (pp ((j2 + 1 : Nat) : Int)) (pp (kK j2)) (pp (kP j2)) (pp (kV j2)) (pp lw) (pp fk2) (pp fp2), tz (EQ bT) (RW kN kK) (RW kN kP) (RW kN kV), sc) : RS) fc tc w q) nnC G ad L1 f1 ∧ RDP kK kV kP X9 iT j2 kN fk fp fk2 fp2 r) S Y rfl (by decide) (by decide) hA1 ⟨j2_41496, fk2_41497, fp2_41498, bn_w (show bn 0 0 (0 : Int32) from bn_k (by decide)) (by decide), I, (Or.inr ⟨rfl, bd_41501, (RDP_f eR_41499 c_41500).2.1, (RDP_f eR_41499 c_41500).2.2⟩)⟩ dX5_readDeed_133
          · obtain ⟨hr_41506, tg_41503, hj_41504, hl_41505, rfl, rfl⟩ := RDP_t eR_41499 c_41500
            have tr_41507 : ∀ S, Tr kK kV (X9 ++ S) iT (([((kNum 1009), oT, bL)] : List LI) ++ S) j2_41496 := TrC (Z := ([(kKnee, oT, bL)] : List LI)) (Y := ([((kNum 1009), oT, bL)] : List LI)) tr_41491 tg_41503
            have B_41508 : bn 1 1 r_41495 := bn_w (bn_nel c_41500 er_41495 (show bn 0 0 (0 : Int32) from bn_k (by decide))) (by decide)
            refine lv_aload_n hx hb dX5_readDeed_117 rfl (lv_at hl 0 rfl) ?_
            refine lv_iconst (v := 4) hx hb dX5_readDeed_118 (by decide) ?_
            refine lv_iconst (v := 1) hx hb dX5_readDeed_119 (by decide) ?_
            refine lv_bipush (v := 9) hx hb dX5_readDeed_120 (by decide) ?_
            refine cVi (As := [.int 4, .int 1, .int 9]) (rest := []) S Y (x_X5_readNumber (l := l) (t := t) (oT := oT) (bL := bL) (aN := 1009) I hW hT hQ ht (bn_w (show bn 1 1 (1 : Int32) from bn_k (by decide)) (by decide)) (bn_w (show bn 9 9 (9 : Int32) from bn_k (by decide)) (by decide)) hN hj_41504 (by decide)) cw_X5_readNumber km5_154 (I.opo (k := 2) (j := 0) (by decide) rfl).choose_spec.1 ok_X5.1 rfl rfl ⟨Nat.le_of_ble_eq_true rfl, Nat.le_of_ble_eq_true rfl⟩ hl.1 rfl (Nat.le_of_ble_eq_true rfl) ⟨Nat.le_of_ble_eq_true rfl, Nat.le_of_ble_eq_true rfl⟩ dX5_readDeed_122 (fun r_41511 L_41509 f_41510 H locs hr_41511 Y => ?_)
            obtain ⟨j2_41512, fk2_41513, fp2_41514, er_41511, I, eR_41515⟩ := hr_41511
            refine lv_if_eq (tgt := 132) hx hb dX5_readDeed_125 (by decide) (fun c_41516 => ?_) (fun c_41516 => ?_)
            · have bd_41517 : ∀ S, LL kK kV (X9 ++ S) iT (fk2_41513, j2_41512) := TrB (Z := ([((kNum 1009), oT, bL)] : List LI)) (Y := ([] : List LI)) tr_41507 (RDP_f eR_41515 c_41516).1
              have B_41518 : bn 0 0 r_41511 := bn_w (bn_eq c_41516 (show bn 0 0 (0 : Int32) from bn_k (by decide))) (by decide)
              refine lv_iconst (v := 0) hx hb dX5_readDeed_132 (by decide) ?_
              exact prI (post := fun r L1 f1 => ∃ j2 : Nat, ∃ fk2 : Int, ∃ fp2 : Int, bn 0 1 r ∧ SH (spC ((RF 30 t, fz (pp nL) (pp (kN : Int)) (pp ((j2 + 1 : Nat) : Int)) (pp (kK j2)) (pp (kP j2)) (pp (kV j2)) (pp lw) (pp fk2) (pp fp2), tz (EQ bT) (RW kN kK) (RW kN kP) (RW kN kV), sc) : RS) fc tc w q) nnC G ad L1 f1 ∧ RDP kK kV kP X9 iT j2 kN fk fp fk2 fp2 r) S Y rfl (by decide) (by decide) hA1 ⟨j2_41512, fk2_41513, fp2_41514, bn_w (show bn 0 0 (0 : Int32) from bn_k (by decide)) (by decide), I, (Or.inr ⟨rfl, bd_41517, (RDP_f eR_41515 c_41516).2.1, (RDP_f eR_41515 c_41516).2.2⟩)⟩ dX5_readDeed_133
            · obtain ⟨hr_41522, tg_41519, hj_41520, hl_41521, rfl, rfl⟩ := RDP_t eR_41515 c_41516
              have tr_41523 : ∀ S, Tr kK kV (X9 ++ S) iT (([] : List LI) ++ S) j2_41512 := TrC (Z := ([((kNum 1009), oT, bL)] : List LI)) (Y := ([] : List LI)) tr_41507 tg_41519
              have B_41524 : bn 1 1 r_41511 := bn_w (bn_nel c_41516 er_41511 (show bn 0 0 (0 : Int32) from bn_k (by decide))) (by decide)
              refine lv_iconst (v := 1) hx hb dX5_readDeed_128 (by decide) ?_
              refine lv_goto (tgt := 133) hx hb dX5_readDeed_129 (by decide) ?_
              exact prI (post := fun r L1 f1 => ∃ j2 : Nat, ∃ fk2 : Int, ∃ fp2 : Int, bn 0 1 r ∧ SH (spC ((RF 30 t, fz (pp nL) (pp (kN : Int)) (pp ((j2 + 1 : Nat) : Int)) (pp (kK j2)) (pp (kP j2)) (pp (kV j2)) (pp lw) (pp fk2) (pp fp2), tz (EQ bT) (RW kN kK) (RW kN kP) (RW kN kV), sc) : RS) fc tc w q) nnC G ad L1 f1 ∧ RDP kK kV kP X9 iT j2 kN fk fp fk2 fp2 r) S Y rfl (by decide) (by decide) hA1 ⟨j2_41512, fk, fp, bn_w (show bn 1 1 (1 : Int32) from bn_k (by decide)) (by decide), I, (Or.inl ⟨rfl, tr_41523, hj_41520, (by have u1 := (show i1.toInt = 4 from by rw [h_41396]; rfl); have u2 := hi; have u3 := hN.1; have u4 := hN.2.1; have u5 := hj_41456; have u6 := hl_41457; have u7 := hj_41472; have u8 := hl_41473; have u9 := hj_41488; have u10 := hl_41489; have u11 := hj_41504; have u12 := hl_41505; have u13 := hj_41520; have u14 := hl_41521; omega), rfl, rfl⟩)⟩ dX5_readDeed_133
  · refine lv_fold (z := 5) h_41396 ?_
    refine lv_tableIn (off := 133) (tgt := 134) hx hb dX5_readDeed_1 (by decide) (by decide) (by decide) (by decide) ?_
    have eX : X9 = ([((kNum 13), oT, bL)] : List LI) := by rw [hX, h_41396, show (5 : Int32).toInt = 5 from rfl, show cbody 5 = [(kNum 13)] from by decide]; rfl
    have tr0 : ∀ S, Tr kK kV (X9 ++ S) iT (([((kNum 13), oT, bL)] : List LI) ++ S) iT := by rw [eX]; exact fun _ => Tr_0
    refine lv_aload_n hx hb dX5_readDeed_134 rfl (lv_at hl 0 rfl) ?_
    refine lv_iconst (v := 1) hx hb dX5_readDeed_135 (by decide) ?_
    refine lv_iconst (v := 0) hx hb dX5_readDeed_136 (by decide) ?_
    refine lv_bipush (v := 13) hx hb dX5_readDeed_137 (by decide) ?_
    refine cVi (As := [.int 1, .int 0, .int 13]) (rest := []) S Y (x_X5_readNumber (l := l) (t := t) (oT := oT) (bL := bL) (aN := 13) I hW hT hQ ht (bn_w (show bn 0 0 (0 : Int32) from bn_k (by decide)) (by decide)) (bn_w (show bn 13 13 (13 : Int32) from bn_k (by decide)) (by decide)) hN hi (by decide)) cw_X5_readNumber km5_154 (I.opo (k := 2) (j := 0) (by decide) rfl).choose_spec.1 ok_X5.1 rfl rfl ⟨Nat.le_of_ble_eq_true rfl, Nat.le_of_ble_eq_true rfl⟩ hl.1 rfl (Nat.le_of_ble_eq_true rfl) ⟨Nat.le_of_ble_eq_true rfl, Nat.le_of_ble_eq_true rfl⟩ dX5_readDeed_139 (fun r_41527 L_41525 f_41526 H locs hr_41527 Y => ?_)
    obtain ⟨j2_41528, fk2_41529, fp2_41530, er_41527, I, eR_41531⟩ := hr_41527
    exact prI (post := fun r L1 f1 => ∃ j2 : Nat, ∃ fk2 : Int, ∃ fp2 : Int, bn 0 1 r ∧ SH (spC ((RF 30 t, fz (pp nL) (pp (kN : Int)) (pp ((j2 + 1 : Nat) : Int)) (pp (kK j2)) (pp (kP j2)) (pp (kV j2)) (pp lw) (pp fk2) (pp fp2), tz (EQ bT) (RW kN kK) (RW kN kP) (RW kN kV), sc) : RS) fc tc w q) nnC G ad L1 f1 ∧ RDP kK kV kP X9 iT j2 kN fk fp fk2 fp2 r) S Y (nw_b (bn_w er_41527 (by decide))) (by decide) (by decide) hA1 ⟨j2_41528, fk2_41529, fp2_41530, bn_w er_41527 (by decide), I, (RDPl (Z := ([((kNum 13), oT, bL)] : List LI)) tr0 (by have u1 := (show i1.toInt = 5 from by rw [h_41396]; rfl); have u2 := hi; have u3 := hN.1; have u4 := hN.2.1; omega) eR_41531)⟩ dX5_readDeed_142
  · refine lv_fold (z := 6) h_41396 ?_
    refine lv_tableIn (off := 133) (tgt := 134) hx hb dX5_readDeed_1 (by decide) (by decide) (by decide) (by decide) ?_
    have eX : X9 = ([((kNum 13), oT, bL)] : List LI) := by rw [hX, h_41396, show (6 : Int32).toInt = 6 from rfl, show cbody 6 = [(kNum 13)] from by decide]; rfl
    have tr0 : ∀ S, Tr kK kV (X9 ++ S) iT (([((kNum 13), oT, bL)] : List LI) ++ S) iT := by rw [eX]; exact fun _ => Tr_0
    refine lv_aload_n hx hb dX5_readDeed_134 rfl (lv_at hl 0 rfl) ?_
    refine lv_iconst (v := 1) hx hb dX5_readDeed_135 (by decide) ?_
    refine lv_iconst (v := 0) hx hb dX5_readDeed_136 (by decide) ?_
    refine lv_bipush (v := 13) hx hb dX5_readDeed_137 (by decide) ?_
    refine cVi (As := [.int 1, .int 0, .int 13]) (rest := []) S Y (x_X5_readNumber (l := l) (t := t) (oT := oT) (bL := bL) (aN := 13) I hW hT hQ ht (bn_w (show bn 0 0 (0 : Int32) from bn_k (by decide)) (by decide)) (bn_w (show bn 13 13 (13 : Int32) from bn_k (by decide)) (by decide)) hN hi (by decide)) cw_X5_readNumber km5_154 (I.opo (k := 2) (j := 0) (by decide) rfl).choose_spec.1 ok_X5.1 rfl rfl ⟨Nat.le_of_ble_eq_true rfl, Nat.le_of_ble_eq_true rfl⟩ hl.1 rfl (Nat.le_of_ble_eq_true rfl) ⟨Nat.le_of_ble_eq_true rfl, Nat.le_of_ble_eq_true rfl⟩ dX5_readDeed_139 (fun r_41534 L_41532 f_41533 H locs hr_41534 Y => ?_)
    obtain ⟨j2_41535, fk2_41536, fp2_41537, er_41534, I, eR_41538⟩ := hr_41534
    exact prI (post := fun r L1 f1 => ∃ j2 : Nat, ∃ fk2 : Int, ∃ fp2 : Int, bn 0 1 r ∧ SH (spC ((RF 30 t, fz (pp nL) (pp (kN : Int)) (pp ((j2 + 1 : Nat) : Int)) (pp (kK j2)) (pp (kP j2)) (pp (kV j2)) (pp lw) (pp fk2) (pp fp2), tz (EQ bT) (RW kN kK) (RW kN kP) (RW kN kV), sc) : RS) fc tc w q) nnC G ad L1 f1 ∧ RDP kK kV kP X9 iT j2 kN fk fp fk2 fp2 r) S Y (nw_b (bn_w er_41534 (by decide))) (by decide) (by decide) hA1 ⟨j2_41535, fk2_41536, fp2_41537, bn_w er_41534 (by decide), I, (RDPl (Z := ([((kNum 13), oT, bL)] : List LI)) tr0 (by have u1 := (show i1.toInt = 6 from by rw [h_41396]; rfl); have u2 := hi; have u3 := hN.1; have u4 := hN.2.1; omega) eR_41538)⟩ dX5_readDeed_142
  · refine lv_fold (z := 7) h_41396 ?_
    refine lv_tableIn (off := 151) (tgt := 152) hx hb dX5_readDeed_1 (by decide) (by decide) (by decide) (by decide) ?_
    have eX : X9 = ([((kNum 5), oT, bL)] : List LI) := by rw [hX, h_41396, show (7 : Int32).toInt = 7 from rfl, show cbody 7 = [(kNum 5)] from by decide]; rfl
    have tr0 : ∀ S, Tr kK kV (X9 ++ S) iT (([((kNum 5), oT, bL)] : List LI) ++ S) iT := by rw [eX]; exact fun _ => Tr_0
    refine lv_aload_n hx hb dX5_readDeed_152 rfl (lv_at hl 0 rfl) ?_
    refine lv_iconst (v := 1) hx hb dX5_readDeed_153 (by decide) ?_
    refine lv_iconst (v := 0) hx hb dX5_readDeed_154 (by decide) ?_
    refine lv_iconst (v := 5) hx hb dX5_readDeed_155 (by decide) ?_
    refine cVi (As := [.int 1, .int 0, .int 5]) (rest := []) S Y (x_X5_readNumber (l := l) (t := t) (oT := oT) (bL := bL) (aN := 5) I hW hT hQ ht (bn_w (show bn 0 0 (0 : Int32) from bn_k (by decide)) (by decide)) (bn_w (show bn 5 5 (5 : Int32) from bn_k (by decide)) (by decide)) hN hi (by decide)) cw_X5_readNumber km5_154 (I.opo (k := 2) (j := 0) (by decide) rfl).choose_spec.1 ok_X5.1 rfl rfl ⟨Nat.le_of_ble_eq_true rfl, Nat.le_of_ble_eq_true rfl⟩ hl.1 rfl (Nat.le_of_ble_eq_true rfl) ⟨Nat.le_of_ble_eq_true rfl, Nat.le_of_ble_eq_true rfl⟩ dX5_readDeed_156 (fun r_41541 L_41539 f_41540 H locs hr_41541 Y => ?_)
    obtain ⟨j2_41542, fk2_41543, fp2_41544, er_41541, I, eR_41545⟩ := hr_41541
    exact prI (post := fun r L1 f1 => ∃ j2 : Nat, ∃ fk2 : Int, ∃ fp2 : Int, bn 0 1 r ∧ SH (spC ((RF 30 t, fz (pp nL) (pp (kN : Int)) (pp ((j2 + 1 : Nat) : Int)) (pp (kK j2)) (pp (kP j2)) (pp (kV j2)) (pp lw) (pp fk2) (pp fp2), tz (EQ bT) (RW kN kK) (RW kN kP) (RW kN kV), sc) : RS) fc tc w q) nnC G ad L1 f1 ∧ RDP kK kV kP X9 iT j2 kN fk fp fk2 fp2 r) S Y (nw_b (bn_w er_41541 (by decide))) (by decide) (by decide) hA1 ⟨j2_41542, fk2_41543, fp2_41544, bn_w er_41541 (by decide), I, (RDPl (Z := ([((kNum 5), oT, bL)] : List LI)) tr0 (by have u1 := (show i1.toInt = 7 from by rw [h_41396]; rfl); have u2 := hi; have u3 := hN.1; have u4 := hN.2.1; omega) eR_41545)⟩ dX5_readDeed_159
  · refine lv_fold (z := 8) h_41396 ?_
    refine lv_tableIn (off := 151) (tgt := 152) hx hb dX5_readDeed_1 (by decide) (by decide) (by decide) (by decide) ?_
    have eX : X9 = ([((kNum 5), oT, bL)] : List LI) := by rw [hX, h_41396, show (8 : Int32).toInt = 8 from rfl, show cbody 8 = [(kNum 5)] from by decide]; rfl
    have tr0 : ∀ S, Tr kK kV (X9 ++ S) iT (([((kNum 5), oT, bL)] : List LI) ++ S) iT := by rw [eX]; exact fun _ => Tr_0
    refine lv_aload_n hx hb dX5_readDeed_152 rfl (lv_at hl 0 rfl) ?_
    refine lv_iconst (v := 1) hx hb dX5_readDeed_153 (by decide) ?_
    refine lv_iconst (v := 0) hx hb dX5_readDeed_154 (by decide) ?_
    refine lv_iconst (v := 5) hx hb dX5_readDeed_155 (by decide) ?_
    refine cVi (As := [.int 1, .int 0, .int 5]) (rest := []) S Y (x_X5_readNumber (l := l) (t := t) (oT := oT) (bL := bL) (aN := 5) I hW hT hQ ht (bn_w (show bn 0 0 (0 : Int32) from bn_k (by decide)) (by decide)) (bn_w (show bn 5 5 (5 : Int32) from bn_k (by decide)) (by decide)) hN hi (by decide)) cw_X5_readNumber km5_154 (I.opo (k := 2) (j := 0) (by decide) rfl).choose_spec.1 ok_X5.1 rfl rfl ⟨Nat.le_of_ble_eq_true rfl, Nat.le_of_ble_eq_true rfl⟩ hl.1 rfl (Nat.le_of_ble_eq_true rfl) ⟨Nat.le_of_ble_eq_true rfl, Nat.le_of_ble_eq_true rfl⟩ dX5_readDeed_156 (fun r_41548 L_41546 f_41547 H locs hr_41548 Y => ?_)
    obtain ⟨j2_41549, fk2_41550, fp2_41551, er_41548, I, eR_41552⟩ := hr_41548
    exact prI (post := fun r L1 f1 => ∃ j2 : Nat, ∃ fk2 : Int, ∃ fp2 : Int, bn 0 1 r ∧ SH (spC ((RF 30 t, fz (pp nL) (pp (kN : Int)) (pp ((j2 + 1 : Nat) : Int)) (pp (kK j2)) (pp (kP j2)) (pp (kV j2)) (pp lw) (pp fk2) (pp fp2), tz (EQ bT) (RW kN kK) (RW kN kP) (RW kN kV), sc) : RS) fc tc w q) nnC G ad L1 f1 ∧ RDP kK kV kP X9 iT j2 kN fk fp fk2 fp2 r) S Y (nw_b (bn_w er_41548 (by decide))) (by decide) (by decide) hA1 ⟨j2_41549, fk2_41550, fp2_41551, bn_w er_41548 (by decide), I, (RDPl (Z := ([((kNum 5), oT, bL)] : List LI)) tr0 (by have u1 := (show i1.toInt = 8 from by rw [h_41396]; rfl); have u2 := hi; have u3 := hN.1; have u4 := hN.2.1; omega) eR_41552)⟩ dX5_readDeed_159
  · refine lv_fold (z := 9) h_41396 ?_
    refine lv_tableIn (off := 142) (tgt := 143) hx hb dX5_readDeed_1 (by decide) (by decide) (by decide) (by decide) ?_
    have eX : X9 = ([((kNum 1060), oT, bL)] : List LI) := by rw [hX, h_41396, show (9 : Int32).toInt = 9 from rfl, show cbody 9 = [(kNum 1060)] from by decide]; rfl
    have tr0 : ∀ S, Tr kK kV (X9 ++ S) iT (([((kNum 1060), oT, bL)] : List LI) ++ S) iT := by rw [eX]; exact fun _ => Tr_0
    refine lv_aload_n hx hb dX5_readDeed_143 rfl (lv_at hl 0 rfl) ?_
    refine lv_iconst (v := 1) hx hb dX5_readDeed_144 (by decide) ?_
    refine lv_iconst (v := 1) hx hb dX5_readDeed_145 (by decide) ?_
    refine lv_bipush (v := 60) hx hb dX5_readDeed_146 (by decide) ?_
    refine cVi (As := [.int 1, .int 1, .int 60]) (rest := []) S Y (x_X5_readNumber (l := l) (t := t) (oT := oT) (bL := bL) (aN := 1060) I hW hT hQ ht (bn_w (show bn 1 1 (1 : Int32) from bn_k (by decide)) (by decide)) (bn_w (show bn 60 60 (60 : Int32) from bn_k (by decide)) (by decide)) hN hi (by decide)) cw_X5_readNumber km5_154 (I.opo (k := 2) (j := 0) (by decide) rfl).choose_spec.1 ok_X5.1 rfl rfl ⟨Nat.le_of_ble_eq_true rfl, Nat.le_of_ble_eq_true rfl⟩ hl.1 rfl (Nat.le_of_ble_eq_true rfl) ⟨Nat.le_of_ble_eq_true rfl, Nat.le_of_ble_eq_true rfl⟩ dX5_readDeed_148 (fun r_41555 L_41553 f_41554 H locs hr_41555 Y => ?_)
    obtain ⟨j2_41556, fk2_41557, fp2_41558, er_41555, I, eR_41559⟩ := hr_41555
    exact prI (post := fun r L1 f1 => ∃ j2 : Nat, ∃ fk2 : Int, ∃ fp2 : Int, bn 0 1 r ∧ SH (spC ((RF 30 t, fz (pp nL) (pp (kN : Int)) (pp ((j2 + 1 : Nat) : Int)) (pp (kK j2)) (pp (kP j2)) (pp (kV j2)) (pp lw) (pp fk2) (pp fp2), tz (EQ bT) (RW kN kK) (RW kN kP) (RW kN kV), sc) : RS) fc tc w q) nnC G ad L1 f1 ∧ RDP kK kV kP X9 iT j2 kN fk fp fk2 fp2 r) S Y (nw_b (bn_w er_41555 (by decide))) (by decide) (by decide) hA1 ⟨j2_41556, fk2_41557, fp2_41558, bn_w er_41555 (by decide), I, (RDPl (Z := ([((kNum 1060), oT, bL)] : List LI)) tr0 (by have u1 := (show i1.toInt = 9 from by rw [h_41396]; rfl); have u2 := hi; have u3 := hN.1; have u4 := hN.2.1; omega) eR_41559)⟩ dX5_readDeed_151
  · refine lv_tableOut (tgt := 152) hx hb dX5_readDeed_1 h_41396 (by decide) ?_
    exfalso; have h8 := b_i1.1; have h9 := b_i1.2; omega
set_option maxHeartbeats 4000000 in
set_option maxRecDepth 100000 in
theorem x_X5_readPlainNumber {l : Launch} {G : GG}  {L : List Nat} {f : HF} {ad : Nat → Nat → Nat} {nL : Int} {lw : Int} {fk : Int} {fp : Int} {kN : Nat} {kK : Nat → Int} {kP : Nat → Int} {kV : Nat → Int} {bT : Nat → Int32} {fc : Int × Int} {tc w : Nat → Int × Int} {q : Nat → (Nat → Int32) → Prop} {t : Nat} {iT oT : Nat} {bL : Bool} {sc : Nat → SG} {sl : Int} {cB : Int × Int} {cC cD : (Nat → Int32) → Prop} (I : SH (spC ((RF 30 t, fz (pp nL) (pp (kN : Int)) (pp ((iT + 1 : Nat) : Int)) (pp (kK iT)) (pp (kP iT)) (pp (kV iT)) (pp lw) (pp fk) (pp fp), tz (EQ bT) (RW kN kK) (RW kN kP) (RW kN kV), sc) : RS) fc tc w q) nnC G ad L f) (hW : WBp w 8) (hT : WBp tc 4) (hQ : QIp q) (ht : t < 4) (hN : RDH kK kN) (hi : iT < kN) (hs : sc t = (pp sl, cB, cC, cD)) (hl : 0 ≤ sl ∧ sl ≤ (iT : Int)) (hbl : bL = true ↔ lw = 2) (hk : kK iT = 1000) : PMi l yX5_readPlainNumber cX5_readPlainNumber 1 .boolean 2 0 0 G [.ref (ad 2 0)] L f (fun r L1 f1 => ∃ j2 : Nat, ∃ fk2 : Int, ∃ fp2 : Int, ∃ sc2 : Nat → SG, bn 0 1 r ∧ SH (spC ((RF 30 t, fz (pp nL) (pp (kN : Int)) (pp ((j2 + 1 : Nat) : Int)) (pp (kK j2)) (pp (kP j2)) (pp (kV j2)) (pp lw) (pp fk2) (pp fp2), tz (EQ bT) (RW kN kK) (RW kN kP) (RW kN kV), sc2) : RS) fc tc w q) nnC G ad L1 f1 ∧ RDP kK kV kP ([(kOne, oT, bL)] : List LI) iT j2 kN fk fp fk2 fp2 r ∧ (r = 1 → ∃ sl2, sc2 t = (pp sl2, cB, cC, cD) ∧ sl < sl2 ∧ sl2 + (iT : Int) ≤ sl + (j2 : Int))) := by
  refine PMi.of (post := fun r L1 f1 => ∃ j2 : Nat, ∃ fk2 : Int, ∃ fp2 : Int, ∃ sc2 : Nat → SG, bn 0 1 r ∧ SH (spC ((RF 30 t, fz (pp nL) (pp (kN : Int)) (pp ((j2 + 1 : Nat) : Int)) (pp (kK j2)) (pp (kP j2)) (pp (kV j2)) (pp lw) (pp fk2) (pp fp2), tz (EQ bT) (RW kN kK) (RW kN kP) (RW kN kV), sc2) : RS) fc tc w q) nnC G ad L1 f1 ∧ RDP kK kV kP ([(kOne, oT, bL)] : List LI) iT j2 kN fk fp fk2 fp2 r ∧ (r = 1 → ∃ sl2, sc2 t = (pp sl2, cB, cC, cD) ∧ sl < sl2 ∧ sl2 + (iT : Int) ≤ sl + (j2 : Int))) (own := RX5) (by decide) rfl (Nat.le_of_ble_eq_true rfl) (fun sz p e s m args below meth c A ls hA1 hname S Y hl => ?_)
  have hx := S.hx
  have hb := S.hb
  have hl : lv_has ls 1 [(0, .ref (ad 2 0))] := hl
  refine lv_aload_n hx hb dX5_readPlainNumber_0 rfl (lv_at hl 0 rfl) ?_
  obtain ⟨v_41626, v_41628, v_41630, v_41632, v_41634, v_41636, v_41638, v_41640, v_41642, p_ad_2_0, b_41627, b_41629, b_41631, b_41633, b_41635, b_41637, b_41639, b_41641, b_41643⟩ := opnC_2r (j := 0) I (by decide)
  have p_ad_2_0 : pt L f (ad 2 0) (.inr (5, [.ref (ad 50 0), .ref (ad 51 0), .ref (ad 52 0), .ref (ad 53 0), .int v_41626, .int v_41628, .int v_41630, .int v_41632, .int v_41634, .int v_41636, .int v_41638, .ref (ad 30 t), .int v_41640, .int v_41642])) := p_ad_2_0
  have tv_41626 : v_41626.toInt = nL := lim_eq b_41627
  have tv_41628 : v_41628.toInt = (kN : Int) := lim_eq b_41629
  have tv_41630 : v_41630.toInt = ((iT + 1 : Nat) : Int) := lim_eq b_41631
  have tv_41632 : v_41632.toInt = (kK iT) := lim_eq b_41633
  have tv_41634 : v_41634.toInt = (kP iT) := lim_eq b_41635
  have tv_41636 : v_41636.toInt = (kV iT) := lim_eq b_41637
  have tv_41638 : v_41638.toInt = lw := lim_eq b_41639
  have tv_41640 : v_41640.toInt = fk := lim_eq b_41641
  have tv_41642 : v_41642.toInt = fp := lim_eq b_41643
  refine pg_get S Y ok_X5 9 (by decide) kf5_118 (v := .int v_41636) p_ad_2_0 rfl dX5_readPlainNumber_1 ?_
  refine lv_sipush (v := 9999) hx hb dX5_readPlainNumber_4 (by decide) ?_
  refine lv_icmp_le (tgt := 16) hx hb dX5_readPlainNumber_7 (by decide) (fun c_41644 => ?_) (fun c_41644 => ?_)
  · have B_41645 : bn (-2147483648) 9999 v_41636 := bn_w (bn_lel c_41644 (bn_any v_41636) (show bn 9999 9999 (9999 : Int32) from bn_k (by decide))) (by decide)
    refine lv_aload_n hx hb dX5_readPlainNumber_16 rfl (lv_at hl 0 rfl) ?_
    refine pg_get S Y ok_X5 11 (by decide) kf5_34 (v := .ref (ad 30 t)) p_ad_2_0 rfl dX5_readPlainNumber_17 ?_
    refine lv_iconst (v := 0) hx hb dX5_readPlainNumber_20 (by decide) ?_
    refine lv_aload_n hx hb dX5_readPlainNumber_21 rfl (lv_at hl 0 rfl) ?_
    refine pg_get S Y ok_X5 9 (by decide) kf5_118 (v := .int v_41636) p_ad_2_0 rfl dX5_readPlainNumber_22 ?_
    refine cVi (As := [.int 0, .int v_41636]) (rest := []) S Y (x_X7_add (l := l) (j := t) I hW hT hQ (show t < 8 from by omega) hs (by have u1 := tv_41626; have u2 := tv_41628; have u3 := tv_41630; have u4 := tv_41632; have u5 := tv_41634; have u6 := tv_41636; have u7 := tv_41638; have u8 := tv_41640; have u9 := tv_41642; have u10 := (show v_41636.toInt ≤ 9999 from by have z9 := c_41644; rw [Int32.le_iff_toInt_le] at z9; exact z9); have u11 := hi; have u12 := hN.1; have u13 := hN.2.1; have u14 := hl.1; have u15 := hl.2; have u16 := hk; have u17 := (RDH_lt hN hi (by have h9 := hk; omega)); omega)) cw_X7_add km5_169 (I.opo (k := 30) (j := t) (show t < 8 from by omega) rfl).choose_spec.1 ok_X7.1 rfl rfl ⟨Nat.le_of_ble_eq_true rfl, Nat.le_of_ble_eq_true rfl⟩ hl.1 rfl (Nat.le_of_ble_eq_true rfl) ⟨Nat.le_of_ble_eq_true rfl, Nat.le_of_ble_eq_true rfl⟩ dX5_readPlainNumber_25 (fun r_41649 L_41647 f_41648 H locs hr_41649 Y => ?_)
    obtain ⟨sc2_41650, I, es_41651⟩ := hr_41649
    refine lv_pop hx hb dX5_readPlainNumber_28 rfl ?_
    refine lv_aload_n hx hb dX5_readPlainNumber_29 rfl (lv_at hl 0 rfl) ?_
    have hi_41652 : iT + 1 < kN := RDH_lt hN hi (by have u1 := tv_41626; have u2 := tv_41628; have u3 := tv_41630; have u4 := tv_41632; have u5 := tv_41634; have u6 := tv_41636; have u7 := tv_41638; have u8 := tv_41640; have u9 := tv_41642; have u10 := (show v_41636.toInt ≤ 9999 from by have z9 := c_41644; rw [Int32.le_iff_toInt_le] at z9; exact z9); have u11 := hi; have u12 := hN.1; have u13 := hN.2.1; have u14 := hl.1; have u15 := hl.2; have u16 := hk; have u17 := (RDH_lt hN hi (by have h9 := hk; omega)); have u18 := hk; omega)
    have tr_41653 : ∀ S, Tr kK kV (([(kOne, oT, bL)] : List LI) ++ S) iT (([] : List LI) ++ S) (iT + 1) := (TrY (Y := ([] : List LI)) (a := 1) (its := []) (d := 0) (show ∀ S, Tr kK kV (([(kOne, oT, bL)] : List LI) ++ S) iT (([(kOne, oT, bL)] : List LI) ++ S) iT from fun _ => Tr_0) (by have u1 := tv_41626; have u2 := tv_41628; have u3 := tv_41630; have u4 := tv_41632; have u5 := tv_41634; have u6 := tv_41636; have u7 := tv_41638; have u8 := tv_41640; have u9 := tv_41642; have u10 := (show v_41636.toInt ≤ 9999 from by have z9 := c_41644; rw [Int32.le_iff_toInt_le] at z9; exact z9); have u11 := hi; have u12 := hN.1; have u13 := hN.2.1; have u14 := hl.1; have u15 := hl.2; have u16 := hk; have u17 := (RDH_lt hN hi (by have h9 := hk; omega)); have u18 := hk; unfold gx; simp only [isCmp] <;> (repeat' split) <;> first | rfl | (exfalso; omega)) (by decide) rfl : ∀ S, Tr kK kV (([(kOne, oT, bL)] : List LI) ++ S) iT (([] : List LI) ++ S) (iT + 1))
    refine cVv (As := []) (rest := []) S Y (x_X5_step (l := l) I hW hT hQ hN hi_41652) cw_X5_step km5_49 (I.opo (k := 2) (j := 0) (by decide) rfl).choose_spec.1 ok_X5.1 rfl rfl ⟨Nat.le_of_ble_eq_true rfl, Nat.le_of_ble_eq_true rfl⟩ hl.1 rfl (Nat.le_of_ble_eq_true rfl) ⟨Nat.le_of_ble_eq_true rfl, Nat.le_of_ble_eq_true rfl⟩ dX5_readPlainNumber_30 (fun L_41654 f_41655 H locs I Y => ?_)
    refine lv_iconst (v := 1) hx hb dX5_readPlainNumber_33 (by decide) ?_
    exact prI (post := fun r L1 f1 => ∃ j2 : Nat, ∃ fk2 : Int, ∃ fp2 : Int, ∃ sc2 : Nat → SG, bn 0 1 r ∧ SH (spC ((RF 30 t, fz (pp nL) (pp (kN : Int)) (pp ((j2 + 1 : Nat) : Int)) (pp (kK j2)) (pp (kP j2)) (pp (kV j2)) (pp lw) (pp fk2) (pp fp2), tz (EQ bT) (RW kN kK) (RW kN kP) (RW kN kV), sc2) : RS) fc tc w q) nnC G ad L1 f1 ∧ RDP kK kV kP ([(kOne, oT, bL)] : List LI) iT j2 kN fk fp fk2 fp2 r ∧ (r = 1 → ∃ sl2, sc2 t = (pp sl2, cB, cC, cD) ∧ sl < sl2 ∧ sl2 + (iT : Int) ≤ sl + (j2 : Int))) S Y rfl (by decide) (by decide) hA1 ⟨(iT + 1), fk, fp, sc2_41650, bn_w (show bn 1 1 (1 : Int32) from bn_k (by decide)) (by decide), I, (Or.inl ⟨rfl, tr_41653, hi_41652, (by have u1 := tv_41626; have u2 := tv_41628; have u3 := tv_41630; have u4 := tv_41632; have u5 := tv_41634; have u6 := tv_41636; have u7 := tv_41638; have u8 := tv_41640; have u9 := tv_41642; have u10 := (show v_41636.toInt ≤ 9999 from by have z9 := c_41644; rw [Int32.le_iff_toInt_le] at z9; exact z9); have u11 := hi; have u12 := hN.1; have u13 := hN.2.1; have u14 := hl.1; have u15 := hl.2; have u16 := hk; have u17 := (RDH_lt hN hi (by have h9 := hk; omega)); have u18 := hi_41652; omega), rfl, rfl⟩), (fun _ => ⟨(sl + 1), es_41651, (by have u1 := tv_41626; have u2 := tv_41628; have u3 := tv_41630; have u4 := tv_41632; have u5 := tv_41634; have u6 := tv_41636; have u7 := tv_41638; have u8 := tv_41640; have u9 := tv_41642; have u10 := (show v_41636.toInt ≤ 9999 from by have z9 := c_41644; rw [Int32.le_iff_toInt_le] at z9; exact z9); have u11 := hi; have u12 := hN.1; have u13 := hN.2.1; have u14 := hl.1; have u15 := hl.2; have u16 := hk; have u17 := (RDH_lt hN hi (by have h9 := hk; omega)); have u18 := hi_41652; omega), (by have u1 := tv_41626; have u2 := tv_41628; have u3 := tv_41630; have u4 := tv_41632; have u5 := tv_41634; have u6 := tv_41636; have u7 := tv_41638; have u8 := tv_41640; have u9 := tv_41642; have u10 := (show v_41636.toInt ≤ 9999 from by have z9 := c_41644; rw [Int32.le_iff_toInt_le] at z9; exact z9); have u11 := hi; have u12 := hN.1; have u13 := hN.2.1; have u14 := hl.1; have u15 := hl.2; have u16 := hk; have u17 := (RDH_lt hN hi (by have h9 := hk; omega)); have u18 := hi_41652; omega)⟩)⟩ dX5_readPlainNumber_34
  · have B_41646 : bn 10000 2147483647 v_41636 := bn_w (bn_gtl c_41644 (bn_any v_41636) (show bn 9999 9999 (9999 : Int32) from bn_k (by decide))) (by decide)
    refine lv_aload_n hx hb dX5_readPlainNumber_10 rfl (lv_at hl 0 rfl) ?_
    refine lv_iconst (v := 2) hx hb dX5_readPlainNumber_11 (by decide) ?_
    refine cVi (As := [.int 2]) (rest := []) S Y (x_X5_fail (l := l) I hW hT hQ) cw_X5_fail km5_121 p_ad_2_0 ok_X5.1 rfl rfl ⟨Nat.le_of_ble_eq_true rfl, Nat.le_of_ble_eq_true rfl⟩ hl.1 rfl (Nat.le_of_ble_eq_true rfl) ⟨Nat.le_of_ble_eq_true rfl, Nat.le_of_ble_eq_true rfl⟩ dX5_readPlainNumber_12 (fun r_41658 L_41656 f_41657 H locs hr_41658 Y => ?_)
    obtain ⟨er_41658, I⟩ := hr_41658
    exact prI (post := fun r L1 f1 => ∃ j2 : Nat, ∃ fk2 : Int, ∃ fp2 : Int, ∃ sc2 : Nat → SG, bn 0 1 r ∧ SH (spC ((RF 30 t, fz (pp nL) (pp (kN : Int)) (pp ((j2 + 1 : Nat) : Int)) (pp (kK j2)) (pp (kP j2)) (pp (kV j2)) (pp lw) (pp fk2) (pp fp2), tz (EQ bT) (RW kN kK) (RW kN kP) (RW kN kV), sc2) : RS) fc tc w q) nnC G ad L1 f1 ∧ RDP kK kV kP ([(kOne, oT, bL)] : List LI) iT j2 kN fk fp fk2 fp2 r ∧ (r = 1 → ∃ sl2, sc2 t = (pp sl2, cB, cC, cD) ∧ sl < sl2 ∧ sl2 + (iT : Int) ≤ sl + (j2 : Int))) S Y (nw_b (bn_w er_41658 (by decide))) (by decide) (by decide) hA1 ⟨iT, ((2 : Int32).toInt), (kP iT), sc, bn_w er_41658 (by decide), I, (Or.inr ⟨(bn00 er_41658), (TrN (Y := ([] : List LI)) (f := 2) (a := 0) (its := []) (d := 0) (show ∀ S, Tr kK kV (([(kOne, oT, bL)] : List LI) ++ S) iT (([(kOne, oT, bL)] : List LI) ++ S) iT from fun _ => Tr_0) (by have u1 := tv_41626; have u2 := tv_41628; have u3 := tv_41630; have u4 := tv_41632; have u5 := tv_41634; have u6 := tv_41636; have u7 := tv_41638; have u8 := tv_41640; have u9 := tv_41642; have u10 := (show 9999 < v_41636.toInt from by have z9 := (Int32.not_le.mp c_41644); rw [Int32.lt_iff_toInt_lt] at z9; exact z9); have u11 := hi; have u12 := hN.1; have u13 := hN.2.1; have u14 := hl.1; have u15 := hl.2; have u16 := hk; have u17 := (RDH_lt hN hi (by have h9 := hk; omega)); have u18 := hk; unfold gx; simp only [isCmp] <;> (repeat' split) <;> first | rfl | (exfalso; omega)) (by decide)), (by decide), rfl⟩), (fun h => absurd ((bn00 er_41658).symm.trans h) (by decide))⟩ dX5_readPlainNumber_15
set_option maxHeartbeats 4000000 in
set_option maxRecDepth 100000 in
theorem x_X5_readName {l : Launch} {G : GG}  {L : List Nat} {f : HF} {ad : Nat → Nat → Nat} {nL : Int} {lw : Int} {fk : Int} {fp : Int} {kN : Nat} {kK : Nat → Int} {kP : Nat → Int} {kV : Nat → Int} {bT : Nat → Int32} {fc : Int × Int} {tc w : Nat → Int × Int} {q : Nat → (Nat → Int32) → Prop} {t : Nat} {iT oT : Nat} {bL : Bool} {sc : Nat → SG} {sl : Int} {cB : Int × Int} {cC cD : (Nat → Int32) → Prop} (I : SH (spC ((RF 30 t, fz (pp nL) (pp (kN : Int)) (pp ((iT + 1 : Nat) : Int)) (pp (kK iT)) (pp (kP iT)) (pp (kV iT)) (pp lw) (pp fk) (pp fp), tz (EQ bT) (RW kN kK) (RW kN kP) (RW kN kV), sc) : RS) fc tc w q) nnC G ad L f) (hW : WBp w 8) (hT : WBp tc 4) (hQ : QIp q) (ht : t < 4) (hN : RDH kK kN) (hi : iT < kN) (hs : sc t = (pp sl, cB, cC, cD)) (hl : 0 ≤ sl ∧ sl ≤ (iT : Int)) (hbl : bL = true ↔ lw = 2) (hk : 9 ≤ kK iT ∧ kK iT ≤ 18) : PMi l yX5_readName cX5_readName 1 .boolean 2 0 0 G [.ref (ad 2 0)] L f (fun r L1 f1 => ∃ j2 : Nat, ∃ fk2 : Int, ∃ fp2 : Int, ∃ sc2 : Nat → SG, bn 0 1 r ∧ SH (spC ((RF 30 t, fz (pp nL) (pp (kN : Int)) (pp ((j2 + 1 : Nat) : Int)) (pp (kK j2)) (pp (kP j2)) (pp (kV j2)) (pp lw) (pp fk2) (pp fp2), tz (EQ bT) (RW kN kK) (RW kN kP) (RW kN kV), sc2) : RS) fc tc w q) nnC G ad L1 f1 ∧ RDP kK kV kP ([(kOne, oT, bL)] : List LI) iT j2 kN fk fp fk2 fp2 r ∧ (r = 1 → ∃ sl2, sc2 t = (pp sl2, cB, cC, cD) ∧ sl < sl2 ∧ sl2 + (iT : Int) ≤ sl + (j2 : Int))) := by
  refine PMi.of (post := fun r L1 f1 => ∃ j2 : Nat, ∃ fk2 : Int, ∃ fp2 : Int, ∃ sc2 : Nat → SG, bn 0 1 r ∧ SH (spC ((RF 30 t, fz (pp nL) (pp (kN : Int)) (pp ((j2 + 1 : Nat) : Int)) (pp (kK j2)) (pp (kP j2)) (pp (kV j2)) (pp lw) (pp fk2) (pp fp2), tz (EQ bT) (RW kN kK) (RW kN kP) (RW kN kV), sc2) : RS) fc tc w q) nnC G ad L1 f1 ∧ RDP kK kV kP ([(kOne, oT, bL)] : List LI) iT j2 kN fk fp fk2 fp2 r ∧ (r = 1 → ∃ sl2, sc2 t = (pp sl2, cB, cC, cD) ∧ sl < sl2 ∧ sl2 + (iT : Int) ≤ sl + (j2 : Int))) (own := RX5) (by decide) rfl (Nat.le_of_ble_eq_true rfl) (fun sz p e s m args below meth c A ls hA1 hname S Y hl => ?_)
  have hx := S.hx
  have hb := S.hb
  have hl : lv_has ls 1 [(0, .ref (ad 2 0))] := hl
  refine lv_aload_n hx hb dX5_readName_0 rfl (lv_at hl 0 rfl) ?_
  obtain ⟨v_41747, v_41749, v_41751, v_41753, v_41755, v_41757, v_41759, v_41761, v_41763, p_ad_2_0, b_41748, b_41750, b_41752, b_41754, b_41756, b_41758, b_41760, b_41762, b_41764⟩ := opnC_2r (j := 0) I (by decide)
  have p_ad_2_0 : pt L f (ad 2 0) (.inr (5, [.ref (ad 50 0), .ref (ad 51 0), .ref (ad 52 0), .ref (ad 53 0), .int v_41747, .int v_41749, .int v_41751, .int v_41753, .int v_41755, .int v_41757, .int v_41759, .ref (ad 30 t), .int v_41761, .int v_41763])) := p_ad_2_0
  have tv_41747 : v_41747.toInt = nL := lim_eq b_41748
  have tv_41749 : v_41749.toInt = (kN : Int) := lim_eq b_41750
  have tv_41751 : v_41751.toInt = ((iT + 1 : Nat) : Int) := lim_eq b_41752
  have tv_41753 : v_41753.toInt = (kK iT) := lim_eq b_41754
  have tv_41755 : v_41755.toInt = (kP iT) := lim_eq b_41756
  have tv_41757 : v_41757.toInt = (kV iT) := lim_eq b_41758
  have tv_41759 : v_41759.toInt = lw := lim_eq b_41760
  have tv_41761 : v_41761.toInt = fk := lim_eq b_41762
  have tv_41763 : v_41763.toInt = fp := lim_eq b_41764
  refine pg_get S Y ok_X5 10 (by decide) kf5_144 (v := .int v_41759) p_ad_2_0 rfl dX5_readName_1 ?_
  refine lv_iconst (v := 2) hx hb dX5_readName_4 (by decide) ?_
  refine lv_icmp_ne (tgt := 23) hx hb dX5_readName_5 (by decide) (fun c_41765 => ?_) (fun c_41765 => ?_)
  · refine lv_aload_n hx hb dX5_readName_23 rfl (lv_at hl 0 rfl) ?_
    refine pg_get S Y ok_X5 11 (by decide) kf5_34 (v := .ref (ad 30 t)) p_ad_2_0 rfl dX5_readName_24 ?_
    refine lv_iconst (v := 1) hx hb dX5_readName_27 (by decide) ?_
    refine lv_aload_n hx hb dX5_readName_28 rfl (lv_at hl 0 rfl) ?_
    refine pg_get S Y ok_X5 7 (by decide) kf5_52 (v := .int v_41753) p_ad_2_0 rfl dX5_readName_29 ?_
    refine cVi (As := [.int 1, .int v_41753]) (rest := []) S Y (x_X7_add (l := l) (j := t) I hW hT hQ (show t < 8 from by omega) hs (by have u1 := tv_41747; have u2 := tv_41749; have u3 := tv_41751; have u4 := tv_41753; have u5 := tv_41755; have u6 := tv_41757; have u7 := tv_41759; have u8 := tv_41761; have u9 := tv_41763; have u10 := (show v_41759.toInt ≠ 2 from fun z => c_41765 (Int32.toInt_inj.mp (z.trans rfl))); have u11 := hi; have u12 := hN.1; have u13 := hN.2.1; have u14 := hl.1; have u15 := hl.2; have u16 := hk; have u17 := (RDH_lt hN hi (by have h9 := hk; omega)); omega)) cw_X7_add km5_169 (I.opo (k := 30) (j := t) (show t < 8 from by omega) rfl).choose_spec.1 ok_X7.1 rfl rfl ⟨Nat.le_of_ble_eq_true rfl, Nat.le_of_ble_eq_true rfl⟩ hl.1 rfl (Nat.le_of_ble_eq_true rfl) ⟨Nat.le_of_ble_eq_true rfl, Nat.le_of_ble_eq_true rfl⟩ dX5_readName_32 (fun r_41769 L_41767 f_41768 H locs hr_41769 Y => ?_)
    obtain ⟨sc2_41770, I, es_41771⟩ := hr_41769
    refine lv_pop hx hb dX5_readName_35 rfl ?_
    refine lv_aload_n hx hb dX5_readName_36 rfl (lv_at hl 0 rfl) ?_
    have hi_41772 : iT + 1 < kN := RDH_lt hN hi (by have u1 := tv_41747; have u2 := tv_41749; have u3 := tv_41751; have u4 := tv_41753; have u5 := tv_41755; have u6 := tv_41757; have u7 := tv_41759; have u8 := tv_41761; have u9 := tv_41763; have u10 := (show v_41759.toInt ≠ 2 from fun z => c_41765 (Int32.toInt_inj.mp (z.trans rfl))); have u11 := hi; have u12 := hN.1; have u13 := hN.2.1; have u14 := hl.1; have u15 := hl.2; have u16 := hk; have u17 := (RDH_lt hN hi (by have h9 := hk; omega)); have u18 := hk; omega)
    have tr_41773 : ∀ S, Tr kK kV (([(kOne, oT, bL)] : List LI) ++ S) iT (([] : List LI) ++ S) (iT + 1) := (TrY (Y := ([] : List LI)) (a := 1) (its := []) (d := 0) (show ∀ S, Tr kK kV (([(kOne, oT, bL)] : List LI) ++ S) iT (([(kOne, oT, bL)] : List LI) ++ S) iT from fun _ => Tr_0) (gx_nm hk (fun z => by have z1 := hbl.mp z.1; have z2 := z.2; have u1 := tv_41747; have u2 := tv_41749; have u3 := tv_41751; have u4 := tv_41753; have u5 := tv_41755; have u6 := tv_41757; have u7 := tv_41759; have u8 := tv_41761; have u9 := tv_41763; have u10 := (show v_41759.toInt ≠ 2 from fun z => c_41765 (Int32.toInt_inj.mp (z.trans rfl))); have u11 := hi; have u12 := hN.1; have u13 := hN.2.1; have u14 := hl.1; have u15 := hl.2; have u16 := hk; have u17 := (RDH_lt hN hi (by have h9 := hk; omega)); omega)) (by decide) rfl : ∀ S, Tr kK kV (([(kOne, oT, bL)] : List LI) ++ S) iT (([] : List LI) ++ S) (iT + 1))
    refine cVv (As := []) (rest := []) S Y (x_X5_step (l := l) I hW hT hQ hN hi_41772) cw_X5_step km5_49 (I.opo (k := 2) (j := 0) (by decide) rfl).choose_spec.1 ok_X5.1 rfl rfl ⟨Nat.le_of_ble_eq_true rfl, Nat.le_of_ble_eq_true rfl⟩ hl.1 rfl (Nat.le_of_ble_eq_true rfl) ⟨Nat.le_of_ble_eq_true rfl, Nat.le_of_ble_eq_true rfl⟩ dX5_readName_37 (fun L_41774 f_41775 H locs I Y => ?_)
    refine lv_iconst (v := 1) hx hb dX5_readName_40 (by decide) ?_
    exact prI (post := fun r L1 f1 => ∃ j2 : Nat, ∃ fk2 : Int, ∃ fp2 : Int, ∃ sc2 : Nat → SG, bn 0 1 r ∧ SH (spC ((RF 30 t, fz (pp nL) (pp (kN : Int)) (pp ((j2 + 1 : Nat) : Int)) (pp (kK j2)) (pp (kP j2)) (pp (kV j2)) (pp lw) (pp fk2) (pp fp2), tz (EQ bT) (RW kN kK) (RW kN kP) (RW kN kV), sc2) : RS) fc tc w q) nnC G ad L1 f1 ∧ RDP kK kV kP ([(kOne, oT, bL)] : List LI) iT j2 kN fk fp fk2 fp2 r ∧ (r = 1 → ∃ sl2, sc2 t = (pp sl2, cB, cC, cD) ∧ sl < sl2 ∧ sl2 + (iT : Int) ≤ sl + (j2 : Int))) S Y rfl (by decide) (by decide) hA1 ⟨(iT + 1), fk, fp, sc2_41770, bn_w (show bn 1 1 (1 : Int32) from bn_k (by decide)) (by decide), I, (Or.inl ⟨rfl, tr_41773, hi_41772, (by have u1 := tv_41747; have u2 := tv_41749; have u3 := tv_41751; have u4 := tv_41753; have u5 := tv_41755; have u6 := tv_41757; have u7 := tv_41759; have u8 := tv_41761; have u9 := tv_41763; have u10 := (show v_41759.toInt ≠ 2 from fun z => c_41765 (Int32.toInt_inj.mp (z.trans rfl))); have u11 := hi; have u12 := hN.1; have u13 := hN.2.1; have u14 := hl.1; have u15 := hl.2; have u16 := hk; have u17 := (RDH_lt hN hi (by have h9 := hk; omega)); have u18 := hi_41772; omega), rfl, rfl⟩), (fun _ => ⟨(sl + 1), es_41771, (by have u1 := tv_41747; have u2 := tv_41749; have u3 := tv_41751; have u4 := tv_41753; have u5 := tv_41755; have u6 := tv_41757; have u7 := tv_41759; have u8 := tv_41761; have u9 := tv_41763; have u10 := (show v_41759.toInt ≠ 2 from fun z => c_41765 (Int32.toInt_inj.mp (z.trans rfl))); have u11 := hi; have u12 := hN.1; have u13 := hN.2.1; have u14 := hl.1; have u15 := hl.2; have u16 := hk; have u17 := (RDH_lt hN hi (by have h9 := hk; omega)); have u18 := hi_41772; omega), (by have u1 := tv_41747; have u2 := tv_41749; have u3 := tv_41751; have u4 := tv_41753; have u5 := tv_41755; have u6 := tv_41757; have u7 := tv_41759; have u8 := tv_41761; have u9 := tv_41763; have u10 := (show v_41759.toInt ≠ 2 from fun z => c_41765 (Int32.toInt_inj.mp (z.trans rfl))); have u11 := hi; have u12 := hN.1; have u13 := hN.2.1; have u14 := hl.1; have u15 := hl.2; have u16 := hk; have u17 := (RDH_lt hN hi (by have h9 := hk; omega)); have u18 := hi_41772; omega)⟩)⟩ dX5_readName_41
  · have B_41766 : bn 2 2 v_41759 := bn_w (bn_eq c_41765 (show bn 2 2 (2 : Int32) from bn_k (by decide))) (by decide)
    refine lv_aload_n hx hb dX5_readName_8 rfl (lv_at hl 0 rfl) ?_
    refine pg_get S Y ok_X5 7 (by decide) kf5_52 (v := .int v_41753) p_ad_2_0 rfl dX5_readName_9 ?_
    refine lv_bipush (v := 14) hx hb dX5_readName_12 (by decide) ?_
    refine lv_icmp_lt (tgt := 23) hx hb dX5_readName_14 (by decide) (fun c_41776 => ?_) (fun c_41776 => ?_)
    · have B_41777 : bn (-2147483648) 13 v_41753 := bn_w (bn_ltl c_41776 (bn_any v_41753) (show bn 14 14 (14 : Int32) from bn_k (by decide))) (by decide)
      refine lv_aload_n hx hb dX5_readName_23 rfl (lv_at hl 0 rfl) ?_
      refine pg_get S Y ok_X5 11 (by decide) kf5_34 (v := .ref (ad 30 t)) p_ad_2_0 rfl dX5_readName_24 ?_
      refine lv_iconst (v := 1) hx hb dX5_readName_27 (by decide) ?_
      refine lv_aload_n hx hb dX5_readName_28 rfl (lv_at hl 0 rfl) ?_
      refine pg_get S Y ok_X5 7 (by decide) kf5_52 (v := .int v_41753) p_ad_2_0 rfl dX5_readName_29 ?_
      refine cVi (As := [.int 1, .int v_41753]) (rest := []) S Y (x_X7_add (l := l) (j := t) I hW hT hQ (show t < 8 from by omega) hs (by have u1 := tv_41747; have u2 := tv_41749; have u3 := tv_41751; have u4 := tv_41753; have u5 := tv_41755; have u6 := tv_41757; have u7 := tv_41759; have u8 := tv_41761; have u9 := tv_41763; have u10 := (show v_41759.toInt = 2 from by rw [c_41765]; rfl); have u11 := (show v_41753.toInt < 14 from by have z9 := c_41776; rw [Int32.lt_iff_toInt_lt] at z9; exact z9); have u12 := hi; have u13 := hN.1; have u14 := hN.2.1; have u15 := hl.1; have u16 := hl.2; have u17 := hk; have u18 := (RDH_lt hN hi (by have h9 := hk; omega)); omega)) cw_X7_add km5_169 (I.opo (k := 30) (j := t) (show t < 8 from by omega) rfl).choose_spec.1 ok_X7.1 rfl rfl ⟨Nat.le_of_ble_eq_true rfl, Nat.le_of_ble_eq_true rfl⟩ hl.1 rfl (Nat.le_of_ble_eq_true rfl) ⟨Nat.le_of_ble_eq_true rfl, Nat.le_of_ble_eq_true rfl⟩ dX5_readName_32 (fun r_41781 L_41779 f_41780 H locs hr_41781 Y => ?_)
      obtain ⟨sc2_41782, I, es_41783⟩ := hr_41781
      refine lv_pop hx hb dX5_readName_35 rfl ?_
      refine lv_aload_n hx hb dX5_readName_36 rfl (lv_at hl 0 rfl) ?_
      have hi_41784 : iT + 1 < kN := RDH_lt hN hi (by have u1 := tv_41747; have u2 := tv_41749; have u3 := tv_41751; have u4 := tv_41753; have u5 := tv_41755; have u6 := tv_41757; have u7 := tv_41759; have u8 := tv_41761; have u9 := tv_41763; have u10 := (show v_41759.toInt = 2 from by rw [c_41765]; rfl); have u11 := (show v_41753.toInt < 14 from by have z9 := c_41776; rw [Int32.lt_iff_toInt_lt] at z9; exact z9); have u12 := hi; have u13 := hN.1; have u14 := hN.2.1; have u15 := hl.1; have u16 := hl.2; have u17 := hk; have u18 := (RDH_lt hN hi (by have h9 := hk; omega)); have u19 := hk; omega)
      have tr_41785 : ∀ S, Tr kK kV (([(kOne, oT, bL)] : List LI) ++ S) iT (([] : List LI) ++ S) (iT + 1) := (TrY (Y := ([] : List LI)) (a := 1) (its := []) (d := 0) (show ∀ S, Tr kK kV (([(kOne, oT, bL)] : List LI) ++ S) iT (([(kOne, oT, bL)] : List LI) ++ S) iT from fun _ => Tr_0) (gx_nm hk (fun z => by have z1 := hbl.mp z.1; have z2 := z.2; have u1 := tv_41747; have u2 := tv_41749; have u3 := tv_41751; have u4 := tv_41753; have u5 := tv_41755; have u6 := tv_41757; have u7 := tv_41759; have u8 := tv_41761; have u9 := tv_41763; have u10 := (show v_41759.toInt = 2 from by rw [c_41765]; rfl); have u11 := (show v_41753.toInt < 14 from by have z9 := c_41776; rw [Int32.lt_iff_toInt_lt] at z9; exact z9); have u12 := hi; have u13 := hN.1; have u14 := hN.2.1; have u15 := hl.1; have u16 := hl.2; have u17 := hk; have u18 := (RDH_lt hN hi (by have h9 := hk; omega)); omega)) (by decide) rfl : ∀ S, Tr kK kV (([(kOne, oT, bL)] : List LI) ++ S) iT (([] : List LI) ++ S) (iT + 1))
      refine cVv (As := []) (rest := []) S Y (x_X5_step (l := l) I hW hT hQ hN hi_41784) cw_X5_step km5_49 (I.opo (k := 2) (j := 0) (by decide) rfl).choose_spec.1 ok_X5.1 rfl rfl ⟨Nat.le_of_ble_eq_true rfl, Nat.le_of_ble_eq_true rfl⟩ hl.1 rfl (Nat.le_of_ble_eq_true rfl) ⟨Nat.le_of_ble_eq_true rfl, Nat.le_of_ble_eq_true rfl⟩ dX5_readName_37 (fun L_41786 f_41787 H locs I Y => ?_)
      refine lv_iconst (v := 1) hx hb dX5_readName_40 (by decide) ?_
      exact prI (post := fun r L1 f1 => ∃ j2 : Nat, ∃ fk2 : Int, ∃ fp2 : Int, ∃ sc2 : Nat → SG, bn 0 1 r ∧ SH (spC ((RF 30 t, fz (pp nL) (pp (kN : Int)) (pp ((j2 + 1 : Nat) : Int)) (pp (kK j2)) (pp (kP j2)) (pp (kV j2)) (pp lw) (pp fk2) (pp fp2), tz (EQ bT) (RW kN kK) (RW kN kP) (RW kN kV), sc2) : RS) fc tc w q) nnC G ad L1 f1 ∧ RDP kK kV kP ([(kOne, oT, bL)] : List LI) iT j2 kN fk fp fk2 fp2 r ∧ (r = 1 → ∃ sl2, sc2 t = (pp sl2, cB, cC, cD) ∧ sl < sl2 ∧ sl2 + (iT : Int) ≤ sl + (j2 : Int))) S Y rfl (by decide) (by decide) hA1 ⟨(iT + 1), fk, fp, sc2_41782, bn_w (show bn 1 1 (1 : Int32) from bn_k (by decide)) (by decide), I, (Or.inl ⟨rfl, tr_41785, hi_41784, (by have u1 := tv_41747; have u2 := tv_41749; have u3 := tv_41751; have u4 := tv_41753; have u5 := tv_41755; have u6 := tv_41757; have u7 := tv_41759; have u8 := tv_41761; have u9 := tv_41763; have u10 := (show v_41759.toInt = 2 from by rw [c_41765]; rfl); have u11 := (show v_41753.toInt < 14 from by have z9 := c_41776; rw [Int32.lt_iff_toInt_lt] at z9; exact z9); have u12 := hi; have u13 := hN.1; have u14 := hN.2.1; have u15 := hl.1; have u16 := hl.2; have u17 := hk; have u18 := (RDH_lt hN hi (by have h9 := hk; omega)); have u19 := hi_41784; omega), rfl, rfl⟩), (fun _ => ⟨(sl + 1), es_41783, (by have u1 := tv_41747; have u2 := tv_41749; have u3 := tv_41751; have u4 := tv_41753; have u5 := tv_41755; have u6 := tv_41757; have u7 := tv_41759; have u8 := tv_41761; have u9 := tv_41763; have u10 := (show v_41759.toInt = 2 from by rw [c_41765]; rfl); have u11 := (show v_41753.toInt < 14 from by have z9 := c_41776; rw [Int32.lt_iff_toInt_lt] at z9; exact z9); have u12 := hi; have u13 := hN.1; have u14 := hN.2.1; have u15 := hl.1; have u16 := hl.2; have u17 := hk; have u18 := (RDH_lt hN hi (by have h9 := hk; omega)); have u19 := hi_41784; omega), (by have u1 := tv_41747; have u2 := tv_41749; have u3 := tv_41751; have u4 := tv_41753; have u5 := tv_41755; have u6 := tv_41757; have u7 := tv_41759; have u8 := tv_41761; have u9 := tv_41763; have u10 := (show v_41759.toInt = 2 from by rw [c_41765]; rfl); have u11 := (show v_41753.toInt < 14 from by have z9 := c_41776; rw [Int32.lt_iff_toInt_lt] at z9; exact z9); have u12 := hi; have u13 := hN.1; have u14 := hN.2.1; have u15 := hl.1; have u16 := hl.2; have u17 := hk; have u18 := (RDH_lt hN hi (by have h9 := hk; omega)); have u19 := hi_41784; omega)⟩)⟩ dX5_readName_41
    · have B_41778 : bn 14 2147483647 v_41753 := bn_w (bn_gel c_41776 (bn_any v_41753) (show bn 14 14 (14 : Int32) from bn_k (by decide))) (by decide)
      refine lv_aload_n hx hb dX5_readName_17 rfl (lv_at hl 0 rfl) ?_
      refine lv_iconst (v := 5) hx hb dX5_readName_18 (by decide) ?_
      refine cVi (As := [.int 5]) (rest := []) S Y (x_X5_fail (l := l) I hW hT hQ) cw_X5_fail km5_121 p_ad_2_0 ok_X5.1 rfl rfl ⟨Nat.le_of_ble_eq_true rfl, Nat.le_of_ble_eq_true rfl⟩ hl.1 rfl (Nat.le_of_ble_eq_true rfl) ⟨Nat.le_of_ble_eq_true rfl, Nat.le_of_ble_eq_true rfl⟩ dX5_readName_19 (fun r_41790 L_41788 f_41789 H locs hr_41790 Y => ?_)
      obtain ⟨er_41790, I⟩ := hr_41790
      exact prI (post := fun r L1 f1 => ∃ j2 : Nat, ∃ fk2 : Int, ∃ fp2 : Int, ∃ sc2 : Nat → SG, bn 0 1 r ∧ SH (spC ((RF 30 t, fz (pp nL) (pp (kN : Int)) (pp ((j2 + 1 : Nat) : Int)) (pp (kK j2)) (pp (kP j2)) (pp (kV j2)) (pp lw) (pp fk2) (pp fp2), tz (EQ bT) (RW kN kK) (RW kN kP) (RW kN kV), sc2) : RS) fc tc w q) nnC G ad L1 f1 ∧ RDP kK kV kP ([(kOne, oT, bL)] : List LI) iT j2 kN fk fp fk2 fp2 r ∧ (r = 1 → ∃ sl2, sc2 t = (pp sl2, cB, cC, cD) ∧ sl < sl2 ∧ sl2 + (iT : Int) ≤ sl + (j2 : Int))) S Y (nw_b (bn_w er_41790 (by decide))) (by decide) (by decide) hA1 ⟨iT, ((5 : Int32).toInt), (kP iT), sc, bn_w er_41790 (by decide), I, (Or.inr ⟨(bn00 er_41790), (TrN (Y := ([] : List LI)) (f := 5) (a := 0) (its := []) (d := 0) (show ∀ S, Tr kK kV (([(kOne, oT, bL)] : List LI) ++ S) iT (([(kOne, oT, bL)] : List LI) ++ S) iT from fun _ => Tr_0) (gx_rk (by have u1 := tv_41747; have u2 := tv_41749; have u3 := tv_41751; have u4 := tv_41753; have u5 := tv_41755; have u6 := tv_41757; have u7 := tv_41759; have u8 := tv_41761; have u9 := tv_41763; have u10 := (show v_41759.toInt = 2 from by rw [c_41765]; rfl); have u11 := (show 14 ≤ v_41753.toInt from by have z9 := (Int32.not_lt.mp c_41776); rw [Int32.le_iff_toInt_le] at z9; exact z9); have u12 := hi; have u13 := hN.1; have u14 := hN.2.1; have u15 := hl.1; have u16 := hl.2; have u17 := hk; have u18 := (RDH_lt hN hi (by have h9 := hk; omega)); have u19 := hk; omega) (hbl.mpr (by have u1 := tv_41747; have u2 := tv_41749; have u3 := tv_41751; have u4 := tv_41753; have u5 := tv_41755; have u6 := tv_41757; have u7 := tv_41759; have u8 := tv_41761; have u9 := tv_41763; have u10 := (show v_41759.toInt = 2 from by rw [c_41765]; rfl); have u11 := (show 14 ≤ v_41753.toInt from by have z9 := (Int32.not_lt.mp c_41776); rw [Int32.le_iff_toInt_le] at z9; exact z9); have u12 := hi; have u13 := hN.1; have u14 := hN.2.1; have u15 := hl.1; have u16 := hl.2; have u17 := hk; have u18 := (RDH_lt hN hi (by have h9 := hk; omega)); omega))) (by decide)), (by decide), rfl⟩), (fun h => absurd ((bn00 er_41790).symm.trans h) (by decide))⟩ dX5_readName_22
