theorem dX5_size_0 : decode cX5_size 0 = .ok (.aload_n 0, 1) := by decide +kernel
theorem dX5_size_1 : decode cX5_size 1 = .ok (.getfield 31, 3) := by decide +kernel
theorem ok_X5 : clOK 5 RX5 TX5 14 tyX5 := ⟨rfl, fun w h => ⟨(show ∀ w ∈ u_ws RX5 TX5 14, w ∈ lw_tbl by decide +kernel) w h, (show ∀ w ∈ u_ws RX5 TX5 14, gw w = true by decide +kernel) w h⟩, tyX5_ok, nmX5⟩
theorem kf5_31 : inW (Cond.fieldLink RX5 31 "KneeOaths$Reader" "length" "I") := ⟨List.mem_of_getElem? (i := 343) (by decide +kernel), by decide +kernel⟩
theorem dX5_size_4 : decode cX5_size 4 = .ok (.ireturn, 1) := by decide +kernel
theorem dX5_faultKind_0 : decode cX5_faultKind 0 = .ok (.aload_n 0, 1) := by decide +kernel
theorem dX5_faultKind_1 : decode cX5_faultKind 1 = .ok (.getfield 24, 3) := by decide +kernel
theorem kf5_24 : inW (Cond.fieldLink RX5 24 "KneeOaths$Reader" "faultKind" "I") := ⟨List.mem_of_getElem? (i := 351) (by decide +kernel), by decide +kernel⟩
theorem dX5_faultKind_4 : decode cX5_faultKind 4 = .ok (.ireturn, 1) := by decide +kernel
theorem dX5_faultPlace_0 : decode cX5_faultPlace 0 = .ok (.aload_n 0, 1) := by decide +kernel
theorem dX5_faultPlace_1 : decode cX5_faultPlace 1 = .ok (.getfield 28, 3) := by decide +kernel
theorem kf5_28 : inW (Cond.fieldLink RX5 28 "KneeOaths$Reader" "faultPlace" "I") := ⟨List.mem_of_getElem? (i := 352) (by decide +kernel), by decide +kernel⟩
theorem dX5_faultPlace_4 : decode cX5_faultPlace 4 = .ok (.ireturn, 1) := by decide +kernel
theorem dX5_hasRoomFor_0 : decode cX5_hasRoomFor 0 = .ok (.aload_n 0, 1) := by decide +kernel
theorem dX5_hasRoomFor_1 : decode cX5_hasRoomFor 1 = .ok (.getfield 31, 3) := by decide +kernel
theorem dX5_hasRoomFor_4 : decode cX5_hasRoomFor 4 = .ok (.iload_n 1, 1) := by decide +kernel
theorem dX5_hasRoomFor_5 : decode cX5_hasRoomFor 5 = .ok (.iadd, 1) := by decide +kernel
theorem dX5_hasRoomFor_6 : decode cX5_hasRoomFor 6 = .ok (.sipush 300, 3) := by decide +kernel
theorem dX5_hasRoomFor_9 : decode cX5_hasRoomFor 9 = .ok (.if_icmp .gt 7, 3) := by decide +kernel
theorem dX5_hasRoomFor_16 : decode cX5_hasRoomFor 16 = .ok (.iconst 0, 1) := by decide +kernel
theorem dX5_hasRoomFor_17 : decode cX5_hasRoomFor 17 = .ok (.ireturn, 1) := by decide +kernel
theorem dX5_hasRoomFor_12 : decode cX5_hasRoomFor 12 = .ok (.iconst 1, 1) := by decide +kernel
theorem dX5_hasRoomFor_13 : decode cX5_hasRoomFor 13 = .ok (.goto 4, 3) := by decide +kernel
theorem dX5_append_0 : decode cX5_append 0 = .ok (.bipush 24, 2) := by decide +kernel
theorem dX5_append_2 : decode cX5_append 2 = .ok (.istore_n 2, 1) := by decide +kernel
theorem dX5_append_3 : decode cX5_append 3 = .ok (.iload_n 2, 1) := by decide +kernel
theorem dX5_append_4 : decode cX5_append 4 = .ok (.ifCond .lt 45, 3) := by decide +kernel
theorem dX5_append_7 : decode cX5_append 7 = .ok (.aload_n 0, 1) := by decide +kernel
theorem dX5_append_8 : decode cX5_append 8 = .ok (.getfield 31, 3) := by decide +kernel
theorem dX5_append_11 : decode cX5_append 11 = .ok (.sipush 300, 3) := by decide +kernel
theorem dX5_append_14 : decode cX5_append 14 = .ok (.if_icmp .ge 29, 3) := by decide +kernel
theorem dX5_append_43 : decode cX5_append 43 = .ok (.iinc 2 (-8), 3) := by decide +kernel
theorem dX5_append_46 : decode cX5_append 46 = .ok (.goto (-43), 3) := by decide +kernel
theorem dX5_append_17 : decode cX5_append 17 = .ok (.aload_n 0, 1) := by decide +kernel
theorem dX5_append_18 : decode cX5_append 18 = .ok (.getfield 9, 3) := by decide +kernel
theorem kf5_9 : inW (Cond.fieldLink RX5 9 "KneeOaths$Reader" "tape" "[I") := ⟨List.mem_of_getElem? (i := 339) (by decide +kernel), by decide +kernel⟩
theorem dX5_append_21 : decode cX5_append 21 = .ok (.aload_n 0, 1) := by decide +kernel
theorem dX5_append_22 : decode cX5_append 22 = .ok (.getfield 31, 3) := by decide +kernel
theorem dX5_append_25 : decode cX5_append 25 = .ok (.iload_n 1, 1) := by decide +kernel
theorem dX5_append_26 : decode cX5_append 26 = .ok (.iload_n 2, 1) := by decide +kernel
theorem dX5_append_27 : decode cX5_append 27 = .ok (.iushr, 1) := by decide +kernel
theorem dX5_append_28 : decode cX5_append 28 = .ok (.sipush 255, 3) := by decide +kernel
theorem dX5_append_31 : decode cX5_append 31 = .ok (.iand, 1) := by decide +kernel
theorem dX5_append_32 : decode cX5_append 32 = .ok (.iastore, 1) := by decide +kernel
theorem dX5_append_33 : decode cX5_append 33 = .ok (.aload_n 0, 1) := by decide +kernel
theorem dX5_append_34 : decode cX5_append 34 = .ok (.dup, 1) := by decide +kernel
theorem dX5_append_35 : decode cX5_append 35 = .ok (.getfield 31, 3) := by decide +kernel
theorem dX5_append_38 : decode cX5_append 38 = .ok (.iconst 1, 1) := by decide +kernel
theorem dX5_append_39 : decode cX5_append 39 = .ok (.iadd, 1) := by decide +kernel
theorem dX5_append_40 : decode cX5_append 40 = .ok (.putfield 31, 3) := by decide +kernel
theorem dX5_append_49 : decode cX5_append 49 = .ok (.return_, 1) := by decide +kernel
theorem dX5_cutTo_0 : decode cX5_cutTo 0 = .ok (.iload_n 1, 1) := by decide +kernel
theorem dX5_cutTo_1 : decode cX5_cutTo 1 = .ok (.ifCond .lt 11, 3) := by decide +kernel
theorem dX5_cutTo_12 : decode cX5_cutTo 12 = .ok (.iconst 0, 1) := by decide +kernel
theorem dX5_cutTo_13 : decode cX5_cutTo 13 = .ok (.ireturn, 1) := by decide +kernel
theorem dX5_cutTo_4 : decode cX5_cutTo 4 = .ok (.iload_n 1, 1) := by decide +kernel
theorem dX5_cutTo_5 : decode cX5_cutTo 5 = .ok (.aload_n 0, 1) := by decide +kernel
theorem dX5_cutTo_6 : decode cX5_cutTo 6 = .ok (.getfield 31, 3) := by decide +kernel
theorem dX5_cutTo_9 : decode cX5_cutTo 9 = .ok (.if_icmp .le 5, 3) := by decide +kernel
theorem dX5_cutTo_14 : decode cX5_cutTo 14 = .ok (.aload_n 0, 1) := by decide +kernel
theorem dX5_cutTo_15 : decode cX5_cutTo 15 = .ok (.iload_n 1, 1) := by decide +kernel
theorem dX5_cutTo_16 : decode cX5_cutTo 16 = .ok (.putfield 31, 3) := by decide +kernel
theorem dX5_cutTo_19 : decode cX5_cutTo 19 = .ok (.iconst 1, 1) := by decide +kernel
theorem dX5_cutTo_20 : decode cX5_cutTo 20 = .ok (.ireturn, 1) := by decide +kernel
theorem dX5_fail_0 : decode cX5_fail 0 = .ok (.aload_n 0, 1) := by decide +kernel
theorem dX5_fail_1 : decode cX5_fail 1 = .ok (.iload_n 1, 1) := by decide +kernel
theorem dX5_fail_2 : decode cX5_fail 2 = .ok (.putfield 24, 3) := by decide +kernel
theorem dX5_fail_5 : decode cX5_fail 5 = .ok (.aload_n 0, 1) := by decide +kernel
theorem dX5_fail_6 : decode cX5_fail 6 = .ok (.aload_n 0, 1) := by decide +kernel
theorem dX5_fail_7 : decode cX5_fail 7 = .ok (.getfield 59, 3) := by decide +kernel
theorem kf5_59 : inW (Cond.fieldLink RX5 59 "KneeOaths$Reader" "place" "I") := ⟨List.mem_of_getElem? (i := 347) (by decide +kernel), by decide +kernel⟩
theorem dX5_fail_10 : decode cX5_fail 10 = .ok (.putfield 28, 3) := by decide +kernel
theorem dX5_fail_13 : decode cX5_fail 13 = .ok (.iconst 0, 1) := by decide +kernel
theorem dX5_fail_14 : decode cX5_fail 14 = .ok (.ireturn, 1) := by decide +kernel
theorem dX5_byteAt_0 : decode cX5_byteAt 0 = .ok (.iload_n 1, 1) := by decide +kernel
theorem dX5_byteAt_1 : decode cX5_byteAt 1 = .ok (.ifCond .lt 20, 3) := by decide +kernel
theorem dX5_byteAt_21 : decode cX5_byteAt 21 = .ok (.iconst (-1), 1) := by decide +kernel
theorem dX5_byteAt_22 : decode cX5_byteAt 22 = .ok (.ireturn, 1) := by decide +kernel
theorem dX5_byteAt_4 : decode cX5_byteAt 4 = .ok (.iload_n 1, 1) := by decide +kernel
theorem dX5_byteAt_5 : decode cX5_byteAt 5 = .ok (.aload_n 0, 1) := by decide +kernel
theorem dX5_byteAt_6 : decode cX5_byteAt 6 = .ok (.getfield 31, 3) := by decide +kernel
theorem dX5_byteAt_9 : decode cX5_byteAt 9 = .ok (.if_icmp .ge 12, 3) := by decide +kernel
theorem dX5_byteAt_12 : decode cX5_byteAt 12 = .ok (.aload_n 0, 1) := by decide +kernel
theorem dX5_byteAt_13 : decode cX5_byteAt 13 = .ok (.getfield 9, 3) := by decide +kernel
theorem dX5_byteAt_16 : decode cX5_byteAt 16 = .ok (.iload_n 1, 1) := by decide +kernel
theorem dX5_byteAt_17 : decode cX5_byteAt 17 = .ok (.iaload, 1) := by decide +kernel
theorem dX5_byteAt_18 : decode cX5_byteAt 18 = .ok (.goto 4, 3) := by decide +kernel
theorem dX5_isLetter_0 : decode cX5_isLetter 0 = .ok (.iload_n 0, 1) := by decide +kernel
theorem dX5_isLetter_1 : decode cX5_isLetter 1 = .ok (.bipush 97, 2) := by decide +kernel
theorem dX5_isLetter_3 : decode cX5_isLetter 3 = .ok (.if_icmp .lt 9, 3) := by decide +kernel
theorem dX5_isLetter_12 : decode cX5_isLetter 12 = .ok (.iload_n 0, 1) := by decide +kernel
theorem dX5_isLetter_13 : decode cX5_isLetter 13 = .ok (.bipush 65, 2) := by decide +kernel
theorem dX5_isLetter_15 : decode cX5_isLetter 15 = .ok (.if_icmp .lt 13, 3) := by decide +kernel
theorem dX5_isLetter_28 : decode cX5_isLetter 28 = .ok (.iconst 0, 1) := by decide +kernel
theorem dX5_isLetter_29 : decode cX5_isLetter 29 = .ok (.ireturn, 1) := by decide +kernel
theorem dX5_isLetter_18 : decode cX5_isLetter 18 = .ok (.iload_n 0, 1) := by decide +kernel
theorem dX5_isLetter_19 : decode cX5_isLetter 19 = .ok (.bipush 90, 2) := by decide +kernel
theorem dX5_isLetter_21 : decode cX5_isLetter 21 = .ok (.if_icmp .gt 7, 3) := by decide +kernel
theorem dX5_isLetter_24 : decode cX5_isLetter 24 = .ok (.iconst 1, 1) := by decide +kernel
theorem dX5_isLetter_25 : decode cX5_isLetter 25 = .ok (.goto 4, 3) := by decide +kernel
theorem dX5_isLetter_6 : decode cX5_isLetter 6 = .ok (.iload_n 0, 1) := by decide +kernel
theorem dX5_isLetter_7 : decode cX5_isLetter 7 = .ok (.bipush 122, 2) := by decide +kernel
theorem dX5_isLetter_9 : decode cX5_isLetter 9 = .ok (.if_icmp .le 15, 3) := by decide +kernel
theorem dX5_isDigit_0 : decode cX5_isDigit 0 = .ok (.iload_n 0, 1) := by decide +kernel
theorem dX5_isDigit_1 : decode cX5_isDigit 1 = .ok (.bipush 48, 2) := by decide +kernel
theorem dX5_isDigit_3 : decode cX5_isDigit 3 = .ok (.if_icmp .lt 13, 3) := by decide +kernel
theorem dX5_isDigit_16 : decode cX5_isDigit 16 = .ok (.iconst 0, 1) := by decide +kernel
theorem dX5_isDigit_17 : decode cX5_isDigit 17 = .ok (.ireturn, 1) := by decide +kernel
theorem dX5_isDigit_6 : decode cX5_isDigit 6 = .ok (.iload_n 0, 1) := by decide +kernel
theorem dX5_isDigit_7 : decode cX5_isDigit 7 = .ok (.bipush 57, 2) := by decide +kernel
theorem dX5_isDigit_9 : decode cX5_isDigit 9 = .ok (.if_icmp .gt 7, 3) := by decide +kernel
theorem dX5_isDigit_12 : decode cX5_isDigit 12 = .ok (.iconst 1, 1) := by decide +kernel
theorem dX5_isDigit_13 : decode cX5_isDigit 13 = .ok (.goto 4, 3) := by decide +kernel
theorem dX5_addToken_0 : decode cX5_addToken 0 = .ok (.aload_n 0, 1) := by decide +kernel
theorem dX5_addToken_1 : decode cX5_addToken 1 = .ok (.getfield 62, 3) := by decide +kernel
theorem kf5_62 : inW (Cond.fieldLink RX5 62 "KneeOaths$Reader" "tokenCount" "I") := ⟨List.mem_of_getElem? (i := 344) (by decide +kernel), by decide +kernel⟩
theorem dX5_addToken_4 : decode cX5_addToken 4 = .ok (.aload_n 0, 1) := by decide +kernel
theorem dX5_addToken_5 : decode cX5_addToken 5 = .ok (.getfield 15, 3) := by decide +kernel
theorem kf5_15 : inW (Cond.fieldLink RX5 15 "KneeOaths$Reader" "kinds" "[I") := ⟨List.mem_of_getElem? (i := 340) (by decide +kernel), by decide +kernel⟩
theorem dX5_addToken_8 : decode cX5_addToken 8 = .ok (.arraylength, 1) := by decide +kernel
theorem dX5_addToken_9 : decode cX5_addToken 9 = .ok (.if_icmp .ge 43, 3) := by decide +kernel
theorem dX5_addToken_52 : decode cX5_addToken 52 = .ok (.return_, 1) := by decide +kernel
theorem dX5_addToken_12 : decode cX5_addToken 12 = .ok (.aload_n 0, 1) := by decide +kernel
theorem dX5_addToken_13 : decode cX5_addToken 13 = .ok (.getfield 15, 3) := by decide +kernel
theorem dX5_addToken_16 : decode cX5_addToken 16 = .ok (.aload_n 0, 1) := by decide +kernel
theorem dX5_addToken_17 : decode cX5_addToken 17 = .ok (.getfield 62, 3) := by decide +kernel
theorem dX5_addToken_20 : decode cX5_addToken 20 = .ok (.iload_n 1, 1) := by decide +kernel
theorem dX5_addToken_21 : decode cX5_addToken 21 = .ok (.iastore, 1) := by decide +kernel
theorem dX5_addToken_22 : decode cX5_addToken 22 = .ok (.aload_n 0, 1) := by decide +kernel
theorem dX5_addToken_23 : decode cX5_addToken 23 = .ok (.getfield 18, 3) := by decide +kernel
theorem kf5_18 : inW (Cond.fieldLink RX5 18 "KneeOaths$Reader" "places" "[I") := ⟨List.mem_of_getElem? (i := 341) (by decide +kernel), by decide +kernel⟩
theorem dX5_addToken_26 : decode cX5_addToken 26 = .ok (.aload_n 0, 1) := by decide +kernel
theorem dX5_addToken_27 : decode cX5_addToken 27 = .ok (.getfield 62, 3) := by decide +kernel
theorem dX5_addToken_30 : decode cX5_addToken 30 = .ok (.iload_n 2, 1) := by decide +kernel
theorem dX5_addToken_31 : decode cX5_addToken 31 = .ok (.iastore, 1) := by decide +kernel
theorem dX5_addToken_32 : decode cX5_addToken 32 = .ok (.aload_n 0, 1) := by decide +kernel
theorem dX5_addToken_33 : decode cX5_addToken 33 = .ok (.getfield 21, 3) := by decide +kernel
theorem kf5_21 : inW (Cond.fieldLink RX5 21 "KneeOaths$Reader" "values" "[I") := ⟨List.mem_of_getElem? (i := 342) (by decide +kernel), by decide +kernel⟩
theorem dX5_addToken_36 : decode cX5_addToken 36 = .ok (.aload_n 0, 1) := by decide +kernel
theorem dX5_addToken_37 : decode cX5_addToken 37 = .ok (.getfield 62, 3) := by decide +kernel
theorem dX5_addToken_40 : decode cX5_addToken 40 = .ok (.iload_n 3, 1) := by decide +kernel
theorem dX5_addToken_41 : decode cX5_addToken 41 = .ok (.iastore, 1) := by decide +kernel
theorem dX5_addToken_42 : decode cX5_addToken 42 = .ok (.aload_n 0, 1) := by decide +kernel
theorem dX5_addToken_43 : decode cX5_addToken 43 = .ok (.dup, 1) := by decide +kernel
theorem dX5_addToken_44 : decode cX5_addToken 44 = .ok (.getfield 62, 3) := by decide +kernel
theorem dX5_addToken_47 : decode cX5_addToken 47 = .ok (.iconst 1, 1) := by decide +kernel
theorem dX5_addToken_48 : decode cX5_addToken 48 = .ok (.iadd, 1) := by decide +kernel
theorem dX5_addToken_49 : decode cX5_addToken 49 = .ok (.putfield 62, 3) := by decide +kernel
theorem dX5_cutNumber_0 : decode cX5_cutNumber 0 = .ok (.iload_n 1, 1) := by decide +kernel
theorem dX5_cutNumber_1 : decode cX5_cutNumber 1 = .ok (.istore_n 2, 1) := by decide +kernel
theorem dX5_cutNumber_2 : decode cX5_cutNumber 2 = .ok (.iconst 0, 1) := by decide +kernel
theorem dX5_cutNumber_3 : decode cX5_cutNumber 3 = .ok (.istore_n 3, 1) := by decide +kernel
theorem dX5_cutNumber_4 : decode cX5_cutNumber 4 = .ok (.iload_n 2, 1) := by decide +kernel
theorem dX5_cutNumber_5 : decode cX5_cutNumber 5 = .ok (.aload_n 0, 1) := by decide +kernel
theorem dX5_cutNumber_6 : decode cX5_cutNumber 6 = .ok (.getfield 31, 3) := by decide +kernel
theorem dX5_cutNumber_9 : decode cX5_cutNumber 9 = .ok (.if_icmp .ge 40, 3) := by decide +kernel
theorem dX5_cutNumber_49 : decode cX5_cutNumber 49 = .ok (.aload_n 0, 1) := by decide +kernel
theorem dX5_cutNumber_50 : decode cX5_cutNumber 50 = .ok (.sipush 1000, 3) := by decide +kernel
theorem dX5_cutNumber_53 : decode cX5_cutNumber 53 = .ok (.iload_n 1, 1) := by decide +kernel
theorem dX5_cutNumber_54 : decode cX5_cutNumber 54 = .ok (.iload_n 3, 1) := by decide +kernel
theorem dX5_cutNumber_55 : decode cX5_cutNumber 55 = .ok (.invokevirtual 85, 3) := by decide +kernel
theorem cw_X5_addToken : CWv yX5_addToken cX5_addToken 4 none 3 := ⟨⟨⟨List.mem_of_getElem? (i := 130) (by decide +kernel), by decide +kernel⟩, ⟨List.mem_of_getElem? (i := 659) (by decide +kernel), by decide +kernel⟩, by decide +kernel⟩, ⟨List.mem_of_getElem? (i := 658) (by decide +kernel), by decide +kernel⟩, ⟨List.mem_of_getElem? (i := 5) (by decide +kernel), by decide +kernel⟩⟩
theorem km5_85 : inW (Cond.methodLink RX5 85 yX5_addToken) := ⟨List.mem_of_getElem? (i := 656) (by decide +kernel), by decide +kernel⟩
theorem dX5_cutNumber_58 : decode cX5_cutNumber 58 = .ok (.iload_n 2, 1) := by decide +kernel
theorem dX5_cutNumber_59 : decode cX5_cutNumber 59 = .ok (.ireturn, 1) := by decide +kernel
theorem dX5_cutNumber_12 : decode cX5_cutNumber 12 = .ok (.aload_n 0, 1) := by decide +kernel
theorem dX5_cutNumber_13 : decode cX5_cutNumber 13 = .ok (.iload_n 2, 1) := by decide +kernel
theorem dX5_cutNumber_14 : decode cX5_cutNumber 14 = .ok (.invokevirtual 65, 3) := by decide +kernel
theorem cw_X5_byteAt : CWv yX5_byteAt cX5_byteAt 2 (some .int) 1 := ⟨⟨⟨List.mem_of_getElem? (i := 130) (by decide +kernel), by decide +kernel⟩, ⟨List.mem_of_getElem? (i := 591) (by decide +kernel), by decide +kernel⟩, by decide +kernel⟩, ⟨List.mem_of_getElem? (i := 590) (by decide +kernel), by decide +kernel⟩, ⟨List.mem_of_getElem? (i := 1) (by decide +kernel), by decide +kernel⟩⟩
theorem km5_65 : inW (Cond.methodLink RX5 65 yX5_byteAt) := ⟨List.mem_of_getElem? (i := 588) (by decide +kernel), by decide +kernel⟩
theorem dX5_cutNumber_17 : decode cX5_cutNumber 17 = .ok (.invokestatic 76, 3) := by decide +kernel
theorem cw_X5_isDigit : CWs yX5_isDigit cX5_isDigit 1 (some .boolean) 1 := ⟨⟨⟨List.mem_of_getElem? (i := 130) (by decide +kernel), by decide +kernel⟩, ⟨List.mem_of_getElem? (i := 662) (by decide +kernel), by decide +kernel⟩, by decide +kernel⟩, ⟨List.mem_of_getElem? (i := 661) (by decide +kernel), by decide +kernel⟩⟩
theorem km5_76 : inW (Cond.methodLink RX5 76 yX5_isDigit) := ⟨List.mem_of_getElem? (i := 660) (by decide +kernel), by decide +kernel⟩
theorem dX5_cutNumber_20 : decode cX5_cutNumber 20 = .ok (.ifCond .eq 29, 3) := by decide +kernel
theorem dX5_cutNumber_23 : decode cX5_cutNumber 23 = .ok (.sipush 10000, 3) := by decide +kernel
theorem dX5_cutNumber_26 : decode cX5_cutNumber 26 = .ok (.iload_n 3, 1) := by decide +kernel
theorem dX5_cutNumber_27 : decode cX5_cutNumber 27 = .ok (.bipush 10, 2) := by decide +kernel
theorem dX5_cutNumber_29 : decode cX5_cutNumber 29 = .ok (.imul, 1) := by decide +kernel
theorem dX5_cutNumber_30 : decode cX5_cutNumber 30 = .ok (.aload_n 0, 1) := by decide +kernel
theorem dX5_cutNumber_31 : decode cX5_cutNumber 31 = .ok (.iload_n 2, 1) := by decide +kernel
theorem dX5_cutNumber_32 : decode cX5_cutNumber 32 = .ok (.invokevirtual 65, 3) := by decide +kernel
theorem dX5_cutNumber_35 : decode cX5_cutNumber 35 = .ok (.iadd, 1) := by decide +kernel
theorem dX5_cutNumber_36 : decode cX5_cutNumber 36 = .ok (.bipush 48, 2) := by decide +kernel
theorem dX5_cutNumber_38 : decode cX5_cutNumber 38 = .ok (.isub, 1) := by decide +kernel
theorem dX5_cutNumber_39 : decode cX5_cutNumber 39 = .ok (.invokestatic 108, 3) := by decide +kernel
theorem km5_108 : inW (Cond.methodLink RX5 108 Lib.Math.min.name) := ⟨List.mem_of_getElem? (i := 667) (by decide +kernel), by decide +kernel⟩
theorem dX5_cutNumber_42 : decode cX5_cutNumber 42 = .ok (.istore_n 3, 1) := by decide +kernel
theorem dX5_cutNumber_43 : decode cX5_cutNumber 43 = .ok (.iinc 2 1, 3) := by decide +kernel
theorem dX5_cutNumber_46 : decode cX5_cutNumber 46 = .ok (.goto (-42), 3) := by decide +kernel
theorem dX5_step_0 : decode cX5_step 0 = .ok (.aload_n 0, 1) := by decide +kernel
theorem dX5_step_1 : decode cX5_step 1 = .ok (.getfield 46, 3) := by decide +kernel
theorem kf5_46 : inW (Cond.fieldLink RX5 46 "KneeOaths$Reader" "tokensRead" "I") := ⟨List.mem_of_getElem? (i := 345) (by decide +kernel), by decide +kernel⟩
theorem dX5_step_4 : decode cX5_step 4 = .ok (.aload_n 0, 1) := by decide +kernel
theorem dX5_step_5 : decode cX5_step 5 = .ok (.getfield 62, 3) := by decide +kernel
theorem dX5_step_8 : decode cX5_step 8 = .ok (.iconst 1, 1) := by decide +kernel
theorem dX5_step_9 : decode cX5_step 9 = .ok (.isub, 1) := by decide +kernel
theorem dX5_step_10 : decode cX5_step 10 = .ok (.invokestatic 108, 3) := by decide +kernel
theorem dX5_step_13 : decode cX5_step 13 = .ok (.istore_n 1, 1) := by decide +kernel
theorem dX5_step_14 : decode cX5_step 14 = .ok (.iload_n 1, 1) := by decide +kernel
theorem dX5_step_15 : decode cX5_step 15 = .ok (.ifCond .lt 52, 3) := by decide +kernel
theorem dX5_step_67 : decode cX5_step 67 = .ok (.return_, 1) := by decide +kernel
theorem dX5_step_18 : decode cX5_step 18 = .ok (.iload_n 1, 1) := by decide +kernel
theorem dX5_step_19 : decode cX5_step 19 = .ok (.aload_n 0, 1) := by decide +kernel
theorem dX5_step_20 : decode cX5_step 20 = .ok (.getfield 15, 3) := by decide +kernel
theorem dX5_step_23 : decode cX5_step 23 = .ok (.arraylength, 1) := by decide +kernel
theorem dX5_step_24 : decode cX5_step 24 = .ok (.if_icmp .ge 43, 3) := by decide +kernel
theorem dX5_step_27 : decode cX5_step 27 = .ok (.aload_n 0, 1) := by decide +kernel
theorem dX5_step_28 : decode cX5_step 28 = .ok (.aload_n 0, 1) := by decide +kernel
theorem dX5_step_29 : decode cX5_step 29 = .ok (.getfield 15, 3) := by decide +kernel
theorem dX5_step_32 : decode cX5_step 32 = .ok (.iload_n 1, 1) := by decide +kernel
theorem dX5_step_33 : decode cX5_step 33 = .ok (.iaload, 1) := by decide +kernel
theorem dX5_step_34 : decode cX5_step 34 = .ok (.putfield 52, 3) := by decide +kernel
theorem kf5_52 : inW (Cond.fieldLink RX5 52 "KneeOaths$Reader" "token" "I") := ⟨List.mem_of_getElem? (i := 346) (by decide +kernel), by decide +kernel⟩
theorem dX5_step_37 : decode cX5_step 37 = .ok (.aload_n 0, 1) := by decide +kernel
theorem dX5_step_38 : decode cX5_step 38 = .ok (.aload_n 0, 1) := by decide +kernel
theorem dX5_step_39 : decode cX5_step 39 = .ok (.getfield 18, 3) := by decide +kernel
theorem dX5_step_42 : decode cX5_step 42 = .ok (.iload_n 1, 1) := by decide +kernel
theorem dX5_step_43 : decode cX5_step 43 = .ok (.iaload, 1) := by decide +kernel
theorem dX5_step_44 : decode cX5_step 44 = .ok (.putfield 59, 3) := by decide +kernel
theorem dX5_step_47 : decode cX5_step 47 = .ok (.aload_n 0, 1) := by decide +kernel
theorem dX5_step_48 : decode cX5_step 48 = .ok (.aload_n 0, 1) := by decide +kernel
theorem dX5_step_49 : decode cX5_step 49 = .ok (.getfield 21, 3) := by decide +kernel
theorem dX5_step_52 : decode cX5_step 52 = .ok (.iload_n 1, 1) := by decide +kernel
theorem dX5_step_53 : decode cX5_step 53 = .ok (.iaload, 1) := by decide +kernel
theorem dX5_step_54 : decode cX5_step 54 = .ok (.putfield 118, 3) := by decide +kernel
theorem kf5_118 : inW (Cond.fieldLink RX5 118 "KneeOaths$Reader" "value" "I") := ⟨List.mem_of_getElem? (i := 348) (by decide +kernel), by decide +kernel⟩
theorem dX5_step_57 : decode cX5_step 57 = .ok (.aload_n 0, 1) := by decide +kernel
theorem dX5_step_58 : decode cX5_step 58 = .ok (.dup, 1) := by decide +kernel
theorem dX5_step_59 : decode cX5_step 59 = .ok (.getfield 46, 3) := by decide +kernel
theorem dX5_step_62 : decode cX5_step 62 = .ok (.iconst 1, 1) := by decide +kernel
theorem dX5_step_63 : decode cX5_step 63 = .ok (.iadd, 1) := by decide +kernel
theorem dX5_step_64 : decode cX5_step 64 = .ok (.putfield 46, 3) := by decide +kernel
theorem dX5_expect_0 : decode cX5_expect 0 = .ok (.aload_n 0, 1) := by decide +kernel
theorem dX5_expect_1 : decode cX5_expect 1 = .ok (.getfield 52, 3) := by decide +kernel
theorem dX5_expect_4 : decode cX5_expect 4 = .ok (.iload_n 1, 1) := by decide +kernel
theorem dX5_expect_5 : decode cX5_expect 5 = .ok (.if_icmp .eq 9, 3) := by decide +kernel
theorem dX5_expect_14 : decode cX5_expect 14 = .ok (.aload_n 0, 1) := by decide +kernel
theorem dX5_expect_15 : decode cX5_expect 15 = .ok (.invokevirtual 49, 3) := by decide +kernel
theorem cw_X5_step : CWv yX5_step cX5_step 2 none 0 := ⟨⟨⟨List.mem_of_getElem? (i := 130) (by decide +kernel), by decide +kernel⟩, ⟨List.mem_of_getElem? (i := 733) (by decide +kernel), by decide +kernel⟩, by decide +kernel⟩, ⟨List.mem_of_getElem? (i := 732) (by decide +kernel), by decide +kernel⟩, ⟨List.mem_of_getElem? (i := 8) (by decide +kernel), by decide +kernel⟩⟩
theorem km5_49 : inW (Cond.methodLink RX5 49 yX5_step) := ⟨List.mem_of_getElem? (i := 730) (by decide +kernel), by decide +kernel⟩
theorem dX5_expect_18 : decode cX5_expect 18 = .ok (.iconst 1, 1) := by decide +kernel
theorem dX5_expect_19 : decode cX5_expect 19 = .ok (.ireturn, 1) := by decide +kernel
theorem dX5_expect_8 : decode cX5_expect 8 = .ok (.aload_n 0, 1) := by decide +kernel
theorem dX5_expect_9 : decode cX5_expect 9 = .ok (.iconst 1, 1) := by decide +kernel
theorem dX5_expect_10 : decode cX5_expect 10 = .ok (.invokevirtual 121, 3) := by decide +kernel
theorem cw_X5_fail : CWv yX5_fail cX5_fail 2 (some .boolean) 1 := ⟨⟨⟨List.mem_of_getElem? (i := 130) (by decide +kernel), by decide +kernel⟩, ⟨List.mem_of_getElem? (i := 741) (by decide +kernel), by decide +kernel⟩, by decide +kernel⟩, ⟨List.mem_of_getElem? (i := 740) (by decide +kernel), by decide +kernel⟩, ⟨List.mem_of_getElem? (i := 10) (by decide +kernel), by decide +kernel⟩⟩
theorem km5_121 : inW (Cond.methodLink RX5 121 yX5_fail) := ⟨List.mem_of_getElem? (i := 738) (by decide +kernel), by decide +kernel⟩
theorem dX5_expect_13 : decode cX5_expect 13 = .ok (.ireturn, 1) := by decide +kernel
theorem dX5_comparing_0 : decode cX5_comparing 0 = .ok (.iload_n 0, 1) := by decide +kernel
theorem dX5_comparing_1 : decode cX5_comparing 1 = .ok (.lookupswitch 77 #[(35, 74), (60, 59), (61, 71), (62, 65), (316, 62), (318, 68)], 59) := by decide +kernel
theorem dX5_comparing_75 : decode cX5_comparing 75 = .ok (.bipush 17, 2) := by decide +kernel
theorem dX5_comparing_77 : decode cX5_comparing 77 = .ok (.ireturn, 1) := by decide +kernel
theorem dX5_comparing_60 : decode cX5_comparing 60 = .ok (.bipush 12, 2) := by decide +kernel
theorem dX5_comparing_62 : decode cX5_comparing 62 = .ok (.ireturn, 1) := by decide +kernel
theorem dX5_comparing_72 : decode cX5_comparing 72 = .ok (.bipush 16, 2) := by decide +kernel
theorem dX5_comparing_74 : decode cX5_comparing 74 = .ok (.ireturn, 1) := by decide +kernel
theorem dX5_comparing_66 : decode cX5_comparing 66 = .ok (.bipush 14, 2) := by decide +kernel
theorem dX5_comparing_68 : decode cX5_comparing 68 = .ok (.ireturn, 1) := by decide +kernel
theorem dX5_comparing_63 : decode cX5_comparing 63 = .ok (.bipush 13, 2) := by decide +kernel
theorem dX5_comparing_65 : decode cX5_comparing 65 = .ok (.ireturn, 1) := by decide +kernel
theorem dX5_comparing_69 : decode cX5_comparing 69 = .ok (.bipush 15, 2) := by decide +kernel
theorem dX5_comparing_71 : decode cX5_comparing 71 = .ok (.ireturn, 1) := by decide +kernel
theorem dX5_comparing_78 : decode cX5_comparing 78 = .ok (.iconst (-1), 1) := by decide +kernel
theorem dX5_comparing_79 : decode cX5_comparing 79 = .ok (.ireturn, 1) := by decide +kernel
theorem dX5_readNumber_0 : decode cX5_readNumber 0 = .ok (.aload_n 0, 1) := by decide +kernel
theorem dX5_readNumber_1 : decode cX5_readNumber 1 = .ok (.getfield 52, 3) := by decide +kernel
theorem dX5_readNumber_4 : decode cX5_readNumber 4 = .ok (.sipush 1000, 3) := by decide +kernel
theorem dX5_readNumber_7 : decode cX5_readNumber 7 = .ok (.if_icmp .eq 9, 3) := by decide +kernel
theorem dX5_readNumber_16 : decode cX5_readNumber 16 = .ok (.aload_n 0, 1) := by decide +kernel
theorem dX5_readNumber_17 : decode cX5_readNumber 17 = .ok (.getfield 118, 3) := by decide +kernel
theorem dX5_readNumber_20 : decode cX5_readNumber 20 = .ok (.iload_n 2, 1) := by decide +kernel
theorem dX5_readNumber_21 : decode cX5_readNumber 21 = .ok (.iload_n 3, 1) := by decide +kernel
theorem dX5_readNumber_22 : decode cX5_readNumber 22 = .ok (.invokestatic 160, 3) := by decide +kernel
theorem km5_160 : inW (Cond.methodLinkNest RX5 160 yX11_within "KneeOaths") := ⟨List.mem_of_getElem? (i := 833) (by decide +kernel), by decide +kernel⟩
theorem dX5_readNumber_25 : decode cX5_readNumber 25 = .ok (.ifCond .ne 9, 3) := by decide +kernel
theorem dX5_readNumber_34 : decode cX5_readNumber 34 = .ok (.aload_n 0, 1) := by decide +kernel
theorem dX5_readNumber_35 : decode cX5_readNumber 35 = .ok (.getfield 34, 3) := by decide +kernel
theorem kf5_34 : inW (Cond.fieldLink RX5 34 "KneeOaths$Reader" "script" "LKneeOaths$Script;") := ⟨List.mem_of_getElem? (i := 350) (by decide +kernel), by decide +kernel⟩
theorem dX5_readNumber_38 : decode cX5_readNumber 38 = .ok (.iload_n 1, 1) := by decide +kernel
theorem dX5_readNumber_39 : decode cX5_readNumber 39 = .ok (.aload_n 0, 1) := by decide +kernel
theorem dX5_readNumber_40 : decode cX5_readNumber 40 = .ok (.getfield 118, 3) := by decide +kernel
theorem dX5_readNumber_43 : decode cX5_readNumber 43 = .ok (.invokevirtual 163, 3) := by decide +kernel
theorem km5_163 : inW (Cond.methodLink RX5 163 yX7_setClause) := ⟨List.mem_of_getElem? (i := 834) (by decide +kernel), by decide +kernel⟩
theorem dX5_readNumber_46 : decode cX5_readNumber 46 = .ok (.aload_n 0, 1) := by decide +kernel
theorem dX5_readNumber_47 : decode cX5_readNumber 47 = .ok (.invokevirtual 49, 3) := by decide +kernel
theorem dX5_readNumber_50 : decode cX5_readNumber 50 = .ok (.iconst 1, 1) := by decide +kernel
theorem dX5_readNumber_51 : decode cX5_readNumber 51 = .ok (.ireturn, 1) := by decide +kernel
theorem dX5_readNumber_28 : decode cX5_readNumber 28 = .ok (.aload_n 0, 1) := by decide +kernel
theorem dX5_readNumber_29 : decode cX5_readNumber 29 = .ok (.iconst 2, 1) := by decide +kernel
theorem dX5_readNumber_30 : decode cX5_readNumber 30 = .ok (.invokevirtual 121, 3) := by decide +kernel
theorem dX5_readNumber_33 : decode cX5_readNumber 33 = .ok (.ireturn, 1) := by decide +kernel
theorem dX5_readNumber_10 : decode cX5_readNumber 10 = .ok (.aload_n 0, 1) := by decide +kernel
theorem dX5_readNumber_11 : decode cX5_readNumber 11 = .ok (.iconst 1, 1) := by decide +kernel
theorem dX5_readNumber_12 : decode cX5_readNumber 12 = .ok (.invokevirtual 121, 3) := by decide +kernel
theorem dX5_readNumber_15 : decode cX5_readNumber 15 = .ok (.ireturn, 1) := by decide +kernel
theorem dX5_readKnee_0 : decode cX5_readKnee 0 = .ok (.aload_n 0, 1) := by decide +kernel
theorem dX5_readKnee_1 : decode cX5_readKnee 1 = .ok (.getfield 52, 3) := by decide +kernel
theorem dX5_readKnee_4 : decode cX5_readKnee 4 = .ok (.bipush 20, 2) := by decide +kernel
theorem dX5_readKnee_6 : decode cX5_readKnee 6 = .ok (.if_icmp .eq 18, 3) := by decide +kernel
theorem dX5_readKnee_24 : decode cX5_readKnee 24 = .ok (.aload_n 0, 1) := by decide +kernel
theorem dX5_readKnee_25 : decode cX5_readKnee 25 = .ok (.getfield 34, 3) := by decide +kernel
theorem dX5_readKnee_28 : decode cX5_readKnee 28 = .ok (.iconst 3, 1) := by decide +kernel
theorem dX5_readKnee_29 : decode cX5_readKnee 29 = .ok (.aload_n 0, 1) := by decide +kernel
theorem dX5_readKnee_30 : decode cX5_readKnee 30 = .ok (.getfield 52, 3) := by decide +kernel
theorem dX5_readKnee_33 : decode cX5_readKnee 33 = .ok (.bipush 20, 2) := by decide +kernel
theorem dX5_readKnee_35 : decode cX5_readKnee 35 = .ok (.if_icmp .ne 7, 3) := by decide +kernel
theorem dX5_readKnee_38 : decode cX5_readKnee 38 = .ok (.iconst 0, 1) := by decide +kernel
theorem dX5_readKnee_39 : decode cX5_readKnee 39 = .ok (.goto 4, 3) := by decide +kernel
theorem dX5_readKnee_43 : decode cX5_readKnee 43 = .ok (.invokevirtual 163, 3) := by decide +kernel
theorem dX5_readKnee_46 : decode cX5_readKnee 46 = .ok (.aload_n 0, 1) := by decide +kernel
theorem dX5_readKnee_47 : decode cX5_readKnee 47 = .ok (.invokevirtual 49, 3) := by decide +kernel
theorem dX5_readKnee_50 : decode cX5_readKnee 50 = .ok (.iconst 1, 1) := by decide +kernel
theorem dX5_readKnee_51 : decode cX5_readKnee 51 = .ok (.ireturn, 1) := by decide +kernel
theorem dX5_readKnee_9 : decode cX5_readKnee 9 = .ok (.aload_n 0, 1) := by decide +kernel
theorem dX5_readKnee_10 : decode cX5_readKnee 10 = .ok (.getfield 52, 3) := by decide +kernel
theorem dX5_readKnee_13 : decode cX5_readKnee 13 = .ok (.bipush 21, 2) := by decide +kernel
theorem dX5_readKnee_15 : decode cX5_readKnee 15 = .ok (.if_icmp .eq 9, 3) := by decide +kernel
theorem dX5_readKnee_42 : decode cX5_readKnee 42 = .ok (.iconst 1, 1) := by decide +kernel
theorem dX5_readKnee_18 : decode cX5_readKnee 18 = .ok (.aload_n 0, 1) := by decide +kernel
theorem dX5_readKnee_19 : decode cX5_readKnee 19 = .ok (.iconst 1, 1) := by decide +kernel
theorem dX5_readKnee_20 : decode cX5_readKnee 20 = .ok (.invokevirtual 121, 3) := by decide +kernel
theorem dX5_readKnee_23 : decode cX5_readKnee 23 = .ok (.ireturn, 1) := by decide +kernel
theorem dX5_readDeed_0 : decode cX5_readDeed 0 = .ok (.iload_n 1, 1) := by decide +kernel
theorem dX5_readDeed_1 : decode cX5_readDeed 1 = .ok (.tableswitch 151 3 9 #[43, 80, 133, 133, 151, 151, 142], 43) := by decide +kernel
theorem dX5_readDeed_44 : decode cX5_readDeed 44 = .ok (.aload_n 0, 1) := by decide +kernel
theorem dX5_readDeed_45 : decode cX5_readDeed 45 = .ok (.iconst 1, 1) := by decide +kernel
theorem dX5_readDeed_46 : decode cX5_readDeed 46 = .ok (.iconst 0, 1) := by decide +kernel
theorem dX5_readDeed_47 : decode cX5_readDeed 47 = .ok (.bipush 9, 2) := by decide +kernel
theorem dX5_readDeed_49 : decode cX5_readDeed 49 = .ok (.invokevirtual 154, 3) := by decide +kernel
theorem cw_X5_readNumber : CWv yX5_readNumber cX5_readNumber 4 (some .boolean) 3 := ⟨⟨⟨List.mem_of_getElem? (i := 130) (by decide +kernel), by decide +kernel⟩, ⟨List.mem_of_getElem? (i := 832) (by decide +kernel), by decide +kernel⟩, by decide +kernel⟩, ⟨List.mem_of_getElem? (i := 831) (by decide +kernel), by decide +kernel⟩, ⟨List.mem_of_getElem? (i := 25) (by decide +kernel), by decide +kernel⟩⟩
theorem km5_154 : inW (Cond.methodLink RX5 154 yX5_readNumber) := ⟨List.mem_of_getElem? (i := 829) (by decide +kernel), by decide +kernel⟩
theorem dX5_readDeed_52 : decode cX5_readDeed 52 = .ok (.ifCond .eq 27, 3) := by decide +kernel
theorem dX5_readDeed_79 : decode cX5_readDeed 79 = .ok (.iconst 0, 1) := by decide +kernel
theorem dX5_readDeed_80 : decode cX5_readDeed 80 = .ok (.ireturn, 1) := by decide +kernel
theorem dX5_readDeed_55 : decode cX5_readDeed 55 = .ok (.aload_n 0, 1) := by decide +kernel
theorem dX5_readDeed_56 : decode cX5_readDeed 56 = .ok (.bipush 12, 2) := by decide +kernel
theorem dX5_readDeed_58 : decode cX5_readDeed 58 = .ok (.invokevirtual 140, 3) := by decide +kernel
theorem cw_X5_expect : CWv yX5_expect cX5_expect 2 (some .boolean) 1 := ⟨⟨⟨List.mem_of_getElem? (i := 130) (by decide +kernel), by decide +kernel⟩, ⟨List.mem_of_getElem? (i := 789) (by decide +kernel), by decide +kernel⟩, by decide +kernel⟩, ⟨List.mem_of_getElem? (i := 788) (by decide +kernel), by decide +kernel⟩, ⟨List.mem_of_getElem? (i := 17) (by decide +kernel), by decide +kernel⟩⟩
theorem km5_140 : inW (Cond.methodLink RX5 140 yX5_expect) := ⟨List.mem_of_getElem? (i := 786) (by decide +kernel), by decide +kernel⟩
theorem dX5_readDeed_61 : decode cX5_readDeed 61 = .ok (.ifCond .eq 18, 3) := by decide +kernel
theorem dX5_readDeed_64 : decode cX5_readDeed 64 = .ok (.aload_n 0, 1) := by decide +kernel
theorem dX5_readDeed_65 : decode cX5_readDeed 65 = .ok (.iconst 2, 1) := by decide +kernel
theorem dX5_readDeed_66 : decode cX5_readDeed 66 = .ok (.iconst 0, 1) := by decide +kernel
theorem dX5_readDeed_67 : decode cX5_readDeed 67 = .ok (.bipush 99, 2) := by decide +kernel
theorem dX5_readDeed_69 : decode cX5_readDeed 69 = .ok (.invokevirtual 154, 3) := by decide +kernel
theorem dX5_readDeed_72 : decode cX5_readDeed 72 = .ok (.ifCond .eq 7, 3) := by decide +kernel
theorem dX5_readDeed_75 : decode cX5_readDeed 75 = .ok (.iconst 1, 1) := by decide +kernel
theorem dX5_readDeed_76 : decode cX5_readDeed 76 = .ok (.goto 4, 3) := by decide +kernel
theorem dX5_readDeed_81 : decode cX5_readDeed 81 = .ok (.aload_n 0, 1) := by decide +kernel
theorem dX5_readDeed_82 : decode cX5_readDeed 82 = .ok (.iconst 1, 1) := by decide +kernel
theorem dX5_readDeed_83 : decode cX5_readDeed 83 = .ok (.iconst 0, 1) := by decide +kernel
theorem dX5_readDeed_84 : decode cX5_readDeed 84 = .ok (.iconst 5, 1) := by decide +kernel
theorem dX5_readDeed_85 : decode cX5_readDeed 85 = .ok (.invokevirtual 154, 3) := by decide +kernel
theorem dX5_readDeed_88 : decode cX5_readDeed 88 = .ok (.ifCond .eq 44, 3) := by decide +kernel
theorem dX5_readDeed_132 : decode cX5_readDeed 132 = .ok (.iconst 0, 1) := by decide +kernel
theorem dX5_readDeed_133 : decode cX5_readDeed 133 = .ok (.ireturn, 1) := by decide +kernel
theorem dX5_readDeed_91 : decode cX5_readDeed 91 = .ok (.aload_n 0, 1) := by decide +kernel
theorem dX5_readDeed_92 : decode cX5_readDeed 92 = .ok (.bipush 19, 2) := by decide +kernel
theorem dX5_readDeed_94 : decode cX5_readDeed 94 = .ok (.invokevirtual 140, 3) := by decide +kernel
theorem dX5_readDeed_97 : decode cX5_readDeed 97 = .ok (.ifCond .eq 35, 3) := by decide +kernel
theorem dX5_readDeed_100 : decode cX5_readDeed 100 = .ok (.aload_n 0, 1) := by decide +kernel
theorem dX5_readDeed_101 : decode cX5_readDeed 101 = .ok (.iconst 2, 1) := by decide +kernel
theorem dX5_readDeed_102 : decode cX5_readDeed 102 = .ok (.iconst 0, 1) := by decide +kernel
theorem dX5_readDeed_103 : decode cX5_readDeed 103 = .ok (.iconst 5, 1) := by decide +kernel
theorem dX5_readDeed_104 : decode cX5_readDeed 104 = .ok (.invokevirtual 154, 3) := by decide +kernel
theorem dX5_readDeed_107 : decode cX5_readDeed 107 = .ok (.ifCond .eq 25, 3) := by decide +kernel
theorem dX5_readDeed_110 : decode cX5_readDeed 110 = .ok (.aload_n 0, 1) := by decide +kernel
theorem dX5_readDeed_111 : decode cX5_readDeed 111 = .ok (.invokevirtual 157, 3) := by decide +kernel
theorem cw_X5_readKnee : CWv yX5_readKnee cX5_readKnee 1 (some .boolean) 0 := ⟨⟨⟨List.mem_of_getElem? (i := 130) (by decide +kernel), by decide +kernel⟩, ⟨List.mem_of_getElem? (i := 838) (by decide +kernel), by decide +kernel⟩, by decide +kernel⟩, ⟨List.mem_of_getElem? (i := 837) (by decide +kernel), by decide +kernel⟩, ⟨List.mem_of_getElem? (i := 26) (by decide +kernel), by decide +kernel⟩⟩
theorem km5_157 : inW (Cond.methodLink RX5 157 yX5_readKnee) := ⟨List.mem_of_getElem? (i := 835) (by decide +kernel), by decide +kernel⟩
theorem dX5_readDeed_114 : decode cX5_readDeed 114 = .ok (.ifCond .eq 18, 3) := by decide +kernel
theorem dX5_readDeed_117 : decode cX5_readDeed 117 = .ok (.aload_n 0, 1) := by decide +kernel
theorem dX5_readDeed_118 : decode cX5_readDeed 118 = .ok (.iconst 4, 1) := by decide +kernel
theorem dX5_readDeed_119 : decode cX5_readDeed 119 = .ok (.iconst 1, 1) := by decide +kernel
theorem dX5_readDeed_120 : decode cX5_readDeed 120 = .ok (.bipush 9, 2) := by decide +kernel
theorem dX5_readDeed_122 : decode cX5_readDeed 122 = .ok (.invokevirtual 154, 3) := by decide +kernel
theorem dX5_readDeed_125 : decode cX5_readDeed 125 = .ok (.ifCond .eq 7, 3) := by decide +kernel
theorem dX5_readDeed_128 : decode cX5_readDeed 128 = .ok (.iconst 1, 1) := by decide +kernel
theorem dX5_readDeed_129 : decode cX5_readDeed 129 = .ok (.goto 4, 3) := by decide +kernel
theorem dX5_readDeed_134 : decode cX5_readDeed 134 = .ok (.aload_n 0, 1) := by decide +kernel
theorem dX5_readDeed_135 : decode cX5_readDeed 135 = .ok (.iconst 1, 1) := by decide +kernel
theorem dX5_readDeed_136 : decode cX5_readDeed 136 = .ok (.iconst 0, 1) := by decide +kernel
theorem dX5_readDeed_137 : decode cX5_readDeed 137 = .ok (.bipush 13, 2) := by decide +kernel
theorem dX5_readDeed_139 : decode cX5_readDeed 139 = .ok (.invokevirtual 154, 3) := by decide +kernel
theorem dX5_readDeed_142 : decode cX5_readDeed 142 = .ok (.ireturn, 1) := by decide +kernel
theorem dX5_readDeed_152 : decode cX5_readDeed 152 = .ok (.aload_n 0, 1) := by decide +kernel
theorem dX5_readDeed_153 : decode cX5_readDeed 153 = .ok (.iconst 1, 1) := by decide +kernel
theorem dX5_readDeed_154 : decode cX5_readDeed 154 = .ok (.iconst 0, 1) := by decide +kernel
theorem dX5_readDeed_155 : decode cX5_readDeed 155 = .ok (.iconst 5, 1) := by decide +kernel
theorem dX5_readDeed_156 : decode cX5_readDeed 156 = .ok (.invokevirtual 154, 3) := by decide +kernel
theorem dX5_readDeed_159 : decode cX5_readDeed 159 = .ok (.ireturn, 1) := by decide +kernel
theorem dX5_readDeed_143 : decode cX5_readDeed 143 = .ok (.aload_n 0, 1) := by decide +kernel
theorem dX5_readDeed_144 : decode cX5_readDeed 144 = .ok (.iconst 1, 1) := by decide +kernel
theorem dX5_readDeed_145 : decode cX5_readDeed 145 = .ok (.iconst 1, 1) := by decide +kernel
theorem dX5_readDeed_146 : decode cX5_readDeed 146 = .ok (.bipush 60, 2) := by decide +kernel
theorem dX5_readDeed_148 : decode cX5_readDeed 148 = .ok (.invokevirtual 154, 3) := by decide +kernel
theorem dX5_readDeed_151 : decode cX5_readDeed 151 = .ok (.ireturn, 1) := by decide +kernel
theorem dX5_readPlainNumber_0 : decode cX5_readPlainNumber 0 = .ok (.aload_n 0, 1) := by decide +kernel
theorem dX5_readPlainNumber_1 : decode cX5_readPlainNumber 1 = .ok (.getfield 118, 3) := by decide +kernel
theorem dX5_readPlainNumber_4 : decode cX5_readPlainNumber 4 = .ok (.sipush 9999, 3) := by decide +kernel
theorem dX5_readPlainNumber_7 : decode cX5_readPlainNumber 7 = .ok (.if_icmp .le 9, 3) := by decide +kernel
theorem dX5_readPlainNumber_16 : decode cX5_readPlainNumber 16 = .ok (.aload_n 0, 1) := by decide +kernel
theorem dX5_readPlainNumber_17 : decode cX5_readPlainNumber 17 = .ok (.getfield 34, 3) := by decide +kernel
theorem dX5_readPlainNumber_20 : decode cX5_readPlainNumber 20 = .ok (.iconst 0, 1) := by decide +kernel
theorem dX5_readPlainNumber_21 : decode cX5_readPlainNumber 21 = .ok (.aload_n 0, 1) := by decide +kernel
theorem dX5_readPlainNumber_22 : decode cX5_readPlainNumber 22 = .ok (.getfield 118, 3) := by decide +kernel
theorem dX5_readPlainNumber_25 : decode cX5_readPlainNumber 25 = .ok (.invokevirtual 169, 3) := by decide +kernel
theorem cw_X7_add : CWv yX7_add cX7_add 3 (some .int) 2 := ⟨⟨⟨List.mem_of_getElem? (i := 129) (by decide +kernel), by decide +kernel⟩, ⟨List.mem_of_getElem? (i := 781) (by decide +kernel), by decide +kernel⟩, by decide +kernel⟩, ⟨List.mem_of_getElem? (i := 779) (by decide +kernel), by decide +kernel⟩, ⟨List.mem_of_getElem? (i := 780) (by decide +kernel), by decide +kernel⟩⟩
theorem km5_169 : inW (Cond.methodLink RX5 169 yX7_add) := ⟨List.mem_of_getElem? (i := 778) (by decide +kernel), by decide +kernel⟩
theorem dX5_readPlainNumber_28 : decode cX5_readPlainNumber 28 = .ok (.pop, 1) := by decide +kernel
theorem dX5_readPlainNumber_29 : decode cX5_readPlainNumber 29 = .ok (.aload_n 0, 1) := by decide +kernel
theorem dX5_readPlainNumber_30 : decode cX5_readPlainNumber 30 = .ok (.invokevirtual 49, 3) := by decide +kernel
theorem dX5_readPlainNumber_33 : decode cX5_readPlainNumber 33 = .ok (.iconst 1, 1) := by decide +kernel
theorem dX5_readPlainNumber_34 : decode cX5_readPlainNumber 34 = .ok (.ireturn, 1) := by decide +kernel
theorem dX5_readPlainNumber_10 : decode cX5_readPlainNumber 10 = .ok (.aload_n 0, 1) := by decide +kernel
theorem dX5_readPlainNumber_11 : decode cX5_readPlainNumber 11 = .ok (.iconst 2, 1) := by decide +kernel
theorem dX5_readPlainNumber_12 : decode cX5_readPlainNumber 12 = .ok (.invokevirtual 121, 3) := by decide +kernel
theorem dX5_readPlainNumber_15 : decode cX5_readPlainNumber 15 = .ok (.ireturn, 1) := by decide +kernel
theorem dX5_readName_0 : decode cX5_readName 0 = .ok (.aload_n 0, 1) := by decide +kernel
theorem dX5_readName_1 : decode cX5_readName 1 = .ok (.getfield 144, 3) := by decide +kernel
theorem kf5_144 : inW (Cond.fieldLink RX5 144 "KneeOaths$Reader" "law" "I") := ⟨List.mem_of_getElem? (i := 349) (by decide +kernel), by decide +kernel⟩
theorem dX5_readName_4 : decode cX5_readName 4 = .ok (.iconst 2, 1) := by decide +kernel
theorem dX5_readName_5 : decode cX5_readName 5 = .ok (.if_icmp .ne 18, 3) := by decide +kernel
theorem dX5_readName_23 : decode cX5_readName 23 = .ok (.aload_n 0, 1) := by decide +kernel
theorem dX5_readName_24 : decode cX5_readName 24 = .ok (.getfield 34, 3) := by decide +kernel
theorem dX5_readName_27 : decode cX5_readName 27 = .ok (.iconst 1, 1) := by decide +kernel
theorem dX5_readName_28 : decode cX5_readName 28 = .ok (.aload_n 0, 1) := by decide +kernel
theorem dX5_readName_29 : decode cX5_readName 29 = .ok (.getfield 52, 3) := by decide +kernel
theorem dX5_readName_32 : decode cX5_readName 32 = .ok (.invokevirtual 169, 3) := by decide +kernel
theorem dX5_readName_35 : decode cX5_readName 35 = .ok (.pop, 1) := by decide +kernel
theorem dX5_readName_36 : decode cX5_readName 36 = .ok (.aload_n 0, 1) := by decide +kernel
theorem dX5_readName_37 : decode cX5_readName 37 = .ok (.invokevirtual 49, 3) := by decide +kernel
theorem dX5_readName_40 : decode cX5_readName 40 = .ok (.iconst 1, 1) := by decide +kernel
theorem dX5_readName_41 : decode cX5_readName 41 = .ok (.ireturn, 1) := by decide +kernel
theorem dX5_readName_8 : decode cX5_readName 8 = .ok (.aload_n 0, 1) := by decide +kernel
theorem dX5_readName_9 : decode cX5_readName 9 = .ok (.getfield 52, 3) := by decide +kernel
theorem dX5_readName_12 : decode cX5_readName 12 = .ok (.bipush 14, 2) := by decide +kernel
theorem dX5_readName_14 : decode cX5_readName 14 = .ok (.if_icmp .lt 9, 3) := by decide +kernel
theorem dX5_readName_17 : decode cX5_readName 17 = .ok (.aload_n 0, 1) := by decide +kernel
theorem dX5_readName_18 : decode cX5_readName 18 = .ok (.iconst 5, 1) := by decide +kernel
theorem dX5_readName_19 : decode cX5_readName 19 = .ok (.invokevirtual 121, 3) := by decide +kernel
theorem dX5_readName_22 : decode cX5_readName 22 = .ok (.ireturn, 1) := by decide +kernel
theorem ne_ti {x k : Int32} {n : Int} (h : ¬ x = k) (e : k.toInt = n) : ¬ n = x.toInt := fun z => h (Int32.toInt_inj.mp (by rw [e, z]))
set_option maxHeartbeats 4000000 in
set_option maxRecDepth 100000 in
theorem x_X5_size {l : Launch} {G : GG}  {L : List Nat} {f : HF} {ad : Nat → Nat → Nat} {rs : FS} {fc : Int × Int} {tc w : Nat → Int × Int} {q : Nat → (Nat → Int32) → Prop} (I : SH (spC rs fc tc w q) nnC G ad L f) (hW : WBp w 8) (hT : WBp tc 4) (hQ : QIp q) : PMp l yX5_size cX5_size 1 .int 0 0 0 G [.ref (ad 2 0)] L f (fun r => bn 0 300 r) := by
  refine PMi.of (post := fun r L1 f1 => (bn 0 300 r) ∧ L1 = L ∧ f1 = f) (own := RX5) (by decide) rfl (Nat.le_of_ble_eq_true rfl) (fun sz p e s m args below meth c A ls hA1 hname S Y hl => ?_)
  have hx := S.hx
  have hb := S.hb
  have hl : lv_has ls 1 [(0, .ref (ad 2 0))] := hl
  refine lv_aload_n hx hb dX5_size_0 rfl (lv_at hl 0 rfl) ?_
  obtain ⟨v_39779, v_39781, v_39783, v_39785, v_39787, v_39789, v_39791, v_39793, v_39795, v_39797, p_ad_2_0, b_39780, b_39782, b_39784, b_39786, b_39788, b_39790, b_39792, b_39794, b_39796, b_39798⟩ := opnC_2 (j := 0) I (by decide)
  have p_ad_2_0 : pt L f (ad 2 0) (.inr (5, [.ref (ad 50 0), .ref (ad 51 0), .ref (ad 52 0), .ref (ad 53 0), .int v_39779, .int v_39781, .int v_39783, .int v_39785, .int v_39787, .int v_39789, .int v_39791, v_39793, .int v_39795, .int v_39797])) := p_ad_2_0
  refine pg_get S Y ok_X5 4 (by decide) kf5_31 (v := .int v_39779) p_ad_2_0 rfl dX5_size_1 ?_
  exact prI (post := fun r L1 f1 => (bn 0 300 r) ∧ L1 = L ∧ f1 = f) S Y rfl (by decide) (by decide) hA1 ⟨bn_w b_39780 (by decide), rfl, rfl⟩ dX5_size_4
set_option maxHeartbeats 4000000 in
set_option maxRecDepth 100000 in
theorem x_X5_faultKind {l : Launch} {G : GG}  {L : List Nat} {f : HF} {ad : Nat → Nat → Nat} {rs : FS} {fc : Int × Int} {tc w : Nat → Int × Int} {q : Nat → (Nat → Int32) → Prop} (I : SH (spC rs fc tc w q) nnC G ad L f) (hW : WBp w 8) (hT : WBp tc 4) (hQ : QIp q) : PMp l yX5_faultKind cX5_faultKind 1 .int 0 0 0 G [.ref (ad 2 0)] L f (fun r => True) := by
  refine PMi.of (post := fun r L1 f1 => (True) ∧ L1 = L ∧ f1 = f) (own := RX5) (by decide) rfl (Nat.le_of_ble_eq_true rfl) (fun sz p e s m args below meth c A ls hA1 hname S Y hl => ?_)
  have hx := S.hx
  have hb := S.hb
  have hl : lv_has ls 1 [(0, .ref (ad 2 0))] := hl
  refine lv_aload_n hx hb dX5_faultKind_0 rfl (lv_at hl 0 rfl) ?_
  obtain ⟨v_39839, v_39841, v_39843, v_39845, v_39847, v_39849, v_39851, v_39853, v_39855, v_39857, p_ad_2_0, b_39840, b_39842, b_39844, b_39846, b_39848, b_39850, b_39852, b_39854, b_39856, b_39858⟩ := opnC_2 (j := 0) I (by decide)
  have p_ad_2_0 : pt L f (ad 2 0) (.inr (5, [.ref (ad 50 0), .ref (ad 51 0), .ref (ad 52 0), .ref (ad 53 0), .int v_39839, .int v_39841, .int v_39843, .int v_39845, .int v_39847, .int v_39849, .int v_39851, v_39853, .int v_39855, .int v_39857])) := p_ad_2_0
  refine pg_get S Y ok_X5 12 (by decide) kf5_24 (v := .int v_39855) p_ad_2_0 rfl dX5_faultKind_1 ?_
  exact prI (post := fun r L1 f1 => (True) ∧ L1 = L ∧ f1 = f) S Y rfl (by decide) (by decide) hA1 ⟨trivial, rfl, rfl⟩ dX5_faultKind_4
set_option maxHeartbeats 4000000 in
set_option maxRecDepth 100000 in
theorem x_X5_faultPlace {l : Launch} {G : GG}  {L : List Nat} {f : HF} {ad : Nat → Nat → Nat} {rs : FS} {fc : Int × Int} {tc w : Nat → Int × Int} {q : Nat → (Nat → Int32) → Prop} (I : SH (spC rs fc tc w q) nnC G ad L f) (hW : WBp w 8) (hT : WBp tc 4) (hQ : QIp q) : PMp l yX5_faultPlace cX5_faultPlace 1 .int 0 0 0 G [.ref (ad 2 0)] L f (fun r => True) := by
  refine PMi.of (post := fun r L1 f1 => (True) ∧ L1 = L ∧ f1 = f) (own := RX5) (by decide) rfl (Nat.le_of_ble_eq_true rfl) (fun sz p e s m args below meth c A ls hA1 hname S Y hl => ?_)
  have hx := S.hx
  have hb := S.hb
  have hl : lv_has ls 1 [(0, .ref (ad 2 0))] := hl
  refine lv_aload_n hx hb dX5_faultPlace_0 rfl (lv_at hl 0 rfl) ?_
  obtain ⟨v_39899, v_39901, v_39903, v_39905, v_39907, v_39909, v_39911, v_39913, v_39915, v_39917, p_ad_2_0, b_39900, b_39902, b_39904, b_39906, b_39908, b_39910, b_39912, b_39914, b_39916, b_39918⟩ := opnC_2 (j := 0) I (by decide)
  have p_ad_2_0 : pt L f (ad 2 0) (.inr (5, [.ref (ad 50 0), .ref (ad 51 0), .ref (ad 52 0), .ref (ad 53 0), .int v_39899, .int v_39901, .int v_39903, .int v_39905, .int v_39907, .int v_39909, .int v_39911, v_39913, .int v_39915, .int v_39917])) := p_ad_2_0
  refine pg_get S Y ok_X5 13 (by decide) kf5_28 (v := .int v_39917) p_ad_2_0 rfl dX5_faultPlace_1 ?_
  exact prI (post := fun r L1 f1 => (True) ∧ L1 = L ∧ f1 = f) S Y rfl (by decide) (by decide) hA1 ⟨trivial, rfl, rfl⟩ dX5_faultPlace_4
set_option maxHeartbeats 4000000 in
set_option maxRecDepth 100000 in
theorem x_X5_hasRoomFor {l : Launch} {G : GG}  {L : List Nat} {f : HF} {ad : Nat → Nat → Nat} {rs : FS} {fc : Int × Int} {tc w : Nat → Int × Int} {q : Nat → (Nat → Int32) → Prop} {i1 : Int32} (I : SH (spC rs fc tc w q) nnC G ad L f) (hW : WBp w 8) (hT : WBp tc 4) (hQ : QIp q) : PMp l yX5_hasRoomFor cX5_hasRoomFor 2 .boolean 0 0 0 G [.ref (ad 2 0), .int i1] L f (fun r => bn 0 1 r) := by
  refine PMi.of (post := fun r L1 f1 => (bn 0 1 r) ∧ L1 = L ∧ f1 = f) (own := RX5) (by decide) rfl (Nat.le_of_ble_eq_true rfl) (fun sz p e s m args below meth c A ls hA1 hname S Y hl => ?_)
  have hx := S.hx
  have hb := S.hb
  have hl : lv_has ls 2 [(0, .ref (ad 2 0)), (1, .int i1)] := hl
  refine lv_aload_n hx hb dX5_hasRoomFor_0 rfl (lv_at hl 0 rfl) ?_
  obtain ⟨v_39967, v_39969, v_39971, v_39973, v_39975, v_39977, v_39979, v_39981, v_39983, v_39985, p_ad_2_0, b_39968, b_39970, b_39972, b_39974, b_39976, b_39978, b_39980, b_39982, b_39984, b_39986⟩ := opnC_2 (j := 0) I (by decide)
  have p_ad_2_0 : pt L f (ad 2 0) (.inr (5, [.ref (ad 50 0), .ref (ad 51 0), .ref (ad 52 0), .ref (ad 53 0), .int v_39967, .int v_39969, .int v_39971, .int v_39973, .int v_39975, .int v_39977, .int v_39979, v_39981, .int v_39983, .int v_39985])) := p_ad_2_0
  refine pg_get S Y ok_X5 4 (by decide) kf5_31 (v := .int v_39967) p_ad_2_0 rfl dX5_hasRoomFor_1 ?_
  refine lv_iload_n hx hb dX5_hasRoomFor_4 rfl (lv_at hl 1 rfl) ?_
  refine lv_iadd hx hb dX5_hasRoomFor_5 ?_
  refine lv_topi (fun x_39987 ex_39987 => ?_)
  refine lv_sipush (v := 300) hx hb dX5_hasRoomFor_6 (by decide) ?_
  refine lv_icmp_gt (tgt := 16) hx hb dX5_hasRoomFor_9 (by decide) (fun c_39988 => ?_) (fun c_39988 => ?_)
  · have B_39989 : bn 301 2147483647 x_39987 := bn_w (bn_ltr c_39988 (show bn 300 300 (300 : Int32) from bn_k (by decide)) (bn_any x_39987)) (by decide)
    refine lv_iconst (v := 0) hx hb dX5_hasRoomFor_16 (by decide) ?_
    exact prI (post := fun r L1 f1 => (bn 0 1 r) ∧ L1 = L ∧ f1 = f) S Y rfl (by decide) (by decide) hA1 ⟨bn_w (show bn 0 0 (0 : Int32) from bn_k (by decide)) (by decide), rfl, rfl⟩ dX5_hasRoomFor_17
  · have B_39990 : bn (-2147483648) 300 x_39987 := bn_w (bn_ger c_39988 (show bn 300 300 (300 : Int32) from bn_k (by decide)) (bn_any x_39987)) (by decide)
    refine lv_iconst (v := 1) hx hb dX5_hasRoomFor_12 (by decide) ?_
    refine lv_goto (tgt := 17) hx hb dX5_hasRoomFor_13 (by decide) ?_
    exact prI (post := fun r L1 f1 => (bn 0 1 r) ∧ L1 = L ∧ f1 = f) S Y rfl (by decide) (by decide) hA1 ⟨bn_w (show bn 1 1 (1 : Int32) from bn_k (by decide)) (by decide), rfl, rfl⟩ dX5_hasRoomFor_17
set_option maxHeartbeats 4000000 in
set_option maxRecDepth 100000 in
theorem x_X5_append {l : Launch} {G : GG}  {L : List Nat} {f : HF} {ad : Nat → Nat → Nat} {rs : FS} {fc : Int × Int} {tc w : Nat → Int × Int} {q : Nat → (Nat → Int32) → Prop} {i1 : Int32} (I : SH (spC rs fc tc w q) nnC G ad L f) (hW : WBp w 8) (hT : WBp tc 4) (hQ : QIp q) : PMv l yX5_append cX5_append 3 0 0 0 G [.ref (ad 2 0), .int i1] L f (fun L1 f1 => SH (spC rs fc tc w q) nnC G ad L1 f1) := by
  refine PMv.of (post := fun L1 f1 => SH (spC rs fc tc w q) nnC G ad L1 f1) (own := RX5) (by decide) rfl (Nat.le_of_ble_eq_true rfl) (fun sz p e s m args below meth c A ls hA1 hname S Y hl => ?_)
  have hx := S.hx
  have hb := S.hb
  have hl : lv_has ls 3 [(0, .ref (ad 2 0)), (1, .int i1)] := hl
  have J_3 : ∀ (n3 : Nat) (y3_2 : Int32) (L_3 : List Nat) (f_3 : HF) (H : Heap) (locs : List Loc) (ls : Array Slot), (SH (spC rs fc tc w q) nnC G ad L_3 f_3) → (bn (-8) 24 y3_2) → ((y3_2.toInt - ((-8) : Int)).toNat = n3) → (DY G A s [] L_3 f_3 H locs) → (lv_has ls 3 [(0, .ref (ad 2 0)), (1, .int i1), (2, .int y3_2)]) → W p l e (rmD 0 0 0) s m args below meth c H locs (0) (0) (MQ below (va_Qv (fun (u : List Nat × HF) => (fun L1 f1 => SH (spC rs fc tc w q) nnC G ad L1 f1) u.1 u.2) (fun u t => pOut G (va_A (va_pl L f) sz) u.1 u.2 t) (va_A (va_pl L f) sz)) args s 0 0 A) (F0 m 3 ls []) := by
    intro n3
    induction n3 using Nat.strongRecOn with
    | _ n3 ih3 =>
      intro y3_2 L_3 f_3 H locs ls I b_y3_2 hm3 Y hl
      refine lv_iload_n hx hb dX5_append_3 rfl (lv_at hl 2 rfl) ?_
      refine lv_if_lt (tgt := 49) hx hb dX5_append_4 (by decide) (fun c_40195 => ?_) (fun c_40195 => ?_)
      · have B_40196 : bn (-8) (-1) y3_2 := bn_w (bn_ltl c_40195 b_y3_2 (show bn 0 0 (0 : Int32) from bn_k (by decide))) (by decide)
        exact prV (post := fun L1 f1 => SH (spC rs fc tc w q) nnC G ad L1 f1) S Y (by decide) (by decide) hA1 I dX5_append_49
      · have B_40197 : bn 0 24 y3_2 := bn_w (bn_gel c_40195 b_y3_2 (show bn 0 0 (0 : Int32) from bn_k (by decide))) (by decide)
        refine lv_aload_n hx hb dX5_append_7 rfl (lv_at hl 0 rfl) ?_
        obtain ⟨v_40198, v_40200, v_40202, v_40204, v_40206, v_40208, v_40210, v_40212, v_40214, v_40216, p_ad_2_0, b_40199, b_40201, b_40203, b_40205, b_40207, b_40209, b_40211, b_40213, b_40215, b_40217⟩ := opnC_2 (j := 0) I (by decide)
        have p_ad_2_0 : pt L_3 f_3 (ad 2 0) (.inr (5, [.ref (ad 50 0), .ref (ad 51 0), .ref (ad 52 0), .ref (ad 53 0), .int v_40198, .int v_40200, .int v_40202, .int v_40204, .int v_40206, .int v_40208, .int v_40210, v_40212, .int v_40214, .int v_40216])) := p_ad_2_0
        refine pg_get S Y ok_X5 4 (by decide) kf5_31 (v := .int v_40198) p_ad_2_0 rfl dX5_append_8 ?_
        refine lv_sipush (v := 300) hx hb dX5_append_11 (by decide) ?_
        refine lv_icmp_ge (tgt := 43) hx hb dX5_append_14 (by decide) (fun c_40218 => ?_) (fun c_40218 => ?_)
        · have B_40219 : bn 300 300 v_40198 := bn_w (bn_ler c_40218 (show bn 300 300 (300 : Int32) from bn_k (by decide)) b_40199) (by decide)
          obtain ⟨x_40221, ex_40221⟩ : ∃ z : Int32, z = y3_2 + (-8) := ⟨_, rfl⟩
          refine lv_iinc (v := x_40221) (lv' := [(2, .int x_40221), (0, .ref (ad 2 0)), (1, .int i1)]) hx hb dX5_append_43 hl (k := 2) rfl (by rw [ex_40221]; rfl) (by decide) rfl (fun ls hl => ?_)
          refine lv_goto (tgt := 3) hx hb dX5_append_46 (by decide) ?_
          exact ih3 _ (by rw [← hm3]; exact ms_dn (m := (-8)) ex_40221 (show bn (-8) (-1) ((-8) : Int32) from bn_k (by decide)) B_40197 (bn_w (bn_eq ex_40221 (bn_add B_40197 (show bn (-8) (-8) ((-8) : Int32) from bn_k (by decide)) (by decide))) (by decide) : bn (-8) 24 x_40221) (by decide)) x_40221 _ _  _ _ _ I (bn_w (bn_eq ex_40221 (bn_add B_40197 (show bn (-8) (-8) ((-8) : Int32) from bn_k (by decide)) (by decide))) (by decide)) rfl Y (lv_sub hl [1, 2, 0] rfl)
        · have B_40220 : bn 0 299 v_40198 := bn_w (bn_gtr c_40218 (show bn 300 300 (300 : Int32) from bn_k (by decide)) b_40199) (by decide)
          refine lv_aload_n hx hb dX5_append_17 rfl (lv_at hl 0 rfl) ?_
          refine pg_get S Y ok_X5 0 (by decide) kf5_9 (v := .ref (ad 50 0)) p_ad_2_0 rfl dX5_append_18 ?_
          refine lv_aload_n hx hb dX5_append_21 rfl (lv_at hl 0 rfl) ?_
          refine pg_get S Y ok_X5 4 (by decide) kf5_31 (v := .int v_40198) p_ad_2_0 rfl dX5_append_22 ?_
          refine lv_iload_n hx hb dX5_append_25 rfl (lv_at hl 1 rfl) ?_
          refine lv_iload_n hx hb dX5_append_26 rfl (lv_at hl 2 rfl) ?_
          obtain ⟨x_40222, ex_40222⟩ : ∃ z : Int32, z = (i1.toUInt32 >>> ((y3_2 : Int32).toUInt32 &&& Int32.toUInt32 31)).toInt32 := ⟨_, rfl⟩
          refine lv_iushr (v := x_40222) hx hb dX5_append_27 (ex_40222.symm) ?_
          refine lv_sipush (v := 255) hx hb dX5_append_28 (by decide) ?_
          refine lv_iand hx hb dX5_append_31 ?_
          refine lv_topi (fun x_40223 ex_40223 => ?_)
          obtain ⟨g_40224, p_ad_50_0, o_40225⟩ := I.opi (k := 50) (j := 0) (by decide) rfl
          have p_ad_50_0 : pt L_3 f_3 (ad 50 0) (.inl (G.2 0, 300, .inl g_40224)) := p_ad_50_0
          refine pg_iast S Y p_ad_50_0 (vp_bn B_40220 (by decide)) dX5_append_32 (fun f_40227 H locs ef_40227 Y => ?_)
          obtain ⟨g_40226, eg_40226⟩ : ∃ z, z = upd (g_40224) (v_40198 : Int32).toNatClampNeg x_40223 := ⟨_, rfl⟩
          rw [← eg_40226] at ef_40227
          have p_ad_2_0 := p_ad_2_0.up ef_40227 (I.ne (k := 2) (j := 0) (k' := 50) (j' := 0) (by decide) (by decide) (Or.inl (by decide)))
          have p_ad_50_0 := p_ad_50_0.me ef_40227
          have I := I.up (k := 50) (j := 0) (by decide) ef_40227 (okE_a (g := g_40226) trivial)
          refine lv_aload_n hx hb dX5_append_33 rfl (lv_at hl 0 rfl) ?_
          refine lv_dup hx hb dX5_append_34 rfl ?_
          refine pg_get S Y ok_X5 4 (by decide) kf5_31 (v := .int v_40198) p_ad_2_0 rfl dX5_append_35 ?_
          refine lv_iconst (v := 1) hx hb dX5_append_38 (by decide) ?_
          refine lv_iadd hx hb dX5_append_39 ?_
          refine lv_topi (fun x_40228 ex_40228 => ?_)
          refine pg_put S Y ok_X5 4 (by decide) kf5_31 rfl (fs' := [.ref (ad 50 0), .ref (ad 51 0), .ref (ad 52 0), .ref (ad 53 0), .int x_40228, .int v_40200, .int v_40202, .int v_40204, .int v_40206, .int v_40208, .int v_40210, v_40212, .int v_40214, .int v_40216]) (v := .int x_40228) p_ad_2_0 rfl rfl rfl (Nat.le_of_ble_eq_true rfl) dX5_append_40 (fun f_40229 H locs ef_40229 Y => ?_)
          have p_ad_50_0 := p_ad_50_0.up ef_40229 (I.ne (k := 50) (j := 0) (k' := 2) (j' := 0) (by decide) (by decide) (Or.inl (by decide)))
          have p_ad_2_0 := p_ad_2_0.me ef_40229
          have I := I.up (k := 2) (j := 0) (by decide) ef_40229 (okE_o (okFs_c okV_r (okFs_c okV_r (okFs_c okV_r (okFs_c okV_r (okFs_c (okV_i (bn_w (bn_eq ex_40228 (bn_add B_40220 (show bn 1 1 (1 : Int32) from bn_k (by decide)) (by decide))) (by decide))) (okFs_c (okV_i b_40201) (okFs_c (okV_i b_40203) (okFs_c (okV_i b_40205) (okFs_c (okV_i b_40207) (okFs_c (okV_i b_40209) (okFs_c (okV_i b_40211) (okFs_c b_40213 (okFs_c (okV_i b_40215) (okFs_c (okV_i b_40217) okFs_n)))))))))))))))
          obtain ⟨x_40230, ex_40230⟩ : ∃ z : Int32, z = y3_2 + (-8) := ⟨_, rfl⟩
          refine lv_iinc (v := x_40230) (lv' := [(2, .int x_40230), (0, .ref (ad 2 0)), (1, .int i1)]) hx hb dX5_append_43 hl (k := 2) rfl (by rw [ex_40230]; rfl) (by decide) rfl (fun ls hl => ?_)
          refine lv_goto (tgt := 3) hx hb dX5_append_46 (by decide) ?_
          exact ih3 _ (by rw [← hm3]; exact ms_dn (m := (-8)) ex_40230 (show bn (-8) (-1) ((-8) : Int32) from bn_k (by decide)) B_40197 (bn_w (bn_eq ex_40230 (bn_add B_40197 (show bn (-8) (-8) ((-8) : Int32) from bn_k (by decide)) (by decide))) (by decide) : bn (-8) 24 x_40230) (by decide)) x_40230 _ _  _ _ _ I (bn_w (bn_eq ex_40230 (bn_add B_40197 (show bn (-8) (-8) ((-8) : Int32) from bn_k (by decide)) (by decide))) (by decide)) rfl Y (lv_sub hl [1, 2, 0] rfl)
  refine lv_bipush (v := 24) hx hb dX5_append_0 (by decide) ?_
  refine lv_istore_n (lv' := [(2, .int 24), (0, .ref (ad 2 0)), (1, .int i1)]) hx hb dX5_append_2 rfl hl (by decide) rfl (fun ls hl => ?_)
  exact J_3 _ 24 _ _  _ _ _ I (bn_w (show bn 24 24 (24 : Int32) from bn_k (by decide)) (by decide)) rfl Y (lv_sub hl [1, 2, 0] rfl)
set_option maxHeartbeats 4000000 in
set_option maxRecDepth 100000 in
theorem x_X5_cutTo {l : Launch} {G : GG}  {L : List Nat} {f : HF} {ad : Nat → Nat → Nat} {rs : FS} {fc : Int × Int} {tc w : Nat → Int × Int} {q : Nat → (Nat → Int32) → Prop} {i1 : Int32} (I : SH (spC rs fc tc w q) nnC G ad L f) (hW : WBp w 8) (hT : WBp tc 4) (hQ : QIp q) : PMi l yX5_cutTo cX5_cutTo 2 .boolean 0 0 0 G [.ref (ad 2 0), .int i1] L f (fun r L1 f1 => bn 0 1 r ∧ SH (spC rs fc tc w q) nnC G ad L1 f1) := by
  refine PMi.of (post := fun r L1 f1 => bn 0 1 r ∧ SH (spC rs fc tc w q) nnC G ad L1 f1) (own := RX5) (by decide) rfl (Nat.le_of_ble_eq_true rfl) (fun sz p e s m args below meth c A ls hA1 hname S Y hl => ?_)
  have hx := S.hx
  have hb := S.hb
  have hl : lv_has ls 2 [(0, .ref (ad 2 0)), (1, .int i1)] := hl
  refine lv_iload_n hx hb dX5_cutTo_0 rfl (lv_at hl 1 rfl) ?_
  refine lv_if_lt (tgt := 12) hx hb dX5_cutTo_1 (by decide) (fun c_40285 => ?_) (fun c_40285 => ?_)
  · have B_40286 : bn (-2147483648) (-1) i1 := bn_w (bn_ltl c_40285 (bn_any i1) (show bn 0 0 (0 : Int32) from bn_k (by decide))) (by decide)
    refine lv_iconst (v := 0) hx hb dX5_cutTo_12 (by decide) ?_
    exact prI (post := fun r L1 f1 => bn 0 1 r ∧ SH (spC rs fc tc w q) nnC G ad L1 f1) S Y rfl (by decide) (by decide) hA1 ⟨bn_w (show bn 0 0 (0 : Int32) from bn_k (by decide)) (by decide), I⟩ dX5_cutTo_13
  · have B_40287 : bn 0 2147483647 i1 := bn_w (bn_gel c_40285 (bn_any i1) (show bn 0 0 (0 : Int32) from bn_k (by decide))) (by decide)
    refine lv_iload_n hx hb dX5_cutTo_4 rfl (lv_at hl 1 rfl) ?_
    refine lv_aload_n hx hb dX5_cutTo_5 rfl (lv_at hl 0 rfl) ?_
    obtain ⟨v_40288, v_40290, v_40292, v_40294, v_40296, v_40298, v_40300, v_40302, v_40304, v_40306, p_ad_2_0, b_40289, b_40291, b_40293, b_40295, b_40297, b_40299, b_40301, b_40303, b_40305, b_40307⟩ := opnC_2 (j := 0) I (by decide)
    have p_ad_2_0 : pt L f (ad 2 0) (.inr (5, [.ref (ad 50 0), .ref (ad 51 0), .ref (ad 52 0), .ref (ad 53 0), .int v_40288, .int v_40290, .int v_40292, .int v_40294, .int v_40296, .int v_40298, .int v_40300, v_40302, .int v_40304, .int v_40306])) := p_ad_2_0
    refine pg_get S Y ok_X5 4 (by decide) kf5_31 (v := .int v_40288) p_ad_2_0 rfl dX5_cutTo_6 ?_
    refine lv_icmp_le (tgt := 14) hx hb dX5_cutTo_9 (by decide) (fun c_40308 => ?_) (fun c_40308 => ?_)
    · have B_40309 : bn 0 300 i1 := bn_w (bn_lel c_40308 B_40287 b_40289) (by decide)
      refine lv_aload_n hx hb dX5_cutTo_14 rfl (lv_at hl 0 rfl) ?_
      refine lv_iload_n hx hb dX5_cutTo_15 rfl (lv_at hl 1 rfl) ?_
      refine pg_put S Y ok_X5 4 (by decide) kf5_31 rfl (fs' := [.ref (ad 50 0), .ref (ad 51 0), .ref (ad 52 0), .ref (ad 53 0), .int i1, .int v_40290, .int v_40292, .int v_40294, .int v_40296, .int v_40298, .int v_40300, v_40302, .int v_40304, .int v_40306]) (v := .int i1) p_ad_2_0 rfl rfl rfl (Nat.le_of_ble_eq_true rfl) dX5_cutTo_16 (fun f_40311 H locs ef_40311 Y => ?_)
      have p_ad_2_0 := p_ad_2_0.me ef_40311
      have I := I.up (k := 2) (j := 0) (by decide) ef_40311 (okE_o (okFs_c okV_r (okFs_c okV_r (okFs_c okV_r (okFs_c okV_r (okFs_c (okV_i (bn_w B_40309 (by decide))) (okFs_c (okV_i b_40291) (okFs_c (okV_i b_40293) (okFs_c (okV_i b_40295) (okFs_c (okV_i b_40297) (okFs_c (okV_i b_40299) (okFs_c (okV_i b_40301) (okFs_c b_40303 (okFs_c (okV_i b_40305) (okFs_c (okV_i b_40307) okFs_n)))))))))))))))
      refine lv_iconst (v := 1) hx hb dX5_cutTo_19 (by decide) ?_
      exact prI (post := fun r L1 f1 => bn 0 1 r ∧ SH (spC rs fc tc w q) nnC G ad L1 f1) S Y rfl (by decide) (by decide) hA1 ⟨bn_w (show bn 1 1 (1 : Int32) from bn_k (by decide)) (by decide), I⟩ dX5_cutTo_20
    · have B_40310 : bn 1 2147483647 i1 := bn_w (bn_gtl c_40308 B_40287 b_40289) (by decide)
      refine lv_iconst (v := 0) hx hb dX5_cutTo_12 (by decide) ?_
      exact prI (post := fun r L1 f1 => bn 0 1 r ∧ SH (spC rs fc tc w q) nnC G ad L1 f1) S Y rfl (by decide) (by decide) hA1 ⟨bn_w (show bn 0 0 (0 : Int32) from bn_k (by decide)) (by decide), I⟩ dX5_cutTo_13
set_option maxHeartbeats 4000000 in
set_option maxRecDepth 100000 in
theorem x_X5_fail {l : Launch} {G : GG}  {L : List Nat} {f : HF} {ad : Nat → Nat → Nat} {rs : FS} {fc : Int × Int} {tc w : Nat → Int × Int} {q : Nat → (Nat → Int32) → Prop} {i1 : Int32} (I : SH (spC rs fc tc w q) nnC G ad L f) (hW : WBp w 8) (hT : WBp tc 4) (hQ : QIp q) : PMi l yX5_fail cX5_fail 2 .boolean 0 0 0 G [.ref (ad 2 0), .int i1] L f (fun r L1 f1 => bn 0 0 r ∧ SH (spC rs fc tc w q) nnC G ad L1 f1) := by
  refine PMi.of (post := fun r L1 f1 => bn 0 0 r ∧ SH (spC rs fc tc w q) nnC G ad L1 f1) (own := RX5) (by decide) rfl (Nat.le_of_ble_eq_true rfl) (fun sz p e s m args below meth c A ls hA1 hname S Y hl => ?_)
  have hx := S.hx
  have hb := S.hb
  have hl : lv_has ls 2 [(0, .ref (ad 2 0)), (1, .int i1)] := hl
  refine lv_aload_n hx hb dX5_fail_0 rfl (lv_at hl 0 rfl) ?_
  refine lv_iload_n hx hb dX5_fail_1 rfl (lv_at hl 1 rfl) ?_
  obtain ⟨v_40356, v_40358, v_40360, v_40362, v_40364, v_40366, v_40368, v_40370, v_40372, v_40374, p_ad_2_0, b_40357, b_40359, b_40361, b_40363, b_40365, b_40367, b_40369, b_40371, b_40373, b_40375⟩ := opnC_2 (j := 0) I (by decide)
  have p_ad_2_0 : pt L f (ad 2 0) (.inr (5, [.ref (ad 50 0), .ref (ad 51 0), .ref (ad 52 0), .ref (ad 53 0), .int v_40356, .int v_40358, .int v_40360, .int v_40362, .int v_40364, .int v_40366, .int v_40368, v_40370, .int v_40372, .int v_40374])) := p_ad_2_0
  refine pg_put S Y ok_X5 12 (by decide) kf5_24 rfl (fs' := [.ref (ad 50 0), .ref (ad 51 0), .ref (ad 52 0), .ref (ad 53 0), .int v_40356, .int v_40358, .int v_40360, .int v_40362, .int v_40364, .int v_40366, .int v_40368, v_40370, .int i1, .int v_40374]) (v := .int i1) p_ad_2_0 rfl rfl rfl (Nat.le_of_ble_eq_true rfl) dX5_fail_2 (fun f_40376 H locs ef_40376 Y => ?_)
  have p_ad_2_0 := p_ad_2_0.me ef_40376
  have I := I.up (k := 2) (j := 0) (by decide) ef_40376 (okE_o (okFs_c okV_r (okFs_c okV_r (okFs_c okV_r (okFs_c okV_r (okFs_c (okV_i b_40357) (okFs_c (okV_i b_40359) (okFs_c (okV_i b_40361) (okFs_c (okV_i b_40363) (okFs_c (okV_i b_40365) (okFs_c (okV_i b_40367) (okFs_c (okV_i b_40369) (okFs_c b_40371 (okFs_c (okV_i (bn_w (bn_any i1) (by decide))) (okFs_c (okV_i b_40375) okFs_n)))))))))))))))
  refine lv_aload_n hx hb dX5_fail_5 rfl (lv_at hl 0 rfl) ?_
  refine lv_aload_n hx hb dX5_fail_6 rfl (lv_at hl 0 rfl) ?_
  refine pg_get S Y ok_X5 8 (by decide) kf5_59 (v := .int v_40364) p_ad_2_0 rfl dX5_fail_7 ?_
  refine pg_put S Y ok_X5 13 (by decide) kf5_28 rfl (fs' := [.ref (ad 50 0), .ref (ad 51 0), .ref (ad 52 0), .ref (ad 53 0), .int v_40356, .int v_40358, .int v_40360, .int v_40362, .int v_40364, .int v_40366, .int v_40368, v_40370, .int i1, .int v_40364]) (v := .int v_40364) p_ad_2_0 rfl rfl rfl (Nat.le_of_ble_eq_true rfl) dX5_fail_10 (fun f_40377 H locs ef_40377 Y => ?_)
  have p_ad_2_0 := p_ad_2_0.me ef_40377
  have I := I.up (k := 2) (j := 0) (by decide) ef_40377 (okE_o (okFs_c okV_r (okFs_c okV_r (okFs_c okV_r (okFs_c okV_r (okFs_c (okV_i b_40357) (okFs_c (okV_i b_40359) (okFs_c (okV_i b_40361) (okFs_c (okV_i b_40363) (okFs_c (okV_i b_40365) (okFs_c (okV_i b_40367) (okFs_c (okV_i b_40369) (okFs_c b_40371 (okFs_c (okV_i (bn_w (bn_any i1) (by decide))) (okFs_c (okV_i (bn_w (bn_any v_40364) (by decide))) okFs_n)))))))))))))))
  refine lv_iconst (v := 0) hx hb dX5_fail_13 (by decide) ?_
  exact prI (post := fun r L1 f1 => bn 0 0 r ∧ SH (spC rs fc tc w q) nnC G ad L1 f1) S Y rfl (by decide) (by decide) hA1 ⟨bn_w (show bn 0 0 (0 : Int32) from bn_k (by decide)) (by decide), I⟩ dX5_fail_14
set_option maxHeartbeats 4000000 in
set_option maxRecDepth 100000 in
theorem x_X5_byteAt {l : Launch} {G : GG}  {L : List Nat} {f : HF} {ad : Nat → Nat → Nat} {rs : FS} {fc : Int × Int} {tc w : Nat → Int × Int} {q : Nat → (Nat → Int32) → Prop} {i1 : Int32} (I : SH (spC rs fc tc w q) nnC G ad L f) (hW : WBp w 8) (hT : WBp tc 4) (hQ : QIp q) : PMp l yX5_byteAt cX5_byteAt 2 .int 0 0 0 G [.ref (ad 2 0), .int i1] L f (fun r => True) := by
  refine PMi.of (post := fun r L1 f1 => (True) ∧ L1 = L ∧ f1 = f) (own := RX5) (by decide) rfl (Nat.le_of_ble_eq_true rfl) (fun sz p e s m args below meth c A ls hA1 hname S Y hl => ?_)
  have hx := S.hx
  have hb := S.hb
  have hl : lv_has ls 2 [(0, .ref (ad 2 0)), (1, .int i1)] := hl
  refine lv_iload_n hx hb dX5_byteAt_0 rfl (lv_at hl 1 rfl) ?_
  refine lv_if_lt (tgt := 21) hx hb dX5_byteAt_1 (by decide) (fun c_40436 => ?_) (fun c_40436 => ?_)
  · have B_40437 : bn (-2147483648) (-1) i1 := bn_w (bn_ltl c_40436 (bn_any i1) (show bn 0 0 (0 : Int32) from bn_k (by decide))) (by decide)
    refine lv_iconst (v := (-1)) hx hb dX5_byteAt_21 (by decide) ?_
    exact prI (post := fun r L1 f1 => (True) ∧ L1 = L ∧ f1 = f) S Y rfl (by decide) (by decide) hA1 ⟨trivial, rfl, rfl⟩ dX5_byteAt_22
  · have B_40438 : bn 0 2147483647 i1 := bn_w (bn_gel c_40436 (bn_any i1) (show bn 0 0 (0 : Int32) from bn_k (by decide))) (by decide)
    refine lv_iload_n hx hb dX5_byteAt_4 rfl (lv_at hl 1 rfl) ?_
    refine lv_aload_n hx hb dX5_byteAt_5 rfl (lv_at hl 0 rfl) ?_
    obtain ⟨v_40439, v_40441, v_40443, v_40445, v_40447, v_40449, v_40451, v_40453, v_40455, v_40457, p_ad_2_0, b_40440, b_40442, b_40444, b_40446, b_40448, b_40450, b_40452, b_40454, b_40456, b_40458⟩ := opnC_2 (j := 0) I (by decide)
    have p_ad_2_0 : pt L f (ad 2 0) (.inr (5, [.ref (ad 50 0), .ref (ad 51 0), .ref (ad 52 0), .ref (ad 53 0), .int v_40439, .int v_40441, .int v_40443, .int v_40445, .int v_40447, .int v_40449, .int v_40451, v_40453, .int v_40455, .int v_40457])) := p_ad_2_0
    refine pg_get S Y ok_X5 4 (by decide) kf5_31 (v := .int v_40439) p_ad_2_0 rfl dX5_byteAt_6 ?_
    refine lv_icmp_ge (tgt := 21) hx hb dX5_byteAt_9 (by decide) (fun c_40459 => ?_) (fun c_40459 => ?_)
    · refine lv_iconst (v := (-1)) hx hb dX5_byteAt_21 (by decide) ?_
      exact prI (post := fun r L1 f1 => (True) ∧ L1 = L ∧ f1 = f) S Y rfl (by decide) (by decide) hA1 ⟨trivial, rfl, rfl⟩ dX5_byteAt_22
    · have B_40460 : bn 1 300 v_40439 := bn_w (bn_gtl c_40459 b_40440 B_40438) (by decide)
      have B_40461 : bn 0 299 i1 := bn_w (bn_gtr c_40459 b_40440 B_40438) (by decide)
      refine lv_aload_n hx hb dX5_byteAt_12 rfl (lv_at hl 0 rfl) ?_
      refine pg_get S Y ok_X5 0 (by decide) kf5_9 (v := .ref (ad 50 0)) p_ad_2_0 rfl dX5_byteAt_13 ?_
      refine lv_iload_n hx hb dX5_byteAt_16 rfl (lv_at hl 1 rfl) ?_
      obtain ⟨g_40462, p_ad_50_0, o_40463⟩ := I.opi (k := 50) (j := 0) (by decide) rfl
      have p_ad_50_0 : pt L f (ad 50 0) (.inl (G.2 0, 300, .inl g_40462)) := p_ad_50_0
      obtain ⟨v_40464, ev_40464⟩ : ∃ z, z = g_40462 (i1 : Int32).toNatClampNeg := ⟨_, rfl⟩
      refine pg_iald S Y (v := v_40464) p_ad_50_0 (vp_bn B_40461 (by decide)) ev_40464.symm dX5_byteAt_17 ?_
      refine lv_goto (tgt := 22) hx hb dX5_byteAt_18 (by decide) ?_
      exact prI (post := fun r L1 f1 => (True) ∧ L1 = L ∧ f1 = f) S Y rfl (by decide) (by decide) hA1 ⟨trivial, rfl, rfl⟩ dX5_byteAt_22
set_option maxHeartbeats 4000000 in
set_option maxRecDepth 100000 in
theorem x_X5_isLetter {l : Launch} {G : GG}  {L : List Nat} {f : HF}  {i1 : Int32}  : PMp l yX5_isLetter cX5_isLetter 1 .boolean 0 0 0 G [.int i1] L f (fun r => bn 0 1 r) := by
  refine PMi.of (post := fun r L1 f1 => (bn 0 1 r) ∧ L1 = L ∧ f1 = f) (own := RX5) (by decide) rfl (Nat.le_of_ble_eq_true rfl) (fun sz p e s m args below meth c A ls hA1 hname S Y hl => ?_)
  have hx := S.hx
  have hb := S.hb
  have hl : lv_has ls 1 [(0, .int i1)] := hl
  refine lv_iload_n hx hb dX5_isLetter_0 rfl (lv_at hl 0 rfl) ?_
  refine lv_bipush (v := 97) hx hb dX5_isLetter_1 (by decide) ?_
  refine lv_icmp_lt (tgt := 12) hx hb dX5_isLetter_3 (by decide) (fun c_40489 => ?_) (fun c_40489 => ?_)
  · have B_40490 : bn (-2147483648) 96 i1 := bn_w (bn_ltl c_40489 (bn_any i1) (show bn 97 97 (97 : Int32) from bn_k (by decide))) (by decide)
    refine lv_iload_n hx hb dX5_isLetter_12 rfl (lv_at hl 0 rfl) ?_
    refine lv_bipush (v := 65) hx hb dX5_isLetter_13 (by decide) ?_
    refine lv_icmp_lt (tgt := 28) hx hb dX5_isLetter_15 (by decide) (fun c_40492 => ?_) (fun c_40492 => ?_)
    · have B_40493 : bn (-2147483648) 64 i1 := bn_w (bn_ltl c_40492 B_40490 (show bn 65 65 (65 : Int32) from bn_k (by decide))) (by decide)
      refine lv_iconst (v := 0) hx hb dX5_isLetter_28 (by decide) ?_
      exact prI (post := fun r L1 f1 => (bn 0 1 r) ∧ L1 = L ∧ f1 = f) S Y rfl (by decide) (by decide) hA1 ⟨bn_w (show bn 0 0 (0 : Int32) from bn_k (by decide)) (by decide), rfl, rfl⟩ dX5_isLetter_29
    · have B_40494 : bn 65 96 i1 := bn_w (bn_gel c_40492 B_40490 (show bn 65 65 (65 : Int32) from bn_k (by decide))) (by decide)
      refine lv_iload_n hx hb dX5_isLetter_18 rfl (lv_at hl 0 rfl) ?_
      refine lv_bipush (v := 90) hx hb dX5_isLetter_19 (by decide) ?_
      refine lv_icmp_gt (tgt := 28) hx hb dX5_isLetter_21 (by decide) (fun c_40495 => ?_) (fun c_40495 => ?_)
      · have B_40496 : bn 91 96 i1 := bn_w (bn_ltr c_40495 (show bn 90 90 (90 : Int32) from bn_k (by decide)) B_40494) (by decide)
        refine lv_iconst (v := 0) hx hb dX5_isLetter_28 (by decide) ?_
        exact prI (post := fun r L1 f1 => (bn 0 1 r) ∧ L1 = L ∧ f1 = f) S Y rfl (by decide) (by decide) hA1 ⟨bn_w (show bn 0 0 (0 : Int32) from bn_k (by decide)) (by decide), rfl, rfl⟩ dX5_isLetter_29
      · have B_40497 : bn 65 90 i1 := bn_w (bn_ger c_40495 (show bn 90 90 (90 : Int32) from bn_k (by decide)) B_40494) (by decide)
        refine lv_iconst (v := 1) hx hb dX5_isLetter_24 (by decide) ?_
        refine lv_goto (tgt := 29) hx hb dX5_isLetter_25 (by decide) ?_
        exact prI (post := fun r L1 f1 => (bn 0 1 r) ∧ L1 = L ∧ f1 = f) S Y rfl (by decide) (by decide) hA1 ⟨bn_w (show bn 1 1 (1 : Int32) from bn_k (by decide)) (by decide), rfl, rfl⟩ dX5_isLetter_29
  · have B_40491 : bn 97 2147483647 i1 := bn_w (bn_gel c_40489 (bn_any i1) (show bn 97 97 (97 : Int32) from bn_k (by decide))) (by decide)
    refine lv_iload_n hx hb dX5_isLetter_6 rfl (lv_at hl 0 rfl) ?_
    refine lv_bipush (v := 122) hx hb dX5_isLetter_7 (by decide) ?_
    refine lv_icmp_le (tgt := 24) hx hb dX5_isLetter_9 (by decide) (fun c_40498 => ?_) (fun c_40498 => ?_)
    · have B_40499 : bn 97 122 i1 := bn_w (bn_lel c_40498 B_40491 (show bn 122 122 (122 : Int32) from bn_k (by decide))) (by decide)
      refine lv_iconst (v := 1) hx hb dX5_isLetter_24 (by decide) ?_
      refine lv_goto (tgt := 29) hx hb dX5_isLetter_25 (by decide) ?_
      exact prI (post := fun r L1 f1 => (bn 0 1 r) ∧ L1 = L ∧ f1 = f) S Y rfl (by decide) (by decide) hA1 ⟨bn_w (show bn 1 1 (1 : Int32) from bn_k (by decide)) (by decide), rfl, rfl⟩ dX5_isLetter_29
    · have B_40500 : bn 123 2147483647 i1 := bn_w (bn_gtl c_40498 B_40491 (show bn 122 122 (122 : Int32) from bn_k (by decide))) (by decide)
      refine lv_iload_n hx hb dX5_isLetter_12 rfl (lv_at hl 0 rfl) ?_
      refine lv_bipush (v := 65) hx hb dX5_isLetter_13 (by decide) ?_
      refine lv_icmp_lt (tgt := 28) hx hb dX5_isLetter_15 (by decide) (fun h => absurd h (bd_nlt B_40500 (show bn 65 65 (65 : Int32) from bn_k (by decide)) (by decide))) (fun _ => ?_)
      refine lv_iload_n hx hb dX5_isLetter_18 rfl (lv_at hl 0 rfl) ?_
      refine lv_bipush (v := 90) hx hb dX5_isLetter_19 (by decide) ?_
      refine lv_icmp_gt (tgt := 28) hx hb dX5_isLetter_21 (by decide) (fun _ => ?_) (fun h => absurd (bd_lt (show bn 90 90 (90 : Int32) from bn_k (by decide)) B_40500 (by decide)) h)
      refine lv_iconst (v := 0) hx hb dX5_isLetter_28 (by decide) ?_
      exact prI (post := fun r L1 f1 => (bn 0 1 r) ∧ L1 = L ∧ f1 = f) S Y rfl (by decide) (by decide) hA1 ⟨bn_w (show bn 0 0 (0 : Int32) from bn_k (by decide)) (by decide), rfl, rfl⟩ dX5_isLetter_29
set_option maxHeartbeats 4000000 in
set_option maxRecDepth 100000 in
theorem x_X5_isDigit {l : Launch} {G : GG}  {L : List Nat} {f : HF}  {i1 : Int32}  : PMp l yX5_isDigit cX5_isDigit 1 .boolean 0 0 0 G [.int i1] L f (fun r => bn 0 1 r) := by
  refine PMi.of (post := fun r L1 f1 => (bn 0 1 r) ∧ L1 = L ∧ f1 = f) (own := RX5) (by decide) rfl (Nat.le_of_ble_eq_true rfl) (fun sz p e s m args below meth c A ls hA1 hname S Y hl => ?_)
  have hx := S.hx
  have hb := S.hb
  have hl : lv_has ls 1 [(0, .int i1)] := hl
  refine lv_iload_n hx hb dX5_isDigit_0 rfl (lv_at hl 0 rfl) ?_
  refine lv_bipush (v := 48) hx hb dX5_isDigit_1 (by decide) ?_
  refine lv_icmp_lt (tgt := 16) hx hb dX5_isDigit_3 (by decide) (fun c_40513 => ?_) (fun c_40513 => ?_)
  · have B_40514 : bn (-2147483648) 47 i1 := bn_w (bn_ltl c_40513 (bn_any i1) (show bn 48 48 (48 : Int32) from bn_k (by decide))) (by decide)
    refine lv_iconst (v := 0) hx hb dX5_isDigit_16 (by decide) ?_
    exact prI (post := fun r L1 f1 => (bn 0 1 r) ∧ L1 = L ∧ f1 = f) S Y rfl (by decide) (by decide) hA1 ⟨bn_w (show bn 0 0 (0 : Int32) from bn_k (by decide)) (by decide), rfl, rfl⟩ dX5_isDigit_17
  · have B_40515 : bn 48 2147483647 i1 := bn_w (bn_gel c_40513 (bn_any i1) (show bn 48 48 (48 : Int32) from bn_k (by decide))) (by decide)
    refine lv_iload_n hx hb dX5_isDigit_6 rfl (lv_at hl 0 rfl) ?_
    refine lv_bipush (v := 57) hx hb dX5_isDigit_7 (by decide) ?_
    refine lv_icmp_gt (tgt := 16) hx hb dX5_isDigit_9 (by decide) (fun c_40516 => ?_) (fun c_40516 => ?_)
    · have B_40517 : bn 58 2147483647 i1 := bn_w (bn_ltr c_40516 (show bn 57 57 (57 : Int32) from bn_k (by decide)) B_40515) (by decide)
      refine lv_iconst (v := 0) hx hb dX5_isDigit_16 (by decide) ?_
      exact prI (post := fun r L1 f1 => (bn 0 1 r) ∧ L1 = L ∧ f1 = f) S Y rfl (by decide) (by decide) hA1 ⟨bn_w (show bn 0 0 (0 : Int32) from bn_k (by decide)) (by decide), rfl, rfl⟩ dX5_isDigit_17
    · have B_40518 : bn 48 57 i1 := bn_w (bn_ger c_40516 (show bn 57 57 (57 : Int32) from bn_k (by decide)) B_40515) (by decide)
      refine lv_iconst (v := 1) hx hb dX5_isDigit_12 (by decide) ?_
      refine lv_goto (tgt := 17) hx hb dX5_isDigit_13 (by decide) ?_
      exact prI (post := fun r L1 f1 => (bn 0 1 r) ∧ L1 = L ∧ f1 = f) S Y rfl (by decide) (by decide) hA1 ⟨bn_w (show bn 1 1 (1 : Int32) from bn_k (by decide)) (by decide), rfl, rfl⟩ dX5_isDigit_17
set_option maxHeartbeats 4000000 in
set_option maxRecDepth 100000 in
theorem x_X5_addToken {l : Launch} {G : GG}  {L : List Nat} {f : HF} {ad : Nat → Nat → Nat} {rs : FS} {fc : Int × Int} {tc w : Nat → Int × Int} {q : Nat → (Nat → Int32) → Prop} {i1 i2 i3 : Int32} (I : SH (spC rs fc tc w q) nnC G ad L f) (hW : WBp w 8) (hT : WBp tc 4) (hQ : QIp q) : PMv l yX5_addToken cX5_addToken 4 0 0 0 G [.ref (ad 2 0), .int i1, .int i2, .int i3] L f (fun L1 f1 => SH (spC rs fc tc w q) nnC G ad L1 f1) := by
  refine PMv.of (post := fun L1 f1 => SH (spC rs fc tc w q) nnC G ad L1 f1) (own := RX5) (by decide) rfl (Nat.le_of_ble_eq_true rfl) (fun sz p e s m args below meth c A ls hA1 hname S Y hl => ?_)
  have hx := S.hx
  have hb := S.hb
  have hl : lv_has ls 4 [(0, .ref (ad 2 0)), (1, .int i1), (2, .int i2), (3, .int i3)] := hl
  refine lv_aload_n hx hb dX5_addToken_0 rfl (lv_at hl 0 rfl) ?_
  obtain ⟨v_40593, v_40595, v_40597, v_40599, v_40601, v_40603, v_40605, v_40607, v_40609, v_40611, p_ad_2_0, b_40594, b_40596, b_40598, b_40600, b_40602, b_40604, b_40606, b_40608, b_40610, b_40612⟩ := opnC_2 (j := 0) I (by decide)
  have p_ad_2_0 : pt L f (ad 2 0) (.inr (5, [.ref (ad 50 0), .ref (ad 51 0), .ref (ad 52 0), .ref (ad 53 0), .int v_40593, .int v_40595, .int v_40597, .int v_40599, .int v_40601, .int v_40603, .int v_40605, v_40607, .int v_40609, .int v_40611])) := p_ad_2_0
  refine pg_get S Y ok_X5 5 (by decide) kf5_62 (v := .int v_40595) p_ad_2_0 rfl dX5_addToken_1 ?_
  refine lv_aload_n hx hb dX5_addToken_4 rfl (lv_at hl 0 rfl) ?_
  refine pg_get S Y ok_X5 1 (by decide) kf5_15 (v := .ref (ad 51 0)) p_ad_2_0 rfl dX5_addToken_5 ?_
  obtain ⟨g_40613, p_ad_51_0, o_40614⟩ := I.opi (k := 51) (j := 0) (by decide) rfl
  have p_ad_51_0 : pt L f (ad 51 0) (.inl (G.2 0, 301, .inl g_40613)) := p_ad_51_0
  refine pg_alen S Y (k := 0) (v := 301) p_ad_51_0 rfl rfl dX5_addToken_8 ?_
  refine lv_icmp_ge (tgt := 52) hx hb dX5_addToken_9 (by decide) (fun c_40615 => ?_) (fun c_40615 => ?_)
  · have B_40616 : bn 301 301 v_40595 := bn_w (bn_ler c_40615 (show bn 301 301 (301 : Int32) from bn_k (by decide)) b_40596) (by decide)
    exact prV (post := fun L1 f1 => SH (spC rs fc tc w q) nnC G ad L1 f1) S Y (by decide) (by decide) hA1 I dX5_addToken_52
  · have B_40617 : bn 0 300 v_40595 := bn_w (bn_gtr c_40615 (show bn 301 301 (301 : Int32) from bn_k (by decide)) b_40596) (by decide)
    refine lv_aload_n hx hb dX5_addToken_12 rfl (lv_at hl 0 rfl) ?_
    refine pg_get S Y ok_X5 1 (by decide) kf5_15 (v := .ref (ad 51 0)) p_ad_2_0 rfl dX5_addToken_13 ?_
    refine lv_aload_n hx hb dX5_addToken_16 rfl (lv_at hl 0 rfl) ?_
    refine pg_get S Y ok_X5 5 (by decide) kf5_62 (v := .int v_40595) p_ad_2_0 rfl dX5_addToken_17 ?_
    refine lv_iload_n hx hb dX5_addToken_20 rfl (lv_at hl 1 rfl) ?_
    refine pg_iast S Y p_ad_51_0 (vp_bn B_40617 (by decide)) dX5_addToken_21 (fun f_40619 H locs ef_40619 Y => ?_)
    obtain ⟨g_40618, eg_40618⟩ : ∃ z, z = upd (g_40613) (v_40595 : Int32).toNatClampNeg i1 := ⟨_, rfl⟩
    rw [← eg_40618] at ef_40619
    have p_ad_2_0 := p_ad_2_0.up ef_40619 (I.ne (k := 2) (j := 0) (k' := 51) (j' := 0) (by decide) (by decide) (Or.inl (by decide)))
    have p_ad_51_0 := p_ad_51_0.me ef_40619
    have I := I.up (k := 51) (j := 0) (by decide) ef_40619 (okE_a (g := g_40618) trivial)
    refine lv_aload_n hx hb dX5_addToken_22 rfl (lv_at hl 0 rfl) ?_
    refine pg_get S Y ok_X5 2 (by decide) kf5_18 (v := .ref (ad 52 0)) p_ad_2_0 rfl dX5_addToken_23 ?_
    refine lv_aload_n hx hb dX5_addToken_26 rfl (lv_at hl 0 rfl) ?_
    refine pg_get S Y ok_X5 5 (by decide) kf5_62 (v := .int v_40595) p_ad_2_0 rfl dX5_addToken_27 ?_
    refine lv_iload_n hx hb dX5_addToken_30 rfl (lv_at hl 2 rfl) ?_
    obtain ⟨g_40620, p_ad_52_0, o_40621⟩ := I.opi (k := 52) (j := 0) (by decide) rfl
    have p_ad_52_0 : pt L f_40619 (ad 52 0) (.inl (G.2 0, 301, .inl g_40620)) := p_ad_52_0
    refine pg_iast S Y p_ad_52_0 (vp_bn B_40617 (by decide)) dX5_addToken_31 (fun f_40623 H locs ef_40623 Y => ?_)
    obtain ⟨g_40622, eg_40622⟩ : ∃ z, z = upd (g_40620) (v_40595 : Int32).toNatClampNeg i2 := ⟨_, rfl⟩
    rw [← eg_40622] at ef_40623
    have p_ad_2_0 := p_ad_2_0.up ef_40623 (I.ne (k := 2) (j := 0) (k' := 52) (j' := 0) (by decide) (by decide) (Or.inl (by decide)))
    have p_ad_51_0 := p_ad_51_0.up ef_40623 (I.ne (k := 51) (j := 0) (k' := 52) (j' := 0) (by decide) (by decide) (Or.inl (by decide)))
    have p_ad_52_0 := p_ad_52_0.me ef_40623
    have I := I.up (k := 52) (j := 0) (by decide) ef_40623 (okE_a (g := g_40622) trivial)
    refine lv_aload_n hx hb dX5_addToken_32 rfl (lv_at hl 0 rfl) ?_
    refine pg_get S Y ok_X5 3 (by decide) kf5_21 (v := .ref (ad 53 0)) p_ad_2_0 rfl dX5_addToken_33 ?_
    refine lv_aload_n hx hb dX5_addToken_36 rfl (lv_at hl 0 rfl) ?_
    refine pg_get S Y ok_X5 5 (by decide) kf5_62 (v := .int v_40595) p_ad_2_0 rfl dX5_addToken_37 ?_
    refine lv_iload_n hx hb dX5_addToken_40 rfl (lv_at hl 3 rfl) ?_
    obtain ⟨g_40624, p_ad_53_0, o_40625⟩ := I.opi (k := 53) (j := 0) (by decide) rfl
    have p_ad_53_0 : pt L f_40623 (ad 53 0) (.inl (G.2 0, 301, .inl g_40624)) := p_ad_53_0
    refine pg_iast S Y p_ad_53_0 (vp_bn B_40617 (by decide)) dX5_addToken_41 (fun f_40627 H locs ef_40627 Y => ?_)
    obtain ⟨g_40626, eg_40626⟩ : ∃ z, z = upd (g_40624) (v_40595 : Int32).toNatClampNeg i3 := ⟨_, rfl⟩
    rw [← eg_40626] at ef_40627
    have p_ad_2_0 := p_ad_2_0.up ef_40627 (I.ne (k := 2) (j := 0) (k' := 53) (j' := 0) (by decide) (by decide) (Or.inl (by decide)))
    have p_ad_51_0 := p_ad_51_0.up ef_40627 (I.ne (k := 51) (j := 0) (k' := 53) (j' := 0) (by decide) (by decide) (Or.inl (by decide)))
    have p_ad_52_0 := p_ad_52_0.up ef_40627 (I.ne (k := 52) (j := 0) (k' := 53) (j' := 0) (by decide) (by decide) (Or.inl (by decide)))
    have p_ad_53_0 := p_ad_53_0.me ef_40627
    have I := I.up (k := 53) (j := 0) (by decide) ef_40627 (okE_a (g := g_40626) trivial)
    refine lv_aload_n hx hb dX5_addToken_42 rfl (lv_at hl 0 rfl) ?_
    refine lv_dup hx hb dX5_addToken_43 rfl ?_
    refine pg_get S Y ok_X5 5 (by decide) kf5_62 (v := .int v_40595) p_ad_2_0 rfl dX5_addToken_44 ?_
    refine lv_iconst (v := 1) hx hb dX5_addToken_47 (by decide) ?_
    refine lv_iadd hx hb dX5_addToken_48 ?_
    refine lv_topi (fun x_40628 ex_40628 => ?_)
    refine pg_put S Y ok_X5 5 (by decide) kf5_62 rfl (fs' := [.ref (ad 50 0), .ref (ad 51 0), .ref (ad 52 0), .ref (ad 53 0), .int v_40593, .int x_40628, .int v_40597, .int v_40599, .int v_40601, .int v_40603, .int v_40605, v_40607, .int v_40609, .int v_40611]) (v := .int x_40628) p_ad_2_0 rfl rfl rfl (Nat.le_of_ble_eq_true rfl) dX5_addToken_49 (fun f_40629 H locs ef_40629 Y => ?_)
    have p_ad_51_0 := p_ad_51_0.up ef_40629 (I.ne (k := 51) (j := 0) (k' := 2) (j' := 0) (by decide) (by decide) (Or.inl (by decide)))
    have p_ad_52_0 := p_ad_52_0.up ef_40629 (I.ne (k := 52) (j := 0) (k' := 2) (j' := 0) (by decide) (by decide) (Or.inl (by decide)))
    have p_ad_53_0 := p_ad_53_0.up ef_40629 (I.ne (k := 53) (j := 0) (k' := 2) (j' := 0) (by decide) (by decide) (Or.inl (by decide)))
    have p_ad_2_0 := p_ad_2_0.me ef_40629
    have I := I.up (k := 2) (j := 0) (by decide) ef_40629 (okE_o (okFs_c okV_r (okFs_c okV_r (okFs_c okV_r (okFs_c okV_r (okFs_c (okV_i b_40594) (okFs_c (okV_i (bn_w (bn_eq ex_40628 (bn_add B_40617 (show bn 1 1 (1 : Int32) from bn_k (by decide)) (by decide))) (by decide))) (okFs_c (okV_i b_40598) (okFs_c (okV_i b_40600) (okFs_c (okV_i b_40602) (okFs_c (okV_i b_40604) (okFs_c (okV_i b_40606) (okFs_c b_40608 (okFs_c (okV_i b_40610) (okFs_c (okV_i b_40612) okFs_n)))))))))))))))
    exact prV (post := fun L1 f1 => SH (spC rs fc tc w q) nnC G ad L1 f1) S Y (by decide) (by decide) hA1 I dX5_addToken_52
set_option maxHeartbeats 4000000 in
set_option maxRecDepth 100000 in
theorem x_X5_cutNumber {l : Launch} {G : GG}  {L : List Nat} {f : HF} {ad : Nat → Nat → Nat} {rs : FS} {fc : Int × Int} {tc w : Nat → Int × Int} {q : Nat → (Nat → Int32) → Prop} {i1 : Int32} (I : SH (spC rs fc tc w q) nnC G ad L f) (hW : WBp w 8) (hT : WBp tc 4) (hQ : QIp q) (b_i1 : bn 0 300 i1) : PMi l yX5_cutNumber cX5_cutNumber 4 .int 1 0 0 G [.ref (ad 2 0), .int i1] L f (fun r L1 f1 => bn 0 300 r ∧ SH (spC rs fc tc w q) nnC G ad L1 f1) := by
  refine PMi.of (post := fun r L1 f1 => bn 0 300 r ∧ SH (spC rs fc tc w q) nnC G ad L1 f1) (own := RX5) (by decide) rfl (Nat.le_of_ble_eq_true rfl) (fun sz p e s m args below meth c A ls hA1 hname S Y hl => ?_)
  have hx := S.hx
  have hb := S.hb
  have hl : lv_has ls 4 [(0, .ref (ad 2 0)), (1, .int i1)] := hl
  have J_4 : ∀ (n4 : Nat) (y4_2 y4_3 : Int32) (L_4 : List Nat) (f_4 : HF) (H : Heap) (locs : List Loc) (ls : Array Slot), (SH (spC rs fc tc w q) nnC G ad L_4 f_4) → (bn 0 300 y4_2) → (bn (-2147483648) 10000 y4_3) → (((300 : Int) - y4_2.toInt).toNat = n4) → (DY G A s [] L_4 f_4 H locs) → (lv_has ls 4 [(0, .ref (ad 2 0)), (1, .int i1), (2, .int y4_2), (3, .int y4_3)]) → W p l e (rmD 1 0 0) s m args below meth c H locs (0) (0) (MQ below (va_Qi (fun r (u : List Nat × HF) => (fun r L1 f1 => bn 0 300 r ∧ SH (spC rs fc tc w q) nnC G ad L1 f1) r u.1 u.2) (fun u t => pOut G (va_A (va_pl L f) sz) u.1 u.2 t) (va_A (va_pl L f) sz)) args s 0 0 A) (F0 m 4 ls []) := by
    intro n4
    induction n4 using Nat.strongRecOn with
    | _ n4 ih4 =>
      intro y4_2 y4_3 L_4 f_4 H locs ls I b_y4_2 b_y4_3 hm4 Y hl
      refine lv_iload_n hx hb dX5_cutNumber_4 rfl (lv_at hl 2 rfl) ?_
      refine lv_aload_n hx hb dX5_cutNumber_5 rfl (lv_at hl 0 rfl) ?_
      obtain ⟨v_40744, v_40746, v_40748, v_40750, v_40752, v_40754, v_40756, v_40758, v_40760, v_40762, p_ad_2_0, b_40745, b_40747, b_40749, b_40751, b_40753, b_40755, b_40757, b_40759, b_40761, b_40763⟩ := opnC_2 (j := 0) I (by decide)
      have p_ad_2_0 : pt L_4 f_4 (ad 2 0) (.inr (5, [.ref (ad 50 0), .ref (ad 51 0), .ref (ad 52 0), .ref (ad 53 0), .int v_40744, .int v_40746, .int v_40748, .int v_40750, .int v_40752, .int v_40754, .int v_40756, v_40758, .int v_40760, .int v_40762])) := p_ad_2_0
      refine pg_get S Y ok_X5 4 (by decide) kf5_31 (v := .int v_40744) p_ad_2_0 rfl dX5_cutNumber_6 ?_
      refine lv_icmp_ge (tgt := 49) hx hb dX5_cutNumber_9 (by decide) (fun c_40764 => ?_) (fun c_40764 => ?_)
      · refine lv_aload_n hx hb dX5_cutNumber_49 rfl (lv_at hl 0 rfl) ?_
        refine lv_sipush (v := 1000) hx hb dX5_cutNumber_50 (by decide) ?_
        refine lv_iload_n hx hb dX5_cutNumber_53 rfl (lv_at hl 1 rfl) ?_
        refine lv_iload_n hx hb dX5_cutNumber_54 rfl (lv_at hl 3 rfl) ?_
        refine cVv (As := [.int 1000, .int i1, .int y4_3]) (rest := []) S Y (x_X5_addToken (l := l) I hW hT hQ) cw_X5_addToken km5_85 p_ad_2_0 ok_X5.1 rfl rfl ⟨Nat.le_of_ble_eq_true rfl, Nat.le_of_ble_eq_true rfl⟩ hl.1 rfl (Nat.le_of_ble_eq_true rfl) ⟨Nat.le_of_ble_eq_true rfl, Nat.le_of_ble_eq_true rfl⟩ dX5_cutNumber_55 (fun L_40767 f_40768 H locs I Y => ?_)
        refine lv_iload_n hx hb dX5_cutNumber_58 rfl (lv_at hl 2 rfl) ?_
        exact prI (post := fun r L1 f1 => bn 0 300 r ∧ SH (spC rs fc tc w q) nnC G ad L1 f1) S Y rfl (by decide) (by decide) hA1 ⟨bn_w b_y4_2 (by decide), I⟩ dX5_cutNumber_59
      · have B_40765 : bn 1 300 v_40744 := bn_w (bn_gtl c_40764 b_40745 b_y4_2) (by decide)
        have B_40766 : bn 0 299 y4_2 := bn_w (bn_gtr c_40764 b_40745 b_y4_2) (by decide)
        refine lv_aload_n hx hb dX5_cutNumber_12 rfl (lv_at hl 0 rfl) ?_
        refine lv_iload_n hx hb dX5_cutNumber_13 rfl (lv_at hl 2 rfl) ?_
        refine cVp (As := [.int y4_2]) (rest := []) S Y (x_X5_byteAt (l := l) I hW hT hQ) cw_X5_byteAt km5_65 p_ad_2_0 ok_X5.1 rfl rfl ⟨Nat.le_of_ble_eq_true rfl, Nat.le_of_ble_eq_true rfl⟩ hl.1 rfl (Nat.le_of_ble_eq_true rfl) ⟨Nat.le_of_ble_eq_true rfl, Nat.le_of_ble_eq_true rfl⟩ dX5_cutNumber_14 (fun r_40769 H locs er_40769 Y => ?_)
        refine cSp (As := [.int r_40769]) (rest := []) S Y (x_X5_isDigit (l := l) ) cw_X5_isDigit km5_76 rfl ⟨Nat.le_of_ble_eq_true rfl, Nat.le_of_ble_eq_true rfl⟩ hl.1 rfl (Nat.le_of_ble_eq_true rfl) ⟨Nat.le_of_ble_eq_true rfl, Nat.le_of_ble_eq_true rfl⟩ dX5_cutNumber_17 (fun r_40770 H locs er_40770 Y => ?_)
        refine lv_if_eq (tgt := 49) hx hb dX5_cutNumber_20 (by decide) (fun c_40771 => ?_) (fun c_40771 => ?_)
        · have B_40772 : bn 0 0 r_40770 := bn_w (bn_eq c_40771 (show bn 0 0 (0 : Int32) from bn_k (by decide))) (by decide)
          refine lv_aload_n hx hb dX5_cutNumber_49 rfl (lv_at hl 0 rfl) ?_
          refine lv_sipush (v := 1000) hx hb dX5_cutNumber_50 (by decide) ?_
          refine lv_iload_n hx hb dX5_cutNumber_53 rfl (lv_at hl 1 rfl) ?_
          refine lv_iload_n hx hb dX5_cutNumber_54 rfl (lv_at hl 3 rfl) ?_
          refine cVv (As := [.int 1000, .int i1, .int y4_3]) (rest := []) S Y (x_X5_addToken (l := l) I hW hT hQ) cw_X5_addToken km5_85 p_ad_2_0 ok_X5.1 rfl rfl ⟨Nat.le_of_ble_eq_true rfl, Nat.le_of_ble_eq_true rfl⟩ hl.1 rfl (Nat.le_of_ble_eq_true rfl) ⟨Nat.le_of_ble_eq_true rfl, Nat.le_of_ble_eq_true rfl⟩ dX5_cutNumber_55 (fun L_40774 f_40775 H locs I Y => ?_)
          refine lv_iload_n hx hb dX5_cutNumber_58 rfl (lv_at hl 2 rfl) ?_
          exact prI (post := fun r L1 f1 => bn 0 300 r ∧ SH (spC rs fc tc w q) nnC G ad L1 f1) S Y rfl (by decide) (by decide) hA1 ⟨bn_w B_40766 (by decide), I⟩ dX5_cutNumber_59
        · have B_40773 : bn 1 1 r_40770 := bn_w (bn_nel c_40771 er_40770 (show bn 0 0 (0 : Int32) from bn_k (by decide))) (by decide)
          refine lv_sipush (v := 10000) hx hb dX5_cutNumber_23 (by decide) ?_
          refine lv_iload_n hx hb dX5_cutNumber_26 rfl (lv_at hl 3 rfl) ?_
          refine lv_bipush (v := 10) hx hb dX5_cutNumber_27 (by decide) ?_
          refine lv_imul hx hb dX5_cutNumber_29 ?_
          refine lv_topi (fun x_40776 ex_40776 => ?_)
          refine lv_aload_n hx hb dX5_cutNumber_30 rfl (lv_at hl 0 rfl) ?_
          refine lv_iload_n hx hb dX5_cutNumber_31 rfl (lv_at hl 2 rfl) ?_
          refine cVp (As := [.int y4_2]) (rest := [.int x_40776, .int 10000]) S Y (x_X5_byteAt (l := l) I hW hT hQ) cw_X5_byteAt km5_65 p_ad_2_0 ok_X5.1 rfl rfl ⟨Nat.le_of_ble_eq_true rfl, Nat.le_of_ble_eq_true rfl⟩ hl.1 rfl (Nat.le_of_ble_eq_true rfl) ⟨Nat.le_of_ble_eq_true rfl, Nat.le_of_ble_eq_true rfl⟩ dX5_cutNumber_32 (fun r_40777 H locs er_40777 Y => ?_)
          refine lv_iadd hx hb dX5_cutNumber_35 ?_
          refine lv_topi (fun x_40778 ex_40778 => ?_)
          refine lv_bipush (v := 48) hx hb dX5_cutNumber_36 (by decide) ?_
          refine lv_isub hx hb dX5_cutNumber_38 ?_
          refine lv_topi (fun x_40779 ex_40779 => ?_)
          refine va_mmin hx hb (S.ml.trans hl.1.symm) S.ow (S.w km5_108) (S.w kMs_min) (S.w kMi) (S.w kMc_min) (Nat.le_of_ble_eq_true rfl) (Nat.le_of_ble_eq_true rfl) (by decide) (by decide) dX5_cutNumber_39 ?_
          refine lv_topi (fun x_40780 ex_40780 => ?_)
          refine lv_istore_n (lv' := [(3, .int x_40780), (0, .ref (ad 2 0)), (1, .int i1), (2, .int y4_2)]) hx hb dX5_cutNumber_42 rfl hl (by decide) rfl (fun ls hl => ?_)
          obtain ⟨x_40781, ex_40781⟩ : ∃ z : Int32, z = y4_2 + 1 := ⟨_, rfl⟩
          refine lv_iinc (v := x_40781) (lv' := [(2, .int x_40781), (3, .int x_40780), (0, .ref (ad 2 0)), (1, .int i1)]) hx hb dX5_cutNumber_43 hl (k := 3) rfl (by rw [ex_40781]; rfl) (by decide) rfl (fun ls hl => ?_)
          refine lv_goto (tgt := 4) hx hb dX5_cutNumber_46 (by decide) ?_
          exact ih4 _ (by rw [← hm4]; exact ms_up (m := 1) ex_40781 (show bn 1 1 (1 : Int32) from bn_k (by decide)) B_40766 (bn_w (bn_eq ex_40781 (bn_add B_40766 (show bn 1 1 (1 : Int32) from bn_k (by decide)) (by decide))) (by decide) : bn 0 300 x_40781) (by decide)) x_40781 x_40780 _ _  _ _ _ I (bn_w (bn_eq ex_40781 (bn_add B_40766 (show bn 1 1 (1 : Int32) from bn_k (by decide)) (by decide))) (by decide)) (bn_w (bn_eq ex_40780 (bn_min (show bn 10000 10000 (10000 : Int32) from bn_k (by decide)) (bn_any x_40779))) (by decide)) rfl Y (lv_sub hl [2, 3, 0, 1] rfl)
  refine lv_iload_n hx hb dX5_cutNumber_0 rfl (lv_at hl 1 rfl) ?_
  refine lv_istore_n (lv' := [(2, .int i1), (0, .ref (ad 2 0)), (1, .int i1)]) hx hb dX5_cutNumber_1 rfl hl (by decide) rfl (fun ls hl => ?_)
  refine lv_iconst (v := 0) hx hb dX5_cutNumber_2 (by decide) ?_
  refine lv_istore_n (lv' := [(3, .int 0), (2, .int i1), (0, .ref (ad 2 0)), (1, .int i1)]) hx hb dX5_cutNumber_3 rfl hl (by decide) rfl (fun ls hl => ?_)
  exact J_4 _ i1 0 _ _  _ _ _ I (bn_w b_i1 (by decide)) (bn_w (show bn 0 0 (0 : Int32) from bn_k (by decide)) (by decide)) rfl Y (lv_sub hl [2, 3, 1, 0] rfl)
set_option maxHeartbeats 4000000 in
set_option maxRecDepth 100000 in
theorem x_X5_step {l : Launch} {G : GG}  {L : List Nat} {f : HF} {ad : Nat → Nat → Nat} {rs : FS} {fc : Int × Int} {tc w : Nat → Int × Int} {q : Nat → (Nat → Int32) → Prop} (I : SH (spC rs fc tc w q) nnC G ad L f) (hW : WBp w 8) (hT : WBp tc 4) (hQ : QIp q) : PMv l yX5_step cX5_step 2 1 0 0 G [.ref (ad 2 0)] L f (fun L1 f1 => SH (spC rs fc tc w q) nnC G ad L1 f1) := by
  refine PMv.of (post := fun L1 f1 => SH (spC rs fc tc w q) nnC G ad L1 f1) (own := RX5) (by decide) rfl (Nat.le_of_ble_eq_true rfl) (fun sz p e s m args below meth c A ls hA1 hname S Y hl => ?_)
  have hx := S.hx
  have hb := S.hb
  have hl : lv_has ls 2 [(0, .ref (ad 2 0))] := hl
  refine lv_aload_n hx hb dX5_step_0 rfl (lv_at hl 0 rfl) ?_
  obtain ⟨v_40860, v_40862, v_40864, v_40866, v_40868, v_40870, v_40872, v_40874, v_40876, v_40878, p_ad_2_0, b_40861, b_40863, b_40865, b_40867, b_40869, b_40871, b_40873, b_40875, b_40877, b_40879⟩ := opnC_2 (j := 0) I (by decide)
  have p_ad_2_0 : pt L f (ad 2 0) (.inr (5, [.ref (ad 50 0), .ref (ad 51 0), .ref (ad 52 0), .ref (ad 53 0), .int v_40860, .int v_40862, .int v_40864, .int v_40866, .int v_40868, .int v_40870, .int v_40872, v_40874, .int v_40876, .int v_40878])) := p_ad_2_0
  refine pg_get S Y ok_X5 6 (by decide) kf5_46 (v := .int v_40864) p_ad_2_0 rfl dX5_step_1 ?_
  refine lv_aload_n hx hb dX5_step_4 rfl (lv_at hl 0 rfl) ?_
  refine pg_get S Y ok_X5 5 (by decide) kf5_62 (v := .int v_40862) p_ad_2_0 rfl dX5_step_5 ?_
  refine lv_iconst (v := 1) hx hb dX5_step_8 (by decide) ?_
  refine lv_isub hx hb dX5_step_9 ?_
  refine lv_topi (fun x_40880 ex_40880 => ?_)
  refine va_mmin hx hb (S.ml.trans hl.1.symm) S.ow (S.w km5_108) (S.w kMs_min) (S.w kMi) (S.w kMc_min) (Nat.le_of_ble_eq_true rfl) (Nat.le_of_ble_eq_true rfl) (by decide) (by decide) dX5_step_10 ?_
  refine lv_topi (fun x_40881 ex_40881 => ?_)
  refine lv_istore_n (lv' := [(1, .int x_40881), (0, .ref (ad 2 0))]) hx hb dX5_step_13 rfl hl (by decide) rfl (fun ls hl => ?_)
  refine lv_iload_n hx hb dX5_step_14 rfl (lv_at hl 0 rfl) ?_
  refine lv_if_lt (tgt := 67) hx hb dX5_step_15 (by decide) (fun c_40882 => ?_) (fun c_40882 => ?_)
  · have B_40883 : bn (-2147483648) (-1) x_40881 := bn_w (bn_ltl c_40882 (bn_eq ex_40881 (bn_min (bn_any v_40864) (bn_eq ex_40880 (bn_sub b_40863 (show bn 1 1 (1 : Int32) from bn_k (by decide)) (by decide))))) (show bn 0 0 (0 : Int32) from bn_k (by decide))) (by decide)
    exact prV (post := fun L1 f1 => SH (spC rs fc tc w q) nnC G ad L1 f1) S Y (by decide) (by decide) hA1 I dX5_step_67
  · have B_40884 : bn 0 300 x_40881 := bn_w (bn_gel c_40882 (bn_eq ex_40881 (bn_min (bn_any v_40864) (bn_eq ex_40880 (bn_sub b_40863 (show bn 1 1 (1 : Int32) from bn_k (by decide)) (by decide))))) (show bn 0 0 (0 : Int32) from bn_k (by decide))) (by decide)
    refine lv_iload_n hx hb dX5_step_18 rfl (lv_at hl 0 rfl) ?_
    refine lv_aload_n hx hb dX5_step_19 rfl (lv_at hl 1 rfl) ?_
    refine pg_get S Y ok_X5 1 (by decide) kf5_15 (v := .ref (ad 51 0)) p_ad_2_0 rfl dX5_step_20 ?_
    obtain ⟨g_40885, p_ad_51_0, o_40886⟩ := I.opi (k := 51) (j := 0) (by decide) rfl
    have p_ad_51_0 : pt L f (ad 51 0) (.inl (G.2 0, 301, .inl g_40885)) := p_ad_51_0
    refine pg_alen S Y (k := 0) (v := 301) p_ad_51_0 rfl rfl dX5_step_23 ?_
    refine lv_icmp_ge (tgt := 67) hx hb dX5_step_24 (by decide) (fun h => absurd h (bd_nle (show bn 301 301 (301 : Int32) from bn_k (by decide)) B_40884 (by decide))) (fun _ => ?_)
    refine lv_aload_n hx hb dX5_step_27 rfl (lv_at hl 1 rfl) ?_
    refine lv_aload_n hx hb dX5_step_28 rfl (lv_at hl 1 rfl) ?_
    refine pg_get S Y ok_X5 1 (by decide) kf5_15 (v := .ref (ad 51 0)) p_ad_2_0 rfl dX5_step_29 ?_
    refine lv_iload_n hx hb dX5_step_32 rfl (lv_at hl 0 rfl) ?_
    obtain ⟨v_40887, ev_40887⟩ : ∃ z, z = g_40885 (x_40881 : Int32).toNatClampNeg := ⟨_, rfl⟩
    refine pg_iald S Y (v := v_40887) p_ad_51_0 (vp_bn B_40884 (by decide)) ev_40887.symm dX5_step_33 ?_
    refine pg_put S Y ok_X5 7 (by decide) kf5_52 rfl (fs' := [.ref (ad 50 0), .ref (ad 51 0), .ref (ad 52 0), .ref (ad 53 0), .int v_40860, .int v_40862, .int v_40864, .int v_40887, .int v_40868, .int v_40870, .int v_40872, v_40874, .int v_40876, .int v_40878]) (v := .int v_40887) p_ad_2_0 rfl rfl rfl (Nat.le_of_ble_eq_true rfl) dX5_step_34 (fun f_40888 H locs ef_40888 Y => ?_)
    have p_ad_51_0 := p_ad_51_0.up ef_40888 (I.ne (k := 51) (j := 0) (k' := 2) (j' := 0) (by decide) (by decide) (Or.inl (by decide)))
    have p_ad_2_0 := p_ad_2_0.me ef_40888
    have I := I.up (k := 2) (j := 0) (by decide) ef_40888 (okE_o (okFs_c okV_r (okFs_c okV_r (okFs_c okV_r (okFs_c okV_r (okFs_c (okV_i b_40861) (okFs_c (okV_i b_40863) (okFs_c (okV_i b_40865) (okFs_c (okV_i (bn_w (bn_any v_40887) (by decide))) (okFs_c (okV_i b_40869) (okFs_c (okV_i b_40871) (okFs_c (okV_i b_40873) (okFs_c b_40875 (okFs_c (okV_i b_40877) (okFs_c (okV_i b_40879) okFs_n)))))))))))))))
    refine lv_aload_n hx hb dX5_step_37 rfl (lv_at hl 1 rfl) ?_
    refine lv_aload_n hx hb dX5_step_38 rfl (lv_at hl 1 rfl) ?_
    refine pg_get S Y ok_X5 2 (by decide) kf5_18 (v := .ref (ad 52 0)) p_ad_2_0 rfl dX5_step_39 ?_
    refine lv_iload_n hx hb dX5_step_42 rfl (lv_at hl 0 rfl) ?_
    obtain ⟨g_40889, p_ad_52_0, o_40890⟩ := I.opi (k := 52) (j := 0) (by decide) rfl
    have p_ad_52_0 : pt L f_40888 (ad 52 0) (.inl (G.2 0, 301, .inl g_40889)) := p_ad_52_0
    obtain ⟨v_40891, ev_40891⟩ : ∃ z, z = g_40889 (x_40881 : Int32).toNatClampNeg := ⟨_, rfl⟩
    refine pg_iald S Y (v := v_40891) p_ad_52_0 (vp_bn B_40884 (by decide)) ev_40891.symm dX5_step_43 ?_
    refine pg_put S Y ok_X5 8 (by decide) kf5_59 rfl (fs' := [.ref (ad 50 0), .ref (ad 51 0), .ref (ad 52 0), .ref (ad 53 0), .int v_40860, .int v_40862, .int v_40864, .int v_40887, .int v_40891, .int v_40870, .int v_40872, v_40874, .int v_40876, .int v_40878]) (v := .int v_40891) p_ad_2_0 rfl rfl rfl (Nat.le_of_ble_eq_true rfl) dX5_step_44 (fun f_40892 H locs ef_40892 Y => ?_)
    have p_ad_51_0 := p_ad_51_0.up ef_40892 (I.ne (k := 51) (j := 0) (k' := 2) (j' := 0) (by decide) (by decide) (Or.inl (by decide)))
    have p_ad_52_0 := p_ad_52_0.up ef_40892 (I.ne (k := 52) (j := 0) (k' := 2) (j' := 0) (by decide) (by decide) (Or.inl (by decide)))
    have p_ad_2_0 := p_ad_2_0.me ef_40892
    have I := I.up (k := 2) (j := 0) (by decide) ef_40892 (okE_o (okFs_c okV_r (okFs_c okV_r (okFs_c okV_r (okFs_c okV_r (okFs_c (okV_i b_40861) (okFs_c (okV_i b_40863) (okFs_c (okV_i b_40865) (okFs_c (okV_i (bn_w (bn_any v_40887) (by decide))) (okFs_c (okV_i (bn_w (bn_any v_40891) (by decide))) (okFs_c (okV_i b_40871) (okFs_c (okV_i b_40873) (okFs_c b_40875 (okFs_c (okV_i b_40877) (okFs_c (okV_i b_40879) okFs_n)))))))))))))))
    refine lv_aload_n hx hb dX5_step_47 rfl (lv_at hl 1 rfl) ?_
    refine lv_aload_n hx hb dX5_step_48 rfl (lv_at hl 1 rfl) ?_
    refine pg_get S Y ok_X5 3 (by decide) kf5_21 (v := .ref (ad 53 0)) p_ad_2_0 rfl dX5_step_49 ?_
    refine lv_iload_n hx hb dX5_step_52 rfl (lv_at hl 0 rfl) ?_
    obtain ⟨g_40893, p_ad_53_0, o_40894⟩ := I.opi (k := 53) (j := 0) (by decide) rfl
    have p_ad_53_0 : pt L f_40892 (ad 53 0) (.inl (G.2 0, 301, .inl g_40893)) := p_ad_53_0
    obtain ⟨v_40895, ev_40895⟩ : ∃ z, z = g_40893 (x_40881 : Int32).toNatClampNeg := ⟨_, rfl⟩
    refine pg_iald S Y (v := v_40895) p_ad_53_0 (vp_bn B_40884 (by decide)) ev_40895.symm dX5_step_53 ?_
    refine pg_put S Y ok_X5 9 (by decide) kf5_118 rfl (fs' := [.ref (ad 50 0), .ref (ad 51 0), .ref (ad 52 0), .ref (ad 53 0), .int v_40860, .int v_40862, .int v_40864, .int v_40887, .int v_40891, .int v_40895, .int v_40872, v_40874, .int v_40876, .int v_40878]) (v := .int v_40895) p_ad_2_0 rfl rfl rfl (Nat.le_of_ble_eq_true rfl) dX5_step_54 (fun f_40896 H locs ef_40896 Y => ?_)
    have p_ad_51_0 := p_ad_51_0.up ef_40896 (I.ne (k := 51) (j := 0) (k' := 2) (j' := 0) (by decide) (by decide) (Or.inl (by decide)))
    have p_ad_52_0 := p_ad_52_0.up ef_40896 (I.ne (k := 52) (j := 0) (k' := 2) (j' := 0) (by decide) (by decide) (Or.inl (by decide)))
    have p_ad_53_0 := p_ad_53_0.up ef_40896 (I.ne (k := 53) (j := 0) (k' := 2) (j' := 0) (by decide) (by decide) (Or.inl (by decide)))
    have p_ad_2_0 := p_ad_2_0.me ef_40896
    have I := I.up (k := 2) (j := 0) (by decide) ef_40896 (okE_o (okFs_c okV_r (okFs_c okV_r (okFs_c okV_r (okFs_c okV_r (okFs_c (okV_i b_40861) (okFs_c (okV_i b_40863) (okFs_c (okV_i b_40865) (okFs_c (okV_i (bn_w (bn_any v_40887) (by decide))) (okFs_c (okV_i (bn_w (bn_any v_40891) (by decide))) (okFs_c (okV_i (bn_w (bn_any v_40895) (by decide))) (okFs_c (okV_i b_40873) (okFs_c b_40875 (okFs_c (okV_i b_40877) (okFs_c (okV_i b_40879) okFs_n)))))))))))))))
    refine lv_aload_n hx hb dX5_step_57 rfl (lv_at hl 1 rfl) ?_
    refine lv_dup hx hb dX5_step_58 rfl ?_
    refine pg_get S Y ok_X5 6 (by decide) kf5_46 (v := .int v_40864) p_ad_2_0 rfl dX5_step_59 ?_
    refine lv_iconst (v := 1) hx hb dX5_step_62 (by decide) ?_
    refine lv_iadd hx hb dX5_step_63 ?_
    refine lv_topi (fun x_40897 ex_40897 => ?_)
    refine pg_put S Y ok_X5 6 (by decide) kf5_46 rfl (fs' := [.ref (ad 50 0), .ref (ad 51 0), .ref (ad 52 0), .ref (ad 53 0), .int v_40860, .int v_40862, .int x_40897, .int v_40887, .int v_40891, .int v_40895, .int v_40872, v_40874, .int v_40876, .int v_40878]) (v := .int x_40897) p_ad_2_0 rfl rfl rfl (Nat.le_of_ble_eq_true rfl) dX5_step_64 (fun f_40898 H locs ef_40898 Y => ?_)
    have p_ad_51_0 := p_ad_51_0.up ef_40898 (I.ne (k := 51) (j := 0) (k' := 2) (j' := 0) (by decide) (by decide) (Or.inl (by decide)))
    have p_ad_52_0 := p_ad_52_0.up ef_40898 (I.ne (k := 52) (j := 0) (k' := 2) (j' := 0) (by decide) (by decide) (Or.inl (by decide)))
    have p_ad_53_0 := p_ad_53_0.up ef_40898 (I.ne (k := 53) (j := 0) (k' := 2) (j' := 0) (by decide) (by decide) (Or.inl (by decide)))
    have p_ad_2_0 := p_ad_2_0.me ef_40898
    have I := I.up (k := 2) (j := 0) (by decide) ef_40898 (okE_o (okFs_c okV_r (okFs_c okV_r (okFs_c okV_r (okFs_c okV_r (okFs_c (okV_i b_40861) (okFs_c (okV_i b_40863) (okFs_c (okV_i (bn_w (bn_any x_40897) (by decide))) (okFs_c (okV_i (bn_w (bn_any v_40887) (by decide))) (okFs_c (okV_i (bn_w (bn_any v_40891) (by decide))) (okFs_c (okV_i (bn_w (bn_any v_40895) (by decide))) (okFs_c (okV_i b_40873) (okFs_c b_40875 (okFs_c (okV_i b_40877) (okFs_c (okV_i b_40879) okFs_n)))))))))))))))
    exact prV (post := fun L1 f1 => SH (spC rs fc tc w q) nnC G ad L1 f1) S Y (by decide) (by decide) hA1 I dX5_step_67
set_option maxHeartbeats 4000000 in
set_option maxRecDepth 100000 in
theorem x_X5_expect {l : Launch} {G : GG}  {L : List Nat} {f : HF} {ad : Nat → Nat → Nat} {rs : FS} {fc : Int × Int} {tc w : Nat → Int × Int} {q : Nat → (Nat → Int32) → Prop} {i1 : Int32} (I : SH (spC rs fc tc w q) nnC G ad L f) (hW : WBp w 8) (hT : WBp tc 4) (hQ : QIp q) : PMi l yX5_expect cX5_expect 2 .boolean 2 0 0 G [.ref (ad 2 0), .int i1] L f (fun r L1 f1 => bn 0 1 r ∧ SH (spC rs fc tc w q) nnC G ad L1 f1) := by
  refine PMi.of (post := fun r L1 f1 => bn 0 1 r ∧ SH (spC rs fc tc w q) nnC G ad L1 f1) (own := RX5) (by decide) rfl (Nat.le_of_ble_eq_true rfl) (fun sz p e s m args below meth c A ls hA1 hname S Y hl => ?_)
  have hx := S.hx
  have hb := S.hb
  have hl : lv_has ls 2 [(0, .ref (ad 2 0)), (1, .int i1)] := hl
  refine lv_aload_n hx hb dX5_expect_0 rfl (lv_at hl 0 rfl) ?_
  obtain ⟨v_40951, v_40953, v_40955, v_40957, v_40959, v_40961, v_40963, v_40965, v_40967, v_40969, p_ad_2_0, b_40952, b_40954, b_40956, b_40958, b_40960, b_40962, b_40964, b_40966, b_40968, b_40970⟩ := opnC_2 (j := 0) I (by decide)
  have p_ad_2_0 : pt L f (ad 2 0) (.inr (5, [.ref (ad 50 0), .ref (ad 51 0), .ref (ad 52 0), .ref (ad 53 0), .int v_40951, .int v_40953, .int v_40955, .int v_40957, .int v_40959, .int v_40961, .int v_40963, v_40965, .int v_40967, .int v_40969])) := p_ad_2_0
  refine pg_get S Y ok_X5 7 (by decide) kf5_52 (v := .int v_40957) p_ad_2_0 rfl dX5_expect_1 ?_
  refine lv_iload_n hx hb dX5_expect_4 rfl (lv_at hl 1 rfl) ?_
  refine lv_icmp_eq (tgt := 14) hx hb dX5_expect_5 (by decide) (fun c_40971 => ?_) (fun c_40971 => ?_)
  · refine lv_aload_n hx hb dX5_expect_14 rfl (lv_at hl 0 rfl) ?_
    refine cVv (As := []) (rest := []) S Y (x_X5_step (l := l) I hW hT hQ) cw_X5_step km5_49 p_ad_2_0 ok_X5.1 rfl rfl ⟨Nat.le_of_ble_eq_true rfl, Nat.le_of_ble_eq_true rfl⟩ hl.1 rfl (Nat.le_of_ble_eq_true rfl) ⟨Nat.le_of_ble_eq_true rfl, Nat.le_of_ble_eq_true rfl⟩ dX5_expect_15 (fun L_40972 f_40973 H locs I Y => ?_)
    refine lv_iconst (v := 1) hx hb dX5_expect_18 (by decide) ?_
    exact prI (post := fun r L1 f1 => bn 0 1 r ∧ SH (spC rs fc tc w q) nnC G ad L1 f1) S Y rfl (by decide) (by decide) hA1 ⟨bn_w (show bn 1 1 (1 : Int32) from bn_k (by decide)) (by decide), I⟩ dX5_expect_19
  · refine lv_aload_n hx hb dX5_expect_8 rfl (lv_at hl 0 rfl) ?_
    refine lv_iconst (v := 1) hx hb dX5_expect_9 (by decide) ?_
    refine cVi (As := [.int 1]) (rest := []) S Y (x_X5_fail (l := l) I hW hT hQ) cw_X5_fail km5_121 p_ad_2_0 ok_X5.1 rfl rfl ⟨Nat.le_of_ble_eq_true rfl, Nat.le_of_ble_eq_true rfl⟩ hl.1 rfl (Nat.le_of_ble_eq_true rfl) ⟨Nat.le_of_ble_eq_true rfl, Nat.le_of_ble_eq_true rfl⟩ dX5_expect_10 (fun r_40976 L_40974 f_40975 H locs hr_40976 Y => ?_)
    obtain ⟨er_40976, I⟩ := hr_40976
    exact prI (post := fun r L1 f1 => bn 0 1 r ∧ SH (spC rs fc tc w q) nnC G ad L1 f1) S Y (nw_b (bn_w er_40976 (by decide))) (by decide) (by decide) hA1 ⟨bn_w er_40976 (by decide), I⟩ dX5_expect_13
set_option maxHeartbeats 4000000 in
set_option maxRecDepth 100000 in
theorem x_X5_comparing {l : Launch} {G : GG}  {L : List Nat} {f : HF}  {i1 : Int32}  : PMp l yX5_comparing cX5_comparing 1 .int 0 0 0 G [.int i1] L f (fun r => True) := by
  refine PMi.of (post := fun r L1 f1 => (True) ∧ L1 = L ∧ f1 = f) (own := RX5) (by decide) rfl (Nat.le_of_ble_eq_true rfl) (fun sz p e s m args below meth c A ls hA1 hname S Y hl => ?_)
  have hx := S.hx
  have hb := S.hb
  have hl : lv_has ls 1 [(0, .int i1)] := hl
  refine lv_iload_n hx hb dX5_comparing_0 rfl (lv_at hl 0 rfl) ?_
  have o_40999 : i1 = 35 ∨ i1 = 60 ∨ i1 = 61 ∨ i1 = 62 ∨ i1 = 316 ∨ i1 = 318 ∨ (¬ i1 = 35 ∧ ¬ i1 = 60 ∧ ¬ i1 = 61 ∧ ¬ i1 = 62 ∧ ¬ i1 = 316 ∧ ¬ i1 = 318) := by
    by_cases z_35 : i1 = 35; · simp [z_35]
    by_cases z_60 : i1 = 60; · simp [z_60]
    by_cases z_61 : i1 = 61; · simp [z_61]
    by_cases z_62 : i1 = 62; · simp [z_62]
    by_cases z_316 : i1 = 316; · simp [z_316]
    by_cases z_318 : i1 = 318; · simp [z_318]
    exact Or.inr (Or.inr (Or.inr (Or.inr (Or.inr (Or.inr (⟨z_35, z_60, z_61, z_62, z_316, z_318⟩))))))
  rcases o_40999 with h_41000 | h_41000 | h_41000 | h_41000 | h_41000 | h_41000 | ⟨h_40993, h_40994, h_40995, h_40996, h_40997, h_40998⟩
  · refine lv_fold (z := 35) h_41000 ?_
    refine lv_lookup (off := 74) (tgt := 75) hx hb dX5_comparing_1 (by decide) (by decide) (by decide) ?_
    refine lv_bipush (v := 17) hx hb dX5_comparing_75 (by decide) ?_
    exact prI (post := fun r L1 f1 => (True) ∧ L1 = L ∧ f1 = f) S Y rfl (by decide) (by decide) hA1 ⟨trivial, rfl, rfl⟩ dX5_comparing_77
  · refine lv_fold (z := 60) h_41000 ?_
    refine lv_lookup (off := 59) (tgt := 60) hx hb dX5_comparing_1 (by decide) (by decide) (by decide) ?_
    refine lv_bipush (v := 12) hx hb dX5_comparing_60 (by decide) ?_
    exact prI (post := fun r L1 f1 => (True) ∧ L1 = L ∧ f1 = f) S Y rfl (by decide) (by decide) hA1 ⟨trivial, rfl, rfl⟩ dX5_comparing_62
  · refine lv_fold (z := 61) h_41000 ?_
    refine lv_lookup (off := 71) (tgt := 72) hx hb dX5_comparing_1 (by decide) (by decide) (by decide) ?_
    refine lv_bipush (v := 16) hx hb dX5_comparing_72 (by decide) ?_
    exact prI (post := fun r L1 f1 => (True) ∧ L1 = L ∧ f1 = f) S Y rfl (by decide) (by decide) hA1 ⟨trivial, rfl, rfl⟩ dX5_comparing_74
  · refine lv_fold (z := 62) h_41000 ?_
    refine lv_lookup (off := 65) (tgt := 66) hx hb dX5_comparing_1 (by decide) (by decide) (by decide) ?_
    refine lv_bipush (v := 14) hx hb dX5_comparing_66 (by decide) ?_
    exact prI (post := fun r L1 f1 => (True) ∧ L1 = L ∧ f1 = f) S Y rfl (by decide) (by decide) hA1 ⟨trivial, rfl, rfl⟩ dX5_comparing_68
  · refine lv_fold (z := 316) h_41000 ?_
    refine lv_lookup (off := 62) (tgt := 63) hx hb dX5_comparing_1 (by decide) (by decide) (by decide) ?_
    refine lv_bipush (v := 13) hx hb dX5_comparing_63 (by decide) ?_
    exact prI (post := fun r L1 f1 => (True) ∧ L1 = L ∧ f1 = f) S Y rfl (by decide) (by decide) hA1 ⟨trivial, rfl, rfl⟩ dX5_comparing_65
  · refine lv_fold (z := 318) h_41000 ?_
    refine lv_lookup (off := 68) (tgt := 69) hx hb dX5_comparing_1 (by decide) (by decide) (by decide) ?_
    refine lv_bipush (v := 15) hx hb dX5_comparing_69 (by decide) ?_
    exact prI (post := fun r L1 f1 => (True) ∧ L1 = L ∧ f1 = f) S Y rfl (by decide) (by decide) hA1 ⟨trivial, rfl, rfl⟩ dX5_comparing_71
  · refine lv_lookup (off := 77) (tgt := 78) hx hb dX5_comparing_1 (by decide) (by show Op.lookupswitch.offset [(35, 74), (60, 59), (61, 71), (62, 65), (316, 62), (318, 68)] 77 i1.toInt = 77; rw [Op.lookupswitch.offset_cons, if_neg (ne_ti (n := 35) h_40993 rfl), Op.lookupswitch.offset_cons, if_neg (ne_ti (n := 60) h_40994 rfl), Op.lookupswitch.offset_cons, if_neg (ne_ti (n := 61) h_40995 rfl), Op.lookupswitch.offset_cons, if_neg (ne_ti (n := 62) h_40996 rfl), Op.lookupswitch.offset_cons, if_neg (ne_ti (n := 316) h_40997 rfl), Op.lookupswitch.offset_cons, if_neg (ne_ti (n := 318) h_40998 rfl), Op.lookupswitch.offset_nil]) (by decide) ?_
    refine lv_iconst (v := (-1)) hx hb dX5_comparing_78 (by decide) ?_
    exact prI (post := fun r L1 f1 => (True) ∧ L1 = L ∧ f1 = f) S Y rfl (by decide) (by decide) hA1 ⟨trivial, rfl, rfl⟩ dX5_comparing_79
set_option maxHeartbeats 4000000 in
set_option maxRecDepth 100000 in
theorem x_X5_readNumber {l : Launch} {G : GG}  {L : List Nat} {f : HF} {ad : Nat → Nat → Nat} {fc : Int × Int} {tc w : Nat → Int × Int} {q : Nat → (Nat → Int32) → Prop} {t : Nat} {i1 i2 i3 : Int32} (I : SH (spC (RF 30 t) fc tc w q) nnC G ad L f) (hW : WBp w 8) (hT : WBp tc 4) (hQ : QIp q) (ht : t < 4) : PMi l yX5_readNumber cX5_readNumber 4 .boolean 2 0 0 G [.ref (ad 2 0), .int i1, .int i2, .int i3] L f (fun r L1 f1 => bn 0 1 r ∧ SH (spC (RF 30 t) fc tc w q) nnC G ad L1 f1) := by
  refine PMi.of (post := fun r L1 f1 => bn 0 1 r ∧ SH (spC (RF 30 t) fc tc w q) nnC G ad L1 f1) (own := RX5) (by decide) rfl (Nat.le_of_ble_eq_true rfl) (fun sz p e s m args below meth c A ls hA1 hname S Y hl => ?_)
  have hx := S.hx
  have hb := S.hb
  have hl : lv_has ls 4 [(0, .ref (ad 2 0)), (1, .int i1), (2, .int i2), (3, .int i3)] := hl
  refine lv_aload_n hx hb dX5_readNumber_0 rfl (lv_at hl 0 rfl) ?_
  obtain ⟨v_41069, v_41071, v_41073, v_41075, v_41077, v_41079, v_41081, v_41083, v_41085, p_ad_2_0, b_41070, b_41072, b_41074, b_41076, b_41078, b_41080, b_41082, b_41084, b_41086⟩ := opnC_2r (j := 0) I (by decide)
  have p_ad_2_0 : pt L f (ad 2 0) (.inr (5, [.ref (ad 50 0), .ref (ad 51 0), .ref (ad 52 0), .ref (ad 53 0), .int v_41069, .int v_41071, .int v_41073, .int v_41075, .int v_41077, .int v_41079, .int v_41081, .ref (ad 30 t), .int v_41083, .int v_41085])) := p_ad_2_0
  refine pg_get S Y ok_X5 7 (by decide) kf5_52 (v := .int v_41075) p_ad_2_0 rfl dX5_readNumber_1 ?_
  refine lv_sipush (v := 1000) hx hb dX5_readNumber_4 (by decide) ?_
  refine lv_icmp_eq (tgt := 16) hx hb dX5_readNumber_7 (by decide) (fun c_41087 => ?_) (fun c_41087 => ?_)
  · have B_41088 : bn 1000 1000 v_41075 := bn_w (bn_eq c_41087 (show bn 1000 1000 (1000 : Int32) from bn_k (by decide))) (by decide)
    refine lv_aload_n hx hb dX5_readNumber_16 rfl (lv_at hl 0 rfl) ?_
    refine pg_get S Y ok_X5 9 (by decide) kf5_118 (v := .int v_41079) p_ad_2_0 rfl dX5_readNumber_17 ?_
    refine lv_iload_n hx hb dX5_readNumber_20 rfl (lv_at hl 2 rfl) ?_
    refine lv_iload_n hx hb dX5_readNumber_21 rfl (lv_at hl 3 rfl) ?_
    refine cNp (As := [.int v_41079, .int i2, .int i3]) (rest := []) S Y (x_X11_within (l := l) ) cw_X11_within km5_160 rfl ⟨Nat.le_of_ble_eq_true rfl, Nat.le_of_ble_eq_true rfl⟩ hl.1 rfl (Nat.le_of_ble_eq_true rfl) ⟨Nat.le_of_ble_eq_true rfl, Nat.le_of_ble_eq_true rfl⟩ dX5_readNumber_22 (fun r_41089 H locs er_41089 Y => ?_)
    refine lv_if_ne (tgt := 34) hx hb dX5_readNumber_25 (by decide) (fun c_41090 => ?_) (fun c_41090 => ?_)
    · have B_41091 : bn 1 1 r_41089 := bn_w (bn_nel c_41090 er_41089 (show bn 0 0 (0 : Int32) from bn_k (by decide))) (by decide)
      refine lv_aload_n hx hb dX5_readNumber_34 rfl (lv_at hl 0 rfl) ?_
      refine pg_get S Y ok_X5 11 (by decide) kf5_34 (v := .ref (ad 30 t)) p_ad_2_0 rfl dX5_readNumber_35 ?_
      refine lv_iload_n hx hb dX5_readNumber_38 rfl (lv_at hl 1 rfl) ?_
      refine lv_aload_n hx hb dX5_readNumber_39 rfl (lv_at hl 0 rfl) ?_
      refine pg_get S Y ok_X5 9 (by decide) kf5_118 (v := .int v_41079) p_ad_2_0 rfl dX5_readNumber_40 ?_
      refine cVv (As := [.int i1, .int v_41079]) (rest := []) S Y (x_X7_setClause (l := l) (j := t) I hW hT hQ (show t < 8 from by omega)) cw_X7_setClause km5_163 (I.opo (k := 30) (j := t) (show t < 8 from by omega) rfl).choose_spec.1 ok_X7.1 rfl rfl ⟨Nat.le_of_ble_eq_true rfl, Nat.le_of_ble_eq_true rfl⟩ hl.1 rfl (Nat.le_of_ble_eq_true rfl) ⟨Nat.le_of_ble_eq_true rfl, Nat.le_of_ble_eq_true rfl⟩ dX5_readNumber_43 (fun L_41093 f_41094 H locs I Y => ?_)
      refine lv_aload_n hx hb dX5_readNumber_46 rfl (lv_at hl 0 rfl) ?_
      refine cVv (As := []) (rest := []) S Y (x_X5_step (l := l) I hW hT hQ) cw_X5_step km5_49 (I.opo (k := 2) (j := 0) (by decide) rfl).choose_spec.1 ok_X5.1 rfl rfl ⟨Nat.le_of_ble_eq_true rfl, Nat.le_of_ble_eq_true rfl⟩ hl.1 rfl (Nat.le_of_ble_eq_true rfl) ⟨Nat.le_of_ble_eq_true rfl, Nat.le_of_ble_eq_true rfl⟩ dX5_readNumber_47 (fun L_41095 f_41096 H locs I Y => ?_)
      refine lv_iconst (v := 1) hx hb dX5_readNumber_50 (by decide) ?_
      exact prI (post := fun r L1 f1 => bn 0 1 r ∧ SH (spC (RF 30 t) fc tc w q) nnC G ad L1 f1) S Y rfl (by decide) (by decide) hA1 ⟨bn_w (show bn 1 1 (1 : Int32) from bn_k (by decide)) (by decide), I⟩ dX5_readNumber_51
    · have B_41092 : bn 0 0 r_41089 := bn_w (bn_eq c_41090 (show bn 0 0 (0 : Int32) from bn_k (by decide))) (by decide)
      refine lv_aload_n hx hb dX5_readNumber_28 rfl (lv_at hl 0 rfl) ?_
      refine lv_iconst (v := 2) hx hb dX5_readNumber_29 (by decide) ?_
      refine cVi (As := [.int 2]) (rest := []) S Y (x_X5_fail (l := l) I hW hT hQ) cw_X5_fail km5_121 p_ad_2_0 ok_X5.1 rfl rfl ⟨Nat.le_of_ble_eq_true rfl, Nat.le_of_ble_eq_true rfl⟩ hl.1 rfl (Nat.le_of_ble_eq_true rfl) ⟨Nat.le_of_ble_eq_true rfl, Nat.le_of_ble_eq_true rfl⟩ dX5_readNumber_30 (fun r_41099 L_41097 f_41098 H locs hr_41099 Y => ?_)
      obtain ⟨er_41099, I⟩ := hr_41099
      exact prI (post := fun r L1 f1 => bn 0 1 r ∧ SH (spC (RF 30 t) fc tc w q) nnC G ad L1 f1) S Y (nw_b (bn_w er_41099 (by decide))) (by decide) (by decide) hA1 ⟨bn_w er_41099 (by decide), I⟩ dX5_readNumber_33
  · refine lv_aload_n hx hb dX5_readNumber_10 rfl (lv_at hl 0 rfl) ?_
    refine lv_iconst (v := 1) hx hb dX5_readNumber_11 (by decide) ?_
    refine cVi (As := [.int 1]) (rest := []) S Y (x_X5_fail (l := l) I hW hT hQ) cw_X5_fail km5_121 p_ad_2_0 ok_X5.1 rfl rfl ⟨Nat.le_of_ble_eq_true rfl, Nat.le_of_ble_eq_true rfl⟩ hl.1 rfl (Nat.le_of_ble_eq_true rfl) ⟨Nat.le_of_ble_eq_true rfl, Nat.le_of_ble_eq_true rfl⟩ dX5_readNumber_12 (fun r_41102 L_41100 f_41101 H locs hr_41102 Y => ?_)
    obtain ⟨er_41102, I⟩ := hr_41102
    exact prI (post := fun r L1 f1 => bn 0 1 r ∧ SH (spC (RF 30 t) fc tc w q) nnC G ad L1 f1) S Y (nw_b (bn_w er_41102 (by decide))) (by decide) (by decide) hA1 ⟨bn_w er_41102 (by decide), I⟩ dX5_readNumber_15
set_option maxHeartbeats 4000000 in
set_option maxRecDepth 100000 in
theorem x_X5_readKnee {l : Launch} {G : GG}  {L : List Nat} {f : HF} {ad : Nat → Nat → Nat} {fc : Int × Int} {tc w : Nat → Int × Int} {q : Nat → (Nat → Int32) → Prop} {t : Nat} (I : SH (spC (RF 30 t) fc tc w q) nnC G ad L f) (hW : WBp w 8) (hT : WBp tc 4) (hQ : QIp q) (ht : t < 4) : PMi l yX5_readKnee cX5_readKnee 1 .boolean 2 0 0 G [.ref (ad 2 0)] L f (fun r L1 f1 => bn 0 1 r ∧ SH (spC (RF 30 t) fc tc w q) nnC G ad L1 f1) := by
  refine PMi.of (post := fun r L1 f1 => bn 0 1 r ∧ SH (spC (RF 30 t) fc tc w q) nnC G ad L1 f1) (own := RX5) (by decide) rfl (Nat.le_of_ble_eq_true rfl) (fun sz p e s m args below meth c A ls hA1 hname S Y hl => ?_)
  have hx := S.hx
  have hb := S.hb
  have hl : lv_has ls 1 [(0, .ref (ad 2 0))] := hl
  refine lv_aload_n hx hb dX5_readKnee_0 rfl (lv_at hl 0 rfl) ?_
  obtain ⟨v_41169, v_41171, v_41173, v_41175, v_41177, v_41179, v_41181, v_41183, v_41185, p_ad_2_0, b_41170, b_41172, b_41174, b_41176, b_41178, b_41180, b_41182, b_41184, b_41186⟩ := opnC_2r (j := 0) I (by decide)
  have p_ad_2_0 : pt L f (ad 2 0) (.inr (5, [.ref (ad 50 0), .ref (ad 51 0), .ref (ad 52 0), .ref (ad 53 0), .int v_41169, .int v_41171, .int v_41173, .int v_41175, .int v_41177, .int v_41179, .int v_41181, .ref (ad 30 t), .int v_41183, .int v_41185])) := p_ad_2_0
  refine pg_get S Y ok_X5 7 (by decide) kf5_52 (v := .int v_41175) p_ad_2_0 rfl dX5_readKnee_1 ?_
  refine lv_bipush (v := 20) hx hb dX5_readKnee_4 (by decide) ?_
  refine lv_icmp_eq (tgt := 24) hx hb dX5_readKnee_6 (by decide) (fun c_41187 => ?_) (fun c_41187 => ?_)
  · have B_41188 : bn 20 20 v_41175 := bn_w (bn_eq c_41187 (show bn 20 20 (20 : Int32) from bn_k (by decide))) (by decide)
    refine lv_aload_n hx hb dX5_readKnee_24 rfl (lv_at hl 0 rfl) ?_
    refine pg_get S Y ok_X5 11 (by decide) kf5_34 (v := .ref (ad 30 t)) p_ad_2_0 rfl dX5_readKnee_25 ?_
    refine lv_iconst (v := 3) hx hb dX5_readKnee_28 (by decide) ?_
    refine lv_aload_n hx hb dX5_readKnee_29 rfl (lv_at hl 0 rfl) ?_
    refine pg_get S Y ok_X5 7 (by decide) kf5_52 (v := .int v_41175) p_ad_2_0 rfl dX5_readKnee_30 ?_
    refine lv_bipush (v := 20) hx hb dX5_readKnee_33 (by decide) ?_
    refine lv_icmp_ne (tgt := 42) hx hb dX5_readKnee_35 (by decide) (fun h => absurd c_41187 h) (fun _ => ?_)
    refine lv_iconst (v := 0) hx hb dX5_readKnee_38 (by decide) ?_
    refine lv_goto (tgt := 43) hx hb dX5_readKnee_39 (by decide) ?_
    refine cVv (As := [.int 3, .int 0]) (rest := []) S Y (x_X7_setClause (l := l) (j := t) I hW hT hQ (show t < 8 from by omega)) cw_X7_setClause km5_163 (I.opo (k := 30) (j := t) (show t < 8 from by omega) rfl).choose_spec.1 ok_X7.1 rfl rfl ⟨Nat.le_of_ble_eq_true rfl, Nat.le_of_ble_eq_true rfl⟩ hl.1 rfl (Nat.le_of_ble_eq_true rfl) ⟨Nat.le_of_ble_eq_true rfl, Nat.le_of_ble_eq_true rfl⟩ dX5_readKnee_43 (fun L_41189 f_41190 H locs I Y => ?_)
    refine lv_aload_n hx hb dX5_readKnee_46 rfl (lv_at hl 0 rfl) ?_
    refine cVv (As := []) (rest := []) S Y (x_X5_step (l := l) I hW hT hQ) cw_X5_step km5_49 (I.opo (k := 2) (j := 0) (by decide) rfl).choose_spec.1 ok_X5.1 rfl rfl ⟨Nat.le_of_ble_eq_true rfl, Nat.le_of_ble_eq_true rfl⟩ hl.1 rfl (Nat.le_of_ble_eq_true rfl) ⟨Nat.le_of_ble_eq_true rfl, Nat.le_of_ble_eq_true rfl⟩ dX5_readKnee_47 (fun L_41191 f_41192 H locs I Y => ?_)
    refine lv_iconst (v := 1) hx hb dX5_readKnee_50 (by decide) ?_
    exact prI (post := fun r L1 f1 => bn 0 1 r ∧ SH (spC (RF 30 t) fc tc w q) nnC G ad L1 f1) S Y rfl (by decide) (by decide) hA1 ⟨bn_w (show bn 1 1 (1 : Int32) from bn_k (by decide)) (by decide), I⟩ dX5_readKnee_51
  · refine lv_aload_n hx hb dX5_readKnee_9 rfl (lv_at hl 0 rfl) ?_
    refine pg_get S Y ok_X5 7 (by decide) kf5_52 (v := .int v_41175) p_ad_2_0 rfl dX5_readKnee_10 ?_
    refine lv_bipush (v := 21) hx hb dX5_readKnee_13 (by decide) ?_
    refine lv_icmp_eq (tgt := 24) hx hb dX5_readKnee_15 (by decide) (fun c_41193 => ?_) (fun c_41193 => ?_)
    · have B_41194 : bn 21 21 v_41175 := bn_w (bn_eq c_41193 (show bn 21 21 (21 : Int32) from bn_k (by decide))) (by decide)
      refine lv_aload_n hx hb dX5_readKnee_24 rfl (lv_at hl 0 rfl) ?_
      refine pg_get S Y ok_X5 11 (by decide) kf5_34 (v := .ref (ad 30 t)) p_ad_2_0 rfl dX5_readKnee_25 ?_
      refine lv_iconst (v := 3) hx hb dX5_readKnee_28 (by decide) ?_
      refine lv_aload_n hx hb dX5_readKnee_29 rfl (lv_at hl 0 rfl) ?_
      refine pg_get S Y ok_X5 7 (by decide) kf5_52 (v := .int v_41175) p_ad_2_0 rfl dX5_readKnee_30 ?_
      refine lv_bipush (v := 20) hx hb dX5_readKnee_33 (by decide) ?_
      refine lv_icmp_ne (tgt := 42) hx hb dX5_readKnee_35 (by decide) (fun _ => ?_) (fun h => absurd h c_41187)
      refine lv_iconst (v := 1) hx hb dX5_readKnee_42 (by decide) ?_
      refine cVv (As := [.int 3, .int 1]) (rest := []) S Y (x_X7_setClause (l := l) (j := t) I hW hT hQ (show t < 8 from by omega)) cw_X7_setClause km5_163 (I.opo (k := 30) (j := t) (show t < 8 from by omega) rfl).choose_spec.1 ok_X7.1 rfl rfl ⟨Nat.le_of_ble_eq_true rfl, Nat.le_of_ble_eq_true rfl⟩ hl.1 rfl (Nat.le_of_ble_eq_true rfl) ⟨Nat.le_of_ble_eq_true rfl, Nat.le_of_ble_eq_true rfl⟩ dX5_readKnee_43 (fun L_41195 f_41196 H locs I Y => ?_)
      refine lv_aload_n hx hb dX5_readKnee_46 rfl (lv_at hl 0 rfl) ?_
      refine cVv (As := []) (rest := []) S Y (x_X5_step (l := l) I hW hT hQ) cw_X5_step km5_49 (I.opo (k := 2) (j := 0) (by decide) rfl).choose_spec.1 ok_X5.1 rfl rfl ⟨Nat.le_of_ble_eq_true rfl, Nat.le_of_ble_eq_true rfl⟩ hl.1 rfl (Nat.le_of_ble_eq_true rfl) ⟨Nat.le_of_ble_eq_true rfl, Nat.le_of_ble_eq_true rfl⟩ dX5_readKnee_47 (fun L_41197 f_41198 H locs I Y => ?_)
      refine lv_iconst (v := 1) hx hb dX5_readKnee_50 (by decide) ?_
      exact prI (post := fun r L1 f1 => bn 0 1 r ∧ SH (spC (RF 30 t) fc tc w q) nnC G ad L1 f1) S Y rfl (by decide) (by decide) hA1 ⟨bn_w (show bn 1 1 (1 : Int32) from bn_k (by decide)) (by decide), I⟩ dX5_readKnee_51
    · refine lv_aload_n hx hb dX5_readKnee_18 rfl (lv_at hl 0 rfl) ?_
      refine lv_iconst (v := 1) hx hb dX5_readKnee_19 (by decide) ?_
      refine cVi (As := [.int 1]) (rest := []) S Y (x_X5_fail (l := l) I hW hT hQ) cw_X5_fail km5_121 p_ad_2_0 ok_X5.1 rfl rfl ⟨Nat.le_of_ble_eq_true rfl, Nat.le_of_ble_eq_true rfl⟩ hl.1 rfl (Nat.le_of_ble_eq_true rfl) ⟨Nat.le_of_ble_eq_true rfl, Nat.le_of_ble_eq_true rfl⟩ dX5_readKnee_20 (fun r_41201 L_41199 f_41200 H locs hr_41201 Y => ?_)
      obtain ⟨er_41201, I⟩ := hr_41201
      exact prI (post := fun r L1 f1 => bn 0 1 r ∧ SH (spC (RF 30 t) fc tc w q) nnC G ad L1 f1) S Y (nw_b (bn_w er_41201 (by decide))) (by decide) (by decide) hA1 ⟨bn_w er_41201 (by decide), I⟩ dX5_readKnee_23
set_option maxHeartbeats 4000000 in
set_option maxRecDepth 100000 in
theorem x_X5_readDeed {l : Launch} {G : GG}  {L : List Nat} {f : HF} {ad : Nat → Nat → Nat} {fc : Int × Int} {tc w : Nat → Int × Int} {q : Nat → (Nat → Int32) → Prop} {t : Nat} {i1 : Int32} (I : SH (spC (RF 30 t) fc tc w q) nnC G ad L f) (hW : WBp w 8) (hT : WBp tc 4) (hQ : QIp q) (ht : t < 4) : PMi l yX5_readDeed cX5_readDeed 2 .boolean 3 0 0 G [.ref (ad 2 0), .int i1] L f (fun r L1 f1 => bn 0 1 r ∧ SH (spC (RF 30 t) fc tc w q) nnC G ad L1 f1) := by
  refine PMi.of (post := fun r L1 f1 => bn 0 1 r ∧ SH (spC (RF 30 t) fc tc w q) nnC G ad L1 f1) (own := RX5) (by decide) rfl (Nat.le_of_ble_eq_true rfl) (fun sz p e s m args below meth c A ls hA1 hname S Y hl => ?_)
  have hx := S.hx
  have hb := S.hb
  have hl : lv_has ls 2 [(0, .ref (ad 2 0)), (1, .int i1)] := hl
  refine lv_iload_n hx hb dX5_readDeed_0 rfl (lv_at hl 1 rfl) ?_
  rcases sw_3_9 i1 with h_41336 | h_41336 | h_41336 | h_41336 | h_41336 | h_41336 | h_41336 | h_41336
  · refine lv_fold (z := 3) h_41336 ?_
    refine lv_tableIn (off := 43) (tgt := 44) hx hb dX5_readDeed_1 (by decide) (by decide) (by decide) (by decide) ?_
    refine lv_aload_n hx hb dX5_readDeed_44 rfl (lv_at hl 0 rfl) ?_
    refine lv_iconst (v := 1) hx hb dX5_readDeed_45 (by decide) ?_
    refine lv_iconst (v := 0) hx hb dX5_readDeed_46 (by decide) ?_
    refine lv_bipush (v := 9) hx hb dX5_readDeed_47 (by decide) ?_
    refine cVi (As := [.int 1, .int 0, .int 9]) (rest := []) S Y (x_X5_readNumber (l := l) (t := t) I hW hT hQ ht) cw_X5_readNumber km5_154 (I.opo (k := 2) (j := 0) (by decide) rfl).choose_spec.1 ok_X5.1 rfl rfl ⟨Nat.le_of_ble_eq_true rfl, Nat.le_of_ble_eq_true rfl⟩ hl.1 rfl (Nat.le_of_ble_eq_true rfl) ⟨Nat.le_of_ble_eq_true rfl, Nat.le_of_ble_eq_true rfl⟩ dX5_readDeed_49 (fun r_41339 L_41337 f_41338 H locs hr_41339 Y => ?_)
    obtain ⟨er_41339, I⟩ := hr_41339
    refine lv_if_eq (tgt := 79) hx hb dX5_readDeed_52 (by decide) (fun c_41340 => ?_) (fun c_41340 => ?_)
    · have B_41341 : bn 0 0 r_41339 := bn_w (bn_eq c_41340 (show bn 0 0 (0 : Int32) from bn_k (by decide))) (by decide)
      refine lv_iconst (v := 0) hx hb dX5_readDeed_79 (by decide) ?_
      exact prI (post := fun r L1 f1 => bn 0 1 r ∧ SH (spC (RF 30 t) fc tc w q) nnC G ad L1 f1) S Y rfl (by decide) (by decide) hA1 ⟨bn_w (show bn 0 0 (0 : Int32) from bn_k (by decide)) (by decide), I⟩ dX5_readDeed_80
    · have B_41342 : bn 1 1 r_41339 := bn_w (bn_nel c_41340 er_41339 (show bn 0 0 (0 : Int32) from bn_k (by decide))) (by decide)
      refine lv_aload_n hx hb dX5_readDeed_55 rfl (lv_at hl 0 rfl) ?_
      refine lv_bipush (v := 12) hx hb dX5_readDeed_56 (by decide) ?_
      refine cVi (As := [.int 12]) (rest := []) S Y (x_X5_expect (l := l) I hW hT hQ) cw_X5_expect km5_140 (I.opo (k := 2) (j := 0) (by decide) rfl).choose_spec.1 ok_X5.1 rfl rfl ⟨Nat.le_of_ble_eq_true rfl, Nat.le_of_ble_eq_true rfl⟩ hl.1 rfl (Nat.le_of_ble_eq_true rfl) ⟨Nat.le_of_ble_eq_true rfl, Nat.le_of_ble_eq_true rfl⟩ dX5_readDeed_58 (fun r_41345 L_41343 f_41344 H locs hr_41345 Y => ?_)
      obtain ⟨er_41345, I⟩ := hr_41345
      refine lv_if_eq (tgt := 79) hx hb dX5_readDeed_61 (by decide) (fun c_41346 => ?_) (fun c_41346 => ?_)
      · have B_41347 : bn 0 0 r_41345 := bn_w (bn_eq c_41346 (show bn 0 0 (0 : Int32) from bn_k (by decide))) (by decide)
        refine lv_iconst (v := 0) hx hb dX5_readDeed_79 (by decide) ?_
        exact prI (post := fun r L1 f1 => bn 0 1 r ∧ SH (spC (RF 30 t) fc tc w q) nnC G ad L1 f1) S Y rfl (by decide) (by decide) hA1 ⟨bn_w (show bn 0 0 (0 : Int32) from bn_k (by decide)) (by decide), I⟩ dX5_readDeed_80
      · have B_41348 : bn 1 1 r_41345 := bn_w (bn_nel c_41346 er_41345 (show bn 0 0 (0 : Int32) from bn_k (by decide))) (by decide)
        refine lv_aload_n hx hb dX5_readDeed_64 rfl (lv_at hl 0 rfl) ?_
        refine lv_iconst (v := 2) hx hb dX5_readDeed_65 (by decide) ?_
        refine lv_iconst (v := 0) hx hb dX5_readDeed_66 (by decide) ?_
        refine lv_bipush (v := 99) hx hb dX5_readDeed_67 (by decide) ?_
        refine cVi (As := [.int 2, .int 0, .int 99]) (rest := []) S Y (x_X5_readNumber (l := l) (t := t) I hW hT hQ ht) cw_X5_readNumber km5_154 (I.opo (k := 2) (j := 0) (by decide) rfl).choose_spec.1 ok_X5.1 rfl rfl ⟨Nat.le_of_ble_eq_true rfl, Nat.le_of_ble_eq_true rfl⟩ hl.1 rfl (Nat.le_of_ble_eq_true rfl) ⟨Nat.le_of_ble_eq_true rfl, Nat.le_of_ble_eq_true rfl⟩ dX5_readDeed_69 (fun r_41351 L_41349 f_41350 H locs hr_41351 Y => ?_)
        obtain ⟨er_41351, I⟩ := hr_41351
        refine lv_if_eq (tgt := 79) hx hb dX5_readDeed_72 (by decide) (fun c_41352 => ?_) (fun c_41352 => ?_)
        · have B_41353 : bn 0 0 r_41351 := bn_w (bn_eq c_41352 (show bn 0 0 (0 : Int32) from bn_k (by decide))) (by decide)
          refine lv_iconst (v := 0) hx hb dX5_readDeed_79 (by decide) ?_
          exact prI (post := fun r L1 f1 => bn 0 1 r ∧ SH (spC (RF 30 t) fc tc w q) nnC G ad L1 f1) S Y rfl (by decide) (by decide) hA1 ⟨bn_w (show bn 0 0 (0 : Int32) from bn_k (by decide)) (by decide), I⟩ dX5_readDeed_80
        · have B_41354 : bn 1 1 r_41351 := bn_w (bn_nel c_41352 er_41351 (show bn 0 0 (0 : Int32) from bn_k (by decide))) (by decide)
          refine lv_iconst (v := 1) hx hb dX5_readDeed_75 (by decide) ?_
          refine lv_goto (tgt := 80) hx hb dX5_readDeed_76 (by decide) ?_
          exact prI (post := fun r L1 f1 => bn 0 1 r ∧ SH (spC (RF 30 t) fc tc w q) nnC G ad L1 f1) S Y rfl (by decide) (by decide) hA1 ⟨bn_w (show bn 1 1 (1 : Int32) from bn_k (by decide)) (by decide), I⟩ dX5_readDeed_80
  · refine lv_fold (z := 4) h_41336 ?_
    refine lv_tableIn (off := 80) (tgt := 81) hx hb dX5_readDeed_1 (by decide) (by decide) (by decide) (by decide) ?_
    refine lv_aload_n hx hb dX5_readDeed_81 rfl (lv_at hl 0 rfl) ?_
    refine lv_iconst (v := 1) hx hb dX5_readDeed_82 (by decide) ?_
    refine lv_iconst (v := 0) hx hb dX5_readDeed_83 (by decide) ?_
    refine lv_iconst (v := 5) hx hb dX5_readDeed_84 (by decide) ?_
    refine cVi (As := [.int 1, .int 0, .int 5]) (rest := []) S Y (x_X5_readNumber (l := l) (t := t) I hW hT hQ ht) cw_X5_readNumber km5_154 (I.opo (k := 2) (j := 0) (by decide) rfl).choose_spec.1 ok_X5.1 rfl rfl ⟨Nat.le_of_ble_eq_true rfl, Nat.le_of_ble_eq_true rfl⟩ hl.1 rfl (Nat.le_of_ble_eq_true rfl) ⟨Nat.le_of_ble_eq_true rfl, Nat.le_of_ble_eq_true rfl⟩ dX5_readDeed_85 (fun r_41357 L_41355 f_41356 H locs hr_41357 Y => ?_)
    obtain ⟨er_41357, I⟩ := hr_41357
    refine lv_if_eq (tgt := 132) hx hb dX5_readDeed_88 (by decide) (fun c_41358 => ?_) (fun c_41358 => ?_)
    · have B_41359 : bn 0 0 r_41357 := bn_w (bn_eq c_41358 (show bn 0 0 (0 : Int32) from bn_k (by decide))) (by decide)
      refine lv_iconst (v := 0) hx hb dX5_readDeed_132 (by decide) ?_
      exact prI (post := fun r L1 f1 => bn 0 1 r ∧ SH (spC (RF 30 t) fc tc w q) nnC G ad L1 f1) S Y rfl (by decide) (by decide) hA1 ⟨bn_w (show bn 0 0 (0 : Int32) from bn_k (by decide)) (by decide), I⟩ dX5_readDeed_133
    · have B_41360 : bn 1 1 r_41357 := bn_w (bn_nel c_41358 er_41357 (show bn 0 0 (0 : Int32) from bn_k (by decide))) (by decide)
      refine lv_aload_n hx hb dX5_readDeed_91 rfl (lv_at hl 0 rfl) ?_
      refine lv_bipush (v := 19) hx hb dX5_readDeed_92 (by decide) ?_
      refine cVi (As := [.int 19]) (rest := []) S Y (x_X5_expect (l := l) I hW hT hQ) cw_X5_expect km5_140 (I.opo (k := 2) (j := 0) (by decide) rfl).choose_spec.1 ok_X5.1 rfl rfl ⟨Nat.le_of_ble_eq_true rfl, Nat.le_of_ble_eq_true rfl⟩ hl.1 rfl (Nat.le_of_ble_eq_true rfl) ⟨Nat.le_of_ble_eq_true rfl, Nat.le_of_ble_eq_true rfl⟩ dX5_readDeed_94 (fun r_41363 L_41361 f_41362 H locs hr_41363 Y => ?_)
      obtain ⟨er_41363, I⟩ := hr_41363
      refine lv_if_eq (tgt := 132) hx hb dX5_readDeed_97 (by decide) (fun c_41364 => ?_) (fun c_41364 => ?_)
      · have B_41365 : bn 0 0 r_41363 := bn_w (bn_eq c_41364 (show bn 0 0 (0 : Int32) from bn_k (by decide))) (by decide)
        refine lv_iconst (v := 0) hx hb dX5_readDeed_132 (by decide) ?_
        exact prI (post := fun r L1 f1 => bn 0 1 r ∧ SH (spC (RF 30 t) fc tc w q) nnC G ad L1 f1) S Y rfl (by decide) (by decide) hA1 ⟨bn_w (show bn 0 0 (0 : Int32) from bn_k (by decide)) (by decide), I⟩ dX5_readDeed_133
      · have B_41366 : bn 1 1 r_41363 := bn_w (bn_nel c_41364 er_41363 (show bn 0 0 (0 : Int32) from bn_k (by decide))) (by decide)
        refine lv_aload_n hx hb dX5_readDeed_100 rfl (lv_at hl 0 rfl) ?_
        refine lv_iconst (v := 2) hx hb dX5_readDeed_101 (by decide) ?_
        refine lv_iconst (v := 0) hx hb dX5_readDeed_102 (by decide) ?_
        refine lv_iconst (v := 5) hx hb dX5_readDeed_103 (by decide) ?_
        refine cVi (As := [.int 2, .int 0, .int 5]) (rest := []) S Y (x_X5_readNumber (l := l) (t := t) I hW hT hQ ht) cw_X5_readNumber km5_154 (I.opo (k := 2) (j := 0) (by decide) rfl).choose_spec.1 ok_X5.1 rfl rfl ⟨Nat.le_of_ble_eq_true rfl, Nat.le_of_ble_eq_true rfl⟩ hl.1 rfl (Nat.le_of_ble_eq_true rfl) ⟨Nat.le_of_ble_eq_true rfl, Nat.le_of_ble_eq_true rfl⟩ dX5_readDeed_104 (fun r_41369 L_41367 f_41368 H locs hr_41369 Y => ?_)
        obtain ⟨er_41369, I⟩ := hr_41369
        refine lv_if_eq (tgt := 132) hx hb dX5_readDeed_107 (by decide) (fun c_41370 => ?_) (fun c_41370 => ?_)
        · have B_41371 : bn 0 0 r_41369 := bn_w (bn_eq c_41370 (show bn 0 0 (0 : Int32) from bn_k (by decide))) (by decide)
          refine lv_iconst (v := 0) hx hb dX5_readDeed_132 (by decide) ?_
          exact prI (post := fun r L1 f1 => bn 0 1 r ∧ SH (spC (RF 30 t) fc tc w q) nnC G ad L1 f1) S Y rfl (by decide) (by decide) hA1 ⟨bn_w (show bn 0 0 (0 : Int32) from bn_k (by decide)) (by decide), I⟩ dX5_readDeed_133
        · have B_41372 : bn 1 1 r_41369 := bn_w (bn_nel c_41370 er_41369 (show bn 0 0 (0 : Int32) from bn_k (by decide))) (by decide)
          refine lv_aload_n hx hb dX5_readDeed_110 rfl (lv_at hl 0 rfl) ?_
          refine cVi (As := []) (rest := []) S Y (x_X5_readKnee (l := l) (t := t) I hW hT hQ ht) cw_X5_readKnee km5_157 (I.opo (k := 2) (j := 0) (by decide) rfl).choose_spec.1 ok_X5.1 rfl rfl ⟨Nat.le_of_ble_eq_true rfl, Nat.le_of_ble_eq_true rfl⟩ hl.1 rfl (Nat.le_of_ble_eq_true rfl) ⟨Nat.le_of_ble_eq_true rfl, Nat.le_of_ble_eq_true rfl⟩ dX5_readDeed_111 (fun r_41375 L_41373 f_41374 H locs hr_41375 Y => ?_)
          obtain ⟨er_41375, I⟩ := hr_41375
          refine lv_if_eq (tgt := 132) hx hb dX5_readDeed_114 (by decide) (fun c_41376 => ?_) (fun c_41376 => ?_)
          · have B_41377 : bn 0 0 r_41375 := bn_w (bn_eq c_41376 (show bn 0 0 (0 : Int32) from bn_k (by decide))) (by decide)
            refine lv_iconst (v := 0) hx hb dX5_readDeed_132 (by decide) ?_
            exact prI (post := fun r L1 f1 => bn 0 1 r ∧ SH (spC (RF 30 t) fc tc w q) nnC G ad L1 f1) S Y rfl (by decide) (by decide) hA1 ⟨bn_w (show bn 0 0 (0 : Int32) from bn_k (by decide)) (by decide), I⟩ dX5_readDeed_133
          · have B_41378 : bn 1 1 r_41375 := bn_w (bn_nel c_41376 er_41375 (show bn 0 0 (0 : Int32) from bn_k (by decide))) (by decide)
            refine lv_aload_n hx hb dX5_readDeed_117 rfl (lv_at hl 0 rfl) ?_
            refine lv_iconst (v := 4) hx hb dX5_readDeed_118 (by decide) ?_
            refine lv_iconst (v := 1) hx hb dX5_readDeed_119 (by decide) ?_
            refine lv_bipush (v := 9) hx hb dX5_readDeed_120 (by decide) ?_
            refine cVi (As := [.int 4, .int 1, .int 9]) (rest := []) S Y (x_X5_readNumber (l := l) (t := t) I hW hT hQ ht) cw_X5_readNumber km5_154 (I.opo (k := 2) (j := 0) (by decide) rfl).choose_spec.1 ok_X5.1 rfl rfl ⟨Nat.le_of_ble_eq_true rfl, Nat.le_of_ble_eq_true rfl⟩ hl.1 rfl (Nat.le_of_ble_eq_true rfl) ⟨Nat.le_of_ble_eq_true rfl, Nat.le_of_ble_eq_true rfl⟩ dX5_readDeed_122 (fun r_41381 L_41379 f_41380 H locs hr_41381 Y => ?_)
            obtain ⟨er_41381, I⟩ := hr_41381
            refine lv_if_eq (tgt := 132) hx hb dX5_readDeed_125 (by decide) (fun c_41382 => ?_) (fun c_41382 => ?_)
            · have B_41383 : bn 0 0 r_41381 := bn_w (bn_eq c_41382 (show bn 0 0 (0 : Int32) from bn_k (by decide))) (by decide)
              refine lv_iconst (v := 0) hx hb dX5_readDeed_132 (by decide) ?_
              exact prI (post := fun r L1 f1 => bn 0 1 r ∧ SH (spC (RF 30 t) fc tc w q) nnC G ad L1 f1) S Y rfl (by decide) (by decide) hA1 ⟨bn_w (show bn 0 0 (0 : Int32) from bn_k (by decide)) (by decide), I⟩ dX5_readDeed_133
            · have B_41384 : bn 1 1 r_41381 := bn_w (bn_nel c_41382 er_41381 (show bn 0 0 (0 : Int32) from bn_k (by decide))) (by decide)
              refine lv_iconst (v := 1) hx hb dX5_readDeed_128 (by decide) ?_
              refine lv_goto (tgt := 133) hx hb dX5_readDeed_129 (by decide) ?_
              exact prI (post := fun r L1 f1 => bn 0 1 r ∧ SH (spC (RF 30 t) fc tc w q) nnC G ad L1 f1) S Y rfl (by decide) (by decide) hA1 ⟨bn_w (show bn 1 1 (1 : Int32) from bn_k (by decide)) (by decide), I⟩ dX5_readDeed_133
  · refine lv_fold (z := 5) h_41336 ?_
    refine lv_tableIn (off := 133) (tgt := 134) hx hb dX5_readDeed_1 (by decide) (by decide) (by decide) (by decide) ?_
    refine lv_aload_n hx hb dX5_readDeed_134 rfl (lv_at hl 0 rfl) ?_
    refine lv_iconst (v := 1) hx hb dX5_readDeed_135 (by decide) ?_
    refine lv_iconst (v := 0) hx hb dX5_readDeed_136 (by decide) ?_
    refine lv_bipush (v := 13) hx hb dX5_readDeed_137 (by decide) ?_
    refine cVi (As := [.int 1, .int 0, .int 13]) (rest := []) S Y (x_X5_readNumber (l := l) (t := t) I hW hT hQ ht) cw_X5_readNumber km5_154 (I.opo (k := 2) (j := 0) (by decide) rfl).choose_spec.1 ok_X5.1 rfl rfl ⟨Nat.le_of_ble_eq_true rfl, Nat.le_of_ble_eq_true rfl⟩ hl.1 rfl (Nat.le_of_ble_eq_true rfl) ⟨Nat.le_of_ble_eq_true rfl, Nat.le_of_ble_eq_true rfl⟩ dX5_readDeed_139 (fun r_41387 L_41385 f_41386 H locs hr_41387 Y => ?_)
    obtain ⟨er_41387, I⟩ := hr_41387
    exact prI (post := fun r L1 f1 => bn 0 1 r ∧ SH (spC (RF 30 t) fc tc w q) nnC G ad L1 f1) S Y (nw_b (bn_w er_41387 (by decide))) (by decide) (by decide) hA1 ⟨bn_w er_41387 (by decide), I⟩ dX5_readDeed_142
  · refine lv_fold (z := 6) h_41336 ?_
    refine lv_tableIn (off := 133) (tgt := 134) hx hb dX5_readDeed_1 (by decide) (by decide) (by decide) (by decide) ?_
    refine lv_aload_n hx hb dX5_readDeed_134 rfl (lv_at hl 0 rfl) ?_
    refine lv_iconst (v := 1) hx hb dX5_readDeed_135 (by decide) ?_
    refine lv_iconst (v := 0) hx hb dX5_readDeed_136 (by decide) ?_
    refine lv_bipush (v := 13) hx hb dX5_readDeed_137 (by decide) ?_
    refine cVi (As := [.int 1, .int 0, .int 13]) (rest := []) S Y (x_X5_readNumber (l := l) (t := t) I hW hT hQ ht) cw_X5_readNumber km5_154 (I.opo (k := 2) (j := 0) (by decide) rfl).choose_spec.1 ok_X5.1 rfl rfl ⟨Nat.le_of_ble_eq_true rfl, Nat.le_of_ble_eq_true rfl⟩ hl.1 rfl (Nat.le_of_ble_eq_true rfl) ⟨Nat.le_of_ble_eq_true rfl, Nat.le_of_ble_eq_true rfl⟩ dX5_readDeed_139 (fun r_41390 L_41388 f_41389 H locs hr_41390 Y => ?_)
    obtain ⟨er_41390, I⟩ := hr_41390
    exact prI (post := fun r L1 f1 => bn 0 1 r ∧ SH (spC (RF 30 t) fc tc w q) nnC G ad L1 f1) S Y (nw_b (bn_w er_41390 (by decide))) (by decide) (by decide) hA1 ⟨bn_w er_41390 (by decide), I⟩ dX5_readDeed_142
  · refine lv_fold (z := 7) h_41336 ?_
    refine lv_tableIn (off := 151) (tgt := 152) hx hb dX5_readDeed_1 (by decide) (by decide) (by decide) (by decide) ?_
    refine lv_aload_n hx hb dX5_readDeed_152 rfl (lv_at hl 0 rfl) ?_
    refine lv_iconst (v := 1) hx hb dX5_readDeed_153 (by decide) ?_
    refine lv_iconst (v := 0) hx hb dX5_readDeed_154 (by decide) ?_
    refine lv_iconst (v := 5) hx hb dX5_readDeed_155 (by decide) ?_
    refine cVi (As := [.int 1, .int 0, .int 5]) (rest := []) S Y (x_X5_readNumber (l := l) (t := t) I hW hT hQ ht) cw_X5_readNumber km5_154 (I.opo (k := 2) (j := 0) (by decide) rfl).choose_spec.1 ok_X5.1 rfl rfl ⟨Nat.le_of_ble_eq_true rfl, Nat.le_of_ble_eq_true rfl⟩ hl.1 rfl (Nat.le_of_ble_eq_true rfl) ⟨Nat.le_of_ble_eq_true rfl, Nat.le_of_ble_eq_true rfl⟩ dX5_readDeed_156 (fun r_41393 L_41391 f_41392 H locs hr_41393 Y => ?_)
    obtain ⟨er_41393, I⟩ := hr_41393
    exact prI (post := fun r L1 f1 => bn 0 1 r ∧ SH (spC (RF 30 t) fc tc w q) nnC G ad L1 f1) S Y (nw_b (bn_w er_41393 (by decide))) (by decide) (by decide) hA1 ⟨bn_w er_41393 (by decide), I⟩ dX5_readDeed_159
  · refine lv_fold (z := 8) h_41336 ?_
    refine lv_tableIn (off := 151) (tgt := 152) hx hb dX5_readDeed_1 (by decide) (by decide) (by decide) (by decide) ?_
    refine lv_aload_n hx hb dX5_readDeed_152 rfl (lv_at hl 0 rfl) ?_
    refine lv_iconst (v := 1) hx hb dX5_readDeed_153 (by decide) ?_
    refine lv_iconst (v := 0) hx hb dX5_readDeed_154 (by decide) ?_
    refine lv_iconst (v := 5) hx hb dX5_readDeed_155 (by decide) ?_
    refine cVi (As := [.int 1, .int 0, .int 5]) (rest := []) S Y (x_X5_readNumber (l := l) (t := t) I hW hT hQ ht) cw_X5_readNumber km5_154 (I.opo (k := 2) (j := 0) (by decide) rfl).choose_spec.1 ok_X5.1 rfl rfl ⟨Nat.le_of_ble_eq_true rfl, Nat.le_of_ble_eq_true rfl⟩ hl.1 rfl (Nat.le_of_ble_eq_true rfl) ⟨Nat.le_of_ble_eq_true rfl, Nat.le_of_ble_eq_true rfl⟩ dX5_readDeed_156 (fun r_41396 L_41394 f_41395 H locs hr_41396 Y => ?_)
    obtain ⟨er_41396, I⟩ := hr_41396
    exact prI (post := fun r L1 f1 => bn 0 1 r ∧ SH (spC (RF 30 t) fc tc w q) nnC G ad L1 f1) S Y (nw_b (bn_w er_41396 (by decide))) (by decide) (by decide) hA1 ⟨bn_w er_41396 (by decide), I⟩ dX5_readDeed_159
  · refine lv_fold (z := 9) h_41336 ?_
    refine lv_tableIn (off := 142) (tgt := 143) hx hb dX5_readDeed_1 (by decide) (by decide) (by decide) (by decide) ?_
    refine lv_aload_n hx hb dX5_readDeed_143 rfl (lv_at hl 0 rfl) ?_
    refine lv_iconst (v := 1) hx hb dX5_readDeed_144 (by decide) ?_
    refine lv_iconst (v := 1) hx hb dX5_readDeed_145 (by decide) ?_
    refine lv_bipush (v := 60) hx hb dX5_readDeed_146 (by decide) ?_
    refine cVi (As := [.int 1, .int 1, .int 60]) (rest := []) S Y (x_X5_readNumber (l := l) (t := t) I hW hT hQ ht) cw_X5_readNumber km5_154 (I.opo (k := 2) (j := 0) (by decide) rfl).choose_spec.1 ok_X5.1 rfl rfl ⟨Nat.le_of_ble_eq_true rfl, Nat.le_of_ble_eq_true rfl⟩ hl.1 rfl (Nat.le_of_ble_eq_true rfl) ⟨Nat.le_of_ble_eq_true rfl, Nat.le_of_ble_eq_true rfl⟩ dX5_readDeed_148 (fun r_41399 L_41397 f_41398 H locs hr_41399 Y => ?_)
    obtain ⟨er_41399, I⟩ := hr_41399
    exact prI (post := fun r L1 f1 => bn 0 1 r ∧ SH (spC (RF 30 t) fc tc w q) nnC G ad L1 f1) S Y (nw_b (bn_w er_41399 (by decide))) (by decide) (by decide) hA1 ⟨bn_w er_41399 (by decide), I⟩ dX5_readDeed_151
  · refine lv_tableOut (tgt := 152) hx hb dX5_readDeed_1 h_41336 (by decide) ?_
    refine lv_aload_n hx hb dX5_readDeed_152 rfl (lv_at hl 0 rfl) ?_
    refine lv_iconst (v := 1) hx hb dX5_readDeed_153 (by decide) ?_
    refine lv_iconst (v := 0) hx hb dX5_readDeed_154 (by decide) ?_
    refine lv_iconst (v := 5) hx hb dX5_readDeed_155 (by decide) ?_
    refine cVi (As := [.int 1, .int 0, .int 5]) (rest := []) S Y (x_X5_readNumber (l := l) (t := t) I hW hT hQ ht) cw_X5_readNumber km5_154 (I.opo (k := 2) (j := 0) (by decide) rfl).choose_spec.1 ok_X5.1 rfl rfl ⟨Nat.le_of_ble_eq_true rfl, Nat.le_of_ble_eq_true rfl⟩ hl.1 rfl (Nat.le_of_ble_eq_true rfl) ⟨Nat.le_of_ble_eq_true rfl, Nat.le_of_ble_eq_true rfl⟩ dX5_readDeed_156 (fun r_41402 L_41400 f_41401 H locs hr_41402 Y => ?_)
    obtain ⟨er_41402, I⟩ := hr_41402
    exact prI (post := fun r L1 f1 => bn 0 1 r ∧ SH (spC (RF 30 t) fc tc w q) nnC G ad L1 f1) S Y (nw_b (bn_w er_41402 (by decide))) (by decide) (by decide) hA1 ⟨bn_w er_41402 (by decide), I⟩ dX5_readDeed_159
set_option maxHeartbeats 4000000 in
set_option maxRecDepth 100000 in
theorem x_X5_readPlainNumber {l : Launch} {G : GG}  {L : List Nat} {f : HF} {ad : Nat → Nat → Nat} {fc : Int × Int} {tc w : Nat → Int × Int} {q : Nat → (Nat → Int32) → Prop} {t : Nat} (I : SH (spC (RF 30 t) fc tc w q) nnC G ad L f) (hW : WBp w 8) (hT : WBp tc 4) (hQ : QIp q) (ht : t < 4) : PMi l yX5_readPlainNumber cX5_readPlainNumber 1 .boolean 2 0 0 G [.ref (ad 2 0)] L f (fun r L1 f1 => bn 0 1 r ∧ SH (spC (RF 30 t) fc tc w q) nnC G ad L1 f1) := by
  refine PMi.of (post := fun r L1 f1 => bn 0 1 r ∧ SH (spC (RF 30 t) fc tc w q) nnC G ad L1 f1) (own := RX5) (by decide) rfl (Nat.le_of_ble_eq_true rfl) (fun sz p e s m args below meth c A ls hA1 hname S Y hl => ?_)
  have hx := S.hx
  have hb := S.hb
  have hl : lv_has ls 1 [(0, .ref (ad 2 0))] := hl
  refine lv_aload_n hx hb dX5_readPlainNumber_0 rfl (lv_at hl 0 rfl) ?_
  obtain ⟨v_41461, v_41463, v_41465, v_41467, v_41469, v_41471, v_41473, v_41475, v_41477, p_ad_2_0, b_41462, b_41464, b_41466, b_41468, b_41470, b_41472, b_41474, b_41476, b_41478⟩ := opnC_2r (j := 0) I (by decide)
  have p_ad_2_0 : pt L f (ad 2 0) (.inr (5, [.ref (ad 50 0), .ref (ad 51 0), .ref (ad 52 0), .ref (ad 53 0), .int v_41461, .int v_41463, .int v_41465, .int v_41467, .int v_41469, .int v_41471, .int v_41473, .ref (ad 30 t), .int v_41475, .int v_41477])) := p_ad_2_0
  refine pg_get S Y ok_X5 9 (by decide) kf5_118 (v := .int v_41471) p_ad_2_0 rfl dX5_readPlainNumber_1 ?_
  refine lv_sipush (v := 9999) hx hb dX5_readPlainNumber_4 (by decide) ?_
  refine lv_icmp_le (tgt := 16) hx hb dX5_readPlainNumber_7 (by decide) (fun c_41479 => ?_) (fun c_41479 => ?_)
  · have B_41480 : bn (-2147483648) 9999 v_41471 := bn_w (bn_lel c_41479 (bn_any v_41471) (show bn 9999 9999 (9999 : Int32) from bn_k (by decide))) (by decide)
    refine lv_aload_n hx hb dX5_readPlainNumber_16 rfl (lv_at hl 0 rfl) ?_
    refine pg_get S Y ok_X5 11 (by decide) kf5_34 (v := .ref (ad 30 t)) p_ad_2_0 rfl dX5_readPlainNumber_17 ?_
    refine lv_iconst (v := 0) hx hb dX5_readPlainNumber_20 (by decide) ?_
    refine lv_aload_n hx hb dX5_readPlainNumber_21 rfl (lv_at hl 0 rfl) ?_
    refine pg_get S Y ok_X5 9 (by decide) kf5_118 (v := .int v_41471) p_ad_2_0 rfl dX5_readPlainNumber_22 ?_
    refine cVi (As := [.int 0, .int v_41471]) (rest := []) S Y (x_X7_add (l := l) (j := t) I hW hT hQ (show t < 8 from by omega)) cw_X7_add km5_169 (I.opo (k := 30) (j := t) (show t < 8 from by omega) rfl).choose_spec.1 ok_X7.1 rfl rfl ⟨Nat.le_of_ble_eq_true rfl, Nat.le_of_ble_eq_true rfl⟩ hl.1 rfl (Nat.le_of_ble_eq_true rfl) ⟨Nat.le_of_ble_eq_true rfl, Nat.le_of_ble_eq_true rfl⟩ dX5_readPlainNumber_25 (fun r_41484 L_41482 f_41483 H locs I Y => ?_)
    refine lv_pop hx hb dX5_readPlainNumber_28 rfl ?_
    refine lv_aload_n hx hb dX5_readPlainNumber_29 rfl (lv_at hl 0 rfl) ?_
    refine cVv (As := []) (rest := []) S Y (x_X5_step (l := l) I hW hT hQ) cw_X5_step km5_49 (I.opo (k := 2) (j := 0) (by decide) rfl).choose_spec.1 ok_X5.1 rfl rfl ⟨Nat.le_of_ble_eq_true rfl, Nat.le_of_ble_eq_true rfl⟩ hl.1 rfl (Nat.le_of_ble_eq_true rfl) ⟨Nat.le_of_ble_eq_true rfl, Nat.le_of_ble_eq_true rfl⟩ dX5_readPlainNumber_30 (fun L_41485 f_41486 H locs I Y => ?_)
    refine lv_iconst (v := 1) hx hb dX5_readPlainNumber_33 (by decide) ?_
    exact prI (post := fun r L1 f1 => bn 0 1 r ∧ SH (spC (RF 30 t) fc tc w q) nnC G ad L1 f1) S Y rfl (by decide) (by decide) hA1 ⟨bn_w (show bn 1 1 (1 : Int32) from bn_k (by decide)) (by decide), I⟩ dX5_readPlainNumber_34
  · have B_41481 : bn 10000 2147483647 v_41471 := bn_w (bn_gtl c_41479 (bn_any v_41471) (show bn 9999 9999 (9999 : Int32) from bn_k (by decide))) (by decide)
    refine lv_aload_n hx hb dX5_readPlainNumber_10 rfl (lv_at hl 0 rfl) ?_
    refine lv_iconst (v := 2) hx hb dX5_readPlainNumber_11 (by decide) ?_
    refine cVi (As := [.int 2]) (rest := []) S Y (x_X5_fail (l := l) I hW hT hQ) cw_X5_fail km5_121 p_ad_2_0 ok_X5.1 rfl rfl ⟨Nat.le_of_ble_eq_true rfl, Nat.le_of_ble_eq_true rfl⟩ hl.1 rfl (Nat.le_of_ble_eq_true rfl) ⟨Nat.le_of_ble_eq_true rfl, Nat.le_of_ble_eq_true rfl⟩ dX5_readPlainNumber_12 (fun r_41489 L_41487 f_41488 H locs hr_41489 Y => ?_)
    obtain ⟨er_41489, I⟩ := hr_41489
    exact prI (post := fun r L1 f1 => bn 0 1 r ∧ SH (spC (RF 30 t) fc tc w q) nnC G ad L1 f1) S Y (nw_b (bn_w er_41489 (by decide))) (by decide) (by decide) hA1 ⟨bn_w er_41489 (by decide), I⟩ dX5_readPlainNumber_15
set_option maxHeartbeats 4000000 in
set_option maxRecDepth 100000 in
theorem x_X5_readName {l : Launch} {G : GG}  {L : List Nat} {f : HF} {ad : Nat → Nat → Nat} {fc : Int × Int} {tc w : Nat → Int × Int} {q : Nat → (Nat → Int32) → Prop} {t : Nat} (I : SH (spC (RF 30 t) fc tc w q) nnC G ad L f) (hW : WBp w 8) (hT : WBp tc 4) (hQ : QIp q) (ht : t < 4) : PMi l yX5_readName cX5_readName 1 .boolean 2 0 0 G [.ref (ad 2 0)] L f (fun r L1 f1 => bn 0 1 r ∧ SH (spC (RF 30 t) fc tc w q) nnC G ad L1 f1) := by
  refine PMi.of (post := fun r L1 f1 => bn 0 1 r ∧ SH (spC (RF 30 t) fc tc w q) nnC G ad L1 f1) (own := RX5) (by decide) rfl (Nat.le_of_ble_eq_true rfl) (fun sz p e s m args below meth c A ls hA1 hname S Y hl => ?_)
  have hx := S.hx
  have hb := S.hb
  have hl : lv_has ls 1 [(0, .ref (ad 2 0))] := hl
  refine lv_aload_n hx hb dX5_readName_0 rfl (lv_at hl 0 rfl) ?_
  obtain ⟨v_41562, v_41564, v_41566, v_41568, v_41570, v_41572, v_41574, v_41576, v_41578, p_ad_2_0, b_41563, b_41565, b_41567, b_41569, b_41571, b_41573, b_41575, b_41577, b_41579⟩ := opnC_2r (j := 0) I (by decide)
  have p_ad_2_0 : pt L f (ad 2 0) (.inr (5, [.ref (ad 50 0), .ref (ad 51 0), .ref (ad 52 0), .ref (ad 53 0), .int v_41562, .int v_41564, .int v_41566, .int v_41568, .int v_41570, .int v_41572, .int v_41574, .ref (ad 30 t), .int v_41576, .int v_41578])) := p_ad_2_0
  refine pg_get S Y ok_X5 10 (by decide) kf5_144 (v := .int v_41574) p_ad_2_0 rfl dX5_readName_1 ?_
  refine lv_iconst (v := 2) hx hb dX5_readName_4 (by decide) ?_
  refine lv_icmp_ne (tgt := 23) hx hb dX5_readName_5 (by decide) (fun c_41580 => ?_) (fun c_41580 => ?_)
  · refine lv_aload_n hx hb dX5_readName_23 rfl (lv_at hl 0 rfl) ?_
    refine pg_get S Y ok_X5 11 (by decide) kf5_34 (v := .ref (ad 30 t)) p_ad_2_0 rfl dX5_readName_24 ?_
    refine lv_iconst (v := 1) hx hb dX5_readName_27 (by decide) ?_
    refine lv_aload_n hx hb dX5_readName_28 rfl (lv_at hl 0 rfl) ?_
    refine pg_get S Y ok_X5 7 (by decide) kf5_52 (v := .int v_41568) p_ad_2_0 rfl dX5_readName_29 ?_
    refine cVi (As := [.int 1, .int v_41568]) (rest := []) S Y (x_X7_add (l := l) (j := t) I hW hT hQ (show t < 8 from by omega)) cw_X7_add km5_169 (I.opo (k := 30) (j := t) (show t < 8 from by omega) rfl).choose_spec.1 ok_X7.1 rfl rfl ⟨Nat.le_of_ble_eq_true rfl, Nat.le_of_ble_eq_true rfl⟩ hl.1 rfl (Nat.le_of_ble_eq_true rfl) ⟨Nat.le_of_ble_eq_true rfl, Nat.le_of_ble_eq_true rfl⟩ dX5_readName_32 (fun r_41584 L_41582 f_41583 H locs I Y => ?_)
    refine lv_pop hx hb dX5_readName_35 rfl ?_
    refine lv_aload_n hx hb dX5_readName_36 rfl (lv_at hl 0 rfl) ?_
    refine cVv (As := []) (rest := []) S Y (x_X5_step (l := l) I hW hT hQ) cw_X5_step km5_49 (I.opo (k := 2) (j := 0) (by decide) rfl).choose_spec.1 ok_X5.1 rfl rfl ⟨Nat.le_of_ble_eq_true rfl, Nat.le_of_ble_eq_true rfl⟩ hl.1 rfl (Nat.le_of_ble_eq_true rfl) ⟨Nat.le_of_ble_eq_true rfl, Nat.le_of_ble_eq_true rfl⟩ dX5_readName_37 (fun L_41585 f_41586 H locs I Y => ?_)
    refine lv_iconst (v := 1) hx hb dX5_readName_40 (by decide) ?_
    exact prI (post := fun r L1 f1 => bn 0 1 r ∧ SH (spC (RF 30 t) fc tc w q) nnC G ad L1 f1) S Y rfl (by decide) (by decide) hA1 ⟨bn_w (show bn 1 1 (1 : Int32) from bn_k (by decide)) (by decide), I⟩ dX5_readName_41
  · have B_41581 : bn 2 2 v_41574 := bn_w (bn_eq c_41580 (show bn 2 2 (2 : Int32) from bn_k (by decide))) (by decide)
    refine lv_aload_n hx hb dX5_readName_8 rfl (lv_at hl 0 rfl) ?_
    refine pg_get S Y ok_X5 7 (by decide) kf5_52 (v := .int v_41568) p_ad_2_0 rfl dX5_readName_9 ?_
    refine lv_bipush (v := 14) hx hb dX5_readName_12 (by decide) ?_
    refine lv_icmp_lt (tgt := 23) hx hb dX5_readName_14 (by decide) (fun c_41587 => ?_) (fun c_41587 => ?_)
    · have B_41588 : bn (-2147483648) 13 v_41568 := bn_w (bn_ltl c_41587 (bn_any v_41568) (show bn 14 14 (14 : Int32) from bn_k (by decide))) (by decide)
      refine lv_aload_n hx hb dX5_readName_23 rfl (lv_at hl 0 rfl) ?_
      refine pg_get S Y ok_X5 11 (by decide) kf5_34 (v := .ref (ad 30 t)) p_ad_2_0 rfl dX5_readName_24 ?_
      refine lv_iconst (v := 1) hx hb dX5_readName_27 (by decide) ?_
      refine lv_aload_n hx hb dX5_readName_28 rfl (lv_at hl 0 rfl) ?_
      refine pg_get S Y ok_X5 7 (by decide) kf5_52 (v := .int v_41568) p_ad_2_0 rfl dX5_readName_29 ?_
      refine cVi (As := [.int 1, .int v_41568]) (rest := []) S Y (x_X7_add (l := l) (j := t) I hW hT hQ (show t < 8 from by omega)) cw_X7_add km5_169 (I.opo (k := 30) (j := t) (show t < 8 from by omega) rfl).choose_spec.1 ok_X7.1 rfl rfl ⟨Nat.le_of_ble_eq_true rfl, Nat.le_of_ble_eq_true rfl⟩ hl.1 rfl (Nat.le_of_ble_eq_true rfl) ⟨Nat.le_of_ble_eq_true rfl, Nat.le_of_ble_eq_true rfl⟩ dX5_readName_32 (fun r_41592 L_41590 f_41591 H locs I Y => ?_)
      refine lv_pop hx hb dX5_readName_35 rfl ?_
      refine lv_aload_n hx hb dX5_readName_36 rfl (lv_at hl 0 rfl) ?_
      refine cVv (As := []) (rest := []) S Y (x_X5_step (l := l) I hW hT hQ) cw_X5_step km5_49 (I.opo (k := 2) (j := 0) (by decide) rfl).choose_spec.1 ok_X5.1 rfl rfl ⟨Nat.le_of_ble_eq_true rfl, Nat.le_of_ble_eq_true rfl⟩ hl.1 rfl (Nat.le_of_ble_eq_true rfl) ⟨Nat.le_of_ble_eq_true rfl, Nat.le_of_ble_eq_true rfl⟩ dX5_readName_37 (fun L_41593 f_41594 H locs I Y => ?_)
      refine lv_iconst (v := 1) hx hb dX5_readName_40 (by decide) ?_
      exact prI (post := fun r L1 f1 => bn 0 1 r ∧ SH (spC (RF 30 t) fc tc w q) nnC G ad L1 f1) S Y rfl (by decide) (by decide) hA1 ⟨bn_w (show bn 1 1 (1 : Int32) from bn_k (by decide)) (by decide), I⟩ dX5_readName_41
    · have B_41589 : bn 14 2147483647 v_41568 := bn_w (bn_gel c_41587 (bn_any v_41568) (show bn 14 14 (14 : Int32) from bn_k (by decide))) (by decide)
      refine lv_aload_n hx hb dX5_readName_17 rfl (lv_at hl 0 rfl) ?_
      refine lv_iconst (v := 5) hx hb dX5_readName_18 (by decide) ?_
      refine cVi (As := [.int 5]) (rest := []) S Y (x_X5_fail (l := l) I hW hT hQ) cw_X5_fail km5_121 p_ad_2_0 ok_X5.1 rfl rfl ⟨Nat.le_of_ble_eq_true rfl, Nat.le_of_ble_eq_true rfl⟩ hl.1 rfl (Nat.le_of_ble_eq_true rfl) ⟨Nat.le_of_ble_eq_true rfl, Nat.le_of_ble_eq_true rfl⟩ dX5_readName_19 (fun r_41597 L_41595 f_41596 H locs hr_41597 Y => ?_)
      obtain ⟨er_41597, I⟩ := hr_41597
      exact prI (post := fun r L1 f1 => bn 0 1 r ∧ SH (spC (RF 30 t) fc tc w q) nnC G ad L1 f1) S Y (nw_b (bn_w er_41597 (by decide))) (by decide) (by decide) hA1 ⟨bn_w er_41597 (by decide), I⟩ dX5_readName_22
