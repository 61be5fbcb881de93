theorem dX5_append_0 : decode cX5_append 0 = .ok (.bipush 24, 2) := by decide +kernel
theorem dX5_append_2 : decode cX5_append 2 = .ok (.istore_n 2, 1) := by decide +kernel
theorem dX5_append_3 : decode cX5_append 3 = .ok (.iload_n 2, 1) := by decide +kernel
theorem dX5_append_4 : decode cX5_append 4 = .ok (.ifCond .lt 45, 3) := by decide +kernel
theorem dX5_append_7 : decode cX5_append 7 = .ok (.aload_n 0, 1) := by decide +kernel
theorem dX5_append_8 : decode cX5_append 8 = .ok (.getfield 31, 3) := by decide +kernel
theorem dX5_append_11 : decode cX5_append 11 = .ok (.sipush 300, 3) := by decide +kernel
theorem dX5_append_14 : decode cX5_append 14 = .ok (.if_icmp .ge 29, 3) := by decide +kernel
theorem dX5_append_17 : decode cX5_append 17 = .ok (.aload_n 0, 1) := by decide +kernel
theorem dX5_append_18 : decode cX5_append 18 = .ok (.getfield 9, 3) := by decide +kernel
theorem kf5_9 : inW (Cond.fieldLink RX5 9 "KneeOaths$Reader" "tape" "[I") := ⟨List.mem_of_getElem? (i := 339) (by decide +kernel), by decide +kernel⟩
theorem dX5_append_21 : decode cX5_append 21 = .ok (.aload_n 0, 1) := by decide +kernel
theorem dX5_append_22 : decode cX5_append 22 = .ok (.getfield 31, 3) := by decide +kernel
theorem dX5_append_25 : decode cX5_append 25 = .ok (.iload_n 1, 1) := by decide +kernel
theorem dX5_append_26 : decode cX5_append 26 = .ok (.iload_n 2, 1) := by decide +kernel
theorem dX5_append_27 : decode cX5_append 27 = .ok (.iushr, 1) := by decide +kernel
theorem dX5_append_28 : decode cX5_append 28 = .ok (.sipush 255, 3) := by decide +kernel
theorem dX5_append_31 : decode cX5_append 31 = .ok (.iand, 1) := by decide +kernel
theorem dX5_append_32 : decode cX5_append 32 = .ok (.iastore, 1) := by decide +kernel
theorem dX5_append_33 : decode cX5_append 33 = .ok (.aload_n 0, 1) := by decide +kernel
theorem dX5_append_34 : decode cX5_append 34 = .ok (.dup, 1) := by decide +kernel
theorem dX5_append_35 : decode cX5_append 35 = .ok (.getfield 31, 3) := by decide +kernel
theorem dX5_append_38 : decode cX5_append 38 = .ok (.iconst 1, 1) := by decide +kernel
theorem dX5_append_39 : decode cX5_append 39 = .ok (.iadd, 1) := by decide +kernel
theorem dX5_append_40 : decode cX5_append 40 = .ok (.putfield 31, 3) := by decide +kernel
theorem dX5_append_43 : decode cX5_append 43 = .ok (.iinc 2 (-8), 3) := by decide +kernel
theorem dX5_append_46 : decode cX5_append 46 = .ok (.goto (-43), 3) := by decide +kernel
theorem dX5_append_49 : decode cX5_append 49 = .ok (.return_, 1) := by decide +kernel
theorem dX5_hasRoomFor_0 : decode cX5_hasRoomFor 0 = .ok (.aload_n 0, 1) := by decide +kernel
theorem dX5_hasRoomFor_1 : decode cX5_hasRoomFor 1 = .ok (.getfield 31, 3) := by decide +kernel
theorem dX5_hasRoomFor_4 : decode cX5_hasRoomFor 4 = .ok (.iload_n 1, 1) := by decide +kernel
theorem dX5_hasRoomFor_5 : decode cX5_hasRoomFor 5 = .ok (.iadd, 1) := by decide +kernel
theorem dX5_hasRoomFor_6 : decode cX5_hasRoomFor 6 = .ok (.sipush 300, 3) := by decide +kernel
theorem dX5_hasRoomFor_9 : decode cX5_hasRoomFor 9 = .ok (.if_icmp .gt 7, 3) := by decide +kernel
theorem dX5_hasRoomFor_12 : decode cX5_hasRoomFor 12 = .ok (.iconst 1, 1) := by decide +kernel
theorem dX5_hasRoomFor_13 : decode cX5_hasRoomFor 13 = .ok (.goto 4, 3) := by decide +kernel
theorem dX5_hasRoomFor_17 : decode cX5_hasRoomFor 17 = .ok (.ireturn, 1) := by decide +kernel
theorem dX11_feed_0 : decode cX11_feed 0 = .ok (.aload_n 0, 1) := by decide +kernel
theorem dX11_feed_1 : decode cX11_feed 1 = .ok (.getfield 25, 3) := by decide +kernel
theorem dX11_feed_4 : decode cX11_feed 4 = .ok (.bipush 20, 2) := by decide +kernel
theorem dX11_feed_6 : decode cX11_feed 6 = .ok (.invokevirtual 83, 3) := by decide +kernel
theorem cw_X5_hasRoomFor : CWv yX5_hasRoomFor cX5_hasRoomFor 2 (some .boolean) 1 := ⟨⟨⟨List.mem_of_getElem? (i := 130) (by decide +kernel), by decide +kernel⟩, ⟨List.mem_of_getElem? (i := 551) (by decide +kernel), by decide +kernel⟩, by decide +kernel⟩, ⟨List.mem_of_getElem? (i := 549) (by decide +kernel), by decide +kernel⟩, ⟨List.mem_of_getElem? (i := 550) (by decide +kernel), by decide +kernel⟩⟩
theorem km11_83 : inW (Cond.methodLink RX11 83 yX5_hasRoomFor) := ⟨List.mem_of_getElem? (i := 548) (by decide +kernel), by decide +kernel⟩
theorem dX11_feed_9 : decode cX11_feed 9 = .ok (.ifCond .ne 5, 3) := by decide +kernel
theorem dX11_feed_14 : decode cX11_feed 14 = .ok (.aload_n 0, 1) := by decide +kernel
theorem dX11_feed_15 : decode cX11_feed 15 = .ok (.getfield 25, 3) := by decide +kernel
theorem dX11_feed_18 : decode cX11_feed 18 = .ok (.iload_n 1, 1) := by decide +kernel
theorem dX11_feed_19 : decode cX11_feed 19 = .ok (.invokevirtual 87, 3) := by decide +kernel
theorem cw_X5_append : CWv yX5_append cX5_append 3 none 1 := ⟨⟨⟨List.mem_of_getElem? (i := 130) (by decide +kernel), by decide +kernel⟩, ⟨List.mem_of_getElem? (i := 555) (by decide +kernel), by decide +kernel⟩, by decide +kernel⟩, ⟨List.mem_of_getElem? (i := 553) (by decide +kernel), by decide +kernel⟩, ⟨List.mem_of_getElem? (i := 554) (by decide +kernel), by decide +kernel⟩⟩
theorem km11_87 : inW (Cond.methodLink RX11 87 yX5_append) := ⟨List.mem_of_getElem? (i := 552) (by decide +kernel), by decide +kernel⟩
theorem dX11_feed_22 : decode cX11_feed 22 = .ok (.aload_n 0, 1) := by decide +kernel
theorem dX11_feed_23 : decode cX11_feed 23 = .ok (.getfield 25, 3) := by decide +kernel
theorem dX11_feed_26 : decode cX11_feed 26 = .ok (.iload_n 2, 1) := by decide +kernel
theorem dX11_feed_27 : decode cX11_feed 27 = .ok (.invokevirtual 87, 3) := by decide +kernel
theorem dX11_feed_30 : decode cX11_feed 30 = .ok (.aload_n 0, 1) := by decide +kernel
theorem dX11_feed_31 : decode cX11_feed 31 = .ok (.getfield 25, 3) := by decide +kernel
theorem dX11_feed_34 : decode cX11_feed 34 = .ok (.iload_n 3, 1) := by decide +kernel
theorem dX11_feed_35 : decode cX11_feed 35 = .ok (.invokevirtual 87, 3) := by decide +kernel
theorem dX11_feed_38 : decode cX11_feed 38 = .ok (.aload_n 0, 1) := by decide +kernel
theorem dX11_feed_39 : decode cX11_feed 39 = .ok (.getfield 25, 3) := by decide +kernel
theorem dX11_feed_42 : decode cX11_feed 42 = .ok (.iload 4, 2) := by decide +kernel
theorem dX11_feed_44 : decode cX11_feed 44 = .ok (.invokevirtual 87, 3) := by decide +kernel
theorem dX11_feed_47 : decode cX11_feed 47 = .ok (.aload_n 0, 1) := by decide +kernel
theorem dX11_feed_48 : decode cX11_feed 48 = .ok (.getfield 25, 3) := by decide +kernel
theorem dX11_feed_51 : decode cX11_feed 51 = .ok (.iload 5, 2) := by decide +kernel
theorem dX11_feed_53 : decode cX11_feed 53 = .ok (.invokevirtual 87, 3) := by decide +kernel
theorem dX11_feed_56 : decode cX11_feed 56 = .ok (.aload_n 0, 1) := by decide +kernel
theorem dX11_feed_57 : decode cX11_feed 57 = .ok (.getfield 25, 3) := by decide +kernel
theorem dX11_feed_60 : decode cX11_feed 60 = .ok (.invokevirtual 91, 3) := by decide +kernel
theorem dX11_feed_63 : decode cX11_feed 63 = .ok (.ireturn, 1) := by decide +kernel
theorem dX7_clear_0 : decode cX7_clear 0 = .ok (.aload_n 0, 1) := by decide +kernel
theorem dX7_clear_1 : decode cX7_clear 1 = .ok (.iconst 0, 1) := by decide +kernel
theorem dX7_clear_2 : decode cX7_clear 2 = .ok (.putfield 27, 3) := by decide +kernel
theorem ok_X7 : clOK 7 RX7 TX7 7 tyX7 := ⟨rfl, fun w h => ⟨(show ∀ w ∈ u_ws RX7 TX7 7, w ∈ lw_tbl by decide +kernel) w h, (show ∀ w ∈ u_ws RX7 TX7 7, gw w = true by decide +kernel) w h⟩, tyX7_ok, nmX7⟩
theorem kf7_27 : inW (Cond.fieldLink RX7 27 "KneeOaths$Script" "length" "I") := ⟨List.mem_of_getElem? (i := 242) (by decide +kernel), by decide +kernel⟩
theorem dX7_clear_5 : decode cX7_clear 5 = .ok (.aload_n 0, 1) := by decide +kernel
theorem dX7_clear_6 : decode cX7_clear 6 = .ok (.iconst 0, 1) := by decide +kernel
theorem dX7_clear_7 : decode cX7_clear 7 = .ok (.putfield 31, 3) := by decide +kernel
theorem kf7_31 : inW (Cond.fieldLink RX7 31 "KneeOaths$Script" "clauseCount" "I") := ⟨List.mem_of_getElem? (i := 244) (by decide +kernel), by decide +kernel⟩
theorem dX7_clear_10 : decode cX7_clear 10 = .ok (.iconst 0, 1) := by decide +kernel
theorem dX7_clear_11 : decode cX7_clear 11 = .ok (.istore_n 1, 1) := by decide +kernel
theorem dX7_clear_12 : decode cX7_clear 12 = .ok (.iload_n 1, 1) := by decide +kernel
theorem dX7_clear_13 : decode cX7_clear 13 = .ok (.iconst 3, 1) := by decide +kernel
theorem dX7_clear_14 : decode cX7_clear 14 = .ok (.if_icmp .ge 23, 3) := by decide +kernel
theorem dX7_clear_17 : decode cX7_clear 17 = .ok (.aload_n 0, 1) := by decide +kernel
theorem dX7_clear_18 : decode cX7_clear 18 = .ok (.getfield 18, 3) := by decide +kernel
theorem kf7_18 : inW (Cond.fieldLink RX7 18 "KneeOaths$Script" "lawFrom" "[I") := ⟨List.mem_of_getElem? (i := 239) (by decide +kernel), by decide +kernel⟩
theorem dX7_clear_21 : decode cX7_clear 21 = .ok (.iload_n 1, 1) := by decide +kernel
theorem dX7_clear_22 : decode cX7_clear 22 = .ok (.iconst 0, 1) := by decide +kernel
theorem dX7_clear_23 : decode cX7_clear 23 = .ok (.iastore, 1) := by decide +kernel
theorem dX7_clear_24 : decode cX7_clear 24 = .ok (.aload_n 0, 1) := by decide +kernel
theorem dX7_clear_25 : decode cX7_clear 25 = .ok (.getfield 21, 3) := by decide +kernel
theorem kf7_21 : inW (Cond.fieldLink RX7 21 "KneeOaths$Script" "lawTo" "[I") := ⟨List.mem_of_getElem? (i := 240) (by decide +kernel), by decide +kernel⟩
theorem dX7_clear_28 : decode cX7_clear 28 = .ok (.iload_n 1, 1) := by decide +kernel
theorem dX7_clear_29 : decode cX7_clear 29 = .ok (.iconst 0, 1) := by decide +kernel
theorem dX7_clear_30 : decode cX7_clear 30 = .ok (.iastore, 1) := by decide +kernel
theorem dX7_clear_31 : decode cX7_clear 31 = .ok (.iinc 1 1, 3) := by decide +kernel
theorem dX7_clear_34 : decode cX7_clear 34 = .ok (.goto (-22), 3) := by decide +kernel
theorem dX7_clear_37 : decode cX7_clear 37 = .ok (.return_, 1) := by decide +kernel
theorem dX5_addToken_0 : decode cX5_addToken 0 = .ok (.aload_n 0, 1) := by decide +kernel
theorem dX5_addToken_1 : decode cX5_addToken 1 = .ok (.getfield 62, 3) := by decide +kernel
theorem kf5_62 : inW (Cond.fieldLink RX5 62 "KneeOaths$Reader" "tokenCount" "I") := ⟨List.mem_of_getElem? (i := 344) (by decide +kernel), by decide +kernel⟩
theorem dX5_addToken_4 : decode cX5_addToken 4 = .ok (.aload_n 0, 1) := by decide +kernel
theorem dX5_addToken_5 : decode cX5_addToken 5 = .ok (.getfield 15, 3) := by decide +kernel
theorem kf5_15 : inW (Cond.fieldLink RX5 15 "KneeOaths$Reader" "kinds" "[I") := ⟨List.mem_of_getElem? (i := 340) (by decide +kernel), by decide +kernel⟩
theorem dX5_addToken_8 : decode cX5_addToken 8 = .ok (.arraylength, 1) := by decide +kernel
theorem dX5_addToken_9 : decode cX5_addToken 9 = .ok (.if_icmp .ge 43, 3) := by decide +kernel
theorem dX5_addToken_12 : decode cX5_addToken 12 = .ok (.aload_n 0, 1) := by decide +kernel
theorem dX5_addToken_13 : decode cX5_addToken 13 = .ok (.getfield 15, 3) := by decide +kernel
theorem dX5_addToken_16 : decode cX5_addToken 16 = .ok (.aload_n 0, 1) := by decide +kernel
theorem dX5_addToken_17 : decode cX5_addToken 17 = .ok (.getfield 62, 3) := by decide +kernel
theorem dX5_addToken_20 : decode cX5_addToken 20 = .ok (.iload_n 1, 1) := by decide +kernel
theorem dX5_addToken_21 : decode cX5_addToken 21 = .ok (.iastore, 1) := by decide +kernel
theorem dX5_addToken_22 : decode cX5_addToken 22 = .ok (.aload_n 0, 1) := by decide +kernel
theorem dX5_addToken_23 : decode cX5_addToken 23 = .ok (.getfield 18, 3) := by decide +kernel
theorem kf5_18 : inW (Cond.fieldLink RX5 18 "KneeOaths$Reader" "places" "[I") := ⟨List.mem_of_getElem? (i := 341) (by decide +kernel), by decide +kernel⟩
theorem dX5_addToken_26 : decode cX5_addToken 26 = .ok (.aload_n 0, 1) := by decide +kernel
theorem dX5_addToken_27 : decode cX5_addToken 27 = .ok (.getfield 62, 3) := by decide +kernel
theorem dX5_addToken_30 : decode cX5_addToken 30 = .ok (.iload_n 2, 1) := by decide +kernel
theorem dX5_addToken_31 : decode cX5_addToken 31 = .ok (.iastore, 1) := by decide +kernel
theorem dX5_addToken_32 : decode cX5_addToken 32 = .ok (.aload_n 0, 1) := by decide +kernel
theorem dX5_addToken_33 : decode cX5_addToken 33 = .ok (.getfield 21, 3) := by decide +kernel
theorem kf5_21 : inW (Cond.fieldLink RX5 21 "KneeOaths$Reader" "values" "[I") := ⟨List.mem_of_getElem? (i := 342) (by decide +kernel), by decide +kernel⟩
theorem dX5_addToken_36 : decode cX5_addToken 36 = .ok (.aload_n 0, 1) := by decide +kernel
theorem dX5_addToken_37 : decode cX5_addToken 37 = .ok (.getfield 62, 3) := by decide +kernel
theorem dX5_addToken_40 : decode cX5_addToken 40 = .ok (.iload_n 3, 1) := by decide +kernel
theorem dX5_addToken_41 : decode cX5_addToken 41 = .ok (.iastore, 1) := by decide +kernel
theorem dX5_addToken_42 : decode cX5_addToken 42 = .ok (.aload_n 0, 1) := by decide +kernel
theorem dX5_addToken_43 : decode cX5_addToken 43 = .ok (.dup, 1) := by decide +kernel
theorem dX5_addToken_44 : decode cX5_addToken 44 = .ok (.getfield 62, 3) := by decide +kernel
theorem dX5_addToken_47 : decode cX5_addToken 47 = .ok (.iconst 1, 1) := by decide +kernel
theorem dX5_addToken_48 : decode cX5_addToken 48 = .ok (.iadd, 1) := by decide +kernel
theorem dX5_addToken_49 : decode cX5_addToken 49 = .ok (.putfield 62, 3) := by decide +kernel
theorem dX5_addToken_52 : decode cX5_addToken 52 = .ok (.return_, 1) := by decide +kernel
theorem dX5_cutTokens_0 : decode cX5_cutTokens 0 = .ok (.aload_n 0, 1) := by decide +kernel
theorem dX5_cutTokens_1 : decode cX5_cutTokens 1 = .ok (.iconst 0, 1) := by decide +kernel
theorem dX5_cutTokens_2 : decode cX5_cutTokens 2 = .ok (.putfield 62, 3) := by decide +kernel
theorem dX5_cutTokens_5 : decode cX5_cutTokens 5 = .ok (.iconst 0, 1) := by decide +kernel
theorem dX5_cutTokens_6 : decode cX5_cutTokens 6 = .ok (.istore_n 1, 1) := by decide +kernel
theorem dX5_cutTokens_7 : decode cX5_cutTokens 7 = .ok (.iconst 0, 1) := by decide +kernel
theorem dX5_cutTokens_8 : decode cX5_cutTokens 8 = .ok (.istore_n 2, 1) := by decide +kernel
theorem dX5_cutTokens_9 : decode cX5_cutTokens 9 = .ok (.iload_n 2, 1) := by decide +kernel
theorem dX5_cutTokens_10 : decode cX5_cutTokens 10 = .ok (.sipush 300, 3) := by decide +kernel
theorem dX5_cutTokens_13 : decode cX5_cutTokens 13 = .ok (.if_icmp .ge 79, 3) := by decide +kernel
theorem dX5_cutTokens_16 : decode cX5_cutTokens 16 = .ok (.iload_n 1, 1) := by decide +kernel
theorem dX5_cutTokens_17 : decode cX5_cutTokens 17 = .ok (.aload_n 0, 1) := by decide +kernel
theorem dX5_cutTokens_18 : decode cX5_cutTokens 18 = .ok (.getfield 31, 3) := by decide +kernel
theorem dX5_cutTokens_21 : decode cX5_cutTokens 21 = .ok (.if_icmp .ge 71, 3) := by decide +kernel
theorem dX5_cutTokens_92 : decode cX5_cutTokens 92 = .ok (.aload_n 0, 1) := by decide +kernel
theorem dX5_cutTokens_93 : decode cX5_cutTokens 93 = .ok (.sipush 1002, 3) := by decide +kernel
theorem dX5_cutTokens_96 : decode cX5_cutTokens 96 = .ok (.aload_n 0, 1) := by decide +kernel
theorem dX5_cutTokens_97 : decode cX5_cutTokens 97 = .ok (.getfield 31, 3) := by decide +kernel
theorem dX5_cutTokens_100 : decode cX5_cutTokens 100 = .ok (.iconst 0, 1) := by decide +kernel
theorem dX5_cutTokens_101 : decode cX5_cutTokens 101 = .ok (.invokevirtual 85, 3) := by decide +kernel
theorem cw_X5_addToken : CWv yX5_addToken cX5_addToken 4 none 3 := ⟨⟨⟨List.mem_of_getElem? (i := 130) (by decide +kernel), by decide +kernel⟩, ⟨List.mem_of_getElem? (i := 659) (by decide +kernel), by decide +kernel⟩, by decide +kernel⟩, ⟨List.mem_of_getElem? (i := 658) (by decide +kernel), by decide +kernel⟩, ⟨List.mem_of_getElem? (i := 5) (by decide +kernel), by decide +kernel⟩⟩
theorem km5_85 : inW (Cond.methodLink RX5 85 yX5_addToken) := ⟨List.mem_of_getElem? (i := 656) (by decide +kernel), by decide +kernel⟩
theorem dX5_cutTokens_104 : decode cX5_cutTokens 104 = .ok (.return_, 1) := by decide +kernel
theorem dX5_step_0 : decode cX5_step 0 = .ok (.aload_n 0, 1) := by decide +kernel
theorem dX5_step_1 : decode cX5_step 1 = .ok (.getfield 46, 3) := by decide +kernel
theorem kf5_46 : inW (Cond.fieldLink RX5 46 "KneeOaths$Reader" "tokensRead" "I") := ⟨List.mem_of_getElem? (i := 345) (by decide +kernel), by decide +kernel⟩
theorem dX5_step_4 : decode cX5_step 4 = .ok (.aload_n 0, 1) := by decide +kernel
theorem dX5_step_5 : decode cX5_step 5 = .ok (.getfield 62, 3) := by decide +kernel
theorem dX5_step_8 : decode cX5_step 8 = .ok (.iconst 1, 1) := by decide +kernel
theorem dX5_step_9 : decode cX5_step 9 = .ok (.isub, 1) := by decide +kernel
theorem dX5_step_10 : decode cX5_step 10 = .ok (.invokestatic 108, 3) := by decide +kernel
theorem km5_108 : inW (Cond.methodLink RX5 108 Lib.Math.min.name) := ⟨List.mem_of_getElem? (i := 667) (by decide +kernel), by decide +kernel⟩
theorem kMs_min : inW (Cond.static Lib.Math.min.name) := ⟨List.mem_of_getElem? (i := 216) (by decide +kernel), by decide +kernel⟩
theorem kMi : inW (Cond.initialized "java/lang/Math") := ⟨List.mem_of_getElem? (i := 128) (by decide +kernel), by decide +kernel⟩
theorem kMc_min : inW (Cond.code Lib.Math.min.name Lib.Math.min.code 2 (some .int)) := ⟨List.mem_of_getElem? (i := 217) (by decide +kernel), by decide +kernel⟩
theorem dX5_step_13 : decode cX5_step 13 = .ok (.istore_n 1, 1) := by decide +kernel
theorem dX5_step_14 : decode cX5_step 14 = .ok (.iload_n 1, 1) := by decide +kernel
theorem dX5_step_15 : decode cX5_step 15 = .ok (.ifCond .lt 52, 3) := by decide +kernel
theorem dX5_step_18 : decode cX5_step 18 = .ok (.iload_n 1, 1) := by decide +kernel
theorem dX5_step_19 : decode cX5_step 19 = .ok (.aload_n 0, 1) := by decide +kernel
theorem dX5_step_20 : decode cX5_step 20 = .ok (.getfield 15, 3) := by decide +kernel
theorem dX5_step_23 : decode cX5_step 23 = .ok (.arraylength, 1) := by decide +kernel
theorem dX5_step_24 : decode cX5_step 24 = .ok (.if_icmp .ge 43, 3) := by decide +kernel
theorem dX5_step_27 : decode cX5_step 27 = .ok (.aload_n 0, 1) := by decide +kernel
theorem dX5_step_28 : decode cX5_step 28 = .ok (.aload_n 0, 1) := by decide +kernel
theorem dX5_step_29 : decode cX5_step 29 = .ok (.getfield 15, 3) := by decide +kernel
theorem dX5_step_32 : decode cX5_step 32 = .ok (.iload_n 1, 1) := by decide +kernel
theorem dX5_step_33 : decode cX5_step 33 = .ok (.iaload, 1) := by decide +kernel
theorem dX5_step_34 : decode cX5_step 34 = .ok (.putfield 52, 3) := by decide +kernel
theorem kf5_52 : inW (Cond.fieldLink RX5 52 "KneeOaths$Reader" "token" "I") := ⟨List.mem_of_getElem? (i := 346) (by decide +kernel), by decide +kernel⟩
theorem dX5_step_37 : decode cX5_step 37 = .ok (.aload_n 0, 1) := by decide +kernel
theorem dX5_step_38 : decode cX5_step 38 = .ok (.aload_n 0, 1) := by decide +kernel
theorem dX5_step_39 : decode cX5_step 39 = .ok (.getfield 18, 3) := by decide +kernel
theorem dX5_step_42 : decode cX5_step 42 = .ok (.iload_n 1, 1) := by decide +kernel
theorem dX5_step_43 : decode cX5_step 43 = .ok (.iaload, 1) := by decide +kernel
theorem dX5_step_44 : decode cX5_step 44 = .ok (.putfield 59, 3) := by decide +kernel
theorem kf5_59 : inW (Cond.fieldLink RX5 59 "KneeOaths$Reader" "place" "I") := ⟨List.mem_of_getElem? (i := 347) (by decide +kernel), by decide +kernel⟩
theorem dX5_step_47 : decode cX5_step 47 = .ok (.aload_n 0, 1) := by decide +kernel
theorem dX5_step_48 : decode cX5_step 48 = .ok (.aload_n 0, 1) := by decide +kernel
theorem dX5_step_49 : decode cX5_step 49 = .ok (.getfield 21, 3) := by decide +kernel
theorem dX5_step_52 : decode cX5_step 52 = .ok (.iload_n 1, 1) := by decide +kernel
theorem dX5_step_53 : decode cX5_step 53 = .ok (.iaload, 1) := by decide +kernel
theorem dX5_step_54 : decode cX5_step 54 = .ok (.putfield 118, 3) := by decide +kernel
theorem kf5_118 : inW (Cond.fieldLink RX5 118 "KneeOaths$Reader" "value" "I") := ⟨List.mem_of_getElem? (i := 348) (by decide +kernel), by decide +kernel⟩
theorem dX5_step_57 : decode cX5_step 57 = .ok (.aload_n 0, 1) := by decide +kernel
theorem dX5_step_58 : decode cX5_step 58 = .ok (.dup, 1) := by decide +kernel
theorem dX5_step_59 : decode cX5_step 59 = .ok (.getfield 46, 3) := by decide +kernel
theorem dX5_step_62 : decode cX5_step 62 = .ok (.iconst 1, 1) := by decide +kernel
theorem dX5_step_63 : decode cX5_step 63 = .ok (.iadd, 1) := by decide +kernel
theorem dX5_step_64 : decode cX5_step 64 = .ok (.putfield 46, 3) := by decide +kernel
theorem dX5_step_67 : decode cX5_step 67 = .ok (.return_, 1) := by decide +kernel
theorem dX5_read_0 : decode cX5_read 0 = .ok (.aload_n 0, 1) := by decide +kernel
theorem dX5_read_1 : decode cX5_read 1 = .ok (.aload_n 1, 1) := by decide +kernel
theorem dX5_read_2 : decode cX5_read 2 = .ok (.putfield 34, 3) := by decide +kernel
theorem kf5_34 : inW (Cond.fieldLink RX5 34 "KneeOaths$Reader" "script" "LKneeOaths$Script;") := ⟨List.mem_of_getElem? (i := 350) (by decide +kernel), by decide +kernel⟩
theorem dX5_read_5 : decode cX5_read 5 = .ok (.aload_n 0, 1) := by decide +kernel
theorem dX5_read_6 : decode cX5_read 6 = .ok (.getfield 34, 3) := by decide +kernel
theorem dX5_read_9 : decode cX5_read 9 = .ok (.invokevirtual 38, 3) := by decide +kernel
theorem cw_X7_clear : CWv yX7_clear cX7_clear 2 none 0 := ⟨⟨⟨List.mem_of_getElem? (i := 129) (by decide +kernel), by decide +kernel⟩, ⟨List.mem_of_getElem? (i := 583) (by decide +kernel), by decide +kernel⟩, by decide +kernel⟩, ⟨List.mem_of_getElem? (i := 581) (by decide +kernel), by decide +kernel⟩, ⟨List.mem_of_getElem? (i := 582) (by decide +kernel), by decide +kernel⟩⟩
theorem km5_38 : inW (Cond.methodLink RX5 38 yX7_clear) := ⟨List.mem_of_getElem? (i := 580) (by decide +kernel), by decide +kernel⟩
theorem dX5_read_12 : decode cX5_read 12 = .ok (.aload_n 0, 1) := by decide +kernel
theorem dX5_read_13 : decode cX5_read 13 = .ok (.iconst 0, 1) := by decide +kernel
theorem dX5_read_14 : decode cX5_read 14 = .ok (.putfield 24, 3) := by decide +kernel
theorem dX5_read_17 : decode cX5_read 17 = .ok (.aload_n 0, 1) := by decide +kernel
theorem dX5_read_18 : decode cX5_read 18 = .ok (.iconst (-1), 1) := by decide +kernel
theorem dX5_read_19 : decode cX5_read 19 = .ok (.putfield 28, 3) := by decide +kernel
theorem dX5_read_22 : decode cX5_read 22 = .ok (.aload_n 0, 1) := by decide +kernel
theorem dX5_read_23 : decode cX5_read 23 = .ok (.invokevirtual 43, 3) := by decide +kernel
theorem cw_X5_cutTokens : CWv yX5_cutTokens cX5_cutTokens 4 none 0 := ⟨⟨⟨List.mem_of_getElem? (i := 130) (by decide +kernel), by decide +kernel⟩, ⟨List.mem_of_getElem? (i := 587) (by decide +kernel), by decide +kernel⟩, by decide +kernel⟩, ⟨List.mem_of_getElem? (i := 586) (by decide +kernel), by decide +kernel⟩, ⟨List.mem_of_getElem? (i := 0) (by decide +kernel), by decide +kernel⟩⟩
theorem km5_43 : inW (Cond.methodLink RX5 43 yX5_cutTokens) := ⟨List.mem_of_getElem? (i := 584) (by decide +kernel), by decide +kernel⟩
theorem dX5_read_26 : decode cX5_read 26 = .ok (.aload_n 0, 1) := by decide +kernel
theorem dX5_read_27 : decode cX5_read 27 = .ok (.iconst 0, 1) := by decide +kernel
theorem dX5_read_28 : decode cX5_read 28 = .ok (.putfield 46, 3) := by decide +kernel
theorem dX5_read_31 : decode cX5_read 31 = .ok (.aload_n 0, 1) := by decide +kernel
theorem dX5_read_32 : decode cX5_read 32 = .ok (.invokevirtual 49, 3) := by decide +kernel
theorem cw_X5_step : CWv yX5_step cX5_step 2 none 0 := ⟨⟨⟨List.mem_of_getElem? (i := 130) (by decide +kernel), by decide +kernel⟩, ⟨List.mem_of_getElem? (i := 733) (by decide +kernel), by decide +kernel⟩, by decide +kernel⟩, ⟨List.mem_of_getElem? (i := 732) (by decide +kernel), by decide +kernel⟩, ⟨List.mem_of_getElem? (i := 8) (by decide +kernel), by decide +kernel⟩⟩
theorem km5_49 : inW (Cond.methodLink RX5 49 yX5_step) := ⟨List.mem_of_getElem? (i := 730) (by decide +kernel), by decide +kernel⟩
theorem dX5_read_35 : decode cX5_read 35 = .ok (.iconst 1, 1) := by decide +kernel
theorem dX5_read_36 : decode cX5_read 36 = .ok (.istore_n 2, 1) := by decide +kernel
theorem dX5_read_37 : decode cX5_read 37 = .ok (.iconst 0, 1) := by decide +kernel
theorem dX5_read_38 : decode cX5_read 38 = .ok (.istore_n 3, 1) := by decide +kernel
theorem dX5_read_39 : decode cX5_read 39 = .ok (.iload_n 3, 1) := by decide +kernel
theorem dX5_read_40 : decode cX5_read 40 = .ok (.bipush 24, 2) := by decide +kernel
theorem dX5_read_42 : decode cX5_read 42 = .ok (.if_icmp .gt 28, 3) := by decide +kernel
theorem dX5_read_45 : decode cX5_read 45 = .ok (.iload_n 2, 1) := by decide +kernel
theorem dX5_read_46 : decode cX5_read 46 = .ok (.ifCond .eq 24, 3) := by decide +kernel
theorem dX5_read_49 : decode cX5_read 49 = .ok (.aload_n 0, 1) := by decide +kernel
theorem dX5_read_50 : decode cX5_read 50 = .ok (.getfield 52, 3) := by decide +kernel
theorem dX5_read_53 : decode cX5_read 53 = .ok (.sipush 1002, 3) := by decide +kernel
theorem dX5_read_56 : decode cX5_read 56 = .ok (.if_icmp .eq 14, 3) := by decide +kernel
theorem dX5_read_70 : decode cX5_read 70 = .ok (.aload_n 0, 1) := by decide +kernel
theorem dX5_read_71 : decode cX5_read 71 = .ok (.iconst 0, 1) := by decide +kernel
theorem dX5_read_72 : decode cX5_read 72 = .ok (.putfield 31, 3) := by decide +kernel
theorem dX5_read_75 : decode cX5_read 75 = .ok (.iload_n 2, 1) := by decide +kernel
theorem dX5_read_76 : decode cX5_read 76 = .ok (.ireturn, 1) := by decide +kernel
theorem dX11_text_0 : decode cX11_text 0 = .ok (.aload_n 0, 1) := by decide +kernel
theorem dX11_text_1 : decode cX11_text 1 = .ok (.getfield 13, 3) := by decide +kernel
theorem dX11_text_4 : decode cX11_text 4 = .ok (.invokevirtual 98, 3) := by decide +kernel
theorem cw_X10_freeScript : CWv yX10_freeScript cX10_freeScript 1 (some (.object "KneeOaths$Script")) 0 := ⟨⟨⟨List.mem_of_getElem? (i := 126) (by decide +kernel), by decide +kernel⟩, ⟨List.mem_of_getElem? (i := 575) (by decide +kernel), by decide +kernel⟩, by decide +kernel⟩, ⟨List.mem_of_getElem? (i := 573) (by decide +kernel), by decide +kernel⟩, ⟨List.mem_of_getElem? (i := 574) (by decide +kernel), by decide +kernel⟩⟩
theorem km11_98 : inW (Cond.methodLink RX11 98 yX10_freeScript) := ⟨List.mem_of_getElem? (i := 572) (by decide +kernel), by decide +kernel⟩
theorem dX11_text_7 : decode cX11_text 7 = .ok (.astore_n 1, 1) := by decide +kernel
theorem dX11_text_8 : decode cX11_text 8 = .ok (.aload_n 1, 1) := by decide +kernel
theorem dX11_text_9 : decode cX11_text 9 = .ok (.ifnonnull 5, 3) := by decide +kernel
theorem dX11_text_14 : decode cX11_text 14 = .ok (.aload_n 0, 1) := by decide +kernel
theorem dX11_text_15 : decode cX11_text 15 = .ok (.getfield 25, 3) := by decide +kernel
theorem dX11_text_18 : decode cX11_text 18 = .ok (.aload_n 1, 1) := by decide +kernel
theorem dX11_text_19 : decode cX11_text 19 = .ok (.invokevirtual 102, 3) := by decide +kernel
theorem cw_X5_read : CWv yX5_read cX5_read 4 (some .boolean) 1 := ⟨⟨⟨List.mem_of_getElem? (i := 130) (by decide +kernel), by decide +kernel⟩, ⟨List.mem_of_getElem? (i := 579) (by decide +kernel), by decide +kernel⟩, by decide +kernel⟩, ⟨List.mem_of_getElem? (i := 577) (by decide +kernel), by decide +kernel⟩, ⟨List.mem_of_getElem? (i := 578) (by decide +kernel), by decide +kernel⟩⟩
theorem km11_102 : inW (Cond.methodLink RX11 102 yX5_read) := ⟨List.mem_of_getElem? (i := 576) (by decide +kernel), by decide +kernel⟩
theorem dX11_text_22 : decode cX11_text 22 = .ok (.ifCond .eq 13, 3) := by decide +kernel
theorem dX11_text_25 : decode cX11_text 25 = .ok (.aload_n 0, 1) := by decide +kernel
theorem dX11_text_26 : decode cX11_text 26 = .ok (.getfield 13, 3) := by decide +kernel
theorem dX11_text_29 : decode cX11_text 29 = .ok (.invokevirtual 106, 3) := by decide +kernel
theorem cw_X10_keepScript : CWv yX10_keepScript cX10_keepScript 1 (some .int) 0 := ⟨⟨⟨List.mem_of_getElem? (i := 126) (by decide +kernel), by decide +kernel⟩, ⟨List.mem_of_getElem? (i := 842) (by decide +kernel), by decide +kernel⟩, by decide +kernel⟩, ⟨List.mem_of_getElem? (i := 840) (by decide +kernel), by decide +kernel⟩, ⟨List.mem_of_getElem? (i := 841) (by decide +kernel), by decide +kernel⟩⟩
theorem km11_106 : inW (Cond.methodLink RX11 106 yX10_keepScript) := ⟨List.mem_of_getElem? (i := 839) (by decide +kernel), by decide +kernel⟩
theorem dX11_text_32 : decode cX11_text 32 = .ok (.goto 4, 3) := by decide +kernel
theorem dX11_text_36 : decode cX11_text 36 = .ok (.ireturn, 1) := by decide +kernel
set_option maxHeartbeats 4000000 in
set_option maxRecDepth 100000 in
theorem c_append_0 {l : Launch} {G : GG} {L : List Nat} {f : HF} {h tp ki pl va : Nat} {v : Int32} {g : Nat → Int32}  (p_h : pt L f h (.inr (5, [.ref tp, .ref ki, .ref pl, .ref va, .int 0, .int 0, .int 0, .int 0, .int 0, .int 0, .int 0, .null, .int (-1), .int (-1)]))) (p_tp : pt L f tp (.inl (G.2 0, 300, .inl g)))  : PMv l yX5_append cX5_append 3 0 0 0 G [.ref h, .int v] L f (fun L1 f1 => ∃ g1 : Nat → Int32, kp L f L1 f1 [h, tp] ∧ pt L1 f1 h (.inr (5, [.ref tp, .ref ki, .ref pl, .ref va, .int 4, .int 0, .int 0, .int 0, .int 0, .int 0, .int 0, .null, .int (-1), .int (-1)])) ∧ pt L1 f1 tp (.inl (G.2 0, 300, .inl g1))) := by
  refine PMv.of (post := fun L1 f1 => ∃ g1 : Nat → Int32, kp L f L1 f1 [h, tp] ∧ pt L1 f1 h (.inr (5, [.ref tp, .ref ki, .ref pl, .ref va, .int 4, .int 0, .int 0, .int 0, .int 0, .int 0, .int 0, .null, .int (-1), .int (-1)])) ∧ pt L1 f1 tp (.inl (G.2 0, 300, .inl g1))) (own := RX5) (by decide) rfl (Nat.le_of_ble_eq_true rfl) (fun sz p e s m args below meth c A ls hA1 hname S Y hl => ?_)
  have hx := S.hx
  have hb := S.hb
  have hl : lv_has ls 3 [(0, .ref h), (1, .int v)] := hl
  have hk : kp L f L f [h, tp] := kp.rf
  refine lv_bipush (v := 24) hx hb dX5_append_0 (by decide) ?_
  refine lv_istore_n (lv' := [(2, .int 24), (0, .ref h), (1, .int v)]) hx hb dX5_append_2 rfl hl (by decide) rfl (fun ls hl => ?_)
  refine lv_iload_n hx hb dX5_append_3 rfl (lv_at hl 0 rfl) ?_
  refine lv_if_lt (tgt := 49) hx hb dX5_append_4 (by decide) (fun h => absurd h (by decide)) (fun _ => ?_)
  refine lv_aload_n hx hb dX5_append_7 rfl (lv_at hl 1 rfl) ?_
  refine pg_get S Y ok_X5 4 (by decide) kf5_31 (v := .int 0) p_h rfl dX5_append_8 ?_
  refine lv_sipush (v := 300) hx hb dX5_append_11 (by decide) ?_
  refine lv_icmp_ge (tgt := 43) hx hb dX5_append_14 (by decide) (fun h => absurd h (by decide)) (fun _ => ?_)
  refine lv_aload_n hx hb dX5_append_17 rfl (lv_at hl 1 rfl) ?_
  refine pg_get S Y ok_X5 0 (by decide) kf5_9 (v := .ref tp) p_h rfl dX5_append_18 ?_
  refine lv_aload_n hx hb dX5_append_21 rfl (lv_at hl 1 rfl) ?_
  refine pg_get S Y ok_X5 4 (by decide) kf5_31 (v := .int 0) p_h rfl dX5_append_22 ?_
  refine lv_iload_n hx hb dX5_append_25 rfl (lv_at hl 2 rfl) ?_
  refine lv_iload_n hx hb dX5_append_26 rfl (lv_at hl 0 rfl) ?_
  obtain ⟨x_143, ex_143⟩ : ∃ z : Int32, z = (v.toUInt32 >>> ((24 : Int32).toUInt32 &&& Int32.toUInt32 31)).toInt32 := ⟨_, rfl⟩
  refine lv_iushr (v := x_143) hx hb dX5_append_27 (ex_143.symm) ?_
  refine lv_sipush (v := 255) hx hb dX5_append_28 (by decide) ?_
  refine lv_iand hx hb dX5_append_31 ?_
  refine lv_topi (fun x_144 ex_144 => ?_)
  refine pg_iast S Y p_tp (by unfold vp_in; decide) dX5_append_32 (fun f_146 H locs ef_146 Y => ?_)
  obtain ⟨g_145, eg_145⟩ : ∃ z, z = upd (g) (0 : Int32).toNatClampNeg x_144 := ⟨_, rfl⟩
  rw [← eg_145] at ef_146
  have p_h := p_h.up ef_146 ((p_h.neA p_tp))
  have p_tp := p_tp.me ef_146
  have hk := hk.up ef_146 (by simp)
  refine lv_aload_n hx hb dX5_append_33 rfl (lv_at hl 1 rfl) ?_
  refine lv_dup hx hb dX5_append_34 rfl ?_
  refine pg_get S Y ok_X5 4 (by decide) kf5_31 (v := .int 0) p_h rfl dX5_append_35 ?_
  refine lv_iconst (v := 1) hx hb dX5_append_38 (by decide) ?_
  refine lv_iadd hx hb dX5_append_39 ?_
  refine lv_fold (z := 1) (by decide) ?_
  refine pg_put S Y ok_X5 4 (by decide) kf5_31 rfl (fs' := [.ref tp, .ref ki, .ref pl, .ref va, .int 1, .int 0, .int 0, .int 0, .int 0, .int 0, .int 0, .null, .int (-1), .int (-1)]) (v := .int 1) p_h rfl rfl rfl (Nat.le_of_ble_eq_true rfl) dX5_append_40 (fun f_147 H locs ef_147 Y => ?_)
  have p_tp := p_tp.up ef_147 ((p_tp.neB p_h))
  have p_h := p_h.me ef_147
  have hk := hk.up ef_147 (by simp)
  refine lv_iinc (v := 16) (lv' := [(2, .int 16), (0, .ref h), (1, .int v)]) hx hb dX5_append_43 hl (k := 0) rfl (by decide) (by decide) rfl (fun ls hl => ?_)
  refine lv_goto (tgt := 3) hx hb dX5_append_46 (by decide) ?_
  refine lv_iload_n hx hb dX5_append_3 rfl (lv_at hl 0 rfl) ?_
  refine lv_if_lt (tgt := 49) hx hb dX5_append_4 (by decide) (fun h => absurd h (by decide)) (fun _ => ?_)
  refine lv_aload_n hx hb dX5_append_7 rfl (lv_at hl 1 rfl) ?_
  refine pg_get S Y ok_X5 4 (by decide) kf5_31 (v := .int 1) p_h rfl dX5_append_8 ?_
  refine lv_sipush (v := 300) hx hb dX5_append_11 (by decide) ?_
  refine lv_icmp_ge (tgt := 43) hx hb dX5_append_14 (by decide) (fun h => absurd h (by decide)) (fun _ => ?_)
  refine lv_aload_n hx hb dX5_append_17 rfl (lv_at hl 1 rfl) ?_
  refine pg_get S Y ok_X5 0 (by decide) kf5_9 (v := .ref tp) p_h rfl dX5_append_18 ?_
  refine lv_aload_n hx hb dX5_append_21 rfl (lv_at hl 1 rfl) ?_
  refine pg_get S Y ok_X5 4 (by decide) kf5_31 (v := .int 1) p_h rfl dX5_append_22 ?_
  refine lv_iload_n hx hb dX5_append_25 rfl (lv_at hl 2 rfl) ?_
  refine lv_iload_n hx hb dX5_append_26 rfl (lv_at hl 0 rfl) ?_
  obtain ⟨x_148, ex_148⟩ : ∃ z : Int32, z = (v.toUInt32 >>> ((16 : Int32).toUInt32 &&& Int32.toUInt32 31)).toInt32 := ⟨_, rfl⟩
  refine lv_iushr (v := x_148) hx hb dX5_append_27 (ex_148.symm) ?_
  refine lv_sipush (v := 255) hx hb dX5_append_28 (by decide) ?_
  refine lv_iand hx hb dX5_append_31 ?_
  refine lv_topi (fun x_149 ex_149 => ?_)
  refine pg_iast S Y p_tp (by unfold vp_in; decide) dX5_append_32 (fun f_151 H locs ef_151 Y => ?_)
  obtain ⟨g_150, eg_150⟩ : ∃ z, z = upd (g_145) (1 : Int32).toNatClampNeg x_149 := ⟨_, rfl⟩
  rw [← eg_150] at ef_151
  have p_h := p_h.up ef_151 ((p_h.neA p_tp))
  have p_tp := p_tp.me ef_151
  have hk := hk.up ef_151 (by simp)
  refine lv_aload_n hx hb dX5_append_33 rfl (lv_at hl 1 rfl) ?_
  refine lv_dup hx hb dX5_append_34 rfl ?_
  refine pg_get S Y ok_X5 4 (by decide) kf5_31 (v := .int 1) p_h rfl dX5_append_35 ?_
  refine lv_iconst (v := 1) hx hb dX5_append_38 (by decide) ?_
  refine lv_iadd hx hb dX5_append_39 ?_
  refine lv_fold (z := 2) (by decide) ?_
  refine pg_put S Y ok_X5 4 (by decide) kf5_31 rfl (fs' := [.ref tp, .ref ki, .ref pl, .ref va, .int 2, .int 0, .int 0, .int 0, .int 0, .int 0, .int 0, .null, .int (-1), .int (-1)]) (v := .int 2) p_h rfl rfl rfl (Nat.le_of_ble_eq_true rfl) dX5_append_40 (fun f_152 H locs ef_152 Y => ?_)
  have p_tp := p_tp.up ef_152 ((p_tp.neB p_h))
  have p_h := p_h.me ef_152
  have hk := hk.up ef_152 (by simp)
  refine lv_iinc (v := 8) (lv' := [(2, .int 8), (0, .ref h), (1, .int v)]) hx hb dX5_append_43 hl (k := 0) rfl (by decide) (by decide) rfl (fun ls hl => ?_)
  refine lv_goto (tgt := 3) hx hb dX5_append_46 (by decide) ?_
  refine lv_iload_n hx hb dX5_append_3 rfl (lv_at hl 0 rfl) ?_
  refine lv_if_lt (tgt := 49) hx hb dX5_append_4 (by decide) (fun h => absurd h (by decide)) (fun _ => ?_)
  refine lv_aload_n hx hb dX5_append_7 rfl (lv_at hl 1 rfl) ?_
  refine pg_get S Y ok_X5 4 (by decide) kf5_31 (v := .int 2) p_h rfl dX5_append_8 ?_
  refine lv_sipush (v := 300) hx hb dX5_append_11 (by decide) ?_
  refine lv_icmp_ge (tgt := 43) hx hb dX5_append_14 (by decide) (fun h => absurd h (by decide)) (fun _ => ?_)
  refine lv_aload_n hx hb dX5_append_17 rfl (lv_at hl 1 rfl) ?_
  refine pg_get S Y ok_X5 0 (by decide) kf5_9 (v := .ref tp) p_h rfl dX5_append_18 ?_
  refine lv_aload_n hx hb dX5_append_21 rfl (lv_at hl 1 rfl) ?_
  refine pg_get S Y ok_X5 4 (by decide) kf5_31 (v := .int 2) p_h rfl dX5_append_22 ?_
  refine lv_iload_n hx hb dX5_append_25 rfl (lv_at hl 2 rfl) ?_
  refine lv_iload_n hx hb dX5_append_26 rfl (lv_at hl 0 rfl) ?_
  obtain ⟨x_153, ex_153⟩ : ∃ z : Int32, z = (v.toUInt32 >>> ((8 : Int32).toUInt32 &&& Int32.toUInt32 31)).toInt32 := ⟨_, rfl⟩
  refine lv_iushr (v := x_153) hx hb dX5_append_27 (ex_153.symm) ?_
  refine lv_sipush (v := 255) hx hb dX5_append_28 (by decide) ?_
  refine lv_iand hx hb dX5_append_31 ?_
  refine lv_topi (fun x_154 ex_154 => ?_)
  refine pg_iast S Y p_tp (by unfold vp_in; decide) dX5_append_32 (fun f_156 H locs ef_156 Y => ?_)
  obtain ⟨g_155, eg_155⟩ : ∃ z, z = upd (g_150) (2 : Int32).toNatClampNeg x_154 := ⟨_, rfl⟩
  rw [← eg_155] at ef_156
  have p_h := p_h.up ef_156 ((p_h.neA p_tp))
  have p_tp := p_tp.me ef_156
  have hk := hk.up ef_156 (by simp)
  refine lv_aload_n hx hb dX5_append_33 rfl (lv_at hl 1 rfl) ?_
  refine lv_dup hx hb dX5_append_34 rfl ?_
  refine pg_get S Y ok_X5 4 (by decide) kf5_31 (v := .int 2) p_h rfl dX5_append_35 ?_
  refine lv_iconst (v := 1) hx hb dX5_append_38 (by decide) ?_
  refine lv_iadd hx hb dX5_append_39 ?_
  refine lv_fold (z := 3) (by decide) ?_
  refine pg_put S Y ok_X5 4 (by decide) kf5_31 rfl (fs' := [.ref tp, .ref ki, .ref pl, .ref va, .int 3, .int 0, .int 0, .int 0, .int 0, .int 0, .int 0, .null, .int (-1), .int (-1)]) (v := .int 3) p_h rfl rfl rfl (Nat.le_of_ble_eq_true rfl) dX5_append_40 (fun f_157 H locs ef_157 Y => ?_)
  have p_tp := p_tp.up ef_157 ((p_tp.neB p_h))
  have p_h := p_h.me ef_157
  have hk := hk.up ef_157 (by simp)
  refine lv_iinc (v := 0) (lv' := [(2, .int 0), (0, .ref h), (1, .int v)]) hx hb dX5_append_43 hl (k := 0) rfl (by decide) (by decide) rfl (fun ls hl => ?_)
  refine lv_goto (tgt := 3) hx hb dX5_append_46 (by decide) ?_
  refine lv_iload_n hx hb dX5_append_3 rfl (lv_at hl 0 rfl) ?_
  refine lv_if_lt (tgt := 49) hx hb dX5_append_4 (by decide) (fun h => absurd h (by decide)) (fun _ => ?_)
  refine lv_aload_n hx hb dX5_append_7 rfl (lv_at hl 1 rfl) ?_
  refine pg_get S Y ok_X5 4 (by decide) kf5_31 (v := .int 3) p_h rfl dX5_append_8 ?_
  refine lv_sipush (v := 300) hx hb dX5_append_11 (by decide) ?_
  refine lv_icmp_ge (tgt := 43) hx hb dX5_append_14 (by decide) (fun h => absurd h (by decide)) (fun _ => ?_)
  refine lv_aload_n hx hb dX5_append_17 rfl (lv_at hl 1 rfl) ?_
  refine pg_get S Y ok_X5 0 (by decide) kf5_9 (v := .ref tp) p_h rfl dX5_append_18 ?_
  refine lv_aload_n hx hb dX5_append_21 rfl (lv_at hl 1 rfl) ?_
  refine pg_get S Y ok_X5 4 (by decide) kf5_31 (v := .int 3) p_h rfl dX5_append_22 ?_
  refine lv_iload_n hx hb dX5_append_25 rfl (lv_at hl 2 rfl) ?_
  refine lv_iload_n hx hb dX5_append_26 rfl (lv_at hl 0 rfl) ?_
  obtain ⟨x_158, ex_158⟩ : ∃ z : Int32, z = (v.toUInt32 >>> ((0 : Int32).toUInt32 &&& Int32.toUInt32 31)).toInt32 := ⟨_, rfl⟩
  refine lv_iushr (v := x_158) hx hb dX5_append_27 (ex_158.symm) ?_
  refine lv_sipush (v := 255) hx hb dX5_append_28 (by decide) ?_
  refine lv_iand hx hb dX5_append_31 ?_
  refine lv_topi (fun x_159 ex_159 => ?_)
  refine pg_iast S Y p_tp (by unfold vp_in; decide) dX5_append_32 (fun f_161 H locs ef_161 Y => ?_)
  obtain ⟨g_160, eg_160⟩ : ∃ z, z = upd (g_155) (3 : Int32).toNatClampNeg x_159 := ⟨_, rfl⟩
  rw [← eg_160] at ef_161
  have p_h := p_h.up ef_161 ((p_h.neA p_tp))
  have p_tp := p_tp.me ef_161
  have hk := hk.up ef_161 (by simp)
  refine lv_aload_n hx hb dX5_append_33 rfl (lv_at hl 1 rfl) ?_
  refine lv_dup hx hb dX5_append_34 rfl ?_
  refine pg_get S Y ok_X5 4 (by decide) kf5_31 (v := .int 3) p_h rfl dX5_append_35 ?_
  refine lv_iconst (v := 1) hx hb dX5_append_38 (by decide) ?_
  refine lv_iadd hx hb dX5_append_39 ?_
  refine lv_fold (z := 4) (by decide) ?_
  refine pg_put S Y ok_X5 4 (by decide) kf5_31 rfl (fs' := [.ref tp, .ref ki, .ref pl, .ref va, .int 4, .int 0, .int 0, .int 0, .int 0, .int 0, .int 0, .null, .int (-1), .int (-1)]) (v := .int 4) p_h rfl rfl rfl (Nat.le_of_ble_eq_true rfl) dX5_append_40 (fun f_162 H locs ef_162 Y => ?_)
  have p_tp := p_tp.up ef_162 ((p_tp.neB p_h))
  have p_h := p_h.me ef_162
  have hk := hk.up ef_162 (by simp)
  refine lv_iinc (v := (-8)) (lv' := [(2, .int (-8)), (0, .ref h), (1, .int v)]) hx hb dX5_append_43 hl (k := 0) rfl (by decide) (by decide) rfl (fun ls hl => ?_)
  refine lv_goto (tgt := 3) hx hb dX5_append_46 (by decide) ?_
  refine lv_iload_n hx hb dX5_append_3 rfl (lv_at hl 0 rfl) ?_
  refine lv_if_lt (tgt := 49) hx hb dX5_append_4 (by decide) (fun _ => ?_) (fun h => absurd (by decide) h)
  exact prV (post := fun L1 f1 => ∃ g1 : Nat → Int32, kp L f L1 f1 [h, tp] ∧ pt L1 f1 h (.inr (5, [.ref tp, .ref ki, .ref pl, .ref va, .int 4, .int 0, .int 0, .int 0, .int 0, .int 0, .int 0, .null, .int (-1), .int (-1)])) ∧ pt L1 f1 tp (.inl (G.2 0, 300, .inl g1))) S Y (by decide) (by decide) hA1 ⟨g_160, hk, p_h, p_tp⟩ dX5_append_49
set_option maxHeartbeats 4000000 in
set_option maxRecDepth 100000 in
theorem c_append_4 {l : Launch} {G : GG} {L : List Nat} {f : HF} {h tp ki pl va : Nat} {v : Int32} {g : Nat → Int32}  (p_h : pt L f h (.inr (5, [.ref tp, .ref ki, .ref pl, .ref va, .int 4, .int 0, .int 0, .int 0, .int 0, .int 0, .int 0, .null, .int (-1), .int (-1)]))) (p_tp : pt L f tp (.inl (G.2 0, 300, .inl g)))  : PMv l yX5_append cX5_append 3 0 0 0 G [.ref h, .int v] L f (fun L1 f1 => ∃ g1 : Nat → Int32, kp L f L1 f1 [h, tp] ∧ pt L1 f1 h (.inr (5, [.ref tp, .ref ki, .ref pl, .ref va, .int 8, .int 0, .int 0, .int 0, .int 0, .int 0, .int 0, .null, .int (-1), .int (-1)])) ∧ pt L1 f1 tp (.inl (G.2 0, 300, .inl g1))) := by
  refine PMv.of (post := fun L1 f1 => ∃ g1 : Nat → Int32, kp L f L1 f1 [h, tp] ∧ pt L1 f1 h (.inr (5, [.ref tp, .ref ki, .ref pl, .ref va, .int 8, .int 0, .int 0, .int 0, .int 0, .int 0, .int 0, .null, .int (-1), .int (-1)])) ∧ pt L1 f1 tp (.inl (G.2 0, 300, .inl g1))) (own := RX5) (by decide) rfl (Nat.le_of_ble_eq_true rfl) (fun sz p e s m args below meth c A ls hA1 hname S Y hl => ?_)
  have hx := S.hx
  have hb := S.hb
  have hl : lv_has ls 3 [(0, .ref h), (1, .int v)] := hl
  have hk : kp L f L f [h, tp] := kp.rf
  refine lv_bipush (v := 24) hx hb dX5_append_0 (by decide) ?_
  refine lv_istore_n (lv' := [(2, .int 24), (0, .ref h), (1, .int v)]) hx hb dX5_append_2 rfl hl (by decide) rfl (fun ls hl => ?_)
  refine lv_iload_n hx hb dX5_append_3 rfl (lv_at hl 0 rfl) ?_
  refine lv_if_lt (tgt := 49) hx hb dX5_append_4 (by decide) (fun h => absurd h (by decide)) (fun _ => ?_)
  refine lv_aload_n hx hb dX5_append_7 rfl (lv_at hl 1 rfl) ?_
  refine pg_get S Y ok_X5 4 (by decide) kf5_31 (v := .int 4) p_h rfl dX5_append_8 ?_
  refine lv_sipush (v := 300) hx hb dX5_append_11 (by decide) ?_
  refine lv_icmp_ge (tgt := 43) hx hb dX5_append_14 (by decide) (fun h => absurd h (by decide)) (fun _ => ?_)
  refine lv_aload_n hx hb dX5_append_17 rfl (lv_at hl 1 rfl) ?_
  refine pg_get S Y ok_X5 0 (by decide) kf5_9 (v := .ref tp) p_h rfl dX5_append_18 ?_
  refine lv_aload_n hx hb dX5_append_21 rfl (lv_at hl 1 rfl) ?_
  refine pg_get S Y ok_X5 4 (by decide) kf5_31 (v := .int 4) p_h rfl dX5_append_22 ?_
  refine lv_iload_n hx hb dX5_append_25 rfl (lv_at hl 2 rfl) ?_
  refine lv_iload_n hx hb dX5_append_26 rfl (lv_at hl 0 rfl) ?_
  obtain ⟨x_163, ex_163⟩ : ∃ z : Int32, z = (v.toUInt32 >>> ((24 : Int32).toUInt32 &&& Int32.toUInt32 31)).toInt32 := ⟨_, rfl⟩
  refine lv_iushr (v := x_163) hx hb dX5_append_27 (ex_163.symm) ?_
  refine lv_sipush (v := 255) hx hb dX5_append_28 (by decide) ?_
  refine lv_iand hx hb dX5_append_31 ?_
  refine lv_topi (fun x_164 ex_164 => ?_)
  refine pg_iast S Y p_tp (by unfold vp_in; decide) dX5_append_32 (fun f_166 H locs ef_166 Y => ?_)
  obtain ⟨g_165, eg_165⟩ : ∃ z, z = upd (g) (4 : Int32).toNatClampNeg x_164 := ⟨_, rfl⟩
  rw [← eg_165] at ef_166
  have p_h := p_h.up ef_166 ((p_h.neA p_tp))
  have p_tp := p_tp.me ef_166
  have hk := hk.up ef_166 (by simp)
  refine lv_aload_n hx hb dX5_append_33 rfl (lv_at hl 1 rfl) ?_
  refine lv_dup hx hb dX5_append_34 rfl ?_
  refine pg_get S Y ok_X5 4 (by decide) kf5_31 (v := .int 4) p_h rfl dX5_append_35 ?_
  refine lv_iconst (v := 1) hx hb dX5_append_38 (by decide) ?_
  refine lv_iadd hx hb dX5_append_39 ?_
  refine lv_fold (z := 5) (by decide) ?_
  refine pg_put S Y ok_X5 4 (by decide) kf5_31 rfl (fs' := [.ref tp, .ref ki, .ref pl, .ref va, .int 5, .int 0, .int 0, .int 0, .int 0, .int 0, .int 0, .null, .int (-1), .int (-1)]) (v := .int 5) p_h rfl rfl rfl (Nat.le_of_ble_eq_true rfl) dX5_append_40 (fun f_167 H locs ef_167 Y => ?_)
  have p_tp := p_tp.up ef_167 ((p_tp.neB p_h))
  have p_h := p_h.me ef_167
  have hk := hk.up ef_167 (by simp)
  refine lv_iinc (v := 16) (lv' := [(2, .int 16), (0, .ref h), (1, .int v)]) hx hb dX5_append_43 hl (k := 0) rfl (by decide) (by decide) rfl (fun ls hl => ?_)
  refine lv_goto (tgt := 3) hx hb dX5_append_46 (by decide) ?_
  refine lv_iload_n hx hb dX5_append_3 rfl (lv_at hl 0 rfl) ?_
  refine lv_if_lt (tgt := 49) hx hb dX5_append_4 (by decide) (fun h => absurd h (by decide)) (fun _ => ?_)
  refine lv_aload_n hx hb dX5_append_7 rfl (lv_at hl 1 rfl) ?_
  refine pg_get S Y ok_X5 4 (by decide) kf5_31 (v := .int 5) p_h rfl dX5_append_8 ?_
  refine lv_sipush (v := 300) hx hb dX5_append_11 (by decide) ?_
  refine lv_icmp_ge (tgt := 43) hx hb dX5_append_14 (by decide) (fun h => absurd h (by decide)) (fun _ => ?_)
  refine lv_aload_n hx hb dX5_append_17 rfl (lv_at hl 1 rfl) ?_
  refine pg_get S Y ok_X5 0 (by decide) kf5_9 (v := .ref tp) p_h rfl dX5_append_18 ?_
  refine lv_aload_n hx hb dX5_append_21 rfl (lv_at hl 1 rfl) ?_
  refine pg_get S Y ok_X5 4 (by decide) kf5_31 (v := .int 5) p_h rfl dX5_append_22 ?_
  refine lv_iload_n hx hb dX5_append_25 rfl (lv_at hl 2 rfl) ?_
  refine lv_iload_n hx hb dX5_append_26 rfl (lv_at hl 0 rfl) ?_
  obtain ⟨x_168, ex_168⟩ : ∃ z : Int32, z = (v.toUInt32 >>> ((16 : Int32).toUInt32 &&& Int32.toUInt32 31)).toInt32 := ⟨_, rfl⟩
  refine lv_iushr (v := x_168) hx hb dX5_append_27 (ex_168.symm) ?_
  refine lv_sipush (v := 255) hx hb dX5_append_28 (by decide) ?_
  refine lv_iand hx hb dX5_append_31 ?_
  refine lv_topi (fun x_169 ex_169 => ?_)
  refine pg_iast S Y p_tp (by unfold vp_in; decide) dX5_append_32 (fun f_171 H locs ef_171 Y => ?_)
  obtain ⟨g_170, eg_170⟩ : ∃ z, z = upd (g_165) (5 : Int32).toNatClampNeg x_169 := ⟨_, rfl⟩
  rw [← eg_170] at ef_171
  have p_h := p_h.up ef_171 ((p_h.neA p_tp))
  have p_tp := p_tp.me ef_171
  have hk := hk.up ef_171 (by simp)
  refine lv_aload_n hx hb dX5_append_33 rfl (lv_at hl 1 rfl) ?_
  refine lv_dup hx hb dX5_append_34 rfl ?_
  refine pg_get S Y ok_X5 4 (by decide) kf5_31 (v := .int 5) p_h rfl dX5_append_35 ?_
  refine lv_iconst (v := 1) hx hb dX5_append_38 (by decide) ?_
  refine lv_iadd hx hb dX5_append_39 ?_
  refine lv_fold (z := 6) (by decide) ?_
  refine pg_put S Y ok_X5 4 (by decide) kf5_31 rfl (fs' := [.ref tp, .ref ki, .ref pl, .ref va, .int 6, .int 0, .int 0, .int 0, .int 0, .int 0, .int 0, .null, .int (-1), .int (-1)]) (v := .int 6) p_h rfl rfl rfl (Nat.le_of_ble_eq_true rfl) dX5_append_40 (fun f_172 H locs ef_172 Y => ?_)
  have p_tp := p_tp.up ef_172 ((p_tp.neB p_h))
  have p_h := p_h.me ef_172
  have hk := hk.up ef_172 (by simp)
  refine lv_iinc (v := 8) (lv' := [(2, .int 8), (0, .ref h), (1, .int v)]) hx hb dX5_append_43 hl (k := 0) rfl (by decide) (by decide) rfl (fun ls hl => ?_)
  refine lv_goto (tgt := 3) hx hb dX5_append_46 (by decide) ?_
  refine lv_iload_n hx hb dX5_append_3 rfl (lv_at hl 0 rfl) ?_
  refine lv_if_lt (tgt := 49) hx hb dX5_append_4 (by decide) (fun h => absurd h (by decide)) (fun _ => ?_)
  refine lv_aload_n hx hb dX5_append_7 rfl (lv_at hl 1 rfl) ?_
  refine pg_get S Y ok_X5 4 (by decide) kf5_31 (v := .int 6) p_h rfl dX5_append_8 ?_
  refine lv_sipush (v := 300) hx hb dX5_append_11 (by decide) ?_
  refine lv_icmp_ge (tgt := 43) hx hb dX5_append_14 (by decide) (fun h => absurd h (by decide)) (fun _ => ?_)
  refine lv_aload_n hx hb dX5_append_17 rfl (lv_at hl 1 rfl) ?_
  refine pg_get S Y ok_X5 0 (by decide) kf5_9 (v := .ref tp) p_h rfl dX5_append_18 ?_
  refine lv_aload_n hx hb dX5_append_21 rfl (lv_at hl 1 rfl) ?_
  refine pg_get S Y ok_X5 4 (by decide) kf5_31 (v := .int 6) p_h rfl dX5_append_22 ?_
  refine lv_iload_n hx hb dX5_append_25 rfl (lv_at hl 2 rfl) ?_
  refine lv_iload_n hx hb dX5_append_26 rfl (lv_at hl 0 rfl) ?_
  obtain ⟨x_173, ex_173⟩ : ∃ z : Int32, z = (v.toUInt32 >>> ((8 : Int32).toUInt32 &&& Int32.toUInt32 31)).toInt32 := ⟨_, rfl⟩
  refine lv_iushr (v := x_173) hx hb dX5_append_27 (ex_173.symm) ?_
  refine lv_sipush (v := 255) hx hb dX5_append_28 (by decide) ?_
  refine lv_iand hx hb dX5_append_31 ?_
  refine lv_topi (fun x_174 ex_174 => ?_)
  refine pg_iast S Y p_tp (by unfold vp_in; decide) dX5_append_32 (fun f_176 H locs ef_176 Y => ?_)
  obtain ⟨g_175, eg_175⟩ : ∃ z, z = upd (g_170) (6 : Int32).toNatClampNeg x_174 := ⟨_, rfl⟩
  rw [← eg_175] at ef_176
  have p_h := p_h.up ef_176 ((p_h.neA p_tp))
  have p_tp := p_tp.me ef_176
  have hk := hk.up ef_176 (by simp)
  refine lv_aload_n hx hb dX5_append_33 rfl (lv_at hl 1 rfl) ?_
  refine lv_dup hx hb dX5_append_34 rfl ?_
  refine pg_get S Y ok_X5 4 (by decide) kf5_31 (v := .int 6) p_h rfl dX5_append_35 ?_
  refine lv_iconst (v := 1) hx hb dX5_append_38 (by decide) ?_
  refine lv_iadd hx hb dX5_append_39 ?_
  refine lv_fold (z := 7) (by decide) ?_
  refine pg_put S Y ok_X5 4 (by decide) kf5_31 rfl (fs' := [.ref tp, .ref ki, .ref pl, .ref va, .int 7, .int 0, .int 0, .int 0, .int 0, .int 0, .int 0, .null, .int (-1), .int (-1)]) (v := .int 7) p_h rfl rfl rfl (Nat.le_of_ble_eq_true rfl) dX5_append_40 (fun f_177 H locs ef_177 Y => ?_)
  have p_tp := p_tp.up ef_177 ((p_tp.neB p_h))
  have p_h := p_h.me ef_177
  have hk := hk.up ef_177 (by simp)
  refine lv_iinc (v := 0) (lv' := [(2, .int 0), (0, .ref h), (1, .int v)]) hx hb dX5_append_43 hl (k := 0) rfl (by decide) (by decide) rfl (fun ls hl => ?_)
  refine lv_goto (tgt := 3) hx hb dX5_append_46 (by decide) ?_
  refine lv_iload_n hx hb dX5_append_3 rfl (lv_at hl 0 rfl) ?_
  refine lv_if_lt (tgt := 49) hx hb dX5_append_4 (by decide) (fun h => absurd h (by decide)) (fun _ => ?_)
  refine lv_aload_n hx hb dX5_append_7 rfl (lv_at hl 1 rfl) ?_
  refine pg_get S Y ok_X5 4 (by decide) kf5_31 (v := .int 7) p_h rfl dX5_append_8 ?_
  refine lv_sipush (v := 300) hx hb dX5_append_11 (by decide) ?_
  refine lv_icmp_ge (tgt := 43) hx hb dX5_append_14 (by decide) (fun h => absurd h (by decide)) (fun _ => ?_)
  refine lv_aload_n hx hb dX5_append_17 rfl (lv_at hl 1 rfl) ?_
  refine pg_get S Y ok_X5 0 (by decide) kf5_9 (v := .ref tp) p_h rfl dX5_append_18 ?_
  refine lv_aload_n hx hb dX5_append_21 rfl (lv_at hl 1 rfl) ?_
  refine pg_get S Y ok_X5 4 (by decide) kf5_31 (v := .int 7) p_h rfl dX5_append_22 ?_
  refine lv_iload_n hx hb dX5_append_25 rfl (lv_at hl 2 rfl) ?_
  refine lv_iload_n hx hb dX5_append_26 rfl (lv_at hl 0 rfl) ?_
  obtain ⟨x_178, ex_178⟩ : ∃ z : Int32, z = (v.toUInt32 >>> ((0 : Int32).toUInt32 &&& Int32.toUInt32 31)).toInt32 := ⟨_, rfl⟩
  refine lv_iushr (v := x_178) hx hb dX5_append_27 (ex_178.symm) ?_
  refine lv_sipush (v := 255) hx hb dX5_append_28 (by decide) ?_
  refine lv_iand hx hb dX5_append_31 ?_
  refine lv_topi (fun x_179 ex_179 => ?_)
  refine pg_iast S Y p_tp (by unfold vp_in; decide) dX5_append_32 (fun f_181 H locs ef_181 Y => ?_)
  obtain ⟨g_180, eg_180⟩ : ∃ z, z = upd (g_175) (7 : Int32).toNatClampNeg x_179 := ⟨_, rfl⟩
  rw [← eg_180] at ef_181
  have p_h := p_h.up ef_181 ((p_h.neA p_tp))
  have p_tp := p_tp.me ef_181
  have hk := hk.up ef_181 (by simp)
  refine lv_aload_n hx hb dX5_append_33 rfl (lv_at hl 1 rfl) ?_
  refine lv_dup hx hb dX5_append_34 rfl ?_
  refine pg_get S Y ok_X5 4 (by decide) kf5_31 (v := .int 7) p_h rfl dX5_append_35 ?_
  refine lv_iconst (v := 1) hx hb dX5_append_38 (by decide) ?_
  refine lv_iadd hx hb dX5_append_39 ?_
  refine lv_fold (z := 8) (by decide) ?_
  refine pg_put S Y ok_X5 4 (by decide) kf5_31 rfl (fs' := [.ref tp, .ref ki, .ref pl, .ref va, .int 8, .int 0, .int 0, .int 0, .int 0, .int 0, .int 0, .null, .int (-1), .int (-1)]) (v := .int 8) p_h rfl rfl rfl (Nat.le_of_ble_eq_true rfl) dX5_append_40 (fun f_182 H locs ef_182 Y => ?_)
  have p_tp := p_tp.up ef_182 ((p_tp.neB p_h))
  have p_h := p_h.me ef_182
  have hk := hk.up ef_182 (by simp)
  refine lv_iinc (v := (-8)) (lv' := [(2, .int (-8)), (0, .ref h), (1, .int v)]) hx hb dX5_append_43 hl (k := 0) rfl (by decide) (by decide) rfl (fun ls hl => ?_)
  refine lv_goto (tgt := 3) hx hb dX5_append_46 (by decide) ?_
  refine lv_iload_n hx hb dX5_append_3 rfl (lv_at hl 0 rfl) ?_
  refine lv_if_lt (tgt := 49) hx hb dX5_append_4 (by decide) (fun _ => ?_) (fun h => absurd (by decide) h)
  exact prV (post := fun L1 f1 => ∃ g1 : Nat → Int32, kp L f L1 f1 [h, tp] ∧ pt L1 f1 h (.inr (5, [.ref tp, .ref ki, .ref pl, .ref va, .int 8, .int 0, .int 0, .int 0, .int 0, .int 0, .int 0, .null, .int (-1), .int (-1)])) ∧ pt L1 f1 tp (.inl (G.2 0, 300, .inl g1))) S Y (by decide) (by decide) hA1 ⟨g_180, hk, p_h, p_tp⟩ dX5_append_49
set_option maxHeartbeats 4000000 in
set_option maxRecDepth 100000 in
theorem c_append_8 {l : Launch} {G : GG} {L : List Nat} {f : HF} {h tp ki pl va : Nat} {v : Int32} {g : Nat → Int32}  (p_h : pt L f h (.inr (5, [.ref tp, .ref ki, .ref pl, .ref va, .int 8, .int 0, .int 0, .int 0, .int 0, .int 0, .int 0, .null, .int (-1), .int (-1)]))) (p_tp : pt L f tp (.inl (G.2 0, 300, .inl g)))  : PMv l yX5_append cX5_append 3 0 0 0 G [.ref h, .int v] L f (fun L1 f1 => ∃ g1 : Nat → Int32, kp L f L1 f1 [h, tp] ∧ pt L1 f1 h (.inr (5, [.ref tp, .ref ki, .ref pl, .ref va, .int 12, .int 0, .int 0, .int 0, .int 0, .int 0, .int 0, .null, .int (-1), .int (-1)])) ∧ pt L1 f1 tp (.inl (G.2 0, 300, .inl g1))) := by
  refine PMv.of (post := fun L1 f1 => ∃ g1 : Nat → Int32, kp L f L1 f1 [h, tp] ∧ pt L1 f1 h (.inr (5, [.ref tp, .ref ki, .ref pl, .ref va, .int 12, .int 0, .int 0, .int 0, .int 0, .int 0, .int 0, .null, .int (-1), .int (-1)])) ∧ pt L1 f1 tp (.inl (G.2 0, 300, .inl g1))) (own := RX5) (by decide) rfl (Nat.le_of_ble_eq_true rfl) (fun sz p e s m args below meth c A ls hA1 hname S Y hl => ?_)
  have hx := S.hx
  have hb := S.hb
  have hl : lv_has ls 3 [(0, .ref h), (1, .int v)] := hl
  have hk : kp L f L f [h, tp] := kp.rf
  refine lv_bipush (v := 24) hx hb dX5_append_0 (by decide) ?_
  refine lv_istore_n (lv' := [(2, .int 24), (0, .ref h), (1, .int v)]) hx hb dX5_append_2 rfl hl (by decide) rfl (fun ls hl => ?_)
  refine lv_iload_n hx hb dX5_append_3 rfl (lv_at hl 0 rfl) ?_
  refine lv_if_lt (tgt := 49) hx hb dX5_append_4 (by decide) (fun h => absurd h (by decide)) (fun _ => ?_)
  refine lv_aload_n hx hb dX5_append_7 rfl (lv_at hl 1 rfl) ?_
  refine pg_get S Y ok_X5 4 (by decide) kf5_31 (v := .int 8) p_h rfl dX5_append_8 ?_
  refine lv_sipush (v := 300) hx hb dX5_append_11 (by decide) ?_
  refine lv_icmp_ge (tgt := 43) hx hb dX5_append_14 (by decide) (fun h => absurd h (by decide)) (fun _ => ?_)
  refine lv_aload_n hx hb dX5_append_17 rfl (lv_at hl 1 rfl) ?_
  refine pg_get S Y ok_X5 0 (by decide) kf5_9 (v := .ref tp) p_h rfl dX5_append_18 ?_
  refine lv_aload_n hx hb dX5_append_21 rfl (lv_at hl 1 rfl) ?_
  refine pg_get S Y ok_X5 4 (by decide) kf5_31 (v := .int 8) p_h rfl dX5_append_22 ?_
  refine lv_iload_n hx hb dX5_append_25 rfl (lv_at hl 2 rfl) ?_
  refine lv_iload_n hx hb dX5_append_26 rfl (lv_at hl 0 rfl) ?_
  obtain ⟨x_183, ex_183⟩ : ∃ z : Int32, z = (v.toUInt32 >>> ((24 : Int32).toUInt32 &&& Int32.toUInt32 31)).toInt32 := ⟨_, rfl⟩
  refine lv_iushr (v := x_183) hx hb dX5_append_27 (ex_183.symm) ?_
  refine lv_sipush (v := 255) hx hb dX5_append_28 (by decide) ?_
  refine lv_iand hx hb dX5_append_31 ?_
  refine lv_topi (fun x_184 ex_184 => ?_)
  refine pg_iast S Y p_tp (by unfold vp_in; decide) dX5_append_32 (fun f_186 H locs ef_186 Y => ?_)
  obtain ⟨g_185, eg_185⟩ : ∃ z, z = upd (g) (8 : Int32).toNatClampNeg x_184 := ⟨_, rfl⟩
  rw [← eg_185] at ef_186
  have p_h := p_h.up ef_186 ((p_h.neA p_tp))
  have p_tp := p_tp.me ef_186
  have hk := hk.up ef_186 (by simp)
  refine lv_aload_n hx hb dX5_append_33 rfl (lv_at hl 1 rfl) ?_
  refine lv_dup hx hb dX5_append_34 rfl ?_
  refine pg_get S Y ok_X5 4 (by decide) kf5_31 (v := .int 8) p_h rfl dX5_append_35 ?_
  refine lv_iconst (v := 1) hx hb dX5_append_38 (by decide) ?_
  refine lv_iadd hx hb dX5_append_39 ?_
  refine lv_fold (z := 9) (by decide) ?_
  refine pg_put S Y ok_X5 4 (by decide) kf5_31 rfl (fs' := [.ref tp, .ref ki, .ref pl, .ref va, .int 9, .int 0, .int 0, .int 0, .int 0, .int 0, .int 0, .null, .int (-1), .int (-1)]) (v := .int 9) p_h rfl rfl rfl (Nat.le_of_ble_eq_true rfl) dX5_append_40 (fun f_187 H locs ef_187 Y => ?_)
  have p_tp := p_tp.up ef_187 ((p_tp.neB p_h))
  have p_h := p_h.me ef_187
  have hk := hk.up ef_187 (by simp)
  refine lv_iinc (v := 16) (lv' := [(2, .int 16), (0, .ref h), (1, .int v)]) hx hb dX5_append_43 hl (k := 0) rfl (by decide) (by decide) rfl (fun ls hl => ?_)
  refine lv_goto (tgt := 3) hx hb dX5_append_46 (by decide) ?_
  refine lv_iload_n hx hb dX5_append_3 rfl (lv_at hl 0 rfl) ?_
  refine lv_if_lt (tgt := 49) hx hb dX5_append_4 (by decide) (fun h => absurd h (by decide)) (fun _ => ?_)
  refine lv_aload_n hx hb dX5_append_7 rfl (lv_at hl 1 rfl) ?_
  refine pg_get S Y ok_X5 4 (by decide) kf5_31 (v := .int 9) p_h rfl dX5_append_8 ?_
  refine lv_sipush (v := 300) hx hb dX5_append_11 (by decide) ?_
  refine lv_icmp_ge (tgt := 43) hx hb dX5_append_14 (by decide) (fun h => absurd h (by decide)) (fun _ => ?_)
  refine lv_aload_n hx hb dX5_append_17 rfl (lv_at hl 1 rfl) ?_
  refine pg_get S Y ok_X5 0 (by decide) kf5_9 (v := .ref tp) p_h rfl dX5_append_18 ?_
  refine lv_aload_n hx hb dX5_append_21 rfl (lv_at hl 1 rfl) ?_
  refine pg_get S Y ok_X5 4 (by decide) kf5_31 (v := .int 9) p_h rfl dX5_append_22 ?_
  refine lv_iload_n hx hb dX5_append_25 rfl (lv_at hl 2 rfl) ?_
  refine lv_iload_n hx hb dX5_append_26 rfl (lv_at hl 0 rfl) ?_
  obtain ⟨x_188, ex_188⟩ : ∃ z : Int32, z = (v.toUInt32 >>> ((16 : Int32).toUInt32 &&& Int32.toUInt32 31)).toInt32 := ⟨_, rfl⟩
  refine lv_iushr (v := x_188) hx hb dX5_append_27 (ex_188.symm) ?_
  refine lv_sipush (v := 255) hx hb dX5_append_28 (by decide) ?_
  refine lv_iand hx hb dX5_append_31 ?_
  refine lv_topi (fun x_189 ex_189 => ?_)
  refine pg_iast S Y p_tp (by unfold vp_in; decide) dX5_append_32 (fun f_191 H locs ef_191 Y => ?_)
  obtain ⟨g_190, eg_190⟩ : ∃ z, z = upd (g_185) (9 : Int32).toNatClampNeg x_189 := ⟨_, rfl⟩
  rw [← eg_190] at ef_191
  have p_h := p_h.up ef_191 ((p_h.neA p_tp))
  have p_tp := p_tp.me ef_191
  have hk := hk.up ef_191 (by simp)
  refine lv_aload_n hx hb dX5_append_33 rfl (lv_at hl 1 rfl) ?_
  refine lv_dup hx hb dX5_append_34 rfl ?_
  refine pg_get S Y ok_X5 4 (by decide) kf5_31 (v := .int 9) p_h rfl dX5_append_35 ?_
  refine lv_iconst (v := 1) hx hb dX5_append_38 (by decide) ?_
  refine lv_iadd hx hb dX5_append_39 ?_
  refine lv_fold (z := 10) (by decide) ?_
  refine pg_put S Y ok_X5 4 (by decide) kf5_31 rfl (fs' := [.ref tp, .ref ki, .ref pl, .ref va, .int 10, .int 0, .int 0, .int 0, .int 0, .int 0, .int 0, .null, .int (-1), .int (-1)]) (v := .int 10) p_h rfl rfl rfl (Nat.le_of_ble_eq_true rfl) dX5_append_40 (fun f_192 H locs ef_192 Y => ?_)
  have p_tp := p_tp.up ef_192 ((p_tp.neB p_h))
  have p_h := p_h.me ef_192
  have hk := hk.up ef_192 (by simp)
  refine lv_iinc (v := 8) (lv' := [(2, .int 8), (0, .ref h), (1, .int v)]) hx hb dX5_append_43 hl (k := 0) rfl (by decide) (by decide) rfl (fun ls hl => ?_)
  refine lv_goto (tgt := 3) hx hb dX5_append_46 (by decide) ?_
  refine lv_iload_n hx hb dX5_append_3 rfl (lv_at hl 0 rfl) ?_
  refine lv_if_lt (tgt := 49) hx hb dX5_append_4 (by decide) (fun h => absurd h (by decide)) (fun _ => ?_)
  refine lv_aload_n hx hb dX5_append_7 rfl (lv_at hl 1 rfl) ?_
  refine pg_get S Y ok_X5 4 (by decide) kf5_31 (v := .int 10) p_h rfl dX5_append_8 ?_
  refine lv_sipush (v := 300) hx hb dX5_append_11 (by decide) ?_
  refine lv_icmp_ge (tgt := 43) hx hb dX5_append_14 (by decide) (fun h => absurd h (by decide)) (fun _ => ?_)
  refine lv_aload_n hx hb dX5_append_17 rfl (lv_at hl 1 rfl) ?_
  refine pg_get S Y ok_X5 0 (by decide) kf5_9 (v := .ref tp) p_h rfl dX5_append_18 ?_
  refine lv_aload_n hx hb dX5_append_21 rfl (lv_at hl 1 rfl) ?_
  refine pg_get S Y ok_X5 4 (by decide) kf5_31 (v := .int 10) p_h rfl dX5_append_22 ?_
  refine lv_iload_n hx hb dX5_append_25 rfl (lv_at hl 2 rfl) ?_
  refine lv_iload_n hx hb dX5_append_26 rfl (lv_at hl 0 rfl) ?_
  obtain ⟨x_193, ex_193⟩ : ∃ z : Int32, z = (v.toUInt32 >>> ((8 : Int32).toUInt32 &&& Int32.toUInt32 31)).toInt32 := ⟨_, rfl⟩
  refine lv_iushr (v := x_193) hx hb dX5_append_27 (ex_193.symm) ?_
  refine lv_sipush (v := 255) hx hb dX5_append_28 (by decide) ?_
  refine lv_iand hx hb dX5_append_31 ?_
  refine lv_topi (fun x_194 ex_194 => ?_)
  refine pg_iast S Y p_tp (by unfold vp_in; decide) dX5_append_32 (fun f_196 H locs ef_196 Y => ?_)
  obtain ⟨g_195, eg_195⟩ : ∃ z, z = upd (g_190) (10 : Int32).toNatClampNeg x_194 := ⟨_, rfl⟩
  rw [← eg_195] at ef_196
  have p_h := p_h.up ef_196 ((p_h.neA p_tp))
  have p_tp := p_tp.me ef_196
  have hk := hk.up ef_196 (by simp)
  refine lv_aload_n hx hb dX5_append_33 rfl (lv_at hl 1 rfl) ?_
  refine lv_dup hx hb dX5_append_34 rfl ?_
  refine pg_get S Y ok_X5 4 (by decide) kf5_31 (v := .int 10) p_h rfl dX5_append_35 ?_
  refine lv_iconst (v := 1) hx hb dX5_append_38 (by decide) ?_
  refine lv_iadd hx hb dX5_append_39 ?_
  refine lv_fold (z := 11) (by decide) ?_
  refine pg_put S Y ok_X5 4 (by decide) kf5_31 rfl (fs' := [.ref tp, .ref ki, .ref pl, .ref va, .int 11, .int 0, .int 0, .int 0, .int 0, .int 0, .int 0, .null, .int (-1), .int (-1)]) (v := .int 11) p_h rfl rfl rfl (Nat.le_of_ble_eq_true rfl) dX5_append_40 (fun f_197 H locs ef_197 Y => ?_)
  have p_tp := p_tp.up ef_197 ((p_tp.neB p_h))
  have p_h := p_h.me ef_197
  have hk := hk.up ef_197 (by simp)
  refine lv_iinc (v := 0) (lv' := [(2, .int 0), (0, .ref h), (1, .int v)]) hx hb dX5_append_43 hl (k := 0) rfl (by decide) (by decide) rfl (fun ls hl => ?_)
  refine lv_goto (tgt := 3) hx hb dX5_append_46 (by decide) ?_
  refine lv_iload_n hx hb dX5_append_3 rfl (lv_at hl 0 rfl) ?_
  refine lv_if_lt (tgt := 49) hx hb dX5_append_4 (by decide) (fun h => absurd h (by decide)) (fun _ => ?_)
  refine lv_aload_n hx hb dX5_append_7 rfl (lv_at hl 1 rfl) ?_
  refine pg_get S Y ok_X5 4 (by decide) kf5_31 (v := .int 11) p_h rfl dX5_append_8 ?_
  refine lv_sipush (v := 300) hx hb dX5_append_11 (by decide) ?_
  refine lv_icmp_ge (tgt := 43) hx hb dX5_append_14 (by decide) (fun h => absurd h (by decide)) (fun _ => ?_)
  refine lv_aload_n hx hb dX5_append_17 rfl (lv_at hl 1 rfl) ?_
  refine pg_get S Y ok_X5 0 (by decide) kf5_9 (v := .ref tp) p_h rfl dX5_append_18 ?_
  refine lv_aload_n hx hb dX5_append_21 rfl (lv_at hl 1 rfl) ?_
  refine pg_get S Y ok_X5 4 (by decide) kf5_31 (v := .int 11) p_h rfl dX5_append_22 ?_
  refine lv_iload_n hx hb dX5_append_25 rfl (lv_at hl 2 rfl) ?_
  refine lv_iload_n hx hb dX5_append_26 rfl (lv_at hl 0 rfl) ?_
  obtain ⟨x_198, ex_198⟩ : ∃ z : Int32, z = (v.toUInt32 >>> ((0 : Int32).toUInt32 &&& Int32.toUInt32 31)).toInt32 := ⟨_, rfl⟩
  refine lv_iushr (v := x_198) hx hb dX5_append_27 (ex_198.symm) ?_
  refine lv_sipush (v := 255) hx hb dX5_append_28 (by decide) ?_
  refine lv_iand hx hb dX5_append_31 ?_
  refine lv_topi (fun x_199 ex_199 => ?_)
  refine pg_iast S Y p_tp (by unfold vp_in; decide) dX5_append_32 (fun f_201 H locs ef_201 Y => ?_)
  obtain ⟨g_200, eg_200⟩ : ∃ z, z = upd (g_195) (11 : Int32).toNatClampNeg x_199 := ⟨_, rfl⟩
  rw [← eg_200] at ef_201
  have p_h := p_h.up ef_201 ((p_h.neA p_tp))
  have p_tp := p_tp.me ef_201
  have hk := hk.up ef_201 (by simp)
  refine lv_aload_n hx hb dX5_append_33 rfl (lv_at hl 1 rfl) ?_
  refine lv_dup hx hb dX5_append_34 rfl ?_
  refine pg_get S Y ok_X5 4 (by decide) kf5_31 (v := .int 11) p_h rfl dX5_append_35 ?_
  refine lv_iconst (v := 1) hx hb dX5_append_38 (by decide) ?_
  refine lv_iadd hx hb dX5_append_39 ?_
  refine lv_fold (z := 12) (by decide) ?_
  refine pg_put S Y ok_X5 4 (by decide) kf5_31 rfl (fs' := [.ref tp, .ref ki, .ref pl, .ref va, .int 12, .int 0, .int 0, .int 0, .int 0, .int 0, .int 0, .null, .int (-1), .int (-1)]) (v := .int 12) p_h rfl rfl rfl (Nat.le_of_ble_eq_true rfl) dX5_append_40 (fun f_202 H locs ef_202 Y => ?_)
  have p_tp := p_tp.up ef_202 ((p_tp.neB p_h))
  have p_h := p_h.me ef_202
  have hk := hk.up ef_202 (by simp)
  refine lv_iinc (v := (-8)) (lv' := [(2, .int (-8)), (0, .ref h), (1, .int v)]) hx hb dX5_append_43 hl (k := 0) rfl (by decide) (by decide) rfl (fun ls hl => ?_)
  refine lv_goto (tgt := 3) hx hb dX5_append_46 (by decide) ?_
  refine lv_iload_n hx hb dX5_append_3 rfl (lv_at hl 0 rfl) ?_
  refine lv_if_lt (tgt := 49) hx hb dX5_append_4 (by decide) (fun _ => ?_) (fun h => absurd (by decide) h)
  exact prV (post := fun L1 f1 => ∃ g1 : Nat → Int32, kp L f L1 f1 [h, tp] ∧ pt L1 f1 h (.inr (5, [.ref tp, .ref ki, .ref pl, .ref va, .int 12, .int 0, .int 0, .int 0, .int 0, .int 0, .int 0, .null, .int (-1), .int (-1)])) ∧ pt L1 f1 tp (.inl (G.2 0, 300, .inl g1))) S Y (by decide) (by decide) hA1 ⟨g_200, hk, p_h, p_tp⟩ dX5_append_49
set_option maxHeartbeats 4000000 in
set_option maxRecDepth 100000 in
theorem c_append_12 {l : Launch} {G : GG} {L : List Nat} {f : HF} {h tp ki pl va : Nat} {v : Int32} {g : Nat → Int32}  (p_h : pt L f h (.inr (5, [.ref tp, .ref ki, .ref pl, .ref va, .int 12, .int 0, .int 0, .int 0, .int 0, .int 0, .int 0, .null, .int (-1), .int (-1)]))) (p_tp : pt L f tp (.inl (G.2 0, 300, .inl g)))  : PMv l yX5_append cX5_append 3 0 0 0 G [.ref h, .int v] L f (fun L1 f1 => ∃ g1 : Nat → Int32, kp L f L1 f1 [h, tp] ∧ pt L1 f1 h (.inr (5, [.ref tp, .ref ki, .ref pl, .ref va, .int 16, .int 0, .int 0, .int 0, .int 0, .int 0, .int 0, .null, .int (-1), .int (-1)])) ∧ pt L1 f1 tp (.inl (G.2 0, 300, .inl g1))) := by
  refine PMv.of (post := fun L1 f1 => ∃ g1 : Nat → Int32, kp L f L1 f1 [h, tp] ∧ pt L1 f1 h (.inr (5, [.ref tp, .ref ki, .ref pl, .ref va, .int 16, .int 0, .int 0, .int 0, .int 0, .int 0, .int 0, .null, .int (-1), .int (-1)])) ∧ pt L1 f1 tp (.inl (G.2 0, 300, .inl g1))) (own := RX5) (by decide) rfl (Nat.le_of_ble_eq_true rfl) (fun sz p e s m args below meth c A ls hA1 hname S Y hl => ?_)
  have hx := S.hx
  have hb := S.hb
  have hl : lv_has ls 3 [(0, .ref h), (1, .int v)] := hl
  have hk : kp L f L f [h, tp] := kp.rf
  refine lv_bipush (v := 24) hx hb dX5_append_0 (by decide) ?_
  refine lv_istore_n (lv' := [(2, .int 24), (0, .ref h), (1, .int v)]) hx hb dX5_append_2 rfl hl (by decide) rfl (fun ls hl => ?_)
  refine lv_iload_n hx hb dX5_append_3 rfl (lv_at hl 0 rfl) ?_
  refine lv_if_lt (tgt := 49) hx hb dX5_append_4 (by decide) (fun h => absurd h (by decide)) (fun _ => ?_)
  refine lv_aload_n hx hb dX5_append_7 rfl (lv_at hl 1 rfl) ?_
  refine pg_get S Y ok_X5 4 (by decide) kf5_31 (v := .int 12) p_h rfl dX5_append_8 ?_
  refine lv_sipush (v := 300) hx hb dX5_append_11 (by decide) ?_
  refine lv_icmp_ge (tgt := 43) hx hb dX5_append_14 (by decide) (fun h => absurd h (by decide)) (fun _ => ?_)
  refine lv_aload_n hx hb dX5_append_17 rfl (lv_at hl 1 rfl) ?_
  refine pg_get S Y ok_X5 0 (by decide) kf5_9 (v := .ref tp) p_h rfl dX5_append_18 ?_
  refine lv_aload_n hx hb dX5_append_21 rfl (lv_at hl 1 rfl) ?_
  refine pg_get S Y ok_X5 4 (by decide) kf5_31 (v := .int 12) p_h rfl dX5_append_22 ?_
  refine lv_iload_n hx hb dX5_append_25 rfl (lv_at hl 2 rfl) ?_
  refine lv_iload_n hx hb dX5_append_26 rfl (lv_at hl 0 rfl) ?_
  obtain ⟨x_203, ex_203⟩ : ∃ z : Int32, z = (v.toUInt32 >>> ((24 : Int32).toUInt32 &&& Int32.toUInt32 31)).toInt32 := ⟨_, rfl⟩
  refine lv_iushr (v := x_203) hx hb dX5_append_27 (ex_203.symm) ?_
  refine lv_sipush (v := 255) hx hb dX5_append_28 (by decide) ?_
  refine lv_iand hx hb dX5_append_31 ?_
  refine lv_topi (fun x_204 ex_204 => ?_)
  refine pg_iast S Y p_tp (by unfold vp_in; decide) dX5_append_32 (fun f_206 H locs ef_206 Y => ?_)
  obtain ⟨g_205, eg_205⟩ : ∃ z, z = upd (g) (12 : Int32).toNatClampNeg x_204 := ⟨_, rfl⟩
  rw [← eg_205] at ef_206
  have p_h := p_h.up ef_206 ((p_h.neA p_tp))
  have p_tp := p_tp.me ef_206
  have hk := hk.up ef_206 (by simp)
  refine lv_aload_n hx hb dX5_append_33 rfl (lv_at hl 1 rfl) ?_
  refine lv_dup hx hb dX5_append_34 rfl ?_
  refine pg_get S Y ok_X5 4 (by decide) kf5_31 (v := .int 12) p_h rfl dX5_append_35 ?_
  refine lv_iconst (v := 1) hx hb dX5_append_38 (by decide) ?_
  refine lv_iadd hx hb dX5_append_39 ?_
  refine lv_fold (z := 13) (by decide) ?_
  refine pg_put S Y ok_X5 4 (by decide) kf5_31 rfl (fs' := [.ref tp, .ref ki, .ref pl, .ref va, .int 13, .int 0, .int 0, .int 0, .int 0, .int 0, .int 0, .null, .int (-1), .int (-1)]) (v := .int 13) p_h rfl rfl rfl (Nat.le_of_ble_eq_true rfl) dX5_append_40 (fun f_207 H locs ef_207 Y => ?_)
  have p_tp := p_tp.up ef_207 ((p_tp.neB p_h))
  have p_h := p_h.me ef_207
  have hk := hk.up ef_207 (by simp)
  refine lv_iinc (v := 16) (lv' := [(2, .int 16), (0, .ref h), (1, .int v)]) hx hb dX5_append_43 hl (k := 0) rfl (by decide) (by decide) rfl (fun ls hl => ?_)
  refine lv_goto (tgt := 3) hx hb dX5_append_46 (by decide) ?_
  refine lv_iload_n hx hb dX5_append_3 rfl (lv_at hl 0 rfl) ?_
  refine lv_if_lt (tgt := 49) hx hb dX5_append_4 (by decide) (fun h => absurd h (by decide)) (fun _ => ?_)
  refine lv_aload_n hx hb dX5_append_7 rfl (lv_at hl 1 rfl) ?_
  refine pg_get S Y ok_X5 4 (by decide) kf5_31 (v := .int 13) p_h rfl dX5_append_8 ?_
  refine lv_sipush (v := 300) hx hb dX5_append_11 (by decide) ?_
  refine lv_icmp_ge (tgt := 43) hx hb dX5_append_14 (by decide) (fun h => absurd h (by decide)) (fun _ => ?_)
  refine lv_aload_n hx hb dX5_append_17 rfl (lv_at hl 1 rfl) ?_
  refine pg_get S Y ok_X5 0 (by decide) kf5_9 (v := .ref tp) p_h rfl dX5_append_18 ?_
  refine lv_aload_n hx hb dX5_append_21 rfl (lv_at hl 1 rfl) ?_
  refine pg_get S Y ok_X5 4 (by decide) kf5_31 (v := .int 13) p_h rfl dX5_append_22 ?_
  refine lv_iload_n hx hb dX5_append_25 rfl (lv_at hl 2 rfl) ?_
  refine lv_iload_n hx hb dX5_append_26 rfl (lv_at hl 0 rfl) ?_
  obtain ⟨x_208, ex_208⟩ : ∃ z : Int32, z = (v.toUInt32 >>> ((16 : Int32).toUInt32 &&& Int32.toUInt32 31)).toInt32 := ⟨_, rfl⟩
  refine lv_iushr (v := x_208) hx hb dX5_append_27 (ex_208.symm) ?_
  refine lv_sipush (v := 255) hx hb dX5_append_28 (by decide) ?_
  refine lv_iand hx hb dX5_append_31 ?_
  refine lv_topi (fun x_209 ex_209 => ?_)
  refine pg_iast S Y p_tp (by unfold vp_in; decide) dX5_append_32 (fun f_211 H locs ef_211 Y => ?_)
  obtain ⟨g_210, eg_210⟩ : ∃ z, z = upd (g_205) (13 : Int32).toNatClampNeg x_209 := ⟨_, rfl⟩
  rw [← eg_210] at ef_211
  have p_h := p_h.up ef_211 ((p_h.neA p_tp))
  have p_tp := p_tp.me ef_211
  have hk := hk.up ef_211 (by simp)
  refine lv_aload_n hx hb dX5_append_33 rfl (lv_at hl 1 rfl) ?_
  refine lv_dup hx hb dX5_append_34 rfl ?_
  refine pg_get S Y ok_X5 4 (by decide) kf5_31 (v := .int 13) p_h rfl dX5_append_35 ?_
  refine lv_iconst (v := 1) hx hb dX5_append_38 (by decide) ?_
  refine lv_iadd hx hb dX5_append_39 ?_
  refine lv_fold (z := 14) (by decide) ?_
  refine pg_put S Y ok_X5 4 (by decide) kf5_31 rfl (fs' := [.ref tp, .ref ki, .ref pl, .ref va, .int 14, .int 0, .int 0, .int 0, .int 0, .int 0, .int 0, .null, .int (-1), .int (-1)]) (v := .int 14) p_h rfl rfl rfl (Nat.le_of_ble_eq_true rfl) dX5_append_40 (fun f_212 H locs ef_212 Y => ?_)
  have p_tp := p_tp.up ef_212 ((p_tp.neB p_h))
  have p_h := p_h.me ef_212
  have hk := hk.up ef_212 (by simp)
  refine lv_iinc (v := 8) (lv' := [(2, .int 8), (0, .ref h), (1, .int v)]) hx hb dX5_append_43 hl (k := 0) rfl (by decide) (by decide) rfl (fun ls hl => ?_)
  refine lv_goto (tgt := 3) hx hb dX5_append_46 (by decide) ?_
  refine lv_iload_n hx hb dX5_append_3 rfl (lv_at hl 0 rfl) ?_
  refine lv_if_lt (tgt := 49) hx hb dX5_append_4 (by decide) (fun h => absurd h (by decide)) (fun _ => ?_)
  refine lv_aload_n hx hb dX5_append_7 rfl (lv_at hl 1 rfl) ?_
  refine pg_get S Y ok_X5 4 (by decide) kf5_31 (v := .int 14) p_h rfl dX5_append_8 ?_
  refine lv_sipush (v := 300) hx hb dX5_append_11 (by decide) ?_
  refine lv_icmp_ge (tgt := 43) hx hb dX5_append_14 (by decide) (fun h => absurd h (by decide)) (fun _ => ?_)
  refine lv_aload_n hx hb dX5_append_17 rfl (lv_at hl 1 rfl) ?_
  refine pg_get S Y ok_X5 0 (by decide) kf5_9 (v := .ref tp) p_h rfl dX5_append_18 ?_
  refine lv_aload_n hx hb dX5_append_21 rfl (lv_at hl 1 rfl) ?_
  refine pg_get S Y ok_X5 4 (by decide) kf5_31 (v := .int 14) p_h rfl dX5_append_22 ?_
  refine lv_iload_n hx hb dX5_append_25 rfl (lv_at hl 2 rfl) ?_
  refine lv_iload_n hx hb dX5_append_26 rfl (lv_at hl 0 rfl) ?_
  obtain ⟨x_213, ex_213⟩ : ∃ z : Int32, z = (v.toUInt32 >>> ((8 : Int32).toUInt32 &&& Int32.toUInt32 31)).toInt32 := ⟨_, rfl⟩
  refine lv_iushr (v := x_213) hx hb dX5_append_27 (ex_213.symm) ?_
  refine lv_sipush (v := 255) hx hb dX5_append_28 (by decide) ?_
  refine lv_iand hx hb dX5_append_31 ?_
  refine lv_topi (fun x_214 ex_214 => ?_)
  refine pg_iast S Y p_tp (by unfold vp_in; decide) dX5_append_32 (fun f_216 H locs ef_216 Y => ?_)
  obtain ⟨g_215, eg_215⟩ : ∃ z, z = upd (g_210) (14 : Int32).toNatClampNeg x_214 := ⟨_, rfl⟩
  rw [← eg_215] at ef_216
  have p_h := p_h.up ef_216 ((p_h.neA p_tp))
  have p_tp := p_tp.me ef_216
  have hk := hk.up ef_216 (by simp)
  refine lv_aload_n hx hb dX5_append_33 rfl (lv_at hl 1 rfl) ?_
  refine lv_dup hx hb dX5_append_34 rfl ?_
  refine pg_get S Y ok_X5 4 (by decide) kf5_31 (v := .int 14) p_h rfl dX5_append_35 ?_
  refine lv_iconst (v := 1) hx hb dX5_append_38 (by decide) ?_
  refine lv_iadd hx hb dX5_append_39 ?_
  refine lv_fold (z := 15) (by decide) ?_
  refine pg_put S Y ok_X5 4 (by decide) kf5_31 rfl (fs' := [.ref tp, .ref ki, .ref pl, .ref va, .int 15, .int 0, .int 0, .int 0, .int 0, .int 0, .int 0, .null, .int (-1), .int (-1)]) (v := .int 15) p_h rfl rfl rfl (Nat.le_of_ble_eq_true rfl) dX5_append_40 (fun f_217 H locs ef_217 Y => ?_)
  have p_tp := p_tp.up ef_217 ((p_tp.neB p_h))
  have p_h := p_h.me ef_217
  have hk := hk.up ef_217 (by simp)
  refine lv_iinc (v := 0) (lv' := [(2, .int 0), (0, .ref h), (1, .int v)]) hx hb dX5_append_43 hl (k := 0) rfl (by decide) (by decide) rfl (fun ls hl => ?_)
  refine lv_goto (tgt := 3) hx hb dX5_append_46 (by decide) ?_
  refine lv_iload_n hx hb dX5_append_3 rfl (lv_at hl 0 rfl) ?_
  refine lv_if_lt (tgt := 49) hx hb dX5_append_4 (by decide) (fun h => absurd h (by decide)) (fun _ => ?_)
  refine lv_aload_n hx hb dX5_append_7 rfl (lv_at hl 1 rfl) ?_
  refine pg_get S Y ok_X5 4 (by decide) kf5_31 (v := .int 15) p_h rfl dX5_append_8 ?_
  refine lv_sipush (v := 300) hx hb dX5_append_11 (by decide) ?_
  refine lv_icmp_ge (tgt := 43) hx hb dX5_append_14 (by decide) (fun h => absurd h (by decide)) (fun _ => ?_)
  refine lv_aload_n hx hb dX5_append_17 rfl (lv_at hl 1 rfl) ?_
  refine pg_get S Y ok_X5 0 (by decide) kf5_9 (v := .ref tp) p_h rfl dX5_append_18 ?_
  refine lv_aload_n hx hb dX5_append_21 rfl (lv_at hl 1 rfl) ?_
  refine pg_get S Y ok_X5 4 (by decide) kf5_31 (v := .int 15) p_h rfl dX5_append_22 ?_
  refine lv_iload_n hx hb dX5_append_25 rfl (lv_at hl 2 rfl) ?_
  refine lv_iload_n hx hb dX5_append_26 rfl (lv_at hl 0 rfl) ?_
  obtain ⟨x_218, ex_218⟩ : ∃ z : Int32, z = (v.toUInt32 >>> ((0 : Int32).toUInt32 &&& Int32.toUInt32 31)).toInt32 := ⟨_, rfl⟩
  refine lv_iushr (v := x_218) hx hb dX5_append_27 (ex_218.symm) ?_
  refine lv_sipush (v := 255) hx hb dX5_append_28 (by decide) ?_
  refine lv_iand hx hb dX5_append_31 ?_
  refine lv_topi (fun x_219 ex_219 => ?_)
  refine pg_iast S Y p_tp (by unfold vp_in; decide) dX5_append_32 (fun f_221 H locs ef_221 Y => ?_)
  obtain ⟨g_220, eg_220⟩ : ∃ z, z = upd (g_215) (15 : Int32).toNatClampNeg x_219 := ⟨_, rfl⟩
  rw [← eg_220] at ef_221
  have p_h := p_h.up ef_221 ((p_h.neA p_tp))
  have p_tp := p_tp.me ef_221
  have hk := hk.up ef_221 (by simp)
  refine lv_aload_n hx hb dX5_append_33 rfl (lv_at hl 1 rfl) ?_
  refine lv_dup hx hb dX5_append_34 rfl ?_
  refine pg_get S Y ok_X5 4 (by decide) kf5_31 (v := .int 15) p_h rfl dX5_append_35 ?_
  refine lv_iconst (v := 1) hx hb dX5_append_38 (by decide) ?_
  refine lv_iadd hx hb dX5_append_39 ?_
  refine lv_fold (z := 16) (by decide) ?_
  refine pg_put S Y ok_X5 4 (by decide) kf5_31 rfl (fs' := [.ref tp, .ref ki, .ref pl, .ref va, .int 16, .int 0, .int 0, .int 0, .int 0, .int 0, .int 0, .null, .int (-1), .int (-1)]) (v := .int 16) p_h rfl rfl rfl (Nat.le_of_ble_eq_true rfl) dX5_append_40 (fun f_222 H locs ef_222 Y => ?_)
  have p_tp := p_tp.up ef_222 ((p_tp.neB p_h))
  have p_h := p_h.me ef_222
  have hk := hk.up ef_222 (by simp)
  refine lv_iinc (v := (-8)) (lv' := [(2, .int (-8)), (0, .ref h), (1, .int v)]) hx hb dX5_append_43 hl (k := 0) rfl (by decide) (by decide) rfl (fun ls hl => ?_)
  refine lv_goto (tgt := 3) hx hb dX5_append_46 (by decide) ?_
  refine lv_iload_n hx hb dX5_append_3 rfl (lv_at hl 0 rfl) ?_
  refine lv_if_lt (tgt := 49) hx hb dX5_append_4 (by decide) (fun _ => ?_) (fun h => absurd (by decide) h)
  exact prV (post := fun L1 f1 => ∃ g1 : Nat → Int32, kp L f L1 f1 [h, tp] ∧ pt L1 f1 h (.inr (5, [.ref tp, .ref ki, .ref pl, .ref va, .int 16, .int 0, .int 0, .int 0, .int 0, .int 0, .int 0, .null, .int (-1), .int (-1)])) ∧ pt L1 f1 tp (.inl (G.2 0, 300, .inl g1))) S Y (by decide) (by decide) hA1 ⟨g_220, hk, p_h, p_tp⟩ dX5_append_49
set_option maxHeartbeats 4000000 in
set_option maxRecDepth 100000 in
theorem c_append_16 {l : Launch} {G : GG} {L : List Nat} {f : HF} {h tp ki pl va : Nat} {v : Int32} {g : Nat → Int32}  (p_h : pt L f h (.inr (5, [.ref tp, .ref ki, .ref pl, .ref va, .int 16, .int 0, .int 0, .int 0, .int 0, .int 0, .int 0, .null, .int (-1), .int (-1)]))) (p_tp : pt L f tp (.inl (G.2 0, 300, .inl g)))  : PMv l yX5_append cX5_append 3 0 0 0 G [.ref h, .int v] L f (fun L1 f1 => ∃ g1 : Nat → Int32, kp L f L1 f1 [h, tp] ∧ pt L1 f1 h (.inr (5, [.ref tp, .ref ki, .ref pl, .ref va, .int 20, .int 0, .int 0, .int 0, .int 0, .int 0, .int 0, .null, .int (-1), .int (-1)])) ∧ pt L1 f1 tp (.inl (G.2 0, 300, .inl g1))) := by
  refine PMv.of (post := fun L1 f1 => ∃ g1 : Nat → Int32, kp L f L1 f1 [h, tp] ∧ pt L1 f1 h (.inr (5, [.ref tp, .ref ki, .ref pl, .ref va, .int 20, .int 0, .int 0, .int 0, .int 0, .int 0, .int 0, .null, .int (-1), .int (-1)])) ∧ pt L1 f1 tp (.inl (G.2 0, 300, .inl g1))) (own := RX5) (by decide) rfl (Nat.le_of_ble_eq_true rfl) (fun sz p e s m args below meth c A ls hA1 hname S Y hl => ?_)
  have hx := S.hx
  have hb := S.hb
  have hl : lv_has ls 3 [(0, .ref h), (1, .int v)] := hl
  have hk : kp L f L f [h, tp] := kp.rf
  refine lv_bipush (v := 24) hx hb dX5_append_0 (by decide) ?_
  refine lv_istore_n (lv' := [(2, .int 24), (0, .ref h), (1, .int v)]) hx hb dX5_append_2 rfl hl (by decide) rfl (fun ls hl => ?_)
  refine lv_iload_n hx hb dX5_append_3 rfl (lv_at hl 0 rfl) ?_
  refine lv_if_lt (tgt := 49) hx hb dX5_append_4 (by decide) (fun h => absurd h (by decide)) (fun _ => ?_)
  refine lv_aload_n hx hb dX5_append_7 rfl (lv_at hl 1 rfl) ?_
  refine pg_get S Y ok_X5 4 (by decide) kf5_31 (v := .int 16) p_h rfl dX5_append_8 ?_
  refine lv_sipush (v := 300) hx hb dX5_append_11 (by decide) ?_
  refine lv_icmp_ge (tgt := 43) hx hb dX5_append_14 (by decide) (fun h => absurd h (by decide)) (fun _ => ?_)
  refine lv_aload_n hx hb dX5_append_17 rfl (lv_at hl 1 rfl) ?_
  refine pg_get S Y ok_X5 0 (by decide) kf5_9 (v := .ref tp) p_h rfl dX5_append_18 ?_
  refine lv_aload_n hx hb dX5_append_21 rfl (lv_at hl 1 rfl) ?_
  refine pg_get S Y ok_X5 4 (by decide) kf5_31 (v := .int 16) p_h rfl dX5_append_22 ?_
  refine lv_iload_n hx hb dX5_append_25 rfl (lv_at hl 2 rfl) ?_
  refine lv_iload_n hx hb dX5_append_26 rfl (lv_at hl 0 rfl) ?_
  obtain ⟨x_223, ex_223⟩ : ∃ z : Int32, z = (v.toUInt32 >>> ((24 : Int32).toUInt32 &&& Int32.toUInt32 31)).toInt32 := ⟨_, rfl⟩
  refine lv_iushr (v := x_223) hx hb dX5_append_27 (ex_223.symm) ?_
  refine lv_sipush (v := 255) hx hb dX5_append_28 (by decide) ?_
  refine lv_iand hx hb dX5_append_31 ?_
  refine lv_topi (fun x_224 ex_224 => ?_)
  refine pg_iast S Y p_tp (by unfold vp_in; decide) dX5_append_32 (fun f_226 H locs ef_226 Y => ?_)
  obtain ⟨g_225, eg_225⟩ : ∃ z, z = upd (g) (16 : Int32).toNatClampNeg x_224 := ⟨_, rfl⟩
  rw [← eg_225] at ef_226
  have p_h := p_h.up ef_226 ((p_h.neA p_tp))
  have p_tp := p_tp.me ef_226
  have hk := hk.up ef_226 (by simp)
  refine lv_aload_n hx hb dX5_append_33 rfl (lv_at hl 1 rfl) ?_
  refine lv_dup hx hb dX5_append_34 rfl ?_
  refine pg_get S Y ok_X5 4 (by decide) kf5_31 (v := .int 16) p_h rfl dX5_append_35 ?_
  refine lv_iconst (v := 1) hx hb dX5_append_38 (by decide) ?_
  refine lv_iadd hx hb dX5_append_39 ?_
  refine lv_fold (z := 17) (by decide) ?_
  refine pg_put S Y ok_X5 4 (by decide) kf5_31 rfl (fs' := [.ref tp, .ref ki, .ref pl, .ref va, .int 17, .int 0, .int 0, .int 0, .int 0, .int 0, .int 0, .null, .int (-1), .int (-1)]) (v := .int 17) p_h rfl rfl rfl (Nat.le_of_ble_eq_true rfl) dX5_append_40 (fun f_227 H locs ef_227 Y => ?_)
  have p_tp := p_tp.up ef_227 ((p_tp.neB p_h))
  have p_h := p_h.me ef_227
  have hk := hk.up ef_227 (by simp)
  refine lv_iinc (v := 16) (lv' := [(2, .int 16), (0, .ref h), (1, .int v)]) hx hb dX5_append_43 hl (k := 0) rfl (by decide) (by decide) rfl (fun ls hl => ?_)
  refine lv_goto (tgt := 3) hx hb dX5_append_46 (by decide) ?_
  refine lv_iload_n hx hb dX5_append_3 rfl (lv_at hl 0 rfl) ?_
  refine lv_if_lt (tgt := 49) hx hb dX5_append_4 (by decide) (fun h => absurd h (by decide)) (fun _ => ?_)
  refine lv_aload_n hx hb dX5_append_7 rfl (lv_at hl 1 rfl) ?_
  refine pg_get S Y ok_X5 4 (by decide) kf5_31 (v := .int 17) p_h rfl dX5_append_8 ?_
  refine lv_sipush (v := 300) hx hb dX5_append_11 (by decide) ?_
  refine lv_icmp_ge (tgt := 43) hx hb dX5_append_14 (by decide) (fun h => absurd h (by decide)) (fun _ => ?_)
  refine lv_aload_n hx hb dX5_append_17 rfl (lv_at hl 1 rfl) ?_
  refine pg_get S Y ok_X5 0 (by decide) kf5_9 (v := .ref tp) p_h rfl dX5_append_18 ?_
  refine lv_aload_n hx hb dX5_append_21 rfl (lv_at hl 1 rfl) ?_
  refine pg_get S Y ok_X5 4 (by decide) kf5_31 (v := .int 17) p_h rfl dX5_append_22 ?_
  refine lv_iload_n hx hb dX5_append_25 rfl (lv_at hl 2 rfl) ?_
  refine lv_iload_n hx hb dX5_append_26 rfl (lv_at hl 0 rfl) ?_
  obtain ⟨x_228, ex_228⟩ : ∃ z : Int32, z = (v.toUInt32 >>> ((16 : Int32).toUInt32 &&& Int32.toUInt32 31)).toInt32 := ⟨_, rfl⟩
  refine lv_iushr (v := x_228) hx hb dX5_append_27 (ex_228.symm) ?_
  refine lv_sipush (v := 255) hx hb dX5_append_28 (by decide) ?_
  refine lv_iand hx hb dX5_append_31 ?_
  refine lv_topi (fun x_229 ex_229 => ?_)
  refine pg_iast S Y p_tp (by unfold vp_in; decide) dX5_append_32 (fun f_231 H locs ef_231 Y => ?_)
  obtain ⟨g_230, eg_230⟩ : ∃ z, z = upd (g_225) (17 : Int32).toNatClampNeg x_229 := ⟨_, rfl⟩
  rw [← eg_230] at ef_231
  have p_h := p_h.up ef_231 ((p_h.neA p_tp))
  have p_tp := p_tp.me ef_231
  have hk := hk.up ef_231 (by simp)
  refine lv_aload_n hx hb dX5_append_33 rfl (lv_at hl 1 rfl) ?_
  refine lv_dup hx hb dX5_append_34 rfl ?_
  refine pg_get S Y ok_X5 4 (by decide) kf5_31 (v := .int 17) p_h rfl dX5_append_35 ?_
  refine lv_iconst (v := 1) hx hb dX5_append_38 (by decide) ?_
  refine lv_iadd hx hb dX5_append_39 ?_
  refine lv_fold (z := 18) (by decide) ?_
  refine pg_put S Y ok_X5 4 (by decide) kf5_31 rfl (fs' := [.ref tp, .ref ki, .ref pl, .ref va, .int 18, .int 0, .int 0, .int 0, .int 0, .int 0, .int 0, .null, .int (-1), .int (-1)]) (v := .int 18) p_h rfl rfl rfl (Nat.le_of_ble_eq_true rfl) dX5_append_40 (fun f_232 H locs ef_232 Y => ?_)
  have p_tp := p_tp.up ef_232 ((p_tp.neB p_h))
  have p_h := p_h.me ef_232
  have hk := hk.up ef_232 (by simp)
  refine lv_iinc (v := 8) (lv' := [(2, .int 8), (0, .ref h), (1, .int v)]) hx hb dX5_append_43 hl (k := 0) rfl (by decide) (by decide) rfl (fun ls hl => ?_)
  refine lv_goto (tgt := 3) hx hb dX5_append_46 (by decide) ?_
  refine lv_iload_n hx hb dX5_append_3 rfl (lv_at hl 0 rfl) ?_
  refine lv_if_lt (tgt := 49) hx hb dX5_append_4 (by decide) (fun h => absurd h (by decide)) (fun _ => ?_)
  refine lv_aload_n hx hb dX5_append_7 rfl (lv_at hl 1 rfl) ?_
  refine pg_get S Y ok_X5 4 (by decide) kf5_31 (v := .int 18) p_h rfl dX5_append_8 ?_
  refine lv_sipush (v := 300) hx hb dX5_append_11 (by decide) ?_
  refine lv_icmp_ge (tgt := 43) hx hb dX5_append_14 (by decide) (fun h => absurd h (by decide)) (fun _ => ?_)
  refine lv_aload_n hx hb dX5_append_17 rfl (lv_at hl 1 rfl) ?_
  refine pg_get S Y ok_X5 0 (by decide) kf5_9 (v := .ref tp) p_h rfl dX5_append_18 ?_
  refine lv_aload_n hx hb dX5_append_21 rfl (lv_at hl 1 rfl) ?_
  refine pg_get S Y ok_X5 4 (by decide) kf5_31 (v := .int 18) p_h rfl dX5_append_22 ?_
  refine lv_iload_n hx hb dX5_append_25 rfl (lv_at hl 2 rfl) ?_
  refine lv_iload_n hx hb dX5_append_26 rfl (lv_at hl 0 rfl) ?_
  obtain ⟨x_233, ex_233⟩ : ∃ z : Int32, z = (v.toUInt32 >>> ((8 : Int32).toUInt32 &&& Int32.toUInt32 31)).toInt32 := ⟨_, rfl⟩
  refine lv_iushr (v := x_233) hx hb dX5_append_27 (ex_233.symm) ?_
  refine lv_sipush (v := 255) hx hb dX5_append_28 (by decide) ?_
  refine lv_iand hx hb dX5_append_31 ?_
  refine lv_topi (fun x_234 ex_234 => ?_)
  refine pg_iast S Y p_tp (by unfold vp_in; decide) dX5_append_32 (fun f_236 H locs ef_236 Y => ?_)
  obtain ⟨g_235, eg_235⟩ : ∃ z, z = upd (g_230) (18 : Int32).toNatClampNeg x_234 := ⟨_, rfl⟩
  rw [← eg_235] at ef_236
  have p_h := p_h.up ef_236 ((p_h.neA p_tp))
  have p_tp := p_tp.me ef_236
  have hk := hk.up ef_236 (by simp)
  refine lv_aload_n hx hb dX5_append_33 rfl (lv_at hl 1 rfl) ?_
  refine lv_dup hx hb dX5_append_34 rfl ?_
  refine pg_get S Y ok_X5 4 (by decide) kf5_31 (v := .int 18) p_h rfl dX5_append_35 ?_
  refine lv_iconst (v := 1) hx hb dX5_append_38 (by decide) ?_
  refine lv_iadd hx hb dX5_append_39 ?_
  refine lv_fold (z := 19) (by decide) ?_
  refine pg_put S Y ok_X5 4 (by decide) kf5_31 rfl (fs' := [.ref tp, .ref ki, .ref pl, .ref va, .int 19, .int 0, .int 0, .int 0, .int 0, .int 0, .int 0, .null, .int (-1), .int (-1)]) (v := .int 19) p_h rfl rfl rfl (Nat.le_of_ble_eq_true rfl) dX5_append_40 (fun f_237 H locs ef_237 Y => ?_)
  have p_tp := p_tp.up ef_237 ((p_tp.neB p_h))
  have p_h := p_h.me ef_237
  have hk := hk.up ef_237 (by simp)
  refine lv_iinc (v := 0) (lv' := [(2, .int 0), (0, .ref h), (1, .int v)]) hx hb dX5_append_43 hl (k := 0) rfl (by decide) (by decide) rfl (fun ls hl => ?_)
  refine lv_goto (tgt := 3) hx hb dX5_append_46 (by decide) ?_
  refine lv_iload_n hx hb dX5_append_3 rfl (lv_at hl 0 rfl) ?_
  refine lv_if_lt (tgt := 49) hx hb dX5_append_4 (by decide) (fun h => absurd h (by decide)) (fun _ => ?_)
  refine lv_aload_n hx hb dX5_append_7 rfl (lv_at hl 1 rfl) ?_
  refine pg_get S Y ok_X5 4 (by decide) kf5_31 (v := .int 19) p_h rfl dX5_append_8 ?_
  refine lv_sipush (v := 300) hx hb dX5_append_11 (by decide) ?_
  refine lv_icmp_ge (tgt := 43) hx hb dX5_append_14 (by decide) (fun h => absurd h (by decide)) (fun _ => ?_)
  refine lv_aload_n hx hb dX5_append_17 rfl (lv_at hl 1 rfl) ?_
  refine pg_get S Y ok_X5 0 (by decide) kf5_9 (v := .ref tp) p_h rfl dX5_append_18 ?_
  refine lv_aload_n hx hb dX5_append_21 rfl (lv_at hl 1 rfl) ?_
  refine pg_get S Y ok_X5 4 (by decide) kf5_31 (v := .int 19) p_h rfl dX5_append_22 ?_
  refine lv_iload_n hx hb dX5_append_25 rfl (lv_at hl 2 rfl) ?_
  refine lv_iload_n hx hb dX5_append_26 rfl (lv_at hl 0 rfl) ?_
  obtain ⟨x_238, ex_238⟩ : ∃ z : Int32, z = (v.toUInt32 >>> ((0 : Int32).toUInt32 &&& Int32.toUInt32 31)).toInt32 := ⟨_, rfl⟩
  refine lv_iushr (v := x_238) hx hb dX5_append_27 (ex_238.symm) ?_
  refine lv_sipush (v := 255) hx hb dX5_append_28 (by decide) ?_
  refine lv_iand hx hb dX5_append_31 ?_
  refine lv_topi (fun x_239 ex_239 => ?_)
  refine pg_iast S Y p_tp (by unfold vp_in; decide) dX5_append_32 (fun f_241 H locs ef_241 Y => ?_)
  obtain ⟨g_240, eg_240⟩ : ∃ z, z = upd (g_235) (19 : Int32).toNatClampNeg x_239 := ⟨_, rfl⟩
  rw [← eg_240] at ef_241
  have p_h := p_h.up ef_241 ((p_h.neA p_tp))
  have p_tp := p_tp.me ef_241
  have hk := hk.up ef_241 (by simp)
  refine lv_aload_n hx hb dX5_append_33 rfl (lv_at hl 1 rfl) ?_
  refine lv_dup hx hb dX5_append_34 rfl ?_
  refine pg_get S Y ok_X5 4 (by decide) kf5_31 (v := .int 19) p_h rfl dX5_append_35 ?_
  refine lv_iconst (v := 1) hx hb dX5_append_38 (by decide) ?_
  refine lv_iadd hx hb dX5_append_39 ?_
  refine lv_fold (z := 20) (by decide) ?_
  refine pg_put S Y ok_X5 4 (by decide) kf5_31 rfl (fs' := [.ref tp, .ref ki, .ref pl, .ref va, .int 20, .int 0, .int 0, .int 0, .int 0, .int 0, .int 0, .null, .int (-1), .int (-1)]) (v := .int 20) p_h rfl rfl rfl (Nat.le_of_ble_eq_true rfl) dX5_append_40 (fun f_242 H locs ef_242 Y => ?_)
  have p_tp := p_tp.up ef_242 ((p_tp.neB p_h))
  have p_h := p_h.me ef_242
  have hk := hk.up ef_242 (by simp)
  refine lv_iinc (v := (-8)) (lv' := [(2, .int (-8)), (0, .ref h), (1, .int v)]) hx hb dX5_append_43 hl (k := 0) rfl (by decide) (by decide) rfl (fun ls hl => ?_)
  refine lv_goto (tgt := 3) hx hb dX5_append_46 (by decide) ?_
  refine lv_iload_n hx hb dX5_append_3 rfl (lv_at hl 0 rfl) ?_
  refine lv_if_lt (tgt := 49) hx hb dX5_append_4 (by decide) (fun _ => ?_) (fun h => absurd (by decide) h)
  exact prV (post := fun L1 f1 => ∃ g1 : Nat → Int32, kp L f L1 f1 [h, tp] ∧ pt L1 f1 h (.inr (5, [.ref tp, .ref ki, .ref pl, .ref va, .int 20, .int 0, .int 0, .int 0, .int 0, .int 0, .int 0, .null, .int (-1), .int (-1)])) ∧ pt L1 f1 tp (.inl (G.2 0, 300, .inl g1))) S Y (by decide) (by decide) hA1 ⟨g_240, hk, p_h, p_tp⟩ dX5_append_49
set_option maxHeartbeats 4000000 in
set_option maxRecDepth 100000 in
theorem c_X5_hasRoomFor {l : Launch} {G : GG} {L : List Nat} {f : HF} {h tp ki pl va : Nat}  (p_h : pt L f h (.inr (5, [.ref tp, .ref ki, .ref pl, .ref va, .int 0, .int 0, .int 0, .int 0, .int 0, .int 0, .int 0, .null, .int (-1), .int (-1)])))  : PMp l yX5_hasRoomFor cX5_hasRoomFor 2 .boolean 0 0 0 G [.ref h, .int 20] L f (fun r => r = 1) := by
  refine PMi.of (post := fun r L1 f1 => (r = 1) ∧ L1 = L ∧ f1 = f) (own := RX5) (by decide) rfl (Nat.le_of_ble_eq_true rfl) (fun sz p e s m args below meth c A ls hA1 hname S Y hl => ?_)
  have hx := S.hx
  have hb := S.hb
  have hl : lv_has ls 2 [(0, .ref h), (1, .int 20)] := hl
  refine lv_aload_n hx hb dX5_hasRoomFor_0 rfl (lv_at hl 0 rfl) ?_
  refine pg_get S Y ok_X5 4 (by decide) kf5_31 (v := .int 0) p_h rfl dX5_hasRoomFor_1 ?_
  refine lv_iload_n hx hb dX5_hasRoomFor_4 rfl (lv_at hl 1 rfl) ?_
  refine lv_iadd hx hb dX5_hasRoomFor_5 ?_
  refine lv_fold (z := 20) (by decide) ?_
  refine lv_sipush (v := 300) hx hb dX5_hasRoomFor_6 (by decide) ?_
  refine lv_icmp_gt (tgt := 16) hx hb dX5_hasRoomFor_9 (by decide) (fun h => absurd h (by decide)) (fun _ => ?_)
  refine lv_iconst (v := 1) hx hb dX5_hasRoomFor_12 (by decide) ?_
  refine lv_goto (tgt := 17) hx hb dX5_hasRoomFor_13 (by decide) ?_
  exact prI (post := fun r L1 f1 => (r = 1) ∧ L1 = L ∧ f1 = f) S Y rfl (by decide) (by decide) hA1 ⟨rfl, rfl, rfl⟩ dX5_hasRoomFor_17
set_option maxHeartbeats 4000000 in
set_option maxRecDepth 100000 in
theorem c_size20 {l : Launch} {G : GG} {L : List Nat} {f : HF} {h tp ki pl va : Nat}  (p_h : pt L f h (.inr (5, [.ref tp, .ref ki, .ref pl, .ref va, .int 20, .int 0, .int 0, .int 0, .int 0, .int 0, .int 0, .null, .int (-1), .int (-1)])))  : PMp l yX5_size cX5_size 1 .int 0 0 0 G [.ref h] L f (fun r => r = 20) := by
  refine PMi.of (post := fun r L1 f1 => (r = 20) ∧ L1 = L ∧ f1 = f) (own := RX5) (by decide) rfl (Nat.le_of_ble_eq_true rfl) (fun sz p e s m args below meth c A ls hA1 hname S Y hl => ?_)
  have hx := S.hx
  have hb := S.hb
  have hl : lv_has ls 1 [(0, .ref h)] := hl
  refine lv_aload_n hx hb dX5_size_0 rfl (lv_at hl 0 rfl) ?_
  refine pg_get S Y ok_X5 4 (by decide) kf5_31 (v := .int 20) p_h rfl dX5_size_1 ?_
  exact prI (post := fun r L1 f1 => (r = 20) ∧ L1 = L ∧ f1 = f) S Y rfl (by decide) (by decide) hA1 ⟨rfl, rfl, rfl⟩ dX5_size_4
set_option maxHeartbeats 4000000 in
set_option maxRecDepth 100000 in
theorem c_X11_feed {l : Launch} {G : GG} {L : List Nat} {f : HF} {h w k rd jd rg dd fo su ch tp ki pl va : Nat} {v1 v2 v3 v4 v5 : Int32} {g : Nat → Int32}  (p_h : pt L f h (.inr (11, [.ref w, .ref k, .ref rd, .ref jd, .ref rg, .ref dd, .ref fo, .ref su, .ref ch]))) (p_rd : pt L f rd (.inr (5, [.ref tp, .ref ki, .ref pl, .ref va, .int 0, .int 0, .int 0, .int 0, .int 0, .int 0, .int 0, .null, .int (-1), .int (-1)]))) (p_tp : pt L f tp (.inl (G.2 0, 300, .inl g)))  : PMi l yX11_feed cX11_feed 6 .int 1 0 0 G [.ref h, .int v1, .int v2, .int v3, .int v4, .int v5] L f (fun r L1 f1 => r = 20) := by
  refine PMi.of (post := fun r L1 f1 => r = 20) (own := RX11) (by decide) rfl (Nat.le_of_ble_eq_true rfl) (fun sz p e s m args below meth c A ls hA1 hname S Y hl => ?_)
  have hx := S.hx
  have hb := S.hb
  have hl : lv_has ls 6 [(0, .ref h), (1, .int v1), (2, .int v2), (3, .int v3), (4, .int v4), (5, .int v5)] := hl
  refine lv_aload_n hx hb dX11_feed_0 rfl (lv_at hl 0 rfl) ?_
  refine pg_get S Y ok_X11 2 (by decide) kf11_25 (v := .ref rd) p_h rfl dX11_feed_1 ?_
  refine lv_bipush (v := 20) hx hb dX11_feed_4 (by decide) ?_
  refine cVp (As := [.int 20]) (rest := []) S Y (c_X5_hasRoomFor (l := l) p_rd) cw_X5_hasRoomFor km11_83 p_rd ok_X5.1 rfl rfl ⟨Nat.le_of_ble_eq_true rfl, Nat.le_of_ble_eq_true rfl⟩ hl.1 rfl (Nat.le_of_ble_eq_true rfl) ⟨Nat.le_of_ble_eq_true rfl, Nat.le_of_ble_eq_true rfl⟩ dX11_feed_6 (fun r_243 H locs er_243 Y => ?_)
  refine lv_fold (z := 1) er_243 ?_
  refine lv_if_ne (tgt := 14) hx hb dX11_feed_9 (by decide) (fun _ => ?_) (fun h => absurd h (by decide))
  refine lv_aload_n hx hb dX11_feed_14 rfl (lv_at hl 0 rfl) ?_
  refine pg_get S Y ok_X11 2 (by decide) kf11_25 (v := .ref rd) p_h rfl dX11_feed_15 ?_
  refine lv_iload_n hx hb dX11_feed_18 rfl (lv_at hl 1 rfl) ?_
  refine cVv (As := [.int v1]) (rest := []) S Y (c_append_0 (l := l) p_rd p_tp) cw_X5_append km11_87 p_rd ok_X5.1 rfl rfl ⟨Nat.le_of_ble_eq_true rfl, Nat.le_of_ble_eq_true rfl⟩ hl.1 rfl (Nat.le_of_ble_eq_true rfl) ⟨Nat.le_of_ble_eq_true rfl, Nat.le_of_ble_eq_true rfl⟩ dX11_feed_19 (fun L_244 f_245 H locs hf_245 Y => ?_)
  obtain ⟨g__246, kf_245, z_z_247, z_z_248⟩ := hf_245
  have p_h := kf_245.1 h _ (nmc (p_h.neK p_rd (by decide)) (nmc (p_h.neA p_tp) nm0)) p_h
  have p_rd := z_z_247
  have p_tp := z_z_248
  refine lv_aload_n hx hb dX11_feed_22 rfl (lv_at hl 0 rfl) ?_
  refine pg_get S Y ok_X11 2 (by decide) kf11_25 (v := .ref rd) p_h rfl dX11_feed_23 ?_
  refine lv_iload_n hx hb dX11_feed_26 rfl (lv_at hl 2 rfl) ?_
  refine cVv (As := [.int v2]) (rest := []) S Y (c_append_4 (l := l) p_rd p_tp) cw_X5_append km11_87 p_rd ok_X5.1 rfl rfl ⟨Nat.le_of_ble_eq_true rfl, Nat.le_of_ble_eq_true rfl⟩ hl.1 rfl (Nat.le_of_ble_eq_true rfl) ⟨Nat.le_of_ble_eq_true rfl, Nat.le_of_ble_eq_true rfl⟩ dX11_feed_27 (fun L_249 f_250 H locs hf_250 Y => ?_)
  obtain ⟨g__251, kf_250, z_z_252, z_z_253⟩ := hf_250
  have p_h := kf_250.1 h _ (nmc (p_h.neK p_rd (by decide)) (nmc (p_h.neA p_tp) nm0)) p_h
  have p_rd := z_z_252
  have p_tp := z_z_253
  refine lv_aload_n hx hb dX11_feed_30 rfl (lv_at hl 0 rfl) ?_
  refine pg_get S Y ok_X11 2 (by decide) kf11_25 (v := .ref rd) p_h rfl dX11_feed_31 ?_
  refine lv_iload_n hx hb dX11_feed_34 rfl (lv_at hl 3 rfl) ?_
  refine cVv (As := [.int v3]) (rest := []) S Y (c_append_8 (l := l) p_rd p_tp) cw_X5_append km11_87 p_rd ok_X5.1 rfl rfl ⟨Nat.le_of_ble_eq_true rfl, Nat.le_of_ble_eq_true rfl⟩ hl.1 rfl (Nat.le_of_ble_eq_true rfl) ⟨Nat.le_of_ble_eq_true rfl, Nat.le_of_ble_eq_true rfl⟩ dX11_feed_35 (fun L_254 f_255 H locs hf_255 Y => ?_)
  obtain ⟨g__256, kf_255, z_z_257, z_z_258⟩ := hf_255
  have p_h := kf_255.1 h _ (nmc (p_h.neK p_rd (by decide)) (nmc (p_h.neA p_tp) nm0)) p_h
  have p_rd := z_z_257
  have p_tp := z_z_258
  refine lv_aload_n hx hb dX11_feed_38 rfl (lv_at hl 0 rfl) ?_
  refine pg_get S Y ok_X11 2 (by decide) kf11_25 (v := .ref rd) p_h rfl dX11_feed_39 ?_
  refine lv_iload hx hb dX11_feed_42 (lv_at hl 4 rfl) ?_
  refine cVv (As := [.int v4]) (rest := []) S Y (c_append_12 (l := l) p_rd p_tp) cw_X5_append km11_87 p_rd ok_X5.1 rfl rfl ⟨Nat.le_of_ble_eq_true rfl, Nat.le_of_ble_eq_true rfl⟩ hl.1 rfl (Nat.le_of_ble_eq_true rfl) ⟨Nat.le_of_ble_eq_true rfl, Nat.le_of_ble_eq_true rfl⟩ dX11_feed_44 (fun L_259 f_260 H locs hf_260 Y => ?_)
  obtain ⟨g__261, kf_260, z_z_262, z_z_263⟩ := hf_260
  have p_h := kf_260.1 h _ (nmc (p_h.neK p_rd (by decide)) (nmc (p_h.neA p_tp) nm0)) p_h
  have p_rd := z_z_262
  have p_tp := z_z_263
  refine lv_aload_n hx hb dX11_feed_47 rfl (lv_at hl 0 rfl) ?_
  refine pg_get S Y ok_X11 2 (by decide) kf11_25 (v := .ref rd) p_h rfl dX11_feed_48 ?_
  refine lv_iload hx hb dX11_feed_51 (lv_at hl 5 rfl) ?_
  refine cVv (As := [.int v5]) (rest := []) S Y (c_append_16 (l := l) p_rd p_tp) cw_X5_append km11_87 p_rd ok_X5.1 rfl rfl ⟨Nat.le_of_ble_eq_true rfl, Nat.le_of_ble_eq_true rfl⟩ hl.1 rfl (Nat.le_of_ble_eq_true rfl) ⟨Nat.le_of_ble_eq_true rfl, Nat.le_of_ble_eq_true rfl⟩ dX11_feed_53 (fun L_264 f_265 H locs hf_265 Y => ?_)
  obtain ⟨g__266, kf_265, z_z_267, z_z_268⟩ := hf_265
  have p_h := kf_265.1 h _ (nmc (p_h.neK p_rd (by decide)) (nmc (p_h.neA p_tp) nm0)) p_h
  have p_rd := z_z_267
  have p_tp := z_z_268
  refine lv_aload_n hx hb dX11_feed_56 rfl (lv_at hl 0 rfl) ?_
  refine pg_get S Y ok_X11 2 (by decide) kf11_25 (v := .ref rd) p_h rfl dX11_feed_57 ?_
  refine cVp (As := []) (rest := []) S Y (c_size20 (l := l) p_rd) cw_X5_size km11_91 p_rd ok_X5.1 rfl rfl ⟨Nat.le_of_ble_eq_true rfl, Nat.le_of_ble_eq_true rfl⟩ hl.1 rfl (Nat.le_of_ble_eq_true rfl) ⟨Nat.le_of_ble_eq_true rfl, Nat.le_of_ble_eq_true rfl⟩ dX11_feed_60 (fun r_269 H locs er_269 Y => ?_)
  refine lv_fold (z := 20) er_269 ?_
  exact prI (post := fun r L1 f1 => r = 20) S Y rfl (by decide) (by decide) hA1 rfl dX11_feed_63
set_option maxHeartbeats 4000000 in
set_option maxRecDepth 100000 in
theorem c_X7_clear {l : Launch} {G : GG} {L : List Nat} {f : HF} {h dg nu lf lt cs : Nat} {le cc : Int32} {g1 g2 : Nat → Int32}  (p_h : pt L f h (.inr (7, [.ref dg, .ref nu, .ref lf, .ref lt, .ref cs, .int le, .int cc]))) (p_lf : pt L f lf (.inl (G.2 0, 3, .inl g1))) (p_lt : pt L f lt (.inl (G.2 0, 3, .inl g2))) (n1 : lf ≠ lt) : PMv l yX7_clear cX7_clear 2 0 0 0 G [.ref h] L f (fun L1 f1 => ∃ g3 : Nat → Int32, ∃ g4 : Nat → Int32, kp L f L1 f1 [h, lf, lt] ∧ pt L1 f1 h (.inr (7, [.ref dg, .ref nu, .ref lf, .ref lt, .ref cs, .int 0, .int 0])) ∧ pt L1 f1 lf (.inl (G.2 0, 3, .inl g3)) ∧ pt L1 f1 lt (.inl (G.2 0, 3, .inl g4))) := by
  refine PMv.of (post := fun L1 f1 => ∃ g3 : Nat → Int32, ∃ g4 : Nat → Int32, kp L f L1 f1 [h, lf, lt] ∧ pt L1 f1 h (.inr (7, [.ref dg, .ref nu, .ref lf, .ref lt, .ref cs, .int 0, .int 0])) ∧ pt L1 f1 lf (.inl (G.2 0, 3, .inl g3)) ∧ pt L1 f1 lt (.inl (G.2 0, 3, .inl g4))) (own := RX7) (by decide) rfl (Nat.le_of_ble_eq_true rfl) (fun sz p e s m args below meth c A ls hA1 hname S Y hl => ?_)
  have hx := S.hx
  have hb := S.hb
  have hl : lv_has ls 2 [(0, .ref h)] := hl
  have hk : kp L f L f [h, lf, lt] := kp.rf
  refine lv_aload_n hx hb dX7_clear_0 rfl (lv_at hl 0 rfl) ?_
  refine lv_iconst (v := 0) hx hb dX7_clear_1 (by decide) ?_
  refine pg_put S Y ok_X7 5 (by decide) kf7_27 rfl (fs' := [.ref dg, .ref nu, .ref lf, .ref lt, .ref cs, .int 0, .int cc]) (v := .int 0) p_h rfl rfl rfl (Nat.le_of_ble_eq_true rfl) dX7_clear_2 (fun f_270 H locs ef_270 Y => ?_)
  have p_lf := p_lf.up ef_270 ((p_lf.neB p_h))
  have p_lt := p_lt.up ef_270 ((p_lt.neB p_h))
  have p_h := p_h.me ef_270
  have hk := hk.up ef_270 (by simp)
  refine lv_aload_n hx hb dX7_clear_5 rfl (lv_at hl 0 rfl) ?_
  refine lv_iconst (v := 0) hx hb dX7_clear_6 (by decide) ?_
  refine pg_put S Y ok_X7 6 (by decide) kf7_31 rfl (fs' := [.ref dg, .ref nu, .ref lf, .ref lt, .ref cs, .int 0, .int 0]) (v := .int 0) p_h rfl rfl rfl (Nat.le_of_ble_eq_true rfl) dX7_clear_7 (fun f_271 H locs ef_271 Y => ?_)
  have p_lf := p_lf.up ef_271 ((p_lf.neB p_h))
  have p_lt := p_lt.up ef_271 ((p_lt.neB p_h))
  have p_h := p_h.me ef_271
  have hk := hk.up ef_271 (by simp)
  refine lv_iconst (v := 0) hx hb dX7_clear_10 (by decide) ?_
  refine lv_istore_n (lv' := [(1, .int 0), (0, .ref h)]) hx hb dX7_clear_11 rfl hl (by decide) rfl (fun ls hl => ?_)
  refine lv_iload_n hx hb dX7_clear_12 rfl (lv_at hl 0 rfl) ?_
  refine lv_iconst (v := 3) hx hb dX7_clear_13 (by decide) ?_
  refine lv_icmp_ge (tgt := 37) hx hb dX7_clear_14 (by decide) (fun h => absurd h (by decide)) (fun _ => ?_)
  refine lv_aload_n hx hb dX7_clear_17 rfl (lv_at hl 1 rfl) ?_
  refine pg_get S Y ok_X7 2 (by decide) kf7_18 (v := .ref lf) p_h rfl dX7_clear_18 ?_
  refine lv_iload_n hx hb dX7_clear_21 rfl (lv_at hl 0 rfl) ?_
  refine lv_iconst (v := 0) hx hb dX7_clear_22 (by decide) ?_
  refine pg_iast S Y p_lf (by unfold vp_in; decide) dX7_clear_23 (fun f_273 H locs ef_273 Y => ?_)
  obtain ⟨g_272, eg_272⟩ : ∃ z, z = upd (g1) (0 : Int32).toNatClampNeg 0 := ⟨_, rfl⟩
  rw [← eg_272] at ef_273
  have p_h := p_h.up ef_273 ((p_h.neA p_lf))
  have p_lt := p_lt.up ef_273 ((Ne.symm (n1)))
  have p_lf := p_lf.me ef_273
  have hk := hk.up ef_273 (by simp)
  refine lv_aload_n hx hb dX7_clear_24 rfl (lv_at hl 1 rfl) ?_
  refine pg_get S Y ok_X7 3 (by decide) kf7_21 (v := .ref lt) p_h rfl dX7_clear_25 ?_
  refine lv_iload_n hx hb dX7_clear_28 rfl (lv_at hl 0 rfl) ?_
  refine lv_iconst (v := 0) hx hb dX7_clear_29 (by decide) ?_
  refine pg_iast S Y p_lt (by unfold vp_in; decide) dX7_clear_30 (fun f_275 H locs ef_275 Y => ?_)
  obtain ⟨g_274, eg_274⟩ : ∃ z, z = upd (g2) (0 : Int32).toNatClampNeg 0 := ⟨_, rfl⟩
  rw [← eg_274] at ef_275
  have p_h := p_h.up ef_275 ((p_h.neA p_lt))
  have p_lf := p_lf.up ef_275 ((n1))
  have p_lt := p_lt.me ef_275
  have hk := hk.up ef_275 (by simp)
  refine lv_iinc (v := 1) (lv' := [(1, .int 1), (0, .ref h)]) hx hb dX7_clear_31 hl (k := 0) rfl (by decide) (by decide) rfl (fun ls hl => ?_)
  refine lv_goto (tgt := 12) hx hb dX7_clear_34 (by decide) ?_
  refine lv_iload_n hx hb dX7_clear_12 rfl (lv_at hl 0 rfl) ?_
  refine lv_iconst (v := 3) hx hb dX7_clear_13 (by decide) ?_
  refine lv_icmp_ge (tgt := 37) hx hb dX7_clear_14 (by decide) (fun h => absurd h (by decide)) (fun _ => ?_)
  refine lv_aload_n hx hb dX7_clear_17 rfl (lv_at hl 1 rfl) ?_
  refine pg_get S Y ok_X7 2 (by decide) kf7_18 (v := .ref lf) p_h rfl dX7_clear_18 ?_
  refine lv_iload_n hx hb dX7_clear_21 rfl (lv_at hl 0 rfl) ?_
  refine lv_iconst (v := 0) hx hb dX7_clear_22 (by decide) ?_
  refine pg_iast S Y p_lf (by unfold vp_in; decide) dX7_clear_23 (fun f_277 H locs ef_277 Y => ?_)
  obtain ⟨g_276, eg_276⟩ : ∃ z, z = upd (g_272) (1 : Int32).toNatClampNeg 0 := ⟨_, rfl⟩
  rw [← eg_276] at ef_277
  have p_h := p_h.up ef_277 ((p_h.neA p_lf))
  have p_lt := p_lt.up ef_277 ((Ne.symm (n1)))
  have p_lf := p_lf.me ef_277
  have hk := hk.up ef_277 (by simp)
  refine lv_aload_n hx hb dX7_clear_24 rfl (lv_at hl 1 rfl) ?_
  refine pg_get S Y ok_X7 3 (by decide) kf7_21 (v := .ref lt) p_h rfl dX7_clear_25 ?_
  refine lv_iload_n hx hb dX7_clear_28 rfl (lv_at hl 0 rfl) ?_
  refine lv_iconst (v := 0) hx hb dX7_clear_29 (by decide) ?_
  refine pg_iast S Y p_lt (by unfold vp_in; decide) dX7_clear_30 (fun f_279 H locs ef_279 Y => ?_)
  obtain ⟨g_278, eg_278⟩ : ∃ z, z = upd (g_274) (1 : Int32).toNatClampNeg 0 := ⟨_, rfl⟩
  rw [← eg_278] at ef_279
  have p_h := p_h.up ef_279 ((p_h.neA p_lt))
  have p_lf := p_lf.up ef_279 ((n1))
  have p_lt := p_lt.me ef_279
  have hk := hk.up ef_279 (by simp)
  refine lv_iinc (v := 2) (lv' := [(1, .int 2), (0, .ref h)]) hx hb dX7_clear_31 hl (k := 0) rfl (by decide) (by decide) rfl (fun ls hl => ?_)
  refine lv_goto (tgt := 12) hx hb dX7_clear_34 (by decide) ?_
  refine lv_iload_n hx hb dX7_clear_12 rfl (lv_at hl 0 rfl) ?_
  refine lv_iconst (v := 3) hx hb dX7_clear_13 (by decide) ?_
  refine lv_icmp_ge (tgt := 37) hx hb dX7_clear_14 (by decide) (fun h => absurd h (by decide)) (fun _ => ?_)
  refine lv_aload_n hx hb dX7_clear_17 rfl (lv_at hl 1 rfl) ?_
  refine pg_get S Y ok_X7 2 (by decide) kf7_18 (v := .ref lf) p_h rfl dX7_clear_18 ?_
  refine lv_iload_n hx hb dX7_clear_21 rfl (lv_at hl 0 rfl) ?_
  refine lv_iconst (v := 0) hx hb dX7_clear_22 (by decide) ?_
  refine pg_iast S Y p_lf (by unfold vp_in; decide) dX7_clear_23 (fun f_281 H locs ef_281 Y => ?_)
  obtain ⟨g_280, eg_280⟩ : ∃ z, z = upd (g_276) (2 : Int32).toNatClampNeg 0 := ⟨_, rfl⟩
  rw [← eg_280] at ef_281
  have p_h := p_h.up ef_281 ((p_h.neA p_lf))
  have p_lt := p_lt.up ef_281 ((Ne.symm (n1)))
  have p_lf := p_lf.me ef_281
  have hk := hk.up ef_281 (by simp)
  refine lv_aload_n hx hb dX7_clear_24 rfl (lv_at hl 1 rfl) ?_
  refine pg_get S Y ok_X7 3 (by decide) kf7_21 (v := .ref lt) p_h rfl dX7_clear_25 ?_
  refine lv_iload_n hx hb dX7_clear_28 rfl (lv_at hl 0 rfl) ?_
  refine lv_iconst (v := 0) hx hb dX7_clear_29 (by decide) ?_
  refine pg_iast S Y p_lt (by unfold vp_in; decide) dX7_clear_30 (fun f_283 H locs ef_283 Y => ?_)
  obtain ⟨g_282, eg_282⟩ : ∃ z, z = upd (g_278) (2 : Int32).toNatClampNeg 0 := ⟨_, rfl⟩
  rw [← eg_282] at ef_283
  have p_h := p_h.up ef_283 ((p_h.neA p_lt))
  have p_lf := p_lf.up ef_283 ((n1))
  have p_lt := p_lt.me ef_283
  have hk := hk.up ef_283 (by simp)
  refine lv_iinc (v := 3) (lv' := [(1, .int 3), (0, .ref h)]) hx hb dX7_clear_31 hl (k := 0) rfl (by decide) (by decide) rfl (fun ls hl => ?_)
  refine lv_goto (tgt := 12) hx hb dX7_clear_34 (by decide) ?_
  refine lv_iload_n hx hb dX7_clear_12 rfl (lv_at hl 0 rfl) ?_
  refine lv_iconst (v := 3) hx hb dX7_clear_13 (by decide) ?_
  refine lv_icmp_ge (tgt := 37) hx hb dX7_clear_14 (by decide) (fun _ => ?_) (fun h => absurd (by decide) h)
  exact prV (post := fun L1 f1 => ∃ g3 : Nat → Int32, ∃ g4 : Nat → Int32, kp L f L1 f1 [h, lf, lt] ∧ pt L1 f1 h (.inr (7, [.ref dg, .ref nu, .ref lf, .ref lt, .ref cs, .int 0, .int 0])) ∧ pt L1 f1 lf (.inl (G.2 0, 3, .inl g3)) ∧ pt L1 f1 lt (.inl (G.2 0, 3, .inl g4))) S Y (by decide) (by decide) hA1 ⟨g_280, g_282, hk, p_h, p_lf, p_lt⟩ dX7_clear_37
set_option maxHeartbeats 4000000 in
set_option maxRecDepth 100000 in
theorem c_X5_addToken {l : Launch} {G : GG} {L : List Nat} {f : HF} {h tp ki pl va s0 : Nat} {g1 g2 g3 : Nat → Int32}  (p_h : pt L f h (.inr (5, [.ref tp, .ref ki, .ref pl, .ref va, .int 0, .int 0, .int 0, .int 0, .int 0, .int 0, .int 0, .ref s0, .int 0, .int (-1)]))) (p_ki : pt L f ki (.inl (G.2 0, 301, .inl g1))) (p_pl : pt L f pl (.inl (G.2 0, 301, .inl g2))) (p_va : pt L f va (.inl (G.2 0, 301, .inl g3))) (n1 : ki ≠ pl) (n2 : ki ≠ va) (n3 : pl ≠ va) : PMv l yX5_addToken cX5_addToken 4 0 0 0 G [.ref h, .int 1002, .int 0, .int 0] L f (fun L1 f1 => ∃ g4 : Nat → Int32, ∃ g5 : Nat → Int32, ∃ g6 : Nat → Int32, kp L f L1 f1 [h, ki, pl, va] ∧ pt L1 f1 h (.inr (5, [.ref tp, .ref ki, .ref pl, .ref va, .int 0, .int 1, .int 0, .int 0, .int 0, .int 0, .int 0, .ref s0, .int 0, .int (-1)])) ∧ pt L1 f1 ki (.inl (G.2 0, 301, .inl g4)) ∧ pt L1 f1 pl (.inl (G.2 0, 301, .inl g5)) ∧ pt L1 f1 va (.inl (G.2 0, 301, .inl g6)) ∧ g4 0 = 1002) := by
  refine PMv.of (post := fun L1 f1 => ∃ g4 : Nat → Int32, ∃ g5 : Nat → Int32, ∃ g6 : Nat → Int32, kp L f L1 f1 [h, ki, pl, va] ∧ pt L1 f1 h (.inr (5, [.ref tp, .ref ki, .ref pl, .ref va, .int 0, .int 1, .int 0, .int 0, .int 0, .int 0, .int 0, .ref s0, .int 0, .int (-1)])) ∧ pt L1 f1 ki (.inl (G.2 0, 301, .inl g4)) ∧ pt L1 f1 pl (.inl (G.2 0, 301, .inl g5)) ∧ pt L1 f1 va (.inl (G.2 0, 301, .inl g6)) ∧ g4 0 = 1002) (own := RX5) (by decide) rfl (Nat.le_of_ble_eq_true rfl) (fun sz p e s m args below meth c A ls hA1 hname S Y hl => ?_)
  have hx := S.hx
  have hb := S.hb
  have hl : lv_has ls 4 [(0, .ref h), (1, .int 1002), (2, .int 0), (3, .int 0)] := hl
  have hk : kp L f L f [h, ki, pl, va] := kp.rf
  refine lv_aload_n hx hb dX5_addToken_0 rfl (lv_at hl 0 rfl) ?_
  refine pg_get S Y ok_X5 5 (by decide) kf5_62 (v := .int 0) p_h rfl dX5_addToken_1 ?_
  refine lv_aload_n hx hb dX5_addToken_4 rfl (lv_at hl 0 rfl) ?_
  refine pg_get S Y ok_X5 1 (by decide) kf5_15 (v := .ref ki) p_h rfl dX5_addToken_5 ?_
  refine pg_alen S Y (k := 0) (v := 301) p_ki rfl rfl dX5_addToken_8 ?_
  refine lv_icmp_ge (tgt := 52) hx hb dX5_addToken_9 (by decide) (fun h => absurd h (by decide)) (fun _ => ?_)
  refine lv_aload_n hx hb dX5_addToken_12 rfl (lv_at hl 0 rfl) ?_
  refine pg_get S Y ok_X5 1 (by decide) kf5_15 (v := .ref ki) p_h rfl dX5_addToken_13 ?_
  refine lv_aload_n hx hb dX5_addToken_16 rfl (lv_at hl 0 rfl) ?_
  refine pg_get S Y ok_X5 5 (by decide) kf5_62 (v := .int 0) p_h rfl dX5_addToken_17 ?_
  refine lv_iload_n hx hb dX5_addToken_20 rfl (lv_at hl 1 rfl) ?_
  refine pg_iast S Y p_ki (by unfold vp_in; decide) dX5_addToken_21 (fun f_285 H locs ef_285 Y => ?_)
  obtain ⟨g_284, eg_284⟩ : ∃ z, z = upd (g1) (0 : Int32).toNatClampNeg 1002 := ⟨_, rfl⟩
  rw [← eg_284] at ef_285
  have p_h := p_h.up ef_285 ((p_h.neA p_ki))
  have p_pl := p_pl.up ef_285 ((Ne.symm (n1)))
  have p_va := p_va.up ef_285 ((Ne.symm (n2)))
  have p_ki := p_ki.me ef_285
  have hk := hk.up ef_285 (by simp)
  refine lv_aload_n hx hb dX5_addToken_22 rfl (lv_at hl 0 rfl) ?_
  refine pg_get S Y ok_X5 2 (by decide) kf5_18 (v := .ref pl) p_h rfl dX5_addToken_23 ?_
  refine lv_aload_n hx hb dX5_addToken_26 rfl (lv_at hl 0 rfl) ?_
  refine pg_get S Y ok_X5 5 (by decide) kf5_62 (v := .int 0) p_h rfl dX5_addToken_27 ?_
  refine lv_iload_n hx hb dX5_addToken_30 rfl (lv_at hl 2 rfl) ?_
  refine pg_iast S Y p_pl (by unfold vp_in; decide) dX5_addToken_31 (fun f_287 H locs ef_287 Y => ?_)
  obtain ⟨g_286, eg_286⟩ : ∃ z, z = upd (g2) (0 : Int32).toNatClampNeg 0 := ⟨_, rfl⟩
  rw [← eg_286] at ef_287
  have p_h := p_h.up ef_287 ((p_h.neA p_pl))
  have p_ki := p_ki.up ef_287 ((n1))
  have p_va := p_va.up ef_287 ((Ne.symm (n3)))
  have p_pl := p_pl.me ef_287
  have hk := hk.up ef_287 (by simp)
  refine lv_aload_n hx hb dX5_addToken_32 rfl (lv_at hl 0 rfl) ?_
  refine pg_get S Y ok_X5 3 (by decide) kf5_21 (v := .ref va) p_h rfl dX5_addToken_33 ?_
  refine lv_aload_n hx hb dX5_addToken_36 rfl (lv_at hl 0 rfl) ?_
  refine pg_get S Y ok_X5 5 (by decide) kf5_62 (v := .int 0) p_h rfl dX5_addToken_37 ?_
  refine lv_iload_n hx hb dX5_addToken_40 rfl (lv_at hl 3 rfl) ?_
  refine pg_iast S Y p_va (by unfold vp_in; decide) dX5_addToken_41 (fun f_289 H locs ef_289 Y => ?_)
  obtain ⟨g_288, eg_288⟩ : ∃ z, z = upd (g3) (0 : Int32).toNatClampNeg 0 := ⟨_, rfl⟩
  rw [← eg_288] at ef_289
  have p_h := p_h.up ef_289 ((p_h.neA p_va))
  have p_ki := p_ki.up ef_289 ((n2))
  have p_pl := p_pl.up ef_289 ((n3))
  have p_va := p_va.me ef_289
  have hk := hk.up ef_289 (by simp)
  refine lv_aload_n hx hb dX5_addToken_42 rfl (lv_at hl 0 rfl) ?_
  refine lv_dup hx hb dX5_addToken_43 rfl ?_
  refine pg_get S Y ok_X5 5 (by decide) kf5_62 (v := .int 0) p_h rfl dX5_addToken_44 ?_
  refine lv_iconst (v := 1) hx hb dX5_addToken_47 (by decide) ?_
  refine lv_iadd hx hb dX5_addToken_48 ?_
  refine lv_fold (z := 1) (by decide) ?_
  refine pg_put S Y ok_X5 5 (by decide) kf5_62 rfl (fs' := [.ref tp, .ref ki, .ref pl, .ref va, .int 0, .int 1, .int 0, .int 0, .int 0, .int 0, .int 0, .ref s0, .int 0, .int (-1)]) (v := .int 1) p_h rfl rfl rfl (Nat.le_of_ble_eq_true rfl) dX5_addToken_49 (fun f_290 H locs ef_290 Y => ?_)
  have p_ki := p_ki.up ef_290 ((p_ki.neB p_h))
  have p_pl := p_pl.up ef_290 ((p_pl.neB p_h))
  have p_va := p_va.up ef_290 ((p_va.neB p_h))
  have p_h := p_h.me ef_290
  have hk := hk.up ef_290 (by simp)
  exact prV (post := fun L1 f1 => ∃ g4 : Nat → Int32, ∃ g5 : Nat → Int32, ∃ g6 : Nat → Int32, kp L f L1 f1 [h, ki, pl, va] ∧ pt L1 f1 h (.inr (5, [.ref tp, .ref ki, .ref pl, .ref va, .int 0, .int 1, .int 0, .int 0, .int 0, .int 0, .int 0, .ref s0, .int 0, .int (-1)])) ∧ pt L1 f1 ki (.inl (G.2 0, 301, .inl g4)) ∧ pt L1 f1 pl (.inl (G.2 0, 301, .inl g5)) ∧ pt L1 f1 va (.inl (G.2 0, 301, .inl g6)) ∧ g4 0 = 1002) S Y (by decide) (by decide) hA1 ⟨g_284, g_286, g_288, hk, p_h, p_ki, p_pl, p_va, ((congrFun eg_284 0).trans pk_us)⟩ dX5_addToken_52
set_option maxHeartbeats 4000000 in
set_option maxRecDepth 100000 in
theorem c_X5_cutTokens {l : Launch} {G : GG} {L : List Nat} {f : HF} {h tp ki pl va s0 : Nat} {g1 g2 g3 : Nat → Int32}  (p_h : pt L f h (.inr (5, [.ref tp, .ref ki, .ref pl, .ref va, .int 0, .int 0, .int 0, .int 0, .int 0, .int 0, .int 0, .ref s0, .int 0, .int (-1)]))) (p_ki : pt L f ki (.inl (G.2 0, 301, .inl g1))) (p_pl : pt L f pl (.inl (G.2 0, 301, .inl g2))) (p_va : pt L f va (.inl (G.2 0, 301, .inl g3))) (n1 : ki ≠ pl) (n2 : ki ≠ va) (n3 : pl ≠ va) : PMv l yX5_cutTokens cX5_cutTokens 4 1 0 0 G [.ref h] L f (fun L1 f1 => ∃ g4 : Nat → Int32, ∃ g5 : Nat → Int32, ∃ g6 : Nat → Int32, kp L f L1 f1 [h, ki, pl, va] ∧ pt L1 f1 h (.inr (5, [.ref tp, .ref ki, .ref pl, .ref va, .int 0, .int 1, .int 0, .int 0, .int 0, .int 0, .int 0, .ref s0, .int 0, .int (-1)])) ∧ pt L1 f1 ki (.inl (G.2 0, 301, .inl g4)) ∧ pt L1 f1 pl (.inl (G.2 0, 301, .inl g5)) ∧ pt L1 f1 va (.inl (G.2 0, 301, .inl g6)) ∧ g4 0 = 1002) := by
  refine PMv.of (post := fun L1 f1 => ∃ g4 : Nat → Int32, ∃ g5 : Nat → Int32, ∃ g6 : Nat → Int32, kp L f L1 f1 [h, ki, pl, va] ∧ pt L1 f1 h (.inr (5, [.ref tp, .ref ki, .ref pl, .ref va, .int 0, .int 1, .int 0, .int 0, .int 0, .int 0, .int 0, .ref s0, .int 0, .int (-1)])) ∧ pt L1 f1 ki (.inl (G.2 0, 301, .inl g4)) ∧ pt L1 f1 pl (.inl (G.2 0, 301, .inl g5)) ∧ pt L1 f1 va (.inl (G.2 0, 301, .inl g6)) ∧ g4 0 = 1002) (own := RX5) (by decide) rfl (Nat.le_of_ble_eq_true rfl) (fun sz p e s m args below meth c A ls hA1 hname S Y hl => ?_)
  have hx := S.hx
  have hb := S.hb
  have hl : lv_has ls 4 [(0, .ref h)] := hl
  have hk : kp L f L f [h, ki, pl, va] := kp.rf
  refine lv_aload_n hx hb dX5_cutTokens_0 rfl (lv_at hl 0 rfl) ?_
  refine lv_iconst (v := 0) hx hb dX5_cutTokens_1 (by decide) ?_
  refine pg_put S Y ok_X5 5 (by decide) kf5_62 rfl (fs' := [.ref tp, .ref ki, .ref pl, .ref va, .int 0, .int 0, .int 0, .int 0, .int 0, .int 0, .int 0, .ref s0, .int 0, .int (-1)]) (v := .int 0) p_h rfl rfl rfl (Nat.le_of_ble_eq_true rfl) dX5_cutTokens_2 (fun f_291 H locs ef_291 Y => ?_)
  have p_ki := p_ki.up ef_291 ((p_ki.neB p_h))
  have p_pl := p_pl.up ef_291 ((p_pl.neB p_h))
  have p_va := p_va.up ef_291 ((p_va.neB p_h))
  have p_h := p_h.me ef_291
  have hk := hk.up ef_291 (by simp)
  refine lv_iconst (v := 0) hx hb dX5_cutTokens_5 (by decide) ?_
  refine lv_istore_n (lv' := [(1, .int 0), (0, .ref h)]) hx hb dX5_cutTokens_6 rfl hl (by decide) rfl (fun ls hl => ?_)
  refine lv_iconst (v := 0) hx hb dX5_cutTokens_7 (by decide) ?_
  refine lv_istore_n (lv' := [(2, .int 0), (1, .int 0), (0, .ref h)]) hx hb dX5_cutTokens_8 rfl hl (by decide) rfl (fun ls hl => ?_)
  refine lv_iload_n hx hb dX5_cutTokens_9 rfl (lv_at hl 0 rfl) ?_
  refine lv_sipush (v := 300) hx hb dX5_cutTokens_10 (by decide) ?_
  refine lv_icmp_ge (tgt := 92) hx hb dX5_cutTokens_13 (by decide) (fun h => absurd h (by decide)) (fun _ => ?_)
  refine lv_iload_n hx hb dX5_cutTokens_16 rfl (lv_at hl 1 rfl) ?_
  refine lv_aload_n hx hb dX5_cutTokens_17 rfl (lv_at hl 2 rfl) ?_
  refine pg_get S Y ok_X5 4 (by decide) kf5_31 (v := .int 0) p_h rfl dX5_cutTokens_18 ?_
  refine lv_icmp_ge (tgt := 92) hx hb dX5_cutTokens_21 (by decide) (fun _ => ?_) (fun h => absurd (by decide) h)
  refine lv_aload_n hx hb dX5_cutTokens_92 rfl (lv_at hl 2 rfl) ?_
  refine lv_sipush (v := 1002) hx hb dX5_cutTokens_93 (by decide) ?_
  refine lv_aload_n hx hb dX5_cutTokens_96 rfl (lv_at hl 2 rfl) ?_
  refine pg_get S Y ok_X5 4 (by decide) kf5_31 (v := .int 0) p_h rfl dX5_cutTokens_97 ?_
  refine lv_iconst (v := 0) hx hb dX5_cutTokens_100 (by decide) ?_
  refine cVv (As := [.int 1002, .int 0, .int 0]) (rest := []) S Y (c_X5_addToken (l := l) p_h p_ki p_pl p_va (n1) (n2) (n3)) cw_X5_addToken km5_85 p_h ok_X5.1 rfl rfl ⟨Nat.le_of_ble_eq_true rfl, Nat.le_of_ble_eq_true rfl⟩ hl.1 rfl (Nat.le_of_ble_eq_true rfl) ⟨Nat.le_of_ble_eq_true rfl, Nat.le_of_ble_eq_true rfl⟩ dX5_cutTokens_101 (fun L_292 f_293 H locs hf_293 Y => ?_)
  obtain ⟨g__294, g__295, g__296, kf_293, z_z_297, z_z_298, z_z_299, z_z_300, hg4_301⟩ := hf_293
  have p_h := z_z_297
  have p_ki := z_z_298
  have p_pl := z_z_299
  have p_va := z_z_300
  have hk := hk.call kf_293 (fun b hb hp => (nmc (fun q => hb (by simp [q])) (nmc (fun q => hb (by simp [q])) (nmc (fun q => hb (by simp [q])) (nmc (fun q => hb (by simp [q])) nm0)))))
  exact prV (post := fun L1 f1 => ∃ g4 : Nat → Int32, ∃ g5 : Nat → Int32, ∃ g6 : Nat → Int32, kp L f L1 f1 [h, ki, pl, va] ∧ pt L1 f1 h (.inr (5, [.ref tp, .ref ki, .ref pl, .ref va, .int 0, .int 1, .int 0, .int 0, .int 0, .int 0, .int 0, .ref s0, .int 0, .int (-1)])) ∧ pt L1 f1 ki (.inl (G.2 0, 301, .inl g4)) ∧ pt L1 f1 pl (.inl (G.2 0, 301, .inl g5)) ∧ pt L1 f1 va (.inl (G.2 0, 301, .inl g6)) ∧ g4 0 = 1002) S Y (by decide) (by decide) hA1 ⟨g__294, g__295, g__296, hk, p_h, p_ki, p_pl, p_va, hg4_301⟩ dX5_cutTokens_104
set_option maxHeartbeats 4000000 in
set_option maxRecDepth 100000 in
theorem c_X5_step {l : Launch} {G : GG} {L : List Nat} {f : HF} {h tp ki pl va s0 : Nat} {g1 g2 g3 : Nat → Int32}  (p_h : pt L f h (.inr (5, [.ref tp, .ref ki, .ref pl, .ref va, .int 0, .int 1, .int 0, .int 0, .int 0, .int 0, .int 0, .ref s0, .int 0, .int (-1)]))) (p_ki : pt L f ki (.inl (G.2 0, 301, .inl g1))) (p_pl : pt L f pl (.inl (G.2 0, 301, .inl g2))) (p_va : pt L f va (.inl (G.2 0, 301, .inl g3))) (hg : g1 0 = 1002) : PMv l yX5_step cX5_step 2 1 0 0 G [.ref h] L f (fun L1 f1 => ∃ p1 : Int32, ∃ v1 : Int32, kp L f L1 f1 [h] ∧ pt L1 f1 h (.inr (5, [.ref tp, .ref ki, .ref pl, .ref va, .int 0, .int 1, .int 1, .int 1002, .int p1, .int v1, .int 0, .ref s0, .int 0, .int (-1)]))) := by
  refine PMv.of (post := fun L1 f1 => ∃ p1 : Int32, ∃ v1 : Int32, kp L f L1 f1 [h] ∧ pt L1 f1 h (.inr (5, [.ref tp, .ref ki, .ref pl, .ref va, .int 0, .int 1, .int 1, .int 1002, .int p1, .int v1, .int 0, .ref s0, .int 0, .int (-1)]))) (own := RX5) (by decide) rfl (Nat.le_of_ble_eq_true rfl) (fun sz p e s m args below meth c A ls hA1 hname S Y hl => ?_)
  have hx := S.hx
  have hb := S.hb
  have hl : lv_has ls 2 [(0, .ref h)] := hl
  have hk : kp L f L f [h] := kp.rf
  refine lv_aload_n hx hb dX5_step_0 rfl (lv_at hl 0 rfl) ?_
  refine pg_get S Y ok_X5 6 (by decide) kf5_46 (v := .int 0) p_h rfl dX5_step_1 ?_
  refine lv_aload_n hx hb dX5_step_4 rfl (lv_at hl 0 rfl) ?_
  refine pg_get S Y ok_X5 5 (by decide) kf5_62 (v := .int 1) p_h rfl dX5_step_5 ?_
  refine lv_iconst (v := 1) hx hb dX5_step_8 (by decide) ?_
  refine lv_isub hx hb dX5_step_9 ?_
  refine lv_fold (z := 0) (by decide) ?_
  refine va_mmin hx hb (S.ml.trans hl.1.symm) S.ow (S.w km5_108) (S.w kMs_min) (S.w kMi) (S.w kMc_min) (Nat.le_of_ble_eq_true rfl) (Nat.le_of_ble_eq_true rfl) (by decide) (by decide) dX5_step_10 ?_
  refine lv_fold (z := 0) (by decide) ?_
  refine lv_istore_n (lv' := [(1, .int 0), (0, .ref h)]) hx hb dX5_step_13 rfl hl (by decide) rfl (fun ls hl => ?_)
  refine lv_iload_n hx hb dX5_step_14 rfl (lv_at hl 0 rfl) ?_
  refine lv_if_lt (tgt := 67) hx hb dX5_step_15 (by decide) (fun h => absurd h (by decide)) (fun _ => ?_)
  refine lv_iload_n hx hb dX5_step_18 rfl (lv_at hl 0 rfl) ?_
  refine lv_aload_n hx hb dX5_step_19 rfl (lv_at hl 1 rfl) ?_
  refine pg_get S Y ok_X5 1 (by decide) kf5_15 (v := .ref ki) p_h rfl dX5_step_20 ?_
  refine pg_alen S Y (k := 0) (v := 301) p_ki rfl rfl dX5_step_23 ?_
  refine lv_icmp_ge (tgt := 67) hx hb dX5_step_24 (by decide) (fun h => absurd h (by decide)) (fun _ => ?_)
  refine lv_aload_n hx hb dX5_step_27 rfl (lv_at hl 1 rfl) ?_
  refine lv_aload_n hx hb dX5_step_28 rfl (lv_at hl 1 rfl) ?_
  refine pg_get S Y ok_X5 1 (by decide) kf5_15 (v := .ref ki) p_h rfl dX5_step_29 ?_
  refine lv_iload_n hx hb dX5_step_32 rfl (lv_at hl 0 rfl) ?_
  refine pg_iald S Y (v := 1002) p_ki (by unfold vp_in; decide) hg dX5_step_33 ?_
  refine pg_put S Y ok_X5 7 (by decide) kf5_52 rfl (fs' := [.ref tp, .ref ki, .ref pl, .ref va, .int 0, .int 1, .int 0, .int 1002, .int 0, .int 0, .int 0, .ref s0, .int 0, .int (-1)]) (v := .int 1002) p_h rfl rfl rfl (Nat.le_of_ble_eq_true rfl) dX5_step_34 (fun f_302 H locs ef_302 Y => ?_)
  have p_ki := p_ki.up ef_302 ((p_ki.neB p_h))
  have p_pl := p_pl.up ef_302 ((p_pl.neB p_h))
  have p_va := p_va.up ef_302 ((p_va.neB p_h))
  have p_h := p_h.me ef_302
  have hk := hk.up ef_302 (by simp)
  refine lv_aload_n hx hb dX5_step_37 rfl (lv_at hl 1 rfl) ?_
  refine lv_aload_n hx hb dX5_step_38 rfl (lv_at hl 1 rfl) ?_
  refine pg_get S Y ok_X5 2 (by decide) kf5_18 (v := .ref pl) p_h rfl dX5_step_39 ?_
  refine lv_iload_n hx hb dX5_step_42 rfl (lv_at hl 0 rfl) ?_
  refine pg_iald S Y (v := (g2 0)) p_pl (by unfold vp_in; decide) rfl dX5_step_43 ?_
  refine pg_put S Y ok_X5 8 (by decide) kf5_59 rfl (fs' := [.ref tp, .ref ki, .ref pl, .ref va, .int 0, .int 1, .int 0, .int 1002, .int (g2 0), .int 0, .int 0, .ref s0, .int 0, .int (-1)]) (v := .int (g2 0)) p_h rfl rfl rfl (Nat.le_of_ble_eq_true rfl) dX5_step_44 (fun f_303 H locs ef_303 Y => ?_)
  have p_ki := p_ki.up ef_303 ((p_ki.neB p_h))
  have p_pl := p_pl.up ef_303 ((p_pl.neB p_h))
  have p_va := p_va.up ef_303 ((p_va.neB p_h))
  have p_h := p_h.me ef_303
  have hk := hk.up ef_303 (by simp)
  refine lv_aload_n hx hb dX5_step_47 rfl (lv_at hl 1 rfl) ?_
  refine lv_aload_n hx hb dX5_step_48 rfl (lv_at hl 1 rfl) ?_
  refine pg_get S Y ok_X5 3 (by decide) kf5_21 (v := .ref va) p_h rfl dX5_step_49 ?_
  refine lv_iload_n hx hb dX5_step_52 rfl (lv_at hl 0 rfl) ?_
  refine pg_iald S Y (v := (g3 0)) p_va (by unfold vp_in; decide) rfl dX5_step_53 ?_
  refine pg_put S Y ok_X5 9 (by decide) kf5_118 rfl (fs' := [.ref tp, .ref ki, .ref pl, .ref va, .int 0, .int 1, .int 0, .int 1002, .int (g2 0), .int (g3 0), .int 0, .ref s0, .int 0, .int (-1)]) (v := .int (g3 0)) p_h rfl rfl rfl (Nat.le_of_ble_eq_true rfl) dX5_step_54 (fun f_304 H locs ef_304 Y => ?_)
  have p_ki := p_ki.up ef_304 ((p_ki.neB p_h))
  have p_pl := p_pl.up ef_304 ((p_pl.neB p_h))
  have p_va := p_va.up ef_304 ((p_va.neB p_h))
  have p_h := p_h.me ef_304
  have hk := hk.up ef_304 (by simp)
  refine lv_aload_n hx hb dX5_step_57 rfl (lv_at hl 1 rfl) ?_
  refine lv_dup hx hb dX5_step_58 rfl ?_
  refine pg_get S Y ok_X5 6 (by decide) kf5_46 (v := .int 0) p_h rfl dX5_step_59 ?_
  refine lv_iconst (v := 1) hx hb dX5_step_62 (by decide) ?_
  refine lv_iadd hx hb dX5_step_63 ?_
  refine lv_fold (z := 1) (by decide) ?_
  refine pg_put S Y ok_X5 6 (by decide) kf5_46 rfl (fs' := [.ref tp, .ref ki, .ref pl, .ref va, .int 0, .int 1, .int 1, .int 1002, .int (g2 0), .int (g3 0), .int 0, .ref s0, .int 0, .int (-1)]) (v := .int 1) p_h rfl rfl rfl (Nat.le_of_ble_eq_true rfl) dX5_step_64 (fun f_305 H locs ef_305 Y => ?_)
  have p_ki := p_ki.up ef_305 ((p_ki.neB p_h))
  have p_pl := p_pl.up ef_305 ((p_pl.neB p_h))
  have p_va := p_va.up ef_305 ((p_va.neB p_h))
  have p_h := p_h.me ef_305
  have hk := hk.up ef_305 (by simp)
  exact prV (post := fun L1 f1 => ∃ p1 : Int32, ∃ v1 : Int32, kp L f L1 f1 [h] ∧ pt L1 f1 h (.inr (5, [.ref tp, .ref ki, .ref pl, .ref va, .int 0, .int 1, .int 1, .int 1002, .int p1, .int v1, .int 0, .ref s0, .int 0, .int (-1)]))) S Y (by decide) (by decide) hA1 ⟨(g2 0), (g3 0), hk, p_h⟩ dX5_step_67
set_option maxHeartbeats 4000000 in
set_option maxRecDepth 100000 in
theorem c_X5_read {l : Launch} {G : GG} {L : List Nat} {f : HF} {h s0 tp ki pl va dg nu lf lt cs : Nat} {g1 g2 g3 g7 g8 : Nat → Int32} {le cc : Int32}  (p_h : pt L f h (.inr (5, [.ref tp, .ref ki, .ref pl, .ref va, .int 0, .int 0, .int 0, .int 0, .int 0, .int 0, .int 0, .null, .int (-1), .int (-1)]))) (p_ki : pt L f ki (.inl (G.2 0, 301, .inl g1))) (p_pl : pt L f pl (.inl (G.2 0, 301, .inl g2))) (p_va : pt L f va (.inl (G.2 0, 301, .inl g3))) (p_s0 : pt L f s0 (.inr (7, [.ref dg, .ref nu, .ref lf, .ref lt, .ref cs, .int le, .int cc]))) (p_lf : pt L f lf (.inl (G.2 0, 3, .inl g7))) (p_lt : pt L f lt (.inl (G.2 0, 3, .inl g8))) (n1 : ki ≠ pl) (n2 : ki ≠ va) (n3 : pl ≠ va) (n4 : lf ≠ lt) : PMi l yX5_read cX5_read 4 .boolean 2 0 0 G [.ref h, .ref s0] L f (fun r L1 f1 => r = 1 ∧ kp L f L1 f1 [h, ki, pl, va, s0, lf, lt]) := by
  refine PMi.of (post := fun r L1 f1 => r = 1 ∧ kp L f L1 f1 [h, ki, pl, va, s0, lf, lt]) (own := RX5) (by decide) rfl (Nat.le_of_ble_eq_true rfl) (fun sz p e s m args below meth c A ls hA1 hname S Y hl => ?_)
  have hx := S.hx
  have hb := S.hb
  have hl : lv_has ls 4 [(0, .ref h), (1, .ref s0)] := hl
  have hk : kp L f L f [h, ki, pl, va, s0, lf, lt] := kp.rf
  refine lv_aload_n hx hb dX5_read_0 rfl (lv_at hl 0 rfl) ?_
  refine lv_aload_n hx hb dX5_read_1 rfl (lv_at hl 1 rfl) ?_
  refine pg_put S Y ok_X5 11 (by decide) kf5_34 rfl (fs' := [.ref tp, .ref ki, .ref pl, .ref va, .int 0, .int 0, .int 0, .int 0, .int 0, .int 0, .int 0, .ref s0, .int (-1), .int (-1)]) (v := .ref s0) p_h rfl rfl rfl (Nat.le_of_ble_eq_true rfl) dX5_read_2 (fun f_306 H locs ef_306 Y => ?_)
  have p_ki := p_ki.up ef_306 ((p_ki.neB p_h))
  have p_pl := p_pl.up ef_306 ((p_pl.neB p_h))
  have p_va := p_va.up ef_306 ((p_va.neB p_h))
  have p_s0 := p_s0.up ef_306 ((p_s0.neK p_h (by decide)))
  have p_lf := p_lf.up ef_306 ((p_lf.neB p_h))
  have p_lt := p_lt.up ef_306 ((p_lt.neB p_h))
  have p_h := p_h.me ef_306
  have hk := hk.up ef_306 (by simp)
  refine lv_aload_n hx hb dX5_read_5 rfl (lv_at hl 0 rfl) ?_
  refine pg_get S Y ok_X5 11 (by decide) kf5_34 (v := .ref s0) p_h rfl dX5_read_6 ?_
  refine cVv (As := []) (rest := []) S Y (c_X7_clear (l := l) p_s0 p_lf p_lt (n4)) cw_X7_clear km5_38 p_s0 ok_X7.1 rfl rfl ⟨Nat.le_of_ble_eq_true rfl, Nat.le_of_ble_eq_true rfl⟩ hl.1 rfl (Nat.le_of_ble_eq_true rfl) ⟨Nat.le_of_ble_eq_true rfl, Nat.le_of_ble_eq_true rfl⟩ dX5_read_9 (fun L_307 f_308 H locs hf_308 Y => ?_)
  obtain ⟨g__309, g__310, kf_308, z_z_311, z_z_312, z_z_313⟩ := hf_308
  have p_h := kf_308.1 h _ (nmc (p_h.neK p_s0 (by decide)) (nmc (p_h.neA p_lf) (nmc (p_h.neA p_lt) nm0))) p_h
  have p_ki := kf_308.1 ki _ (nmc (p_ki.neB p_s0) (nmc (p_ki.neN p_lf (by decide)) (nmc (p_ki.neN p_lt (by decide)) nm0))) p_ki
  have p_pl := kf_308.1 pl _ (nmc (p_pl.neB p_s0) (nmc (p_pl.neN p_lf (by decide)) (nmc (p_pl.neN p_lt (by decide)) nm0))) p_pl
  have p_va := kf_308.1 va _ (nmc (p_va.neB p_s0) (nmc (p_va.neN p_lf (by decide)) (nmc (p_va.neN p_lt (by decide)) nm0))) p_va
  have p_s0 := z_z_311
  have p_lf := z_z_312
  have p_lt := z_z_313
  have hk := hk.call kf_308 (fun b hb hp => (nmc (fun q => hb (by simp [q])) (nmc (fun q => hb (by simp [q])) (nmc (fun q => hb (by simp [q])) nm0))))
  refine lv_aload_n hx hb dX5_read_12 rfl (lv_at hl 0 rfl) ?_
  refine lv_iconst (v := 0) hx hb dX5_read_13 (by decide) ?_
  refine pg_put S Y ok_X5 12 (by decide) kf5_24 rfl (fs' := [.ref tp, .ref ki, .ref pl, .ref va, .int 0, .int 0, .int 0, .int 0, .int 0, .int 0, .int 0, .ref s0, .int 0, .int (-1)]) (v := .int 0) p_h rfl rfl rfl (Nat.le_of_ble_eq_true rfl) dX5_read_14 (fun f_314 H locs ef_314 Y => ?_)
  have p_ki := p_ki.up ef_314 ((p_ki.neB p_h))
  have p_pl := p_pl.up ef_314 ((p_pl.neB p_h))
  have p_va := p_va.up ef_314 ((p_va.neB p_h))
  have p_s0 := p_s0.up ef_314 ((p_s0.neK p_h (by decide)))
  have p_lf := p_lf.up ef_314 ((p_lf.neB p_h))
  have p_lt := p_lt.up ef_314 ((p_lt.neB p_h))
  have p_h := p_h.me ef_314
  have hk := hk.up ef_314 (by simp)
  refine lv_aload_n hx hb dX5_read_17 rfl (lv_at hl 0 rfl) ?_
  refine lv_iconst (v := (-1)) hx hb dX5_read_18 (by decide) ?_
  refine pg_put S Y ok_X5 13 (by decide) kf5_28 rfl (fs' := [.ref tp, .ref ki, .ref pl, .ref va, .int 0, .int 0, .int 0, .int 0, .int 0, .int 0, .int 0, .ref s0, .int 0, .int (-1)]) (v := .int (-1)) p_h rfl rfl rfl (Nat.le_of_ble_eq_true rfl) dX5_read_19 (fun f_315 H locs ef_315 Y => ?_)
  have p_ki := p_ki.up ef_315 ((p_ki.neB p_h))
  have p_pl := p_pl.up ef_315 ((p_pl.neB p_h))
  have p_va := p_va.up ef_315 ((p_va.neB p_h))
  have p_s0 := p_s0.up ef_315 ((p_s0.neK p_h (by decide)))
  have p_lf := p_lf.up ef_315 ((p_lf.neB p_h))
  have p_lt := p_lt.up ef_315 ((p_lt.neB p_h))
  have p_h := p_h.me ef_315
  have hk := hk.up ef_315 (by simp)
  refine lv_aload_n hx hb dX5_read_22 rfl (lv_at hl 0 rfl) ?_
  refine cVv (As := []) (rest := []) S Y (c_X5_cutTokens (l := l) p_h p_ki p_pl p_va (n1) (n2) (n3)) cw_X5_cutTokens km5_43 p_h ok_X5.1 rfl rfl ⟨Nat.le_of_ble_eq_true rfl, Nat.le_of_ble_eq_true rfl⟩ hl.1 rfl (Nat.le_of_ble_eq_true rfl) ⟨Nat.le_of_ble_eq_true rfl, Nat.le_of_ble_eq_true rfl⟩ dX5_read_23 (fun L_316 f_317 H locs hf_317 Y => ?_)
  obtain ⟨g__318, g__319, g__320, kf_317, z_z_321, z_z_322, z_z_323, z_z_324, hg4_325⟩ := hf_317
  have p_s0 := kf_317.1 s0 _ (nmc (p_s0.neK p_h (by decide)) (nmc (p_s0.neA p_ki) (nmc (p_s0.neA p_pl) (nmc (p_s0.neA p_va) nm0)))) p_s0
  have p_lf := kf_317.1 lf _ (nmc (p_lf.neB p_h) (nmc (p_lf.neN p_ki (by decide)) (nmc (p_lf.neN p_pl (by decide)) (nmc (p_lf.neN p_va (by decide)) nm0)))) p_lf
  have p_lt := kf_317.1 lt _ (nmc (p_lt.neB p_h) (nmc (p_lt.neN p_ki (by decide)) (nmc (p_lt.neN p_pl (by decide)) (nmc (p_lt.neN p_va (by decide)) nm0)))) p_lt
  have p_h := z_z_321
  have p_ki := z_z_322
  have p_pl := z_z_323
  have p_va := z_z_324
  have hk := hk.call kf_317 (fun b hb hp => (nmc (fun q => hb (by simp [q])) (nmc (fun q => hb (by simp [q])) (nmc (fun q => hb (by simp [q])) (nmc (fun q => hb (by simp [q])) nm0)))))
  refine lv_aload_n hx hb dX5_read_26 rfl (lv_at hl 0 rfl) ?_
  refine lv_iconst (v := 0) hx hb dX5_read_27 (by decide) ?_
  refine pg_put S Y ok_X5 6 (by decide) kf5_46 rfl (fs' := [.ref tp, .ref ki, .ref pl, .ref va, .int 0, .int 1, .int 0, .int 0, .int 0, .int 0, .int 0, .ref s0, .int 0, .int (-1)]) (v := .int 0) p_h rfl rfl rfl (Nat.le_of_ble_eq_true rfl) dX5_read_28 (fun f_326 H locs ef_326 Y => ?_)
  have p_ki := p_ki.up ef_326 ((p_ki.neB p_h))
  have p_pl := p_pl.up ef_326 ((p_pl.neB p_h))
  have p_va := p_va.up ef_326 ((p_va.neB p_h))
  have p_s0 := p_s0.up ef_326 ((p_s0.neK p_h (by decide)))
  have p_lf := p_lf.up ef_326 ((p_lf.neB p_h))
  have p_lt := p_lt.up ef_326 ((p_lt.neB p_h))
  have p_h := p_h.me ef_326
  have hk := hk.up ef_326 (by simp)
  refine lv_aload_n hx hb dX5_read_31 rfl (lv_at hl 0 rfl) ?_
  refine cVv (As := []) (rest := []) S Y (c_X5_step (l := l) p_h p_ki p_pl p_va hg4_325) cw_X5_step km5_49 p_h ok_X5.1 rfl rfl ⟨Nat.le_of_ble_eq_true rfl, Nat.le_of_ble_eq_true rfl⟩ hl.1 rfl (Nat.le_of_ble_eq_true rfl) ⟨Nat.le_of_ble_eq_true rfl, Nat.le_of_ble_eq_true rfl⟩ dX5_read_32 (fun L_327 f_328 H locs hf_328 Y => ?_)
  obtain ⟨p__329, v__330, kf_328, z_z_331⟩ := hf_328
  have p_ki := kf_328.1 ki _ (nmc (p_ki.neB p_h) nm0) p_ki
  have p_pl := kf_328.1 pl _ (nmc (p_pl.neB p_h) nm0) p_pl
  have p_va := kf_328.1 va _ (nmc (p_va.neB p_h) nm0) p_va
  have p_s0 := kf_328.1 s0 _ (nmc (p_s0.neK p_h (by decide)) nm0) p_s0
  have p_lf := kf_328.1 lf _ (nmc (p_lf.neB p_h) nm0) p_lf
  have p_lt := kf_328.1 lt _ (nmc (p_lt.neB p_h) nm0) p_lt
  have p_h := z_z_331
  have hk := hk.call kf_328 (fun b hb hp => (nmc (fun q => hb (by simp [q])) nm0))
  refine lv_iconst (v := 1) hx hb dX5_read_35 (by decide) ?_
  refine lv_istore_n (lv' := [(2, .int 1), (0, .ref h), (1, .ref s0)]) hx hb dX5_read_36 rfl hl (by decide) rfl (fun ls hl => ?_)
  refine lv_iconst (v := 0) hx hb dX5_read_37 (by decide) ?_
  refine lv_istore_n (lv' := [(3, .int 0), (2, .int 1), (0, .ref h), (1, .ref s0)]) hx hb dX5_read_38 rfl hl (by decide) rfl (fun ls hl => ?_)
  refine lv_iload_n hx hb dX5_read_39 rfl (lv_at hl 0 rfl) ?_
  refine lv_bipush (v := 24) hx hb dX5_read_40 (by decide) ?_
  refine lv_icmp_gt (tgt := 70) hx hb dX5_read_42 (by decide) (fun h => absurd h (by decide)) (fun _ => ?_)
  refine lv_iload_n hx hb dX5_read_45 rfl (lv_at hl 1 rfl) ?_
  refine lv_if_eq (tgt := 70) hx hb dX5_read_46 (by decide) (fun h => absurd h (by decide)) (fun _ => ?_)
  refine lv_aload_n hx hb dX5_read_49 rfl (lv_at hl 2 rfl) ?_
  refine pg_get S Y ok_X5 7 (by decide) kf5_52 (v := .int 1002) p_h rfl dX5_read_50 ?_
  refine lv_sipush (v := 1002) hx hb dX5_read_53 (by decide) ?_
  refine lv_icmp_eq (tgt := 70) hx hb dX5_read_56 (by decide) (fun _ => ?_) (fun h => absurd (by decide) h)
  refine lv_aload_n hx hb dX5_read_70 rfl (lv_at hl 2 rfl) ?_
  refine lv_iconst (v := 0) hx hb dX5_read_71 (by decide) ?_
  refine pg_put S Y ok_X5 4 (by decide) kf5_31 rfl (fs' := [.ref tp, .ref ki, .ref pl, .ref va, .int 0, .int 1, .int 1, .int 1002, .int p__329, .int v__330, .int 0, .ref s0, .int 0, .int (-1)]) (v := .int 0) p_h rfl rfl rfl (Nat.le_of_ble_eq_true rfl) dX5_read_72 (fun f_332 H locs ef_332 Y => ?_)
  have p_ki := p_ki.up ef_332 ((p_ki.neB p_h))
  have p_pl := p_pl.up ef_332 ((p_pl.neB p_h))
  have p_va := p_va.up ef_332 ((p_va.neB p_h))
  have p_s0 := p_s0.up ef_332 ((p_s0.neK p_h (by decide)))
  have p_lf := p_lf.up ef_332 ((p_lf.neB p_h))
  have p_lt := p_lt.up ef_332 ((p_lt.neB p_h))
  have p_h := p_h.me ef_332
  have hk := hk.up ef_332 (by simp)
  refine lv_iload_n hx hb dX5_read_75 rfl (lv_at hl 1 rfl) ?_
  exact prI (post := fun r L1 f1 => r = 1 ∧ kp L f L1 f1 [h, ki, pl, va, s0, lf, lt]) S Y rfl (by decide) (by decide) hA1 ⟨rfl, hk⟩ dX5_read_76
set_option maxHeartbeats 4000000 in
set_option maxRecDepth 100000 in
theorem c_X11_text {l : Launch} {G : GG} {L : List Nat} {f : HF} {h w k rd jd rg dd fo su ch ta ag sc nw pa fe cl wo si we tp ki pl va s0 dg nu lf lt cs : Nat} {g1 g2 g3 g7 g8 : Nat → Int32} {sf : Nat → Option Nat} {le cc : Int32}  (p_h : pt L f h (.inr (11, [.ref w, .ref k, .ref rd, .ref jd, .ref rg, .ref dd, .ref fo, .ref su, .ref ch]))) (p_w : pt L f w (.inr (10, [.ref ta, .ref ag, .ref sc, .ref nw, .ref pa, .ref fe, .ref cl, .ref wo, .ref si, .ref we, .int 0, .int 0, .int (-1), .int 0, .int 0]))) (p_rd : pt L f rd (.inr (5, [.ref tp, .ref ki, .ref pl, .ref va, .int 0, .int 0, .int 0, .int 0, .int 0, .int 0, .int 0, .null, .int (-1), .int (-1)]))) (p_ki : pt L f ki (.inl (G.2 0, 301, .inl g1))) (p_pl : pt L f pl (.inl (G.2 0, 301, .inl g2))) (p_va : pt L f va (.inl (G.2 0, 301, .inl g3))) (p_sc : pt L f sc (.inl (G.2 4, 4, .inr (.inr (.inr (.inr sf)))))) (p_s0 : pt L f s0 (.inr (7, [.ref dg, .ref nu, .ref lf, .ref lt, .ref cs, .int le, .int cc]))) (p_lf : pt L f lf (.inl (G.2 0, 3, .inl g7))) (p_lt : pt L f lt (.inl (G.2 0, 3, .inl g8))) (n1 : ki ≠ pl) (n2 : ki ≠ va) (n3 : pl ≠ va) (n4 : lf ≠ lt) (hsf : sf 0 = some s0) : PMi l yX11_text cX11_text 2 .int 3 0 0 G [.ref h] L f (fun r L1 f1 => r = 0) := by
  refine PMi.of (post := fun r L1 f1 => r = 0) (own := RX11) (by decide) rfl (Nat.le_of_ble_eq_true rfl) (fun sz p e s m args below meth c A ls hA1 hname S Y hl => ?_)
  have hx := S.hx
  have hb := S.hb
  have hl : lv_has ls 2 [(0, .ref h)] := hl
  refine lv_aload_n hx hb dX11_text_0 rfl (lv_at hl 0 rfl) ?_
  refine pg_get S Y ok_X11 0 (by decide) kf11_13 (v := .ref w) p_h rfl dX11_text_1 ?_
  refine cVw (As := []) (rest := []) S Y (c_X10_freeScript (l := l) p_w p_sc hsf) cw_X10_freeScript km11_98 p_w ok_X10.1 rfl rfl ⟨Nat.le_of_ble_eq_true rfl, Nat.le_of_ble_eq_true rfl⟩ hl.1 rfl (Nat.le_of_ble_eq_true rfl) ⟨Nat.le_of_ble_eq_true rfl, Nat.le_of_ble_eq_true rfl⟩ dX11_text_4 (fun r_333 H locs er_333 Y => ?_)
  refine lv_foldv (z := .ref s0) (by rw [er_333]; rfl) ?_
  refine lv_astore_n (lv' := [(1, .ref s0), (0, .ref h)]) hx hb dX11_text_7 rfl hl (by decide) rfl (fun ls hl => ?_)
  refine lv_aload_n hx hb dX11_text_8 rfl (lv_at hl 0 rfl) ?_
  refine lv_ifnonnull (tgt := 14) hx hb dX11_text_9 (by decide) ?_
  refine lv_aload_n hx hb dX11_text_14 rfl (lv_at hl 1 rfl) ?_
  refine pg_get S Y ok_X11 2 (by decide) kf11_25 (v := .ref rd) p_h rfl dX11_text_15 ?_
  refine lv_aload_n hx hb dX11_text_18 rfl (lv_at hl 0 rfl) ?_
  refine cVi (As := [.ref s0]) (rest := []) S Y (c_X5_read (l := l) p_rd p_ki p_pl p_va p_s0 p_lf p_lt (n1) (n2) (n3) (n4)) cw_X5_read km11_102 p_rd ok_X5.1 rfl rfl ⟨Nat.le_of_ble_eq_true rfl, Nat.le_of_ble_eq_true rfl⟩ hl.1 rfl (Nat.le_of_ble_eq_true rfl) ⟨Nat.le_of_ble_eq_true rfl, Nat.le_of_ble_eq_true rfl⟩ dX11_text_19 (fun r_334 L_335 f_336 H locs hf_336 Y => ?_)
  obtain ⟨er_334, kf_336⟩ := hf_336
  have p_h := kf_336.1 h _ (nmc (p_h.neK p_rd (by decide)) (nmc (p_h.neA p_ki) (nmc (p_h.neA p_pl) (nmc (p_h.neA p_va) (nmc (p_h.neK p_s0 (by decide)) (nmc (p_h.neA p_lf) (nmc (p_h.neA p_lt) nm0))))))) p_h
  have p_w := kf_336.1 w _ (nmc (p_w.neK p_rd (by decide)) (nmc (p_w.neA p_ki) (nmc (p_w.neA p_pl) (nmc (p_w.neA p_va) (nmc (p_w.neK p_s0 (by decide)) (nmc (p_w.neA p_lf) (nmc (p_w.neA p_lt) nm0))))))) p_w
  have p_sc := kf_336.1 sc _ (nmc (p_sc.neB p_rd) (nmc (p_sc.neN p_ki (by decide)) (nmc (p_sc.neN p_pl (by decide)) (nmc (p_sc.neN p_va (by decide)) (nmc (p_sc.neB p_s0) (nmc (p_sc.neN p_lf (by decide)) (nmc (p_sc.neN p_lt (by decide)) nm0))))))) p_sc
  refine lv_fold (z := 1) er_334 ?_
  refine lv_if_eq (tgt := 35) hx hb dX11_text_22 (by decide) (fun h => absurd h (by decide)) (fun _ => ?_)
  refine lv_aload_n hx hb dX11_text_25 rfl (lv_at hl 1 rfl) ?_
  refine pg_get S Y ok_X11 0 (by decide) kf11_13 (v := .ref w) p_h rfl dX11_text_26 ?_
  refine cVi (As := []) (rest := []) S Y (c_X10_keepScript (l := l) p_w) cw_X10_keepScript km11_106 p_w ok_X10.1 rfl rfl ⟨Nat.le_of_ble_eq_true rfl, Nat.le_of_ble_eq_true rfl⟩ hl.1 rfl (Nat.le_of_ble_eq_true rfl) ⟨Nat.le_of_ble_eq_true rfl, Nat.le_of_ble_eq_true rfl⟩ dX11_text_29 (fun r_337 L_338 f_339 H locs hf_339 Y => ?_)
  refine lv_fold (z := 0) hf_339 ?_
  refine lv_goto (tgt := 36) hx hb dX11_text_32 (by decide) ?_
  exact prI (post := fun r L1 f1 => r = 0) S Y rfl (by decide) (by decide) hA1 rfl dX11_text_36
