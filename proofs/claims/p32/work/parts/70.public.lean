theorem dX11_one_0 : decode cX11_one 0 = .ok (.aload_n 0, 1) := by decide +kernel
theorem dX11_one_1 : decode cX11_one 1 = .ok (.getfield 13, 3) := by decide +kernel
theorem ok_X11 : clOK 11 RX11 TX11 9 tyX11 := ⟨rfl, fun w h => ⟨(show ∀ w ∈ u_ws RX11 TX11 9, w ∈ lw_tbl by decide +kernel) w h, (show ∀ w ∈ u_ws RX11 TX11 9, gw w = true by decide +kernel) w h⟩, tyX11_ok, nmX11⟩
theorem kf11_13 : inW (Cond.fieldLink RX11 13 "KneeOaths" "world" "LKneeOaths$World;") := ⟨List.mem_of_getElem? (i := 505) (by decide +kernel), by decide +kernel⟩
theorem dX11_one_4 : decode cX11_one 4 = .ok (.iload_n 1, 1) := by decide +kernel
theorem dX11_one_5 : decode cX11_one 5 = .ok (.iload_n 2, 1) := by decide +kernel
theorem dX11_one_6 : decode cX11_one 6 = .ok (.invokevirtual 79, 3) := by decide +kernel
theorem km11_79 : inW (Cond.methodLink RX11 79 yX10_welcome) := ⟨List.mem_of_getElem? (i := 537) (by decide +kernel), by decide +kernel⟩
theorem dX11_one_9 : decode cX11_one 9 = .ok (.ireturn, 1) := by decide +kernel
theorem dX11_feed_0 : decode cX11_feed 0 = .ok (.aload_n 0, 1) := by decide +kernel
theorem dX11_feed_1 : decode cX11_feed 1 = .ok (.getfield 25, 3) := by decide +kernel
theorem kf11_25 : inW (Cond.fieldLink RX11 25 "KneeOaths" "reader" "LKneeOaths$Reader;") := ⟨List.mem_of_getElem? (i := 507) (by decide +kernel), by decide +kernel⟩
theorem dX11_feed_4 : decode cX11_feed 4 = .ok (.bipush 20, 2) := by decide +kernel
theorem dX11_feed_6 : decode cX11_feed 6 = .ok (.invokevirtual 83, 3) := by decide +kernel
theorem cw_X5_hasRoomFor : CWv yX5_hasRoomFor cX5_hasRoomFor 2 (some .boolean) 1 := ⟨⟨⟨List.mem_of_getElem? (i := 130) (by decide +kernel), by decide +kernel⟩, ⟨List.mem_of_getElem? (i := 551) (by decide +kernel), by decide +kernel⟩, by decide +kernel⟩, ⟨List.mem_of_getElem? (i := 549) (by decide +kernel), by decide +kernel⟩, ⟨List.mem_of_getElem? (i := 550) (by decide +kernel), by decide +kernel⟩⟩
theorem km11_83 : inW (Cond.methodLink RX11 83 yX5_hasRoomFor) := ⟨List.mem_of_getElem? (i := 548) (by decide +kernel), by decide +kernel⟩
theorem dX11_feed_9 : decode cX11_feed 9 = .ok (.ifCond .ne 5, 3) := by decide +kernel
theorem dX11_feed_14 : decode cX11_feed 14 = .ok (.aload_n 0, 1) := by decide +kernel
theorem dX11_feed_15 : decode cX11_feed 15 = .ok (.getfield 25, 3) := by decide +kernel
theorem dX11_feed_18 : decode cX11_feed 18 = .ok (.iload_n 1, 1) := by decide +kernel
theorem dX11_feed_19 : decode cX11_feed 19 = .ok (.invokevirtual 87, 3) := by decide +kernel
theorem cw_X5_append : CWv yX5_append cX5_append 3 none 1 := ⟨⟨⟨List.mem_of_getElem? (i := 130) (by decide +kernel), by decide +kernel⟩, ⟨List.mem_of_getElem? (i := 555) (by decide +kernel), by decide +kernel⟩, by decide +kernel⟩, ⟨List.mem_of_getElem? (i := 553) (by decide +kernel), by decide +kernel⟩, ⟨List.mem_of_getElem? (i := 554) (by decide +kernel), by decide +kernel⟩⟩
theorem km11_87 : inW (Cond.methodLink RX11 87 yX5_append) := ⟨List.mem_of_getElem? (i := 552) (by decide +kernel), by decide +kernel⟩
theorem dX11_feed_22 : decode cX11_feed 22 = .ok (.aload_n 0, 1) := by decide +kernel
theorem dX11_feed_23 : decode cX11_feed 23 = .ok (.getfield 25, 3) := by decide +kernel
theorem dX11_feed_26 : decode cX11_feed 26 = .ok (.iload_n 2, 1) := by decide +kernel
theorem dX11_feed_27 : decode cX11_feed 27 = .ok (.invokevirtual 87, 3) := by decide +kernel
theorem dX11_feed_30 : decode cX11_feed 30 = .ok (.aload_n 0, 1) := by decide +kernel
theorem dX11_feed_31 : decode cX11_feed 31 = .ok (.getfield 25, 3) := by decide +kernel
theorem dX11_feed_34 : decode cX11_feed 34 = .ok (.iload_n 3, 1) := by decide +kernel
theorem dX11_feed_35 : decode cX11_feed 35 = .ok (.invokevirtual 87, 3) := by decide +kernel
theorem dX11_feed_38 : decode cX11_feed 38 = .ok (.aload_n 0, 1) := by decide +kernel
theorem dX11_feed_39 : decode cX11_feed 39 = .ok (.getfield 25, 3) := by decide +kernel
theorem dX11_feed_42 : decode cX11_feed 42 = .ok (.iload 4, 2) := by decide +kernel
theorem dX11_feed_44 : decode cX11_feed 44 = .ok (.invokevirtual 87, 3) := by decide +kernel
theorem dX11_feed_47 : decode cX11_feed 47 = .ok (.aload_n 0, 1) := by decide +kernel
theorem dX11_feed_48 : decode cX11_feed 48 = .ok (.getfield 25, 3) := by decide +kernel
theorem dX11_feed_51 : decode cX11_feed 51 = .ok (.iload 5, 2) := by decide +kernel
theorem dX11_feed_53 : decode cX11_feed 53 = .ok (.invokevirtual 87, 3) := by decide +kernel
theorem dX11_feed_56 : decode cX11_feed 56 = .ok (.aload_n 0, 1) := by decide +kernel
theorem dX11_feed_57 : decode cX11_feed 57 = .ok (.getfield 25, 3) := by decide +kernel
theorem dX11_feed_60 : decode cX11_feed 60 = .ok (.invokevirtual 91, 3) := by decide +kernel
theorem cw_X5_size : CWv yX5_size cX5_size 1 (some .int) 0 := ⟨⟨⟨List.mem_of_getElem? (i := 130) (by decide +kernel), by decide +kernel⟩, ⟨List.mem_of_getElem? (i := 559) (by decide +kernel), by decide +kernel⟩, by decide +kernel⟩, ⟨List.mem_of_getElem? (i := 557) (by decide +kernel), by decide +kernel⟩, ⟨List.mem_of_getElem? (i := 558) (by decide +kernel), by decide +kernel⟩⟩
theorem km11_91 : inW (Cond.methodLink RX11 91 yX5_size) := ⟨List.mem_of_getElem? (i := 556) (by decide +kernel), by decide +kernel⟩
theorem dX11_feed_63 : decode cX11_feed 63 = .ok (.ireturn, 1) := by decide +kernel
theorem dX11_feed_12 : decode cX11_feed 12 = .ok (.iconst (-1), 1) := by decide +kernel
theorem dX11_feed_13 : decode cX11_feed 13 = .ok (.ireturn, 1) := by decide +kernel
theorem dX11_end_0 : decode cX11_end 0 = .ok (.aload_n 0, 1) := by decide +kernel
theorem dX11_end_1 : decode cX11_end 1 = .ok (.getfield 25, 3) := by decide +kernel
theorem dX11_end_4 : decode cX11_end 4 = .ok (.iload_n 1, 1) := by decide +kernel
theorem dX11_end_5 : decode cX11_end 5 = .ok (.invokevirtual 95, 3) := by decide +kernel
theorem cw_X5_cutTo : CWv yX5_cutTo cX5_cutTo 2 (some .boolean) 1 := ⟨⟨⟨List.mem_of_getElem? (i := 130) (by decide +kernel), by decide +kernel⟩, ⟨List.mem_of_getElem? (i := 567) (by decide +kernel), by decide +kernel⟩, by decide +kernel⟩, ⟨List.mem_of_getElem? (i := 565) (by decide +kernel), by decide +kernel⟩, ⟨List.mem_of_getElem? (i := 566) (by decide +kernel), by decide +kernel⟩⟩
theorem km11_95 : inW (Cond.methodLink RX11 95 yX5_cutTo) := ⟨List.mem_of_getElem? (i := 564) (by decide +kernel), by decide +kernel⟩
theorem dX11_end_8 : decode cX11_end 8 = .ok (.ifCond .eq 7, 3) := by decide +kernel
theorem dX11_end_15 : decode cX11_end 15 = .ok (.iconst (-1), 1) := by decide +kernel
theorem dX11_end_16 : decode cX11_end 16 = .ok (.ireturn, 1) := by decide +kernel
theorem dX11_end_11 : decode cX11_end 11 = .ok (.iload_n 1, 1) := by decide +kernel
theorem dX11_end_12 : decode cX11_end 12 = .ok (.goto 4, 3) := by decide +kernel
theorem dX11_fault_0 : decode cX11_fault 0 = .ok (.iload_n 1, 1) := by decide +kernel
theorem dX11_fault_1 : decode cX11_fault 1 = .ok (.ifCond .ne 11, 3) := by decide +kernel
theorem dX11_fault_12 : decode cX11_fault 12 = .ok (.iload_n 1, 1) := by decide +kernel
theorem dX11_fault_13 : decode cX11_fault 13 = .ok (.iconst 1, 1) := by decide +kernel
theorem dX11_fault_14 : decode cX11_fault 14 = .ok (.if_icmp .ne 13, 3) := by decide +kernel
theorem dX11_fault_27 : decode cX11_fault 27 = .ok (.iconst (-1), 1) := by decide +kernel
theorem dX11_fault_28 : decode cX11_fault 28 = .ok (.ireturn, 1) := by decide +kernel
theorem dX11_fault_17 : decode cX11_fault 17 = .ok (.aload_n 0, 1) := by decide +kernel
theorem dX11_fault_18 : decode cX11_fault 18 = .ok (.getfield 25, 3) := by decide +kernel
theorem dX11_fault_21 : decode cX11_fault 21 = .ok (.invokevirtual 112, 3) := by decide +kernel
theorem cw_X5_faultPlace : CWv yX5_faultPlace cX5_faultPlace 1 (some .int) 0 := ⟨⟨⟨List.mem_of_getElem? (i := 130) (by decide +kernel), by decide +kernel⟩, ⟨List.mem_of_getElem? (i := 855) (by decide +kernel), by decide +kernel⟩, by decide +kernel⟩, ⟨List.mem_of_getElem? (i := 853) (by decide +kernel), by decide +kernel⟩, ⟨List.mem_of_getElem? (i := 854) (by decide +kernel), by decide +kernel⟩⟩
theorem km11_112 : inW (Cond.methodLink RX11 112 yX5_faultPlace) := ⟨List.mem_of_getElem? (i := 852) (by decide +kernel), by decide +kernel⟩
theorem dX11_fault_24 : decode cX11_fault 24 = .ok (.goto 4, 3) := by decide +kernel
theorem dX11_fault_4 : decode cX11_fault 4 = .ok (.aload_n 0, 1) := by decide +kernel
theorem dX11_fault_5 : decode cX11_fault 5 = .ok (.getfield 25, 3) := by decide +kernel
theorem dX11_fault_8 : decode cX11_fault 8 = .ok (.invokevirtual 109, 3) := by decide +kernel
theorem cw_X5_faultKind : CWv yX5_faultKind cX5_faultKind 1 (some .int) 0 := ⟨⟨⟨List.mem_of_getElem? (i := 130) (by decide +kernel), by decide +kernel⟩, ⟨List.mem_of_getElem? (i := 851) (by decide +kernel), by decide +kernel⟩, by decide +kernel⟩, ⟨List.mem_of_getElem? (i := 849) (by decide +kernel), by decide +kernel⟩, ⟨List.mem_of_getElem? (i := 850) (by decide +kernel), by decide +kernel⟩⟩
theorem km11_109 : inW (Cond.methodLink RX11 109 yX5_faultKind) := ⟨List.mem_of_getElem? (i := 848) (by decide +kernel), by decide +kernel⟩
theorem dX11_fault_11 : decode cX11_fault 11 = .ok (.ireturn, 1) := by decide +kernel
theorem dX11_by_0 : decode cX11_by 0 = .ok (.aload_n 0, 1) := by decide +kernel
theorem dX11_by_1 : decode cX11_by 1 = .ok (.getfield 13, 3) := by decide +kernel
theorem dX11_by_4 : decode cX11_by 4 = .ok (.iload_n 1, 1) := by decide +kernel
theorem dX11_by_5 : decode cX11_by 5 = .ok (.invokevirtual 115, 3) := by decide +kernel
theorem cw_X10_putUnder : CWv yX10_putUnder cX10_putUnder 2 (some .boolean) 1 := ⟨⟨⟨List.mem_of_getElem? (i := 126) (by decide +kernel), by decide +kernel⟩, ⟨List.mem_of_getElem? (i := 863) (by decide +kernel), by decide +kernel⟩, by decide +kernel⟩, ⟨List.mem_of_getElem? (i := 861) (by decide +kernel), by decide +kernel⟩, ⟨List.mem_of_getElem? (i := 862) (by decide +kernel), by decide +kernel⟩⟩
theorem km11_115 : inW (Cond.methodLink RX11 115 yX10_putUnder) := ⟨List.mem_of_getElem? (i := 860) (by decide +kernel), by decide +kernel⟩
theorem dX11_by_8 : decode cX11_by 8 = .ok (.ireturn, 1) := by decide +kernel
theorem dX11_swear_0 : decode cX11_swear 0 = .ok (.aload_n 0, 1) := by decide +kernel
theorem dX11_swear_1 : decode cX11_swear 1 = .ok (.getfield 50, 3) := by decide +kernel
theorem kf11_50 : inW (Cond.fieldLink RX11 50 "KneeOaths" "deeds" "LKneeOaths$Deeds;") := ⟨List.mem_of_getElem? (i := 510) (by decide +kernel), by decide +kernel⟩
theorem dX11_swear_4 : decode cX11_swear 4 = .ok (.iload_n 1, 1) := by decide +kernel
theorem dX11_swear_5 : decode cX11_swear 5 = .ok (.iload_n 2, 1) := by decide +kernel
theorem dX11_swear_6 : decode cX11_swear 6 = .ok (.iload_n 3, 1) := by decide +kernel
theorem dX11_swear_7 : decode cX11_swear 7 = .ok (.iload 4, 2) := by decide +kernel
theorem dX11_swear_9 : decode cX11_swear 9 = .ok (.invokevirtual 118, 3) := by decide +kernel
theorem km11_118 : inW (Cond.methodLink RX11 118 yX1_swearIn) := ⟨List.mem_of_getElem? (i := 872) (by decide +kernel), by decide +kernel⟩
theorem dX11_swear_12 : decode cX11_swear 12 = .ok (.ireturn, 1) := by decide +kernel
theorem dX11_breaks_0 : decode cX11_breaks 0 = .ok (.aload_n 0, 1) := by decide +kernel
theorem dX11_breaks_1 : decode cX11_breaks 1 = .ok (.getfield 50, 3) := by decide +kernel
theorem dX11_breaks_4 : decode cX11_breaks 4 = .ok (.iload_n 1, 1) := by decide +kernel
theorem dX11_breaks_5 : decode cX11_breaks 5 = .ok (.invokevirtual 122, 3) := by decide +kernel
theorem km11_122 : inW (Cond.methodLink RX11 122 yX1_breakOath) := ⟨List.mem_of_getElem? (i := 908) (by decide +kernel), by decide +kernel⟩
theorem dX11_breaks_8 : decode cX11_breaks 8 = .ok (.ireturn, 1) := by decide +kernel
theorem dX11_release_0 : decode cX11_release 0 = .ok (.aload_n 0, 1) := by decide +kernel
theorem dX11_release_1 : decode cX11_release 1 = .ok (.getfield 50, 3) := by decide +kernel
theorem dX11_release_4 : decode cX11_release 4 = .ok (.iload_n 1, 1) := by decide +kernel
theorem dX11_release_5 : decode cX11_release 5 = .ok (.invokevirtual 125, 3) := by decide +kernel
theorem km11_125 : inW (Cond.methodLink RX11 125 yX1_releaseOath) := ⟨List.mem_of_getElem? (i := 921) (by decide +kernel), by decide +kernel⟩
theorem dX11_release_8 : decode cX11_release 8 = .ok (.ireturn, 1) := by decide +kernel
theorem dX11_kneel_0 : decode cX11_kneel 0 = .ok (.aload_n 0, 1) := by decide +kernel
theorem dX11_kneel_1 : decode cX11_kneel 1 = .ok (.getfield 50, 3) := by decide +kernel
theorem dX11_kneel_4 : decode cX11_kneel 4 = .ok (.iload_n 1, 1) := by decide +kernel
theorem dX11_kneel_5 : decode cX11_kneel 5 = .ok (.invokevirtual 128, 3) := by decide +kernel
theorem km11_128 : inW (Cond.methodLink RX11 128 yX1_kneelDown) := ⟨List.mem_of_getElem? (i := 938) (by decide +kernel), by decide +kernel⟩
theorem dX11_kneel_8 : decode cX11_kneel 8 = .ok (.ifCond .eq 17, 3) := by decide +kernel
theorem dX11_kneel_25 : decode cX11_kneel 25 = .ok (.iconst (-1), 1) := by decide +kernel
theorem dX11_kneel_26 : decode cX11_kneel 26 = .ok (.ireturn, 1) := by decide +kernel
theorem dX11_kneel_11 : decode cX11_kneel 11 = .ok (.aload_n 0, 1) := by decide +kernel
theorem dX11_kneel_12 : decode cX11_kneel 12 = .ok (.getfield 13, 3) := by decide +kernel
theorem dX11_kneel_15 : decode cX11_kneel 15 = .ok (.getfield 131, 3) := by decide +kernel
theorem kf11_131 : inW (Cond.fieldLinkNest RX11 131 "KneeOaths$World" "now" "LKneeOaths$Ledger;" "KneeOaths") := ⟨List.mem_of_getElem? (i := 271) (by decide +kernel), by decide +kernel⟩
theorem dX11_kneel_18 : decode cX11_kneel 18 = .ok (.iload_n 1, 1) := by decide +kernel
theorem dX11_kneel_19 : decode cX11_kneel 19 = .ok (.invokevirtual 135, 3) := by decide +kernel
theorem km11_135 : inW (Cond.methodLink RX11 135 yX4_marks) := ⟨List.mem_of_getElem? (i := 1018) (by decide +kernel), by decide +kernel⟩
theorem dX11_kneel_22 : decode cX11_kneel 22 = .ok (.goto 4, 3) := by decide +kernel
theorem dX11_skate_0 : decode cX11_skate 0 = .ok (.aload_n 0, 1) := by decide +kernel
theorem dX11_skate_1 : decode cX11_skate 1 = .ok (.getfield 50, 3) := by decide +kernel
theorem dX11_skate_4 : decode cX11_skate 4 = .ok (.iload_n 1, 1) := by decide +kernel
theorem dX11_skate_5 : decode cX11_skate 5 = .ok (.iload_n 2, 1) := by decide +kernel
theorem dX11_skate_6 : decode cX11_skate 6 = .ok (.invokevirtual 139, 3) := by decide +kernel
theorem km11_139 : inW (Cond.methodLink RX11 139 yX1_slide) := ⟨List.mem_of_getElem? (i := 1023) (by decide +kernel), by decide +kernel⟩
theorem dX11_skate_9 : decode cX11_skate 9 = .ok (.ifCond .eq 17, 3) := by decide +kernel
theorem dX11_skate_26 : decode cX11_skate 26 = .ok (.iconst (-1), 1) := by decide +kernel
theorem dX11_skate_27 : decode cX11_skate 27 = .ok (.ireturn, 1) := by decide +kernel
theorem dX11_skate_12 : decode cX11_skate 12 = .ok (.aload_n 0, 1) := by decide +kernel
theorem dX11_skate_13 : decode cX11_skate 13 = .ok (.getfield 13, 3) := by decide +kernel
theorem dX11_skate_16 : decode cX11_skate 16 = .ok (.getfield 131, 3) := by decide +kernel
theorem dX11_skate_19 : decode cX11_skate 19 = .ok (.iload_n 1, 1) := by decide +kernel
theorem dX11_skate_20 : decode cX11_skate 20 = .ok (.invokevirtual 135, 3) := by decide +kernel
theorem dX11_skate_23 : decode cX11_skate 23 = .ok (.goto 4, 3) := by decide +kernel
theorem dX11_strike_0 : decode cX11_strike 0 = .ok (.aload_n 0, 1) := by decide +kernel
theorem dX11_strike_1 : decode cX11_strike 1 = .ok (.getfield 50, 3) := by decide +kernel
theorem dX11_strike_4 : decode cX11_strike 4 = .ok (.iload_n 1, 1) := by decide +kernel
theorem dX11_strike_5 : decode cX11_strike 5 = .ok (.invokevirtual 143, 3) := by decide +kernel
theorem cw_X1_strikeOut : CWv yX1_strikeOut cX1_strikeOut 6 (some .int) 1 := ⟨⟨⟨List.mem_of_getElem? (i := 133) (by decide +kernel), by decide +kernel⟩, ⟨List.mem_of_getElem? (i := 1034) (by decide +kernel), by decide +kernel⟩, by decide +kernel⟩, ⟨List.mem_of_getElem? (i := 1032) (by decide +kernel), by decide +kernel⟩, ⟨List.mem_of_getElem? (i := 1033) (by decide +kernel), by decide +kernel⟩⟩
theorem km11_143 : inW (Cond.methodLink RX11 143 yX1_strikeOut) := ⟨List.mem_of_getElem? (i := 1031) (by decide +kernel), by decide +kernel⟩
theorem dX11_strike_8 : decode cX11_strike 8 = .ok (.ireturn, 1) := by decide +kernel
theorem dX11_day_0 : decode cX11_day 0 = .ok (.iload_n 1, 1) := by decide +kernel
theorem dX11_day_1 : decode cX11_day 1 = .ok (.iconst 1, 1) := by decide +kernel
theorem dX11_day_2 : decode cX11_day 2 = .ok (.bipush 60, 2) := by decide +kernel
theorem dX11_day_4 : decode cX11_day 4 = .ok (.invokestatic 146, 3) := by decide +kernel
theorem km11_146 : inW (Cond.methodLink RX11 146 yX11_within) := ⟨List.mem_of_getElem? (i := 1063) (by decide +kernel), by decide +kernel⟩
theorem dX11_day_7 : decode cX11_day 7 = .ok (.ifCond .eq 21, 3) := by decide +kernel
theorem dX11_day_28 : decode cX11_day 28 = .ok (.iconst (-1), 1) := by decide +kernel
theorem dX11_day_29 : decode cX11_day 29 = .ok (.ireturn, 1) := by decide +kernel
theorem dX11_day_10 : decode cX11_day 10 = .ok (.aload_n 0, 1) := by decide +kernel
theorem dX11_day_11 : decode cX11_day 11 = .ok (.getfield 13, 3) := by decide +kernel
theorem dX11_day_14 : decode cX11_day 14 = .ok (.getfield 131, 3) := by decide +kernel
theorem dX11_day_17 : decode cX11_day 17 = .ok (.getfield 150, 3) := by decide +kernel
theorem kf11_150 : inW (Cond.fieldLinkNest RX11 150 "KneeOaths$Ledger" "date" "I" "KneeOaths") := ⟨List.mem_of_getElem? (i := 173) (by decide +kernel), by decide +kernel⟩
theorem dX11_day_20 : decode cX11_day 20 = .ok (.iload_n 1, 1) := by decide +kernel
theorem dX11_day_21 : decode cX11_day 21 = .ok (.iadd, 1) := by decide +kernel
theorem dX11_day_22 : decode cX11_day 22 = .ok (.sipush 9999, 3) := by decide +kernel
theorem dX11_day_25 : decode cX11_day 25 = .ok (.if_icmp .le 5, 3) := by decide +kernel
theorem dX11_day_30 : decode cX11_day 30 = .ok (.iconst 0, 1) := by decide +kernel
theorem dX11_day_31 : decode cX11_day 31 = .ok (.istore_n 2, 1) := by decide +kernel
theorem dX11_day_32 : decode cX11_day 32 = .ok (.iload_n 2, 1) := by decide +kernel
theorem dX11_day_33 : decode cX11_day 33 = .ok (.iload_n 1, 1) := by decide +kernel
theorem dX11_day_34 : decode cX11_day 34 = .ok (.if_icmp .ge 17, 3) := by decide +kernel
theorem dX11_day_51 : decode cX11_day 51 = .ok (.aload_n 0, 1) := by decide +kernel
theorem dX11_day_52 : decode cX11_day 52 = .ok (.getfield 13, 3) := by decide +kernel
theorem dX11_day_55 : decode cX11_day 55 = .ok (.getfield 131, 3) := by decide +kernel
theorem dX11_day_58 : decode cX11_day 58 = .ok (.getfield 158, 3) := by decide +kernel
theorem kf11_158 : inW (Cond.fieldLinkNest RX11 158 "KneeOaths$Ledger" "rain" "I" "KneeOaths") := ⟨List.mem_of_getElem? (i := 178) (by decide +kernel), by decide +kernel⟩
theorem dX11_day_61 : decode cX11_day 61 = .ok (.ireturn, 1) := by decide +kernel
theorem dX11_day_37 : decode cX11_day 37 = .ok (.aload_n 0, 1) := by decide +kernel
theorem dX11_day_38 : decode cX11_day 38 = .ok (.getfield 50, 3) := by decide +kernel
theorem dX11_day_41 : decode cX11_day 41 = .ok (.invokevirtual 154, 3) := by decide +kernel
theorem km11_154 : inW (Cond.methodLink RX11 154 yX1_passDay) := ⟨List.mem_of_getElem? (i := 1064) (by decide +kernel), by decide +kernel⟩
theorem dX11_day_44 : decode cX11_day 44 = .ok (.pop, 1) := by decide +kernel
theorem dX11_day_45 : decode cX11_day 45 = .ok (.iinc 2 1, 3) := by decide +kernel
theorem dX11_day_48 : decode cX11_day 48 = .ok (.goto (-16), 3) := by decide +kernel
theorem dX11_played_0 : decode cX11_played 0 = .ok (.aload_n 0, 1) := by decide +kernel
theorem dX11_played_1 : decode cX11_played 1 = .ok (.getfield 13, 3) := by decide +kernel
theorem dX11_played_4 : decode cX11_played 4 = .ok (.iload_n 1, 1) := by decide +kernel
theorem dX11_played_5 : decode cX11_played 5 = .ok (.invokevirtual 161, 3) := by decide +kernel
theorem km11_161 : inW (Cond.methodLink RX11 161 yX10_script) := ⟨List.mem_of_getElem? (i := 1097) (by decide +kernel), by decide +kernel⟩
theorem dX11_played_8 : decode cX11_played 8 = .ok (.astore_n 2, 1) := by decide +kernel
theorem dX11_played_9 : decode cX11_played 9 = .ok (.aload_n 2, 1) := by decide +kernel
theorem dX11_played_10 : decode cX11_played 10 = .ok (.ifnonnull 6, 3) := by decide +kernel
theorem dX11_played_13 : decode cX11_played 13 = .ok (.bipush (-2), 2) := by decide +kernel
theorem dX11_played_15 : decode cX11_played 15 = .ok (.ireturn, 1) := by decide +kernel
theorem dX11_played_16 : decode cX11_played 16 = .ok (.iconst 0, 1) := by decide +kernel
theorem dX11_played_17 : decode cX11_played 17 = .ok (.istore_n 3, 1) := by decide +kernel
theorem dX11_played_18 : decode cX11_played 18 = .ok (.iload_n 3, 1) := by decide +kernel
theorem dX11_played_19 : decode cX11_played 19 = .ok (.aload_n 2, 1) := by decide +kernel
theorem dX11_played_20 : decode cX11_played 20 = .ok (.getfield 165, 3) := by decide +kernel
theorem kf11_165 : inW (Cond.fieldLinkNest RX11 165 "KneeOaths$Script" "clauseCount" "I" "KneeOaths") := ⟨List.mem_of_getElem? (i := 245) (by decide +kernel), by decide +kernel⟩
theorem dX11_played_23 : decode cX11_played 23 = .ok (.if_icmp .ge 23, 3) := by decide +kernel
theorem dX11_played_46 : decode cX11_played 46 = .ok (.iconst (-1), 1) := by decide +kernel
theorem dX11_played_47 : decode cX11_played 47 = .ok (.ireturn, 1) := by decide +kernel
theorem dX11_played_26 : decode cX11_played 26 = .ok (.aload_n 0, 1) := by decide +kernel
theorem dX11_played_27 : decode cX11_played 27 = .ok (.getfield 50, 3) := by decide +kernel
theorem dX11_played_30 : decode cX11_played 30 = .ok (.aload_n 2, 1) := by decide +kernel
theorem dX11_played_31 : decode cX11_played 31 = .ok (.iload_n 3, 1) := by decide +kernel
theorem dX11_played_32 : decode cX11_played 32 = .ok (.invokevirtual 170, 3) := by decide +kernel
theorem cw_X1_perform : CWv yX1_perform cX1_perform 6 (some .boolean) 2 := ⟨⟨⟨List.mem_of_getElem? (i := 133) (by decide +kernel), by decide +kernel⟩, ⟨List.mem_of_getElem? (i := 1101) (by decide +kernel), by decide +kernel⟩, by decide +kernel⟩, ⟨List.mem_of_getElem? (i := 1099) (by decide +kernel), by decide +kernel⟩, ⟨List.mem_of_getElem? (i := 1100) (by decide +kernel), by decide +kernel⟩⟩
theorem km11_170 : inW (Cond.methodLink RX11 170 yX1_perform) := ⟨List.mem_of_getElem? (i := 1098) (by decide +kernel), by decide +kernel⟩
theorem dX11_played_35 : decode cX11_played 35 = .ok (.ifCond .ne 5, 3) := by decide +kernel
theorem dX11_played_40 : decode cX11_played 40 = .ok (.iinc 3 1, 3) := by decide +kernel
theorem dX11_played_43 : decode cX11_played 43 = .ok (.goto (-25), 3) := by decide +kernel
theorem dX11_played_38 : decode cX11_played 38 = .ok (.iload_n 3, 1) := by decide +kernel
theorem dX11_played_39 : decode cX11_played 39 = .ok (.ireturn, 1) := by decide +kernel
theorem dX11_years_0 : decode cX11_years 0 = .ok (.iload_n 1, 1) := by decide +kernel
theorem dX11_years_1 : decode cX11_years 1 = .ok (.iconst 0, 1) := by decide +kernel
theorem dX11_years_2 : decode cX11_years 2 = .ok (.sipush 9999, 3) := by decide +kernel
theorem dX11_years_5 : decode cX11_years 5 = .ok (.invokestatic 146, 3) := by decide +kernel
theorem dX11_years_8 : decode cX11_years 8 = .ok (.ifCond .eq 23, 3) := by decide +kernel
theorem dX11_years_31 : decode cX11_years 31 = .ok (.iconst (-1), 1) := by decide +kernel
theorem dX11_years_32 : decode cX11_years 32 = .ok (.ireturn, 1) := by decide +kernel
theorem dX11_years_11 : decode cX11_years 11 = .ok (.iload_n 2, 1) := by decide +kernel
theorem dX11_years_12 : decode cX11_years 12 = .ok (.iconst 1, 1) := by decide +kernel
theorem dX11_years_13 : decode cX11_years 13 = .ok (.bipush 40, 2) := by decide +kernel
theorem dX11_years_15 : decode cX11_years 15 = .ok (.invokestatic 146, 3) := by decide +kernel
theorem dX11_years_18 : decode cX11_years 18 = .ok (.ifCond .eq 13, 3) := by decide +kernel
theorem dX11_years_21 : decode cX11_years 21 = .ok (.aload_n 0, 1) := by decide +kernel
theorem dX11_years_22 : decode cX11_years 22 = .ok (.getfield 13, 3) := by decide +kernel
theorem dX11_years_25 : decode cX11_years 25 = .ok (.getfield 174, 3) := by decide +kernel
theorem kf11_174 : inW (Cond.fieldLinkNest RX11 174 "KneeOaths$World" "people" "I" "KneeOaths") := ⟨List.mem_of_getElem? (i := 292) (by decide +kernel), by decide +kernel⟩
theorem dX11_years_28 : decode cX11_years 28 = .ok (.ifCond .ne 5, 3) := by decide +kernel
theorem dX11_years_33 : decode cX11_years 33 = .ok (.aload_n 0, 1) := by decide +kernel
theorem dX11_years_34 : decode cX11_years 34 = .ok (.getfield 50, 3) := by decide +kernel
theorem dX11_years_37 : decode cX11_years 37 = .ok (.iload_n 1, 1) := by decide +kernel
theorem dX11_years_38 : decode cX11_years 38 = .ok (.invokevirtual 177, 3) := by decide +kernel
theorem cw_X1_beginYears : CWv yX1_beginYears cX1_beginYears 2 none 1 := ⟨⟨⟨List.mem_of_getElem? (i := 133) (by decide +kernel), by decide +kernel⟩, ⟨List.mem_of_getElem? (i := 1120) (by decide +kernel), by decide +kernel⟩, by decide +kernel⟩, ⟨List.mem_of_getElem? (i := 1118) (by decide +kernel), by decide +kernel⟩, ⟨List.mem_of_getElem? (i := 1119) (by decide +kernel), by decide +kernel⟩⟩
theorem km11_177 : inW (Cond.methodLink RX11 177 yX1_beginYears) := ⟨List.mem_of_getElem? (i := 1117) (by decide +kernel), by decide +kernel⟩
theorem dX11_years_41 : decode cX11_years 41 = .ok (.iconst 0, 1) := by decide +kernel
theorem dX11_years_42 : decode cX11_years 42 = .ok (.istore_n 3, 1) := by decide +kernel
theorem dX11_years_43 : decode cX11_years 43 = .ok (.iload_n 3, 1) := by decide +kernel
theorem dX11_years_44 : decode cX11_years 44 = .ok (.iload_n 2, 1) := by decide +kernel
theorem dX11_years_45 : decode cX11_years 45 = .ok (.if_icmp .ge 16, 3) := by decide +kernel
theorem dX11_years_61 : decode cX11_years 61 = .ok (.aload_n 0, 1) := by decide +kernel
theorem dX11_years_62 : decode cX11_years 62 = .ok (.getfield 50, 3) := by decide +kernel
theorem dX11_years_65 : decode cX11_years 65 = .ok (.invokevirtual 183, 3) := by decide +kernel
theorem cw_X1_endYears : CWv yX1_endYears cX1_endYears 1 none 0 := ⟨⟨⟨List.mem_of_getElem? (i := 133) (by decide +kernel), by decide +kernel⟩, ⟨List.mem_of_getElem? (i := 1129) (by decide +kernel), by decide +kernel⟩, by decide +kernel⟩, ⟨List.mem_of_getElem? (i := 1127) (by decide +kernel), by decide +kernel⟩, ⟨List.mem_of_getElem? (i := 1128) (by decide +kernel), by decide +kernel⟩⟩
theorem km11_183 : inW (Cond.methodLink RX11 183 yX1_endYears) := ⟨List.mem_of_getElem? (i := 1126) (by decide +kernel), by decide +kernel⟩
theorem dX11_years_68 : decode cX11_years 68 = .ok (.aload_n 0, 1) := by decide +kernel
theorem dX11_years_69 : decode cX11_years 69 = .ok (.getfield 13, 3) := by decide +kernel
theorem dX11_years_72 : decode cX11_years 72 = .ok (.getfield 131, 3) := by decide +kernel
theorem dX11_years_75 : decode cX11_years 75 = .ok (.getfield 150, 3) := by decide +kernel
theorem dX11_years_78 : decode cX11_years 78 = .ok (.ireturn, 1) := by decide +kernel
theorem dX11_years_48 : decode cX11_years 48 = .ok (.aload_n 0, 1) := by decide +kernel
theorem dX11_years_49 : decode cX11_years 49 = .ok (.getfield 50, 3) := by decide +kernel
theorem dX11_years_52 : decode cX11_years 52 = .ok (.invokevirtual 180, 3) := by decide +kernel
theorem cw_X1_liveOn : CWv yX1_liveOn cX1_liveOn 6 none 0 := ⟨⟨⟨List.mem_of_getElem? (i := 133) (by decide +kernel), by decide +kernel⟩, ⟨List.mem_of_getElem? (i := 1124) (by decide +kernel), by decide +kernel⟩, by decide +kernel⟩, ⟨List.mem_of_getElem? (i := 1122) (by decide +kernel), by decide +kernel⟩, ⟨List.mem_of_getElem? (i := 1123) (by decide +kernel), by decide +kernel⟩⟩
theorem km11_180 : inW (Cond.methodLink RX11 180 yX1_liveOn) := ⟨List.mem_of_getElem? (i := 1121) (by decide +kernel), by decide +kernel⟩
theorem dX11_years_55 : decode cX11_years 55 = .ok (.iinc 3 1, 3) := by decide +kernel
theorem dX11_years_58 : decode cX11_years 58 = .ok (.goto (-15), 3) := by decide +kernel
theorem dX11_undo_0 : decode cX11_undo 0 = .ok (.aload_n 0, 1) := by decide +kernel
theorem dX11_undo_1 : decode cX11_undo 1 = .ok (.getfield 13, 3) := by decide +kernel
theorem dX11_undo_4 : decode cX11_undo 4 = .ok (.invokevirtual 186, 3) := by decide +kernel
theorem cw_X10_takeBack : CWv yX10_takeBack cX10_takeBack 1 (some .boolean) 0 := ⟨⟨⟨List.mem_of_getElem? (i := 126) (by decide +kernel), by decide +kernel⟩, ⟨List.mem_of_getElem? (i := 1137) (by decide +kernel), by decide +kernel⟩, by decide +kernel⟩, ⟨List.mem_of_getElem? (i := 1135) (by decide +kernel), by decide +kernel⟩, ⟨List.mem_of_getElem? (i := 1136) (by decide +kernel), by decide +kernel⟩⟩
theorem km11_186 : inW (Cond.methodLink RX11 186 yX10_takeBack) := ⟨List.mem_of_getElem? (i := 1134) (by decide +kernel), by decide +kernel⟩
theorem dX11_undo_7 : decode cX11_undo 7 = .ok (.ifCond .eq 13, 3) := by decide +kernel
theorem dX11_undo_20 : decode cX11_undo 20 = .ok (.iconst (-1), 1) := by decide +kernel
theorem dX11_undo_21 : decode cX11_undo 21 = .ok (.ireturn, 1) := by decide +kernel
theorem dX11_undo_10 : decode cX11_undo 10 = .ok (.aload_n 0, 1) := by decide +kernel
theorem dX11_undo_11 : decode cX11_undo 11 = .ok (.getfield 13, 3) := by decide +kernel
theorem dX11_undo_14 : decode cX11_undo 14 = .ok (.getfield 189, 3) := by decide +kernel
theorem kf11_189 : inW (Cond.fieldLinkNest RX11 189 "KneeOaths$World" "steps" "I" "KneeOaths") := ⟨List.mem_of_getElem? (i := 301) (by decide +kernel), by decide +kernel⟩
theorem dX11_undo_17 : decode cX11_undo 17 = .ok (.goto 4, 3) := by decide +kernel
theorem dX11_of_0 : decode cX11_of 0 = .ok (.aload_n 0, 1) := by decide +kernel
theorem dX11_of_1 : decode cX11_of 1 = .ok (.getfield 13, 3) := by decide +kernel
theorem dX11_of_4 : decode cX11_of 4 = .ok (.iload_n 1, 1) := by decide +kernel
theorem dX11_of_5 : decode cX11_of 5 = .ok (.invokevirtual 192, 3) := by decide +kernel
theorem km11_192 : inW (Cond.methodLink RX11 192 yX10_has) := ⟨List.mem_of_getElem? (i := 1142) (by decide +kernel), by decide +kernel⟩
theorem dX11_of_8 : decode cX11_of 8 = .ok (.ifCond .ne 7, 3) := by decide +kernel
theorem dX11_of_15 : decode cX11_of 15 = .ok (.iload_n 2, 1) := by decide +kernel
theorem dX11_of_16 : decode cX11_of 16 = .ok (.tableswitch 111 0 5 #[40, 49, 58, 70, 86, 102], 40) := by decide +kernel
theorem sw_0_5 (x : Int32) : x = 0 ∨ x = 1 ∨ x = 2 ∨ x = 3 ∨ x = 4 ∨ x = 5 ∨ (x.toInt < 0 ∨ 5 < x.toInt) := by
  have key : ∀ k : Int32, x.toInt = k.toInt → x = k := fun k h => Int32.toInt_inj.mp h
  by_cases h1 : x.toInt < 0
  · simp [h1]
  by_cases h2 : 5 < x.toInt
  · simp [h2]
  have h3 : x.toInt = 0 ∨ x.toInt = 1 ∨ x.toInt = 2 ∨ x.toInt = 3 ∨ x.toInt = 4 ∨ x.toInt = 5 := by omega
  rcases h3 with h | h | h | h | h | h
  · rw [key 0 (h.trans (by decide))]; decide
  · rw [key 1 (h.trans (by decide))]; decide
  · rw [key 2 (h.trans (by decide))]; decide
  · rw [key 3 (h.trans (by decide))]; decide
  · rw [key 4 (h.trans (by decide))]; decide
  · rw [key 5 (h.trans (by decide))]; decide
theorem dX11_of_56 : decode cX11_of 56 = .ok (.aload_n 0, 1) := by decide +kernel
theorem dX11_of_57 : decode cX11_of 57 = .ok (.getfield 13, 3) := by decide +kernel
theorem dX11_of_60 : decode cX11_of 60 = .ok (.iload_n 1, 1) := by decide +kernel
theorem dX11_of_61 : decode cX11_of 61 = .ok (.invokevirtual 195, 3) := by decide +kernel
theorem km11_195 : inW (Cond.methodLink RX11 195 yX10_toughOf) := ⟨List.mem_of_getElem? (i := 1143) (by decide +kernel), by decide +kernel⟩
theorem dX11_of_64 : decode cX11_of 64 = .ok (.ireturn, 1) := by decide +kernel
theorem dX11_of_65 : decode cX11_of 65 = .ok (.aload_n 0, 1) := by decide +kernel
theorem dX11_of_66 : decode cX11_of 66 = .ok (.getfield 13, 3) := by decide +kernel
theorem dX11_of_69 : decode cX11_of 69 = .ok (.iload_n 1, 1) := by decide +kernel
theorem dX11_of_70 : decode cX11_of 70 = .ok (.invokevirtual 198, 3) := by decide +kernel
theorem km11_198 : inW (Cond.methodLink RX11 198 yX10_ageOf) := ⟨List.mem_of_getElem? (i := 1144) (by decide +kernel), by decide +kernel⟩
theorem dX11_of_73 : decode cX11_of 73 = .ok (.ireturn, 1) := by decide +kernel
theorem dX11_of_74 : decode cX11_of 74 = .ok (.aload_n 0, 1) := by decide +kernel
theorem dX11_of_75 : decode cX11_of 75 = .ok (.getfield 13, 3) := by decide +kernel
theorem dX11_of_78 : decode cX11_of 78 = .ok (.getfield 131, 3) := by decide +kernel
theorem dX11_of_81 : decode cX11_of 81 = .ok (.iload_n 1, 1) := by decide +kernel
theorem dX11_of_82 : decode cX11_of 82 = .ok (.invokevirtual 135, 3) := by decide +kernel
theorem dX11_of_85 : decode cX11_of 85 = .ok (.ireturn, 1) := by decide +kernel
theorem dX11_of_86 : decode cX11_of 86 = .ok (.aload_n 0, 1) := by decide +kernel
theorem dX11_of_87 : decode cX11_of 87 = .ok (.getfield 34, 3) := by decide +kernel
theorem kf11_34 : inW (Cond.fieldLink RX11 34 "KneeOaths" "judge" "LKneeOaths$Judge;") := ⟨List.mem_of_getElem? (i := 508) (by decide +kernel), by decide +kernel⟩
theorem dX11_of_90 : decode cX11_of 90 = .ok (.aload_n 0, 1) := by decide +kernel
theorem dX11_of_91 : decode cX11_of 91 = .ok (.getfield 13, 3) := by decide +kernel
theorem dX11_of_94 : decode cX11_of 94 = .ok (.getfield 131, 3) := by decide +kernel
theorem dX11_of_97 : decode cX11_of 97 = .ok (.iload_n 1, 1) := by decide +kernel
theorem dX11_of_98 : decode cX11_of 98 = .ok (.invokevirtual 201, 3) := by decide +kernel
theorem km11_201 : inW (Cond.methodLink RX11 201 yX3_acheOf) := ⟨List.mem_of_getElem? (i := 1145) (by decide +kernel), by decide +kernel⟩
theorem dX11_of_101 : decode cX11_of 101 = .ok (.ireturn, 1) := by decide +kernel
theorem dX11_of_102 : decode cX11_of 102 = .ok (.aload_n 0, 1) := by decide +kernel
theorem dX11_of_103 : decode cX11_of 103 = .ok (.getfield 34, 3) := by decide +kernel
theorem dX11_of_106 : decode cX11_of 106 = .ok (.aload_n 0, 1) := by decide +kernel
theorem dX11_of_107 : decode cX11_of 107 = .ok (.getfield 13, 3) := by decide +kernel
theorem dX11_of_110 : decode cX11_of 110 = .ok (.getfield 131, 3) := by decide +kernel
theorem dX11_of_113 : decode cX11_of 113 = .ok (.iload_n 1, 1) := by decide +kernel
theorem dX11_of_114 : decode cX11_of 114 = .ok (.invokevirtual 205, 3) := by decide +kernel
theorem cw_X3_riskOf : CWv yX3_riskOf cX3_riskOf 5 (some .int) 2 := ⟨⟨⟨List.mem_of_getElem? (i := 131) (by decide +kernel), by decide +kernel⟩, ⟨List.mem_of_getElem? (i := 1149) (by decide +kernel), by decide +kernel⟩, by decide +kernel⟩, ⟨List.mem_of_getElem? (i := 1147) (by decide +kernel), by decide +kernel⟩, ⟨List.mem_of_getElem? (i := 1148) (by decide +kernel), by decide +kernel⟩⟩
theorem km11_205 : inW (Cond.methodLink RX11 205 yX3_riskOf) := ⟨List.mem_of_getElem? (i := 1146) (by decide +kernel), by decide +kernel⟩
theorem dX11_of_117 : decode cX11_of 117 = .ok (.ireturn, 1) := by decide +kernel
theorem dX11_of_118 : decode cX11_of 118 = .ok (.aload_n 0, 1) := by decide +kernel
theorem dX11_of_119 : decode cX11_of 119 = .ok (.getfield 75, 3) := by decide +kernel
theorem kf11_75 : inW (Cond.fieldLink RX11 75 "KneeOaths" "choices" "LKneeOaths$Choices;") := ⟨List.mem_of_getElem? (i := 513) (by decide +kernel), by decide +kernel⟩
theorem dX11_of_122 : decode cX11_of 122 = .ok (.iload_n 1, 1) := by decide +kernel
theorem dX11_of_123 : decode cX11_of 123 = .ok (.invokevirtual 208, 3) := by decide +kernel
theorem cw_X0_net : CWv yX0_net cX0_net 5 (some .int) 1 := ⟨⟨⟨List.mem_of_getElem? (i := 136) (by decide +kernel), by decide +kernel⟩, ⟨List.mem_of_getElem? (i := 1153) (by decide +kernel), by decide +kernel⟩, by decide +kernel⟩, ⟨List.mem_of_getElem? (i := 1151) (by decide +kernel), by decide +kernel⟩, ⟨List.mem_of_getElem? (i := 1152) (by decide +kernel), by decide +kernel⟩⟩
theorem km11_208 : inW (Cond.methodLink RX11 208 yX0_net) := ⟨List.mem_of_getElem? (i := 1150) (by decide +kernel), by decide +kernel⟩
theorem dX11_of_126 : decode cX11_of 126 = .ok (.ireturn, 1) := by decide +kernel
theorem dX11_of_127 : decode cX11_of 127 = .ok (.sipush (-1000), 3) := by decide +kernel
theorem dX11_of_130 : decode cX11_of 130 = .ok (.ireturn, 1) := by decide +kernel
theorem dX11_of_11 : decode cX11_of 11 = .ok (.sipush (-1000), 3) := by decide +kernel
theorem dX11_of_14 : decode cX11_of 14 = .ok (.ireturn, 1) := by decide +kernel
theorem dX11_ofOath_0 : decode cX11_ofOath 0 = .ok (.aload_n 0, 1) := by decide +kernel
theorem dX11_ofOath_1 : decode cX11_ofOath 1 = .ok (.getfield 13, 3) := by decide +kernel
theorem dX11_ofOath_4 : decode cX11_ofOath 4 = .ok (.getfield 131, 3) := by decide +kernel
theorem dX11_ofOath_7 : decode cX11_ofOath 7 = .ok (.iload_n 1, 1) := by decide +kernel
theorem dX11_ofOath_8 : decode cX11_ofOath 8 = .ok (.invokevirtual 211, 3) := by decide +kernel
theorem km11_211 : inW (Cond.methodLink RX11 211 yX4_has) := ⟨List.mem_of_getElem? (i := 1159) (by decide +kernel), by decide +kernel⟩
theorem dX11_ofOath_11 : decode cX11_ofOath 11 = .ok (.ifCond .ne 5, 3) := by decide +kernel
theorem dX11_ofOath_16 : decode cX11_ofOath 16 = .ok (.iload_n 2, 1) := by decide +kernel
theorem dX11_ofOath_17 : decode cX11_ofOath 17 = .ok (.bipush 7, 2) := by decide +kernel
theorem dX11_ofOath_19 : decode cX11_ofOath 19 = .ok (.if_icmp .ne 26, 3) := by decide +kernel
theorem dX11_ofOath_45 : decode cX11_ofOath 45 = .ok (.iload_n 2, 1) := by decide +kernel
theorem dX11_ofOath_46 : decode cX11_ofOath 46 = .ok (.bipush 8, 2) := by decide +kernel
theorem dX11_ofOath_48 : decode cX11_ofOath 48 = .ok (.if_icmp .ne 21, 3) := by decide +kernel
theorem dX11_ofOath_69 : decode cX11_ofOath 69 = .ok (.aload_n 0, 1) := by decide +kernel
theorem dX11_ofOath_70 : decode cX11_ofOath 70 = .ok (.getfield 13, 3) := by decide +kernel
theorem dX11_ofOath_73 : decode cX11_ofOath 73 = .ok (.getfield 131, 3) := by decide +kernel
theorem dX11_ofOath_76 : decode cX11_ofOath 76 = .ok (.iload_n 1, 1) := by decide +kernel
theorem dX11_ofOath_77 : decode cX11_ofOath 77 = .ok (.iload_n 2, 1) := by decide +kernel
theorem dX11_ofOath_78 : decode cX11_ofOath 78 = .ok (.invokevirtual 222, 3) := by decide +kernel
theorem km11_222 : inW (Cond.methodLink RX11 222 yX4_get) := ⟨List.mem_of_getElem? (i := 1162) (by decide +kernel), by decide +kernel⟩
theorem dX11_ofOath_81 : decode cX11_ofOath 81 = .ok (.ireturn, 1) := by decide +kernel
theorem dX11_ofOath_51 : decode cX11_ofOath 51 = .ok (.aload_n 0, 1) := by decide +kernel
theorem dX11_ofOath_52 : decode cX11_ofOath 52 = .ok (.getfield 34, 3) := by decide +kernel
theorem dX11_ofOath_55 : decode cX11_ofOath 55 = .ok (.aload_n 0, 1) := by decide +kernel
theorem dX11_ofOath_56 : decode cX11_ofOath 56 = .ok (.getfield 13, 3) := by decide +kernel
theorem dX11_ofOath_59 : decode cX11_ofOath 59 = .ok (.getfield 131, 3) := by decide +kernel
theorem dX11_ofOath_62 : decode cX11_ofOath 62 = .ok (.iload_n 1, 1) := by decide +kernel
theorem dX11_ofOath_63 : decode cX11_ofOath 63 = .ok (.invokevirtual 219, 3) := by decide +kernel
theorem km11_219 : inW (Cond.methodLink RX11 219 yX3_painOf) := ⟨List.mem_of_getElem? (i := 1161) (by decide +kernel), by decide +kernel⟩
theorem dX11_ofOath_66 : decode cX11_ofOath 66 = .ok (.goto 15, 3) := by decide +kernel
theorem dX11_ofOath_22 : decode cX11_ofOath 22 = .ok (.aload_n 0, 1) := by decide +kernel
theorem dX11_ofOath_23 : decode cX11_ofOath 23 = .ok (.getfield 34, 3) := by decide +kernel
theorem dX11_ofOath_26 : decode cX11_ofOath 26 = .ok (.aload_n 0, 1) := by decide +kernel
theorem dX11_ofOath_27 : decode cX11_ofOath 27 = .ok (.getfield 13, 3) := by decide +kernel
theorem dX11_ofOath_30 : decode cX11_ofOath 30 = .ok (.getfield 212, 3) := by decide +kernel
theorem kf11_212 : inW (Cond.fieldLinkNest RX11 212 "KneeOaths$World" "ruling" "I" "KneeOaths") := ⟨List.mem_of_getElem? (i := 298) (by decide +kernel), by decide +kernel⟩
theorem dX11_ofOath_33 : decode cX11_ofOath 33 = .ok (.aload_n 0, 1) := by decide +kernel
theorem dX11_ofOath_34 : decode cX11_ofOath 34 = .ok (.getfield 13, 3) := by decide +kernel
theorem dX11_ofOath_37 : decode cX11_ofOath 37 = .ok (.getfield 131, 3) := by decide +kernel
theorem dX11_ofOath_40 : decode cX11_ofOath 40 = .ok (.iload_n 1, 1) := by decide +kernel
theorem dX11_ofOath_41 : decode cX11_ofOath 41 = .ok (.invokevirtual 215, 3) := by decide +kernel
theorem km11_215 : inW (Cond.methodLink RX11 215 yX3_wearOf) := ⟨List.mem_of_getElem? (i := 1160) (by decide +kernel), by decide +kernel⟩
theorem dX11_ofOath_44 : decode cX11_ofOath 44 = .ok (.ireturn, 1) := by decide +kernel
theorem dX11_ofOath_14 : decode cX11_ofOath 14 = .ok (.iconst (-1), 1) := by decide +kernel
theorem dX11_ofOath_15 : decode cX11_ofOath 15 = .ok (.ireturn, 1) := by decide +kernel
theorem dX11_is_0 : decode cX11_is 0 = .ok (.iload_n 1, 1) := by decide +kernel
theorem dX11_is_1 : decode cX11_is 1 = .ok (.tableswitch 75 0 3 #[31, 42, 53, 64], 31) := by decide +kernel
theorem sw_0_3 (x : Int32) : x = 0 ∨ x = 1 ∨ x = 2 ∨ x = 3 ∨ (x.toInt < 0 ∨ 3 < x.toInt) := by
  have key : ∀ k : Int32, x.toInt = k.toInt → x = k := fun k h => Int32.toInt_inj.mp h
  by_cases h1 : x.toInt < 0
  · simp [h1]
  by_cases h2 : 3 < x.toInt
  · simp [h2]
  have h3 : x.toInt = 0 ∨ x.toInt = 1 ∨ x.toInt = 2 ∨ x.toInt = 3 := by omega
  rcases h3 with h | h | h | h
  · rw [key 0 (h.trans (by decide))]; decide
  · rw [key 1 (h.trans (by decide))]; decide
  · rw [key 2 (h.trans (by decide))]; decide
  · rw [key 3 (h.trans (by decide))]; decide
theorem dX11_is_32 : decode cX11_is 32 = .ok (.aload_n 0, 1) := by decide +kernel
theorem dX11_is_33 : decode cX11_is 33 = .ok (.getfield 13, 3) := by decide +kernel
theorem dX11_is_36 : decode cX11_is 36 = .ok (.getfield 131, 3) := by decide +kernel
theorem dX11_is_39 : decode cX11_is 39 = .ok (.getfield 150, 3) := by decide +kernel
theorem dX11_is_42 : decode cX11_is 42 = .ok (.ireturn, 1) := by decide +kernel
theorem dX11_is_43 : decode cX11_is 43 = .ok (.aload_n 0, 1) := by decide +kernel
theorem dX11_is_44 : decode cX11_is 44 = .ok (.getfield 13, 3) := by decide +kernel
theorem dX11_is_47 : decode cX11_is 47 = .ok (.getfield 131, 3) := by decide +kernel
theorem dX11_is_50 : decode cX11_is 50 = .ok (.getfield 158, 3) := by decide +kernel
theorem dX11_is_53 : decode cX11_is 53 = .ok (.ireturn, 1) := by decide +kernel
theorem dX11_is_54 : decode cX11_is 54 = .ok (.aload_n 0, 1) := by decide +kernel
theorem dX11_is_55 : decode cX11_is 55 = .ok (.getfield 13, 3) := by decide +kernel
theorem dX11_is_58 : decode cX11_is 58 = .ok (.getfield 131, 3) := by decide +kernel
theorem dX11_is_61 : decode cX11_is 61 = .ok (.getfield 225, 3) := by decide +kernel
theorem kf11_225 : inW (Cond.fieldLinkNest RX11 225 "KneeOaths$Ledger" "x" "I" "KneeOaths") := ⟨List.mem_of_getElem? (i := 181) (by decide +kernel), by decide +kernel⟩
theorem dX11_is_64 : decode cX11_is 64 = .ok (.ireturn, 1) := by decide +kernel
theorem dX11_is_65 : decode cX11_is 65 = .ok (.aload_n 0, 1) := by decide +kernel
theorem dX11_is_66 : decode cX11_is 66 = .ok (.getfield 13, 3) := by decide +kernel
theorem dX11_is_69 : decode cX11_is 69 = .ok (.getfield 131, 3) := by decide +kernel
theorem dX11_is_72 : decode cX11_is 72 = .ok (.getfield 228, 3) := by decide +kernel
theorem kf11_228 : inW (Cond.fieldLinkNest RX11 228 "KneeOaths$Ledger" "oathCount" "I" "KneeOaths") := ⟨List.mem_of_getElem? (i := 167) (by decide +kernel), by decide +kernel⟩
theorem dX11_is_75 : decode cX11_is 75 = .ok (.ireturn, 1) := by decide +kernel
theorem dX11_is_76 : decode cX11_is 76 = .ok (.bipush (-2), 2) := by decide +kernel
theorem dX11_is_78 : decode cX11_is 78 = .ok (.ireturn, 1) := by decide +kernel
theorem dX11_book_0 : decode cX11_book 0 = .ok (.iload_n 1, 1) := by decide +kernel
theorem dX11_book_1 : decode cX11_book 1 = .ok (.iconst (-1), 1) := by decide +kernel
theorem dX11_book_2 : decode cX11_book 2 = .ok (.if_icmp .ne 16, 3) := by decide +kernel
theorem dX11_book_18 : decode cX11_book 18 = .ok (.aload_n 0, 1) := by decide +kernel
theorem dX11_book_19 : decode cX11_book 19 = .ok (.getfield 13, 3) := by decide +kernel
theorem dX11_book_22 : decode cX11_book 22 = .ok (.getfield 131, 3) := by decide +kernel
theorem dX11_book_25 : decode cX11_book 25 = .ok (.iload_n 1, 1) := by decide +kernel
theorem dX11_book_26 : decode cX11_book 26 = .ok (.iload_n 2, 1) := by decide +kernel
theorem dX11_book_27 : decode cX11_book 27 = .ok (.invokevirtual 234, 3) := by decide +kernel
theorem km11_234 : inW (Cond.methodLink RX11 234 yX4_written) := ⟨List.mem_of_getElem? (i := 1171) (by decide +kernel), by decide +kernel⟩
theorem dX11_book_30 : decode cX11_book 30 = .ok (.ireturn, 1) := by decide +kernel
theorem dX11_book_5 : decode cX11_book 5 = .ok (.aload_n 0, 1) := by decide +kernel
theorem dX11_book_6 : decode cX11_book 6 = .ok (.getfield 13, 3) := by decide +kernel
theorem dX11_book_9 : decode cX11_book 9 = .ok (.getfield 131, 3) := by decide +kernel
theorem dX11_book_12 : decode cX11_book 12 = .ok (.getfield 231, 3) := by decide +kernel
theorem kf11_231 : inW (Cond.fieldLinkNest RX11 231 "KneeOaths$Ledger" "acheCount" "I" "KneeOaths") := ⟨List.mem_of_getElem? (i := 169) (by decide +kernel), by decide +kernel⟩
theorem dX11_book_15 : decode cX11_book 15 = .ok (.goto 15, 3) := by decide +kernel
theorem dX11_foretold_0 : decode cX11_foretold 0 = .ok (.iload_n 1, 1) := by decide +kernel
theorem dX11_foretold_1 : decode cX11_foretold 1 = .ok (.iconst 1, 1) := by decide +kernel
theorem dX11_foretold_2 : decode cX11_foretold 2 = .ok (.bipush 60, 2) := by decide +kernel
theorem dX11_foretold_4 : decode cX11_foretold 4 = .ok (.invokestatic 146, 3) := by decide +kernel
theorem dX11_foretold_7 : decode cX11_foretold 7 = .ok (.ifCond .ne 5, 3) := by decide +kernel
theorem dX11_foretold_12 : decode cX11_foretold 12 = .ok (.iload_n 2, 1) := by decide +kernel
theorem dX11_foretold_13 : decode cX11_foretold 13 = .ok (.iconst (-1), 1) := by decide +kernel
theorem dX11_foretold_14 : decode cX11_foretold 14 = .ok (.if_icmp .ne 12, 3) := by decide +kernel
theorem dX11_foretold_26 : decode cX11_foretold 26 = .ok (.aload_n 0, 1) := by decide +kernel
theorem dX11_foretold_27 : decode cX11_foretold 27 = .ok (.getfield 13, 3) := by decide +kernel
theorem dX11_foretold_30 : decode cX11_foretold 30 = .ok (.iload_n 2, 1) := by decide +kernel
theorem dX11_foretold_31 : decode cX11_foretold 31 = .ok (.invokevirtual 192, 3) := by decide +kernel
theorem dX11_foretold_34 : decode cX11_foretold 34 = .ok (.ifCond .eq 15, 3) := by decide +kernel
theorem dX11_foretold_49 : decode cX11_foretold 49 = .ok (.iconst (-1), 1) := by decide +kernel
theorem dX11_foretold_50 : decode cX11_foretold 50 = .ok (.ireturn, 1) := by decide +kernel
theorem dX11_foretold_37 : decode cX11_foretold 37 = .ok (.aload_n 0, 1) := by decide +kernel
theorem dX11_foretold_38 : decode cX11_foretold 38 = .ok (.getfield 59, 3) := by decide +kernel
theorem kf11_59 : inW (Cond.fieldLink RX11 59 "KneeOaths" "foresight" "LKneeOaths$Foresight;") := ⟨List.mem_of_getElem? (i := 511) (by decide +kernel), by decide +kernel⟩
theorem dX11_foretold_41 : decode cX11_foretold 41 = .ok (.iload_n 1, 1) := by decide +kernel
theorem dX11_foretold_42 : decode cX11_foretold 42 = .ok (.iload_n 2, 1) := by decide +kernel
theorem dX11_foretold_43 : decode cX11_foretold 43 = .ok (.invokevirtual 240, 3) := by decide +kernel
theorem cw_X2_achesWithin : CWv yX2_achesWithin cX2_achesWithin 5 (some .int) 2 := ⟨⟨⟨List.mem_of_getElem? (i := 134) (by decide +kernel), by decide +kernel⟩, ⟨List.mem_of_getElem? (i := 1189) (by decide +kernel), by decide +kernel⟩, by decide +kernel⟩, ⟨List.mem_of_getElem? (i := 1187) (by decide +kernel), by decide +kernel⟩, ⟨List.mem_of_getElem? (i := 1188) (by decide +kernel), by decide +kernel⟩⟩
theorem km11_240 : inW (Cond.methodLink RX11 240 yX2_achesWithin) := ⟨List.mem_of_getElem? (i := 1186) (by decide +kernel), by decide +kernel⟩
theorem dX11_foretold_46 : decode cX11_foretold 46 = .ok (.goto 4, 3) := by decide +kernel
theorem dX11_foretold_17 : decode cX11_foretold 17 = .ok (.aload_n 0, 1) := by decide +kernel
theorem dX11_foretold_18 : decode cX11_foretold 18 = .ok (.getfield 59, 3) := by decide +kernel
theorem dX11_foretold_21 : decode cX11_foretold 21 = .ok (.iload_n 1, 1) := by decide +kernel
theorem dX11_foretold_22 : decode cX11_foretold 22 = .ok (.invokevirtual 237, 3) := by decide +kernel
theorem cw_X2_rainBehind : CWv yX2_rainBehind cX2_rainBehind 3 (some .int) 1 := ⟨⟨⟨List.mem_of_getElem? (i := 134) (by decide +kernel), by decide +kernel⟩, ⟨List.mem_of_getElem? (i := 1182) (by decide +kernel), by decide +kernel⟩, by decide +kernel⟩, ⟨List.mem_of_getElem? (i := 1180) (by decide +kernel), by decide +kernel⟩, ⟨List.mem_of_getElem? (i := 1181) (by decide +kernel), by decide +kernel⟩⟩
theorem km11_237 : inW (Cond.methodLink RX11 237 yX2_rainBehind) := ⟨List.mem_of_getElem? (i := 1179) (by decide +kernel), by decide +kernel⟩
theorem dX11_foretold_25 : decode cX11_foretold 25 = .ok (.ireturn, 1) := by decide +kernel
theorem dX11_foretold_10 : decode cX11_foretold 10 = .ok (.iconst (-1), 1) := by decide +kernel
theorem dX11_foretold_11 : decode cX11_foretold 11 = .ok (.ireturn, 1) := by decide +kernel
theorem dX11_firstAche_0 : decode cX11_firstAche 0 = .ok (.aload_n 0, 1) := by decide +kernel
theorem dX11_firstAche_1 : decode cX11_firstAche 1 = .ok (.getfield 13, 3) := by decide +kernel
theorem dX11_firstAche_4 : decode cX11_firstAche 4 = .ok (.iload_n 1, 1) := by decide +kernel
theorem dX11_firstAche_5 : decode cX11_firstAche 5 = .ok (.invokevirtual 192, 3) := by decide +kernel
theorem dX11_firstAche_8 : decode cX11_firstAche 8 = .ok (.ifCond .eq 14, 3) := by decide +kernel
theorem dX11_firstAche_22 : decode cX11_firstAche 22 = .ok (.iconst (-1), 1) := by decide +kernel
theorem dX11_firstAche_23 : decode cX11_firstAche 23 = .ok (.ireturn, 1) := by decide +kernel
theorem dX11_firstAche_11 : decode cX11_firstAche 11 = .ok (.aload_n 0, 1) := by decide +kernel
theorem dX11_firstAche_12 : decode cX11_firstAche 12 = .ok (.getfield 59, 3) := by decide +kernel
theorem dX11_firstAche_15 : decode cX11_firstAche 15 = .ok (.iload_n 1, 1) := by decide +kernel
theorem dX11_firstAche_16 : decode cX11_firstAche 16 = .ok (.invokevirtual 243, 3) := by decide +kernel
theorem cw_X2_daysToAche : CWv yX2_daysToAche cX2_daysToAche 3 (some .int) 1 := ⟨⟨⟨List.mem_of_getElem? (i := 134) (by decide +kernel), by decide +kernel⟩, ⟨List.mem_of_getElem? (i := 1198) (by decide +kernel), by decide +kernel⟩, by decide +kernel⟩, ⟨List.mem_of_getElem? (i := 1196) (by decide +kernel), by decide +kernel⟩, ⟨List.mem_of_getElem? (i := 1197) (by decide +kernel), by decide +kernel⟩⟩
theorem km11_243 : inW (Cond.methodLink RX11 243 yX2_daysToAche) := ⟨List.mem_of_getElem? (i := 1195) (by decide +kernel), by decide +kernel⟩
theorem dX11_firstAche_19 : decode cX11_firstAche 19 = .ok (.goto 4, 3) := by decide +kernel
theorem dX11_fades_0 : decode cX11_fades 0 = .ok (.aload_n 0, 1) := by decide +kernel
theorem dX11_fades_1 : decode cX11_fades 1 = .ok (.getfield 59, 3) := by decide +kernel
theorem dX11_fades_4 : decode cX11_fades 4 = .ok (.iload_n 1, 1) := by decide +kernel
theorem dX11_fades_5 : decode cX11_fades 5 = .ok (.invokevirtual 246, 3) := by decide +kernel
theorem cw_X2_daysToFade : CWv yX2_daysToFade cX2_daysToFade 4 (some .int) 1 := ⟨⟨⟨List.mem_of_getElem? (i := 134) (by decide +kernel), by decide +kernel⟩, ⟨List.mem_of_getElem? (i := 1206) (by decide +kernel), by decide +kernel⟩, by decide +kernel⟩, ⟨List.mem_of_getElem? (i := 1204) (by decide +kernel), by decide +kernel⟩, ⟨List.mem_of_getElem? (i := 1205) (by decide +kernel), by decide +kernel⟩⟩
theorem km11_246 : inW (Cond.methodLink RX11 246 yX2_daysToFade) := ⟨List.mem_of_getElem? (i := 1203) (by decide +kernel), by decide +kernel⟩
theorem dX11_fades_8 : decode cX11_fades 8 = .ok (.ireturn, 1) := by decide +kernel
theorem dX11_felt_0 : decode cX11_felt 0 = .ok (.iload_n 1, 1) := by decide +kernel
theorem dX11_felt_1 : decode cX11_felt 1 = .ok (.iconst (-1), 1) := by decide +kernel
theorem dX11_felt_2 : decode cX11_felt 2 = .ok (.if_icmp .ne 14, 3) := by decide +kernel
theorem dX11_felt_16 : decode cX11_felt 16 = .ok (.aload_n 0, 1) := by decide +kernel
theorem dX11_felt_17 : decode cX11_felt 17 = .ok (.getfield 13, 3) := by decide +kernel
theorem dX11_felt_20 : decode cX11_felt 20 = .ok (.iload_n 1, 1) := by decide +kernel
theorem dX11_felt_21 : decode cX11_felt 21 = .ok (.invokevirtual 192, 3) := by decide +kernel
theorem dX11_felt_24 : decode cX11_felt 24 = .ok (.ifCond .eq 24, 3) := by decide +kernel
theorem dX11_felt_48 : decode cX11_felt 48 = .ok (.bipush (-2), 2) := by decide +kernel
theorem dX11_felt_50 : decode cX11_felt 50 = .ok (.ireturn, 1) := by decide +kernel
theorem dX11_felt_27 : decode cX11_felt 27 = .ok (.iload_n 2, 1) := by decide +kernel
theorem dX11_felt_28 : decode cX11_felt 28 = .ok (.iconst 0, 1) := by decide +kernel
theorem dX11_felt_29 : decode cX11_felt 29 = .ok (.bipush 9, 2) := by decide +kernel
theorem dX11_felt_31 : decode cX11_felt 31 = .ok (.invokestatic 146, 3) := by decide +kernel
theorem dX11_felt_34 : decode cX11_felt 34 = .ok (.ifCond .eq 14, 3) := by decide +kernel
theorem dX11_felt_37 : decode cX11_felt 37 = .ok (.iload_n 3, 1) := by decide +kernel
theorem dX11_felt_38 : decode cX11_felt 38 = .ok (.iconst 0, 1) := by decide +kernel
theorem dX11_felt_39 : decode cX11_felt 39 = .ok (.sipush 999, 3) := by decide +kernel
theorem dX11_felt_42 : decode cX11_felt 42 = .ok (.invokestatic 146, 3) := by decide +kernel
theorem dX11_felt_45 : decode cX11_felt 45 = .ok (.ifCond .ne 6, 3) := by decide +kernel
theorem dX11_felt_51 : decode cX11_felt 51 = .ok (.aload_n 0, 1) := by decide +kernel
theorem dX11_felt_52 : decode cX11_felt 52 = .ok (.getfield 13, 3) := by decide +kernel
theorem dX11_felt_55 : decode cX11_felt 55 = .ok (.getfield 249, 3) := by decide +kernel
theorem kf11_249 : inW (Cond.fieldLinkNest RX11 249 "KneeOaths$World" "feelings" "LKneeOaths$Told;" "KneeOaths") := ⟨List.mem_of_getElem? (i := 275) (by decide +kernel), by decide +kernel⟩
theorem dX11_felt_58 : decode cX11_felt 58 = .ok (.iload_n 1, 1) := by decide +kernel
theorem dX11_felt_59 : decode cX11_felt 59 = .ok (.iload_n 2, 1) := by decide +kernel
theorem dX11_felt_60 : decode cX11_felt 60 = .ok (.iload_n 3, 1) := by decide +kernel
theorem dX11_felt_61 : decode cX11_felt 61 = .ok (.invokevirtual 258, 3) := by decide +kernel
theorem cw_X9_tell : CWv yX9_tell cX9_tell 5 (some .int) 3 := ⟨⟨⟨List.mem_of_getElem? (i := 127) (by decide +kernel), by decide +kernel⟩, ⟨List.mem_of_getElem? (i := 1222) (by decide +kernel), by decide +kernel⟩, by decide +kernel⟩, ⟨List.mem_of_getElem? (i := 1220) (by decide +kernel), by decide +kernel⟩, ⟨List.mem_of_getElem? (i := 1221) (by decide +kernel), by decide +kernel⟩⟩
theorem km11_258 : inW (Cond.methodLink RX11 258 yX9_tell) := ⟨List.mem_of_getElem? (i := 1219) (by decide +kernel), by decide +kernel⟩
theorem dX11_felt_64 : decode cX11_felt 64 = .ok (.ireturn, 1) := by decide +kernel
theorem dX11_felt_5 : decode cX11_felt 5 = .ok (.aload_n 0, 1) := by decide +kernel
theorem dX11_felt_6 : decode cX11_felt 6 = .ok (.getfield 13, 3) := by decide +kernel
theorem dX11_felt_9 : decode cX11_felt 9 = .ok (.getfield 249, 3) := by decide +kernel
theorem dX11_felt_12 : decode cX11_felt 12 = .ok (.invokevirtual 253, 3) := by decide +kernel
theorem cw_X9_forget : CWv yX9_forget cX9_forget 1 (some .int) 0 := ⟨⟨⟨List.mem_of_getElem? (i := 127) (by decide +kernel), by decide +kernel⟩, ⟨List.mem_of_getElem? (i := 1218) (by decide +kernel), by decide +kernel⟩, by decide +kernel⟩, ⟨List.mem_of_getElem? (i := 1216) (by decide +kernel), by decide +kernel⟩, ⟨List.mem_of_getElem? (i := 1217) (by decide +kernel), by decide +kernel⟩⟩
theorem km11_253 : inW (Cond.methodLink RX11 253 yX9_forget) := ⟨List.mem_of_getElem? (i := 1215) (by decide +kernel), by decide +kernel⟩
theorem dX11_felt_15 : decode cX11_felt 15 = .ok (.ireturn, 1) := by decide +kernel
theorem dX11_breaches_0 : decode cX11_breaches 0 = .ok (.aload_n 0, 1) := by decide +kernel
theorem dX11_breaches_1 : decode cX11_breaches 1 = .ok (.getfield 13, 3) := by decide +kernel
theorem dX11_breaches_4 : decode cX11_breaches 4 = .ok (.iload_n 1, 1) := by decide +kernel
theorem dX11_breaches_5 : decode cX11_breaches 5 = .ok (.invokevirtual 192, 3) := by decide +kernel
theorem dX11_breaches_8 : decode cX11_breaches 8 = .ok (.ifCond .eq 12, 3) := by decide +kernel
theorem dX11_breaches_20 : decode cX11_breaches 20 = .ok (.iconst (-1), 1) := by decide +kernel
theorem dX11_breaches_21 : decode cX11_breaches 21 = .ok (.ireturn, 1) := by decide +kernel
theorem dX11_breaches_11 : decode cX11_breaches 11 = .ok (.iload_n 2, 1) := by decide +kernel
theorem dX11_breaches_12 : decode cX11_breaches 12 = .ok (.iconst 0, 1) := by decide +kernel
theorem dX11_breaches_13 : decode cX11_breaches 13 = .ok (.iconst 2, 1) := by decide +kernel
theorem dX11_breaches_14 : decode cX11_breaches 14 = .ok (.invokestatic 146, 3) := by decide +kernel
theorem dX11_breaches_17 : decode cX11_breaches 17 = .ok (.ifCond .ne 5, 3) := by decide +kernel
theorem dX11_breaches_22 : decode cX11_breaches 22 = .ok (.aload_n 0, 1) := by decide +kernel
theorem dX11_breaches_23 : decode cX11_breaches 23 = .ok (.getfield 68, 3) := by decide +kernel
theorem kf11_68 : inW (Cond.fieldLink RX11 68 "KneeOaths" "suspicions" "LKneeOaths$Suspicions;") := ⟨List.mem_of_getElem? (i := 512) (by decide +kernel), by decide +kernel⟩
theorem dX11_breaches_26 : decode cX11_breaches 26 = .ok (.iload_n 1, 1) := by decide +kernel
theorem dX11_breaches_27 : decode cX11_breaches 27 = .ok (.invokevirtual 262, 3) := by decide +kernel
theorem cw_X8_weigh : CWv yX8_weigh cX8_weigh 5 none 1 := ⟨⟨⟨List.mem_of_getElem? (i := 135) (by decide +kernel), by decide +kernel⟩, ⟨List.mem_of_getElem? (i := 1230) (by decide +kernel), by decide +kernel⟩, by decide +kernel⟩, ⟨List.mem_of_getElem? (i := 1228) (by decide +kernel), by decide +kernel⟩, ⟨List.mem_of_getElem? (i := 1229) (by decide +kernel), by decide +kernel⟩⟩
theorem km11_262 : inW (Cond.methodLink RX11 262 yX8_weigh) := ⟨List.mem_of_getElem? (i := 1227) (by decide +kernel), by decide +kernel⟩
theorem dX11_breaches_30 : decode cX11_breaches 30 = .ok (.iload_n 2, 1) := by decide +kernel
theorem dX11_breaches_31 : decode cX11_breaches 31 = .ok (.ifCond .ne 11, 3) := by decide +kernel
theorem dX11_breaches_42 : decode cX11_breaches 42 = .ok (.iload_n 2, 1) := by decide +kernel
theorem dX11_breaches_43 : decode cX11_breaches 43 = .ok (.iconst 1, 1) := by decide +kernel
theorem dX11_breaches_44 : decode cX11_breaches 44 = .ok (.if_icmp .ne 13, 3) := by decide +kernel
theorem dX11_breaches_57 : decode cX11_breaches 57 = .ok (.aload_n 0, 1) := by decide +kernel
theorem dX11_breaches_58 : decode cX11_breaches 58 = .ok (.getfield 68, 3) := by decide +kernel
theorem dX11_breaches_61 : decode cX11_breaches 61 = .ok (.invokevirtual 271, 3) := by decide +kernel
theorem cw_X8_sureKept : CWv yX8_sureKept cX8_sureKept 1 (some .int) 0 := ⟨⟨⟨List.mem_of_getElem? (i := 135) (by decide +kernel), by decide +kernel⟩, ⟨List.mem_of_getElem? (i := 1270) (by decide +kernel), by decide +kernel⟩, by decide +kernel⟩, ⟨List.mem_of_getElem? (i := 1268) (by decide +kernel), by decide +kernel⟩, ⟨List.mem_of_getElem? (i := 1269) (by decide +kernel), by decide +kernel⟩⟩
theorem km11_271 : inW (Cond.methodLink RX11 271 yX8_sureKept) := ⟨List.mem_of_getElem? (i := 1267) (by decide +kernel), by decide +kernel⟩
theorem dX11_breaches_64 : decode cX11_breaches 64 = .ok (.ireturn, 1) := by decide +kernel
theorem dX11_breaches_47 : decode cX11_breaches 47 = .ok (.aload_n 0, 1) := by decide +kernel
theorem dX11_breaches_48 : decode cX11_breaches 48 = .ok (.getfield 68, 3) := by decide +kernel
theorem dX11_breaches_51 : decode cX11_breaches 51 = .ok (.invokevirtual 268, 3) := by decide +kernel
theorem cw_X8_sureBroken : CWv yX8_sureBroken cX8_sureBroken 1 (some .int) 0 := ⟨⟨⟨List.mem_of_getElem? (i := 135) (by decide +kernel), by decide +kernel⟩, ⟨List.mem_of_getElem? (i := 1262) (by decide +kernel), by decide +kernel⟩, by decide +kernel⟩, ⟨List.mem_of_getElem? (i := 1260) (by decide +kernel), by decide +kernel⟩, ⟨List.mem_of_getElem? (i := 1261) (by decide +kernel), by decide +kernel⟩⟩
theorem km11_268 : inW (Cond.methodLink RX11 268 yX8_sureBroken) := ⟨List.mem_of_getElem? (i := 1259) (by decide +kernel), by decide +kernel⟩
theorem dX11_breaches_54 : decode cX11_breaches 54 = .ok (.goto 10, 3) := by decide +kernel
theorem dX11_breaches_34 : decode cX11_breaches 34 = .ok (.aload_n 0, 1) := by decide +kernel
theorem dX11_breaches_35 : decode cX11_breaches 35 = .ok (.getfield 68, 3) := by decide +kernel
theorem dX11_breaches_38 : decode cX11_breaches 38 = .ok (.invokevirtual 265, 3) := by decide +kernel
theorem cw_X8_sets : CWv yX8_sets cX8_sets 1 (some .int) 0 := ⟨⟨⟨List.mem_of_getElem? (i := 135) (by decide +kernel), by decide +kernel⟩, ⟨List.mem_of_getElem? (i := 1258) (by decide +kernel), by decide +kernel⟩, by decide +kernel⟩, ⟨List.mem_of_getElem? (i := 1256) (by decide +kernel), by decide +kernel⟩, ⟨List.mem_of_getElem? (i := 1257) (by decide +kernel), by decide +kernel⟩⟩
theorem km11_265 : inW (Cond.methodLink RX11 265 yX8_sets) := ⟨List.mem_of_getElem? (i := 1255) (by decide +kernel), by decide +kernel⟩
theorem dX11_breaches_41 : decode cX11_breaches 41 = .ok (.ireturn, 1) := by decide +kernel
theorem dX11_odds_0 : decode cX11_odds 0 = .ok (.aload_n 0, 1) := by decide +kernel
theorem dX11_odds_1 : decode cX11_odds 1 = .ok (.getfield 13, 3) := by decide +kernel
theorem dX11_odds_4 : decode cX11_odds 4 = .ok (.getfield 131, 3) := by decide +kernel
theorem dX11_odds_7 : decode cX11_odds 7 = .ok (.iload_n 1, 1) := by decide +kernel
theorem dX11_odds_8 : decode cX11_odds 8 = .ok (.invokevirtual 274, 3) := by decide +kernel
theorem km11_274 : inW (Cond.methodLink RX11 274 yX4_legible) := ⟨List.mem_of_getElem? (i := 1275) (by decide +kernel), by decide +kernel⟩
theorem dX11_odds_11 : decode cX11_odds 11 = .ok (.ifCond .ne 5, 3) := by decide +kernel
theorem dX11_odds_16 : decode cX11_odds 16 = .ok (.aload_n 0, 1) := by decide +kernel
theorem dX11_odds_17 : decode cX11_odds 17 = .ok (.getfield 68, 3) := by decide +kernel
theorem dX11_odds_20 : decode cX11_odds 20 = .ok (.aload_n 0, 1) := by decide +kernel
theorem dX11_odds_21 : decode cX11_odds 21 = .ok (.getfield 13, 3) := by decide +kernel
theorem dX11_odds_24 : decode cX11_odds 24 = .ok (.getfield 131, 3) := by decide +kernel
theorem dX11_odds_27 : decode cX11_odds 27 = .ok (.iload_n 1, 1) := by decide +kernel
theorem dX11_odds_28 : decode cX11_odds 28 = .ok (.iconst 1, 1) := by decide +kernel
theorem dX11_odds_29 : decode cX11_odds 29 = .ok (.invokevirtual 222, 3) := by decide +kernel
theorem dX11_odds_32 : decode cX11_odds 32 = .ok (.invokevirtual 262, 3) := by decide +kernel
theorem dX11_odds_35 : decode cX11_odds 35 = .ok (.aload_n 0, 1) := by decide +kernel
theorem dX11_odds_36 : decode cX11_odds 36 = .ok (.getfield 68, 3) := by decide +kernel
theorem dX11_odds_39 : decode cX11_odds 39 = .ok (.iload_n 1, 1) := by decide +kernel
theorem dX11_odds_40 : decode cX11_odds 40 = .ok (.iload_n 2, 1) := by decide +kernel
theorem dX11_odds_41 : decode cX11_odds 41 = .ok (.invokevirtual 277, 3) := by decide +kernel
theorem cw_X8_chance : CWv yX8_chance cX8_chance 5 (some .int) 2 := ⟨⟨⟨List.mem_of_getElem? (i := 135) (by decide +kernel), by decide +kernel⟩, ⟨List.mem_of_getElem? (i := 1279) (by decide +kernel), by decide +kernel⟩, by decide +kernel⟩, ⟨List.mem_of_getElem? (i := 1277) (by decide +kernel), by decide +kernel⟩, ⟨List.mem_of_getElem? (i := 1278) (by decide +kernel), by decide +kernel⟩⟩
theorem km11_277 : inW (Cond.methodLink RX11 277 yX8_chance) := ⟨List.mem_of_getElem? (i := 1276) (by decide +kernel), by decide +kernel⟩
theorem dX11_odds_44 : decode cX11_odds 44 = .ok (.ireturn, 1) := by decide +kernel
theorem dX11_odds_14 : decode cX11_odds 14 = .ok (.iconst (-1), 1) := by decide +kernel
theorem dX11_odds_15 : decode cX11_odds 15 = .ok (.ireturn, 1) := by decide +kernel
theorem dX11_nextAsked_0 : decode cX11_nextAsked 0 = .ok (.aload_n 0, 1) := by decide +kernel
theorem dX11_nextAsked_1 : decode cX11_nextAsked 1 = .ok (.getfield 13, 3) := by decide +kernel
theorem dX11_nextAsked_4 : decode cX11_nextAsked 4 = .ok (.iload_n 1, 1) := by decide +kernel
theorem dX11_nextAsked_5 : decode cX11_nextAsked 5 = .ok (.invokevirtual 192, 3) := by decide +kernel
theorem dX11_nextAsked_8 : decode cX11_nextAsked 8 = .ok (.ifCond .ne 5, 3) := by decide +kernel
theorem dX11_nextAsked_13 : decode cX11_nextAsked 13 = .ok (.aload_n 0, 1) := by decide +kernel
theorem dX11_nextAsked_14 : decode cX11_nextAsked 14 = .ok (.getfield 68, 3) := by decide +kernel
theorem dX11_nextAsked_17 : decode cX11_nextAsked 17 = .ok (.iload_n 1, 1) := by decide +kernel
theorem dX11_nextAsked_18 : decode cX11_nextAsked 18 = .ok (.invokevirtual 262, 3) := by decide +kernel
theorem dX11_nextAsked_21 : decode cX11_nextAsked 21 = .ok (.aload_n 0, 1) := by decide +kernel
theorem dX11_nextAsked_22 : decode cX11_nextAsked 22 = .ok (.getfield 68, 3) := by decide +kernel
theorem dX11_nextAsked_25 : decode cX11_nextAsked 25 = .ok (.invokevirtual 281, 3) := by decide +kernel
theorem cw_X8_mostTelling : CWv yX8_mostTelling cX8_mostTelling 6 (some .int) 0 := ⟨⟨⟨List.mem_of_getElem? (i := 135) (by decide +kernel), by decide +kernel⟩, ⟨List.mem_of_getElem? (i := 1290) (by decide +kernel), by decide +kernel⟩, by decide +kernel⟩, ⟨List.mem_of_getElem? (i := 1288) (by decide +kernel), by decide +kernel⟩, ⟨List.mem_of_getElem? (i := 1289) (by decide +kernel), by decide +kernel⟩⟩
theorem km11_281 : inW (Cond.methodLink RX11 281 yX8_mostTelling) := ⟨List.mem_of_getElem? (i := 1287) (by decide +kernel), by decide +kernel⟩
theorem dX11_nextAsked_28 : decode cX11_nextAsked 28 = .ok (.ireturn, 1) := by decide +kernel
theorem dX11_nextAsked_11 : decode cX11_nextAsked 11 = .ok (.iconst (-1), 1) := by decide +kernel
theorem dX11_nextAsked_12 : decode cX11_nextAsked 12 = .ok (.ireturn, 1) := by decide +kernel
theorem dX11_clash_0 : decode cX11_clash 0 = .ok (.iload_n 1, 1) := by decide +kernel
theorem dX11_clash_1 : decode cX11_clash 1 = .ok (.iconst (-1), 1) := by decide +kernel
theorem dX11_clash_2 : decode cX11_clash 2 = .ok (.if_icmp .ne 14, 3) := by decide +kernel
theorem dX11_clash_16 : decode cX11_clash 16 = .ok (.aload_n 0, 1) := by decide +kernel
theorem dX11_clash_17 : decode cX11_clash 17 = .ok (.getfield 13, 3) := by decide +kernel
theorem dX11_clash_20 : decode cX11_clash 20 = .ok (.getfield 131, 3) := by decide +kernel
theorem dX11_clash_23 : decode cX11_clash 23 = .ok (.iload_n 1, 1) := by decide +kernel
theorem dX11_clash_24 : decode cX11_clash 24 = .ok (.invokevirtual 211, 3) := by decide +kernel
theorem dX11_clash_27 : decode cX11_clash 27 = .ok (.ifCond .eq 22, 3) := by decide +kernel
theorem dX11_clash_49 : decode cX11_clash 49 = .ok (.bipush (-2), 2) := by decide +kernel
theorem dX11_clash_51 : decode cX11_clash 51 = .ok (.ireturn, 1) := by decide +kernel
theorem dX11_clash_30 : decode cX11_clash 30 = .ok (.aload_n 0, 1) := by decide +kernel
theorem dX11_clash_31 : decode cX11_clash 31 = .ok (.getfield 13, 3) := by decide +kernel
theorem dX11_clash_34 : decode cX11_clash 34 = .ok (.getfield 131, 3) := by decide +kernel
theorem dX11_clash_37 : decode cX11_clash 37 = .ok (.iload_n 2, 1) := by decide +kernel
theorem dX11_clash_38 : decode cX11_clash 38 = .ok (.invokevirtual 211, 3) := by decide +kernel
theorem dX11_clash_41 : decode cX11_clash 41 = .ok (.ifCond .eq 8, 3) := by decide +kernel
theorem dX11_clash_44 : decode cX11_clash 44 = .ok (.iload_n 1, 1) := by decide +kernel
theorem dX11_clash_45 : decode cX11_clash 45 = .ok (.iload_n 2, 1) := by decide +kernel
theorem dX11_clash_46 : decode cX11_clash 46 = .ok (.if_icmp .ne 6, 3) := by decide +kernel
theorem dX11_clash_52 : decode cX11_clash 52 = .ok (.aload_n 0, 1) := by decide +kernel
theorem dX11_clash_53 : decode cX11_clash 53 = .ok (.getfield 13, 3) := by decide +kernel
theorem dX11_clash_56 : decode cX11_clash 56 = .ok (.getfield 284, 3) := by decide +kernel
theorem kf11_284 : inW (Cond.fieldLinkNest RX11 284 "KneeOaths$World" "clashes" "LKneeOaths$Told;" "KneeOaths") := ⟨List.mem_of_getElem? (i := 278) (by decide +kernel), by decide +kernel⟩
theorem dX11_clash_59 : decode cX11_clash 59 = .ok (.iload_n 1, 1) := by decide +kernel
theorem dX11_clash_60 : decode cX11_clash 60 = .ok (.iload_n 2, 1) := by decide +kernel
theorem dX11_clash_61 : decode cX11_clash 61 = .ok (.iconst 0, 1) := by decide +kernel
theorem dX11_clash_62 : decode cX11_clash 62 = .ok (.invokevirtual 258, 3) := by decide +kernel
theorem dX11_clash_65 : decode cX11_clash 65 = .ok (.ireturn, 1) := by decide +kernel
theorem dX11_clash_5 : decode cX11_clash 5 = .ok (.aload_n 0, 1) := by decide +kernel
theorem dX11_clash_6 : decode cX11_clash 6 = .ok (.getfield 13, 3) := by decide +kernel
theorem dX11_clash_9 : decode cX11_clash 9 = .ok (.getfield 284, 3) := by decide +kernel
theorem dX11_clash_12 : decode cX11_clash 12 = .ok (.invokevirtual 253, 3) := by decide +kernel
theorem dX11_clash_15 : decode cX11_clash 15 = .ok (.ireturn, 1) := by decide +kernel
theorem dX11_leastReleased_0 : decode cX11_leastReleased 0 = .ok (.aload_n 0, 1) := by decide +kernel
theorem dX11_leastReleased_1 : decode cX11_leastReleased 1 = .ok (.getfield 75, 3) := by decide +kernel
theorem dX11_leastReleased_4 : decode cX11_leastReleased 4 = .ok (.invokevirtual 287, 3) := by decide +kernel
theorem cw_X0_fewestReleased : CWv yX0_fewestReleased cX0_fewestReleased 5 (some .int) 0 := ⟨⟨⟨List.mem_of_getElem? (i := 136) (by decide +kernel), by decide +kernel⟩, ⟨List.mem_of_getElem? (i := 1305) (by decide +kernel), by decide +kernel⟩, by decide +kernel⟩, ⟨List.mem_of_getElem? (i := 1303) (by decide +kernel), by decide +kernel⟩, ⟨List.mem_of_getElem? (i := 1304) (by decide +kernel), by decide +kernel⟩⟩
theorem km11_287 : inW (Cond.methodLink RX11 287 yX0_fewestReleased) := ⟨List.mem_of_getElem? (i := 1302) (by decide +kernel), by decide +kernel⟩
theorem dX11_leastReleased_7 : decode cX11_leastReleased 7 = .ok (.ireturn, 1) := by decide +kernel
theorem dX11_forged_0 : decode cX11_forged 0 = .ok (.aload_n 0, 1) := by decide +kernel
theorem dX11_forged_1 : decode cX11_forged 1 = .ok (.getfield 13, 3) := by decide +kernel
theorem dX11_forged_4 : decode cX11_forged 4 = .ok (.iload_n 1, 1) := by decide +kernel
theorem dX11_forged_5 : decode cX11_forged 5 = .ok (.invokevirtual 192, 3) := by decide +kernel
theorem dX11_forged_8 : decode cX11_forged 8 = .ok (.ifCond .eq 22, 3) := by decide +kernel
theorem dX11_forged_30 : decode cX11_forged 30 = .ok (.sipush (-1000), 3) := by decide +kernel
theorem dX11_forged_33 : decode cX11_forged 33 = .ok (.ireturn, 1) := by decide +kernel
theorem dX11_forged_11 : decode cX11_forged 11 = .ok (.iload_n 2, 1) := by decide +kernel
theorem dX11_forged_12 : decode cX11_forged 12 = .ok (.iconst 0, 1) := by decide +kernel
theorem dX11_forged_13 : decode cX11_forged 13 = .ok (.iconst 1, 1) := by decide +kernel
theorem dX11_forged_14 : decode cX11_forged 14 = .ok (.invokestatic 146, 3) := by decide +kernel
theorem dX11_forged_17 : decode cX11_forged 17 = .ok (.ifCond .eq 13, 3) := by decide +kernel
theorem dX11_forged_20 : decode cX11_forged 20 = .ok (.iload_n 3, 1) := by decide +kernel
theorem dX11_forged_21 : decode cX11_forged 21 = .ok (.iconst 0, 1) := by decide +kernel
theorem dX11_forged_22 : decode cX11_forged 22 = .ok (.bipush 99, 2) := by decide +kernel
theorem dX11_forged_24 : decode cX11_forged 24 = .ok (.invokestatic 146, 3) := by decide +kernel
theorem dX11_forged_27 : decode cX11_forged 27 = .ok (.ifCond .ne 7, 3) := by decide +kernel
theorem dX11_forged_34 : decode cX11_forged 34 = .ok (.iload_n 3, 1) := by decide +kernel
theorem dX11_forged_35 : decode cX11_forged 35 = .ok (.aload_n 0, 1) := by decide +kernel
theorem dX11_forged_36 : decode cX11_forged 36 = .ok (.getfield 13, 3) := by decide +kernel
theorem dX11_forged_39 : decode cX11_forged 39 = .ok (.getfield 131, 3) := by decide +kernel
theorem dX11_forged_42 : decode cX11_forged 42 = .ok (.iload_n 1, 1) := by decide +kernel
theorem dX11_forged_43 : decode cX11_forged 43 = .ok (.iload_n 2, 1) := by decide +kernel
theorem dX11_forged_44 : decode cX11_forged 44 = .ok (.invokevirtual 290, 3) := by decide +kernel
theorem cw_X4_marksOnKnee : CWv yX4_marksOnKnee cX4_marksOnKnee 5 (some .int) 2 := ⟨⟨⟨List.mem_of_getElem? (i := 125) (by decide +kernel), by decide +kernel⟩, ⟨List.mem_of_getElem? (i := 1323) (by decide +kernel), by decide +kernel⟩, by decide +kernel⟩, ⟨List.mem_of_getElem? (i := 1321) (by decide +kernel), by decide +kernel⟩, ⟨List.mem_of_getElem? (i := 1322) (by decide +kernel), by decide +kernel⟩⟩
theorem km11_290 : inW (Cond.methodLink RX11 290 yX4_marksOnKnee) := ⟨List.mem_of_getElem? (i := 1320) (by decide +kernel), by decide +kernel⟩
theorem dX11_forged_47 : decode cX11_forged 47 = .ok (.isub, 1) := by decide +kernel
theorem dX11_forged_48 : decode cX11_forged 48 = .ok (.ireturn, 1) := by decide +kernel
theorem dX11_inTime_0 : decode cX11_inTime 0 = .ok (.iload_n 1, 1) := by decide +kernel
theorem dX11_inTime_1 : decode cX11_inTime 1 = .ok (.iconst 0, 1) := by decide +kernel
theorem dX11_inTime_2 : decode cX11_inTime 2 = .ok (.iconst 2, 1) := by decide +kernel
theorem dX11_inTime_3 : decode cX11_inTime 3 = .ok (.invokestatic 146, 3) := by decide +kernel
theorem dX11_inTime_6 : decode cX11_inTime 6 = .ok (.ifCond .ne 5, 3) := by decide +kernel
theorem dX11_inTime_11 : decode cX11_inTime 11 = .ok (.aload_n 0, 1) := by decide +kernel
theorem dX11_inTime_12 : decode cX11_inTime 12 = .ok (.getfield 75, 3) := by decide +kernel
theorem dX11_inTime_15 : decode cX11_inTime 15 = .ok (.invokevirtual 296, 3) := by decide +kernel
theorem cw_X0_mostInTime : CWv yX0_mostInTime cX0_mostInTime 3 (some .int) 0 := ⟨⟨⟨List.mem_of_getElem? (i := 136) (by decide +kernel), by decide +kernel⟩, ⟨List.mem_of_getElem? (i := 1335) (by decide +kernel), by decide +kernel⟩, by decide +kernel⟩, ⟨List.mem_of_getElem? (i := 1333) (by decide +kernel), by decide +kernel⟩, ⟨List.mem_of_getElem? (i := 1334) (by decide +kernel), by decide +kernel⟩⟩
theorem km11_296 : inW (Cond.methodLink RX11 296 yX0_mostInTime) := ⟨List.mem_of_getElem? (i := 1332) (by decide +kernel), by decide +kernel⟩
theorem dX11_inTime_18 : decode cX11_inTime 18 = .ok (.istore_n 2, 1) := by decide +kernel
theorem dX11_inTime_19 : decode cX11_inTime 19 = .ok (.iload_n 1, 1) := by decide +kernel
theorem dX11_inTime_20 : decode cX11_inTime 20 = .ok (.ifCond .ne 8, 3) := by decide +kernel
theorem dX11_inTime_28 : decode cX11_inTime 28 = .ok (.iload_n 1, 1) := by decide +kernel
theorem dX11_inTime_29 : decode cX11_inTime 29 = .ok (.iconst 1, 1) := by decide +kernel
theorem dX11_inTime_30 : decode cX11_inTime 30 = .ok (.if_icmp .ne 7, 3) := by decide +kernel
theorem dX11_inTime_37 : decode cX11_inTime 37 = .ok (.aload_n 0, 1) := by decide +kernel
theorem dX11_inTime_38 : decode cX11_inTime 38 = .ok (.getfield 75, 3) := by decide +kernel
theorem dX11_inTime_41 : decode cX11_inTime 41 = .ok (.iload_n 2, 1) := by decide +kernel
theorem dX11_inTime_42 : decode cX11_inTime 42 = .ok (.sipush 999, 3) := by decide +kernel
theorem dX11_inTime_45 : decode cX11_inTime 45 = .ok (.invokevirtual 304, 3) := by decide +kernel
theorem km11_304 : inW (Cond.methodLink RX11 304 yX0_workOf) := ⟨List.mem_of_getElem? (i := 1345) (by decide +kernel), by decide +kernel⟩
theorem dX11_inTime_48 : decode cX11_inTime 48 = .ok (.ireturn, 1) := by decide +kernel
theorem dX11_inTime_33 : decode cX11_inTime 33 = .ok (.iload_n 2, 1) := by decide +kernel
theorem dX11_inTime_34 : decode cX11_inTime 34 = .ok (.goto 14, 3) := by decide +kernel
theorem dX11_inTime_23 : decode cX11_inTime 23 = .ok (.iload_n 2, 1) := by decide +kernel
theorem dX11_inTime_24 : decode cX11_inTime 24 = .ok (.invokestatic 299, 3) := by decide +kernel
theorem km11_299 : inW (Cond.methodLink RX11 299 yJ6_bitCount_0f7a4) := ⟨List.mem_of_getElem? (i := 1344) (by decide +kernel), by decide +kernel⟩
theorem dX11_inTime_27 : decode cX11_inTime 27 = .ok (.ireturn, 1) := by decide +kernel
theorem dX11_inTime_9 : decode cX11_inTime 9 = .ok (.iconst (-1), 1) := by decide +kernel
theorem dX11_inTime_10 : decode cX11_inTime 10 = .ok (.ireturn, 1) := by decide +kernel
theorem dX11_whom_0 : decode cX11_whom 0 = .ok (.aload_n 0, 1) := by decide +kernel
theorem dX11_whom_1 : decode cX11_whom 1 = .ok (.getfield 13, 3) := by decide +kernel
theorem dX11_whom_4 : decode cX11_whom 4 = .ok (.iload_n 1, 1) := by decide +kernel
theorem dX11_whom_5 : decode cX11_whom 5 = .ok (.invokevirtual 192, 3) := by decide +kernel
theorem dX11_whom_8 : decode cX11_whom 8 = .ok (.ifCond .ne 5, 3) := by decide +kernel
theorem dX11_whom_13 : decode cX11_whom 13 = .ok (.iconst (-1), 1) := by decide +kernel
theorem dX11_whom_14 : decode cX11_whom 14 = .ok (.istore_n 2, 1) := by decide +kernel
theorem dX11_whom_15 : decode cX11_whom 15 = .ok (.iconst 0, 1) := by decide +kernel
theorem dX11_whom_16 : decode cX11_whom 16 = .ok (.istore_n 3, 1) := by decide +kernel
theorem dX11_whom_17 : decode cX11_whom 17 = .ok (.iconst 0, 1) := by decide +kernel
theorem dX11_whom_18 : decode cX11_whom 18 = .ok (.istore 4, 2) := by decide +kernel
theorem dX11_whom_11 : decode cX11_whom 11 = .ok (.iconst (-1), 1) := by decide +kernel
theorem dX11_whom_12 : decode cX11_whom 12 = .ok (.ireturn, 1) := by decide +kernel
theorem dX11_whom_20 : decode cX11_whom 20 = .ok (.iload 4, 2) := by decide +kernel
theorem dX11_whom_22 : decode cX11_whom 22 = .ok (.aload_n 0, 1) := by decide +kernel
theorem dX11_whom_23 : decode cX11_whom 23 = .ok (.getfield 13, 3) := by decide +kernel
theorem dX11_whom_26 : decode cX11_whom 26 = .ok (.getfield 174, 3) := by decide +kernel
theorem dX11_whom_29 : decode cX11_whom 29 = .ok (.if_icmp .ge 60, 3) := by decide +kernel
theorem dX11_whom_89 : decode cX11_whom 89 = .ok (.iload_n 2, 1) := by decide +kernel
theorem dX11_whom_90 : decode cX11_whom 90 = .ok (.ireturn, 1) := by decide +kernel
theorem dX11_whom_32 : decode cX11_whom 32 = .ok (.iload 4, 2) := by decide +kernel
theorem dX11_whom_34 : decode cX11_whom 34 = .ok (.iload_n 1, 1) := by decide +kernel
theorem dX11_whom_35 : decode cX11_whom 35 = .ok (.if_icmp .ne 7, 3) := by decide +kernel
theorem dX11_whom_42 : decode cX11_whom 42 = .ok (.aload_n 0, 1) := by decide +kernel
theorem dX11_whom_43 : decode cX11_whom 43 = .ok (.getfield 34, 3) := by decide +kernel
theorem dX11_whom_46 : decode cX11_whom 46 = .ok (.aload_n 0, 1) := by decide +kernel
theorem dX11_whom_47 : decode cX11_whom 47 = .ok (.getfield 13, 3) := by decide +kernel
theorem dX11_whom_50 : decode cX11_whom 50 = .ok (.getfield 131, 3) := by decide +kernel
theorem dX11_whom_53 : decode cX11_whom 53 = .ok (.iload 4, 2) := by decide +kernel
theorem dX11_whom_55 : decode cX11_whom 55 = .ok (.invokevirtual 205, 3) := by decide +kernel
theorem dX11_whom_58 : decode cX11_whom 58 = .ok (.istore 5, 2) := by decide +kernel
theorem dX11_whom_60 : decode cX11_whom 60 = .ok (.iload 4, 2) := by decide +kernel
theorem dX11_whom_62 : decode cX11_whom 62 = .ok (.iload_n 1, 1) := by decide +kernel
theorem dX11_whom_63 : decode cX11_whom 63 = .ok (.if_icmp .eq 20, 3) := by decide +kernel
theorem dX11_whom_66 : decode cX11_whom 66 = .ok (.iload_n 2, 1) := by decide +kernel
theorem dX11_whom_67 : decode cX11_whom 67 = .ok (.iconst (-1), 1) := by decide +kernel
theorem dX11_whom_68 : decode cX11_whom 68 = .ok (.if_icmp .eq 9, 3) := by decide +kernel
theorem dX11_whom_77 : decode cX11_whom 77 = .ok (.iload 4, 2) := by decide +kernel
theorem dX11_whom_79 : decode cX11_whom 79 = .ok (.istore_n 2, 1) := by decide +kernel
theorem dX11_whom_80 : decode cX11_whom 80 = .ok (.iload 5, 2) := by decide +kernel
theorem dX11_whom_82 : decode cX11_whom 82 = .ok (.istore_n 3, 1) := by decide +kernel
theorem dX11_whom_83 : decode cX11_whom 83 = .ok (.iinc 4 1, 3) := by decide +kernel
theorem dX11_whom_86 : decode cX11_whom 86 = .ok (.goto (-66), 3) := by decide +kernel
theorem dX11_whom_71 : decode cX11_whom 71 = .ok (.iload 5, 2) := by decide +kernel
theorem dX11_whom_73 : decode cX11_whom 73 = .ok (.iload_n 3, 1) := by decide +kernel
theorem dX11_whom_74 : decode cX11_whom 74 = .ok (.if_icmp .ge 9, 3) := by decide +kernel
theorem dX11_whom_38 : decode cX11_whom 38 = .ok (.iconst 0, 1) := by decide +kernel
theorem dX11_whom_39 : decode cX11_whom 39 = .ok (.goto 19, 3) := by decide +kernel
theorem dX11_ring_0 : decode cX11_ring 0 = .ok (.aload_n 0, 1) := by decide +kernel
theorem dX11_ring_1 : decode cX11_ring 1 = .ok (.getfield 41, 3) := by decide +kernel
theorem kf11_41 : inW (Cond.fieldLink RX11 41 "KneeOaths" "rings" "LKneeOaths$Rings;") := ⟨List.mem_of_getElem? (i := 509) (by decide +kernel), by decide +kernel⟩
theorem dX11_ring_4 : decode cX11_ring 4 = .ok (.invokevirtual 307, 3) := by decide +kernel
theorem cw_X6_shortest : CWv yX6_shortest cX6_shortest 2 (some .int) 0 := ⟨⟨⟨List.mem_of_getElem? (i := 132) (by decide +kernel), by decide +kernel⟩, ⟨List.mem_of_getElem? (i := 1357) (by decide +kernel), by decide +kernel⟩, by decide +kernel⟩, ⟨List.mem_of_getElem? (i := 1355) (by decide +kernel), by decide +kernel⟩, ⟨List.mem_of_getElem? (i := 1356) (by decide +kernel), by decide +kernel⟩⟩
theorem km11_307 : inW (Cond.methodLink RX11 307 yX6_shortest) := ⟨List.mem_of_getElem? (i := 1354) (by decide +kernel), by decide +kernel⟩
theorem dX11_ring_7 : decode cX11_ring 7 = .ok (.ireturn, 1) := by decide +kernel
theorem dX11_allSeen_0 : decode cX11_allSeen 0 = .ok (.aload_n 0, 1) := by decide +kernel
theorem dX11_allSeen_1 : decode cX11_allSeen 1 = .ok (.getfield 75, 3) := by decide +kernel
theorem dX11_allSeen_4 : decode cX11_allSeen 4 = .ok (.invokevirtual 310, 3) := by decide +kernel
theorem cw_X0_fewestAsked : CWv yX0_fewestAsked cX0_fewestAsked 3 (some .int) 0 := ⟨⟨⟨List.mem_of_getElem? (i := 136) (by decide +kernel), by decide +kernel⟩, ⟨List.mem_of_getElem? (i := 1373) (by decide +kernel), by decide +kernel⟩, by decide +kernel⟩, ⟨List.mem_of_getElem? (i := 1371) (by decide +kernel), by decide +kernel⟩, ⟨List.mem_of_getElem? (i := 1372) (by decide +kernel), by decide +kernel⟩⟩
theorem km11_310 : inW (Cond.methodLink RX11 310 yX0_fewestAsked) := ⟨List.mem_of_getElem? (i := 1370) (by decide +kernel), by decide +kernel⟩
theorem dX11_allSeen_7 : decode cX11_allSeen 7 = .ok (.ireturn, 1) := by decide +kernel
theorem dX11_saw_0 : decode cX11_saw 0 = .ok (.iload_n 1, 1) := by decide +kernel
theorem dX11_saw_1 : decode cX11_saw 1 = .ok (.iconst (-1), 1) := by decide +kernel
theorem dX11_saw_2 : decode cX11_saw 2 = .ok (.if_icmp .ne 14, 3) := by decide +kernel
theorem dX11_saw_16 : decode cX11_saw 16 = .ok (.aload_n 0, 1) := by decide +kernel
theorem dX11_saw_17 : decode cX11_saw 17 = .ok (.getfield 13, 3) := by decide +kernel
theorem dX11_saw_20 : decode cX11_saw 20 = .ok (.iload_n 1, 1) := by decide +kernel
theorem dX11_saw_21 : decode cX11_saw 21 = .ok (.invokevirtual 192, 3) := by decide +kernel
theorem dX11_saw_24 : decode cX11_saw 24 = .ok (.ifCond .eq 19, 3) := by decide +kernel
theorem dX11_saw_43 : decode cX11_saw 43 = .ok (.bipush (-2), 2) := by decide +kernel
theorem dX11_saw_45 : decode cX11_saw 45 = .ok (.ireturn, 1) := by decide +kernel
theorem dX11_saw_27 : decode cX11_saw 27 = .ok (.aload_n 0, 1) := by decide +kernel
theorem dX11_saw_28 : decode cX11_saw 28 = .ok (.getfield 13, 3) := by decide +kernel
theorem dX11_saw_31 : decode cX11_saw 31 = .ok (.iload_n 2, 1) := by decide +kernel
theorem dX11_saw_32 : decode cX11_saw 32 = .ok (.invokevirtual 192, 3) := by decide +kernel
theorem dX11_saw_35 : decode cX11_saw 35 = .ok (.ifCond .eq 8, 3) := by decide +kernel
theorem dX11_saw_38 : decode cX11_saw 38 = .ok (.iload_n 1, 1) := by decide +kernel
theorem dX11_saw_39 : decode cX11_saw 39 = .ok (.iload_n 2, 1) := by decide +kernel
theorem dX11_saw_40 : decode cX11_saw 40 = .ok (.if_icmp .ne 6, 3) := by decide +kernel
theorem dX11_saw_46 : decode cX11_saw 46 = .ok (.aload_n 0, 1) := by decide +kernel
theorem dX11_saw_47 : decode cX11_saw 47 = .ok (.getfield 13, 3) := by decide +kernel
theorem dX11_saw_50 : decode cX11_saw 50 = .ok (.getfield 313, 3) := by decide +kernel
theorem kf11_313 : inW (Cond.fieldLinkNest RX11 313 "KneeOaths$World" "sights" "LKneeOaths$Told;" "KneeOaths") := ⟨List.mem_of_getElem? (i := 284) (by decide +kernel), by decide +kernel⟩
theorem dX11_saw_53 : decode cX11_saw 53 = .ok (.iload_n 1, 1) := by decide +kernel
theorem dX11_saw_54 : decode cX11_saw 54 = .ok (.iload_n 2, 1) := by decide +kernel
theorem dX11_saw_55 : decode cX11_saw 55 = .ok (.iconst 0, 1) := by decide +kernel
theorem dX11_saw_56 : decode cX11_saw 56 = .ok (.invokevirtual 258, 3) := by decide +kernel
theorem dX11_saw_59 : decode cX11_saw 59 = .ok (.ireturn, 1) := by decide +kernel
theorem dX11_saw_5 : decode cX11_saw 5 = .ok (.aload_n 0, 1) := by decide +kernel
theorem dX11_saw_6 : decode cX11_saw 6 = .ok (.getfield 13, 3) := by decide +kernel
theorem dX11_saw_9 : decode cX11_saw 9 = .ok (.getfield 313, 3) := by decide +kernel
theorem dX11_saw_12 : decode cX11_saw 12 = .ok (.invokevirtual 253, 3) := by decide +kernel
theorem dX11_saw_15 : decode cX11_saw 15 = .ok (.ireturn, 1) := by decide +kernel
theorem dX11_known_0 : decode cX11_known 0 = .ok (.aload_n 0, 1) := by decide +kernel
theorem dX11_known_1 : decode cX11_known 1 = .ok (.getfield 13, 3) := by decide +kernel
theorem dX11_known_4 : decode cX11_known 4 = .ok (.iload_n 1, 1) := by decide +kernel
theorem dX11_known_5 : decode cX11_known 5 = .ok (.invokevirtual 192, 3) := by decide +kernel
theorem dX11_known_8 : decode cX11_known 8 = .ok (.ifCond .eq 14, 3) := by decide +kernel
theorem dX11_known_22 : decode cX11_known 22 = .ok (.iconst (-1), 1) := by decide +kernel
theorem dX11_known_23 : decode cX11_known 23 = .ok (.ireturn, 1) := by decide +kernel
theorem dX11_known_11 : decode cX11_known 11 = .ok (.aload_n 0, 1) := by decide +kernel
theorem dX11_known_12 : decode cX11_known 12 = .ok (.getfield 75, 3) := by decide +kernel
theorem dX11_known_15 : decode cX11_known 15 = .ok (.iload_n 1, 1) := by decide +kernel
theorem dX11_known_16 : decode cX11_known 16 = .ok (.invokevirtual 316, 3) := by decide +kernel
theorem km11_316 : inW (Cond.methodLink RX11 316 yX0_wordsOf) := ⟨List.mem_of_getElem? (i := 1387) (by decide +kernel), by decide +kernel⟩
theorem dX11_known_19 : decode cX11_known 19 = .ok (.goto 4, 3) := by decide +kernel
theorem dX11_together_0 : decode cX11_together 0 = .ok (.aload_n 0, 1) := by decide +kernel
theorem dX11_together_1 : decode cX11_together 1 = .ok (.getfield 75, 3) := by decide +kernel
theorem dX11_together_4 : decode cX11_together 4 = .ok (.invokevirtual 319, 3) := by decide +kernel
theorem cw_X0_fewestKnowing : CWv yX0_fewestKnowing cX0_fewestKnowing 4 (some .int) 0 := ⟨⟨⟨List.mem_of_getElem? (i := 136) (by decide +kernel), by decide +kernel⟩, ⟨List.mem_of_getElem? (i := 1398) (by decide +kernel), by decide +kernel⟩, by decide +kernel⟩, ⟨List.mem_of_getElem? (i := 1396) (by decide +kernel), by decide +kernel⟩, ⟨List.mem_of_getElem? (i := 1397) (by decide +kernel), by decide +kernel⟩⟩
theorem km11_319 : inW (Cond.methodLink RX11 319 yX0_fewestKnowing) := ⟨List.mem_of_getElem? (i := 1395) (by decide +kernel), by decide +kernel⟩
theorem dX11_together_7 : decode cX11_together 7 = .ok (.ireturn, 1) := by decide +kernel
theorem dX11_copy_0 : decode cX11_copy 0 = .ok (.aload_n 0, 1) := by decide +kernel
theorem dX11_copy_1 : decode cX11_copy 1 = .ok (.getfield 13, 3) := by decide +kernel
theorem dX11_copy_4 : decode cX11_copy 4 = .ok (.getfield 131, 3) := by decide +kernel
theorem dX11_copy_7 : decode cX11_copy 7 = .ok (.iload_n 1, 1) := by decide +kernel
theorem dX11_copy_8 : decode cX11_copy 8 = .ok (.invokevirtual 322, 3) := by decide +kernel
theorem km11_322 : inW (Cond.methodLink RX11 322 yX4_unreleased) := ⟨List.mem_of_getElem? (i := 1408) (by decide +kernel), by decide +kernel⟩
theorem dX11_copy_11 : decode cX11_copy 11 = .ok (.ifCond .eq 24, 3) := by decide +kernel
theorem dX11_copy_35 : decode cX11_copy 35 = .ok (.ldc_w 325, 3) := by decide +kernel
theorem kk11_325 : inW (Cond.constant RX11 325 (-100000)) := ⟨List.mem_of_getElem? (i := 1409) (by decide +kernel), by decide +kernel⟩
theorem dX11_copy_38 : decode cX11_copy 38 = .ok (.ireturn, 1) := by decide +kernel
theorem dX11_copy_14 : decode cX11_copy 14 = .ok (.iload_n 2, 1) := by decide +kernel
theorem dX11_copy_15 : decode cX11_copy 15 = .ok (.iconst 0, 1) := by decide +kernel
theorem dX11_copy_16 : decode cX11_copy 16 = .ok (.bipush 99, 2) := by decide +kernel
theorem dX11_copy_18 : decode cX11_copy 18 = .ok (.invokestatic 146, 3) := by decide +kernel
theorem dX11_copy_21 : decode cX11_copy 21 = .ok (.ifCond .eq 14, 3) := by decide +kernel
theorem dX11_copy_24 : decode cX11_copy 24 = .ok (.iload_n 3, 1) := by decide +kernel
theorem dX11_copy_25 : decode cX11_copy 25 = .ok (.iconst 0, 1) := by decide +kernel
theorem dX11_copy_26 : decode cX11_copy 26 = .ok (.sipush 9999, 3) := by decide +kernel
theorem dX11_copy_29 : decode cX11_copy 29 = .ok (.invokestatic 146, 3) := by decide +kernel
theorem dX11_copy_32 : decode cX11_copy 32 = .ok (.ifCond .ne 7, 3) := by decide +kernel
theorem dX11_copy_39 : decode cX11_copy 39 = .ok (.aload_n 0, 1) := by decide +kernel
theorem dX11_copy_40 : decode cX11_copy 40 = .ok (.getfield 59, 3) := by decide +kernel
theorem dX11_copy_43 : decode cX11_copy 43 = .ok (.iload_n 1, 1) := by decide +kernel
theorem dX11_copy_44 : decode cX11_copy 44 = .ok (.invokevirtual 246, 3) := by decide +kernel
theorem dX11_copy_47 : decode cX11_copy 47 = .ok (.istore 5, 2) := by decide +kernel
theorem dX11_copy_49 : decode cX11_copy 49 = .ok (.iconst 0, 1) := by decide +kernel
theorem dX11_copy_50 : decode cX11_copy 50 = .ok (.istore 6, 2) := by decide +kernel
theorem dX11_copy_52 : decode cX11_copy 52 = .ok (.iconst 0, 1) := by decide +kernel
theorem dX11_copy_53 : decode cX11_copy 53 = .ok (.istore 7, 2) := by decide +kernel
theorem dX11_copy_55 : decode cX11_copy 55 = .ok (.iconst 0, 1) := by decide +kernel
theorem dX11_copy_56 : decode cX11_copy 56 = .ok (.istore 8, 2) := by decide +kernel
theorem dX11_copy_58 : decode cX11_copy 58 = .ok (.iload 8, 2) := by decide +kernel
theorem dX11_copy_60 : decode cX11_copy 60 = .ok (.bipush 60, 2) := by decide +kernel
theorem dX11_copy_62 : decode cX11_copy 62 = .ok (.if_icmp .gt 54, 3) := by decide +kernel
theorem dX11_copy_65 : decode cX11_copy 65 = .ok (.iload 5, 2) := by decide +kernel
theorem dX11_copy_67 : decode cX11_copy 67 = .ok (.iconst (-1), 1) := by decide +kernel
theorem dX11_copy_68 : decode cX11_copy 68 = .ok (.if_icmp .eq 14, 3) := by decide +kernel
theorem dX11_copy_82 : decode cX11_copy 82 = .ok (.iconst 0, 1) := by decide +kernel
theorem dX11_copy_83 : decode cX11_copy 83 = .ok (.iload_n 2, 1) := by decide +kernel
theorem dX11_copy_84 : decode cX11_copy 84 = .ok (.iload 8, 2) := by decide +kernel
theorem dX11_copy_86 : decode cX11_copy 86 = .ok (.imul, 1) := by decide +kernel
theorem dX11_copy_87 : decode cX11_copy 87 = .ok (.isub, 1) := by decide +kernel
theorem dX11_copy_88 : decode cX11_copy 88 = .ok (.istore 9, 2) := by decide +kernel
theorem dX11_copy_90 : decode cX11_copy 90 = .ok (.iload 8, 2) := by decide +kernel
theorem dX11_copy_92 : decode cX11_copy 92 = .ok (.ifCond .eq 10, 3) := by decide +kernel
theorem dX11_copy_102 : decode cX11_copy 102 = .ok (.iload 8, 2) := by decide +kernel
theorem dX11_copy_104 : decode cX11_copy 104 = .ok (.istore 6, 2) := by decide +kernel
theorem dX11_copy_106 : decode cX11_copy 106 = .ok (.iload 9, 2) := by decide +kernel
theorem dX11_copy_108 : decode cX11_copy 108 = .ok (.istore 7, 2) := by decide +kernel
theorem dX11_copy_110 : decode cX11_copy 110 = .ok (.iinc 8 1, 3) := by decide +kernel
theorem dX11_copy_113 : decode cX11_copy 113 = .ok (.goto (-55), 3) := by decide +kernel
theorem dX11_copy_95 : decode cX11_copy 95 = .ok (.iload 9, 2) := by decide +kernel
theorem dX11_copy_97 : decode cX11_copy 97 = .ok (.iload 7, 2) := by decide +kernel
theorem dX11_copy_99 : decode cX11_copy 99 = .ok (.if_icmp .ge 11, 3) := by decide +kernel
theorem dX11_copy_71 : decode cX11_copy 71 = .ok (.iload 5, 2) := by decide +kernel
theorem dX11_copy_73 : decode cX11_copy 73 = .ok (.iload 8, 2) := by decide +kernel
theorem dX11_copy_75 : decode cX11_copy 75 = .ok (.if_icmp .gt 7, 3) := by decide +kernel
theorem dX11_copy_78 : decode cX11_copy 78 = .ok (.iload_n 3, 1) := by decide +kernel
theorem dX11_copy_79 : decode cX11_copy 79 = .ok (.goto 4, 3) := by decide +kernel
theorem dX11_copy_116 : decode cX11_copy 116 = .ok (.iload 4, 2) := by decide +kernel
theorem dX11_copy_118 : decode cX11_copy 118 = .ok (.ifCond .eq 8, 3) := by decide +kernel
theorem dX11_copy_126 : decode cX11_copy 126 = .ok (.iload 6, 2) := by decide +kernel
theorem dX11_copy_128 : decode cX11_copy 128 = .ok (.ireturn, 1) := by decide +kernel
theorem dX11_copy_121 : decode cX11_copy 121 = .ok (.iload 7, 2) := by decide +kernel
theorem dX11_copy_123 : decode cX11_copy 123 = .ok (.goto 5, 3) := by decide +kernel
theorem dX11_worn_0 : decode cX11_worn 0 = .ok (.iload_n 1, 1) := by decide +kernel
theorem dX11_worn_1 : decode cX11_worn 1 = .ok (.iconst (-1), 1) := by decide +kernel
theorem dX11_worn_2 : decode cX11_worn 2 = .ok (.if_icmp .ne 14, 3) := by decide +kernel
theorem dX11_worn_16 : decode cX11_worn 16 = .ok (.aload_n 0, 1) := by decide +kernel
theorem dX11_worn_17 : decode cX11_worn 17 = .ok (.getfield 13, 3) := by decide +kernel
theorem dX11_worn_20 : decode cX11_worn 20 = .ok (.getfield 131, 3) := by decide +kernel
theorem dX11_worn_23 : decode cX11_worn 23 = .ok (.iload_n 1, 1) := by decide +kernel
theorem dX11_worn_24 : decode cX11_worn 24 = .ok (.invokevirtual 211, 3) := by decide +kernel
theorem dX11_worn_27 : decode cX11_worn 27 = .ok (.ifCond .eq 13, 3) := by decide +kernel
theorem dX11_worn_40 : decode cX11_worn 40 = .ok (.bipush (-2), 2) := by decide +kernel
theorem dX11_worn_42 : decode cX11_worn 42 = .ok (.ireturn, 1) := by decide +kernel
theorem dX11_worn_30 : decode cX11_worn 30 = .ok (.iload_n 2, 1) := by decide +kernel
theorem dX11_worn_31 : decode cX11_worn 31 = .ok (.iconst 0, 1) := by decide +kernel
theorem dX11_worn_32 : decode cX11_worn 32 = .ok (.bipush 99, 2) := by decide +kernel
theorem dX11_worn_34 : decode cX11_worn 34 = .ok (.invokestatic 146, 3) := by decide +kernel
theorem dX11_worn_37 : decode cX11_worn 37 = .ok (.ifCond .ne 6, 3) := by decide +kernel
theorem dX11_worn_43 : decode cX11_worn 43 = .ok (.aload_n 0, 1) := by decide +kernel
theorem dX11_worn_44 : decode cX11_worn 44 = .ok (.getfield 13, 3) := by decide +kernel
theorem dX11_worn_47 : decode cX11_worn 47 = .ok (.getfield 326, 3) := by decide +kernel
theorem kf11_326 : inW (Cond.fieldLinkNest RX11 326 "KneeOaths$World" "wearings" "LKneeOaths$Told;" "KneeOaths") := ⟨List.mem_of_getElem? (i := 287) (by decide +kernel), by decide +kernel⟩
theorem dX11_worn_50 : decode cX11_worn 50 = .ok (.iload_n 1, 1) := by decide +kernel
theorem dX11_worn_51 : decode cX11_worn 51 = .ok (.iload_n 2, 1) := by decide +kernel
theorem dX11_worn_52 : decode cX11_worn 52 = .ok (.iconst 0, 1) := by decide +kernel
theorem dX11_worn_53 : decode cX11_worn 53 = .ok (.invokevirtual 258, 3) := by decide +kernel
theorem dX11_worn_56 : decode cX11_worn 56 = .ok (.ireturn, 1) := by decide +kernel
theorem dX11_worn_5 : decode cX11_worn 5 = .ok (.aload_n 0, 1) := by decide +kernel
theorem dX11_worn_6 : decode cX11_worn 6 = .ok (.getfield 13, 3) := by decide +kernel
theorem dX11_worn_9 : decode cX11_worn 9 = .ok (.getfield 326, 3) := by decide +kernel
theorem dX11_worn_12 : decode cX11_worn 12 = .ok (.invokevirtual 253, 3) := by decide +kernel
theorem dX11_worn_15 : decode cX11_worn 15 = .ok (.ireturn, 1) := by decide +kernel
theorem dX11_whose_0 : decode cX11_whose 0 = .ok (.iconst 0, 1) := by decide +kernel
theorem dX11_whose_1 : decode cX11_whose 1 = .ok (.istore_n 1, 1) := by decide +kernel
theorem dX11_whose_2 : decode cX11_whose 2 = .ok (.iconst 0, 1) := by decide +kernel
theorem dX11_whose_3 : decode cX11_whose 3 = .ok (.istore_n 2, 1) := by decide +kernel
theorem dX11_whose_4 : decode cX11_whose 4 = .ok (.iload_n 2, 1) := by decide +kernel
theorem dX11_whose_5 : decode cX11_whose 5 = .ok (.aload_n 0, 1) := by decide +kernel
theorem dX11_whose_6 : decode cX11_whose 6 = .ok (.getfield 13, 3) := by decide +kernel
theorem dX11_whose_9 : decode cX11_whose 9 = .ok (.getfield 329, 3) := by decide +kernel
theorem kf11_329 : inW (Cond.fieldLinkNest RX11 329 "KneeOaths$World" "textCount" "I" "KneeOaths") := ⟨List.mem_of_getElem? (i := 294) (by decide +kernel), by decide +kernel⟩
theorem dX11_whose_12 : decode cX11_whose 12 = .ok (.if_icmp .ge 26, 3) := by decide +kernel
theorem dX11_whose_38 : decode cX11_whose 38 = .ok (.iload_n 1, 1) := by decide +kernel
theorem dX11_whose_39 : decode cX11_whose 39 = .ok (.ireturn, 1) := by decide +kernel
theorem dX11_whose_15 : decode cX11_whose 15 = .ok (.aload_n 0, 1) := by decide +kernel
theorem dX11_whose_16 : decode cX11_whose 16 = .ok (.getfield 34, 3) := by decide +kernel
theorem dX11_whose_19 : decode cX11_whose 19 = .ok (.iload_n 2, 1) := by decide +kernel
theorem dX11_whose_20 : decode cX11_whose 20 = .ok (.invokevirtual 332, 3) := by decide +kernel
theorem cw_X3_explains : CWv yX3_explains cX3_explains 4 (some .boolean) 1 := ⟨⟨⟨List.mem_of_getElem? (i := 131) (by decide +kernel), by decide +kernel⟩, ⟨List.mem_of_getElem? (i := 1421) (by decide +kernel), by decide +kernel⟩, by decide +kernel⟩, ⟨List.mem_of_getElem? (i := 1419) (by decide +kernel), by decide +kernel⟩, ⟨List.mem_of_getElem? (i := 1420) (by decide +kernel), by decide +kernel⟩⟩
theorem km11_332 : inW (Cond.methodLink RX11 332 yX3_explains) := ⟨List.mem_of_getElem? (i := 1418) (by decide +kernel), by decide +kernel⟩
theorem dX11_whose_23 : decode cX11_whose 23 = .ok (.ifCond .eq 9, 3) := by decide +kernel
theorem dX11_whose_32 : decode cX11_whose 32 = .ok (.iinc 2 1, 3) := by decide +kernel
theorem dX11_whose_35 : decode cX11_whose 35 = .ok (.goto (-31), 3) := by decide +kernel
theorem dX11_whose_26 : decode cX11_whose 26 = .ok (.iload_n 1, 1) := by decide +kernel
theorem dX11_whose_27 : decode cX11_whose 27 = .ok (.iconst 1, 1) := by decide +kernel
theorem dX11_whose_28 : decode cX11_whose 28 = .ok (.iload_n 2, 1) := by decide +kernel
theorem dX11_whose_29 : decode cX11_whose 29 = .ok (.ishl, 1) := by decide +kernel
theorem dX11_whose_30 : decode cX11_whose 30 = .ok (.ior, 1) := by decide +kernel
theorem dX11_whose_31 : decode cX11_whose 31 = .ok (.istore_n 1, 1) := by decide +kernel
theorem dX11_mostSworn_0 : decode cX11_mostSworn 0 = .ok (.aload_n 0, 1) := by decide +kernel
theorem dX11_mostSworn_1 : decode cX11_mostSworn 1 = .ok (.getfield 75, 3) := by decide +kernel
theorem dX11_mostSworn_4 : decode cX11_mostSworn 4 = .ok (.invokevirtual 335, 3) := by decide +kernel
theorem cw_X0_mostOften : CWv yX0_mostOften cX0_mostOften 5 (some .int) 0 := ⟨⟨⟨List.mem_of_getElem? (i := 136) (by decide +kernel), by decide +kernel⟩, ⟨List.mem_of_getElem? (i := 1432) (by decide +kernel), by decide +kernel⟩, by decide +kernel⟩, ⟨List.mem_of_getElem? (i := 1430) (by decide +kernel), by decide +kernel⟩, ⟨List.mem_of_getElem? (i := 1431) (by decide +kernel), by decide +kernel⟩⟩
theorem km11_335 : inW (Cond.methodLink RX11 335 yX0_mostOften) := ⟨List.mem_of_getElem? (i := 1429) (by decide +kernel), by decide +kernel⟩
theorem dX11_mostSworn_7 : decode cX11_mostSworn 7 = .ok (.ireturn, 1) := by decide +kernel
theorem dX11_faithful_0 : decode cX11_faithful 0 = .ok (.aload_n 0, 1) := by decide +kernel
theorem dX11_faithful_1 : decode cX11_faithful 1 = .ok (.getfield 75, 3) := by decide +kernel
theorem dX11_faithful_4 : decode cX11_faithful 4 = .ok (.invokevirtual 338, 3) := by decide +kernel
theorem cw_X0_unbroken : CWv yX0_unbroken cX0_unbroken 3 (some .int) 0 := ⟨⟨⟨List.mem_of_getElem? (i := 136) (by decide +kernel), by decide +kernel⟩, ⟨List.mem_of_getElem? (i := 1444) (by decide +kernel), by decide +kernel⟩, by decide +kernel⟩, ⟨List.mem_of_getElem? (i := 1442) (by decide +kernel), by decide +kernel⟩, ⟨List.mem_of_getElem? (i := 1443) (by decide +kernel), by decide +kernel⟩⟩
theorem km11_338 : inW (Cond.methodLink RX11 338 yX0_unbroken) := ⟨List.mem_of_getElem? (i := 1441) (by decide +kernel), by decide +kernel⟩
theorem dX11_faithful_7 : decode cX11_faithful 7 = .ok (.ireturn, 1) := by decide +kernel
theorem dX11_ached_0 : decode cX11_ached 0 = .ok (.iload_n 1, 1) := by decide +kernel
theorem dX11_ached_1 : decode cX11_ached 1 = .ok (.iconst (-1), 1) := by decide +kernel
theorem dX11_ached_2 : decode cX11_ached 2 = .ok (.if_icmp .eq 17, 3) := by decide +kernel
theorem dX11_ached_19 : decode cX11_ached 19 = .ok (.aload_n 0, 1) := by decide +kernel
theorem dX11_ached_20 : decode cX11_ached 20 = .ok (.getfield 13, 3) := by decide +kernel
theorem dX11_ached_23 : decode cX11_ached 23 = .ok (.getfield 131, 3) := by decide +kernel
theorem dX11_ached_26 : decode cX11_ached 26 = .ok (.iload_n 1, 1) := by decide +kernel
theorem dX11_ached_27 : decode cX11_ached 27 = .ok (.invokevirtual 341, 3) := by decide +kernel
theorem cw_X4_writtenOf : CWv yX4_writtenOf cX4_writtenOf 4 (some .int) 1 := ⟨⟨⟨List.mem_of_getElem? (i := 125) (by decide +kernel), by decide +kernel⟩, ⟨List.mem_of_getElem? (i := 1452) (by decide +kernel), by decide +kernel⟩, by decide +kernel⟩, ⟨List.mem_of_getElem? (i := 1450) (by decide +kernel), by decide +kernel⟩, ⟨List.mem_of_getElem? (i := 1451) (by decide +kernel), by decide +kernel⟩⟩
theorem km11_341 : inW (Cond.methodLink RX11 341 yX4_writtenOf) := ⟨List.mem_of_getElem? (i := 1449) (by decide +kernel), by decide +kernel⟩
theorem dX11_ached_30 : decode cX11_ached 30 = .ok (.ireturn, 1) := by decide +kernel
theorem dX11_ached_5 : decode cX11_ached 5 = .ok (.aload_n 0, 1) := by decide +kernel
theorem dX11_ached_6 : decode cX11_ached 6 = .ok (.getfield 13, 3) := by decide +kernel
theorem dX11_ached_9 : decode cX11_ached 9 = .ok (.iload_n 1, 1) := by decide +kernel
theorem dX11_ached_10 : decode cX11_ached 10 = .ok (.invokevirtual 192, 3) := by decide +kernel
theorem dX11_ached_13 : decode cX11_ached 13 = .ok (.ifCond .ne 6, 3) := by decide +kernel
theorem dX11_ached_16 : decode cX11_ached 16 = .ok (.bipush (-2), 2) := by decide +kernel
theorem dX11_ached_18 : decode cX11_ached 18 = .ok (.ireturn, 1) := by decide +kernel
theorem dX11_worstDay_0 : decode cX11_worstDay 0 = .ok (.aload_n 0, 1) := by decide +kernel
theorem dX11_worstDay_1 : decode cX11_worstDay 1 = .ok (.getfield 13, 3) := by decide +kernel
theorem dX11_worstDay_4 : decode cX11_worstDay 4 = .ok (.getfield 131, 3) := by decide +kernel
theorem dX11_worstDay_7 : decode cX11_worstDay 7 = .ok (.invokevirtual 344, 3) := by decide +kernel
theorem cw_X4_dayOfMost : CWv yX4_dayOfMost cX4_dayOfMost 4 (some .int) 0 := ⟨⟨⟨List.mem_of_getElem? (i := 125) (by decide +kernel), by decide +kernel⟩, ⟨List.mem_of_getElem? (i := 1461) (by decide +kernel), by decide +kernel⟩, by decide +kernel⟩, ⟨List.mem_of_getElem? (i := 1459) (by decide +kernel), by decide +kernel⟩, ⟨List.mem_of_getElem? (i := 1460) (by decide +kernel), by decide +kernel⟩⟩
theorem km11_344 : inW (Cond.methodLink RX11 344 yX4_dayOfMost) := ⟨List.mem_of_getElem? (i := 1458) (by decide +kernel), by decide +kernel⟩
theorem dX11_worstDay_10 : decode cX11_worstDay 10 = .ok (.ireturn, 1) := by decide +kernel
theorem dX11_about_0 : decode cX11_about 0 = .ok (.iload_n 1, 1) := by decide +kernel
theorem dX11_about_1 : decode cX11_about 1 = .ok (.tableswitch 150 0 9 #[55, 63, 71, 79, 87, 98, 109, 120, 131, 142], 55) := by decide +kernel
theorem sw_0_9 (x : Int32) : x = 0 ∨ x = 1 ∨ x = 2 ∨ x = 3 ∨ x = 4 ∨ x = 5 ∨ x = 6 ∨ x = 7 ∨ x = 8 ∨ x = 9 ∨ (x.toInt < 0 ∨ 9 < x.toInt) := by
  have key : ∀ k : Int32, x.toInt = k.toInt → x = k := fun k h => Int32.toInt_inj.mp h
  by_cases h1 : x.toInt < 0
  · simp [h1]
  by_cases h2 : 9 < x.toInt
  · simp [h2]
  have h3 : x.toInt = 0 ∨ x.toInt = 1 ∨ x.toInt = 2 ∨ x.toInt = 3 ∨ x.toInt = 4 ∨ x.toInt = 5 ∨ x.toInt = 6 ∨ x.toInt = 7 ∨ x.toInt = 8 ∨ x.toInt = 9 := by omega
  rcases h3 with h | h | h | h | h | h | h | h | h | h
  · rw [key 0 (h.trans (by decide))]; decide
  · rw [key 1 (h.trans (by decide))]; decide
  · rw [key 2 (h.trans (by decide))]; decide
  · rw [key 3 (h.trans (by decide))]; decide
  · rw [key 4 (h.trans (by decide))]; decide
  · rw [key 5 (h.trans (by decide))]; decide
  · rw [key 6 (h.trans (by decide))]; decide
  · rw [key 7 (h.trans (by decide))]; decide
  · rw [key 8 (h.trans (by decide))]; decide
  · rw [key 9 (h.trans (by decide))]; decide
theorem dX11_about_56 : decode cX11_about 56 = .ok (.aload_n 0, 1) := by decide +kernel
theorem dX11_about_57 : decode cX11_about 57 = .ok (.getfield 13, 3) := by decide +kernel
theorem dX11_about_60 : decode cX11_about 60 = .ok (.getfield 174, 3) := by decide +kernel
theorem dX11_about_63 : decode cX11_about 63 = .ok (.ireturn, 1) := by decide +kernel
theorem dX11_about_64 : decode cX11_about 64 = .ok (.aload_n 0, 1) := by decide +kernel
theorem dX11_about_65 : decode cX11_about 65 = .ok (.getfield 13, 3) := by decide +kernel
theorem dX11_about_68 : decode cX11_about 68 = .ok (.getfield 329, 3) := by decide +kernel
theorem dX11_about_71 : decode cX11_about 71 = .ok (.ireturn, 1) := by decide +kernel
theorem dX11_about_72 : decode cX11_about 72 = .ok (.aload_n 0, 1) := by decide +kernel
theorem dX11_about_73 : decode cX11_about 73 = .ok (.getfield 13, 3) := by decide +kernel
theorem dX11_about_76 : decode cX11_about 76 = .ok (.getfield 212, 3) := by decide +kernel
theorem dX11_about_79 : decode cX11_about 79 = .ok (.ireturn, 1) := by decide +kernel
theorem dX11_about_80 : decode cX11_about 80 = .ok (.aload_n 0, 1) := by decide +kernel
theorem dX11_about_81 : decode cX11_about 81 = .ok (.getfield 13, 3) := by decide +kernel
theorem dX11_about_84 : decode cX11_about 84 = .ok (.getfield 189, 3) := by decide +kernel
theorem dX11_about_87 : decode cX11_about 87 = .ok (.ireturn, 1) := by decide +kernel
theorem dX11_about_88 : decode cX11_about 88 = .ok (.aload_n 0, 1) := by decide +kernel
theorem dX11_about_89 : decode cX11_about 89 = .ok (.getfield 13, 3) := by decide +kernel
theorem dX11_about_92 : decode cX11_about 92 = .ok (.getfield 249, 3) := by decide +kernel
theorem dX11_about_95 : decode cX11_about 95 = .ok (.getfield 350, 3) := by decide +kernel
theorem kf11_350 : inW (Cond.fieldLinkNest RX11 350 "KneeOaths$Told" "count" "I" "KneeOaths") := ⟨List.mem_of_getElem? (i := 224) (by decide +kernel), by decide +kernel⟩
theorem dX11_about_98 : decode cX11_about 98 = .ok (.ireturn, 1) := by decide +kernel
theorem dX11_about_99 : decode cX11_about 99 = .ok (.aload_n 0, 1) := by decide +kernel
theorem dX11_about_100 : decode cX11_about 100 = .ok (.getfield 13, 3) := by decide +kernel
theorem dX11_about_103 : decode cX11_about 103 = .ok (.getfield 284, 3) := by decide +kernel
theorem dX11_about_106 : decode cX11_about 106 = .ok (.getfield 350, 3) := by decide +kernel
theorem dX11_about_109 : decode cX11_about 109 = .ok (.ireturn, 1) := by decide +kernel
theorem dX11_about_110 : decode cX11_about 110 = .ok (.aload_n 0, 1) := by decide +kernel
theorem dX11_about_111 : decode cX11_about 111 = .ok (.getfield 13, 3) := by decide +kernel
theorem dX11_about_114 : decode cX11_about 114 = .ok (.getfield 293, 3) := by decide +kernel
theorem kf11_293 : inW (Cond.fieldLinkNest RX11 293 "KneeOaths$World" "words" "LKneeOaths$Told;" "KneeOaths") := ⟨List.mem_of_getElem? (i := 281) (by decide +kernel), by decide +kernel⟩
theorem dX11_about_117 : decode cX11_about 117 = .ok (.getfield 350, 3) := by decide +kernel
theorem dX11_about_120 : decode cX11_about 120 = .ok (.ireturn, 1) := by decide +kernel
theorem dX11_about_121 : decode cX11_about 121 = .ok (.aload_n 0, 1) := by decide +kernel
theorem dX11_about_122 : decode cX11_about 122 = .ok (.getfield 13, 3) := by decide +kernel
theorem dX11_about_125 : decode cX11_about 125 = .ok (.getfield 313, 3) := by decide +kernel
theorem dX11_about_128 : decode cX11_about 128 = .ok (.getfield 350, 3) := by decide +kernel
theorem dX11_about_131 : decode cX11_about 131 = .ok (.ireturn, 1) := by decide +kernel
theorem dX11_about_132 : decode cX11_about 132 = .ok (.aload_n 0, 1) := by decide +kernel
theorem dX11_about_133 : decode cX11_about 133 = .ok (.getfield 13, 3) := by decide +kernel
theorem dX11_about_136 : decode cX11_about 136 = .ok (.getfield 326, 3) := by decide +kernel
theorem dX11_about_139 : decode cX11_about 139 = .ok (.getfield 350, 3) := by decide +kernel
theorem dX11_about_142 : decode cX11_about 142 = .ok (.ireturn, 1) := by decide +kernel
theorem dX11_about_143 : decode cX11_about 143 = .ok (.aload_n 0, 1) := by decide +kernel
theorem dX11_about_144 : decode cX11_about 144 = .ok (.getfield 25, 3) := by decide +kernel
theorem dX11_about_147 : decode cX11_about 147 = .ok (.invokevirtual 91, 3) := by decide +kernel
theorem dX11_about_150 : decode cX11_about 150 = .ok (.ireturn, 1) := by decide +kernel
theorem dX11_about_151 : decode cX11_about 151 = .ok (.bipush (-2), 2) := by decide +kernel
theorem dX11_about_153 : decode cX11_about 153 = .ok (.ireturn, 1) := by decide +kernel
def ZZp (w : Nat → Int × Int) (q : Nat → (Nat → Int32) → Prop) : Prop := ∀ j, j < 10 → j ≠ 2 → j ≠ 7 → ((w j).1 ≤ 0 ∧ 8 ≤ (w j).2) ∧ ∀ g, q j g
set_option maxHeartbeats 4000000 in
set_option maxRecDepth 100000 in
theorem x_X11_one {l : Launch} {G : GG}  {L : List Nat} {f : HF} {ad : Nat → Nat → Nat} {tc w : Nat → Int × Int} {q : Nat → (Nat → Int32) → Prop} {i1 i2 : Int32} (I : SH (spC (NR 30 0 4) ((0, 6) : Int × Int) tc w q) nnC G ad L f) (hW : WBp w 8) (hT : WBp tc 4) (hQ : QIp q) (hZ : ZZp w q) (hE : ∀ j, (tc j).1 = (tc j).2) : PMi l yX11_one cX11_one 3 .int 2 0 0 G [.ref (ad 0 0), .int i1, .int i2] L f (fun r L1 f1 => SH (spC (NR 30 0 4) ((0, 6) : Int × Int) tc w q) nnC G ad L1 f1) := by
  refine PMi.of (post := fun r L1 f1 => SH (spC (NR 30 0 4) ((0, 6) : Int × Int) tc w q) nnC G ad L1 f1) (own := RX11) (by decide) rfl (Nat.le_of_ble_eq_true rfl) (fun sz p e s m args below meth c A ls hA1 hname S Y hl => ?_)
  have hx := S.hx
  have hb := S.hb
  have hl : lv_has ls 3 [(0, .ref (ad 0 0)), (1, .int i1), (2, .int i2)] := hl
  refine lv_aload_n hx hb dX11_one_0 rfl (lv_at hl 0 rfl) ?_
  have p_ad_0_0 := opnC_0 (j := 0) I (by decide)
  have p_ad_0_0 : pt L f (ad 0 0) (.inr (11, [.ref (ad 1 0), .ref (ad 1 1), .ref (ad 2 0), .ref (ad 3 0), .ref (ad 4 0), .ref (ad 5 0), .ref (ad 6 0), .ref (ad 7 0), .ref (ad 8 0)])) := p_ad_0_0
  refine pg_get S Y ok_X11 0 (by decide) kf11_13 (v := .ref (ad 1 0)) p_ad_0_0 rfl dX11_one_1 ?_
  refine lv_iload_n hx hb dX11_one_4 rfl (lv_at hl 1 rfl) ?_
  refine lv_iload_n hx hb dX11_one_5 rfl (lv_at hl 2 rfl) ?_
  refine cVi (As := [.int i1, .int i2]) (rest := []) S Y (x_X10_welcome (l := l) I hW hT hQ) cw_X10_welcome km11_79 (I.opo (k := 1) (j := 0) (by decide) rfl).choose_spec.1 ok_X10.1 rfl rfl ⟨Nat.le_of_ble_eq_true rfl, Nat.le_of_ble_eq_true rfl⟩ hl.1 rfl (Nat.le_of_ble_eq_true rfl) ⟨Nat.le_of_ble_eq_true rfl, Nat.le_of_ble_eq_true rfl⟩ dX11_one_6 (fun r_65995 L_65993 f_65994 H locs I Y => ?_)
  exact prI (post := fun r L1 f1 => SH (spC (NR 30 0 4) ((0, 6) : Int × Int) tc w q) nnC G ad L1 f1) S Y rfl (by decide) (by decide) hA1 I dX11_one_9
set_option maxHeartbeats 4000000 in
set_option maxRecDepth 100000 in
theorem x_X11_feed {l : Launch} {G : GG}  {L : List Nat} {f : HF} {ad : Nat → Nat → Nat} {tc w : Nat → Int × Int} {q : Nat → (Nat → Int32) → Prop} {i1 i2 i3 i4 i5 : Int32} (I : SH (spC (NR 30 0 4) ((0, 6) : Int × Int) tc w q) nnC G ad L f) (hW : WBp w 8) (hT : WBp tc 4) (hQ : QIp q) (hZ : ZZp w q) (hE : ∀ j, (tc j).1 = (tc j).2) : PMi l yX11_feed cX11_feed 6 .int 1 0 0 G [.ref (ad 0 0), .int i1, .int i2, .int i3, .int i4, .int i5] L f (fun r L1 f1 => SH (spC (NR 30 0 4) ((0, 6) : Int × Int) tc w q) nnC G ad L1 f1) := by
  refine PMi.of (post := fun r L1 f1 => SH (spC (NR 30 0 4) ((0, 6) : Int × Int) tc w q) nnC G ad L1 f1) (own := RX11) (by decide) rfl (Nat.le_of_ble_eq_true rfl) (fun sz p e s m args below meth c A ls hA1 hname S Y hl => ?_)
  have hx := S.hx
  have hb := S.hb
  have hl : lv_has ls 6 [(0, .ref (ad 0 0)), (1, .int i1), (2, .int i2), (3, .int i3), (4, .int i4), (5, .int i5)] := hl
  refine lv_aload_n hx hb dX11_feed_0 rfl (lv_at hl 0 rfl) ?_
  have p_ad_0_0 := opnC_0 (j := 0) I (by decide)
  have p_ad_0_0 : pt L f (ad 0 0) (.inr (11, [.ref (ad 1 0), .ref (ad 1 1), .ref (ad 2 0), .ref (ad 3 0), .ref (ad 4 0), .ref (ad 5 0), .ref (ad 6 0), .ref (ad 7 0), .ref (ad 8 0)])) := p_ad_0_0
  refine pg_get S Y ok_X11 2 (by decide) kf11_25 (v := .ref (ad 2 0)) p_ad_0_0 rfl dX11_feed_1 ?_
  refine lv_bipush (v := 20) hx hb dX11_feed_4 (by decide) ?_
  refine cVp (As := [.int 20]) (rest := []) S Y (x_X5_hasRoomFor (l := l) I hW hT hQ) cw_X5_hasRoomFor km11_83 (I.opo (k := 2) (j := 0) (by decide) rfl).choose_spec.1 ok_X5.1 rfl rfl ⟨Nat.le_of_ble_eq_true rfl, Nat.le_of_ble_eq_true rfl⟩ hl.1 rfl (Nat.le_of_ble_eq_true rfl) ⟨Nat.le_of_ble_eq_true rfl, Nat.le_of_ble_eq_true rfl⟩ dX11_feed_6 (fun r_66026 H locs er_66026 Y => ?_)
  refine lv_if_ne (tgt := 14) hx hb dX11_feed_9 (by decide) (fun c_66027 => ?_) (fun c_66027 => ?_)
  · have B_66028 : bn 1 1 r_66026 := bn_w (bn_nel c_66027 er_66026 (show bn 0 0 (0 : Int32) from bn_k (by decide))) (by decide)
    refine lv_aload_n hx hb dX11_feed_14 rfl (lv_at hl 0 rfl) ?_
    refine pg_get S Y ok_X11 2 (by decide) kf11_25 (v := .ref (ad 2 0)) p_ad_0_0 rfl dX11_feed_15 ?_
    refine lv_iload_n hx hb dX11_feed_18 rfl (lv_at hl 1 rfl) ?_
    refine cVv (As := [.int i1]) (rest := []) S Y (x_X5_append (l := l) I hW hT hQ) cw_X5_append km11_87 (I.opo (k := 2) (j := 0) (by decide) rfl).choose_spec.1 ok_X5.1 rfl rfl ⟨Nat.le_of_ble_eq_true rfl, Nat.le_of_ble_eq_true rfl⟩ hl.1 rfl (Nat.le_of_ble_eq_true rfl) ⟨Nat.le_of_ble_eq_true rfl, Nat.le_of_ble_eq_true rfl⟩ dX11_feed_19 (fun L_66030 f_66031 H locs I Y => ?_)
    refine lv_aload_n hx hb dX11_feed_22 rfl (lv_at hl 0 rfl) ?_
    have p_ad_0_0 := opnC_0 (j := 0) I (by decide)
    have p_ad_0_0 : pt L_66030 f_66031 (ad 0 0) (.inr (11, [.ref (ad 1 0), .ref (ad 1 1), .ref (ad 2 0), .ref (ad 3 0), .ref (ad 4 0), .ref (ad 5 0), .ref (ad 6 0), .ref (ad 7 0), .ref (ad 8 0)])) := p_ad_0_0
    refine pg_get S Y ok_X11 2 (by decide) kf11_25 (v := .ref (ad 2 0)) p_ad_0_0 rfl dX11_feed_23 ?_
    refine lv_iload_n hx hb dX11_feed_26 rfl (lv_at hl 2 rfl) ?_
    refine cVv (As := [.int i2]) (rest := []) S Y (x_X5_append (l := l) I hW hT hQ) cw_X5_append km11_87 (I.opo (k := 2) (j := 0) (by decide) rfl).choose_spec.1 ok_X5.1 rfl rfl ⟨Nat.le_of_ble_eq_true rfl, Nat.le_of_ble_eq_true rfl⟩ hl.1 rfl (Nat.le_of_ble_eq_true rfl) ⟨Nat.le_of_ble_eq_true rfl, Nat.le_of_ble_eq_true rfl⟩ dX11_feed_27 (fun L_66032 f_66033 H locs I Y => ?_)
    refine lv_aload_n hx hb dX11_feed_30 rfl (lv_at hl 0 rfl) ?_
    have p_ad_0_0 := opnC_0 (j := 0) I (by decide)
    have p_ad_0_0 : pt L_66032 f_66033 (ad 0 0) (.inr (11, [.ref (ad 1 0), .ref (ad 1 1), .ref (ad 2 0), .ref (ad 3 0), .ref (ad 4 0), .ref (ad 5 0), .ref (ad 6 0), .ref (ad 7 0), .ref (ad 8 0)])) := p_ad_0_0
    refine pg_get S Y ok_X11 2 (by decide) kf11_25 (v := .ref (ad 2 0)) p_ad_0_0 rfl dX11_feed_31 ?_
    refine lv_iload_n hx hb dX11_feed_34 rfl (lv_at hl 3 rfl) ?_
    refine cVv (As := [.int i3]) (rest := []) S Y (x_X5_append (l := l) I hW hT hQ) cw_X5_append km11_87 (I.opo (k := 2) (j := 0) (by decide) rfl).choose_spec.1 ok_X5.1 rfl rfl ⟨Nat.le_of_ble_eq_true rfl, Nat.le_of_ble_eq_true rfl⟩ hl.1 rfl (Nat.le_of_ble_eq_true rfl) ⟨Nat.le_of_ble_eq_true rfl, Nat.le_of_ble_eq_true rfl⟩ dX11_feed_35 (fun L_66034 f_66035 H locs I Y => ?_)
    refine lv_aload_n hx hb dX11_feed_38 rfl (lv_at hl 0 rfl) ?_
    have p_ad_0_0 := opnC_0 (j := 0) I (by decide)
    have p_ad_0_0 : pt L_66034 f_66035 (ad 0 0) (.inr (11, [.ref (ad 1 0), .ref (ad 1 1), .ref (ad 2 0), .ref (ad 3 0), .ref (ad 4 0), .ref (ad 5 0), .ref (ad 6 0), .ref (ad 7 0), .ref (ad 8 0)])) := p_ad_0_0
    refine pg_get S Y ok_X11 2 (by decide) kf11_25 (v := .ref (ad 2 0)) p_ad_0_0 rfl dX11_feed_39 ?_
    refine lv_iload hx hb dX11_feed_42 (lv_at hl 4 rfl) ?_
    refine cVv (As := [.int i4]) (rest := []) S Y (x_X5_append (l := l) I hW hT hQ) cw_X5_append km11_87 (I.opo (k := 2) (j := 0) (by decide) rfl).choose_spec.1 ok_X5.1 rfl rfl ⟨Nat.le_of_ble_eq_true rfl, Nat.le_of_ble_eq_true rfl⟩ hl.1 rfl (Nat.le_of_ble_eq_true rfl) ⟨Nat.le_of_ble_eq_true rfl, Nat.le_of_ble_eq_true rfl⟩ dX11_feed_44 (fun L_66036 f_66037 H locs I Y => ?_)
    refine lv_aload_n hx hb dX11_feed_47 rfl (lv_at hl 0 rfl) ?_
    have p_ad_0_0 := opnC_0 (j := 0) I (by decide)
    have p_ad_0_0 : pt L_66036 f_66037 (ad 0 0) (.inr (11, [.ref (ad 1 0), .ref (ad 1 1), .ref (ad 2 0), .ref (ad 3 0), .ref (ad 4 0), .ref (ad 5 0), .ref (ad 6 0), .ref (ad 7 0), .ref (ad 8 0)])) := p_ad_0_0
    refine pg_get S Y ok_X11 2 (by decide) kf11_25 (v := .ref (ad 2 0)) p_ad_0_0 rfl dX11_feed_48 ?_
    refine lv_iload hx hb dX11_feed_51 (lv_at hl 5 rfl) ?_
    refine cVv (As := [.int i5]) (rest := []) S Y (x_X5_append (l := l) I hW hT hQ) cw_X5_append km11_87 (I.opo (k := 2) (j := 0) (by decide) rfl).choose_spec.1 ok_X5.1 rfl rfl ⟨Nat.le_of_ble_eq_true rfl, Nat.le_of_ble_eq_true rfl⟩ hl.1 rfl (Nat.le_of_ble_eq_true rfl) ⟨Nat.le_of_ble_eq_true rfl, Nat.le_of_ble_eq_true rfl⟩ dX11_feed_53 (fun L_66038 f_66039 H locs I Y => ?_)
    refine lv_aload_n hx hb dX11_feed_56 rfl (lv_at hl 0 rfl) ?_
    have p_ad_0_0 := opnC_0 (j := 0) I (by decide)
    have p_ad_0_0 : pt L_66038 f_66039 (ad 0 0) (.inr (11, [.ref (ad 1 0), .ref (ad 1 1), .ref (ad 2 0), .ref (ad 3 0), .ref (ad 4 0), .ref (ad 5 0), .ref (ad 6 0), .ref (ad 7 0), .ref (ad 8 0)])) := p_ad_0_0
    refine pg_get S Y ok_X11 2 (by decide) kf11_25 (v := .ref (ad 2 0)) p_ad_0_0 rfl dX11_feed_57 ?_
    refine cVp (As := []) (rest := []) S Y (x_X5_size (l := l) I hW hT hQ) cw_X5_size km11_91 (I.opo (k := 2) (j := 0) (by decide) rfl).choose_spec.1 ok_X5.1 rfl rfl ⟨Nat.le_of_ble_eq_true rfl, Nat.le_of_ble_eq_true rfl⟩ hl.1 rfl (Nat.le_of_ble_eq_true rfl) ⟨Nat.le_of_ble_eq_true rfl, Nat.le_of_ble_eq_true rfl⟩ dX11_feed_60 (fun r_66040 H locs er_66040 Y => ?_)
    exact prI (post := fun r L1 f1 => SH (spC (NR 30 0 4) ((0, 6) : Int × Int) tc w q) nnC G ad L1 f1) S Y rfl (by decide) (by decide) hA1 I dX11_feed_63
  · have B_66029 : bn 0 0 r_66026 := bn_w (bn_eq c_66027 (show bn 0 0 (0 : Int32) from bn_k (by decide))) (by decide)
    refine lv_iconst (v := (-1)) hx hb dX11_feed_12 (by decide) ?_
    exact prI (post := fun r L1 f1 => SH (spC (NR 30 0 4) ((0, 6) : Int × Int) tc w q) nnC G ad L1 f1) S Y rfl (by decide) (by decide) hA1 I dX11_feed_13
set_option maxHeartbeats 4000000 in
set_option maxRecDepth 100000 in
theorem x_X11_end {l : Launch} {G : GG}  {L : List Nat} {f : HF} {ad : Nat → Nat → Nat} {tc w : Nat → Int × Int} {q : Nat → (Nat → Int32) → Prop} {i1 : Int32} (I : SH (spC (NR 30 0 4) ((0, 6) : Int × Int) tc w q) nnC G ad L f) (hW : WBp w 8) (hT : WBp tc 4) (hQ : QIp q) (hZ : ZZp w q) (hE : ∀ j, (tc j).1 = (tc j).2) : PMi l yX11_end cX11_end 2 .int 1 0 0 G [.ref (ad 0 0), .int i1] L f (fun r L1 f1 => SH (spC (NR 30 0 4) ((0, 6) : Int × Int) tc w q) nnC G ad L1 f1) := by
  refine PMi.of (post := fun r L1 f1 => SH (spC (NR 30 0 4) ((0, 6) : Int × Int) tc w q) nnC G ad L1 f1) (own := RX11) (by decide) rfl (Nat.le_of_ble_eq_true rfl) (fun sz p e s m args below meth c A ls hA1 hname S Y hl => ?_)
  have hx := S.hx
  have hb := S.hb
  have hl : lv_has ls 2 [(0, .ref (ad 0 0)), (1, .int i1)] := hl
  refine lv_aload_n hx hb dX11_end_0 rfl (lv_at hl 0 rfl) ?_
  have p_ad_0_0 := opnC_0 (j := 0) I (by decide)
  have p_ad_0_0 : pt L f (ad 0 0) (.inr (11, [.ref (ad 1 0), .ref (ad 1 1), .ref (ad 2 0), .ref (ad 3 0), .ref (ad 4 0), .ref (ad 5 0), .ref (ad 6 0), .ref (ad 7 0), .ref (ad 8 0)])) := p_ad_0_0
  refine pg_get S Y ok_X11 2 (by decide) kf11_25 (v := .ref (ad 2 0)) p_ad_0_0 rfl dX11_end_1 ?_
  refine lv_iload_n hx hb dX11_end_4 rfl (lv_at hl 1 rfl) ?_
  refine cVi (As := [.int i1]) (rest := []) S Y (x_X5_cutTo (l := l) I hW hT hQ) cw_X5_cutTo km11_95 (I.opo (k := 2) (j := 0) (by decide) rfl).choose_spec.1 ok_X5.1 rfl rfl ⟨Nat.le_of_ble_eq_true rfl, Nat.le_of_ble_eq_true rfl⟩ hl.1 rfl (Nat.le_of_ble_eq_true rfl) ⟨Nat.le_of_ble_eq_true rfl, Nat.le_of_ble_eq_true rfl⟩ dX11_end_5 (fun r_66055 L_66053 f_66054 H locs hr_66055 Y => ?_)
  obtain ⟨er_66055, I⟩ := hr_66055
  refine lv_if_eq (tgt := 15) hx hb dX11_end_8 (by decide) (fun c_66056 => ?_) (fun c_66056 => ?_)
  · have B_66057 : bn 0 0 r_66055 := bn_w (bn_eq c_66056 (show bn 0 0 (0 : Int32) from bn_k (by decide))) (by decide)
    refine lv_iconst (v := (-1)) hx hb dX11_end_15 (by decide) ?_
    exact prI (post := fun r L1 f1 => SH (spC (NR 30 0 4) ((0, 6) : Int × Int) tc w q) nnC G ad L1 f1) S Y rfl (by decide) (by decide) hA1 I dX11_end_16
  · have B_66058 : bn 1 1 r_66055 := bn_w (bn_nel c_66056 er_66055 (show bn 0 0 (0 : Int32) from bn_k (by decide))) (by decide)
    refine lv_iload_n hx hb dX11_end_11 rfl (lv_at hl 1 rfl) ?_
    refine lv_goto (tgt := 16) hx hb dX11_end_12 (by decide) ?_
    exact prI (post := fun r L1 f1 => SH (spC (NR 30 0 4) ((0, 6) : Int × Int) tc w q) nnC G ad L1 f1) S Y rfl (by decide) (by decide) hA1 I dX11_end_16
set_option maxHeartbeats 4000000 in
set_option maxRecDepth 100000 in
theorem x_X11_fault {l : Launch} {G : GG}  {L : List Nat} {f : HF} {ad : Nat → Nat → Nat} {tc w : Nat → Int × Int} {q : Nat → (Nat → Int32) → Prop} {i1 : Int32} (I : SH (spC (NR 30 0 4) ((0, 6) : Int × Int) tc w q) nnC G ad L f) (hW : WBp w 8) (hT : WBp tc 4) (hQ : QIp q) (hZ : ZZp w q) (hE : ∀ j, (tc j).1 = (tc j).2) : PMi l yX11_fault cX11_fault 2 .int 1 0 0 G [.ref (ad 0 0), .int i1] L f (fun r L1 f1 => SH (spC (NR 30 0 4) ((0, 6) : Int × Int) tc w q) nnC G ad L1 f1) := by
  refine PMi.of (post := fun r L1 f1 => SH (spC (NR 30 0 4) ((0, 6) : Int × Int) tc w q) nnC G ad L1 f1) (own := RX11) (by decide) rfl (Nat.le_of_ble_eq_true rfl) (fun sz p e s m args below meth c A ls hA1 hname S Y hl => ?_)
  have hx := S.hx
  have hb := S.hb
  have hl : lv_has ls 2 [(0, .ref (ad 0 0)), (1, .int i1)] := hl
  refine lv_iload_n hx hb dX11_fault_0 rfl (lv_at hl 1 rfl) ?_
  refine lv_if_ne (tgt := 12) hx hb dX11_fault_1 (by decide) (fun c_66071 => ?_) (fun c_66071 => ?_)
  · refine lv_iload_n hx hb dX11_fault_12 rfl (lv_at hl 1 rfl) ?_
    refine lv_iconst (v := 1) hx hb dX11_fault_13 (by decide) ?_
    refine lv_icmp_ne (tgt := 27) hx hb dX11_fault_14 (by decide) (fun c_66073 => ?_) (fun c_66073 => ?_)
    · refine lv_iconst (v := (-1)) hx hb dX11_fault_27 (by decide) ?_
      exact prI (post := fun r L1 f1 => SH (spC (NR 30 0 4) ((0, 6) : Int × Int) tc w q) nnC G ad L1 f1) S Y rfl (by decide) (by decide) hA1 I dX11_fault_28
    · have B_66074 : bn 1 1 i1 := bn_w (bn_eq c_66073 (show bn 1 1 (1 : Int32) from bn_k (by decide))) (by decide)
      refine lv_aload_n hx hb dX11_fault_17 rfl (lv_at hl 0 rfl) ?_
      have p_ad_0_0 := opnC_0 (j := 0) I (by decide)
      have p_ad_0_0 : pt L f (ad 0 0) (.inr (11, [.ref (ad 1 0), .ref (ad 1 1), .ref (ad 2 0), .ref (ad 3 0), .ref (ad 4 0), .ref (ad 5 0), .ref (ad 6 0), .ref (ad 7 0), .ref (ad 8 0)])) := p_ad_0_0
      refine pg_get S Y ok_X11 2 (by decide) kf11_25 (v := .ref (ad 2 0)) p_ad_0_0 rfl dX11_fault_18 ?_
      refine cVp (As := []) (rest := []) S Y (x_X5_faultPlace (l := l) I hW hT hQ) cw_X5_faultPlace km11_112 (I.opo (k := 2) (j := 0) (by decide) rfl).choose_spec.1 ok_X5.1 rfl rfl ⟨Nat.le_of_ble_eq_true rfl, Nat.le_of_ble_eq_true rfl⟩ hl.1 rfl (Nat.le_of_ble_eq_true rfl) ⟨Nat.le_of_ble_eq_true rfl, Nat.le_of_ble_eq_true rfl⟩ dX11_fault_21 (fun r_66075 H locs er_66075 Y => ?_)
      refine lv_goto (tgt := 28) hx hb dX11_fault_24 (by decide) ?_
      exact prI (post := fun r L1 f1 => SH (spC (NR 30 0 4) ((0, 6) : Int × Int) tc w q) nnC G ad L1 f1) S Y rfl (by decide) (by decide) hA1 I dX11_fault_28
  · have B_66072 : bn 0 0 i1 := bn_w (bn_eq c_66071 (show bn 0 0 (0 : Int32) from bn_k (by decide))) (by decide)
    refine lv_aload_n hx hb dX11_fault_4 rfl (lv_at hl 0 rfl) ?_
    have p_ad_0_0 := opnC_0 (j := 0) I (by decide)
    have p_ad_0_0 : pt L f (ad 0 0) (.inr (11, [.ref (ad 1 0), .ref (ad 1 1), .ref (ad 2 0), .ref (ad 3 0), .ref (ad 4 0), .ref (ad 5 0), .ref (ad 6 0), .ref (ad 7 0), .ref (ad 8 0)])) := p_ad_0_0
    refine pg_get S Y ok_X11 2 (by decide) kf11_25 (v := .ref (ad 2 0)) p_ad_0_0 rfl dX11_fault_5 ?_
    refine cVp (As := []) (rest := []) S Y (x_X5_faultKind (l := l) I hW hT hQ) cw_X5_faultKind km11_109 (I.opo (k := 2) (j := 0) (by decide) rfl).choose_spec.1 ok_X5.1 rfl rfl ⟨Nat.le_of_ble_eq_true rfl, Nat.le_of_ble_eq_true rfl⟩ hl.1 rfl (Nat.le_of_ble_eq_true rfl) ⟨Nat.le_of_ble_eq_true rfl, Nat.le_of_ble_eq_true rfl⟩ dX11_fault_8 (fun r_66076 H locs er_66076 Y => ?_)
    exact prI (post := fun r L1 f1 => SH (spC (NR 30 0 4) ((0, 6) : Int × Int) tc w q) nnC G ad L1 f1) S Y rfl (by decide) (by decide) hA1 I dX11_fault_11
set_option maxHeartbeats 4000000 in
set_option maxRecDepth 100000 in
theorem x_X11_by {l : Launch} {G : GG}  {L : List Nat} {f : HF} {ad : Nat → Nat → Nat} {tc w : Nat → Int × Int} {q : Nat → (Nat → Int32) → Prop} {i1 : Int32} (I : SH (spC (NR 30 0 4) ((0, 6) : Int × Int) tc w q) nnC G ad L f) (hW : WBp w 8) (hT : WBp tc 4) (hQ : QIp q) (hZ : ZZp w q) (hE : ∀ j, (tc j).1 = (tc j).2) : PMi l yX11_by cX11_by 2 .boolean 2 0 0 G [.ref (ad 0 0), .int i1] L f (fun r L1 f1 => bn 0 1 r ∧ SH (spC (NR 30 0 4) ((0, 6) : Int × Int) tc w q) nnC G ad L1 f1) := by
  refine PMi.of (post := fun r L1 f1 => bn 0 1 r ∧ SH (spC (NR 30 0 4) ((0, 6) : Int × Int) tc w q) nnC G ad L1 f1) (own := RX11) (by decide) rfl (Nat.le_of_ble_eq_true rfl) (fun sz p e s m args below meth c A ls hA1 hname S Y hl => ?_)
  have hx := S.hx
  have hb := S.hb
  have hl : lv_has ls 2 [(0, .ref (ad 0 0)), (1, .int i1)] := hl
  refine lv_aload_n hx hb dX11_by_0 rfl (lv_at hl 0 rfl) ?_
  have p_ad_0_0 := opnC_0 (j := 0) I (by decide)
  have p_ad_0_0 : pt L f (ad 0 0) (.inr (11, [.ref (ad 1 0), .ref (ad 1 1), .ref (ad 2 0), .ref (ad 3 0), .ref (ad 4 0), .ref (ad 5 0), .ref (ad 6 0), .ref (ad 7 0), .ref (ad 8 0)])) := p_ad_0_0
  refine pg_get S Y ok_X11 0 (by decide) kf11_13 (v := .ref (ad 1 0)) p_ad_0_0 rfl dX11_by_1 ?_
  refine lv_iload_n hx hb dX11_by_4 rfl (lv_at hl 1 rfl) ?_
  refine cVi (As := [.int i1]) (rest := []) S Y (x_X10_putUnder (l := l) I hW hT hQ) cw_X10_putUnder km11_115 (I.opo (k := 1) (j := 0) (by decide) rfl).choose_spec.1 ok_X10.1 rfl rfl ⟨Nat.le_of_ble_eq_true rfl, Nat.le_of_ble_eq_true rfl⟩ hl.1 rfl (Nat.le_of_ble_eq_true rfl) ⟨Nat.le_of_ble_eq_true rfl, Nat.le_of_ble_eq_true rfl⟩ dX11_by_5 (fun r_66085 L_66083 f_66084 H locs hr_66085 Y => ?_)
  obtain ⟨er_66085, I⟩ := hr_66085
  exact prI (post := fun r L1 f1 => bn 0 1 r ∧ SH (spC (NR 30 0 4) ((0, 6) : Int × Int) tc w q) nnC G ad L1 f1) S Y (nw_b (bn_w er_66085 (by decide))) (by decide) (by decide) hA1 ⟨bn_w er_66085 (by decide), I⟩ dX11_by_8
set_option maxHeartbeats 4000000 in
set_option maxRecDepth 100000 in
theorem x_X11_swear {l : Launch} {G : GG}  {L : List Nat} {f : HF} {ad : Nat → Nat → Nat} {tc w : Nat → Int × Int} {q : Nat → (Nat → Int32) → Prop} {i1 i2 i3 i4 : Int32} (I : SH (spC (NR 30 0 4) ((0, 6) : Int × Int) tc w q) nnC G ad L f) (hW : WBp w 8) (hT : WBp tc 4) (hQ : QIp q) (hZ : ZZp w q) (hE : ∀ j, (tc j).1 = (tc j).2) : PMi l yX11_swear cX11_swear 5 .int 5 0 0 G [.ref (ad 0 0), .int i1, .int i2, .int i3, .int i4] L f (fun r L1 f1 => SH (spC (NR 30 0 4) ((0, 6) : Int × Int) tc w q) nnC G ad L1 f1) := by
  refine PMi.of (post := fun r L1 f1 => SH (spC (NR 30 0 4) ((0, 6) : Int × Int) tc w q) nnC G ad L1 f1) (own := RX11) (by decide) rfl (Nat.le_of_ble_eq_true rfl) (fun sz p e s m args below meth c A ls hA1 hname S Y hl => ?_)
  have hx := S.hx
  have hb := S.hb
  have hl : lv_has ls 5 [(0, .ref (ad 0 0)), (1, .int i1), (2, .int i2), (3, .int i3), (4, .int i4)] := hl
  refine lv_aload_n hx hb dX11_swear_0 rfl (lv_at hl 0 rfl) ?_
  have p_ad_0_0 := opnC_0 (j := 0) I (by decide)
  have p_ad_0_0 : pt L f (ad 0 0) (.inr (11, [.ref (ad 1 0), .ref (ad 1 1), .ref (ad 2 0), .ref (ad 3 0), .ref (ad 4 0), .ref (ad 5 0), .ref (ad 6 0), .ref (ad 7 0), .ref (ad 8 0)])) := p_ad_0_0
  refine pg_get S Y ok_X11 5 (by decide) kf11_50 (v := .ref (ad 5 0)) p_ad_0_0 rfl dX11_swear_1 ?_
  refine lv_iload_n hx hb dX11_swear_4 rfl (lv_at hl 1 rfl) ?_
  refine lv_iload_n hx hb dX11_swear_5 rfl (lv_at hl 2 rfl) ?_
  refine lv_iload_n hx hb dX11_swear_6 rfl (lv_at hl 3 rfl) ?_
  refine lv_iload hx hb dX11_swear_7 (lv_at hl 4 rfl) ?_
  refine cVi (As := [.int i1, .int i2, .int i3, .int i4]) (rest := []) S Y (x_X1_swearIn (l := l) I hW hT hQ) cw_X1_swearIn km11_118 (I.opo (k := 5) (j := 0) (by decide) rfl).choose_spec.1 ok_X1.1 rfl rfl ⟨Nat.le_of_ble_eq_true rfl, Nat.le_of_ble_eq_true rfl⟩ hl.1 rfl (Nat.le_of_ble_eq_true rfl) ⟨Nat.le_of_ble_eq_true rfl, Nat.le_of_ble_eq_true rfl⟩ dX11_swear_9 (fun r_66094 L_66092 f_66093 H locs I Y => ?_)
  exact prI (post := fun r L1 f1 => SH (spC (NR 30 0 4) ((0, 6) : Int × Int) tc w q) nnC G ad L1 f1) S Y rfl (by decide) (by decide) hA1 I dX11_swear_12
set_option maxHeartbeats 4000000 in
set_option maxRecDepth 100000 in
theorem x_X11_breaks {l : Launch} {G : GG}  {L : List Nat} {f : HF} {ad : Nat → Nat → Nat} {tc w : Nat → Int × Int} {q : Nat → (Nat → Int32) → Prop} {i1 : Int32} (I : SH (spC (NR 30 0 4) ((0, 6) : Int × Int) tc w q) nnC G ad L f) (hW : WBp w 8) (hT : WBp tc 4) (hQ : QIp q) (hZ : ZZp w q) (hE : ∀ j, (tc j).1 = (tc j).2) : PMi l yX11_breaks cX11_breaks 2 .boolean 5 0 0 G [.ref (ad 0 0), .int i1] L f (fun r L1 f1 => bn 0 1 r ∧ SH (spC (NR 30 0 4) ((0, 6) : Int × Int) tc w q) nnC G ad L1 f1) := by
  refine PMi.of (post := fun r L1 f1 => bn 0 1 r ∧ SH (spC (NR 30 0 4) ((0, 6) : Int × Int) tc w q) nnC G ad L1 f1) (own := RX11) (by decide) rfl (Nat.le_of_ble_eq_true rfl) (fun sz p e s m args below meth c A ls hA1 hname S Y hl => ?_)
  have hx := S.hx
  have hb := S.hb
  have hl : lv_has ls 2 [(0, .ref (ad 0 0)), (1, .int i1)] := hl
  refine lv_aload_n hx hb dX11_breaks_0 rfl (lv_at hl 0 rfl) ?_
  have p_ad_0_0 := opnC_0 (j := 0) I (by decide)
  have p_ad_0_0 : pt L f (ad 0 0) (.inr (11, [.ref (ad 1 0), .ref (ad 1 1), .ref (ad 2 0), .ref (ad 3 0), .ref (ad 4 0), .ref (ad 5 0), .ref (ad 6 0), .ref (ad 7 0), .ref (ad 8 0)])) := p_ad_0_0
  refine pg_get S Y ok_X11 5 (by decide) kf11_50 (v := .ref (ad 5 0)) p_ad_0_0 rfl dX11_breaks_1 ?_
  refine lv_iload_n hx hb dX11_breaks_4 rfl (lv_at hl 1 rfl) ?_
  refine cVi (As := [.int i1]) (rest := []) S Y (x_X1_breakOath (l := l) I hW hT hQ) cw_X1_breakOath km11_122 (I.opo (k := 5) (j := 0) (by decide) rfl).choose_spec.1 ok_X1.1 rfl rfl ⟨Nat.le_of_ble_eq_true rfl, Nat.le_of_ble_eq_true rfl⟩ hl.1 rfl (Nat.le_of_ble_eq_true rfl) ⟨Nat.le_of_ble_eq_true rfl, Nat.le_of_ble_eq_true rfl⟩ dX11_breaks_5 (fun r_66103 L_66101 f_66102 H locs hr_66103 Y => ?_)
  obtain ⟨er_66103, I⟩ := hr_66103
  exact prI (post := fun r L1 f1 => bn 0 1 r ∧ SH (spC (NR 30 0 4) ((0, 6) : Int × Int) tc w q) nnC G ad L1 f1) S Y (nw_b (bn_w er_66103 (by decide))) (by decide) (by decide) hA1 ⟨bn_w er_66103 (by decide), I⟩ dX11_breaks_8
set_option maxHeartbeats 4000000 in
set_option maxRecDepth 100000 in
theorem x_X11_release {l : Launch} {G : GG}  {L : List Nat} {f : HF} {ad : Nat → Nat → Nat} {tc w : Nat → Int × Int} {q : Nat → (Nat → Int32) → Prop} {i1 : Int32} (I : SH (spC (NR 30 0 4) ((0, 6) : Int × Int) tc w q) nnC G ad L f) (hW : WBp w 8) (hT : WBp tc 4) (hQ : QIp q) (hZ : ZZp w q) (hE : ∀ j, (tc j).1 = (tc j).2) : PMi l yX11_release cX11_release 2 .boolean 5 0 0 G [.ref (ad 0 0), .int i1] L f (fun r L1 f1 => bn 0 1 r ∧ SH (spC (NR 30 0 4) ((0, 6) : Int × Int) tc w q) nnC G ad L1 f1) := by
  refine PMi.of (post := fun r L1 f1 => bn 0 1 r ∧ SH (spC (NR 30 0 4) ((0, 6) : Int × Int) tc w q) nnC G ad L1 f1) (own := RX11) (by decide) rfl (Nat.le_of_ble_eq_true rfl) (fun sz p e s m args below meth c A ls hA1 hname S Y hl => ?_)
  have hx := S.hx
  have hb := S.hb
  have hl : lv_has ls 2 [(0, .ref (ad 0 0)), (1, .int i1)] := hl
  refine lv_aload_n hx hb dX11_release_0 rfl (lv_at hl 0 rfl) ?_
  have p_ad_0_0 := opnC_0 (j := 0) I (by decide)
  have p_ad_0_0 : pt L f (ad 0 0) (.inr (11, [.ref (ad 1 0), .ref (ad 1 1), .ref (ad 2 0), .ref (ad 3 0), .ref (ad 4 0), .ref (ad 5 0), .ref (ad 6 0), .ref (ad 7 0), .ref (ad 8 0)])) := p_ad_0_0
  refine pg_get S Y ok_X11 5 (by decide) kf11_50 (v := .ref (ad 5 0)) p_ad_0_0 rfl dX11_release_1 ?_
  refine lv_iload_n hx hb dX11_release_4 rfl (lv_at hl 1 rfl) ?_
  refine cVi (As := [.int i1]) (rest := []) S Y (x_X1_releaseOath (l := l) I hW hT hQ) cw_X1_releaseOath km11_125 (I.opo (k := 5) (j := 0) (by decide) rfl).choose_spec.1 ok_X1.1 rfl rfl ⟨Nat.le_of_ble_eq_true rfl, Nat.le_of_ble_eq_true rfl⟩ hl.1 rfl (Nat.le_of_ble_eq_true rfl) ⟨Nat.le_of_ble_eq_true rfl, Nat.le_of_ble_eq_true rfl⟩ dX11_release_5 (fun r_66112 L_66110 f_66111 H locs hr_66112 Y => ?_)
  obtain ⟨er_66112, I⟩ := hr_66112
  exact prI (post := fun r L1 f1 => bn 0 1 r ∧ SH (spC (NR 30 0 4) ((0, 6) : Int × Int) tc w q) nnC G ad L1 f1) S Y (nw_b (bn_w er_66112 (by decide))) (by decide) (by decide) hA1 ⟨bn_w er_66112 (by decide), I⟩ dX11_release_8
set_option maxHeartbeats 4000000 in
set_option maxRecDepth 100000 in
theorem x_X11_kneel {l : Launch} {G : GG}  {L : List Nat} {f : HF} {ad : Nat → Nat → Nat} {tc w : Nat → Int × Int} {q : Nat → (Nat → Int32) → Prop} {i1 : Int32} (I : SH (spC (NR 30 0 4) ((0, 6) : Int × Int) tc w q) nnC G ad L f) (hW : WBp w 8) (hT : WBp tc 4) (hQ : QIp q) (hZ : ZZp w q) (hE : ∀ j, (tc j).1 = (tc j).2) : PMi l yX11_kneel cX11_kneel 2 .int 6 0 0 G [.ref (ad 0 0), .int i1] L f (fun r L1 f1 => SH (spC (NR 30 0 4) ((0, 6) : Int × Int) tc w q) nnC G ad L1 f1) := by
  refine PMi.of (post := fun r L1 f1 => SH (spC (NR 30 0 4) ((0, 6) : Int × Int) tc w q) nnC G ad L1 f1) (own := RX11) (by decide) rfl (Nat.le_of_ble_eq_true rfl) (fun sz p e s m args below meth c A ls hA1 hname S Y hl => ?_)
  have hx := S.hx
  have hb := S.hb
  have hl : lv_has ls 2 [(0, .ref (ad 0 0)), (1, .int i1)] := hl
  refine lv_aload_n hx hb dX11_kneel_0 rfl (lv_at hl 0 rfl) ?_
  have p_ad_0_0 := opnC_0 (j := 0) I (by decide)
  have p_ad_0_0 : pt L f (ad 0 0) (.inr (11, [.ref (ad 1 0), .ref (ad 1 1), .ref (ad 2 0), .ref (ad 3 0), .ref (ad 4 0), .ref (ad 5 0), .ref (ad 6 0), .ref (ad 7 0), .ref (ad 8 0)])) := p_ad_0_0
  refine pg_get S Y ok_X11 5 (by decide) kf11_50 (v := .ref (ad 5 0)) p_ad_0_0 rfl dX11_kneel_1 ?_
  refine lv_iload_n hx hb dX11_kneel_4 rfl (lv_at hl 1 rfl) ?_
  refine cVi (As := [.int i1]) (rest := []) S Y (x_X1_kneelDown (l := l) I hW hT hQ) cw_X1_kneelDown km11_128 (I.opo (k := 5) (j := 0) (by decide) rfl).choose_spec.1 ok_X1.1 rfl rfl ⟨Nat.le_of_ble_eq_true rfl, Nat.le_of_ble_eq_true rfl⟩ hl.1 rfl (Nat.le_of_ble_eq_true rfl) ⟨Nat.le_of_ble_eq_true rfl, Nat.le_of_ble_eq_true rfl⟩ dX11_kneel_5 (fun r_66149 L_66147 f_66148 H locs hr_66149 Y => ?_)
  obtain ⟨er_66149, I⟩ := hr_66149
  refine lv_if_eq (tgt := 25) hx hb dX11_kneel_8 (by decide) (fun c_66150 => ?_) (fun c_66150 => ?_)
  · have B_66151 : bn 0 0 r_66149 := bn_w (bn_eq c_66150 (show bn 0 0 (0 : Int32) from bn_k (by decide))) (by decide)
    refine lv_iconst (v := (-1)) hx hb dX11_kneel_25 (by decide) ?_
    exact prI (post := fun r L1 f1 => SH (spC (NR 30 0 4) ((0, 6) : Int × Int) tc w q) nnC G ad L1 f1) S Y rfl (by decide) (by decide) hA1 I dX11_kneel_26
  · have B_66152 : bn 1 1 r_66149 := bn_w (bn_nel c_66150 er_66149 (show bn 0 0 (0 : Int32) from bn_k (by decide))) (by decide)
    refine lv_aload_n hx hb dX11_kneel_11 rfl (lv_at hl 0 rfl) ?_
    have p_ad_0_0 := opnC_0 (j := 0) I (by decide)
    have p_ad_0_0 : pt L_66147 f_66148 (ad 0 0) (.inr (11, [.ref (ad 1 0), .ref (ad 1 1), .ref (ad 2 0), .ref (ad 3 0), .ref (ad 4 0), .ref (ad 5 0), .ref (ad 6 0), .ref (ad 7 0), .ref (ad 8 0)])) := p_ad_0_0
    refine pg_get S Y ok_X11 0 (by decide) kf11_13 (v := .ref (ad 1 0)) p_ad_0_0 rfl dX11_kneel_12 ?_
    obtain ⟨v_66153, v_66155, v_66157, v_66159, v_66161, p_ad_1_0, b_66154, b_66156, b_66158, b_66160, b_66162⟩ := opnC_1 (j := 0) I (by decide)
    have p_ad_1_0 : pt L_66147 f_66148 (ad 1 0) (.inr (10, [.ref (ad 40 0), .ref (ad 41 0), .ref (ad 42 0), .ref (ad 10 0), .ref (ad 43 0), .ref (ad 20 0), .ref (ad 20 1), .ref (ad 20 2), .ref (ad 20 3), .ref (ad 20 4), .int v_66153, .int v_66155, .int v_66157, .int v_66159, .int v_66161])) := p_ad_1_0
    refine pg_getN S Y ok_X10 3 (by decide) kf11_131 (v := .ref (ad 10 0)) p_ad_1_0 rfl dX11_kneel_15 ?_
    refine lv_iload_n hx hb dX11_kneel_18 rfl (lv_at hl 1 rfl) ?_
    refine cVp (As := [.int i1]) (rest := []) S Y (x_X4_marks (l := l) (j := 0) I hW hT hQ (by decide)) cw_X4_marks km11_135 (I.opo (k := 10) (j := 0) (by decide) rfl).choose_spec.1 ok_X4.1 rfl rfl ⟨Nat.le_of_ble_eq_true rfl, Nat.le_of_ble_eq_true rfl⟩ hl.1 rfl (Nat.le_of_ble_eq_true rfl) ⟨Nat.le_of_ble_eq_true rfl, Nat.le_of_ble_eq_true rfl⟩ dX11_kneel_19 (fun r_66163 H locs er_66163 Y => ?_)
    refine lv_goto (tgt := 26) hx hb dX11_kneel_22 (by decide) ?_
    exact prI (post := fun r L1 f1 => SH (spC (NR 30 0 4) ((0, 6) : Int × Int) tc w q) nnC G ad L1 f1) S Y rfl (by decide) (by decide) hA1 I dX11_kneel_26
set_option maxHeartbeats 4000000 in
set_option maxRecDepth 100000 in
theorem x_X11_skate {l : Launch} {G : GG}  {L : List Nat} {f : HF} {ad : Nat → Nat → Nat} {tc w : Nat → Int × Int} {q : Nat → (Nat → Int32) → Prop} {i1 i2 : Int32} (I : SH (spC (NR 30 0 4) ((0, 6) : Int × Int) tc w q) nnC G ad L f) (hW : WBp w 8) (hT : WBp tc 4) (hQ : QIp q) (hZ : ZZp w q) (hE : ∀ j, (tc j).1 = (tc j).2) : PMi l yX11_skate cX11_skate 3 .int 5 0 0 G [.ref (ad 0 0), .int i1, .int i2] L f (fun r L1 f1 => SH (spC (NR 30 0 4) ((0, 6) : Int × Int) tc w q) nnC G ad L1 f1) := by
  refine PMi.of (post := fun r L1 f1 => SH (spC (NR 30 0 4) ((0, 6) : Int × Int) tc w q) nnC G ad L1 f1) (own := RX11) (by decide) rfl (Nat.le_of_ble_eq_true rfl) (fun sz p e s m args below meth c A ls hA1 hname S Y hl => ?_)
  have hx := S.hx
  have hb := S.hb
  have hl : lv_has ls 3 [(0, .ref (ad 0 0)), (1, .int i1), (2, .int i2)] := hl
  refine lv_aload_n hx hb dX11_skate_0 rfl (lv_at hl 0 rfl) ?_
  have p_ad_0_0 := opnC_0 (j := 0) I (by decide)
  have p_ad_0_0 : pt L f (ad 0 0) (.inr (11, [.ref (ad 1 0), .ref (ad 1 1), .ref (ad 2 0), .ref (ad 3 0), .ref (ad 4 0), .ref (ad 5 0), .ref (ad 6 0), .ref (ad 7 0), .ref (ad 8 0)])) := p_ad_0_0
  refine pg_get S Y ok_X11 5 (by decide) kf11_50 (v := .ref (ad 5 0)) p_ad_0_0 rfl dX11_skate_1 ?_
  refine lv_iload_n hx hb dX11_skate_4 rfl (lv_at hl 1 rfl) ?_
  refine lv_iload_n hx hb dX11_skate_5 rfl (lv_at hl 2 rfl) ?_
  refine cVi (As := [.int i1, .int i2]) (rest := []) S Y (x_X1_slide (l := l) I hW hT hQ) cw_X1_slide km11_139 (I.opo (k := 5) (j := 0) (by decide) rfl).choose_spec.1 ok_X1.1 rfl rfl ⟨Nat.le_of_ble_eq_true rfl, Nat.le_of_ble_eq_true rfl⟩ hl.1 rfl (Nat.le_of_ble_eq_true rfl) ⟨Nat.le_of_ble_eq_true rfl, Nat.le_of_ble_eq_true rfl⟩ dX11_skate_6 (fun r_66200 L_66198 f_66199 H locs hr_66200 Y => ?_)
  obtain ⟨er_66200, I⟩ := hr_66200
  refine lv_if_eq (tgt := 26) hx hb dX11_skate_9 (by decide) (fun c_66201 => ?_) (fun c_66201 => ?_)
  · have B_66202 : bn 0 0 r_66200 := bn_w (bn_eq c_66201 (show bn 0 0 (0 : Int32) from bn_k (by decide))) (by decide)
    refine lv_iconst (v := (-1)) hx hb dX11_skate_26 (by decide) ?_
    exact prI (post := fun r L1 f1 => SH (spC (NR 30 0 4) ((0, 6) : Int × Int) tc w q) nnC G ad L1 f1) S Y rfl (by decide) (by decide) hA1 I dX11_skate_27
  · have B_66203 : bn 1 1 r_66200 := bn_w (bn_nel c_66201 er_66200 (show bn 0 0 (0 : Int32) from bn_k (by decide))) (by decide)
    refine lv_aload_n hx hb dX11_skate_12 rfl (lv_at hl 0 rfl) ?_
    have p_ad_0_0 := opnC_0 (j := 0) I (by decide)
    have p_ad_0_0 : pt L_66198 f_66199 (ad 0 0) (.inr (11, [.ref (ad 1 0), .ref (ad 1 1), .ref (ad 2 0), .ref (ad 3 0), .ref (ad 4 0), .ref (ad 5 0), .ref (ad 6 0), .ref (ad 7 0), .ref (ad 8 0)])) := p_ad_0_0
    refine pg_get S Y ok_X11 0 (by decide) kf11_13 (v := .ref (ad 1 0)) p_ad_0_0 rfl dX11_skate_13 ?_
    obtain ⟨v_66204, v_66206, v_66208, v_66210, v_66212, p_ad_1_0, b_66205, b_66207, b_66209, b_66211, b_66213⟩ := opnC_1 (j := 0) I (by decide)
    have p_ad_1_0 : pt L_66198 f_66199 (ad 1 0) (.inr (10, [.ref (ad 40 0), .ref (ad 41 0), .ref (ad 42 0), .ref (ad 10 0), .ref (ad 43 0), .ref (ad 20 0), .ref (ad 20 1), .ref (ad 20 2), .ref (ad 20 3), .ref (ad 20 4), .int v_66204, .int v_66206, .int v_66208, .int v_66210, .int v_66212])) := p_ad_1_0
    refine pg_getN S Y ok_X10 3 (by decide) kf11_131 (v := .ref (ad 10 0)) p_ad_1_0 rfl dX11_skate_16 ?_
    refine lv_iload_n hx hb dX11_skate_19 rfl (lv_at hl 1 rfl) ?_
    refine cVp (As := [.int i1]) (rest := []) S Y (x_X4_marks (l := l) (j := 0) I hW hT hQ (by decide)) cw_X4_marks km11_135 (I.opo (k := 10) (j := 0) (by decide) rfl).choose_spec.1 ok_X4.1 rfl rfl ⟨Nat.le_of_ble_eq_true rfl, Nat.le_of_ble_eq_true rfl⟩ hl.1 rfl (Nat.le_of_ble_eq_true rfl) ⟨Nat.le_of_ble_eq_true rfl, Nat.le_of_ble_eq_true rfl⟩ dX11_skate_20 (fun r_66214 H locs er_66214 Y => ?_)
    refine lv_goto (tgt := 27) hx hb dX11_skate_23 (by decide) ?_
    exact prI (post := fun r L1 f1 => SH (spC (NR 30 0 4) ((0, 6) : Int × Int) tc w q) nnC G ad L1 f1) S Y rfl (by decide) (by decide) hA1 I dX11_skate_27
set_option maxHeartbeats 4000000 in
set_option maxRecDepth 100000 in
theorem x_X11_strike {l : Launch} {G : GG}  {L : List Nat} {f : HF} {ad : Nat → Nat → Nat} {tc w : Nat → Int × Int} {q : Nat → (Nat → Int32) → Prop} {i1 : Int32} (I : SH (spC (NR 30 0 4) ((0, 6) : Int × Int) tc w q) nnC G ad L f) (hW : WBp w 8) (hT : WBp tc 4) (hQ : QIp q) (hZ : ZZp w q) (hE : ∀ j, (tc j).1 = (tc j).2) : PMi l yX11_strike cX11_strike 2 .int 7 0 0 G [.ref (ad 0 0), .int i1] L f (fun r L1 f1 => SH (spC (NR 30 0 4) ((0, 6) : Int × Int) tc w q) nnC G ad L1 f1) := by
  refine PMi.of (post := fun r L1 f1 => SH (spC (NR 30 0 4) ((0, 6) : Int × Int) tc w q) nnC G ad L1 f1) (own := RX11) (by decide) rfl (Nat.le_of_ble_eq_true rfl) (fun sz p e s m args below meth c A ls hA1 hname S Y hl => ?_)
  have hx := S.hx
  have hb := S.hb
  have hl : lv_has ls 2 [(0, .ref (ad 0 0)), (1, .int i1)] := hl
  refine lv_aload_n hx hb dX11_strike_0 rfl (lv_at hl 0 rfl) ?_
  have p_ad_0_0 := opnC_0 (j := 0) I (by decide)
  have p_ad_0_0 : pt L f (ad 0 0) (.inr (11, [.ref (ad 1 0), .ref (ad 1 1), .ref (ad 2 0), .ref (ad 3 0), .ref (ad 4 0), .ref (ad 5 0), .ref (ad 6 0), .ref (ad 7 0), .ref (ad 8 0)])) := p_ad_0_0
  refine pg_get S Y ok_X11 5 (by decide) kf11_50 (v := .ref (ad 5 0)) p_ad_0_0 rfl dX11_strike_1 ?_
  refine lv_iload_n hx hb dX11_strike_4 rfl (lv_at hl 1 rfl) ?_
  refine cVi (As := [.int i1]) (rest := []) S Y (x_X1_strikeOut (l := l) I hW hT hQ) cw_X1_strikeOut km11_143 (I.opo (k := 5) (j := 0) (by decide) rfl).choose_spec.1 ok_X1.1 rfl rfl ⟨Nat.le_of_ble_eq_true rfl, Nat.le_of_ble_eq_true rfl⟩ hl.1 rfl (Nat.le_of_ble_eq_true rfl) ⟨Nat.le_of_ble_eq_true rfl, Nat.le_of_ble_eq_true rfl⟩ dX11_strike_5 (fun r_66223 L_66221 f_66222 H locs I Y => ?_)
  exact prI (post := fun r L1 f1 => SH (spC (NR 30 0 4) ((0, 6) : Int × Int) tc w q) nnC G ad L1 f1) S Y rfl (by decide) (by decide) hA1 I dX11_strike_8
set_option maxHeartbeats 4000000 in
set_option maxRecDepth 100000 in
theorem x_X11_day {l : Launch} {G : GG}  {L : List Nat} {f : HF} {ad : Nat → Nat → Nat} {tc w : Nat → Int × Int} {q : Nat → (Nat → Int32) → Prop} {i1 : Int32} (I : SH (spC (NR 30 0 4) ((0, 6) : Int × Int) tc w q) nnC G ad L f) (hW : WBp w 8) (hT : WBp tc 4) (hQ : QIp q) (hZ : ZZp w q) (hE : ∀ j, (tc j).1 = (tc j).2) : PMi l yX11_day cX11_day 3 .int 6 0 0 G [.ref (ad 0 0), .int i1] L f (fun r L1 f1 => SH (spC (NR 30 0 4) ((0, 6) : Int × Int) tc w q) nnC G ad L1 f1) := by
  refine PMi.of (post := fun r L1 f1 => SH (spC (NR 30 0 4) ((0, 6) : Int × Int) tc w q) nnC G ad L1 f1) (own := RX11) (by decide) rfl (Nat.le_of_ble_eq_true rfl) (fun sz p e s m args below meth c A ls hA1 hname S Y hl => ?_)
  have hx := S.hx
  have hb := S.hb
  have hl : lv_has ls 3 [(0, .ref (ad 0 0)), (1, .int i1)] := hl
  have J_32 : ∀ (n32 : Nat) (y32_2 : Int32) (L_32 : List Nat) (f_32 : HF) (H : Heap) (locs : List Loc) (ls : Array Slot), (SH (spC (NR 30 0 4) ((0, 6) : Int × Int) tc w q) nnC G ad L_32 f_32) → (bn 0 2147483647 y32_2) → (((2147483647 : Int) - y32_2.toInt).toNat = n32) → (DY G A s [] L_32 f_32 H locs) → (lv_has ls 3 [(0, .ref (ad 0 0)), (1, .int i1), (2, .int y32_2)]) → W p l e (rmD 6 0 0) s m args below meth c H locs (0) (0) (MQ below (va_Qi (fun r (u : List Nat × HF) => (fun r L1 f1 => SH (spC (NR 30 0 4) ((0, 6) : Int × Int) tc w q) nnC G ad L1 f1) r u.1 u.2) (fun u t => pOut G (va_A (va_pl L f) sz) u.1 u.2 t) (va_A (va_pl L f) sz)) args s 0 0 A) (F0 m 32 ls []) := by
    intro n32
    induction n32 using Nat.strongRecOn with
    | _ n32 ih32 =>
      intro y32_2 L_32 f_32 H locs ls I b_y32_2 hm32 Y hl
      refine lv_iload_n hx hb dX11_day_32 rfl (lv_at hl 2 rfl) ?_
      refine lv_iload_n hx hb dX11_day_33 rfl (lv_at hl 1 rfl) ?_
      refine lv_icmp_ge (tgt := 51) hx hb dX11_day_34 (by decide) (fun c_67657 => ?_) (fun c_67657 => ?_)
      · refine lv_aload_n hx hb dX11_day_51 rfl (lv_at hl 0 rfl) ?_
        have p_ad_0_0 := opnC_0 (j := 0) I (by decide)
        have p_ad_0_0 : pt L_32 f_32 (ad 0 0) (.inr (11, [.ref (ad 1 0), .ref (ad 1 1), .ref (ad 2 0), .ref (ad 3 0), .ref (ad 4 0), .ref (ad 5 0), .ref (ad 6 0), .ref (ad 7 0), .ref (ad 8 0)])) := p_ad_0_0
        refine pg_get S Y ok_X11 0 (by decide) kf11_13 (v := .ref (ad 1 0)) p_ad_0_0 rfl dX11_day_52 ?_
        obtain ⟨v_67660, v_67662, v_67664, v_67666, v_67668, p_ad_1_0, b_67661, b_67663, b_67665, b_67667, b_67669⟩ := opnC_1 (j := 0) I (by decide)
        have p_ad_1_0 : pt L_32 f_32 (ad 1 0) (.inr (10, [.ref (ad 40 0), .ref (ad 41 0), .ref (ad 42 0), .ref (ad 10 0), .ref (ad 43 0), .ref (ad 20 0), .ref (ad 20 1), .ref (ad 20 2), .ref (ad 20 3), .ref (ad 20 4), .int v_67660, .int v_67662, .int v_67664, .int v_67666, .int v_67668])) := p_ad_1_0
        refine pg_getN S Y ok_X10 3 (by decide) kf11_131 (v := .ref (ad 10 0)) p_ad_1_0 rfl dX11_day_55 ?_
        obtain ⟨v_67670, v_67672, v_67674, v_67676, v_67678, p_ad_10_0, b_67671, b_67673, b_67675, b_67677, b_67679⟩ := opnC_10 (j := 0) I (by decide)
        have p_ad_10_0 : pt L_32 f_32 (ad 10 0) (.inr (4, [.ref (ad 11 0), .ref (ad 12 0), .int v_67670, .int v_67672, .int v_67674, .int v_67676, .int v_67678])) := p_ad_10_0
        refine pg_getN S Y ok_X4 5 (by decide) kf11_158 (v := .int v_67676) p_ad_10_0 rfl dX11_day_58 ?_
        exact prI (post := fun r L1 f1 => SH (spC (NR 30 0 4) ((0, 6) : Int × Int) tc w q) nnC G ad L1 f1) S Y rfl (by decide) (by decide) hA1 I dX11_day_61
      · have B_67658 : bn 1 2147483647 i1 := bn_w (bn_gtl c_67657 (bn_any i1) b_y32_2) (by decide)
        have B_67659 : bn 0 2147483646 y32_2 := bn_w (bn_gtr c_67657 (bn_any i1) b_y32_2) (by decide)
        refine lv_aload_n hx hb dX11_day_37 rfl (lv_at hl 0 rfl) ?_
        have p_ad_0_0 := opnC_0 (j := 0) I (by decide)
        have p_ad_0_0 : pt L_32 f_32 (ad 0 0) (.inr (11, [.ref (ad 1 0), .ref (ad 1 1), .ref (ad 2 0), .ref (ad 3 0), .ref (ad 4 0), .ref (ad 5 0), .ref (ad 6 0), .ref (ad 7 0), .ref (ad 8 0)])) := p_ad_0_0
        refine pg_get S Y ok_X11 5 (by decide) kf11_50 (v := .ref (ad 5 0)) p_ad_0_0 rfl dX11_day_38 ?_
        refine cVi (As := []) (rest := []) S Y (x_X1_passDay (l := l) I hW hT hQ) cw_X1_passDay km11_154 (I.opo (k := 5) (j := 0) (by decide) rfl).choose_spec.1 ok_X1.1 rfl rfl ⟨Nat.le_of_ble_eq_true rfl, Nat.le_of_ble_eq_true rfl⟩ hl.1 rfl (Nat.le_of_ble_eq_true rfl) ⟨Nat.le_of_ble_eq_true rfl, Nat.le_of_ble_eq_true rfl⟩ dX11_day_41 (fun r_67682 L_67680 f_67681 H locs hr_67682 Y => ?_)
        obtain ⟨er_67682, I⟩ := hr_67682
        refine lv_pop hx hb dX11_day_44 rfl ?_
        obtain ⟨x_67683, ex_67683⟩ : ∃ z : Int32, z = y32_2 + 1 := ⟨_, rfl⟩
        refine lv_iinc (v := x_67683) (lv' := [(2, .int x_67683), (0, .ref (ad 0 0)), (1, .int i1)]) hx hb dX11_day_45 hl (k := 2) rfl (by rw [ex_67683]; rfl) (by decide) rfl (fun ls hl => ?_)
        refine lv_goto (tgt := 32) hx hb dX11_day_48 (by decide) ?_
        exact ih32 _ (by rw [← hm32]; exact ms_up (m := 1) ex_67683 (show bn 1 1 (1 : Int32) from bn_k (by decide)) B_67659 (bn_w (bn_eq ex_67683 (bn_add B_67659 (show bn 1 1 (1 : Int32) from bn_k (by decide)) (by decide))) (by decide) : bn 0 2147483647 x_67683) (by decide)) x_67683 _ _  _ _ _ I (bn_w (bn_eq ex_67683 (bn_add B_67659 (show bn 1 1 (1 : Int32) from bn_k (by decide)) (by decide))) (by decide)) rfl Y (lv_sub hl [1, 2, 0] rfl)
  refine lv_iload_n hx hb dX11_day_0 rfl (lv_at hl 1 rfl) ?_
  refine lv_iconst (v := 1) hx hb dX11_day_1 (by decide) ?_
  refine lv_bipush (v := 60) hx hb dX11_day_2 (by decide) ?_
  refine cSp (As := [.int i1, .int 1, .int 60]) (rest := []) S Y (x_X11_within (l := l) ) cw_X11_within km11_146 rfl ⟨Nat.le_of_ble_eq_true rfl, Nat.le_of_ble_eq_true rfl⟩ hl.1 rfl (Nat.le_of_ble_eq_true rfl) ⟨Nat.le_of_ble_eq_true rfl, Nat.le_of_ble_eq_true rfl⟩ dX11_day_4 (fun r_67684 H locs er_67684 Y => ?_)
  refine lv_if_eq (tgt := 28) hx hb dX11_day_7 (by decide) (fun c_67685 => ?_) (fun c_67685 => ?_)
  · have B_67686 : bn 0 0 r_67684 := bn_w (bn_eq c_67685 (show bn 0 0 (0 : Int32) from bn_k (by decide))) (by decide)
    refine lv_iconst (v := (-1)) hx hb dX11_day_28 (by decide) ?_
    exact prI (post := fun r L1 f1 => SH (spC (NR 30 0 4) ((0, 6) : Int × Int) tc w q) nnC G ad L1 f1) S Y rfl (by decide) (by decide) hA1 I dX11_day_29
  · have B_67687 : bn 1 1 r_67684 := bn_w (bn_nel c_67685 er_67684 (show bn 0 0 (0 : Int32) from bn_k (by decide))) (by decide)
    refine lv_aload_n hx hb dX11_day_10 rfl (lv_at hl 0 rfl) ?_
    have p_ad_0_0 := opnC_0 (j := 0) I (by decide)
    have p_ad_0_0 : pt L f (ad 0 0) (.inr (11, [.ref (ad 1 0), .ref (ad 1 1), .ref (ad 2 0), .ref (ad 3 0), .ref (ad 4 0), .ref (ad 5 0), .ref (ad 6 0), .ref (ad 7 0), .ref (ad 8 0)])) := p_ad_0_0
    refine pg_get S Y ok_X11 0 (by decide) kf11_13 (v := .ref (ad 1 0)) p_ad_0_0 rfl dX11_day_11 ?_
    obtain ⟨v_67688, v_67690, v_67692, v_67694, v_67696, p_ad_1_0, b_67689, b_67691, b_67693, b_67695, b_67697⟩ := opnC_1 (j := 0) I (by decide)
    have p_ad_1_0 : pt L f (ad 1 0) (.inr (10, [.ref (ad 40 0), .ref (ad 41 0), .ref (ad 42 0), .ref (ad 10 0), .ref (ad 43 0), .ref (ad 20 0), .ref (ad 20 1), .ref (ad 20 2), .ref (ad 20 3), .ref (ad 20 4), .int v_67688, .int v_67690, .int v_67692, .int v_67694, .int v_67696])) := p_ad_1_0
    refine pg_getN S Y ok_X10 3 (by decide) kf11_131 (v := .ref (ad 10 0)) p_ad_1_0 rfl dX11_day_14 ?_
    obtain ⟨v_67698, v_67700, v_67702, v_67704, v_67706, p_ad_10_0, b_67699, b_67701, b_67703, b_67705, b_67707⟩ := opnC_10 (j := 0) I (by decide)
    have p_ad_10_0 : pt L f (ad 10 0) (.inr (4, [.ref (ad 11 0), .ref (ad 12 0), .int v_67698, .int v_67700, .int v_67702, .int v_67704, .int v_67706])) := p_ad_10_0
    refine pg_getN S Y ok_X4 4 (by decide) kf11_150 (v := .int v_67702) p_ad_10_0 rfl dX11_day_17 ?_
    refine lv_iload_n hx hb dX11_day_20 rfl (lv_at hl 1 rfl) ?_
    refine lv_iadd hx hb dX11_day_21 ?_
    refine lv_topi (fun x_67708 ex_67708 => ?_)
    refine lv_sipush (v := 9999) hx hb dX11_day_22 (by decide) ?_
    refine lv_icmp_le (tgt := 30) hx hb dX11_day_25 (by decide) (fun c_67709 => ?_) (fun c_67709 => ?_)
    · have B_67710 : bn (-2147483648) 9999 x_67708 := bn_w (bn_lel c_67709 (bn_any x_67708) (show bn 9999 9999 (9999 : Int32) from bn_k (by decide))) (by decide)
      refine lv_iconst (v := 0) hx hb dX11_day_30 (by decide) ?_
      refine lv_istore_n (lv' := [(2, .int 0), (0, .ref (ad 0 0)), (1, .int i1)]) hx hb dX11_day_31 rfl hl (by decide) rfl (fun ls hl => ?_)
      exact J_32 _ 0 _ _  _ _ _ I (bn_w (show bn 0 0 (0 : Int32) from bn_k (by decide)) (by decide)) rfl Y (lv_sub hl [1, 2, 0] rfl)
    · have B_67711 : bn 10000 2147483647 x_67708 := bn_w (bn_gtl c_67709 (bn_any x_67708) (show bn 9999 9999 (9999 : Int32) from bn_k (by decide))) (by decide)
      refine lv_iconst (v := (-1)) hx hb dX11_day_28 (by decide) ?_
      exact prI (post := fun r L1 f1 => SH (spC (NR 30 0 4) ((0, 6) : Int × Int) tc w q) nnC G ad L1 f1) S Y rfl (by decide) (by decide) hA1 I dX11_day_29
set_option maxHeartbeats 4000000 in
set_option maxRecDepth 100000 in
theorem x_X11_played {l : Launch} {G : GG}  {L : List Nat} {f : HF} {ad : Nat → Nat → Nat} {tc w : Nat → Int × Int} {q : Nat → (Nat → Int32) → Prop} {i1 : Int32} (I : SH (spC (NR 30 0 4) ((0, 6) : Int × Int) tc w q) nnC G ad L f) (hW : WBp w 8) (hT : WBp tc 4) (hQ : QIp q) (hZ : ZZp w q) (hE : ∀ j, (tc j).1 = (tc j).2) : PMi l yX11_played cX11_played 4 .int 7 0 0 G [.ref (ad 0 0), .int i1] L f (fun r L1 f1 => SH (spC (NR 30 0 4) ((0, 6) : Int × Int) tc w q) nnC G ad L1 f1) := by
  refine PMi.of (post := fun r L1 f1 => SH (spC (NR 30 0 4) ((0, 6) : Int × Int) tc w q) nnC G ad L1 f1) (own := RX11) (by decide) rfl (Nat.le_of_ble_eq_true rfl) (fun sz p e s m args below meth c A ls hA1 hname S Y hl => ?_)
  have hx := S.hx
  have hb := S.hb
  have hl : lv_has ls 4 [(0, .ref (ad 0 0)), (1, .int i1)] := hl
  have J_18 : ∀ (n18 : Nat) (y18_3 : Int32) (u18_2 : Nat) (L_18 : List Nat) (f_18 : HF) (H : Heap) (locs : List Loc) (ls : Array Slot), (SH (spC (NR 30 0 4) ((0, 6) : Int × Int) tc w q) nnC G ad L_18 f_18) → (u18_2 < 8) → (bn 0 24 y18_3) → (((24 : Int) - y18_3.toInt).toNat = n18) → (DY G A s [] L_18 f_18 H locs) → (lv_has ls 4 [(0, .ref (ad 0 0)), (1, .int i1), (2, .ref (ad 30 u18_2)), (3, .int y18_3)]) → W p l e (rmD 7 0 0) s m args below meth c H locs (0) (0) (MQ below (va_Qi (fun r (u : List Nat × HF) => (fun r L1 f1 => SH (spC (NR 30 0 4) ((0, 6) : Int × Int) tc w q) nnC G ad L1 f1) r u.1 u.2) (fun u t => pOut G (va_A (va_pl L f) sz) u.1 u.2 t) (va_A (va_pl L f) sz)) args s 0 0 A) (F0 m 18 ls []) := by
    intro n18
    induction n18 using Nat.strongRecOn with
    | _ n18 ih18 =>
      intro y18_3 u18_2 L_18 f_18 H locs ls I hu18_2 b_y18_3 hm18 Y hl
      refine lv_iload_n hx hb dX11_played_18 rfl (lv_at hl 3 rfl) ?_
      refine lv_aload_n hx hb dX11_played_19 rfl (lv_at hl 2 rfl) ?_
      obtain ⟨v_67954, v_67956, p_ad_30_u18_2, b_67955, b_67957⟩ := opnC_30 (j := u18_2) I hu18_2
      have p_ad_30_u18_2 : pt L_18 f_18 (ad 30 u18_2) (.inr (7, [.ref (ad 31 u18_2), .ref (ad 32 u18_2), .ref (ad 33 u18_2), .ref (ad 34 u18_2), .ref (ad 35 u18_2), .int v_67954, .int v_67956])) := p_ad_30_u18_2
      refine pg_getN S Y ok_X7 6 (by decide) kf11_165 (v := .int v_67956) p_ad_30_u18_2 rfl dX11_played_20 ?_
      refine lv_icmp_ge (tgt := 46) hx hb dX11_played_23 (by decide) (fun c_67958 => ?_) (fun c_67958 => ?_)
      · refine lv_iconst (v := (-1)) hx hb dX11_played_46 (by decide) ?_
        exact prI (post := fun r L1 f1 => SH (spC (NR 30 0 4) ((0, 6) : Int × Int) tc w q) nnC G ad L1 f1) S Y rfl (by decide) (by decide) hA1 I dX11_played_47
      · have B_67959 : bn 1 24 v_67956 := bn_w (bn_gtl c_67958 b_67957 b_y18_3) (by decide)
        have B_67960 : bn 0 23 y18_3 := bn_w (bn_gtr c_67958 b_67957 b_y18_3) (by decide)
        refine lv_aload_n hx hb dX11_played_26 rfl (lv_at hl 0 rfl) ?_
        have p_ad_0_0 := opnC_0 (j := 0) I (by decide)
        have p_ad_0_0 : pt L_18 f_18 (ad 0 0) (.inr (11, [.ref (ad 1 0), .ref (ad 1 1), .ref (ad 2 0), .ref (ad 3 0), .ref (ad 4 0), .ref (ad 5 0), .ref (ad 6 0), .ref (ad 7 0), .ref (ad 8 0)])) := p_ad_0_0
        refine pg_get S Y ok_X11 5 (by decide) kf11_50 (v := .ref (ad 5 0)) p_ad_0_0 rfl dX11_played_27 ?_
        refine lv_aload_n hx hb dX11_played_30 rfl (lv_at hl 2 rfl) ?_
        refine lv_iload_n hx hb dX11_played_31 rfl (lv_at hl 3 rfl) ?_
        refine cVi (As := [.ref (ad 30 u18_2), .int y18_3]) (rest := []) S Y (x_X1_perform (l := l) (j := u18_2) I hW hT hQ hu18_2) cw_X1_perform km11_170 (I.opo (k := 5) (j := 0) (by decide) rfl).choose_spec.1 ok_X1.1 rfl rfl ⟨Nat.le_of_ble_eq_true rfl, Nat.le_of_ble_eq_true rfl⟩ hl.1 rfl (Nat.le_of_ble_eq_true rfl) ⟨Nat.le_of_ble_eq_true rfl, Nat.le_of_ble_eq_true rfl⟩ dX11_played_32 (fun r_67963 L_67961 f_67962 H locs hr_67963 Y => ?_)
        obtain ⟨er_67963, I⟩ := hr_67963
        refine lv_if_ne (tgt := 40) hx hb dX11_played_35 (by decide) (fun c_67964 => ?_) (fun c_67964 => ?_)
        · have B_67965 : bn 1 1 r_67963 := bn_w (bn_nel c_67964 er_67963 (show bn 0 0 (0 : Int32) from bn_k (by decide))) (by decide)
          obtain ⟨x_67967, ex_67967⟩ : ∃ z : Int32, z = y18_3 + 1 := ⟨_, rfl⟩
          refine lv_iinc (v := x_67967) (lv' := [(3, .int x_67967), (0, .ref (ad 0 0)), (1, .int i1), (2, .ref (ad 30 u18_2))]) hx hb dX11_played_40 hl (k := 3) rfl (by rw [ex_67967]; rfl) (by decide) rfl (fun ls hl => ?_)
          refine lv_goto (tgt := 18) hx hb dX11_played_43 (by decide) ?_
          exact ih18 _ (by rw [← hm18]; exact ms_up (m := 1) ex_67967 (show bn 1 1 (1 : Int32) from bn_k (by decide)) B_67960 (bn_w (bn_eq ex_67967 (bn_add B_67960 (show bn 1 1 (1 : Int32) from bn_k (by decide)) (by decide))) (by decide) : bn 0 24 x_67967) (by decide)) x_67967 u18_2 _ _  _ _ _ I hu18_2 (bn_w (bn_eq ex_67967 (bn_add B_67960 (show bn 1 1 (1 : Int32) from bn_k (by decide)) (by decide))) (by decide)) rfl Y (lv_sub hl [1, 2, 3, 0] rfl)
        · have B_67966 : bn 0 0 r_67963 := bn_w (bn_eq c_67964 (show bn 0 0 (0 : Int32) from bn_k (by decide))) (by decide)
          refine lv_iload_n hx hb dX11_played_38 rfl (lv_at hl 3 rfl) ?_
          exact prI (post := fun r L1 f1 => SH (spC (NR 30 0 4) ((0, 6) : Int × Int) tc w q) nnC G ad L1 f1) S Y rfl (by decide) (by decide) hA1 I dX11_played_39
  refine lv_aload_n hx hb dX11_played_0 rfl (lv_at hl 0 rfl) ?_
  have p_ad_0_0 := opnC_0 (j := 0) I (by decide)
  have p_ad_0_0 : pt L f (ad 0 0) (.inr (11, [.ref (ad 1 0), .ref (ad 1 1), .ref (ad 2 0), .ref (ad 3 0), .ref (ad 4 0), .ref (ad 5 0), .ref (ad 6 0), .ref (ad 7 0), .ref (ad 8 0)])) := p_ad_0_0
  refine pg_get S Y ok_X11 0 (by decide) kf11_13 (v := .ref (ad 1 0)) p_ad_0_0 rfl dX11_played_1 ?_
  refine lv_iload_n hx hb dX11_played_4 rfl (lv_at hl 1 rfl) ?_
  refine cVw (As := [.int i1]) (rest := []) S Y (x_X10_script (l := l) I hW hT hQ) cw_X10_script km11_161 (I.opo (k := 1) (j := 0) (by decide) rfl).choose_spec.1 ok_X10.1 rfl rfl ⟨Nat.le_of_ble_eq_true rfl, Nat.le_of_ble_eq_true rfl⟩ hl.1 rfl (Nat.le_of_ble_eq_true rfl) ⟨Nat.le_of_ble_eq_true rfl, Nat.le_of_ble_eq_true rfl⟩ dX11_played_5 (fun r_67968 H locs er_67968 Y => ?_)
  rcases er_67968 with er_67968 | ⟨t_67969, ht_67969, er_67968⟩
  · rw [er_67968]
    show W _ _ _ _ _ _ _ _ _ _ _ _ _ _ _ (F0 _ _ _ (.null :: _))
    refine lv_astore_nN (lv' := [(2, .null), (0, .ref (ad 0 0)), (1, .int i1)]) hx hb dX11_played_8 rfl hl (by decide) rfl (fun ls hl => ?_)
    refine lv_aload_nN hx hb dX11_played_9 rfl (lv_at hl 0 rfl) ?_
    refine lv_ifnonnullN hx hb dX11_played_10 ?_
    refine lv_bipush (v := (-2)) hx hb dX11_played_13 (by decide) ?_
    exact prI (post := fun r L1 f1 => SH (spC (NR 30 0 4) ((0, 6) : Int × Int) tc w q) nnC G ad L1 f1) S Y rfl (by decide) (by decide) hA1 I dX11_played_15
  · rw [er_67968]
    have e9 : 0 + t_67969 = t_67969 := Nat.zero_add _
    rw [e9]
    show W _ _ _ _ _ _ _ _ _ _ _ _ _ _ _ (F0 _ _ _ (.ref (ad 30 t_67969) :: _))
    refine lv_astore_n (lv' := [(2, .ref (ad 30 t_67969)), (0, .ref (ad 0 0)), (1, .int i1)]) hx hb dX11_played_8 rfl hl (by decide) rfl (fun ls hl => ?_)
    refine lv_aload_n hx hb dX11_played_9 rfl (lv_at hl 0 rfl) ?_
    refine lv_ifnonnull (tgt := 16) hx hb dX11_played_10 (by decide) ?_
    refine lv_iconst (v := 0) hx hb dX11_played_16 (by decide) ?_
    refine lv_istore_n (lv' := [(3, .int 0), (2, .ref (ad 30 t_67969)), (0, .ref (ad 0 0)), (1, .int i1)]) hx hb dX11_played_17 rfl hl (by decide) rfl (fun ls hl => ?_)
    exact J_18 _ 0 t_67969 _ _  _ _ _ I (show t_67969 < 8 from by omega) (bn_w (show bn 0 0 (0 : Int32) from bn_k (by decide)) (by decide)) rfl Y (lv_sub hl [2, 3, 1, 0] rfl)
set_option maxHeartbeats 4000000 in
set_option maxRecDepth 100000 in
theorem x_X11_years {l : Launch} {G : GG}  {L : List Nat} {f : HF} {ad : Nat → Nat → Nat} {tc w : Nat → Int × Int} {q : Nat → (Nat → Int32) → Prop} {i1 i2 : Int32} (I : SH (spC (NR 30 0 4) ((0, 6) : Int × Int) tc w q) nnC G ad L f) (hW : WBp w 8) (hT : WBp tc 4) (hQ : QIp q) (hZ : ZZp w q) (hE : ∀ j, (tc j).1 = (tc j).2) : PMi l yX11_years cX11_years 4 .int 7 0 0 G [.ref (ad 0 0), .int i1, .int i2] L f (fun r L1 f1 => SH (spC (NR 30 0 4) ((0, 6) : Int × Int) tc w q) nnC G ad L1 f1) := by
  refine PMi.of (post := fun r L1 f1 => SH (spC (NR 30 0 4) ((0, 6) : Int × Int) tc w q) nnC G ad L1 f1) (own := RX11) (by decide) rfl (Nat.le_of_ble_eq_true rfl) (fun sz p e s m args below meth c A ls hA1 hname S Y hl => ?_)
  have hx := S.hx
  have hb := S.hb
  have hl : lv_has ls 4 [(0, .ref (ad 0 0)), (1, .int i1), (2, .int i2)] := hl
  have J_43 : ∀ (n43 : Nat) (y43_3 : Int32) (L_43 : List Nat) (f_43 : HF) (H : Heap) (locs : List Loc) (ls : Array Slot), (SH (spC (NR 30 0 4) ((0, 6) : Int × Int) tc w q) nnC G ad L_43 f_43) → (bn 0 2147483647 y43_3) → (((2147483647 : Int) - y43_3.toInt).toNat = n43) → (DY G A s [] L_43 f_43 H locs) → (lv_has ls 4 [(0, .ref (ad 0 0)), (1, .int i1), (2, .int i2), (3, .int y43_3)]) → W p l e (rmD 7 0 0) s m args below meth c H locs (0) (0) (MQ below (va_Qi (fun r (u : List Nat × HF) => (fun r L1 f1 => SH (spC (NR 30 0 4) ((0, 6) : Int × Int) tc w q) nnC G ad L1 f1) r u.1 u.2) (fun u t => pOut G (va_A (va_pl L f) sz) u.1 u.2 t) (va_A (va_pl L f) sz)) args s 0 0 A) (F0 m 43 ls []) := by
    intro n43
    induction n43 using Nat.strongRecOn with
    | _ n43 ih43 =>
      intro y43_3 L_43 f_43 H locs ls I b_y43_3 hm43 Y hl
      refine lv_iload_n hx hb dX11_years_43 rfl (lv_at hl 3 rfl) ?_
      refine lv_iload_n hx hb dX11_years_44 rfl (lv_at hl 2 rfl) ?_
      refine lv_icmp_ge (tgt := 61) hx hb dX11_years_45 (by decide) (fun c_69444 => ?_) (fun c_69444 => ?_)
      · refine lv_aload_n hx hb dX11_years_61 rfl (lv_at hl 0 rfl) ?_
        have p_ad_0_0 := opnC_0 (j := 0) I (by decide)
        have p_ad_0_0 : pt L_43 f_43 (ad 0 0) (.inr (11, [.ref (ad 1 0), .ref (ad 1 1), .ref (ad 2 0), .ref (ad 3 0), .ref (ad 4 0), .ref (ad 5 0), .ref (ad 6 0), .ref (ad 7 0), .ref (ad 8 0)])) := p_ad_0_0
        refine pg_get S Y ok_X11 5 (by decide) kf11_50 (v := .ref (ad 5 0)) p_ad_0_0 rfl dX11_years_62 ?_
        refine cVv (As := []) (rest := []) S Y (x_X1_endYears (l := l) I hW hT hQ) cw_X1_endYears km11_183 (I.opo (k := 5) (j := 0) (by decide) rfl).choose_spec.1 ok_X1.1 rfl rfl ⟨Nat.le_of_ble_eq_true rfl, Nat.le_of_ble_eq_true rfl⟩ hl.1 rfl (Nat.le_of_ble_eq_true rfl) ⟨Nat.le_of_ble_eq_true rfl, Nat.le_of_ble_eq_true rfl⟩ dX11_years_65 (fun L_69447 f_69448 H locs I Y => ?_)
        refine lv_aload_n hx hb dX11_years_68 rfl (lv_at hl 0 rfl) ?_
        have p_ad_0_0 := opnC_0 (j := 0) I (by decide)
        have p_ad_0_0 : pt L_69447 f_69448 (ad 0 0) (.inr (11, [.ref (ad 1 0), .ref (ad 1 1), .ref (ad 2 0), .ref (ad 3 0), .ref (ad 4 0), .ref (ad 5 0), .ref (ad 6 0), .ref (ad 7 0), .ref (ad 8 0)])) := p_ad_0_0
        refine pg_get S Y ok_X11 0 (by decide) kf11_13 (v := .ref (ad 1 0)) p_ad_0_0 rfl dX11_years_69 ?_
        obtain ⟨v_69449, v_69451, v_69453, v_69455, v_69457, p_ad_1_0, b_69450, b_69452, b_69454, b_69456, b_69458⟩ := opnC_1 (j := 0) I (by decide)
        have p_ad_1_0 : pt L_69447 f_69448 (ad 1 0) (.inr (10, [.ref (ad 40 0), .ref (ad 41 0), .ref (ad 42 0), .ref (ad 10 0), .ref (ad 43 0), .ref (ad 20 0), .ref (ad 20 1), .ref (ad 20 2), .ref (ad 20 3), .ref (ad 20 4), .int v_69449, .int v_69451, .int v_69453, .int v_69455, .int v_69457])) := p_ad_1_0
        refine pg_getN S Y ok_X10 3 (by decide) kf11_131 (v := .ref (ad 10 0)) p_ad_1_0 rfl dX11_years_72 ?_
        obtain ⟨v_69459, v_69461, v_69463, v_69465, v_69467, p_ad_10_0, b_69460, b_69462, b_69464, b_69466, b_69468⟩ := opnC_10 (j := 0) I (by decide)
        have p_ad_10_0 : pt L_69447 f_69448 (ad 10 0) (.inr (4, [.ref (ad 11 0), .ref (ad 12 0), .int v_69459, .int v_69461, .int v_69463, .int v_69465, .int v_69467])) := p_ad_10_0
        refine pg_getN S Y ok_X4 4 (by decide) kf11_150 (v := .int v_69463) p_ad_10_0 rfl dX11_years_75 ?_
        exact prI (post := fun r L1 f1 => SH (spC (NR 30 0 4) ((0, 6) : Int × Int) tc w q) nnC G ad L1 f1) S Y rfl (by decide) (by decide) hA1 I dX11_years_78
      · have B_69445 : bn 1 2147483647 i2 := bn_w (bn_gtl c_69444 (bn_any i2) b_y43_3) (by decide)
        have B_69446 : bn 0 2147483646 y43_3 := bn_w (bn_gtr c_69444 (bn_any i2) b_y43_3) (by decide)
        refine lv_aload_n hx hb dX11_years_48 rfl (lv_at hl 0 rfl) ?_
        have p_ad_0_0 := opnC_0 (j := 0) I (by decide)
        have p_ad_0_0 : pt L_43 f_43 (ad 0 0) (.inr (11, [.ref (ad 1 0), .ref (ad 1 1), .ref (ad 2 0), .ref (ad 3 0), .ref (ad 4 0), .ref (ad 5 0), .ref (ad 6 0), .ref (ad 7 0), .ref (ad 8 0)])) := p_ad_0_0
        refine pg_get S Y ok_X11 5 (by decide) kf11_50 (v := .ref (ad 5 0)) p_ad_0_0 rfl dX11_years_49 ?_
        refine cVv (As := []) (rest := []) S Y (x_X1_liveOn (l := l) I hW hT hQ) cw_X1_liveOn km11_180 (I.opo (k := 5) (j := 0) (by decide) rfl).choose_spec.1 ok_X1.1 rfl rfl ⟨Nat.le_of_ble_eq_true rfl, Nat.le_of_ble_eq_true rfl⟩ hl.1 rfl (Nat.le_of_ble_eq_true rfl) ⟨Nat.le_of_ble_eq_true rfl, Nat.le_of_ble_eq_true rfl⟩ dX11_years_52 (fun L_69469 f_69470 H locs I Y => ?_)
        obtain ⟨x_69471, ex_69471⟩ : ∃ z : Int32, z = y43_3 + 1 := ⟨_, rfl⟩
        refine lv_iinc (v := x_69471) (lv' := [(3, .int x_69471), (0, .ref (ad 0 0)), (1, .int i1), (2, .int i2)]) hx hb dX11_years_55 hl (k := 3) rfl (by rw [ex_69471]; rfl) (by decide) rfl (fun ls hl => ?_)
        refine lv_goto (tgt := 43) hx hb dX11_years_58 (by decide) ?_
        exact ih43 _ (by rw [← hm43]; exact ms_up (m := 1) ex_69471 (show bn 1 1 (1 : Int32) from bn_k (by decide)) B_69446 (bn_w (bn_eq ex_69471 (bn_add B_69446 (show bn 1 1 (1 : Int32) from bn_k (by decide)) (by decide))) (by decide) : bn 0 2147483647 x_69471) (by decide)) x_69471 _ _  _ _ _ I (bn_w (bn_eq ex_69471 (bn_add B_69446 (show bn 1 1 (1 : Int32) from bn_k (by decide)) (by decide))) (by decide)) rfl Y (lv_sub hl [1, 2, 3, 0] rfl)
  refine lv_iload_n hx hb dX11_years_0 rfl (lv_at hl 1 rfl) ?_
  refine lv_iconst (v := 0) hx hb dX11_years_1 (by decide) ?_
  refine lv_sipush (v := 9999) hx hb dX11_years_2 (by decide) ?_
  refine cSp (As := [.int i1, .int 0, .int 9999]) (rest := []) S Y (x_X11_within (l := l) ) cw_X11_within km11_146 rfl ⟨Nat.le_of_ble_eq_true rfl, Nat.le_of_ble_eq_true rfl⟩ hl.1 rfl (Nat.le_of_ble_eq_true rfl) ⟨Nat.le_of_ble_eq_true rfl, Nat.le_of_ble_eq_true rfl⟩ dX11_years_5 (fun r_69472 H locs er_69472 Y => ?_)
  refine lv_if_eq (tgt := 31) hx hb dX11_years_8 (by decide) (fun c_69473 => ?_) (fun c_69473 => ?_)
  · have B_69474 : bn 0 0 r_69472 := bn_w (bn_eq c_69473 (show bn 0 0 (0 : Int32) from bn_k (by decide))) (by decide)
    refine lv_iconst (v := (-1)) hx hb dX11_years_31 (by decide) ?_
    exact prI (post := fun r L1 f1 => SH (spC (NR 30 0 4) ((0, 6) : Int × Int) tc w q) nnC G ad L1 f1) S Y rfl (by decide) (by decide) hA1 I dX11_years_32
  · have B_69475 : bn 1 1 r_69472 := bn_w (bn_nel c_69473 er_69472 (show bn 0 0 (0 : Int32) from bn_k (by decide))) (by decide)
    refine lv_iload_n hx hb dX11_years_11 rfl (lv_at hl 2 rfl) ?_
    refine lv_iconst (v := 1) hx hb dX11_years_12 (by decide) ?_
    refine lv_bipush (v := 40) hx hb dX11_years_13 (by decide) ?_
    refine cSp (As := [.int i2, .int 1, .int 40]) (rest := []) S Y (x_X11_within (l := l) ) cw_X11_within km11_146 rfl ⟨Nat.le_of_ble_eq_true rfl, Nat.le_of_ble_eq_true rfl⟩ hl.1 rfl (Nat.le_of_ble_eq_true rfl) ⟨Nat.le_of_ble_eq_true rfl, Nat.le_of_ble_eq_true rfl⟩ dX11_years_15 (fun r_69476 H locs er_69476 Y => ?_)
    refine lv_if_eq (tgt := 31) hx hb dX11_years_18 (by decide) (fun c_69477 => ?_) (fun c_69477 => ?_)
    · have B_69478 : bn 0 0 r_69476 := bn_w (bn_eq c_69477 (show bn 0 0 (0 : Int32) from bn_k (by decide))) (by decide)
      refine lv_iconst (v := (-1)) hx hb dX11_years_31 (by decide) ?_
      exact prI (post := fun r L1 f1 => SH (spC (NR 30 0 4) ((0, 6) : Int × Int) tc w q) nnC G ad L1 f1) S Y rfl (by decide) (by decide) hA1 I dX11_years_32
    · have B_69479 : bn 1 1 r_69476 := bn_w (bn_nel c_69477 er_69476 (show bn 0 0 (0 : Int32) from bn_k (by decide))) (by decide)
      refine lv_aload_n hx hb dX11_years_21 rfl (lv_at hl 0 rfl) ?_
      have p_ad_0_0 := opnC_0 (j := 0) I (by decide)
      have p_ad_0_0 : pt L f (ad 0 0) (.inr (11, [.ref (ad 1 0), .ref (ad 1 1), .ref (ad 2 0), .ref (ad 3 0), .ref (ad 4 0), .ref (ad 5 0), .ref (ad 6 0), .ref (ad 7 0), .ref (ad 8 0)])) := p_ad_0_0
      refine pg_get S Y ok_X11 0 (by decide) kf11_13 (v := .ref (ad 1 0)) p_ad_0_0 rfl dX11_years_22 ?_
      obtain ⟨v_69480, v_69482, v_69484, v_69486, v_69488, p_ad_1_0, b_69481, b_69483, b_69485, b_69487, b_69489⟩ := opnC_1 (j := 0) I (by decide)
      have p_ad_1_0 : pt L f (ad 1 0) (.inr (10, [.ref (ad 40 0), .ref (ad 41 0), .ref (ad 42 0), .ref (ad 10 0), .ref (ad 43 0), .ref (ad 20 0), .ref (ad 20 1), .ref (ad 20 2), .ref (ad 20 3), .ref (ad 20 4), .int v_69480, .int v_69482, .int v_69484, .int v_69486, .int v_69488])) := p_ad_1_0
      refine pg_getN S Y ok_X10 10 (by decide) kf11_174 (v := .int v_69480) p_ad_1_0 rfl dX11_years_25 ?_
      refine lv_if_ne (tgt := 33) hx hb dX11_years_28 (by decide) (fun c_69490 => ?_) (fun c_69490 => ?_)
      · have B_69491 : bn 1 6 v_69480 := bn_w (bn_nel c_69490 b_69481 (show bn 0 0 (0 : Int32) from bn_k (by decide))) (by decide)
        refine lv_aload_n hx hb dX11_years_33 rfl (lv_at hl 0 rfl) ?_
        refine pg_get S Y ok_X11 5 (by decide) kf11_50 (v := .ref (ad 5 0)) p_ad_0_0 rfl dX11_years_34 ?_
        refine lv_iload_n hx hb dX11_years_37 rfl (lv_at hl 1 rfl) ?_
        refine cVv (As := [.int i1]) (rest := []) S Y (x_X1_beginYears (l := l) I hW hT hQ) cw_X1_beginYears km11_177 (I.opo (k := 5) (j := 0) (by decide) rfl).choose_spec.1 ok_X1.1 rfl rfl ⟨Nat.le_of_ble_eq_true rfl, Nat.le_of_ble_eq_true rfl⟩ hl.1 rfl (Nat.le_of_ble_eq_true rfl) ⟨Nat.le_of_ble_eq_true rfl, Nat.le_of_ble_eq_true rfl⟩ dX11_years_38 (fun L_69493 f_69494 H locs I Y => ?_)
        refine lv_iconst (v := 0) hx hb dX11_years_41 (by decide) ?_
        refine lv_istore_n (lv' := [(3, .int 0), (0, .ref (ad 0 0)), (1, .int i1), (2, .int i2)]) hx hb dX11_years_42 rfl hl (by decide) rfl (fun ls hl => ?_)
        exact J_43 _ 0 _ _  _ _ _ I (bn_w (show bn 0 0 (0 : Int32) from bn_k (by decide)) (by decide)) rfl Y (lv_sub hl [1, 2, 3, 0] rfl)
      · have B_69492 : bn 0 0 v_69480 := bn_w (bn_eq c_69490 (show bn 0 0 (0 : Int32) from bn_k (by decide))) (by decide)
        refine lv_iconst (v := (-1)) hx hb dX11_years_31 (by decide) ?_
        exact prI (post := fun r L1 f1 => SH (spC (NR 30 0 4) ((0, 6) : Int × Int) tc w q) nnC G ad L1 f1) S Y rfl (by decide) (by decide) hA1 I dX11_years_32
set_option maxHeartbeats 4000000 in
set_option maxRecDepth 100000 in
theorem x_X11_undo {l : Launch} {G : GG}  {L : List Nat} {f : HF} {ad : Nat → Nat → Nat} {tc w : Nat → Int × Int} {q : Nat → (Nat → Int32) → Prop} (I : SH (spC (NR 30 0 4) ((0, 6) : Int × Int) tc w q) nnC G ad L f) (hW : WBp w 8) (hT : WBp tc 4) (hQ : QIp q) (hZ : ZZp w q) (hE : ∀ j, (tc j).1 = (tc j).2) : PMi l yX11_undo cX11_undo 1 .int 3 0 0 G [.ref (ad 0 0)] L f (fun r L1 f1 => SH (spC (NR 30 0 4) ((0, 6) : Int × Int) tc w q) nnC G ad L1 f1) := by
  refine PMi.of (post := fun r L1 f1 => SH (spC (NR 30 0 4) ((0, 6) : Int × Int) tc w q) nnC G ad L1 f1) (own := RX11) (by decide) rfl (Nat.le_of_ble_eq_true rfl) (fun sz p e s m args below meth c A ls hA1 hname S Y hl => ?_)
  have hx := S.hx
  have hb := S.hb
  have hl : lv_has ls 1 [(0, .ref (ad 0 0))] := hl
  refine lv_aload_n hx hb dX11_undo_0 rfl (lv_at hl 0 rfl) ?_
  have p_ad_0_0 := opnC_0 (j := 0) I (by decide)
  have p_ad_0_0 : pt L f (ad 0 0) (.inr (11, [.ref (ad 1 0), .ref (ad 1 1), .ref (ad 2 0), .ref (ad 3 0), .ref (ad 4 0), .ref (ad 5 0), .ref (ad 6 0), .ref (ad 7 0), .ref (ad 8 0)])) := p_ad_0_0
  refine pg_get S Y ok_X11 0 (by decide) kf11_13 (v := .ref (ad 1 0)) p_ad_0_0 rfl dX11_undo_1 ?_
  refine cVi (As := []) (rest := []) S Y (x_X10_takeBack (l := l) I hW hT hQ) cw_X10_takeBack km11_186 (I.opo (k := 1) (j := 0) (by decide) rfl).choose_spec.1 ok_X10.1 rfl rfl ⟨Nat.le_of_ble_eq_true rfl, Nat.le_of_ble_eq_true rfl⟩ hl.1 rfl (Nat.le_of_ble_eq_true rfl) ⟨Nat.le_of_ble_eq_true rfl, Nat.le_of_ble_eq_true rfl⟩ dX11_undo_4 (fun r_69529 L_69527 f_69528 H locs hr_69529 Y => ?_)
  obtain ⟨er_69529, I⟩ := hr_69529
  refine lv_if_eq (tgt := 20) hx hb dX11_undo_7 (by decide) (fun c_69530 => ?_) (fun c_69530 => ?_)
  · have B_69531 : bn 0 0 r_69529 := bn_w (bn_eq c_69530 (show bn 0 0 (0 : Int32) from bn_k (by decide))) (by decide)
    refine lv_iconst (v := (-1)) hx hb dX11_undo_20 (by decide) ?_
    exact prI (post := fun r L1 f1 => SH (spC (NR 30 0 4) ((0, 6) : Int × Int) tc w q) nnC G ad L1 f1) S Y rfl (by decide) (by decide) hA1 I dX11_undo_21
  · have B_69532 : bn 1 1 r_69529 := bn_w (bn_nel c_69530 er_69529 (show bn 0 0 (0 : Int32) from bn_k (by decide))) (by decide)
    refine lv_aload_n hx hb dX11_undo_10 rfl (lv_at hl 0 rfl) ?_
    have p_ad_0_0 := opnC_0 (j := 0) I (by decide)
    have p_ad_0_0 : pt L_69527 f_69528 (ad 0 0) (.inr (11, [.ref (ad 1 0), .ref (ad 1 1), .ref (ad 2 0), .ref (ad 3 0), .ref (ad 4 0), .ref (ad 5 0), .ref (ad 6 0), .ref (ad 7 0), .ref (ad 8 0)])) := p_ad_0_0
    refine pg_get S Y ok_X11 0 (by decide) kf11_13 (v := .ref (ad 1 0)) p_ad_0_0 rfl dX11_undo_11 ?_
    obtain ⟨v_69533, v_69535, v_69537, v_69539, v_69541, p_ad_1_0, b_69534, b_69536, b_69538, b_69540, b_69542⟩ := opnC_1 (j := 0) I (by decide)
    have p_ad_1_0 : pt L_69527 f_69528 (ad 1 0) (.inr (10, [.ref (ad 40 0), .ref (ad 41 0), .ref (ad 42 0), .ref (ad 10 0), .ref (ad 43 0), .ref (ad 20 0), .ref (ad 20 1), .ref (ad 20 2), .ref (ad 20 3), .ref (ad 20 4), .int v_69533, .int v_69535, .int v_69537, .int v_69539, .int v_69541])) := p_ad_1_0
    refine pg_getN S Y ok_X10 14 (by decide) kf11_189 (v := .int v_69541) p_ad_1_0 rfl dX11_undo_14 ?_
    refine lv_goto (tgt := 21) hx hb dX11_undo_17 (by decide) ?_
    exact prI (post := fun r L1 f1 => SH (spC (NR 30 0 4) ((0, 6) : Int × Int) tc w q) nnC G ad L1 f1) S Y rfl (by decide) (by decide) hA1 I dX11_undo_21
set_option maxHeartbeats 4000000 in
set_option maxRecDepth 100000 in
theorem x_X11_of {l : Launch} {G : GG}  {L : List Nat} {f : HF} {ad : Nat → Nat → Nat} {tc w : Nat → Int × Int} {q : Nat → (Nat → Int32) → Prop} {i1 i2 : Int32} (I : SH (spC (NR 30 0 4) ((0, 6) : Int × Int) tc w q) nnC G ad L f) (hW : WBp w 8) (hT : WBp tc 4) (hQ : QIp q) (hZ : ZZp w q) (hE : ∀ j, (tc j).1 = (tc j).2) : PMi l yX11_of cX11_of 3 .int 5 0 0 G [.ref (ad 0 0), .int i1, .int i2] L f (fun r L1 f1 => SH (spC (NR 30 0 4) ((0, 6) : Int × Int) tc w q) nnC G ad L1 f1) := by
  refine PMi.of (post := fun r L1 f1 => SH (spC (NR 30 0 4) ((0, 6) : Int × Int) tc w q) nnC G ad L1 f1) (own := RX11) (by decide) rfl (Nat.le_of_ble_eq_true rfl) (fun sz p e s m args below meth c A ls hA1 hname S Y hl => ?_)
  have hx := S.hx
  have hb := S.hb
  have hl : lv_has ls 3 [(0, .ref (ad 0 0)), (1, .int i1), (2, .int i2)] := hl
  refine lv_aload_n hx hb dX11_of_0 rfl (lv_at hl 0 rfl) ?_
  have p_ad_0_0 := opnC_0 (j := 0) I (by decide)
  have p_ad_0_0 : pt L f (ad 0 0) (.inr (11, [.ref (ad 1 0), .ref (ad 1 1), .ref (ad 2 0), .ref (ad 3 0), .ref (ad 4 0), .ref (ad 5 0), .ref (ad 6 0), .ref (ad 7 0), .ref (ad 8 0)])) := p_ad_0_0
  refine pg_get S Y ok_X11 0 (by decide) kf11_13 (v := .ref (ad 1 0)) p_ad_0_0 rfl dX11_of_1 ?_
  refine lv_iload_n hx hb dX11_of_4 rfl (lv_at hl 1 rfl) ?_
  refine cVp (As := [.int i1]) (rest := []) S Y (x_X10_has (l := l) I hW hT hQ) cw_X10_has km11_192 (I.opo (k := 1) (j := 0) (by decide) rfl).choose_spec.1 ok_X10.1 rfl rfl ⟨Nat.le_of_ble_eq_true rfl, Nat.le_of_ble_eq_true rfl⟩ hl.1 rfl (Nat.le_of_ble_eq_true rfl) ⟨Nat.le_of_ble_eq_true rfl, Nat.le_of_ble_eq_true rfl⟩ dX11_of_5 (fun r_69633 H locs er_69633 Y => ?_)
  refine lv_if_ne (tgt := 15) hx hb dX11_of_8 (by decide) (fun c_69634 => ?_) (fun c_69634 => ?_)
  · have B_69635 : bn 1 1 r_69633 := bn_w (bn_nel c_69634 er_69633 (show bn 0 0 (0 : Int32) from bn_k (by decide))) (by decide)
    refine lv_iload_n hx hb dX11_of_15 rfl (lv_at hl 2 rfl) ?_
    rcases sw_0_5 i2 with h_69637 | h_69637 | h_69637 | h_69637 | h_69637 | h_69637 | h_69637
    · refine lv_fold (z := 0) h_69637 ?_
      refine lv_tableIn (off := 40) (tgt := 56) hx hb dX11_of_16 (by decide) (by decide) (by decide) (by decide) ?_
      refine lv_aload_n hx hb dX11_of_56 rfl (lv_at hl 0 rfl) ?_
      refine pg_get S Y ok_X11 0 (by decide) kf11_13 (v := .ref (ad 1 0)) p_ad_0_0 rfl dX11_of_57 ?_
      refine lv_iload_n hx hb dX11_of_60 rfl (lv_at hl 1 rfl) ?_
      refine cVp (As := [.int i1]) (rest := []) S Y (x_X10_toughOf (l := l) I hW hT hQ) cw_X10_toughOf km11_195 (I.opo (k := 1) (j := 0) (by decide) rfl).choose_spec.1 ok_X10.1 rfl rfl ⟨Nat.le_of_ble_eq_true rfl, Nat.le_of_ble_eq_true rfl⟩ hl.1 rfl (Nat.le_of_ble_eq_true rfl) ⟨Nat.le_of_ble_eq_true rfl, Nat.le_of_ble_eq_true rfl⟩ dX11_of_61 (fun r_69638 H locs er_69638 Y => ?_)
      exact prI (post := fun r L1 f1 => SH (spC (NR 30 0 4) ((0, 6) : Int × Int) tc w q) nnC G ad L1 f1) S Y rfl (by decide) (by decide) hA1 I dX11_of_64
    · refine lv_fold (z := 1) h_69637 ?_
      refine lv_tableIn (off := 49) (tgt := 65) hx hb dX11_of_16 (by decide) (by decide) (by decide) (by decide) ?_
      refine lv_aload_n hx hb dX11_of_65 rfl (lv_at hl 0 rfl) ?_
      refine pg_get S Y ok_X11 0 (by decide) kf11_13 (v := .ref (ad 1 0)) p_ad_0_0 rfl dX11_of_66 ?_
      refine lv_iload_n hx hb dX11_of_69 rfl (lv_at hl 1 rfl) ?_
      refine cVp (As := [.int i1]) (rest := []) S Y (x_X10_ageOf (l := l) I hW hT hQ) cw_X10_ageOf km11_198 (I.opo (k := 1) (j := 0) (by decide) rfl).choose_spec.1 ok_X10.1 rfl rfl ⟨Nat.le_of_ble_eq_true rfl, Nat.le_of_ble_eq_true rfl⟩ hl.1 rfl (Nat.le_of_ble_eq_true rfl) ⟨Nat.le_of_ble_eq_true rfl, Nat.le_of_ble_eq_true rfl⟩ dX11_of_70 (fun r_69639 H locs er_69639 Y => ?_)
      exact prI (post := fun r L1 f1 => SH (spC (NR 30 0 4) ((0, 6) : Int × Int) tc w q) nnC G ad L1 f1) S Y rfl (by decide) (by decide) hA1 I dX11_of_73
    · refine lv_fold (z := 2) h_69637 ?_
      refine lv_tableIn (off := 58) (tgt := 74) hx hb dX11_of_16 (by decide) (by decide) (by decide) (by decide) ?_
      refine lv_aload_n hx hb dX11_of_74 rfl (lv_at hl 0 rfl) ?_
      refine pg_get S Y ok_X11 0 (by decide) kf11_13 (v := .ref (ad 1 0)) p_ad_0_0 rfl dX11_of_75 ?_
      obtain ⟨v_69640, v_69642, v_69644, v_69646, v_69648, p_ad_1_0, b_69641, b_69643, b_69645, b_69647, b_69649⟩ := opnC_1 (j := 0) I (by decide)
      have p_ad_1_0 : pt L f (ad 1 0) (.inr (10, [.ref (ad 40 0), .ref (ad 41 0), .ref (ad 42 0), .ref (ad 10 0), .ref (ad 43 0), .ref (ad 20 0), .ref (ad 20 1), .ref (ad 20 2), .ref (ad 20 3), .ref (ad 20 4), .int v_69640, .int v_69642, .int v_69644, .int v_69646, .int v_69648])) := p_ad_1_0
      refine pg_getN S Y ok_X10 3 (by decide) kf11_131 (v := .ref (ad 10 0)) p_ad_1_0 rfl dX11_of_78 ?_
      refine lv_iload_n hx hb dX11_of_81 rfl (lv_at hl 1 rfl) ?_
      refine cVp (As := [.int i1]) (rest := []) S Y (x_X4_marks (l := l) (j := 0) I hW hT hQ (by decide)) cw_X4_marks km11_135 (I.opo (k := 10) (j := 0) (by decide) rfl).choose_spec.1 ok_X4.1 rfl rfl ⟨Nat.le_of_ble_eq_true rfl, Nat.le_of_ble_eq_true rfl⟩ hl.1 rfl (Nat.le_of_ble_eq_true rfl) ⟨Nat.le_of_ble_eq_true rfl, Nat.le_of_ble_eq_true rfl⟩ dX11_of_82 (fun r_69650 H locs er_69650 Y => ?_)
      exact prI (post := fun r L1 f1 => SH (spC (NR 30 0 4) ((0, 6) : Int × Int) tc w q) nnC G ad L1 f1) S Y rfl (by decide) (by decide) hA1 I dX11_of_85
    · refine lv_fold (z := 3) h_69637 ?_
      refine lv_tableIn (off := 70) (tgt := 86) hx hb dX11_of_16 (by decide) (by decide) (by decide) (by decide) ?_
      refine lv_aload_n hx hb dX11_of_86 rfl (lv_at hl 0 rfl) ?_
      refine pg_get S Y ok_X11 3 (by decide) kf11_34 (v := .ref (ad 3 0)) p_ad_0_0 rfl dX11_of_87 ?_
      refine lv_aload_n hx hb dX11_of_90 rfl (lv_at hl 0 rfl) ?_
      refine pg_get S Y ok_X11 0 (by decide) kf11_13 (v := .ref (ad 1 0)) p_ad_0_0 rfl dX11_of_91 ?_
      obtain ⟨v_69651, v_69653, v_69655, v_69657, v_69659, p_ad_1_0, b_69652, b_69654, b_69656, b_69658, b_69660⟩ := opnC_1 (j := 0) I (by decide)
      have p_ad_1_0 : pt L f (ad 1 0) (.inr (10, [.ref (ad 40 0), .ref (ad 41 0), .ref (ad 42 0), .ref (ad 10 0), .ref (ad 43 0), .ref (ad 20 0), .ref (ad 20 1), .ref (ad 20 2), .ref (ad 20 3), .ref (ad 20 4), .int v_69651, .int v_69653, .int v_69655, .int v_69657, .int v_69659])) := p_ad_1_0
      refine pg_getN S Y ok_X10 3 (by decide) kf11_131 (v := .ref (ad 10 0)) p_ad_1_0 rfl dX11_of_94 ?_
      refine lv_iload_n hx hb dX11_of_97 rfl (lv_at hl 1 rfl) ?_
      refine cVi (As := [.ref (ad 10 0), .int i1]) (rest := []) S Y (x_X3_acheOf (l := l) (j := 0) I hW hT hQ (by decide)) cw_X3_acheOf km11_201 (I.opo (k := 3) (j := 0) (by decide) rfl).choose_spec.1 ok_X3.1 rfl rfl ⟨Nat.le_of_ble_eq_true rfl, Nat.le_of_ble_eq_true rfl⟩ hl.1 rfl (Nat.le_of_ble_eq_true rfl) ⟨Nat.le_of_ble_eq_true rfl, Nat.le_of_ble_eq_true rfl⟩ dX11_of_98 (fun r_69663 L_69661 f_69662 H locs I Y => ?_)
      exact prI (post := fun r L1 f1 => SH (spC (NR 30 0 4) ((0, 6) : Int × Int) tc w q) nnC G ad L1 f1) S Y rfl (by decide) (by decide) hA1 I dX11_of_101
    · refine lv_fold (z := 4) h_69637 ?_
      refine lv_tableIn (off := 86) (tgt := 102) hx hb dX11_of_16 (by decide) (by decide) (by decide) (by decide) ?_
      refine lv_aload_n hx hb dX11_of_102 rfl (lv_at hl 0 rfl) ?_
      refine pg_get S Y ok_X11 3 (by decide) kf11_34 (v := .ref (ad 3 0)) p_ad_0_0 rfl dX11_of_103 ?_
      refine lv_aload_n hx hb dX11_of_106 rfl (lv_at hl 0 rfl) ?_
      refine pg_get S Y ok_X11 0 (by decide) kf11_13 (v := .ref (ad 1 0)) p_ad_0_0 rfl dX11_of_107 ?_
      obtain ⟨v_69664, v_69666, v_69668, v_69670, v_69672, p_ad_1_0, b_69665, b_69667, b_69669, b_69671, b_69673⟩ := opnC_1 (j := 0) I (by decide)
      have p_ad_1_0 : pt L f (ad 1 0) (.inr (10, [.ref (ad 40 0), .ref (ad 41 0), .ref (ad 42 0), .ref (ad 10 0), .ref (ad 43 0), .ref (ad 20 0), .ref (ad 20 1), .ref (ad 20 2), .ref (ad 20 3), .ref (ad 20 4), .int v_69664, .int v_69666, .int v_69668, .int v_69670, .int v_69672])) := p_ad_1_0
      refine pg_getN S Y ok_X10 3 (by decide) kf11_131 (v := .ref (ad 10 0)) p_ad_1_0 rfl dX11_of_110 ?_
      refine lv_iload_n hx hb dX11_of_113 rfl (lv_at hl 1 rfl) ?_
      refine cVi (As := [.ref (ad 10 0), .int i1]) (rest := []) S Y (x_X3_riskOf (l := l) (j := 0) I hW hT hQ (by decide)) cw_X3_riskOf km11_205 (I.opo (k := 3) (j := 0) (by decide) rfl).choose_spec.1 ok_X3.1 rfl rfl ⟨Nat.le_of_ble_eq_true rfl, Nat.le_of_ble_eq_true rfl⟩ hl.1 rfl (Nat.le_of_ble_eq_true rfl) ⟨Nat.le_of_ble_eq_true rfl, Nat.le_of_ble_eq_true rfl⟩ dX11_of_114 (fun r_69676 L_69674 f_69675 H locs I Y => ?_)
      exact prI (post := fun r L1 f1 => SH (spC (NR 30 0 4) ((0, 6) : Int × Int) tc w q) nnC G ad L1 f1) S Y rfl (by decide) (by decide) hA1 I dX11_of_117
    · refine lv_fold (z := 5) h_69637 ?_
      refine lv_tableIn (off := 102) (tgt := 118) hx hb dX11_of_16 (by decide) (by decide) (by decide) (by decide) ?_
      refine lv_aload_n hx hb dX11_of_118 rfl (lv_at hl 0 rfl) ?_
      refine pg_get S Y ok_X11 8 (by decide) kf11_75 (v := .ref (ad 8 0)) p_ad_0_0 rfl dX11_of_119 ?_
      refine lv_iload_n hx hb dX11_of_122 rfl (lv_at hl 1 rfl) ?_
      refine cVp (As := [.int i1]) (rest := []) S Y (x_X0_net (l := l) I hW hT hQ) cw_X0_net km11_208 (I.opo (k := 8) (j := 0) (by decide) rfl).choose_spec.1 ok_X0.1 rfl rfl ⟨Nat.le_of_ble_eq_true rfl, Nat.le_of_ble_eq_true rfl⟩ hl.1 rfl (Nat.le_of_ble_eq_true rfl) ⟨Nat.le_of_ble_eq_true rfl, Nat.le_of_ble_eq_true rfl⟩ dX11_of_123 (fun r_69677 H locs er_69677 Y => ?_)
      exact prI (post := fun r L1 f1 => SH (spC (NR 30 0 4) ((0, 6) : Int × Int) tc w q) nnC G ad L1 f1) S Y rfl (by decide) (by decide) hA1 I dX11_of_126
    · refine lv_tableOut (tgt := 127) hx hb dX11_of_16 h_69637 (by decide) ?_
      refine lv_sipush (v := (-1000)) hx hb dX11_of_127 (by decide) ?_
      exact prI (post := fun r L1 f1 => SH (spC (NR 30 0 4) ((0, 6) : Int × Int) tc w q) nnC G ad L1 f1) S Y rfl (by decide) (by decide) hA1 I dX11_of_130
  · have B_69636 : bn 0 0 r_69633 := bn_w (bn_eq c_69634 (show bn 0 0 (0 : Int32) from bn_k (by decide))) (by decide)
    refine lv_sipush (v := (-1000)) hx hb dX11_of_11 (by decide) ?_
    exact prI (post := fun r L1 f1 => SH (spC (NR 30 0 4) ((0, 6) : Int × Int) tc w q) nnC G ad L1 f1) S Y rfl (by decide) (by decide) hA1 I dX11_of_14
set_option maxHeartbeats 4000000 in
set_option maxRecDepth 100000 in
theorem x_X11_ofOath {l : Launch} {G : GG}  {L : List Nat} {f : HF} {ad : Nat → Nat → Nat} {tc w : Nat → Int × Int} {q : Nat → (Nat → Int32) → Prop} {i1 i2 : Int32} (I : SH (spC (NR 30 0 4) ((0, 6) : Int × Int) tc w q) nnC G ad L f) (hW : WBp w 8) (hT : WBp tc 4) (hQ : QIp q) (hZ : ZZp w q) (hE : ∀ j, (tc j).1 = (tc j).2) : PMi l yX11_ofOath cX11_ofOath 3 .int 4 0 0 G [.ref (ad 0 0), .int i1, .int i2] L f (fun r L1 f1 => SH (spC (NR 30 0 4) ((0, 6) : Int × Int) tc w q) nnC G ad L1 f1) := by
  refine PMi.of (post := fun r L1 f1 => SH (spC (NR 30 0 4) ((0, 6) : Int × Int) tc w q) nnC G ad L1 f1) (own := RX11) (by decide) rfl (Nat.le_of_ble_eq_true rfl) (fun sz p e s m args below meth c A ls hA1 hname S Y hl => ?_)
  have hx := S.hx
  have hb := S.hb
  have hl : lv_has ls 3 [(0, .ref (ad 0 0)), (1, .int i1), (2, .int i2)] := hl
  refine lv_aload_n hx hb dX11_ofOath_0 rfl (lv_at hl 0 rfl) ?_
  have p_ad_0_0 := opnC_0 (j := 0) I (by decide)
  have p_ad_0_0 : pt L f (ad 0 0) (.inr (11, [.ref (ad 1 0), .ref (ad 1 1), .ref (ad 2 0), .ref (ad 3 0), .ref (ad 4 0), .ref (ad 5 0), .ref (ad 6 0), .ref (ad 7 0), .ref (ad 8 0)])) := p_ad_0_0
  refine pg_get S Y ok_X11 0 (by decide) kf11_13 (v := .ref (ad 1 0)) p_ad_0_0 rfl dX11_ofOath_1 ?_
  obtain ⟨v_69728, v_69730, v_69732, v_69734, v_69736, p_ad_1_0, b_69729, b_69731, b_69733, b_69735, b_69737⟩ := opnC_1 (j := 0) I (by decide)
  have p_ad_1_0 : pt L f (ad 1 0) (.inr (10, [.ref (ad 40 0), .ref (ad 41 0), .ref (ad 42 0), .ref (ad 10 0), .ref (ad 43 0), .ref (ad 20 0), .ref (ad 20 1), .ref (ad 20 2), .ref (ad 20 3), .ref (ad 20 4), .int v_69728, .int v_69730, .int v_69732, .int v_69734, .int v_69736])) := p_ad_1_0
  refine pg_getN S Y ok_X10 3 (by decide) kf11_131 (v := .ref (ad 10 0)) p_ad_1_0 rfl dX11_ofOath_4 ?_
  refine lv_iload_n hx hb dX11_ofOath_7 rfl (lv_at hl 1 rfl) ?_
  refine cVp (As := [.int i1]) (rest := []) S Y (x_X4_has (l := l) (j := 0) I hW hT hQ (by decide)) cw_X4_has km11_211 (I.opo (k := 10) (j := 0) (by decide) rfl).choose_spec.1 ok_X4.1 rfl rfl ⟨Nat.le_of_ble_eq_true rfl, Nat.le_of_ble_eq_true rfl⟩ hl.1 rfl (Nat.le_of_ble_eq_true rfl) ⟨Nat.le_of_ble_eq_true rfl, Nat.le_of_ble_eq_true rfl⟩ dX11_ofOath_8 (fun r_69738 H locs er_69738 Y => ?_)
  refine lv_if_ne (tgt := 16) hx hb dX11_ofOath_11 (by decide) (fun c_69739 => ?_) (fun c_69739 => ?_)
  · have B_69740 : bn 1 1 r_69738 := bn_w (bn_nel c_69739 er_69738 (show bn 0 0 (0 : Int32) from bn_k (by decide))) (by decide)
    refine lv_iload_n hx hb dX11_ofOath_16 rfl (lv_at hl 2 rfl) ?_
    refine lv_bipush (v := 7) hx hb dX11_ofOath_17 (by decide) ?_
    refine lv_icmp_ne (tgt := 45) hx hb dX11_ofOath_19 (by decide) (fun c_69742 => ?_) (fun c_69742 => ?_)
    · refine lv_iload_n hx hb dX11_ofOath_45 rfl (lv_at hl 2 rfl) ?_
      refine lv_bipush (v := 8) hx hb dX11_ofOath_46 (by decide) ?_
      refine lv_icmp_ne (tgt := 69) hx hb dX11_ofOath_48 (by decide) (fun c_69744 => ?_) (fun c_69744 => ?_)
      · refine lv_aload_n hx hb dX11_ofOath_69 rfl (lv_at hl 0 rfl) ?_
        refine pg_get S Y ok_X11 0 (by decide) kf11_13 (v := .ref (ad 1 0)) p_ad_0_0 rfl dX11_ofOath_70 ?_
        refine pg_getN S Y ok_X10 3 (by decide) kf11_131 (v := .ref (ad 10 0)) p_ad_1_0 rfl dX11_ofOath_73 ?_
        refine lv_iload_n hx hb dX11_ofOath_76 rfl (lv_at hl 1 rfl) ?_
        refine lv_iload_n hx hb dX11_ofOath_77 rfl (lv_at hl 2 rfl) ?_
        refine cVp (As := [.int i1, .int i2]) (rest := []) S Y (x_X4_get (l := l) (j := 0) I hW hT hQ (by decide)) cw_X4_get km11_222 (I.opo (k := 10) (j := 0) (by decide) rfl).choose_spec.1 ok_X4.1 rfl rfl ⟨Nat.le_of_ble_eq_true rfl, Nat.le_of_ble_eq_true rfl⟩ hl.1 rfl (Nat.le_of_ble_eq_true rfl) ⟨Nat.le_of_ble_eq_true rfl, Nat.le_of_ble_eq_true rfl⟩ dX11_ofOath_78 (fun r_69746 H locs er_69746 Y => ?_)
        exact prI (post := fun r L1 f1 => SH (spC (NR 30 0 4) ((0, 6) : Int × Int) tc w q) nnC G ad L1 f1) S Y rfl (by decide) (by decide) hA1 I dX11_ofOath_81
      · have B_69745 : bn 8 8 i2 := bn_w (bn_eq c_69744 (show bn 8 8 (8 : Int32) from bn_k (by decide))) (by decide)
        refine lv_aload_n hx hb dX11_ofOath_51 rfl (lv_at hl 0 rfl) ?_
        refine pg_get S Y ok_X11 3 (by decide) kf11_34 (v := .ref (ad 3 0)) p_ad_0_0 rfl dX11_ofOath_52 ?_
        refine lv_aload_n hx hb dX11_ofOath_55 rfl (lv_at hl 0 rfl) ?_
        refine pg_get S Y ok_X11 0 (by decide) kf11_13 (v := .ref (ad 1 0)) p_ad_0_0 rfl dX11_ofOath_56 ?_
        refine pg_getN S Y ok_X10 3 (by decide) kf11_131 (v := .ref (ad 10 0)) p_ad_1_0 rfl dX11_ofOath_59 ?_
        refine lv_iload_n hx hb dX11_ofOath_62 rfl (lv_at hl 1 rfl) ?_
        refine cVi (As := [.ref (ad 10 0), .int i1]) (rest := []) S Y (x_X3_painOf (l := l) (j := 0) I hW hT hQ (by decide)) cw_X3_painOf km11_219 (I.opo (k := 3) (j := 0) (by decide) rfl).choose_spec.1 ok_X3.1 rfl rfl ⟨Nat.le_of_ble_eq_true rfl, Nat.le_of_ble_eq_true rfl⟩ hl.1 rfl (Nat.le_of_ble_eq_true rfl) ⟨Nat.le_of_ble_eq_true rfl, Nat.le_of_ble_eq_true rfl⟩ dX11_ofOath_63 (fun r_69749 L_69747 f_69748 H locs I Y => ?_)
        refine lv_goto (tgt := 81) hx hb dX11_ofOath_66 (by decide) ?_
        exact prI (post := fun r L1 f1 => SH (spC (NR 30 0 4) ((0, 6) : Int × Int) tc w q) nnC G ad L1 f1) S Y rfl (by decide) (by decide) hA1 I dX11_ofOath_81
    · have B_69743 : bn 7 7 i2 := bn_w (bn_eq c_69742 (show bn 7 7 (7 : Int32) from bn_k (by decide))) (by decide)
      refine lv_aload_n hx hb dX11_ofOath_22 rfl (lv_at hl 0 rfl) ?_
      refine pg_get S Y ok_X11 3 (by decide) kf11_34 (v := .ref (ad 3 0)) p_ad_0_0 rfl dX11_ofOath_23 ?_
      refine lv_aload_n hx hb dX11_ofOath_26 rfl (lv_at hl 0 rfl) ?_
      refine pg_get S Y ok_X11 0 (by decide) kf11_13 (v := .ref (ad 1 0)) p_ad_0_0 rfl dX11_ofOath_27 ?_
      refine pg_getN S Y ok_X10 12 (by decide) kf11_212 (v := .int v_69732) p_ad_1_0 rfl dX11_ofOath_30 ?_
      refine lv_aload_n hx hb dX11_ofOath_33 rfl (lv_at hl 0 rfl) ?_
      refine pg_get S Y ok_X11 0 (by decide) kf11_13 (v := .ref (ad 1 0)) p_ad_0_0 rfl dX11_ofOath_34 ?_
      refine pg_getN S Y ok_X10 3 (by decide) kf11_131 (v := .ref (ad 10 0)) p_ad_1_0 rfl dX11_ofOath_37 ?_
      refine lv_iload_n hx hb dX11_ofOath_40 rfl (lv_at hl 1 rfl) ?_
      refine cVi (As := [.int v_69732, .ref (ad 10 0), .int i1]) (rest := []) S Y (x_X3_wearOf (l := l) (j := 0) I hW hT hQ (by decide)) cw_X3_wearOf km11_215 (I.opo (k := 3) (j := 0) (by decide) rfl).choose_spec.1 ok_X3.1 rfl rfl ⟨Nat.le_of_ble_eq_true rfl, Nat.le_of_ble_eq_true rfl⟩ hl.1 rfl (Nat.le_of_ble_eq_true rfl) ⟨Nat.le_of_ble_eq_true rfl, Nat.le_of_ble_eq_true rfl⟩ dX11_ofOath_41 (fun r_69752 L_69750 f_69751 H locs I Y => ?_)
      exact prI (post := fun r L1 f1 => SH (spC (NR 30 0 4) ((0, 6) : Int × Int) tc w q) nnC G ad L1 f1) S Y rfl (by decide) (by decide) hA1 I dX11_ofOath_44
  · have B_69741 : bn 0 0 r_69738 := bn_w (bn_eq c_69739 (show bn 0 0 (0 : Int32) from bn_k (by decide))) (by decide)
    refine lv_iconst (v := (-1)) hx hb dX11_ofOath_14 (by decide) ?_
    exact prI (post := fun r L1 f1 => SH (spC (NR 30 0 4) ((0, 6) : Int × Int) tc w q) nnC G ad L1 f1) S Y rfl (by decide) (by decide) hA1 I dX11_ofOath_15
set_option maxHeartbeats 4000000 in
set_option maxRecDepth 100000 in
theorem x_X11_is {l : Launch} {G : GG}  {L : List Nat} {f : HF} {ad : Nat → Nat → Nat} {tc w : Nat → Int × Int} {q : Nat → (Nat → Int32) → Prop} {i1 : Int32} (I : SH (spC (NR 30 0 4) ((0, 6) : Int × Int) tc w q) nnC G ad L f) (hW : WBp w 8) (hT : WBp tc 4) (hQ : QIp q) (hZ : ZZp w q) (hE : ∀ j, (tc j).1 = (tc j).2) : PMi l yX11_is cX11_is 2 .int 0 0 0 G [.ref (ad 0 0), .int i1] L f (fun r L1 f1 => SH (spC (NR 30 0 4) ((0, 6) : Int × Int) tc w q) nnC G ad L1 f1) := by
  refine PMi.of (post := fun r L1 f1 => SH (spC (NR 30 0 4) ((0, 6) : Int × Int) tc w q) nnC G ad L1 f1) (own := RX11) (by decide) rfl (Nat.le_of_ble_eq_true rfl) (fun sz p e s m args below meth c A ls hA1 hname S Y hl => ?_)
  have hx := S.hx
  have hb := S.hb
  have hl : lv_has ls 2 [(0, .ref (ad 0 0)), (1, .int i1)] := hl
  refine lv_iload_n hx hb dX11_is_0 rfl (lv_at hl 1 rfl) ?_
  rcases sw_0_3 i1 with h_69915 | h_69915 | h_69915 | h_69915 | h_69915
  · refine lv_fold (z := 0) h_69915 ?_
    refine lv_tableIn (off := 31) (tgt := 32) hx hb dX11_is_1 (by decide) (by decide) (by decide) (by decide) ?_
    refine lv_aload_n hx hb dX11_is_32 rfl (lv_at hl 0 rfl) ?_
    have p_ad_0_0 := opnC_0 (j := 0) I (by decide)
    have p_ad_0_0 : pt L f (ad 0 0) (.inr (11, [.ref (ad 1 0), .ref (ad 1 1), .ref (ad 2 0), .ref (ad 3 0), .ref (ad 4 0), .ref (ad 5 0), .ref (ad 6 0), .ref (ad 7 0), .ref (ad 8 0)])) := p_ad_0_0
    refine pg_get S Y ok_X11 0 (by decide) kf11_13 (v := .ref (ad 1 0)) p_ad_0_0 rfl dX11_is_33 ?_
    obtain ⟨v_69916, v_69918, v_69920, v_69922, v_69924, p_ad_1_0, b_69917, b_69919, b_69921, b_69923, b_69925⟩ := opnC_1 (j := 0) I (by decide)
    have p_ad_1_0 : pt L f (ad 1 0) (.inr (10, [.ref (ad 40 0), .ref (ad 41 0), .ref (ad 42 0), .ref (ad 10 0), .ref (ad 43 0), .ref (ad 20 0), .ref (ad 20 1), .ref (ad 20 2), .ref (ad 20 3), .ref (ad 20 4), .int v_69916, .int v_69918, .int v_69920, .int v_69922, .int v_69924])) := p_ad_1_0
    refine pg_getN S Y ok_X10 3 (by decide) kf11_131 (v := .ref (ad 10 0)) p_ad_1_0 rfl dX11_is_36 ?_
    obtain ⟨v_69926, v_69928, v_69930, v_69932, v_69934, p_ad_10_0, b_69927, b_69929, b_69931, b_69933, b_69935⟩ := opnC_10 (j := 0) I (by decide)
    have p_ad_10_0 : pt L f (ad 10 0) (.inr (4, [.ref (ad 11 0), .ref (ad 12 0), .int v_69926, .int v_69928, .int v_69930, .int v_69932, .int v_69934])) := p_ad_10_0
    refine pg_getN S Y ok_X4 4 (by decide) kf11_150 (v := .int v_69930) p_ad_10_0 rfl dX11_is_39 ?_
    exact prI (post := fun r L1 f1 => SH (spC (NR 30 0 4) ((0, 6) : Int × Int) tc w q) nnC G ad L1 f1) S Y rfl (by decide) (by decide) hA1 I dX11_is_42
  · refine lv_fold (z := 1) h_69915 ?_
    refine lv_tableIn (off := 42) (tgt := 43) hx hb dX11_is_1 (by decide) (by decide) (by decide) (by decide) ?_
    refine lv_aload_n hx hb dX11_is_43 rfl (lv_at hl 0 rfl) ?_
    have p_ad_0_0 := opnC_0 (j := 0) I (by decide)
    have p_ad_0_0 : pt L f (ad 0 0) (.inr (11, [.ref (ad 1 0), .ref (ad 1 1), .ref (ad 2 0), .ref (ad 3 0), .ref (ad 4 0), .ref (ad 5 0), .ref (ad 6 0), .ref (ad 7 0), .ref (ad 8 0)])) := p_ad_0_0
    refine pg_get S Y ok_X11 0 (by decide) kf11_13 (v := .ref (ad 1 0)) p_ad_0_0 rfl dX11_is_44 ?_
    obtain ⟨v_69936, v_69938, v_69940, v_69942, v_69944, p_ad_1_0, b_69937, b_69939, b_69941, b_69943, b_69945⟩ := opnC_1 (j := 0) I (by decide)
    have p_ad_1_0 : pt L f (ad 1 0) (.inr (10, [.ref (ad 40 0), .ref (ad 41 0), .ref (ad 42 0), .ref (ad 10 0), .ref (ad 43 0), .ref (ad 20 0), .ref (ad 20 1), .ref (ad 20 2), .ref (ad 20 3), .ref (ad 20 4), .int v_69936, .int v_69938, .int v_69940, .int v_69942, .int v_69944])) := p_ad_1_0
    refine pg_getN S Y ok_X10 3 (by decide) kf11_131 (v := .ref (ad 10 0)) p_ad_1_0 rfl dX11_is_47 ?_
    obtain ⟨v_69946, v_69948, v_69950, v_69952, v_69954, p_ad_10_0, b_69947, b_69949, b_69951, b_69953, b_69955⟩ := opnC_10 (j := 0) I (by decide)
    have p_ad_10_0 : pt L f (ad 10 0) (.inr (4, [.ref (ad 11 0), .ref (ad 12 0), .int v_69946, .int v_69948, .int v_69950, .int v_69952, .int v_69954])) := p_ad_10_0
    refine pg_getN S Y ok_X4 5 (by decide) kf11_158 (v := .int v_69952) p_ad_10_0 rfl dX11_is_50 ?_
    exact prI (post := fun r L1 f1 => SH (spC (NR 30 0 4) ((0, 6) : Int × Int) tc w q) nnC G ad L1 f1) S Y rfl (by decide) (by decide) hA1 I dX11_is_53
  · refine lv_fold (z := 2) h_69915 ?_
    refine lv_tableIn (off := 53) (tgt := 54) hx hb dX11_is_1 (by decide) (by decide) (by decide) (by decide) ?_
    refine lv_aload_n hx hb dX11_is_54 rfl (lv_at hl 0 rfl) ?_
    have p_ad_0_0 := opnC_0 (j := 0) I (by decide)
    have p_ad_0_0 : pt L f (ad 0 0) (.inr (11, [.ref (ad 1 0), .ref (ad 1 1), .ref (ad 2 0), .ref (ad 3 0), .ref (ad 4 0), .ref (ad 5 0), .ref (ad 6 0), .ref (ad 7 0), .ref (ad 8 0)])) := p_ad_0_0
    refine pg_get S Y ok_X11 0 (by decide) kf11_13 (v := .ref (ad 1 0)) p_ad_0_0 rfl dX11_is_55 ?_
    obtain ⟨v_69956, v_69958, v_69960, v_69962, v_69964, p_ad_1_0, b_69957, b_69959, b_69961, b_69963, b_69965⟩ := opnC_1 (j := 0) I (by decide)
    have p_ad_1_0 : pt L f (ad 1 0) (.inr (10, [.ref (ad 40 0), .ref (ad 41 0), .ref (ad 42 0), .ref (ad 10 0), .ref (ad 43 0), .ref (ad 20 0), .ref (ad 20 1), .ref (ad 20 2), .ref (ad 20 3), .ref (ad 20 4), .int v_69956, .int v_69958, .int v_69960, .int v_69962, .int v_69964])) := p_ad_1_0
    refine pg_getN S Y ok_X10 3 (by decide) kf11_131 (v := .ref (ad 10 0)) p_ad_1_0 rfl dX11_is_58 ?_
    obtain ⟨v_69966, v_69968, v_69970, v_69972, v_69974, p_ad_10_0, b_69967, b_69969, b_69971, b_69973, b_69975⟩ := opnC_10 (j := 0) I (by decide)
    have p_ad_10_0 : pt L f (ad 10 0) (.inr (4, [.ref (ad 11 0), .ref (ad 12 0), .int v_69966, .int v_69968, .int v_69970, .int v_69972, .int v_69974])) := p_ad_10_0
    refine pg_getN S Y ok_X4 6 (by decide) kf11_225 (v := .int v_69974) p_ad_10_0 rfl dX11_is_61 ?_
    exact prI (post := fun r L1 f1 => SH (spC (NR 30 0 4) ((0, 6) : Int × Int) tc w q) nnC G ad L1 f1) S Y rfl (by decide) (by decide) hA1 I dX11_is_64
  · refine lv_fold (z := 3) h_69915 ?_
    refine lv_tableIn (off := 64) (tgt := 65) hx hb dX11_is_1 (by decide) (by decide) (by decide) (by decide) ?_
    refine lv_aload_n hx hb dX11_is_65 rfl (lv_at hl 0 rfl) ?_
    have p_ad_0_0 := opnC_0 (j := 0) I (by decide)
    have p_ad_0_0 : pt L f (ad 0 0) (.inr (11, [.ref (ad 1 0), .ref (ad 1 1), .ref (ad 2 0), .ref (ad 3 0), .ref (ad 4 0), .ref (ad 5 0), .ref (ad 6 0), .ref (ad 7 0), .ref (ad 8 0)])) := p_ad_0_0
    refine pg_get S Y ok_X11 0 (by decide) kf11_13 (v := .ref (ad 1 0)) p_ad_0_0 rfl dX11_is_66 ?_
    obtain ⟨v_69976, v_69978, v_69980, v_69982, v_69984, p_ad_1_0, b_69977, b_69979, b_69981, b_69983, b_69985⟩ := opnC_1 (j := 0) I (by decide)
    have p_ad_1_0 : pt L f (ad 1 0) (.inr (10, [.ref (ad 40 0), .ref (ad 41 0), .ref (ad 42 0), .ref (ad 10 0), .ref (ad 43 0), .ref (ad 20 0), .ref (ad 20 1), .ref (ad 20 2), .ref (ad 20 3), .ref (ad 20 4), .int v_69976, .int v_69978, .int v_69980, .int v_69982, .int v_69984])) := p_ad_1_0
    refine pg_getN S Y ok_X10 3 (by decide) kf11_131 (v := .ref (ad 10 0)) p_ad_1_0 rfl dX11_is_69 ?_
    obtain ⟨v_69986, v_69988, v_69990, v_69992, v_69994, p_ad_10_0, b_69987, b_69989, b_69991, b_69993, b_69995⟩ := opnC_10 (j := 0) I (by decide)
    have p_ad_10_0 : pt L f (ad 10 0) (.inr (4, [.ref (ad 11 0), .ref (ad 12 0), .int v_69986, .int v_69988, .int v_69990, .int v_69992, .int v_69994])) := p_ad_10_0
    refine pg_getN S Y ok_X4 2 (by decide) kf11_228 (v := .int v_69986) p_ad_10_0 rfl dX11_is_72 ?_
    exact prI (post := fun r L1 f1 => SH (spC (NR 30 0 4) ((0, 6) : Int × Int) tc w q) nnC G ad L1 f1) S Y rfl (by decide) (by decide) hA1 I dX11_is_75
  · refine lv_tableOut (tgt := 76) hx hb dX11_is_1 h_69915 (by decide) ?_
    refine lv_bipush (v := (-2)) hx hb dX11_is_76 (by decide) ?_
    exact prI (post := fun r L1 f1 => SH (spC (NR 30 0 4) ((0, 6) : Int × Int) tc w q) nnC G ad L1 f1) S Y rfl (by decide) (by decide) hA1 I dX11_is_78
set_option maxHeartbeats 4000000 in
set_option maxRecDepth 100000 in
theorem x_X11_book {l : Launch} {G : GG}  {L : List Nat} {f : HF} {ad : Nat → Nat → Nat} {tc w : Nat → Int × Int} {q : Nat → (Nat → Int32) → Prop} {i1 i2 : Int32} (I : SH (spC (NR 30 0 4) ((0, 6) : Int × Int) tc w q) nnC G ad L f) (hW : WBp w 8) (hT : WBp tc 4) (hQ : QIp q) (hZ : ZZp w q) (hE : ∀ j, (tc j).1 = (tc j).2) : PMi l yX11_book cX11_book 3 .int 1 0 0 G [.ref (ad 0 0), .int i1, .int i2] L f (fun r L1 f1 => SH (spC (NR 30 0 4) ((0, 6) : Int × Int) tc w q) nnC G ad L1 f1) := by
  refine PMi.of (post := fun r L1 f1 => SH (spC (NR 30 0 4) ((0, 6) : Int × Int) tc w q) nnC G ad L1 f1) (own := RX11) (by decide) rfl (Nat.le_of_ble_eq_true rfl) (fun sz p e s m args below meth c A ls hA1 hname S Y hl => ?_)
  have hx := S.hx
  have hb := S.hb
  have hl : lv_has ls 3 [(0, .ref (ad 0 0)), (1, .int i1), (2, .int i2)] := hl
  refine lv_iload_n hx hb dX11_book_0 rfl (lv_at hl 1 rfl) ?_
  refine lv_iconst (v := (-1)) hx hb dX11_book_1 (by decide) ?_
  refine lv_icmp_ne (tgt := 18) hx hb dX11_book_2 (by decide) (fun c_70062 => ?_) (fun c_70062 => ?_)
  · refine lv_aload_n hx hb dX11_book_18 rfl (lv_at hl 0 rfl) ?_
    have p_ad_0_0 := opnC_0 (j := 0) I (by decide)
    have p_ad_0_0 : pt L f (ad 0 0) (.inr (11, [.ref (ad 1 0), .ref (ad 1 1), .ref (ad 2 0), .ref (ad 3 0), .ref (ad 4 0), .ref (ad 5 0), .ref (ad 6 0), .ref (ad 7 0), .ref (ad 8 0)])) := p_ad_0_0
    refine pg_get S Y ok_X11 0 (by decide) kf11_13 (v := .ref (ad 1 0)) p_ad_0_0 rfl dX11_book_19 ?_
    obtain ⟨v_70064, v_70066, v_70068, v_70070, v_70072, p_ad_1_0, b_70065, b_70067, b_70069, b_70071, b_70073⟩ := opnC_1 (j := 0) I (by decide)
    have p_ad_1_0 : pt L f (ad 1 0) (.inr (10, [.ref (ad 40 0), .ref (ad 41 0), .ref (ad 42 0), .ref (ad 10 0), .ref (ad 43 0), .ref (ad 20 0), .ref (ad 20 1), .ref (ad 20 2), .ref (ad 20 3), .ref (ad 20 4), .int v_70064, .int v_70066, .int v_70068, .int v_70070, .int v_70072])) := p_ad_1_0
    refine pg_getN S Y ok_X10 3 (by decide) kf11_131 (v := .ref (ad 10 0)) p_ad_1_0 rfl dX11_book_22 ?_
    refine lv_iload_n hx hb dX11_book_25 rfl (lv_at hl 1 rfl) ?_
    refine lv_iload_n hx hb dX11_book_26 rfl (lv_at hl 2 rfl) ?_
    refine cVp (As := [.int i1, .int i2]) (rest := []) S Y (x_X4_written (l := l) (j := 0) I hW hT hQ (by decide)) cw_X4_written km11_234 (I.opo (k := 10) (j := 0) (by decide) rfl).choose_spec.1 ok_X4.1 rfl rfl ⟨Nat.le_of_ble_eq_true rfl, Nat.le_of_ble_eq_true rfl⟩ hl.1 rfl (Nat.le_of_ble_eq_true rfl) ⟨Nat.le_of_ble_eq_true rfl, Nat.le_of_ble_eq_true rfl⟩ dX11_book_27 (fun r_70074 H locs er_70074 Y => ?_)
    exact prI (post := fun r L1 f1 => SH (spC (NR 30 0 4) ((0, 6) : Int × Int) tc w q) nnC G ad L1 f1) S Y rfl (by decide) (by decide) hA1 I dX11_book_30
  · have B_70063 : bn (-1) (-1) i1 := bn_w (bn_eq c_70062 (show bn (-1) (-1) ((-1) : Int32) from bn_k (by decide))) (by decide)
    refine lv_aload_n hx hb dX11_book_5 rfl (lv_at hl 0 rfl) ?_
    have p_ad_0_0 := opnC_0 (j := 0) I (by decide)
    have p_ad_0_0 : pt L f (ad 0 0) (.inr (11, [.ref (ad 1 0), .ref (ad 1 1), .ref (ad 2 0), .ref (ad 3 0), .ref (ad 4 0), .ref (ad 5 0), .ref (ad 6 0), .ref (ad 7 0), .ref (ad 8 0)])) := p_ad_0_0
    refine pg_get S Y ok_X11 0 (by decide) kf11_13 (v := .ref (ad 1 0)) p_ad_0_0 rfl dX11_book_6 ?_
    obtain ⟨v_70075, v_70077, v_70079, v_70081, v_70083, p_ad_1_0, b_70076, b_70078, b_70080, b_70082, b_70084⟩ := opnC_1 (j := 0) I (by decide)
    have p_ad_1_0 : pt L f (ad 1 0) (.inr (10, [.ref (ad 40 0), .ref (ad 41 0), .ref (ad 42 0), .ref (ad 10 0), .ref (ad 43 0), .ref (ad 20 0), .ref (ad 20 1), .ref (ad 20 2), .ref (ad 20 3), .ref (ad 20 4), .int v_70075, .int v_70077, .int v_70079, .int v_70081, .int v_70083])) := p_ad_1_0
    refine pg_getN S Y ok_X10 3 (by decide) kf11_131 (v := .ref (ad 10 0)) p_ad_1_0 rfl dX11_book_9 ?_
    obtain ⟨v_70085, v_70087, v_70089, v_70091, v_70093, p_ad_10_0, b_70086, b_70088, b_70090, b_70092, b_70094⟩ := opnC_10 (j := 0) I (by decide)
    have p_ad_10_0 : pt L f (ad 10 0) (.inr (4, [.ref (ad 11 0), .ref (ad 12 0), .int v_70085, .int v_70087, .int v_70089, .int v_70091, .int v_70093])) := p_ad_10_0
    refine pg_getN S Y ok_X4 3 (by decide) kf11_231 (v := .int v_70087) p_ad_10_0 rfl dX11_book_12 ?_
    refine lv_goto (tgt := 30) hx hb dX11_book_15 (by decide) ?_
    exact prI (post := fun r L1 f1 => SH (spC (NR 30 0 4) ((0, 6) : Int × Int) tc w q) nnC G ad L1 f1) S Y rfl (by decide) (by decide) hA1 I dX11_book_30
set_option maxHeartbeats 4000000 in
set_option maxRecDepth 100000 in
theorem x_X11_foretold {l : Launch} {G : GG}  {L : List Nat} {f : HF} {ad : Nat → Nat → Nat} {tc w : Nat → Int × Int} {q : Nat → (Nat → Int32) → Prop} {i1 i2 : Int32} (I : SH (spC (NR 30 0 4) ((0, 6) : Int × Int) tc w q) nnC G ad L f) (hW : WBp w 8) (hT : WBp tc 4) (hQ : QIp q) (hZ : ZZp w q) (hE : ∀ j, (tc j).1 = (tc j).2) : PMi l yX11_foretold cX11_foretold 3 .int 6 0 0 G [.ref (ad 0 0), .int i1, .int i2] L f (fun r L1 f1 => SH (spC (NR 30 0 4) ((0, 6) : Int × Int) tc w q) nnC G ad L1 f1) := by
  refine PMi.of (post := fun r L1 f1 => SH (spC (NR 30 0 4) ((0, 6) : Int × Int) tc w q) nnC G ad L1 f1) (own := RX11) (by decide) rfl (Nat.le_of_ble_eq_true rfl) (fun sz p e s m args below meth c A ls hA1 hname S Y hl => ?_)
  have hx := S.hx
  have hb := S.hb
  have hl : lv_has ls 3 [(0, .ref (ad 0 0)), (1, .int i1), (2, .int i2)] := hl
  refine lv_iload_n hx hb dX11_foretold_0 rfl (lv_at hl 1 rfl) ?_
  refine lv_iconst (v := 1) hx hb dX11_foretold_1 (by decide) ?_
  refine lv_bipush (v := 60) hx hb dX11_foretold_2 (by decide) ?_
  refine cSp (As := [.int i1, .int 1, .int 60]) (rest := []) S Y (x_X11_within (l := l) ) cw_X11_within km11_146 rfl ⟨Nat.le_of_ble_eq_true rfl, Nat.le_of_ble_eq_true rfl⟩ hl.1 rfl (Nat.le_of_ble_eq_true rfl) ⟨Nat.le_of_ble_eq_true rfl, Nat.le_of_ble_eq_true rfl⟩ dX11_foretold_4 (fun r_70127 H locs er_70127 Y => ?_)
  refine lv_if_ne (tgt := 12) hx hb dX11_foretold_7 (by decide) (fun c_70128 => ?_) (fun c_70128 => ?_)
  · have B_70129 : bn 1 1 r_70127 := bn_w (bn_nel c_70128 er_70127 (show bn 0 0 (0 : Int32) from bn_k (by decide))) (by decide)
    refine lv_iload_n hx hb dX11_foretold_12 rfl (lv_at hl 2 rfl) ?_
    refine lv_iconst (v := (-1)) hx hb dX11_foretold_13 (by decide) ?_
    refine lv_icmp_ne (tgt := 26) hx hb dX11_foretold_14 (by decide) (fun c_70131 => ?_) (fun c_70131 => ?_)
    · refine lv_aload_n hx hb dX11_foretold_26 rfl (lv_at hl 0 rfl) ?_
      have p_ad_0_0 := opnC_0 (j := 0) I (by decide)
      have p_ad_0_0 : pt L f (ad 0 0) (.inr (11, [.ref (ad 1 0), .ref (ad 1 1), .ref (ad 2 0), .ref (ad 3 0), .ref (ad 4 0), .ref (ad 5 0), .ref (ad 6 0), .ref (ad 7 0), .ref (ad 8 0)])) := p_ad_0_0
      refine pg_get S Y ok_X11 0 (by decide) kf11_13 (v := .ref (ad 1 0)) p_ad_0_0 rfl dX11_foretold_27 ?_
      refine lv_iload_n hx hb dX11_foretold_30 rfl (lv_at hl 2 rfl) ?_
      refine cVp (As := [.int i2]) (rest := []) S Y (x_X10_has (l := l) I hW hT hQ) cw_X10_has km11_192 (I.opo (k := 1) (j := 0) (by decide) rfl).choose_spec.1 ok_X10.1 rfl rfl ⟨Nat.le_of_ble_eq_true rfl, Nat.le_of_ble_eq_true rfl⟩ hl.1 rfl (Nat.le_of_ble_eq_true rfl) ⟨Nat.le_of_ble_eq_true rfl, Nat.le_of_ble_eq_true rfl⟩ dX11_foretold_31 (fun r_70133 H locs er_70133 Y => ?_)
      refine lv_if_eq (tgt := 49) hx hb dX11_foretold_34 (by decide) (fun c_70134 => ?_) (fun c_70134 => ?_)
      · have B_70135 : bn 0 0 r_70133 := bn_w (bn_eq c_70134 (show bn 0 0 (0 : Int32) from bn_k (by decide))) (by decide)
        refine lv_iconst (v := (-1)) hx hb dX11_foretold_49 (by decide) ?_
        exact prI (post := fun r L1 f1 => SH (spC (NR 30 0 4) ((0, 6) : Int × Int) tc w q) nnC G ad L1 f1) S Y rfl (by decide) (by decide) hA1 I dX11_foretold_50
      · have B_70136 : bn 1 1 r_70133 := bn_w (bn_nel c_70134 er_70133 (show bn 0 0 (0 : Int32) from bn_k (by decide))) (by decide)
        refine lv_aload_n hx hb dX11_foretold_37 rfl (lv_at hl 0 rfl) ?_
        refine pg_get S Y ok_X11 6 (by decide) kf11_59 (v := .ref (ad 6 0)) p_ad_0_0 rfl dX11_foretold_38 ?_
        refine lv_iload_n hx hb dX11_foretold_41 rfl (lv_at hl 1 rfl) ?_
        refine lv_iload_n hx hb dX11_foretold_42 rfl (lv_at hl 2 rfl) ?_
        refine cVi (As := [.int i1, .int i2]) (rest := []) S Y (x_X2_achesWithin (l := l) I hW hT hQ) cw_X2_achesWithin km11_240 (I.opo (k := 6) (j := 0) (by decide) rfl).choose_spec.1 ok_X2.1 rfl rfl ⟨Nat.le_of_ble_eq_true rfl, Nat.le_of_ble_eq_true rfl⟩ hl.1 rfl (Nat.le_of_ble_eq_true rfl) ⟨Nat.le_of_ble_eq_true rfl, Nat.le_of_ble_eq_true rfl⟩ dX11_foretold_43 (fun r_70139 L_70137 f_70138 H locs I Y => ?_)
        refine lv_goto (tgt := 50) hx hb dX11_foretold_46 (by decide) ?_
        exact prI (post := fun r L1 f1 => SH (spC (NR 30 0 4) ((0, 6) : Int × Int) tc w q) nnC G ad L1 f1) S Y rfl (by decide) (by decide) hA1 I dX11_foretold_50
    · have B_70132 : bn (-1) (-1) i2 := bn_w (bn_eq c_70131 (show bn (-1) (-1) ((-1) : Int32) from bn_k (by decide))) (by decide)
      refine lv_aload_n hx hb dX11_foretold_17 rfl (lv_at hl 0 rfl) ?_
      have p_ad_0_0 := opnC_0 (j := 0) I (by decide)
      have p_ad_0_0 : pt L f (ad 0 0) (.inr (11, [.ref (ad 1 0), .ref (ad 1 1), .ref (ad 2 0), .ref (ad 3 0), .ref (ad 4 0), .ref (ad 5 0), .ref (ad 6 0), .ref (ad 7 0), .ref (ad 8 0)])) := p_ad_0_0
      refine pg_get S Y ok_X11 6 (by decide) kf11_59 (v := .ref (ad 6 0)) p_ad_0_0 rfl dX11_foretold_18 ?_
      refine lv_iload_n hx hb dX11_foretold_21 rfl (lv_at hl 1 rfl) ?_
      refine cVi (As := [.int i1]) (rest := []) S Y (x_X2_rainBehind (l := l) I hW hT hQ) cw_X2_rainBehind km11_237 (I.opo (k := 6) (j := 0) (by decide) rfl).choose_spec.1 ok_X2.1 rfl rfl ⟨Nat.le_of_ble_eq_true rfl, Nat.le_of_ble_eq_true rfl⟩ hl.1 rfl (Nat.le_of_ble_eq_true rfl) ⟨Nat.le_of_ble_eq_true rfl, Nat.le_of_ble_eq_true rfl⟩ dX11_foretold_22 (fun r_70142 L_70140 f_70141 H locs I Y => ?_)
      exact prI (post := fun r L1 f1 => SH (spC (NR 30 0 4) ((0, 6) : Int × Int) tc w q) nnC G ad L1 f1) S Y rfl (by decide) (by decide) hA1 I dX11_foretold_25
  · have B_70130 : bn 0 0 r_70127 := bn_w (bn_eq c_70128 (show bn 0 0 (0 : Int32) from bn_k (by decide))) (by decide)
    refine lv_iconst (v := (-1)) hx hb dX11_foretold_10 (by decide) ?_
    exact prI (post := fun r L1 f1 => SH (spC (NR 30 0 4) ((0, 6) : Int × Int) tc w q) nnC G ad L1 f1) S Y rfl (by decide) (by decide) hA1 I dX11_foretold_11
set_option maxHeartbeats 4000000 in
set_option maxRecDepth 100000 in
theorem x_X11_firstAche {l : Launch} {G : GG}  {L : List Nat} {f : HF} {ad : Nat → Nat → Nat} {tc w : Nat → Int × Int} {q : Nat → (Nat → Int32) → Prop} {i1 : Int32} (I : SH (spC (NR 30 0 4) ((0, 6) : Int × Int) tc w q) nnC G ad L f) (hW : WBp w 8) (hT : WBp tc 4) (hQ : QIp q) (hZ : ZZp w q) (hE : ∀ j, (tc j).1 = (tc j).2) : PMi l yX11_firstAche cX11_firstAche 2 .int 6 0 0 G [.ref (ad 0 0), .int i1] L f (fun r L1 f1 => SH (spC (NR 30 0 4) ((0, 6) : Int × Int) tc w q) nnC G ad L1 f1) := by
  refine PMi.of (post := fun r L1 f1 => SH (spC (NR 30 0 4) ((0, 6) : Int × Int) tc w q) nnC G ad L1 f1) (own := RX11) (by decide) rfl (Nat.le_of_ble_eq_true rfl) (fun sz p e s m args below meth c A ls hA1 hname S Y hl => ?_)
  have hx := S.hx
  have hb := S.hb
  have hl : lv_has ls 2 [(0, .ref (ad 0 0)), (1, .int i1)] := hl
  refine lv_aload_n hx hb dX11_firstAche_0 rfl (lv_at hl 0 rfl) ?_
  have p_ad_0_0 := opnC_0 (j := 0) I (by decide)
  have p_ad_0_0 : pt L f (ad 0 0) (.inr (11, [.ref (ad 1 0), .ref (ad 1 1), .ref (ad 2 0), .ref (ad 3 0), .ref (ad 4 0), .ref (ad 5 0), .ref (ad 6 0), .ref (ad 7 0), .ref (ad 8 0)])) := p_ad_0_0
  refine pg_get S Y ok_X11 0 (by decide) kf11_13 (v := .ref (ad 1 0)) p_ad_0_0 rfl dX11_firstAche_1 ?_
  refine lv_iload_n hx hb dX11_firstAche_4 rfl (lv_at hl 1 rfl) ?_
  refine cVp (As := [.int i1]) (rest := []) S Y (x_X10_has (l := l) I hW hT hQ) cw_X10_has km11_192 (I.opo (k := 1) (j := 0) (by decide) rfl).choose_spec.1 ok_X10.1 rfl rfl ⟨Nat.le_of_ble_eq_true rfl, Nat.le_of_ble_eq_true rfl⟩ hl.1 rfl (Nat.le_of_ble_eq_true rfl) ⟨Nat.le_of_ble_eq_true rfl, Nat.le_of_ble_eq_true rfl⟩ dX11_firstAche_5 (fun r_70157 H locs er_70157 Y => ?_)
  refine lv_if_eq (tgt := 22) hx hb dX11_firstAche_8 (by decide) (fun c_70158 => ?_) (fun c_70158 => ?_)
  · have B_70159 : bn 0 0 r_70157 := bn_w (bn_eq c_70158 (show bn 0 0 (0 : Int32) from bn_k (by decide))) (by decide)
    refine lv_iconst (v := (-1)) hx hb dX11_firstAche_22 (by decide) ?_
    exact prI (post := fun r L1 f1 => SH (spC (NR 30 0 4) ((0, 6) : Int × Int) tc w q) nnC G ad L1 f1) S Y rfl (by decide) (by decide) hA1 I dX11_firstAche_23
  · have B_70160 : bn 1 1 r_70157 := bn_w (bn_nel c_70158 er_70157 (show bn 0 0 (0 : Int32) from bn_k (by decide))) (by decide)
    refine lv_aload_n hx hb dX11_firstAche_11 rfl (lv_at hl 0 rfl) ?_
    refine pg_get S Y ok_X11 6 (by decide) kf11_59 (v := .ref (ad 6 0)) p_ad_0_0 rfl dX11_firstAche_12 ?_
    refine lv_iload_n hx hb dX11_firstAche_15 rfl (lv_at hl 1 rfl) ?_
    refine cVi (As := [.int i1]) (rest := []) S Y (x_X2_daysToAche (l := l) I hW hT hQ) cw_X2_daysToAche km11_243 (I.opo (k := 6) (j := 0) (by decide) rfl).choose_spec.1 ok_X2.1 rfl rfl ⟨Nat.le_of_ble_eq_true rfl, Nat.le_of_ble_eq_true rfl⟩ hl.1 rfl (Nat.le_of_ble_eq_true rfl) ⟨Nat.le_of_ble_eq_true rfl, Nat.le_of_ble_eq_true rfl⟩ dX11_firstAche_16 (fun r_70163 L_70161 f_70162 H locs I Y => ?_)
    refine lv_goto (tgt := 23) hx hb dX11_firstAche_19 (by decide) ?_
    exact prI (post := fun r L1 f1 => SH (spC (NR 30 0 4) ((0, 6) : Int × Int) tc w q) nnC G ad L1 f1) S Y rfl (by decide) (by decide) hA1 I dX11_firstAche_23
set_option maxHeartbeats 4000000 in
set_option maxRecDepth 100000 in
theorem x_X11_fades {l : Launch} {G : GG}  {L : List Nat} {f : HF} {ad : Nat → Nat → Nat} {tc w : Nat → Int × Int} {q : Nat → (Nat → Int32) → Prop} {i1 : Int32} (I : SH (spC (NR 30 0 4) ((0, 6) : Int × Int) tc w q) nnC G ad L f) (hW : WBp w 8) (hT : WBp tc 4) (hQ : QIp q) (hZ : ZZp w q) (hE : ∀ j, (tc j).1 = (tc j).2) : PMi l yX11_fades cX11_fades 2 .int 6 0 0 G [.ref (ad 0 0), .int i1] L f (fun r L1 f1 => SH (spC (NR 30 0 4) ((0, 6) : Int × Int) tc w q) nnC G ad L1 f1) := by
  refine PMi.of (post := fun r L1 f1 => SH (spC (NR 30 0 4) ((0, 6) : Int × Int) tc w q) nnC G ad L1 f1) (own := RX11) (by decide) rfl (Nat.le_of_ble_eq_true rfl) (fun sz p e s m args below meth c A ls hA1 hname S Y hl => ?_)
  have hx := S.hx
  have hb := S.hb
  have hl : lv_has ls 2 [(0, .ref (ad 0 0)), (1, .int i1)] := hl
  refine lv_aload_n hx hb dX11_fades_0 rfl (lv_at hl 0 rfl) ?_
  have p_ad_0_0 := opnC_0 (j := 0) I (by decide)
  have p_ad_0_0 : pt L f (ad 0 0) (.inr (11, [.ref (ad 1 0), .ref (ad 1 1), .ref (ad 2 0), .ref (ad 3 0), .ref (ad 4 0), .ref (ad 5 0), .ref (ad 6 0), .ref (ad 7 0), .ref (ad 8 0)])) := p_ad_0_0
  refine pg_get S Y ok_X11 6 (by decide) kf11_59 (v := .ref (ad 6 0)) p_ad_0_0 rfl dX11_fades_1 ?_
  refine lv_iload_n hx hb dX11_fades_4 rfl (lv_at hl 1 rfl) ?_
  refine cVi (As := [.int i1]) (rest := []) S Y (x_X2_daysToFade (l := l) I hW hT hQ) cw_X2_daysToFade km11_246 (I.opo (k := 6) (j := 0) (by decide) rfl).choose_spec.1 ok_X2.1 rfl rfl ⟨Nat.le_of_ble_eq_true rfl, Nat.le_of_ble_eq_true rfl⟩ hl.1 rfl (Nat.le_of_ble_eq_true rfl) ⟨Nat.le_of_ble_eq_true rfl, Nat.le_of_ble_eq_true rfl⟩ dX11_fades_5 (fun r_70172 L_70170 f_70171 H locs I Y => ?_)
  exact prI (post := fun r L1 f1 => SH (spC (NR 30 0 4) ((0, 6) : Int × Int) tc w q) nnC G ad L1 f1) S Y rfl (by decide) (by decide) hA1 I dX11_fades_8
set_option maxHeartbeats 4000000 in
set_option maxRecDepth 100000 in
theorem x_X11_felt {l : Launch} {G : GG}  {L : List Nat} {f : HF} {ad : Nat → Nat → Nat} {tc w : Nat → Int × Int} {q : Nat → (Nat → Int32) → Prop} {i1 i2 i3 : Int32} (I : SH (spC (NR 30 0 4) ((0, 6) : Int × Int) tc w q) nnC G ad L f) (hW : WBp w 8) (hT : WBp tc 4) (hQ : QIp q) (hZ : ZZp w q) (hE : ∀ j, (tc j).1 = (tc j).2) : PMi l yX11_felt cX11_felt 4 .int 1 0 0 G [.ref (ad 0 0), .int i1, .int i2, .int i3] L f (fun r L1 f1 => SH (spC (NR 30 0 4) ((0, 6) : Int × Int) tc w q) nnC G ad L1 f1) := by
  refine PMi.of (post := fun r L1 f1 => SH (spC (NR 30 0 4) ((0, 6) : Int × Int) tc w q) nnC G ad L1 f1) (own := RX11) (by decide) rfl (Nat.le_of_ble_eq_true rfl) (fun sz p e s m args below meth c A ls hA1 hname S Y hl => ?_)
  have hx := S.hx
  have hb := S.hb
  have hl : lv_has ls 4 [(0, .ref (ad 0 0)), (1, .int i1), (2, .int i2), (3, .int i3)] := hl
  refine lv_iload_n hx hb dX11_felt_0 rfl (lv_at hl 1 rfl) ?_
  refine lv_iconst (v := (-1)) hx hb dX11_felt_1 (by decide) ?_
  refine lv_icmp_ne (tgt := 16) hx hb dX11_felt_2 (by decide) (fun c_70253 => ?_) (fun c_70253 => ?_)
  · refine lv_aload_n hx hb dX11_felt_16 rfl (lv_at hl 0 rfl) ?_
    have p_ad_0_0 := opnC_0 (j := 0) I (by decide)
    have p_ad_0_0 : pt L f (ad 0 0) (.inr (11, [.ref (ad 1 0), .ref (ad 1 1), .ref (ad 2 0), .ref (ad 3 0), .ref (ad 4 0), .ref (ad 5 0), .ref (ad 6 0), .ref (ad 7 0), .ref (ad 8 0)])) := p_ad_0_0
    refine pg_get S Y ok_X11 0 (by decide) kf11_13 (v := .ref (ad 1 0)) p_ad_0_0 rfl dX11_felt_17 ?_
    refine lv_iload_n hx hb dX11_felt_20 rfl (lv_at hl 1 rfl) ?_
    refine cVp (As := [.int i1]) (rest := []) S Y (x_X10_has (l := l) I hW hT hQ) cw_X10_has km11_192 (I.opo (k := 1) (j := 0) (by decide) rfl).choose_spec.1 ok_X10.1 rfl rfl ⟨Nat.le_of_ble_eq_true rfl, Nat.le_of_ble_eq_true rfl⟩ hl.1 rfl (Nat.le_of_ble_eq_true rfl) ⟨Nat.le_of_ble_eq_true rfl, Nat.le_of_ble_eq_true rfl⟩ dX11_felt_21 (fun r_70255 H locs er_70255 Y => ?_)
    refine lv_if_eq (tgt := 48) hx hb dX11_felt_24 (by decide) (fun c_70256 => ?_) (fun c_70256 => ?_)
    · have B_70257 : bn 0 0 r_70255 := bn_w (bn_eq c_70256 (show bn 0 0 (0 : Int32) from bn_k (by decide))) (by decide)
      refine lv_bipush (v := (-2)) hx hb dX11_felt_48 (by decide) ?_
      exact prI (post := fun r L1 f1 => SH (spC (NR 30 0 4) ((0, 6) : Int × Int) tc w q) nnC G ad L1 f1) S Y rfl (by decide) (by decide) hA1 I dX11_felt_50
    · have B_70258 : bn 1 1 r_70255 := bn_w (bn_nel c_70256 er_70255 (show bn 0 0 (0 : Int32) from bn_k (by decide))) (by decide)
      refine lv_iload_n hx hb dX11_felt_27 rfl (lv_at hl 2 rfl) ?_
      refine lv_iconst (v := 0) hx hb dX11_felt_28 (by decide) ?_
      refine lv_bipush (v := 9) hx hb dX11_felt_29 (by decide) ?_
      refine cSp (As := [.int i2, .int 0, .int 9]) (rest := []) S Y (x_X11_within (l := l) ) cw_X11_within km11_146 rfl ⟨Nat.le_of_ble_eq_true rfl, Nat.le_of_ble_eq_true rfl⟩ hl.1 rfl (Nat.le_of_ble_eq_true rfl) ⟨Nat.le_of_ble_eq_true rfl, Nat.le_of_ble_eq_true rfl⟩ dX11_felt_31 (fun r_70259 H locs er_70259 Y => ?_)
      refine lv_if_eq (tgt := 48) hx hb dX11_felt_34 (by decide) (fun c_70260 => ?_) (fun c_70260 => ?_)
      · have B_70261 : bn 0 0 r_70259 := bn_w (bn_eq c_70260 (show bn 0 0 (0 : Int32) from bn_k (by decide))) (by decide)
        refine lv_bipush (v := (-2)) hx hb dX11_felt_48 (by decide) ?_
        exact prI (post := fun r L1 f1 => SH (spC (NR 30 0 4) ((0, 6) : Int × Int) tc w q) nnC G ad L1 f1) S Y rfl (by decide) (by decide) hA1 I dX11_felt_50
      · have B_70262 : bn 1 1 r_70259 := bn_w (bn_nel c_70260 er_70259 (show bn 0 0 (0 : Int32) from bn_k (by decide))) (by decide)
        refine lv_iload_n hx hb dX11_felt_37 rfl (lv_at hl 3 rfl) ?_
        refine lv_iconst (v := 0) hx hb dX11_felt_38 (by decide) ?_
        refine lv_sipush (v := 999) hx hb dX11_felt_39 (by decide) ?_
        refine cSp (As := [.int i3, .int 0, .int 999]) (rest := []) S Y (x_X11_within (l := l) ) cw_X11_within km11_146 rfl ⟨Nat.le_of_ble_eq_true rfl, Nat.le_of_ble_eq_true rfl⟩ hl.1 rfl (Nat.le_of_ble_eq_true rfl) ⟨Nat.le_of_ble_eq_true rfl, Nat.le_of_ble_eq_true rfl⟩ dX11_felt_42 (fun r_70263 H locs er_70263 Y => ?_)
        refine lv_if_ne (tgt := 51) hx hb dX11_felt_45 (by decide) (fun c_70264 => ?_) (fun c_70264 => ?_)
        · have B_70265 : bn 1 1 r_70263 := bn_w (bn_nel c_70264 er_70263 (show bn 0 0 (0 : Int32) from bn_k (by decide))) (by decide)
          refine lv_aload_n hx hb dX11_felt_51 rfl (lv_at hl 0 rfl) ?_
          refine pg_get S Y ok_X11 0 (by decide) kf11_13 (v := .ref (ad 1 0)) p_ad_0_0 rfl dX11_felt_52 ?_
          obtain ⟨v_70267, v_70269, v_70271, v_70273, v_70275, p_ad_1_0, b_70268, b_70270, b_70272, b_70274, b_70276⟩ := opnC_1 (j := 0) I (by decide)
          have p_ad_1_0 : pt L f (ad 1 0) (.inr (10, [.ref (ad 40 0), .ref (ad 41 0), .ref (ad 42 0), .ref (ad 10 0), .ref (ad 43 0), .ref (ad 20 0), .ref (ad 20 1), .ref (ad 20 2), .ref (ad 20 3), .ref (ad 20 4), .int v_70267, .int v_70269, .int v_70271, .int v_70273, .int v_70275])) := p_ad_1_0
          refine pg_getN S Y ok_X10 5 (by decide) kf11_249 (v := .ref (ad 20 0)) p_ad_1_0 rfl dX11_felt_55 ?_
          refine lv_iload_n hx hb dX11_felt_58 rfl (lv_at hl 1 rfl) ?_
          refine lv_iload_n hx hb dX11_felt_59 rfl (lv_at hl 2 rfl) ?_
          refine lv_iload_n hx hb dX11_felt_60 rfl (lv_at hl 3 rfl) ?_
          refine cVi (As := [.int i1, .int i2, .int i3]) (rest := []) S Y (x_X9_tell (l := l) (j := 0) I hW hT hQ (by decide) (hZ _ (by decide) (by decide) (by decide)).1 (hZ _ (by decide) (by decide) (by decide)).2) cw_X9_tell km11_258 (I.opo (k := 20) (j := 0) (by decide) rfl).choose_spec.1 ok_X9.1 rfl rfl ⟨Nat.le_of_ble_eq_true rfl, Nat.le_of_ble_eq_true rfl⟩ hl.1 rfl (Nat.le_of_ble_eq_true rfl) ⟨Nat.le_of_ble_eq_true rfl, Nat.le_of_ble_eq_true rfl⟩ dX11_felt_61 (fun r_70279 L_70277 f_70278 H locs I Y => ?_)
          exact prI (post := fun r L1 f1 => SH (spC (NR 30 0 4) ((0, 6) : Int × Int) tc w q) nnC G ad L1 f1) S Y rfl (by decide) (by decide) hA1 I dX11_felt_64
        · have B_70266 : bn 0 0 r_70263 := bn_w (bn_eq c_70264 (show bn 0 0 (0 : Int32) from bn_k (by decide))) (by decide)
          refine lv_bipush (v := (-2)) hx hb dX11_felt_48 (by decide) ?_
          exact prI (post := fun r L1 f1 => SH (spC (NR 30 0 4) ((0, 6) : Int × Int) tc w q) nnC G ad L1 f1) S Y rfl (by decide) (by decide) hA1 I dX11_felt_50
  · have B_70254 : bn (-1) (-1) i1 := bn_w (bn_eq c_70253 (show bn (-1) (-1) ((-1) : Int32) from bn_k (by decide))) (by decide)
    refine lv_aload_n hx hb dX11_felt_5 rfl (lv_at hl 0 rfl) ?_
    have p_ad_0_0 := opnC_0 (j := 0) I (by decide)
    have p_ad_0_0 : pt L f (ad 0 0) (.inr (11, [.ref (ad 1 0), .ref (ad 1 1), .ref (ad 2 0), .ref (ad 3 0), .ref (ad 4 0), .ref (ad 5 0), .ref (ad 6 0), .ref (ad 7 0), .ref (ad 8 0)])) := p_ad_0_0
    refine pg_get S Y ok_X11 0 (by decide) kf11_13 (v := .ref (ad 1 0)) p_ad_0_0 rfl dX11_felt_6 ?_
    obtain ⟨v_70280, v_70282, v_70284, v_70286, v_70288, p_ad_1_0, b_70281, b_70283, b_70285, b_70287, b_70289⟩ := opnC_1 (j := 0) I (by decide)
    have p_ad_1_0 : pt L f (ad 1 0) (.inr (10, [.ref (ad 40 0), .ref (ad 41 0), .ref (ad 42 0), .ref (ad 10 0), .ref (ad 43 0), .ref (ad 20 0), .ref (ad 20 1), .ref (ad 20 2), .ref (ad 20 3), .ref (ad 20 4), .int v_70280, .int v_70282, .int v_70284, .int v_70286, .int v_70288])) := p_ad_1_0
    refine pg_getN S Y ok_X10 5 (by decide) kf11_249 (v := .ref (ad 20 0)) p_ad_1_0 rfl dX11_felt_9 ?_
    refine cVi (As := []) (rest := []) S Y (x_X9_forget (l := l) (j := 0) I hW hT hQ (by decide) (hZ _ (by decide) (by decide) (by decide)).1 (hZ _ (by decide) (by decide) (by decide)).2) cw_X9_forget km11_253 (I.opo (k := 20) (j := 0) (by decide) rfl).choose_spec.1 ok_X9.1 rfl rfl ⟨Nat.le_of_ble_eq_true rfl, Nat.le_of_ble_eq_true rfl⟩ hl.1 rfl (Nat.le_of_ble_eq_true rfl) ⟨Nat.le_of_ble_eq_true rfl, Nat.le_of_ble_eq_true rfl⟩ dX11_felt_12 (fun r_70292 L_70290 f_70291 H locs hr_70292 Y => ?_)
    obtain ⟨er_70292, I⟩ := hr_70292
    exact prI (post := fun r L1 f1 => SH (spC (NR 30 0 4) ((0, 6) : Int × Int) tc w q) nnC G ad L1 f1) S Y rfl (by decide) (by decide) hA1 I dX11_felt_15
set_option maxHeartbeats 4000000 in
set_option maxRecDepth 100000 in
theorem x_X11_breaches {l : Launch} {G : GG}  {L : List Nat} {f : HF} {ad : Nat → Nat → Nat} {tc w : Nat → Int × Int} {q : Nat → (Nat → Int32) → Prop} {i1 i2 : Int32} (I : SH (spC (NR 30 0 4) ((0, 6) : Int × Int) tc w q) nnC G ad L f) (hW : WBp w 8) (hT : WBp tc 4) (hQ : QIp q) (hZ : ZZp w q) (hE : ∀ j, (tc j).1 = (tc j).2) : PMi l yX11_breaches cX11_breaches 3 .int 6 0 0 G [.ref (ad 0 0), .int i1, .int i2] L f (fun r L1 f1 => SH (spC (NR 30 0 4) ((0, 6) : Int × Int) tc w q) nnC G ad L1 f1) := by
  refine PMi.of (post := fun r L1 f1 => SH (spC (NR 30 0 4) ((0, 6) : Int × Int) tc w q) nnC G ad L1 f1) (own := RX11) (by decide) rfl (Nat.le_of_ble_eq_true rfl) (fun sz p e s m args below meth c A ls hA1 hname S Y hl => ?_)
  have hx := S.hx
  have hb := S.hb
  have hl : lv_has ls 3 [(0, .ref (ad 0 0)), (1, .int i1), (2, .int i2)] := hl
  refine lv_aload_n hx hb dX11_breaches_0 rfl (lv_at hl 0 rfl) ?_
  have p_ad_0_0 := opnC_0 (j := 0) I (by decide)
  have p_ad_0_0 : pt L f (ad 0 0) (.inr (11, [.ref (ad 1 0), .ref (ad 1 1), .ref (ad 2 0), .ref (ad 3 0), .ref (ad 4 0), .ref (ad 5 0), .ref (ad 6 0), .ref (ad 7 0), .ref (ad 8 0)])) := p_ad_0_0
  refine pg_get S Y ok_X11 0 (by decide) kf11_13 (v := .ref (ad 1 0)) p_ad_0_0 rfl dX11_breaches_1 ?_
  refine lv_iload_n hx hb dX11_breaches_4 rfl (lv_at hl 1 rfl) ?_
  refine cVp (As := [.int i1]) (rest := []) S Y (x_X10_has (l := l) I hW hT hQ) cw_X10_has km11_192 (I.opo (k := 1) (j := 0) (by decide) rfl).choose_spec.1 ok_X10.1 rfl rfl ⟨Nat.le_of_ble_eq_true rfl, Nat.le_of_ble_eq_true rfl⟩ hl.1 rfl (Nat.le_of_ble_eq_true rfl) ⟨Nat.le_of_ble_eq_true rfl, Nat.le_of_ble_eq_true rfl⟩ dX11_breaches_5 (fun r_70327 H locs er_70327 Y => ?_)
  refine lv_if_eq (tgt := 20) hx hb dX11_breaches_8 (by decide) (fun c_70328 => ?_) (fun c_70328 => ?_)
  · have B_70329 : bn 0 0 r_70327 := bn_w (bn_eq c_70328 (show bn 0 0 (0 : Int32) from bn_k (by decide))) (by decide)
    refine lv_iconst (v := (-1)) hx hb dX11_breaches_20 (by decide) ?_
    exact prI (post := fun r L1 f1 => SH (spC (NR 30 0 4) ((0, 6) : Int × Int) tc w q) nnC G ad L1 f1) S Y rfl (by decide) (by decide) hA1 I dX11_breaches_21
  · have B_70330 : bn 1 1 r_70327 := bn_w (bn_nel c_70328 er_70327 (show bn 0 0 (0 : Int32) from bn_k (by decide))) (by decide)
    refine lv_iload_n hx hb dX11_breaches_11 rfl (lv_at hl 2 rfl) ?_
    refine lv_iconst (v := 0) hx hb dX11_breaches_12 (by decide) ?_
    refine lv_iconst (v := 2) hx hb dX11_breaches_13 (by decide) ?_
    refine cSp (As := [.int i2, .int 0, .int 2]) (rest := []) S Y (x_X11_within (l := l) ) cw_X11_within km11_146 rfl ⟨Nat.le_of_ble_eq_true rfl, Nat.le_of_ble_eq_true rfl⟩ hl.1 rfl (Nat.le_of_ble_eq_true rfl) ⟨Nat.le_of_ble_eq_true rfl, Nat.le_of_ble_eq_true rfl⟩ dX11_breaches_14 (fun r_70331 H locs er_70331 Y => ?_)
    refine lv_if_ne (tgt := 22) hx hb dX11_breaches_17 (by decide) (fun c_70332 => ?_) (fun c_70332 => ?_)
    · have B_70333 : bn 1 1 r_70331 := bn_w (bn_nel c_70332 er_70331 (show bn 0 0 (0 : Int32) from bn_k (by decide))) (by decide)
      refine lv_aload_n hx hb dX11_breaches_22 rfl (lv_at hl 0 rfl) ?_
      refine pg_get S Y ok_X11 7 (by decide) kf11_68 (v := .ref (ad 7 0)) p_ad_0_0 rfl dX11_breaches_23 ?_
      refine lv_iload_n hx hb dX11_breaches_26 rfl (lv_at hl 1 rfl) ?_
      refine cVv (As := [.int i1]) (rest := []) S Y (x_X8_weigh (l := l) I hW hT hQ) cw_X8_weigh km11_262 (I.opo (k := 7) (j := 0) (by decide) rfl).choose_spec.1 ok_X8.1 rfl rfl ⟨Nat.le_of_ble_eq_true rfl, Nat.le_of_ble_eq_true rfl⟩ hl.1 rfl (Nat.le_of_ble_eq_true rfl) ⟨Nat.le_of_ble_eq_true rfl, Nat.le_of_ble_eq_true rfl⟩ dX11_breaches_27 (fun L_70335 f_70336 H locs I Y => ?_)
      refine lv_iload_n hx hb dX11_breaches_30 rfl (lv_at hl 2 rfl) ?_
      refine lv_if_ne (tgt := 42) hx hb dX11_breaches_31 (by decide) (fun c_70337 => ?_) (fun c_70337 => ?_)
      · refine lv_iload_n hx hb dX11_breaches_42 rfl (lv_at hl 2 rfl) ?_
        refine lv_iconst (v := 1) hx hb dX11_breaches_43 (by decide) ?_
        refine lv_icmp_ne (tgt := 57) hx hb dX11_breaches_44 (by decide) (fun c_70339 => ?_) (fun c_70339 => ?_)
        · refine lv_aload_n hx hb dX11_breaches_57 rfl (lv_at hl 0 rfl) ?_
          have p_ad_0_0 := opnC_0 (j := 0) I (by decide)
          have p_ad_0_0 : pt L_70335 f_70336 (ad 0 0) (.inr (11, [.ref (ad 1 0), .ref (ad 1 1), .ref (ad 2 0), .ref (ad 3 0), .ref (ad 4 0), .ref (ad 5 0), .ref (ad 6 0), .ref (ad 7 0), .ref (ad 8 0)])) := p_ad_0_0
          refine pg_get S Y ok_X11 7 (by decide) kf11_68 (v := .ref (ad 7 0)) p_ad_0_0 rfl dX11_breaches_58 ?_
          refine cVp (As := []) (rest := []) S Y (x_X8_sureKept (l := l) I hW hT hQ) cw_X8_sureKept km11_271 (I.opo (k := 7) (j := 0) (by decide) rfl).choose_spec.1 ok_X8.1 rfl rfl ⟨Nat.le_of_ble_eq_true rfl, Nat.le_of_ble_eq_true rfl⟩ hl.1 rfl (Nat.le_of_ble_eq_true rfl) ⟨Nat.le_of_ble_eq_true rfl, Nat.le_of_ble_eq_true rfl⟩ dX11_breaches_61 (fun r_70341 H locs er_70341 Y => ?_)
          exact prI (post := fun r L1 f1 => SH (spC (NR 30 0 4) ((0, 6) : Int × Int) tc w q) nnC G ad L1 f1) S Y rfl (by decide) (by decide) hA1 I dX11_breaches_64
        · have B_70340 : bn 1 1 i2 := bn_w (bn_eq c_70339 (show bn 1 1 (1 : Int32) from bn_k (by decide))) (by decide)
          refine lv_aload_n hx hb dX11_breaches_47 rfl (lv_at hl 0 rfl) ?_
          have p_ad_0_0 := opnC_0 (j := 0) I (by decide)
          have p_ad_0_0 : pt L_70335 f_70336 (ad 0 0) (.inr (11, [.ref (ad 1 0), .ref (ad 1 1), .ref (ad 2 0), .ref (ad 3 0), .ref (ad 4 0), .ref (ad 5 0), .ref (ad 6 0), .ref (ad 7 0), .ref (ad 8 0)])) := p_ad_0_0
          refine pg_get S Y ok_X11 7 (by decide) kf11_68 (v := .ref (ad 7 0)) p_ad_0_0 rfl dX11_breaches_48 ?_
          refine cVp (As := []) (rest := []) S Y (x_X8_sureBroken (l := l) I hW hT hQ) cw_X8_sureBroken km11_268 (I.opo (k := 7) (j := 0) (by decide) rfl).choose_spec.1 ok_X8.1 rfl rfl ⟨Nat.le_of_ble_eq_true rfl, Nat.le_of_ble_eq_true rfl⟩ hl.1 rfl (Nat.le_of_ble_eq_true rfl) ⟨Nat.le_of_ble_eq_true rfl, Nat.le_of_ble_eq_true rfl⟩ dX11_breaches_51 (fun r_70342 H locs er_70342 Y => ?_)
          refine lv_goto (tgt := 64) hx hb dX11_breaches_54 (by decide) ?_
          exact prI (post := fun r L1 f1 => SH (spC (NR 30 0 4) ((0, 6) : Int × Int) tc w q) nnC G ad L1 f1) S Y rfl (by decide) (by decide) hA1 I dX11_breaches_64
      · have B_70338 : bn 0 0 i2 := bn_w (bn_eq c_70337 (show bn 0 0 (0 : Int32) from bn_k (by decide))) (by decide)
        refine lv_aload_n hx hb dX11_breaches_34 rfl (lv_at hl 0 rfl) ?_
        have p_ad_0_0 := opnC_0 (j := 0) I (by decide)
        have p_ad_0_0 : pt L_70335 f_70336 (ad 0 0) (.inr (11, [.ref (ad 1 0), .ref (ad 1 1), .ref (ad 2 0), .ref (ad 3 0), .ref (ad 4 0), .ref (ad 5 0), .ref (ad 6 0), .ref (ad 7 0), .ref (ad 8 0)])) := p_ad_0_0
        refine pg_get S Y ok_X11 7 (by decide) kf11_68 (v := .ref (ad 7 0)) p_ad_0_0 rfl dX11_breaches_35 ?_
        refine cVp (As := []) (rest := []) S Y (x_X8_sets (l := l) I hW hT hQ) cw_X8_sets km11_265 (I.opo (k := 7) (j := 0) (by decide) rfl).choose_spec.1 ok_X8.1 rfl rfl ⟨Nat.le_of_ble_eq_true rfl, Nat.le_of_ble_eq_true rfl⟩ hl.1 rfl (Nat.le_of_ble_eq_true rfl) ⟨Nat.le_of_ble_eq_true rfl, Nat.le_of_ble_eq_true rfl⟩ dX11_breaches_38 (fun r_70343 H locs er_70343 Y => ?_)
        exact prI (post := fun r L1 f1 => SH (spC (NR 30 0 4) ((0, 6) : Int × Int) tc w q) nnC G ad L1 f1) S Y rfl (by decide) (by decide) hA1 I dX11_breaches_41
    · have B_70334 : bn 0 0 r_70331 := bn_w (bn_eq c_70332 (show bn 0 0 (0 : Int32) from bn_k (by decide))) (by decide)
      refine lv_iconst (v := (-1)) hx hb dX11_breaches_20 (by decide) ?_
      exact prI (post := fun r L1 f1 => SH (spC (NR 30 0 4) ((0, 6) : Int × Int) tc w q) nnC G ad L1 f1) S Y rfl (by decide) (by decide) hA1 I dX11_breaches_21
set_option maxHeartbeats 4000000 in
set_option maxRecDepth 100000 in
theorem x_X11_odds {l : Launch} {G : GG}  {L : List Nat} {f : HF} {ad : Nat → Nat → Nat} {tc w : Nat → Int × Int} {q : Nat → (Nat → Int32) → Prop} {i1 i2 : Int32} (I : SH (spC (NR 30 0 4) ((0, 6) : Int × Int) tc w q) nnC G ad L f) (hW : WBp w 8) (hT : WBp tc 4) (hQ : QIp q) (b_i2 : bn 0 1 i2) (hZ : ZZp w q) (hE : ∀ j, (tc j).1 = (tc j).2) : PMi l yX11_odds cX11_odds 3 .int 6 0 0 G [.ref (ad 0 0), .int i1, .int i2] L f (fun r L1 f1 => SH (spC (NR 30 0 4) ((0, 6) : Int × Int) tc w q) nnC G ad L1 f1) := by
  refine PMi.of (post := fun r L1 f1 => SH (spC (NR 30 0 4) ((0, 6) : Int × Int) tc w q) nnC G ad L1 f1) (own := RX11) (by decide) rfl (Nat.le_of_ble_eq_true rfl) (fun sz p e s m args below meth c A ls hA1 hname S Y hl => ?_)
  have hx := S.hx
  have hb := S.hb
  have hl : lv_has ls 3 [(0, .ref (ad 0 0)), (1, .int i1), (2, .int i2)] := hl
  refine lv_aload_n hx hb dX11_odds_0 rfl (lv_at hl 0 rfl) ?_
  have p_ad_0_0 := opnC_0 (j := 0) I (by decide)
  have p_ad_0_0 : pt L f (ad 0 0) (.inr (11, [.ref (ad 1 0), .ref (ad 1 1), .ref (ad 2 0), .ref (ad 3 0), .ref (ad 4 0), .ref (ad 5 0), .ref (ad 6 0), .ref (ad 7 0), .ref (ad 8 0)])) := p_ad_0_0
  refine pg_get S Y ok_X11 0 (by decide) kf11_13 (v := .ref (ad 1 0)) p_ad_0_0 rfl dX11_odds_1 ?_
  obtain ⟨v_70380, v_70382, v_70384, v_70386, v_70388, p_ad_1_0, b_70381, b_70383, b_70385, b_70387, b_70389⟩ := opnC_1 (j := 0) I (by decide)
  have p_ad_1_0 : pt L f (ad 1 0) (.inr (10, [.ref (ad 40 0), .ref (ad 41 0), .ref (ad 42 0), .ref (ad 10 0), .ref (ad 43 0), .ref (ad 20 0), .ref (ad 20 1), .ref (ad 20 2), .ref (ad 20 3), .ref (ad 20 4), .int v_70380, .int v_70382, .int v_70384, .int v_70386, .int v_70388])) := p_ad_1_0
  refine pg_getN S Y ok_X10 3 (by decide) kf11_131 (v := .ref (ad 10 0)) p_ad_1_0 rfl dX11_odds_4 ?_
  refine lv_iload_n hx hb dX11_odds_7 rfl (lv_at hl 1 rfl) ?_
  refine cVp (As := [.int i1]) (rest := []) S Y (x_X4_legible (l := l) (j := 0) I hW hT hQ (by decide)) cw_X4_legible km11_274 (I.opo (k := 10) (j := 0) (by decide) rfl).choose_spec.1 ok_X4.1 rfl rfl ⟨Nat.le_of_ble_eq_true rfl, Nat.le_of_ble_eq_true rfl⟩ hl.1 rfl (Nat.le_of_ble_eq_true rfl) ⟨Nat.le_of_ble_eq_true rfl, Nat.le_of_ble_eq_true rfl⟩ dX11_odds_8 (fun r_70390 H locs er_70390 Y => ?_)
  refine lv_if_ne (tgt := 16) hx hb dX11_odds_11 (by decide) (fun c_70391 => ?_) (fun c_70391 => ?_)
  · have B_70392 : bn 1 1 r_70390 := bn_w (bn_nel c_70391 er_70390 (show bn 0 0 (0 : Int32) from bn_k (by decide))) (by decide)
    refine lv_aload_n hx hb dX11_odds_16 rfl (lv_at hl 0 rfl) ?_
    refine pg_get S Y ok_X11 7 (by decide) kf11_68 (v := .ref (ad 7 0)) p_ad_0_0 rfl dX11_odds_17 ?_
    refine lv_aload_n hx hb dX11_odds_20 rfl (lv_at hl 0 rfl) ?_
    refine pg_get S Y ok_X11 0 (by decide) kf11_13 (v := .ref (ad 1 0)) p_ad_0_0 rfl dX11_odds_21 ?_
    refine pg_getN S Y ok_X10 3 (by decide) kf11_131 (v := .ref (ad 10 0)) p_ad_1_0 rfl dX11_odds_24 ?_
    refine lv_iload_n hx hb dX11_odds_27 rfl (lv_at hl 1 rfl) ?_
    refine lv_iconst (v := 1) hx hb dX11_odds_28 (by decide) ?_
    refine cVp (As := [.int i1, .int 1]) (rest := [.ref (ad 7 0)]) S Y (x_X4_get (l := l) (j := 0) I hW hT hQ (by decide)) cw_X4_get km11_222 (I.opo (k := 10) (j := 0) (by decide) rfl).choose_spec.1 ok_X4.1 rfl rfl ⟨Nat.le_of_ble_eq_true rfl, Nat.le_of_ble_eq_true rfl⟩ hl.1 rfl (Nat.le_of_ble_eq_true rfl) ⟨Nat.le_of_ble_eq_true rfl, Nat.le_of_ble_eq_true rfl⟩ dX11_odds_29 (fun r_70394 H locs er_70394 Y => ?_)
    refine cVv (As := [.int r_70394]) (rest := []) S Y (x_X8_weigh (l := l) I hW hT hQ) cw_X8_weigh km11_262 (I.opo (k := 7) (j := 0) (by decide) rfl).choose_spec.1 ok_X8.1 rfl rfl ⟨Nat.le_of_ble_eq_true rfl, Nat.le_of_ble_eq_true rfl⟩ hl.1 rfl (Nat.le_of_ble_eq_true rfl) ⟨Nat.le_of_ble_eq_true rfl, Nat.le_of_ble_eq_true rfl⟩ dX11_odds_32 (fun L_70395 f_70396 H locs I Y => ?_)
    refine lv_aload_n hx hb dX11_odds_35 rfl (lv_at hl 0 rfl) ?_
    have p_ad_0_0 := opnC_0 (j := 0) I (by decide)
    have p_ad_0_0 : pt L_70395 f_70396 (ad 0 0) (.inr (11, [.ref (ad 1 0), .ref (ad 1 1), .ref (ad 2 0), .ref (ad 3 0), .ref (ad 4 0), .ref (ad 5 0), .ref (ad 6 0), .ref (ad 7 0), .ref (ad 8 0)])) := p_ad_0_0
    refine pg_get S Y ok_X11 7 (by decide) kf11_68 (v := .ref (ad 7 0)) p_ad_0_0 rfl dX11_odds_36 ?_
    refine lv_iload_n hx hb dX11_odds_39 rfl (lv_at hl 1 rfl) ?_
    refine lv_iload_n hx hb dX11_odds_40 rfl (lv_at hl 2 rfl) ?_
    refine cVp (As := [.int i1, .int i2]) (rest := []) S Y (x_X8_chance (l := l) I hW hT hQ (bn_w b_i2 (by decide))) cw_X8_chance km11_277 (I.opo (k := 7) (j := 0) (by decide) rfl).choose_spec.1 ok_X8.1 rfl rfl ⟨Nat.le_of_ble_eq_true rfl, Nat.le_of_ble_eq_true rfl⟩ hl.1 rfl (Nat.le_of_ble_eq_true rfl) ⟨Nat.le_of_ble_eq_true rfl, Nat.le_of_ble_eq_true rfl⟩ dX11_odds_41 (fun r_70397 H locs er_70397 Y => ?_)
    exact prI (post := fun r L1 f1 => SH (spC (NR 30 0 4) ((0, 6) : Int × Int) tc w q) nnC G ad L1 f1) S Y rfl (by decide) (by decide) hA1 I dX11_odds_44
  · have B_70393 : bn 0 0 r_70390 := bn_w (bn_eq c_70391 (show bn 0 0 (0 : Int32) from bn_k (by decide))) (by decide)
    refine lv_iconst (v := (-1)) hx hb dX11_odds_14 (by decide) ?_
    exact prI (post := fun r L1 f1 => SH (spC (NR 30 0 4) ((0, 6) : Int × Int) tc w q) nnC G ad L1 f1) S Y rfl (by decide) (by decide) hA1 I dX11_odds_15
set_option maxHeartbeats 4000000 in
set_option maxRecDepth 100000 in
theorem x_X11_nextAsked {l : Launch} {G : GG}  {L : List Nat} {f : HF} {ad : Nat → Nat → Nat} {tc w : Nat → Int × Int} {q : Nat → (Nat → Int32) → Prop} {i1 : Int32} (I : SH (spC (NR 30 0 4) ((0, 6) : Int × Int) tc w q) nnC G ad L f) (hW : WBp w 8) (hT : WBp tc 4) (hQ : QIp q) (hZ : ZZp w q) (hE : ∀ j, (tc j).1 = (tc j).2) : PMi l yX11_nextAsked cX11_nextAsked 2 .int 6 0 0 G [.ref (ad 0 0), .int i1] L f (fun r L1 f1 => SH (spC (NR 30 0 4) ((0, 6) : Int × Int) tc w q) nnC G ad L1 f1) := by
  refine PMi.of (post := fun r L1 f1 => SH (spC (NR 30 0 4) ((0, 6) : Int × Int) tc w q) nnC G ad L1 f1) (own := RX11) (by decide) rfl (Nat.le_of_ble_eq_true rfl) (fun sz p e s m args below meth c A ls hA1 hname S Y hl => ?_)
  have hx := S.hx
  have hb := S.hb
  have hl : lv_has ls 2 [(0, .ref (ad 0 0)), (1, .int i1)] := hl
  refine lv_aload_n hx hb dX11_nextAsked_0 rfl (lv_at hl 0 rfl) ?_
  have p_ad_0_0 := opnC_0 (j := 0) I (by decide)
  have p_ad_0_0 : pt L f (ad 0 0) (.inr (11, [.ref (ad 1 0), .ref (ad 1 1), .ref (ad 2 0), .ref (ad 3 0), .ref (ad 4 0), .ref (ad 5 0), .ref (ad 6 0), .ref (ad 7 0), .ref (ad 8 0)])) := p_ad_0_0
  refine pg_get S Y ok_X11 0 (by decide) kf11_13 (v := .ref (ad 1 0)) p_ad_0_0 rfl dX11_nextAsked_1 ?_
  refine lv_iload_n hx hb dX11_nextAsked_4 rfl (lv_at hl 1 rfl) ?_
  refine cVp (As := [.int i1]) (rest := []) S Y (x_X10_has (l := l) I hW hT hQ) cw_X10_has km11_192 (I.opo (k := 1) (j := 0) (by decide) rfl).choose_spec.1 ok_X10.1 rfl rfl ⟨Nat.le_of_ble_eq_true rfl, Nat.le_of_ble_eq_true rfl⟩ hl.1 rfl (Nat.le_of_ble_eq_true rfl) ⟨Nat.le_of_ble_eq_true rfl, Nat.le_of_ble_eq_true rfl⟩ dX11_nextAsked_5 (fun r_70412 H locs er_70412 Y => ?_)
  refine lv_if_ne (tgt := 13) hx hb dX11_nextAsked_8 (by decide) (fun c_70413 => ?_) (fun c_70413 => ?_)
  · have B_70414 : bn 1 1 r_70412 := bn_w (bn_nel c_70413 er_70412 (show bn 0 0 (0 : Int32) from bn_k (by decide))) (by decide)
    refine lv_aload_n hx hb dX11_nextAsked_13 rfl (lv_at hl 0 rfl) ?_
    refine pg_get S Y ok_X11 7 (by decide) kf11_68 (v := .ref (ad 7 0)) p_ad_0_0 rfl dX11_nextAsked_14 ?_
    refine lv_iload_n hx hb dX11_nextAsked_17 rfl (lv_at hl 1 rfl) ?_
    refine cVv (As := [.int i1]) (rest := []) S Y (x_X8_weigh (l := l) I hW hT hQ) cw_X8_weigh km11_262 (I.opo (k := 7) (j := 0) (by decide) rfl).choose_spec.1 ok_X8.1 rfl rfl ⟨Nat.le_of_ble_eq_true rfl, Nat.le_of_ble_eq_true rfl⟩ hl.1 rfl (Nat.le_of_ble_eq_true rfl) ⟨Nat.le_of_ble_eq_true rfl, Nat.le_of_ble_eq_true rfl⟩ dX11_nextAsked_18 (fun L_70416 f_70417 H locs I Y => ?_)
    refine lv_aload_n hx hb dX11_nextAsked_21 rfl (lv_at hl 0 rfl) ?_
    have p_ad_0_0 := opnC_0 (j := 0) I (by decide)
    have p_ad_0_0 : pt L_70416 f_70417 (ad 0 0) (.inr (11, [.ref (ad 1 0), .ref (ad 1 1), .ref (ad 2 0), .ref (ad 3 0), .ref (ad 4 0), .ref (ad 5 0), .ref (ad 6 0), .ref (ad 7 0), .ref (ad 8 0)])) := p_ad_0_0
    refine pg_get S Y ok_X11 7 (by decide) kf11_68 (v := .ref (ad 7 0)) p_ad_0_0 rfl dX11_nextAsked_22 ?_
    refine cVp (As := []) (rest := []) S Y (x_X8_mostTelling (l := l) I hW hT hQ) cw_X8_mostTelling km11_281 (I.opo (k := 7) (j := 0) (by decide) rfl).choose_spec.1 ok_X8.1 rfl rfl ⟨Nat.le_of_ble_eq_true rfl, Nat.le_of_ble_eq_true rfl⟩ hl.1 rfl (Nat.le_of_ble_eq_true rfl) ⟨Nat.le_of_ble_eq_true rfl, Nat.le_of_ble_eq_true rfl⟩ dX11_nextAsked_25 (fun r_70418 H locs er_70418 Y => ?_)
    exact prI (post := fun r L1 f1 => SH (spC (NR 30 0 4) ((0, 6) : Int × Int) tc w q) nnC G ad L1 f1) S Y rfl (by decide) (by decide) hA1 I dX11_nextAsked_28
  · have B_70415 : bn 0 0 r_70412 := bn_w (bn_eq c_70413 (show bn 0 0 (0 : Int32) from bn_k (by decide))) (by decide)
    refine lv_iconst (v := (-1)) hx hb dX11_nextAsked_11 (by decide) ?_
    exact prI (post := fun r L1 f1 => SH (spC (NR 30 0 4) ((0, 6) : Int × Int) tc w q) nnC G ad L1 f1) S Y rfl (by decide) (by decide) hA1 I dX11_nextAsked_12
set_option maxHeartbeats 4000000 in
set_option maxRecDepth 100000 in
theorem x_X11_clash {l : Launch} {G : GG}  {L : List Nat} {f : HF} {ad : Nat → Nat → Nat} {tc w : Nat → Int × Int} {q : Nat → (Nat → Int32) → Prop} {i1 i2 : Int32} (I : SH (spC (NR 30 0 4) ((0, 6) : Int × Int) tc w q) nnC G ad L f) (hW : WBp w 8) (hT : WBp tc 4) (hQ : QIp q) (hZ : ZZp w q) (hE : ∀ j, (tc j).1 = (tc j).2) : PMi l yX11_clash cX11_clash 3 .int 1 0 0 G [.ref (ad 0 0), .int i1, .int i2] L f (fun r L1 f1 => SH (spC (NR 30 0 4) ((0, 6) : Int × Int) tc w q) nnC G ad L1 f1) := by
  refine PMi.of (post := fun r L1 f1 => SH (spC (NR 30 0 4) ((0, 6) : Int × Int) tc w q) nnC G ad L1 f1) (own := RX11) (by decide) rfl (Nat.le_of_ble_eq_true rfl) (fun sz p e s m args below meth c A ls hA1 hname S Y hl => ?_)
  have hx := S.hx
  have hb := S.hb
  have hl : lv_has ls 3 [(0, .ref (ad 0 0)), (1, .int i1), (2, .int i2)] := hl
  refine lv_iload_n hx hb dX11_clash_0 rfl (lv_at hl 1 rfl) ?_
  refine lv_iconst (v := (-1)) hx hb dX11_clash_1 (by decide) ?_
  refine lv_icmp_ne (tgt := 16) hx hb dX11_clash_2 (by decide) (fun c_70493 => ?_) (fun c_70493 => ?_)
  · refine lv_aload_n hx hb dX11_clash_16 rfl (lv_at hl 0 rfl) ?_
    have p_ad_0_0 := opnC_0 (j := 0) I (by decide)
    have p_ad_0_0 : pt L f (ad 0 0) (.inr (11, [.ref (ad 1 0), .ref (ad 1 1), .ref (ad 2 0), .ref (ad 3 0), .ref (ad 4 0), .ref (ad 5 0), .ref (ad 6 0), .ref (ad 7 0), .ref (ad 8 0)])) := p_ad_0_0
    refine pg_get S Y ok_X11 0 (by decide) kf11_13 (v := .ref (ad 1 0)) p_ad_0_0 rfl dX11_clash_17 ?_
    obtain ⟨v_70495, v_70497, v_70499, v_70501, v_70503, p_ad_1_0, b_70496, b_70498, b_70500, b_70502, b_70504⟩ := opnC_1 (j := 0) I (by decide)
    have p_ad_1_0 : pt L f (ad 1 0) (.inr (10, [.ref (ad 40 0), .ref (ad 41 0), .ref (ad 42 0), .ref (ad 10 0), .ref (ad 43 0), .ref (ad 20 0), .ref (ad 20 1), .ref (ad 20 2), .ref (ad 20 3), .ref (ad 20 4), .int v_70495, .int v_70497, .int v_70499, .int v_70501, .int v_70503])) := p_ad_1_0
    refine pg_getN S Y ok_X10 3 (by decide) kf11_131 (v := .ref (ad 10 0)) p_ad_1_0 rfl dX11_clash_20 ?_
    refine lv_iload_n hx hb dX11_clash_23 rfl (lv_at hl 1 rfl) ?_
    refine cVp (As := [.int i1]) (rest := []) S Y (x_X4_has (l := l) (j := 0) I hW hT hQ (by decide)) cw_X4_has km11_211 (I.opo (k := 10) (j := 0) (by decide) rfl).choose_spec.1 ok_X4.1 rfl rfl ⟨Nat.le_of_ble_eq_true rfl, Nat.le_of_ble_eq_true rfl⟩ hl.1 rfl (Nat.le_of_ble_eq_true rfl) ⟨Nat.le_of_ble_eq_true rfl, Nat.le_of_ble_eq_true rfl⟩ dX11_clash_24 (fun r_70505 H locs er_70505 Y => ?_)
    refine lv_if_eq (tgt := 49) hx hb dX11_clash_27 (by decide) (fun c_70506 => ?_) (fun c_70506 => ?_)
    · have B_70507 : bn 0 0 r_70505 := bn_w (bn_eq c_70506 (show bn 0 0 (0 : Int32) from bn_k (by decide))) (by decide)
      refine lv_bipush (v := (-2)) hx hb dX11_clash_49 (by decide) ?_
      exact prI (post := fun r L1 f1 => SH (spC (NR 30 0 4) ((0, 6) : Int × Int) tc w q) nnC G ad L1 f1) S Y rfl (by decide) (by decide) hA1 I dX11_clash_51
    · have B_70508 : bn 1 1 r_70505 := bn_w (bn_nel c_70506 er_70505 (show bn 0 0 (0 : Int32) from bn_k (by decide))) (by decide)
      refine lv_aload_n hx hb dX11_clash_30 rfl (lv_at hl 0 rfl) ?_
      refine pg_get S Y ok_X11 0 (by decide) kf11_13 (v := .ref (ad 1 0)) p_ad_0_0 rfl dX11_clash_31 ?_
      refine pg_getN S Y ok_X10 3 (by decide) kf11_131 (v := .ref (ad 10 0)) p_ad_1_0 rfl dX11_clash_34 ?_
      refine lv_iload_n hx hb dX11_clash_37 rfl (lv_at hl 2 rfl) ?_
      refine cVp (As := [.int i2]) (rest := []) S Y (x_X4_has (l := l) (j := 0) I hW hT hQ (by decide)) cw_X4_has km11_211 (I.opo (k := 10) (j := 0) (by decide) rfl).choose_spec.1 ok_X4.1 rfl rfl ⟨Nat.le_of_ble_eq_true rfl, Nat.le_of_ble_eq_true rfl⟩ hl.1 rfl (Nat.le_of_ble_eq_true rfl) ⟨Nat.le_of_ble_eq_true rfl, Nat.le_of_ble_eq_true rfl⟩ dX11_clash_38 (fun r_70509 H locs er_70509 Y => ?_)
      refine lv_if_eq (tgt := 49) hx hb dX11_clash_41 (by decide) (fun c_70510 => ?_) (fun c_70510 => ?_)
      · have B_70511 : bn 0 0 r_70509 := bn_w (bn_eq c_70510 (show bn 0 0 (0 : Int32) from bn_k (by decide))) (by decide)
        refine lv_bipush (v := (-2)) hx hb dX11_clash_49 (by decide) ?_
        exact prI (post := fun r L1 f1 => SH (spC (NR 30 0 4) ((0, 6) : Int × Int) tc w q) nnC G ad L1 f1) S Y rfl (by decide) (by decide) hA1 I dX11_clash_51
      · have B_70512 : bn 1 1 r_70509 := bn_w (bn_nel c_70510 er_70509 (show bn 0 0 (0 : Int32) from bn_k (by decide))) (by decide)
        refine lv_iload_n hx hb dX11_clash_44 rfl (lv_at hl 1 rfl) ?_
        refine lv_iload_n hx hb dX11_clash_45 rfl (lv_at hl 2 rfl) ?_
        refine lv_icmp_ne (tgt := 52) hx hb dX11_clash_46 (by decide) (fun c_70513 => ?_) (fun c_70513 => ?_)
        · refine lv_aload_n hx hb dX11_clash_52 rfl (lv_at hl 0 rfl) ?_
          refine pg_get S Y ok_X11 0 (by decide) kf11_13 (v := .ref (ad 1 0)) p_ad_0_0 rfl dX11_clash_53 ?_
          refine pg_getN S Y ok_X10 6 (by decide) kf11_284 (v := .ref (ad 20 1)) p_ad_1_0 rfl dX11_clash_56 ?_
          refine lv_iload_n hx hb dX11_clash_59 rfl (lv_at hl 1 rfl) ?_
          refine lv_iload_n hx hb dX11_clash_60 rfl (lv_at hl 2 rfl) ?_
          refine lv_iconst (v := 0) hx hb dX11_clash_61 (by decide) ?_
          refine cVi (As := [.int i1, .int i2, .int 0]) (rest := []) S Y (x_X9_tell (l := l) (j := 1) I hW hT hQ (by decide) (hZ _ (by decide) (by decide) (by decide)).1 (hZ _ (by decide) (by decide) (by decide)).2) cw_X9_tell km11_258 (I.opo (k := 20) (j := 1) (by decide) rfl).choose_spec.1 ok_X9.1 rfl rfl ⟨Nat.le_of_ble_eq_true rfl, Nat.le_of_ble_eq_true rfl⟩ hl.1 rfl (Nat.le_of_ble_eq_true rfl) ⟨Nat.le_of_ble_eq_true rfl, Nat.le_of_ble_eq_true rfl⟩ dX11_clash_62 (fun r_70516 L_70514 f_70515 H locs I Y => ?_)
          exact prI (post := fun r L1 f1 => SH (spC (NR 30 0 4) ((0, 6) : Int × Int) tc w q) nnC G ad L1 f1) S Y rfl (by decide) (by decide) hA1 I dX11_clash_65
        · refine lv_bipush (v := (-2)) hx hb dX11_clash_49 (by decide) ?_
          exact prI (post := fun r L1 f1 => SH (spC (NR 30 0 4) ((0, 6) : Int × Int) tc w q) nnC G ad L1 f1) S Y rfl (by decide) (by decide) hA1 I dX11_clash_51
  · have B_70494 : bn (-1) (-1) i1 := bn_w (bn_eq c_70493 (show bn (-1) (-1) ((-1) : Int32) from bn_k (by decide))) (by decide)
    refine lv_aload_n hx hb dX11_clash_5 rfl (lv_at hl 0 rfl) ?_
    have p_ad_0_0 := opnC_0 (j := 0) I (by decide)
    have p_ad_0_0 : pt L f (ad 0 0) (.inr (11, [.ref (ad 1 0), .ref (ad 1 1), .ref (ad 2 0), .ref (ad 3 0), .ref (ad 4 0), .ref (ad 5 0), .ref (ad 6 0), .ref (ad 7 0), .ref (ad 8 0)])) := p_ad_0_0
    refine pg_get S Y ok_X11 0 (by decide) kf11_13 (v := .ref (ad 1 0)) p_ad_0_0 rfl dX11_clash_6 ?_
    obtain ⟨v_70517, v_70519, v_70521, v_70523, v_70525, p_ad_1_0, b_70518, b_70520, b_70522, b_70524, b_70526⟩ := opnC_1 (j := 0) I (by decide)
    have p_ad_1_0 : pt L f (ad 1 0) (.inr (10, [.ref (ad 40 0), .ref (ad 41 0), .ref (ad 42 0), .ref (ad 10 0), .ref (ad 43 0), .ref (ad 20 0), .ref (ad 20 1), .ref (ad 20 2), .ref (ad 20 3), .ref (ad 20 4), .int v_70517, .int v_70519, .int v_70521, .int v_70523, .int v_70525])) := p_ad_1_0
    refine pg_getN S Y ok_X10 6 (by decide) kf11_284 (v := .ref (ad 20 1)) p_ad_1_0 rfl dX11_clash_9 ?_
    refine cVi (As := []) (rest := []) S Y (x_X9_forget (l := l) (j := 1) I hW hT hQ (by decide) (hZ _ (by decide) (by decide) (by decide)).1 (hZ _ (by decide) (by decide) (by decide)).2) cw_X9_forget km11_253 (I.opo (k := 20) (j := 1) (by decide) rfl).choose_spec.1 ok_X9.1 rfl rfl ⟨Nat.le_of_ble_eq_true rfl, Nat.le_of_ble_eq_true rfl⟩ hl.1 rfl (Nat.le_of_ble_eq_true rfl) ⟨Nat.le_of_ble_eq_true rfl, Nat.le_of_ble_eq_true rfl⟩ dX11_clash_12 (fun r_70529 L_70527 f_70528 H locs hr_70529 Y => ?_)
    obtain ⟨er_70529, I⟩ := hr_70529
    exact prI (post := fun r L1 f1 => SH (spC (NR 30 0 4) ((0, 6) : Int × Int) tc w q) nnC G ad L1 f1) S Y rfl (by decide) (by decide) hA1 I dX11_clash_15
set_option maxHeartbeats 4000000 in
set_option maxRecDepth 100000 in
theorem x_X11_leastReleased {l : Launch} {G : GG}  {L : List Nat} {f : HF} {ad : Nat → Nat → Nat} {tc w : Nat → Int × Int} {q : Nat → (Nat → Int32) → Prop} (I : SH (spC (NR 30 0 4) ((0, 6) : Int × Int) tc w q) nnC G ad L f) (hW : WBp w 8) (hT : WBp tc 4) (hQ : QIp q) (hZ : ZZp w q) (hE : ∀ j, (tc j).1 = (tc j).2) : PMi l yX11_leastReleased cX11_leastReleased 1 .int 3 0 0 G [.ref (ad 0 0)] L f (fun r L1 f1 => SH (spC (NR 30 0 4) ((0, 6) : Int × Int) tc w q) nnC G ad L1 f1) := by
  refine PMi.of (post := fun r L1 f1 => SH (spC (NR 30 0 4) ((0, 6) : Int × Int) tc w q) nnC G ad L1 f1) (own := RX11) (by decide) rfl (Nat.le_of_ble_eq_true rfl) (fun sz p e s m args below meth c A ls hA1 hname S Y hl => ?_)
  have hx := S.hx
  have hb := S.hb
  have hl : lv_has ls 1 [(0, .ref (ad 0 0))] := hl
  refine lv_aload_n hx hb dX11_leastReleased_0 rfl (lv_at hl 0 rfl) ?_
  have p_ad_0_0 := opnC_0 (j := 0) I (by decide)
  have p_ad_0_0 : pt L f (ad 0 0) (.inr (11, [.ref (ad 1 0), .ref (ad 1 1), .ref (ad 2 0), .ref (ad 3 0), .ref (ad 4 0), .ref (ad 5 0), .ref (ad 6 0), .ref (ad 7 0), .ref (ad 8 0)])) := p_ad_0_0
  refine pg_get S Y ok_X11 8 (by decide) kf11_75 (v := .ref (ad 8 0)) p_ad_0_0 rfl dX11_leastReleased_1 ?_
  refine cVi (As := []) (rest := []) S Y (x_X0_fewestReleased (l := l) I hW hT hQ) cw_X0_fewestReleased km11_287 (I.opo (k := 8) (j := 0) (by decide) rfl).choose_spec.1 ok_X0.1 rfl rfl ⟨Nat.le_of_ble_eq_true rfl, Nat.le_of_ble_eq_true rfl⟩ hl.1 rfl (Nat.le_of_ble_eq_true rfl) ⟨Nat.le_of_ble_eq_true rfl, Nat.le_of_ble_eq_true rfl⟩ dX11_leastReleased_4 (fun r_70538 L_70536 f_70537 H locs I Y => ?_)
  exact prI (post := fun r L1 f1 => SH (spC (NR 30 0 4) ((0, 6) : Int × Int) tc w q) nnC G ad L1 f1) S Y rfl (by decide) (by decide) hA1 I dX11_leastReleased_7
set_option maxHeartbeats 4000000 in
set_option maxRecDepth 100000 in
theorem x_X11_forged {l : Launch} {G : GG}  {L : List Nat} {f : HF} {ad : Nat → Nat → Nat} {tc w : Nat → Int × Int} {q : Nat → (Nat → Int32) → Prop} {i1 i2 i3 : Int32} (I : SH (spC (NR 30 0 4) ((0, 6) : Int × Int) tc w q) nnC G ad L f) (hW : WBp w 8) (hT : WBp tc 4) (hQ : QIp q) (hZ : ZZp w q) (hE : ∀ j, (tc j).1 = (tc j).2) : PMi l yX11_forged cX11_forged 4 .int 2 0 0 G [.ref (ad 0 0), .int i1, .int i2, .int i3] L f (fun r L1 f1 => SH (spC (NR 30 0 4) ((0, 6) : Int × Int) tc w q) nnC G ad L1 f1) := by
  refine PMi.of (post := fun r L1 f1 => SH (spC (NR 30 0 4) ((0, 6) : Int × Int) tc w q) nnC G ad L1 f1) (own := RX11) (by decide) rfl (Nat.le_of_ble_eq_true rfl) (fun sz p e s m args below meth c A ls hA1 hname S Y hl => ?_)
  have hx := S.hx
  have hb := S.hb
  have hl : lv_has ls 4 [(0, .ref (ad 0 0)), (1, .int i1), (2, .int i2), (3, .int i3)] := hl
  refine lv_aload_n hx hb dX11_forged_0 rfl (lv_at hl 0 rfl) ?_
  have p_ad_0_0 := opnC_0 (j := 0) I (by decide)
  have p_ad_0_0 : pt L f (ad 0 0) (.inr (11, [.ref (ad 1 0), .ref (ad 1 1), .ref (ad 2 0), .ref (ad 3 0), .ref (ad 4 0), .ref (ad 5 0), .ref (ad 6 0), .ref (ad 7 0), .ref (ad 8 0)])) := p_ad_0_0
  refine pg_get S Y ok_X11 0 (by decide) kf11_13 (v := .ref (ad 1 0)) p_ad_0_0 rfl dX11_forged_1 ?_
  refine lv_iload_n hx hb dX11_forged_4 rfl (lv_at hl 1 rfl) ?_
  refine cVp (As := [.int i1]) (rest := []) S Y (x_X10_has (l := l) I hW hT hQ) cw_X10_has km11_192 (I.opo (k := 1) (j := 0) (by decide) rfl).choose_spec.1 ok_X10.1 rfl rfl ⟨Nat.le_of_ble_eq_true rfl, Nat.le_of_ble_eq_true rfl⟩ hl.1 rfl (Nat.le_of_ble_eq_true rfl) ⟨Nat.le_of_ble_eq_true rfl, Nat.le_of_ble_eq_true rfl⟩ dX11_forged_5 (fun r_70587 H locs er_70587 Y => ?_)
  refine lv_if_eq (tgt := 30) hx hb dX11_forged_8 (by decide) (fun c_70588 => ?_) (fun c_70588 => ?_)
  · have B_70589 : bn 0 0 r_70587 := bn_w (bn_eq c_70588 (show bn 0 0 (0 : Int32) from bn_k (by decide))) (by decide)
    refine lv_sipush (v := (-1000)) hx hb dX11_forged_30 (by decide) ?_
    exact prI (post := fun r L1 f1 => SH (spC (NR 30 0 4) ((0, 6) : Int × Int) tc w q) nnC G ad L1 f1) S Y rfl (by decide) (by decide) hA1 I dX11_forged_33
  · have B_70590 : bn 1 1 r_70587 := bn_w (bn_nel c_70588 er_70587 (show bn 0 0 (0 : Int32) from bn_k (by decide))) (by decide)
    refine lv_iload_n hx hb dX11_forged_11 rfl (lv_at hl 2 rfl) ?_
    refine lv_iconst (v := 0) hx hb dX11_forged_12 (by decide) ?_
    refine lv_iconst (v := 1) hx hb dX11_forged_13 (by decide) ?_
    refine cSp (As := [.int i2, .int 0, .int 1]) (rest := []) S Y (x_X11_within (l := l) ) cw_X11_within km11_146 rfl ⟨Nat.le_of_ble_eq_true rfl, Nat.le_of_ble_eq_true rfl⟩ hl.1 rfl (Nat.le_of_ble_eq_true rfl) ⟨Nat.le_of_ble_eq_true rfl, Nat.le_of_ble_eq_true rfl⟩ dX11_forged_14 (fun r_70591 H locs er_70591 Y => ?_)
    refine lv_if_eq (tgt := 30) hx hb dX11_forged_17 (by decide) (fun c_70592 => ?_) (fun c_70592 => ?_)
    · have B_70593 : bn 0 0 r_70591 := bn_w (bn_eq c_70592 (show bn 0 0 (0 : Int32) from bn_k (by decide))) (by decide)
      refine lv_sipush (v := (-1000)) hx hb dX11_forged_30 (by decide) ?_
      exact prI (post := fun r L1 f1 => SH (spC (NR 30 0 4) ((0, 6) : Int × Int) tc w q) nnC G ad L1 f1) S Y rfl (by decide) (by decide) hA1 I dX11_forged_33
    · have B_70594 : bn 1 1 r_70591 := bn_w (bn_nel c_70592 er_70591 (show bn 0 0 (0 : Int32) from bn_k (by decide))) (by decide)
      refine lv_iload_n hx hb dX11_forged_20 rfl (lv_at hl 3 rfl) ?_
      refine lv_iconst (v := 0) hx hb dX11_forged_21 (by decide) ?_
      refine lv_bipush (v := 99) hx hb dX11_forged_22 (by decide) ?_
      refine cSp (As := [.int i3, .int 0, .int 99]) (rest := []) S Y (x_X11_within (l := l) ) cw_X11_within km11_146 rfl ⟨Nat.le_of_ble_eq_true rfl, Nat.le_of_ble_eq_true rfl⟩ hl.1 rfl (Nat.le_of_ble_eq_true rfl) ⟨Nat.le_of_ble_eq_true rfl, Nat.le_of_ble_eq_true rfl⟩ dX11_forged_24 (fun r_70595 H locs er_70595 Y => ?_)
      refine lv_if_ne (tgt := 34) hx hb dX11_forged_27 (by decide) (fun c_70596 => ?_) (fun c_70596 => ?_)
      · have B_70597 : bn 1 1 r_70595 := bn_w (bn_nel c_70596 er_70595 (show bn 0 0 (0 : Int32) from bn_k (by decide))) (by decide)
        refine lv_iload_n hx hb dX11_forged_34 rfl (lv_at hl 3 rfl) ?_
        refine lv_aload_n hx hb dX11_forged_35 rfl (lv_at hl 0 rfl) ?_
        refine pg_get S Y ok_X11 0 (by decide) kf11_13 (v := .ref (ad 1 0)) p_ad_0_0 rfl dX11_forged_36 ?_
        obtain ⟨v_70599, v_70601, v_70603, v_70605, v_70607, p_ad_1_0, b_70600, b_70602, b_70604, b_70606, b_70608⟩ := opnC_1 (j := 0) I (by decide)
        have p_ad_1_0 : pt L f (ad 1 0) (.inr (10, [.ref (ad 40 0), .ref (ad 41 0), .ref (ad 42 0), .ref (ad 10 0), .ref (ad 43 0), .ref (ad 20 0), .ref (ad 20 1), .ref (ad 20 2), .ref (ad 20 3), .ref (ad 20 4), .int v_70599, .int v_70601, .int v_70603, .int v_70605, .int v_70607])) := p_ad_1_0
        refine pg_getN S Y ok_X10 3 (by decide) kf11_131 (v := .ref (ad 10 0)) p_ad_1_0 rfl dX11_forged_39 ?_
        refine lv_iload_n hx hb dX11_forged_42 rfl (lv_at hl 1 rfl) ?_
        refine lv_iload_n hx hb dX11_forged_43 rfl (lv_at hl 2 rfl) ?_
        refine cVp (As := [.int i1, .int i2]) (rest := [.int i3]) S Y (x_X4_marksOnKnee (l := l) (j := 0) I hW hT hQ (by decide)) cw_X4_marksOnKnee km11_290 (I.opo (k := 10) (j := 0) (by decide) rfl).choose_spec.1 ok_X4.1 rfl rfl ⟨Nat.le_of_ble_eq_true rfl, Nat.le_of_ble_eq_true rfl⟩ hl.1 rfl (Nat.le_of_ble_eq_true rfl) ⟨Nat.le_of_ble_eq_true rfl, Nat.le_of_ble_eq_true rfl⟩ dX11_forged_44 (fun r_70609 H locs er_70609 Y => ?_)
        refine lv_isub hx hb dX11_forged_47 ?_
        refine lv_topi (fun x_70610 ex_70610 => ?_)
        exact prI (post := fun r L1 f1 => SH (spC (NR 30 0 4) ((0, 6) : Int × Int) tc w q) nnC G ad L1 f1) S Y rfl (by decide) (by decide) hA1 I dX11_forged_48
      · have B_70598 : bn 0 0 r_70595 := bn_w (bn_eq c_70596 (show bn 0 0 (0 : Int32) from bn_k (by decide))) (by decide)
        refine lv_sipush (v := (-1000)) hx hb dX11_forged_30 (by decide) ?_
        exact prI (post := fun r L1 f1 => SH (spC (NR 30 0 4) ((0, 6) : Int × Int) tc w q) nnC G ad L1 f1) S Y rfl (by decide) (by decide) hA1 I dX11_forged_33
set_option maxHeartbeats 4000000 in
set_option maxRecDepth 100000 in
theorem x_X11_inTime {l : Launch} {G : GG}  {L : List Nat} {f : HF} {ad : Nat → Nat → Nat} {tc w : Nat → Int × Int} {q : Nat → (Nat → Int32) → Prop} {i1 : Int32} (I : SH (spC (NR 30 0 4) ((0, 6) : Int × Int) tc w q) nnC G ad L f) (hW : WBp w 8) (hT : WBp tc 4) (hQ : QIp q) (hZ : ZZp w q) (hE : ∀ j, (tc j).1 = (tc j).2) : PMi l yX11_inTime cX11_inTime 3 .int 4 0 0 G [.ref (ad 0 0), .int i1] L f (fun r L1 f1 => SH (spC (NR 30 0 4) ((0, 6) : Int × Int) tc w q) nnC G ad L1 f1) := by
  refine PMi.of (post := fun r L1 f1 => SH (spC (NR 30 0 4) ((0, 6) : Int × Int) tc w q) nnC G ad L1 f1) (own := RX11) (by decide) rfl (Nat.le_of_ble_eq_true rfl) (fun sz p e s m args below meth c A ls hA1 hname S Y hl => ?_)
  have hx := S.hx
  have hb := S.hb
  have hl : lv_has ls 3 [(0, .ref (ad 0 0)), (1, .int i1)] := hl
  refine lv_iload_n hx hb dX11_inTime_0 rfl (lv_at hl 1 rfl) ?_
  refine lv_iconst (v := 0) hx hb dX11_inTime_1 (by decide) ?_
  refine lv_iconst (v := 2) hx hb dX11_inTime_2 (by decide) ?_
  refine cSp (As := [.int i1, .int 0, .int 2]) (rest := []) S Y (x_X11_within (l := l) ) cw_X11_within km11_146 rfl ⟨Nat.le_of_ble_eq_true rfl, Nat.le_of_ble_eq_true rfl⟩ hl.1 rfl (Nat.le_of_ble_eq_true rfl) ⟨Nat.le_of_ble_eq_true rfl, Nat.le_of_ble_eq_true rfl⟩ dX11_inTime_3 (fun r_70633 H locs er_70633 Y => ?_)
  refine lv_if_ne (tgt := 11) hx hb dX11_inTime_6 (by decide) (fun c_70634 => ?_) (fun c_70634 => ?_)
  · have B_70635 : bn 1 1 r_70633 := bn_w (bn_nel c_70634 er_70633 (show bn 0 0 (0 : Int32) from bn_k (by decide))) (by decide)
    refine lv_aload_n hx hb dX11_inTime_11 rfl (lv_at hl 0 rfl) ?_
    have p_ad_0_0 := opnC_0 (j := 0) I (by decide)
    have p_ad_0_0 : pt L f (ad 0 0) (.inr (11, [.ref (ad 1 0), .ref (ad 1 1), .ref (ad 2 0), .ref (ad 3 0), .ref (ad 4 0), .ref (ad 5 0), .ref (ad 6 0), .ref (ad 7 0), .ref (ad 8 0)])) := p_ad_0_0
    refine pg_get S Y ok_X11 8 (by decide) kf11_75 (v := .ref (ad 8 0)) p_ad_0_0 rfl dX11_inTime_12 ?_
    refine cVp (As := []) (rest := []) S Y (x_X0_mostInTime (l := l) I hW hT hQ) cw_X0_mostInTime km11_296 (I.opo (k := 8) (j := 0) (by decide) rfl).choose_spec.1 ok_X0.1 rfl rfl ⟨Nat.le_of_ble_eq_true rfl, Nat.le_of_ble_eq_true rfl⟩ hl.1 rfl (Nat.le_of_ble_eq_true rfl) ⟨Nat.le_of_ble_eq_true rfl, Nat.le_of_ble_eq_true rfl⟩ dX11_inTime_15 (fun r_70637 H locs er_70637 Y => ?_)
    refine lv_istore_n (lv' := [(2, .int r_70637), (0, .ref (ad 0 0)), (1, .int i1)]) hx hb dX11_inTime_18 rfl hl (by decide) rfl (fun ls hl => ?_)
    refine lv_iload_n hx hb dX11_inTime_19 rfl (lv_at hl 2 rfl) ?_
    refine lv_if_ne (tgt := 28) hx hb dX11_inTime_20 (by decide) (fun c_70638 => ?_) (fun c_70638 => ?_)
    · refine lv_iload_n hx hb dX11_inTime_28 rfl (lv_at hl 2 rfl) ?_
      refine lv_iconst (v := 1) hx hb dX11_inTime_29 (by decide) ?_
      refine lv_icmp_ne (tgt := 37) hx hb dX11_inTime_30 (by decide) (fun c_70640 => ?_) (fun c_70640 => ?_)
      · refine lv_aload_n hx hb dX11_inTime_37 rfl (lv_at hl 1 rfl) ?_
        refine pg_get S Y ok_X11 8 (by decide) kf11_75 (v := .ref (ad 8 0)) p_ad_0_0 rfl dX11_inTime_38 ?_
        refine lv_iload_n hx hb dX11_inTime_41 rfl (lv_at hl 0 rfl) ?_
        refine lv_sipush (v := 999) hx hb dX11_inTime_42 (by decide) ?_
        refine cVp (As := [.int r_70637, .int 999]) (rest := []) S Y (x_X0_workOf (l := l) I hW hT hQ) cw_X0_workOf km11_304 (I.opo (k := 8) (j := 0) (by decide) rfl).choose_spec.1 ok_X0.1 rfl rfl ⟨Nat.le_of_ble_eq_true rfl, Nat.le_of_ble_eq_true rfl⟩ hl.1 rfl (Nat.le_of_ble_eq_true rfl) ⟨Nat.le_of_ble_eq_true rfl, Nat.le_of_ble_eq_true rfl⟩ dX11_inTime_45 (fun r_70642 H locs er_70642 Y => ?_)
        exact prI (post := fun r L1 f1 => SH (spC (NR 30 0 4) ((0, 6) : Int × Int) tc w q) nnC G ad L1 f1) S Y rfl (by decide) (by decide) hA1 I dX11_inTime_48
      · have B_70641 : bn 1 1 i1 := bn_w (bn_eq c_70640 (show bn 1 1 (1 : Int32) from bn_k (by decide))) (by decide)
        refine lv_iload_n hx hb dX11_inTime_33 rfl (lv_at hl 0 rfl) ?_
        refine lv_goto (tgt := 48) hx hb dX11_inTime_34 (by decide) ?_
        exact prI (post := fun r L1 f1 => SH (spC (NR 30 0 4) ((0, 6) : Int × Int) tc w q) nnC G ad L1 f1) S Y rfl (by decide) (by decide) hA1 I dX11_inTime_48
    · have B_70639 : bn 0 0 i1 := bn_w (bn_eq c_70638 (show bn 0 0 (0 : Int32) from bn_k (by decide))) (by decide)
      refine lv_iload_n hx hb dX11_inTime_23 rfl (lv_at hl 0 rfl) ?_
      refine cSp (As := [.int r_70637]) (rest := []) S Y (x_bitCount (l := l) ) cw_X106_bitCount_0f7a4 km11_299 rfl ⟨Nat.le_of_ble_eq_true rfl, Nat.le_of_ble_eq_true rfl⟩ hl.1 rfl (Nat.le_of_ble_eq_true rfl) ⟨Nat.le_of_ble_eq_true rfl, Nat.le_of_ble_eq_true rfl⟩ dX11_inTime_24 (fun r_70643 H locs er_70643 Y => ?_)
      exact prI (post := fun r L1 f1 => SH (spC (NR 30 0 4) ((0, 6) : Int × Int) tc w q) nnC G ad L1 f1) S Y rfl (by decide) (by decide) hA1 I dX11_inTime_27
  · have B_70636 : bn 0 0 r_70633 := bn_w (bn_eq c_70634 (show bn 0 0 (0 : Int32) from bn_k (by decide))) (by decide)
    refine lv_iconst (v := (-1)) hx hb dX11_inTime_9 (by decide) ?_
    exact prI (post := fun r L1 f1 => SH (spC (NR 30 0 4) ((0, 6) : Int × Int) tc w q) nnC G ad L1 f1) S Y rfl (by decide) (by decide) hA1 I dX11_inTime_10
set_option maxHeartbeats 4000000 in
set_option maxRecDepth 100000 in
theorem x_X11_whom {l : Launch} {G : GG}  {L : List Nat} {f : HF} {ad : Nat → Nat → Nat} {tc w : Nat → Int × Int} {q : Nat → (Nat → Int32) → Prop} {i1 : Int32} (I : SH (spC (NR 30 0 4) ((0, 6) : Int × Int) tc w q) nnC G ad L f) (hW : WBp w 8) (hT : WBp tc 4) (hQ : QIp q) (hZ : ZZp w q) (hE : ∀ j, (tc j).1 = (tc j).2) : PMi l yX11_whom cX11_whom 6 .int 4 0 0 G [.ref (ad 0 0), .int i1] L f (fun r L1 f1 => SH (spC (NR 30 0 4) ((0, 6) : Int × Int) tc w q) nnC G ad L1 f1) := by
  refine PMi.of (post := fun r L1 f1 => SH (spC (NR 30 0 4) ((0, 6) : Int × Int) tc w q) nnC G ad L1 f1) (own := RX11) (by decide) rfl (Nat.le_of_ble_eq_true rfl) (fun sz p e s m args below meth c A ls hA1 hname S Y hl => ?_)
  have hx := S.hx
  have hb := S.hb
  have hl : lv_has ls 6 [(0, .ref (ad 0 0)), (1, .int i1)] := hl
  have J_20 : ∀ (n20 : Nat) (y20_2 y20_3 y20_4 : Int32) (L_20 : List Nat) (f_20 : HF) (H : Heap) (locs : List Loc) (ls : Array Slot), (SH (spC (NR 30 0 4) ((0, 6) : Int × Int) tc w q) nnC G ad L_20 f_20) → (bn (-1) 5 y20_2) → (bn 0 6 y20_4) → (((6 : Int) - y20_4.toInt).toNat = n20) → (DY G A s [] L_20 f_20 H locs) → (lv_has ls 6 [(0, .ref (ad 0 0)), (1, .int i1), (2, .int y20_2), (3, .int y20_3), (4, .int y20_4)]) → W p l e (rmD 4 0 0) s m args below meth c H locs (0) (0) (MQ below (va_Qi (fun r (u : List Nat × HF) => (fun r L1 f1 => SH (spC (NR 30 0 4) ((0, 6) : Int × Int) tc w q) nnC G ad L1 f1) r u.1 u.2) (fun u t => pOut G (va_A (va_pl L f) sz) u.1 u.2 t) (va_A (va_pl L f) sz)) args s 0 0 A) (F0 m 20 ls []) := by
    intro n20
    induction n20 using Nat.strongRecOn with
    | _ n20 ih20 =>
      intro y20_2 y20_3 y20_4 L_20 f_20 H locs ls I b_y20_2 b_y20_4 hm20 Y hl
      refine lv_iload hx hb dX11_whom_20 (lv_at hl 4 rfl) ?_
      refine lv_aload_n hx hb dX11_whom_22 rfl (lv_at hl 0 rfl) ?_
      have p_ad_0_0 := opnC_0 (j := 0) I (by decide)
      have p_ad_0_0 : pt L_20 f_20 (ad 0 0) (.inr (11, [.ref (ad 1 0), .ref (ad 1 1), .ref (ad 2 0), .ref (ad 3 0), .ref (ad 4 0), .ref (ad 5 0), .ref (ad 6 0), .ref (ad 7 0), .ref (ad 8 0)])) := p_ad_0_0
      refine pg_get S Y ok_X11 0 (by decide) kf11_13 (v := .ref (ad 1 0)) p_ad_0_0 rfl dX11_whom_23 ?_
      obtain ⟨v_70867, v_70869, v_70871, v_70873, v_70875, p_ad_1_0, b_70868, b_70870, b_70872, b_70874, b_70876⟩ := opnC_1 (j := 0) I (by decide)
      have p_ad_1_0 : pt L_20 f_20 (ad 1 0) (.inr (10, [.ref (ad 40 0), .ref (ad 41 0), .ref (ad 42 0), .ref (ad 10 0), .ref (ad 43 0), .ref (ad 20 0), .ref (ad 20 1), .ref (ad 20 2), .ref (ad 20 3), .ref (ad 20 4), .int v_70867, .int v_70869, .int v_70871, .int v_70873, .int v_70875])) := p_ad_1_0
      refine pg_getN S Y ok_X10 10 (by decide) kf11_174 (v := .int v_70867) p_ad_1_0 rfl dX11_whom_26 ?_
      refine lv_icmp_ge (tgt := 89) hx hb dX11_whom_29 (by decide) (fun c_70877 => ?_) (fun c_70877 => ?_)
      · refine lv_iload_n hx hb dX11_whom_89 rfl (lv_at hl 2 rfl) ?_
        exact prI (post := fun r L1 f1 => SH (spC (NR 30 0 4) ((0, 6) : Int × Int) tc w q) nnC G ad L1 f1) S Y rfl (by decide) (by decide) hA1 I dX11_whom_90
      · have B_70878 : bn 1 6 v_70867 := bn_w (bn_gtl c_70877 b_70868 b_y20_4) (by decide)
        have B_70879 : bn 0 5 y20_4 := bn_w (bn_gtr c_70877 b_70868 b_y20_4) (by decide)
        refine lv_iload hx hb dX11_whom_32 (lv_at hl 4 rfl) ?_
        refine lv_iload_n hx hb dX11_whom_34 rfl (lv_at hl 1 rfl) ?_
        refine lv_icmp_ne (tgt := 42) hx hb dX11_whom_35 (by decide) (fun c_70880 => ?_) (fun c_70880 => ?_)
        · refine lv_aload_n hx hb dX11_whom_42 rfl (lv_at hl 0 rfl) ?_
          refine pg_get S Y ok_X11 3 (by decide) kf11_34 (v := .ref (ad 3 0)) p_ad_0_0 rfl dX11_whom_43 ?_
          refine lv_aload_n hx hb dX11_whom_46 rfl (lv_at hl 0 rfl) ?_
          refine pg_get S Y ok_X11 0 (by decide) kf11_13 (v := .ref (ad 1 0)) p_ad_0_0 rfl dX11_whom_47 ?_
          refine pg_getN S Y ok_X10 3 (by decide) kf11_131 (v := .ref (ad 10 0)) p_ad_1_0 rfl dX11_whom_50 ?_
          refine lv_iload hx hb dX11_whom_53 (lv_at hl 4 rfl) ?_
          refine cVi (As := [.ref (ad 10 0), .int y20_4]) (rest := []) S Y (x_X3_riskOf (l := l) (j := 0) I hW hT hQ (by decide)) cw_X3_riskOf km11_205 (I.opo (k := 3) (j := 0) (by decide) rfl).choose_spec.1 ok_X3.1 rfl rfl ⟨Nat.le_of_ble_eq_true rfl, Nat.le_of_ble_eq_true rfl⟩ hl.1 rfl (Nat.le_of_ble_eq_true rfl) ⟨Nat.le_of_ble_eq_true rfl, Nat.le_of_ble_eq_true rfl⟩ dX11_whom_55 (fun r_70883 L_70881 f_70882 H locs I Y => ?_)
          refine lv_istore (lv' := [(5, .int r_70883), (0, .ref (ad 0 0)), (1, .int i1), (2, .int y20_2), (3, .int y20_3), (4, .int y20_4)]) hx hb dX11_whom_58 hl (by decide) rfl (fun ls hl => ?_)
          refine lv_iload hx hb dX11_whom_60 (lv_at hl 5 rfl) ?_
          refine lv_iload_n hx hb dX11_whom_62 rfl (lv_at hl 2 rfl) ?_
          refine lv_icmp_eq (tgt := 83) hx hb dX11_whom_63 (by decide) (fun h => absurd h c_70880) (fun _ => ?_)
          refine lv_iload_n hx hb dX11_whom_66 rfl (lv_at hl 3 rfl) ?_
          refine lv_iconst (v := (-1)) hx hb dX11_whom_67 (by decide) ?_
          refine lv_icmp_eq (tgt := 77) hx hb dX11_whom_68 (by decide) (fun c_70884 => ?_) (fun c_70884 => ?_)
          · have B_70885 : bn (-1) (-1) y20_2 := bn_w (bn_eq c_70884 (show bn (-1) (-1) ((-1) : Int32) from bn_k (by decide))) (by decide)
            refine lv_iload hx hb dX11_whom_77 (lv_at hl 5 rfl) ?_
            refine lv_istore_n (lv' := [(2, .int y20_4), (5, .int r_70883), (0, .ref (ad 0 0)), (1, .int i1), (3, .int y20_3), (4, .int y20_4)]) hx hb dX11_whom_79 rfl hl (by decide) rfl (fun ls hl => ?_)
            refine lv_iload hx hb dX11_whom_80 (lv_at hl 1 rfl) ?_
            refine lv_istore_n (lv' := [(3, .int r_70883), (2, .int y20_4), (5, .int r_70883), (0, .ref (ad 0 0)), (1, .int i1), (4, .int y20_4)]) hx hb dX11_whom_82 rfl hl (by decide) rfl (fun ls hl => ?_)
            obtain ⟨x_70887, ex_70887⟩ : ∃ z : Int32, z = y20_4 + 1 := ⟨_, rfl⟩
            refine lv_iinc (v := x_70887) (lv' := [(4, .int x_70887), (3, .int r_70883), (2, .int y20_4), (5, .int r_70883), (0, .ref (ad 0 0)), (1, .int i1)]) hx hb dX11_whom_83 hl (k := 5) rfl (by rw [ex_70887]; rfl) (by decide) rfl (fun ls hl => ?_)
            refine lv_goto (tgt := 20) hx hb dX11_whom_86 (by decide) ?_
            exact ih20 _ (by rw [← hm20]; exact ms_up (m := 1) ex_70887 (show bn 1 1 (1 : Int32) from bn_k (by decide)) B_70879 (bn_w (bn_eq ex_70887 (bn_add B_70879 (show bn 1 1 (1 : Int32) from bn_k (by decide)) (by decide))) (by decide) : bn 0 6 x_70887) (by decide)) y20_4 r_70883 x_70887 _ _  _ _ _ I (bn_w B_70879 (by decide)) (bn_w (bn_eq ex_70887 (bn_add B_70879 (show bn 1 1 (1 : Int32) from bn_k (by decide)) (by decide))) (by decide)) rfl Y (lv_sub hl [4, 5, 2, 1, 0] rfl)
          · have B_70886 : bn 0 5 y20_2 := bn_w (bn_nel c_70884 b_y20_2 (show bn (-1) (-1) ((-1) : Int32) from bn_k (by decide))) (by decide)
            refine lv_iload hx hb dX11_whom_71 (lv_at hl 0 rfl) ?_
            refine lv_iload_n hx hb dX11_whom_73 rfl (lv_at hl 4 rfl) ?_
            refine lv_icmp_ge (tgt := 83) hx hb dX11_whom_74 (by decide) (fun c_70888 => ?_) (fun c_70888 => ?_)
            · obtain ⟨x_70891, ex_70891⟩ : ∃ z : Int32, z = y20_4 + 1 := ⟨_, rfl⟩
              refine lv_iinc (v := x_70891) (lv' := [(4, .int x_70891), (5, .int r_70883), (0, .ref (ad 0 0)), (1, .int i1), (2, .int y20_2), (3, .int y20_3)]) hx hb dX11_whom_83 hl (k := 5) rfl (by rw [ex_70891]; rfl) (by decide) rfl (fun ls hl => ?_)
              refine lv_goto (tgt := 20) hx hb dX11_whom_86 (by decide) ?_
              exact ih20 _ (by rw [← hm20]; exact ms_up (m := 1) ex_70891 (show bn 1 1 (1 : Int32) from bn_k (by decide)) B_70879 (bn_w (bn_eq ex_70891 (bn_add B_70879 (show bn 1 1 (1 : Int32) from bn_k (by decide)) (by decide))) (by decide) : bn 0 6 x_70891) (by decide)) y20_2 y20_3 x_70891 _ _  _ _ _ I (bn_w B_70886 (by decide)) (bn_w (bn_eq ex_70891 (bn_add B_70879 (show bn 1 1 (1 : Int32) from bn_k (by decide)) (by decide))) (by decide)) rfl Y (lv_sub hl [2, 3, 4, 5, 0] rfl)
            · have B_70889 : bn (-2147483647) 2147483647 y20_3 := bn_w (bn_gtl c_70888 (bn_any y20_3) (bn_any r_70883)) (by decide)
              have B_70890 : bn (-2147483648) 2147483646 r_70883 := bn_w (bn_gtr c_70888 (bn_any y20_3) (bn_any r_70883)) (by decide)
              refine lv_iload hx hb dX11_whom_77 (lv_at hl 5 rfl) ?_
              refine lv_istore_n (lv' := [(2, .int y20_4), (5, .int r_70883), (0, .ref (ad 0 0)), (1, .int i1), (3, .int y20_3), (4, .int y20_4)]) hx hb dX11_whom_79 rfl hl (by decide) rfl (fun ls hl => ?_)
              refine lv_iload hx hb dX11_whom_80 (lv_at hl 1 rfl) ?_
              refine lv_istore_n (lv' := [(3, .int r_70883), (2, .int y20_4), (5, .int r_70883), (0, .ref (ad 0 0)), (1, .int i1), (4, .int y20_4)]) hx hb dX11_whom_82 rfl hl (by decide) rfl (fun ls hl => ?_)
              obtain ⟨x_70892, ex_70892⟩ : ∃ z : Int32, z = y20_4 + 1 := ⟨_, rfl⟩
              refine lv_iinc (v := x_70892) (lv' := [(4, .int x_70892), (3, .int r_70883), (2, .int y20_4), (5, .int r_70883), (0, .ref (ad 0 0)), (1, .int i1)]) hx hb dX11_whom_83 hl (k := 5) rfl (by rw [ex_70892]; rfl) (by decide) rfl (fun ls hl => ?_)
              refine lv_goto (tgt := 20) hx hb dX11_whom_86 (by decide) ?_
              exact ih20 _ (by rw [← hm20]; exact ms_up (m := 1) ex_70892 (show bn 1 1 (1 : Int32) from bn_k (by decide)) B_70879 (bn_w (bn_eq ex_70892 (bn_add B_70879 (show bn 1 1 (1 : Int32) from bn_k (by decide)) (by decide))) (by decide) : bn 0 6 x_70892) (by decide)) y20_4 r_70883 x_70892 _ _  _ _ _ I (bn_w B_70879 (by decide)) (bn_w (bn_eq ex_70892 (bn_add B_70879 (show bn 1 1 (1 : Int32) from bn_k (by decide)) (by decide))) (by decide)) rfl Y (lv_sub hl [4, 5, 2, 1, 0] rfl)
        · refine lv_iconst (v := 0) hx hb dX11_whom_38 (by decide) ?_
          refine lv_goto (tgt := 58) hx hb dX11_whom_39 (by decide) ?_
          refine lv_istore (lv' := [(5, .int 0), (0, .ref (ad 0 0)), (1, .int i1), (2, .int y20_2), (3, .int y20_3), (4, .int y20_4)]) hx hb dX11_whom_58 hl (by decide) rfl (fun ls hl => ?_)
          refine lv_iload hx hb dX11_whom_60 (lv_at hl 5 rfl) ?_
          refine lv_iload_n hx hb dX11_whom_62 rfl (lv_at hl 2 rfl) ?_
          refine lv_icmp_eq (tgt := 83) hx hb dX11_whom_63 (by decide) (fun _ => ?_) (fun h => absurd c_70880 h)
          obtain ⟨x_70893, ex_70893⟩ : ∃ z : Int32, z = y20_4 + 1 := ⟨_, rfl⟩
          refine lv_iinc (v := x_70893) (lv' := [(4, .int x_70893), (5, .int 0), (0, .ref (ad 0 0)), (1, .int i1), (2, .int y20_2), (3, .int y20_3)]) hx hb dX11_whom_83 hl (k := 5) rfl (by rw [ex_70893]; rfl) (by decide) rfl (fun ls hl => ?_)
          refine lv_goto (tgt := 20) hx hb dX11_whom_86 (by decide) ?_
          exact ih20 _ (by rw [← hm20]; exact ms_up (m := 1) ex_70893 (show bn 1 1 (1 : Int32) from bn_k (by decide)) B_70879 (bn_w (bn_eq ex_70893 (bn_add B_70879 (show bn 1 1 (1 : Int32) from bn_k (by decide)) (by decide))) (by decide) : bn 0 6 x_70893) (by decide)) y20_2 y20_3 x_70893 _ _  _ _ _ I (bn_w b_y20_2 (by decide)) (bn_w (bn_eq ex_70893 (bn_add B_70879 (show bn 1 1 (1 : Int32) from bn_k (by decide)) (by decide))) (by decide)) rfl Y (lv_sub hl [2, 3, 4, 5, 0] rfl)
  refine lv_aload_n hx hb dX11_whom_0 rfl (lv_at hl 0 rfl) ?_
  have p_ad_0_0 := opnC_0 (j := 0) I (by decide)
  have p_ad_0_0 : pt L f (ad 0 0) (.inr (11, [.ref (ad 1 0), .ref (ad 1 1), .ref (ad 2 0), .ref (ad 3 0), .ref (ad 4 0), .ref (ad 5 0), .ref (ad 6 0), .ref (ad 7 0), .ref (ad 8 0)])) := p_ad_0_0
  refine pg_get S Y ok_X11 0 (by decide) kf11_13 (v := .ref (ad 1 0)) p_ad_0_0 rfl dX11_whom_1 ?_
  refine lv_iload_n hx hb dX11_whom_4 rfl (lv_at hl 1 rfl) ?_
  refine cVp (As := [.int i1]) (rest := []) S Y (x_X10_has (l := l) I hW hT hQ) cw_X10_has km11_192 (I.opo (k := 1) (j := 0) (by decide) rfl).choose_spec.1 ok_X10.1 rfl rfl ⟨Nat.le_of_ble_eq_true rfl, Nat.le_of_ble_eq_true rfl⟩ hl.1 rfl (Nat.le_of_ble_eq_true rfl) ⟨Nat.le_of_ble_eq_true rfl, Nat.le_of_ble_eq_true rfl⟩ dX11_whom_5 (fun r_70894 H locs er_70894 Y => ?_)
  refine lv_if_ne (tgt := 13) hx hb dX11_whom_8 (by decide) (fun c_70895 => ?_) (fun c_70895 => ?_)
  · have B_70896 : bn 1 1 r_70894 := bn_w (bn_nel c_70895 er_70894 (show bn 0 0 (0 : Int32) from bn_k (by decide))) (by decide)
    refine lv_iconst (v := (-1)) hx hb dX11_whom_13 (by decide) ?_
    refine lv_istore_n (lv' := [(2, .int (-1)), (0, .ref (ad 0 0)), (1, .int i1)]) hx hb dX11_whom_14 rfl hl (by decide) rfl (fun ls hl => ?_)
    refine lv_iconst (v := 0) hx hb dX11_whom_15 (by decide) ?_
    refine lv_istore_n (lv' := [(3, .int 0), (2, .int (-1)), (0, .ref (ad 0 0)), (1, .int i1)]) hx hb dX11_whom_16 rfl hl (by decide) rfl (fun ls hl => ?_)
    refine lv_iconst (v := 0) hx hb dX11_whom_17 (by decide) ?_
    refine lv_istore (lv' := [(4, .int 0), (3, .int 0), (2, .int (-1)), (0, .ref (ad 0 0)), (1, .int i1)]) hx hb dX11_whom_18 hl (by decide) rfl (fun ls hl => ?_)
    exact J_20 _ (-1) 0 0 _ _  _ _ _ I (bn_w (show bn (-1) (-1) ((-1) : Int32) from bn_k (by decide)) (by decide)) (bn_w (show bn 0 0 (0 : Int32) from bn_k (by decide)) (by decide)) rfl Y (lv_sub hl [3, 4, 2, 1, 0] rfl)
  · have B_70897 : bn 0 0 r_70894 := bn_w (bn_eq c_70895 (show bn 0 0 (0 : Int32) from bn_k (by decide))) (by decide)
    refine lv_iconst (v := (-1)) hx hb dX11_whom_11 (by decide) ?_
    exact prI (post := fun r L1 f1 => SH (spC (NR 30 0 4) ((0, 6) : Int × Int) tc w q) nnC G ad L1 f1) S Y rfl (by decide) (by decide) hA1 I dX11_whom_12
set_option maxHeartbeats 4000000 in
set_option maxRecDepth 100000 in
theorem x_X11_ring {l : Launch} {G : GG}  {L : List Nat} {f : HF} {ad : Nat → Nat → Nat} {tc w : Nat → Int × Int} {q : Nat → (Nat → Int32) → Prop} (I : SH (spC (NR 30 0 4) ((0, 6) : Int × Int) tc w q) nnC G ad L f) (hW : WBp w 8) (hT : WBp tc 4) (hQ : QIp q) (hZ : ZZp w q) (hE : ∀ j, (tc j).1 = (tc j).2) : PMi l yX11_ring cX11_ring 1 .int 16 0 0 G [.ref (ad 0 0)] L f (fun r L1 f1 => SH (spC (NR 30 0 4) ((0, 6) : Int × Int) tc w q) nnC G ad L1 f1) := by
  refine PMi.of (post := fun r L1 f1 => SH (spC (NR 30 0 4) ((0, 6) : Int × Int) tc w q) nnC G ad L1 f1) (own := RX11) (by decide) rfl (Nat.le_of_ble_eq_true rfl) (fun sz p e s m args below meth c A ls hA1 hname S Y hl => ?_)
  have hx := S.hx
  have hb := S.hb
  have hl : lv_has ls 1 [(0, .ref (ad 0 0))] := hl
  refine lv_aload_n hx hb dX11_ring_0 rfl (lv_at hl 0 rfl) ?_
  have p_ad_0_0 := opnC_0 (j := 0) I (by decide)
  have p_ad_0_0 : pt L f (ad 0 0) (.inr (11, [.ref (ad 1 0), .ref (ad 1 1), .ref (ad 2 0), .ref (ad 3 0), .ref (ad 4 0), .ref (ad 5 0), .ref (ad 6 0), .ref (ad 7 0), .ref (ad 8 0)])) := p_ad_0_0
  refine pg_get S Y ok_X11 4 (by decide) kf11_41 (v := .ref (ad 4 0)) p_ad_0_0 rfl dX11_ring_1 ?_
  refine cVi (As := []) (rest := []) S Y (x_X6_shortest (l := l) I hW hT hQ) cw_X6_shortest km11_307 (I.opo (k := 4) (j := 0) (by decide) rfl).choose_spec.1 ok_X6.1 rfl rfl ⟨Nat.le_of_ble_eq_true rfl, Nat.le_of_ble_eq_true rfl⟩ hl.1 rfl (Nat.le_of_ble_eq_true rfl) ⟨Nat.le_of_ble_eq_true rfl, Nat.le_of_ble_eq_true rfl⟩ dX11_ring_4 (fun r_70906 L_70904 f_70905 H locs I Y => ?_)
  exact prI (post := fun r L1 f1 => SH (spC (NR 30 0 4) ((0, 6) : Int × Int) tc w q) nnC G ad L1 f1) S Y rfl (by decide) (by decide) hA1 I dX11_ring_7
set_option maxHeartbeats 4000000 in
set_option maxRecDepth 100000 in
theorem x_X11_allSeen {l : Launch} {G : GG}  {L : List Nat} {f : HF} {ad : Nat → Nat → Nat} {tc w : Nat → Int × Int} {q : Nat → (Nat → Int32) → Prop} (I : SH (spC (NR 30 0 4) ((0, 6) : Int × Int) tc w q) nnC G ad L f) (hW : WBp w 8) (hT : WBp tc 4) (hQ : QIp q) (hZ : ZZp w q) (hE : ∀ j, (tc j).1 = (tc j).2) : PMi l yX11_allSeen cX11_allSeen 1 .int 5 0 0 G [.ref (ad 0 0)] L f (fun r L1 f1 => SH (spC (NR 30 0 4) ((0, 6) : Int × Int) tc w q) nnC G ad L1 f1) := by
  refine PMi.of (post := fun r L1 f1 => SH (spC (NR 30 0 4) ((0, 6) : Int × Int) tc w q) nnC G ad L1 f1) (own := RX11) (by decide) rfl (Nat.le_of_ble_eq_true rfl) (fun sz p e s m args below meth c A ls hA1 hname S Y hl => ?_)
  have hx := S.hx
  have hb := S.hb
  have hl : lv_has ls 1 [(0, .ref (ad 0 0))] := hl
  refine lv_aload_n hx hb dX11_allSeen_0 rfl (lv_at hl 0 rfl) ?_
  have p_ad_0_0 := opnC_0 (j := 0) I (by decide)
  have p_ad_0_0 : pt L f (ad 0 0) (.inr (11, [.ref (ad 1 0), .ref (ad 1 1), .ref (ad 2 0), .ref (ad 3 0), .ref (ad 4 0), .ref (ad 5 0), .ref (ad 6 0), .ref (ad 7 0), .ref (ad 8 0)])) := p_ad_0_0
  refine pg_get S Y ok_X11 8 (by decide) kf11_75 (v := .ref (ad 8 0)) p_ad_0_0 rfl dX11_allSeen_1 ?_
  refine cVp (As := []) (rest := []) S Y (x_X0_fewestAsked (l := l) I hW hT hQ) cw_X0_fewestAsked km11_310 (I.opo (k := 8) (j := 0) (by decide) rfl).choose_spec.1 ok_X0.1 rfl rfl ⟨Nat.le_of_ble_eq_true rfl, Nat.le_of_ble_eq_true rfl⟩ hl.1 rfl (Nat.le_of_ble_eq_true rfl) ⟨Nat.le_of_ble_eq_true rfl, Nat.le_of_ble_eq_true rfl⟩ dX11_allSeen_4 (fun r_70909 H locs er_70909 Y => ?_)
  exact prI (post := fun r L1 f1 => SH (spC (NR 30 0 4) ((0, 6) : Int × Int) tc w q) nnC G ad L1 f1) S Y rfl (by decide) (by decide) hA1 I dX11_allSeen_7
set_option maxHeartbeats 4000000 in
set_option maxRecDepth 100000 in
theorem x_X11_saw {l : Launch} {G : GG}  {L : List Nat} {f : HF} {ad : Nat → Nat → Nat} {tc w : Nat → Int × Int} {q : Nat → (Nat → Int32) → Prop} {i1 i2 : Int32} (I : SH (spC (NR 30 0 4) ((0, 6) : Int × Int) tc w q) nnC G ad L f) (hW : WBp w 8) (hT : WBp tc 4) (hQ : QIp q) (hZ : ZZp w q) (hE : ∀ j, (tc j).1 = (tc j).2) : PMi l yX11_saw cX11_saw 3 .int 1 0 0 G [.ref (ad 0 0), .int i1, .int i2] L f (fun r L1 f1 => SH (spC (NR 30 0 4) ((0, 6) : Int × Int) tc w q) nnC G ad L1 f1) := by
  refine PMi.of (post := fun r L1 f1 => SH (spC (NR 30 0 4) ((0, 6) : Int × Int) tc w q) nnC G ad L1 f1) (own := RX11) (by decide) rfl (Nat.le_of_ble_eq_true rfl) (fun sz p e s m args below meth c A ls hA1 hname S Y hl => ?_)
  have hx := S.hx
  have hb := S.hb
  have hl : lv_has ls 3 [(0, .ref (ad 0 0)), (1, .int i1), (2, .int i2)] := hl
  refine lv_iload_n hx hb dX11_saw_0 rfl (lv_at hl 1 rfl) ?_
  refine lv_iconst (v := (-1)) hx hb dX11_saw_1 (by decide) ?_
  refine lv_icmp_ne (tgt := 16) hx hb dX11_saw_2 (by decide) (fun c_70984 => ?_) (fun c_70984 => ?_)
  · refine lv_aload_n hx hb dX11_saw_16 rfl (lv_at hl 0 rfl) ?_
    have p_ad_0_0 := opnC_0 (j := 0) I (by decide)
    have p_ad_0_0 : pt L f (ad 0 0) (.inr (11, [.ref (ad 1 0), .ref (ad 1 1), .ref (ad 2 0), .ref (ad 3 0), .ref (ad 4 0), .ref (ad 5 0), .ref (ad 6 0), .ref (ad 7 0), .ref (ad 8 0)])) := p_ad_0_0
    refine pg_get S Y ok_X11 0 (by decide) kf11_13 (v := .ref (ad 1 0)) p_ad_0_0 rfl dX11_saw_17 ?_
    refine lv_iload_n hx hb dX11_saw_20 rfl (lv_at hl 1 rfl) ?_
    refine cVp (As := [.int i1]) (rest := []) S Y (x_X10_has (l := l) I hW hT hQ) cw_X10_has km11_192 (I.opo (k := 1) (j := 0) (by decide) rfl).choose_spec.1 ok_X10.1 rfl rfl ⟨Nat.le_of_ble_eq_true rfl, Nat.le_of_ble_eq_true rfl⟩ hl.1 rfl (Nat.le_of_ble_eq_true rfl) ⟨Nat.le_of_ble_eq_true rfl, Nat.le_of_ble_eq_true rfl⟩ dX11_saw_21 (fun r_70986 H locs er_70986 Y => ?_)
    refine lv_if_eq (tgt := 43) hx hb dX11_saw_24 (by decide) (fun c_70987 => ?_) (fun c_70987 => ?_)
    · have B_70988 : bn 0 0 r_70986 := bn_w (bn_eq c_70987 (show bn 0 0 (0 : Int32) from bn_k (by decide))) (by decide)
      refine lv_bipush (v := (-2)) hx hb dX11_saw_43 (by decide) ?_
      exact prI (post := fun r L1 f1 => SH (spC (NR 30 0 4) ((0, 6) : Int × Int) tc w q) nnC G ad L1 f1) S Y rfl (by decide) (by decide) hA1 I dX11_saw_45
    · have B_70989 : bn 1 1 r_70986 := bn_w (bn_nel c_70987 er_70986 (show bn 0 0 (0 : Int32) from bn_k (by decide))) (by decide)
      refine lv_aload_n hx hb dX11_saw_27 rfl (lv_at hl 0 rfl) ?_
      refine pg_get S Y ok_X11 0 (by decide) kf11_13 (v := .ref (ad 1 0)) p_ad_0_0 rfl dX11_saw_28 ?_
      refine lv_iload_n hx hb dX11_saw_31 rfl (lv_at hl 2 rfl) ?_
      refine cVp (As := [.int i2]) (rest := []) S Y (x_X10_has (l := l) I hW hT hQ) cw_X10_has km11_192 (I.opo (k := 1) (j := 0) (by decide) rfl).choose_spec.1 ok_X10.1 rfl rfl ⟨Nat.le_of_ble_eq_true rfl, Nat.le_of_ble_eq_true rfl⟩ hl.1 rfl (Nat.le_of_ble_eq_true rfl) ⟨Nat.le_of_ble_eq_true rfl, Nat.le_of_ble_eq_true rfl⟩ dX11_saw_32 (fun r_70990 H locs er_70990 Y => ?_)
      refine lv_if_eq (tgt := 43) hx hb dX11_saw_35 (by decide) (fun c_70991 => ?_) (fun c_70991 => ?_)
      · have B_70992 : bn 0 0 r_70990 := bn_w (bn_eq c_70991 (show bn 0 0 (0 : Int32) from bn_k (by decide))) (by decide)
        refine lv_bipush (v := (-2)) hx hb dX11_saw_43 (by decide) ?_
        exact prI (post := fun r L1 f1 => SH (spC (NR 30 0 4) ((0, 6) : Int × Int) tc w q) nnC G ad L1 f1) S Y rfl (by decide) (by decide) hA1 I dX11_saw_45
      · have B_70993 : bn 1 1 r_70990 := bn_w (bn_nel c_70991 er_70990 (show bn 0 0 (0 : Int32) from bn_k (by decide))) (by decide)
        refine lv_iload_n hx hb dX11_saw_38 rfl (lv_at hl 1 rfl) ?_
        refine lv_iload_n hx hb dX11_saw_39 rfl (lv_at hl 2 rfl) ?_
        refine lv_icmp_ne (tgt := 46) hx hb dX11_saw_40 (by decide) (fun c_70994 => ?_) (fun c_70994 => ?_)
        · refine lv_aload_n hx hb dX11_saw_46 rfl (lv_at hl 0 rfl) ?_
          refine pg_get S Y ok_X11 0 (by decide) kf11_13 (v := .ref (ad 1 0)) p_ad_0_0 rfl dX11_saw_47 ?_
          obtain ⟨v_70995, v_70997, v_70999, v_71001, v_71003, p_ad_1_0, b_70996, b_70998, b_71000, b_71002, b_71004⟩ := opnC_1 (j := 0) I (by decide)
          have p_ad_1_0 : pt L f (ad 1 0) (.inr (10, [.ref (ad 40 0), .ref (ad 41 0), .ref (ad 42 0), .ref (ad 10 0), .ref (ad 43 0), .ref (ad 20 0), .ref (ad 20 1), .ref (ad 20 2), .ref (ad 20 3), .ref (ad 20 4), .int v_70995, .int v_70997, .int v_70999, .int v_71001, .int v_71003])) := p_ad_1_0
          refine pg_getN S Y ok_X10 8 (by decide) kf11_313 (v := .ref (ad 20 3)) p_ad_1_0 rfl dX11_saw_50 ?_
          refine lv_iload_n hx hb dX11_saw_53 rfl (lv_at hl 1 rfl) ?_
          refine lv_iload_n hx hb dX11_saw_54 rfl (lv_at hl 2 rfl) ?_
          refine lv_iconst (v := 0) hx hb dX11_saw_55 (by decide) ?_
          refine cVi (As := [.int i1, .int i2, .int 0]) (rest := []) S Y (x_X9_tell (l := l) (j := 3) I hW hT hQ (by decide) (hZ _ (by decide) (by decide) (by decide)).1 (hZ _ (by decide) (by decide) (by decide)).2) cw_X9_tell km11_258 (I.opo (k := 20) (j := 3) (by decide) rfl).choose_spec.1 ok_X9.1 rfl rfl ⟨Nat.le_of_ble_eq_true rfl, Nat.le_of_ble_eq_true rfl⟩ hl.1 rfl (Nat.le_of_ble_eq_true rfl) ⟨Nat.le_of_ble_eq_true rfl, Nat.le_of_ble_eq_true rfl⟩ dX11_saw_56 (fun r_71007 L_71005 f_71006 H locs I Y => ?_)
          exact prI (post := fun r L1 f1 => SH (spC (NR 30 0 4) ((0, 6) : Int × Int) tc w q) nnC G ad L1 f1) S Y rfl (by decide) (by decide) hA1 I dX11_saw_59
        · refine lv_bipush (v := (-2)) hx hb dX11_saw_43 (by decide) ?_
          exact prI (post := fun r L1 f1 => SH (spC (NR 30 0 4) ((0, 6) : Int × Int) tc w q) nnC G ad L1 f1) S Y rfl (by decide) (by decide) hA1 I dX11_saw_45
  · have B_70985 : bn (-1) (-1) i1 := bn_w (bn_eq c_70984 (show bn (-1) (-1) ((-1) : Int32) from bn_k (by decide))) (by decide)
    refine lv_aload_n hx hb dX11_saw_5 rfl (lv_at hl 0 rfl) ?_
    have p_ad_0_0 := opnC_0 (j := 0) I (by decide)
    have p_ad_0_0 : pt L f (ad 0 0) (.inr (11, [.ref (ad 1 0), .ref (ad 1 1), .ref (ad 2 0), .ref (ad 3 0), .ref (ad 4 0), .ref (ad 5 0), .ref (ad 6 0), .ref (ad 7 0), .ref (ad 8 0)])) := p_ad_0_0
    refine pg_get S Y ok_X11 0 (by decide) kf11_13 (v := .ref (ad 1 0)) p_ad_0_0 rfl dX11_saw_6 ?_
    obtain ⟨v_71008, v_71010, v_71012, v_71014, v_71016, p_ad_1_0, b_71009, b_71011, b_71013, b_71015, b_71017⟩ := opnC_1 (j := 0) I (by decide)
    have p_ad_1_0 : pt L f (ad 1 0) (.inr (10, [.ref (ad 40 0), .ref (ad 41 0), .ref (ad 42 0), .ref (ad 10 0), .ref (ad 43 0), .ref (ad 20 0), .ref (ad 20 1), .ref (ad 20 2), .ref (ad 20 3), .ref (ad 20 4), .int v_71008, .int v_71010, .int v_71012, .int v_71014, .int v_71016])) := p_ad_1_0
    refine pg_getN S Y ok_X10 8 (by decide) kf11_313 (v := .ref (ad 20 3)) p_ad_1_0 rfl dX11_saw_9 ?_
    refine cVi (As := []) (rest := []) S Y (x_X9_forget (l := l) (j := 3) I hW hT hQ (by decide) (hZ _ (by decide) (by decide) (by decide)).1 (hZ _ (by decide) (by decide) (by decide)).2) cw_X9_forget km11_253 (I.opo (k := 20) (j := 3) (by decide) rfl).choose_spec.1 ok_X9.1 rfl rfl ⟨Nat.le_of_ble_eq_true rfl, Nat.le_of_ble_eq_true rfl⟩ hl.1 rfl (Nat.le_of_ble_eq_true rfl) ⟨Nat.le_of_ble_eq_true rfl, Nat.le_of_ble_eq_true rfl⟩ dX11_saw_12 (fun r_71020 L_71018 f_71019 H locs hr_71020 Y => ?_)
    obtain ⟨er_71020, I⟩ := hr_71020
    exact prI (post := fun r L1 f1 => SH (spC (NR 30 0 4) ((0, 6) : Int × Int) tc w q) nnC G ad L1 f1) S Y rfl (by decide) (by decide) hA1 I dX11_saw_15
set_option maxHeartbeats 4000000 in
set_option maxRecDepth 100000 in
theorem x_X11_known {l : Launch} {G : GG}  {L : List Nat} {f : HF} {ad : Nat → Nat → Nat} {tc w : Nat → Int × Int} {q : Nat → (Nat → Int32) → Prop} {i1 : Int32} (I : SH (spC (NR 30 0 4) ((0, 6) : Int × Int) tc w q) nnC G ad L f) (hW : WBp w 8) (hT : WBp tc 4) (hQ : QIp q) (hZ : ZZp w q) (hE : ∀ j, (tc j).1 = (tc j).2) : PMi l yX11_known cX11_known 2 .int 4 0 0 G [.ref (ad 0 0), .int i1] L f (fun r L1 f1 => SH (spC (NR 30 0 4) ((0, 6) : Int × Int) tc w q) nnC G ad L1 f1) := by
  refine PMi.of (post := fun r L1 f1 => SH (spC (NR 30 0 4) ((0, 6) : Int × Int) tc w q) nnC G ad L1 f1) (own := RX11) (by decide) rfl (Nat.le_of_ble_eq_true rfl) (fun sz p e s m args below meth c A ls hA1 hname S Y hl => ?_)
  have hx := S.hx
  have hb := S.hb
  have hl : lv_has ls 2 [(0, .ref (ad 0 0)), (1, .int i1)] := hl
  refine lv_aload_n hx hb dX11_known_0 rfl (lv_at hl 0 rfl) ?_
  have p_ad_0_0 := opnC_0 (j := 0) I (by decide)
  have p_ad_0_0 : pt L f (ad 0 0) (.inr (11, [.ref (ad 1 0), .ref (ad 1 1), .ref (ad 2 0), .ref (ad 3 0), .ref (ad 4 0), .ref (ad 5 0), .ref (ad 6 0), .ref (ad 7 0), .ref (ad 8 0)])) := p_ad_0_0
  refine pg_get S Y ok_X11 0 (by decide) kf11_13 (v := .ref (ad 1 0)) p_ad_0_0 rfl dX11_known_1 ?_
  refine lv_iload_n hx hb dX11_known_4 rfl (lv_at hl 1 rfl) ?_
  refine cVp (As := [.int i1]) (rest := []) S Y (x_X10_has (l := l) I hW hT hQ) cw_X10_has km11_192 (I.opo (k := 1) (j := 0) (by decide) rfl).choose_spec.1 ok_X10.1 rfl rfl ⟨Nat.le_of_ble_eq_true rfl, Nat.le_of_ble_eq_true rfl⟩ hl.1 rfl (Nat.le_of_ble_eq_true rfl) ⟨Nat.le_of_ble_eq_true rfl, Nat.le_of_ble_eq_true rfl⟩ dX11_known_5 (fun r_71031 H locs er_71031 Y => ?_)
  refine lv_if_eq (tgt := 22) hx hb dX11_known_8 (by decide) (fun c_71032 => ?_) (fun c_71032 => ?_)
  · have B_71033 : bn 0 0 r_71031 := bn_w (bn_eq c_71032 (show bn 0 0 (0 : Int32) from bn_k (by decide))) (by decide)
    refine lv_iconst (v := (-1)) hx hb dX11_known_22 (by decide) ?_
    exact prI (post := fun r L1 f1 => SH (spC (NR 30 0 4) ((0, 6) : Int × Int) tc w q) nnC G ad L1 f1) S Y rfl (by decide) (by decide) hA1 I dX11_known_23
  · have B_71034 : bn 1 1 r_71031 := bn_w (bn_nel c_71032 er_71031 (show bn 0 0 (0 : Int32) from bn_k (by decide))) (by decide)
    refine lv_aload_n hx hb dX11_known_11 rfl (lv_at hl 0 rfl) ?_
    refine pg_get S Y ok_X11 8 (by decide) kf11_75 (v := .ref (ad 8 0)) p_ad_0_0 rfl dX11_known_12 ?_
    refine lv_iload_n hx hb dX11_known_15 rfl (lv_at hl 1 rfl) ?_
    refine cVp (As := [.int i1]) (rest := []) S Y (x_X0_wordsOf (l := l) I hW hT hQ) cw_X0_wordsOf km11_316 (I.opo (k := 8) (j := 0) (by decide) rfl).choose_spec.1 ok_X0.1 rfl rfl ⟨Nat.le_of_ble_eq_true rfl, Nat.le_of_ble_eq_true rfl⟩ hl.1 rfl (Nat.le_of_ble_eq_true rfl) ⟨Nat.le_of_ble_eq_true rfl, Nat.le_of_ble_eq_true rfl⟩ dX11_known_16 (fun r_71035 H locs er_71035 Y => ?_)
    refine lv_goto (tgt := 23) hx hb dX11_known_19 (by decide) ?_
    exact prI (post := fun r L1 f1 => SH (spC (NR 30 0 4) ((0, 6) : Int × Int) tc w q) nnC G ad L1 f1) S Y rfl (by decide) (by decide) hA1 I dX11_known_23
set_option maxHeartbeats 4000000 in
set_option maxRecDepth 100000 in
theorem x_X11_together {l : Launch} {G : GG}  {L : List Nat} {f : HF} {ad : Nat → Nat → Nat} {tc w : Nat → Int × Int} {q : Nat → (Nat → Int32) → Prop} (I : SH (spC (NR 30 0 4) ((0, 6) : Int × Int) tc w q) nnC G ad L f) (hW : WBp w 8) (hT : WBp tc 4) (hQ : QIp q) (hZ : ZZp w q) (hE : ∀ j, (tc j).1 = (tc j).2) : PMi l yX11_together cX11_together 1 .int 5 0 0 G [.ref (ad 0 0)] L f (fun r L1 f1 => SH (spC (NR 30 0 4) ((0, 6) : Int × Int) tc w q) nnC G ad L1 f1) := by
  refine PMi.of (post := fun r L1 f1 => SH (spC (NR 30 0 4) ((0, 6) : Int × Int) tc w q) nnC G ad L1 f1) (own := RX11) (by decide) rfl (Nat.le_of_ble_eq_true rfl) (fun sz p e s m args below meth c A ls hA1 hname S Y hl => ?_)
  have hx := S.hx
  have hb := S.hb
  have hl : lv_has ls 1 [(0, .ref (ad 0 0))] := hl
  refine lv_aload_n hx hb dX11_together_0 rfl (lv_at hl 0 rfl) ?_
  have p_ad_0_0 := opnC_0 (j := 0) I (by decide)
  have p_ad_0_0 : pt L f (ad 0 0) (.inr (11, [.ref (ad 1 0), .ref (ad 1 1), .ref (ad 2 0), .ref (ad 3 0), .ref (ad 4 0), .ref (ad 5 0), .ref (ad 6 0), .ref (ad 7 0), .ref (ad 8 0)])) := p_ad_0_0
  refine pg_get S Y ok_X11 8 (by decide) kf11_75 (v := .ref (ad 8 0)) p_ad_0_0 rfl dX11_together_1 ?_
  refine cVi (As := []) (rest := []) S Y (x_X0_fewestKnowing (l := l) I hW hT hQ) cw_X0_fewestKnowing km11_319 (I.opo (k := 8) (j := 0) (by decide) rfl).choose_spec.1 ok_X0.1 rfl rfl ⟨Nat.le_of_ble_eq_true rfl, Nat.le_of_ble_eq_true rfl⟩ hl.1 rfl (Nat.le_of_ble_eq_true rfl) ⟨Nat.le_of_ble_eq_true rfl, Nat.le_of_ble_eq_true rfl⟩ dX11_together_4 (fun r_71044 L_71042 f_71043 H locs I Y => ?_)
  exact prI (post := fun r L1 f1 => SH (spC (NR 30 0 4) ((0, 6) : Int × Int) tc w q) nnC G ad L1 f1) S Y rfl (by decide) (by decide) hA1 I dX11_together_7
set_option maxHeartbeats 4000000 in
set_option maxRecDepth 100000 in
theorem x_X11_copy {l : Launch} {G : GG}  {L : List Nat} {f : HF} {ad : Nat → Nat → Nat} {tc w : Nat → Int × Int} {q : Nat → (Nat → Int32) → Prop} {i1 i2 i3 i4 : Int32} (I : SH (spC (NR 30 0 4) ((0, 6) : Int × Int) tc w q) nnC G ad L f) (hW : WBp w 8) (hT : WBp tc 4) (hQ : QIp q) (b_i4 : bn 0 1 i4) (hZ : ZZp w q) (hE : ∀ j, (tc j).1 = (tc j).2) : PMi l yX11_copy cX11_copy 10 .int 6 0 0 G [.ref (ad 0 0), .int i1, .int i2, .int i3, .int i4] L f (fun r L1 f1 => SH (spC (NR 30 0 4) ((0, 6) : Int × Int) tc w q) nnC G ad L1 f1) := by
  refine PMi.of (post := fun r L1 f1 => SH (spC (NR 30 0 4) ((0, 6) : Int × Int) tc w q) nnC G ad L1 f1) (own := RX11) (by decide) rfl (Nat.le_of_ble_eq_true rfl) (fun sz p e s m args below meth c A ls hA1 hname S Y hl => ?_)
  have hx := S.hx
  have hb := S.hb
  have hl : lv_has ls 10 [(0, .ref (ad 0 0)), (1, .int i1), (2, .int i2), (3, .int i3), (4, .int i4)] := hl
  have J_58 : ∀ (n58 : Nat) (y58_5 y58_6 y58_7 y58_8 : Int32) (L_58 : List Nat) (f_58 : HF) (H : Heap) (locs : List Loc) (ls : Array Slot), (SH (spC (NR 30 0 4) ((0, 6) : Int × Int) tc w q) nnC G ad L_58 f_58) → (bn 0 60 y58_6) → (bn 0 61 y58_8) → (((61 : Int) - y58_8.toInt).toNat = n58) → (DY G A s [] L_58 f_58 H locs) → (lv_has ls 10 [(0, .ref (ad 0 0)), (1, .int i1), (2, .int i2), (3, .int i3), (4, .int i4), (5, .int y58_5), (6, .int y58_6), (7, .int y58_7), (8, .int y58_8)]) → W p l e (rmD 6 0 0) s m args below meth c H locs (0) (0) (MQ below (va_Qi (fun r (u : List Nat × HF) => (fun r L1 f1 => SH (spC (NR 30 0 4) ((0, 6) : Int × Int) tc w q) nnC G ad L1 f1) r u.1 u.2) (fun u t => pOut G (va_A (va_pl L f) sz) u.1 u.2 t) (va_A (va_pl L f) sz)) args s 0 0 A) (F0 m 58 ls []) := by
    intro n58
    induction n58 using Nat.strongRecOn with
    | _ n58 ih58 =>
      intro y58_5 y58_6 y58_7 y58_8 L_58 f_58 H locs ls I b_y58_6 b_y58_8 hm58 Y hl
      refine lv_iload hx hb dX11_copy_58 (lv_at hl 8 rfl) ?_
      refine lv_bipush (v := 60) hx hb dX11_copy_60 (by decide) ?_
      refine lv_icmp_gt (tgt := 116) hx hb dX11_copy_62 (by decide) (fun c_72130 => ?_) (fun c_72130 => ?_)
      · have B_72131 : bn 61 61 y58_8 := bn_w (bn_ltr c_72130 (show bn 60 60 (60 : Int32) from bn_k (by decide)) b_y58_8) (by decide)
        refine lv_iload hx hb dX11_copy_116 (lv_at hl 4 rfl) ?_
        refine lv_if_eq (tgt := 126) hx hb dX11_copy_118 (by decide) (fun c_72133 => ?_) (fun c_72133 => ?_)
        · have B_72134 : bn 0 0 i4 := bn_w (bn_eq c_72133 (show bn 0 0 (0 : Int32) from bn_k (by decide))) (by decide)
          refine lv_iload hx hb dX11_copy_126 (lv_at hl 6 rfl) ?_
          exact prI (post := fun r L1 f1 => SH (spC (NR 30 0 4) ((0, 6) : Int × Int) tc w q) nnC G ad L1 f1) S Y rfl (by decide) (by decide) hA1 I dX11_copy_128
        · have B_72135 : bn 1 1 i4 := bn_w (bn_nel c_72133 b_i4 (show bn 0 0 (0 : Int32) from bn_k (by decide))) (by decide)
          refine lv_iload hx hb dX11_copy_121 (lv_at hl 7 rfl) ?_
          refine lv_goto (tgt := 128) hx hb dX11_copy_123 (by decide) ?_
          exact prI (post := fun r L1 f1 => SH (spC (NR 30 0 4) ((0, 6) : Int × Int) tc w q) nnC G ad L1 f1) S Y rfl (by decide) (by decide) hA1 I dX11_copy_128
      · have B_72132 : bn 0 60 y58_8 := bn_w (bn_ger c_72130 (show bn 60 60 (60 : Int32) from bn_k (by decide)) b_y58_8) (by decide)
        refine lv_iload hx hb dX11_copy_65 (lv_at hl 5 rfl) ?_
        refine lv_iconst (v := (-1)) hx hb dX11_copy_67 (by decide) ?_
        refine lv_icmp_eq (tgt := 82) hx hb dX11_copy_68 (by decide) (fun c_72136 => ?_) (fun c_72136 => ?_)
        · have B_72137 : bn (-1) (-1) y58_5 := bn_w (bn_eq c_72136 (show bn (-1) (-1) ((-1) : Int32) from bn_k (by decide))) (by decide)
          refine lv_iconst (v := 0) hx hb dX11_copy_82 (by decide) ?_
          refine lv_iload_n hx hb dX11_copy_83 rfl (lv_at hl 2 rfl) ?_
          refine lv_iload hx hb dX11_copy_84 (lv_at hl 8 rfl) ?_
          refine lv_imul hx hb dX11_copy_86 ?_
          refine lv_topi (fun x_72138 ex_72138 => ?_)
          refine lv_isub hx hb dX11_copy_87 ?_
          refine lv_topi (fun x_72139 ex_72139 => ?_)
          refine lv_istore (lv' := [(9, .int x_72139), (0, .ref (ad 0 0)), (1, .int i1), (2, .int i2), (3, .int i3), (4, .int i4), (5, .int y58_5), (6, .int y58_6), (7, .int y58_7), (8, .int y58_8)]) hx hb dX11_copy_88 hl (by decide) rfl (fun ls hl => ?_)
          refine lv_iload hx hb dX11_copy_90 (lv_at hl 9 rfl) ?_
          refine lv_if_eq (tgt := 102) hx hb dX11_copy_92 (by decide) (fun c_72140 => ?_) (fun c_72140 => ?_)
          · have B_72141 : bn 0 0 y58_8 := bn_w (bn_eq c_72140 (show bn 0 0 (0 : Int32) from bn_k (by decide))) (by decide)
            refine lv_iload hx hb dX11_copy_102 (lv_at hl 9 rfl) ?_
            refine lv_istore (lv' := [(6, .int y58_8), (9, .int x_72139), (0, .ref (ad 0 0)), (1, .int i1), (2, .int i2), (3, .int i3), (4, .int i4), (5, .int y58_5), (7, .int y58_7), (8, .int y58_8)]) hx hb dX11_copy_104 hl (by decide) rfl (fun ls hl => ?_)
            refine lv_iload hx hb dX11_copy_106 (lv_at hl 1 rfl) ?_
            refine lv_istore (lv' := [(7, .int x_72139), (6, .int y58_8), (9, .int x_72139), (0, .ref (ad 0 0)), (1, .int i1), (2, .int i2), (3, .int i3), (4, .int i4), (5, .int y58_5), (8, .int y58_8)]) hx hb dX11_copy_108 hl (by decide) rfl (fun ls hl => ?_)
            obtain ⟨x_72143, ex_72143⟩ : ∃ z : Int32, z = y58_8 + 1 := ⟨_, rfl⟩
            refine lv_iinc (v := x_72143) (lv' := [(8, .int x_72143), (7, .int x_72139), (6, .int y58_8), (9, .int x_72139), (0, .ref (ad 0 0)), (1, .int i1), (2, .int i2), (3, .int i3), (4, .int i4), (5, .int y58_5)]) hx hb dX11_copy_110 hl (k := 9) rfl (by rw [ex_72143]; rfl) (by decide) rfl (fun ls hl => ?_)
            refine lv_goto (tgt := 58) hx hb dX11_copy_113 (by decide) ?_
            exact ih58 _ (by rw [← hm58]; exact ms_up (m := 1) ex_72143 (show bn 1 1 (1 : Int32) from bn_k (by decide)) B_72141 (bn_w (bn_eq ex_72143 (bn_add B_72141 (show bn 1 1 (1 : Int32) from bn_k (by decide)) (by decide))) (by decide) : bn 0 61 x_72143) (by decide)) y58_5 y58_8 x_72139 x_72143 _ _  _ _ _ I (bn_w B_72141 (by decide)) (bn_w (bn_eq ex_72143 (bn_add B_72141 (show bn 1 1 (1 : Int32) from bn_k (by decide)) (by decide))) (by decide)) rfl Y (lv_sub hl [4, 5, 6, 7, 8, 9, 2, 1, 0] rfl)
          · have B_72142 : bn 1 60 y58_8 := bn_w (bn_nel c_72140 B_72132 (show bn 0 0 (0 : Int32) from bn_k (by decide))) (by decide)
            refine lv_iload hx hb dX11_copy_95 (lv_at hl 0 rfl) ?_
            refine lv_iload hx hb dX11_copy_97 (lv_at hl 8 rfl) ?_
            refine lv_icmp_ge (tgt := 110) hx hb dX11_copy_99 (by decide) (fun c_72144 => ?_) (fun c_72144 => ?_)
            · obtain ⟨x_72147, ex_72147⟩ : ∃ z : Int32, z = y58_8 + 1 := ⟨_, rfl⟩
              refine lv_iinc (v := x_72147) (lv' := [(8, .int x_72147), (9, .int x_72139), (0, .ref (ad 0 0)), (1, .int i1), (2, .int i2), (3, .int i3), (4, .int i4), (5, .int y58_5), (6, .int y58_6), (7, .int y58_7)]) hx hb dX11_copy_110 hl (k := 9) rfl (by rw [ex_72147]; rfl) (by decide) rfl (fun ls hl => ?_)
              refine lv_goto (tgt := 58) hx hb dX11_copy_113 (by decide) ?_
              exact ih58 _ (by rw [← hm58]; exact ms_up (m := 1) ex_72147 (show bn 1 1 (1 : Int32) from bn_k (by decide)) B_72142 (bn_w (bn_eq ex_72147 (bn_add B_72142 (show bn 1 1 (1 : Int32) from bn_k (by decide)) (by decide))) (by decide) : bn 0 61 x_72147) (by decide)) y58_5 y58_6 y58_7 x_72147 _ _  _ _ _ I (bn_w b_y58_6 (by decide)) (bn_w (bn_eq ex_72147 (bn_add B_72142 (show bn 1 1 (1 : Int32) from bn_k (by decide)) (by decide))) (by decide)) rfl Y (lv_sub hl [2, 3, 4, 5, 6, 7, 8, 9, 0] rfl)
            · have B_72145 : bn (-2147483647) 2147483647 y58_7 := bn_w (bn_gtl c_72144 (bn_any y58_7) (bn_any x_72139)) (by decide)
              have B_72146 : bn (-2147483648) 2147483646 x_72139 := bn_w (bn_gtr c_72144 (bn_any y58_7) (bn_any x_72139)) (by decide)
              refine lv_iload hx hb dX11_copy_102 (lv_at hl 9 rfl) ?_
              refine lv_istore (lv' := [(6, .int y58_8), (9, .int x_72139), (0, .ref (ad 0 0)), (1, .int i1), (2, .int i2), (3, .int i3), (4, .int i4), (5, .int y58_5), (7, .int y58_7), (8, .int y58_8)]) hx hb dX11_copy_104 hl (by decide) rfl (fun ls hl => ?_)
              refine lv_iload hx hb dX11_copy_106 (lv_at hl 1 rfl) ?_
              refine lv_istore (lv' := [(7, .int x_72139), (6, .int y58_8), (9, .int x_72139), (0, .ref (ad 0 0)), (1, .int i1), (2, .int i2), (3, .int i3), (4, .int i4), (5, .int y58_5), (8, .int y58_8)]) hx hb dX11_copy_108 hl (by decide) rfl (fun ls hl => ?_)
              obtain ⟨x_72148, ex_72148⟩ : ∃ z : Int32, z = y58_8 + 1 := ⟨_, rfl⟩
              refine lv_iinc (v := x_72148) (lv' := [(8, .int x_72148), (7, .int x_72139), (6, .int y58_8), (9, .int x_72139), (0, .ref (ad 0 0)), (1, .int i1), (2, .int i2), (3, .int i3), (4, .int i4), (5, .int y58_5)]) hx hb dX11_copy_110 hl (k := 9) rfl (by rw [ex_72148]; rfl) (by decide) rfl (fun ls hl => ?_)
              refine lv_goto (tgt := 58) hx hb dX11_copy_113 (by decide) ?_
              exact ih58 _ (by rw [← hm58]; exact ms_up (m := 1) ex_72148 (show bn 1 1 (1 : Int32) from bn_k (by decide)) B_72142 (bn_w (bn_eq ex_72148 (bn_add B_72142 (show bn 1 1 (1 : Int32) from bn_k (by decide)) (by decide))) (by decide) : bn 0 61 x_72148) (by decide)) y58_5 y58_8 x_72139 x_72148 _ _  _ _ _ I (bn_w B_72142 (by decide)) (bn_w (bn_eq ex_72148 (bn_add B_72142 (show bn 1 1 (1 : Int32) from bn_k (by decide)) (by decide))) (by decide)) rfl Y (lv_sub hl [4, 5, 6, 7, 8, 9, 2, 1, 0] rfl)
        · refine lv_iload hx hb dX11_copy_71 (lv_at hl 5 rfl) ?_
          refine lv_iload hx hb dX11_copy_73 (lv_at hl 8 rfl) ?_
          refine lv_icmp_gt (tgt := 82) hx hb dX11_copy_75 (by decide) (fun c_72149 => ?_) (fun c_72149 => ?_)
          · have B_72150 : bn 1 2147483647 y58_5 := bn_w (bn_ltr c_72149 B_72132 (bn_any y58_5)) (by decide)
            refine lv_iconst (v := 0) hx hb dX11_copy_82 (by decide) ?_
            refine lv_iload_n hx hb dX11_copy_83 rfl (lv_at hl 2 rfl) ?_
            refine lv_iload hx hb dX11_copy_84 (lv_at hl 8 rfl) ?_
            refine lv_imul hx hb dX11_copy_86 ?_
            refine lv_topi (fun x_72152 ex_72152 => ?_)
            refine lv_isub hx hb dX11_copy_87 ?_
            refine lv_topi (fun x_72153 ex_72153 => ?_)
            refine lv_istore (lv' := [(9, .int x_72153), (0, .ref (ad 0 0)), (1, .int i1), (2, .int i2), (3, .int i3), (4, .int i4), (5, .int y58_5), (6, .int y58_6), (7, .int y58_7), (8, .int y58_8)]) hx hb dX11_copy_88 hl (by decide) rfl (fun ls hl => ?_)
            refine lv_iload hx hb dX11_copy_90 (lv_at hl 9 rfl) ?_
            refine lv_if_eq (tgt := 102) hx hb dX11_copy_92 (by decide) (fun c_72154 => ?_) (fun c_72154 => ?_)
            · have B_72155 : bn 0 0 y58_8 := bn_w (bn_eq c_72154 (show bn 0 0 (0 : Int32) from bn_k (by decide))) (by decide)
              refine lv_iload hx hb dX11_copy_102 (lv_at hl 9 rfl) ?_
              refine lv_istore (lv' := [(6, .int y58_8), (9, .int x_72153), (0, .ref (ad 0 0)), (1, .int i1), (2, .int i2), (3, .int i3), (4, .int i4), (5, .int y58_5), (7, .int y58_7), (8, .int y58_8)]) hx hb dX11_copy_104 hl (by decide) rfl (fun ls hl => ?_)
              refine lv_iload hx hb dX11_copy_106 (lv_at hl 1 rfl) ?_
              refine lv_istore (lv' := [(7, .int x_72153), (6, .int y58_8), (9, .int x_72153), (0, .ref (ad 0 0)), (1, .int i1), (2, .int i2), (3, .int i3), (4, .int i4), (5, .int y58_5), (8, .int y58_8)]) hx hb dX11_copy_108 hl (by decide) rfl (fun ls hl => ?_)
              obtain ⟨x_72157, ex_72157⟩ : ∃ z : Int32, z = y58_8 + 1 := ⟨_, rfl⟩
              refine lv_iinc (v := x_72157) (lv' := [(8, .int x_72157), (7, .int x_72153), (6, .int y58_8), (9, .int x_72153), (0, .ref (ad 0 0)), (1, .int i1), (2, .int i2), (3, .int i3), (4, .int i4), (5, .int y58_5)]) hx hb dX11_copy_110 hl (k := 9) rfl (by rw [ex_72157]; rfl) (by decide) rfl (fun ls hl => ?_)
              refine lv_goto (tgt := 58) hx hb dX11_copy_113 (by decide) ?_
              exact ih58 _ (by rw [← hm58]; exact ms_up (m := 1) ex_72157 (show bn 1 1 (1 : Int32) from bn_k (by decide)) B_72155 (bn_w (bn_eq ex_72157 (bn_add B_72155 (show bn 1 1 (1 : Int32) from bn_k (by decide)) (by decide))) (by decide) : bn 0 61 x_72157) (by decide)) y58_5 y58_8 x_72153 x_72157 _ _  _ _ _ I (bn_w B_72155 (by decide)) (bn_w (bn_eq ex_72157 (bn_add B_72155 (show bn 1 1 (1 : Int32) from bn_k (by decide)) (by decide))) (by decide)) rfl Y (lv_sub hl [4, 5, 6, 7, 8, 9, 2, 1, 0] rfl)
            · have B_72156 : bn 1 60 y58_8 := bn_w (bn_nel c_72154 B_72132 (show bn 0 0 (0 : Int32) from bn_k (by decide))) (by decide)
              refine lv_iload hx hb dX11_copy_95 (lv_at hl 0 rfl) ?_
              refine lv_iload hx hb dX11_copy_97 (lv_at hl 8 rfl) ?_
              refine lv_icmp_ge (tgt := 110) hx hb dX11_copy_99 (by decide) (fun c_72158 => ?_) (fun c_72158 => ?_)
              · obtain ⟨x_72161, ex_72161⟩ : ∃ z : Int32, z = y58_8 + 1 := ⟨_, rfl⟩
                refine lv_iinc (v := x_72161) (lv' := [(8, .int x_72161), (9, .int x_72153), (0, .ref (ad 0 0)), (1, .int i1), (2, .int i2), (3, .int i3), (4, .int i4), (5, .int y58_5), (6, .int y58_6), (7, .int y58_7)]) hx hb dX11_copy_110 hl (k := 9) rfl (by rw [ex_72161]; rfl) (by decide) rfl (fun ls hl => ?_)
                refine lv_goto (tgt := 58) hx hb dX11_copy_113 (by decide) ?_
                exact ih58 _ (by rw [← hm58]; exact ms_up (m := 1) ex_72161 (show bn 1 1 (1 : Int32) from bn_k (by decide)) B_72156 (bn_w (bn_eq ex_72161 (bn_add B_72156 (show bn 1 1 (1 : Int32) from bn_k (by decide)) (by decide))) (by decide) : bn 0 61 x_72161) (by decide)) y58_5 y58_6 y58_7 x_72161 _ _  _ _ _ I (bn_w b_y58_6 (by decide)) (bn_w (bn_eq ex_72161 (bn_add B_72156 (show bn 1 1 (1 : Int32) from bn_k (by decide)) (by decide))) (by decide)) rfl Y (lv_sub hl [2, 3, 4, 5, 6, 7, 8, 9, 0] rfl)
              · have B_72159 : bn (-2147483647) 2147483647 y58_7 := bn_w (bn_gtl c_72158 (bn_any y58_7) (bn_any x_72153)) (by decide)
                have B_72160 : bn (-2147483648) 2147483646 x_72153 := bn_w (bn_gtr c_72158 (bn_any y58_7) (bn_any x_72153)) (by decide)
                refine lv_iload hx hb dX11_copy_102 (lv_at hl 9 rfl) ?_
                refine lv_istore (lv' := [(6, .int y58_8), (9, .int x_72153), (0, .ref (ad 0 0)), (1, .int i1), (2, .int i2), (3, .int i3), (4, .int i4), (5, .int y58_5), (7, .int y58_7), (8, .int y58_8)]) hx hb dX11_copy_104 hl (by decide) rfl (fun ls hl => ?_)
                refine lv_iload hx hb dX11_copy_106 (lv_at hl 1 rfl) ?_
                refine lv_istore (lv' := [(7, .int x_72153), (6, .int y58_8), (9, .int x_72153), (0, .ref (ad 0 0)), (1, .int i1), (2, .int i2), (3, .int i3), (4, .int i4), (5, .int y58_5), (8, .int y58_8)]) hx hb dX11_copy_108 hl (by decide) rfl (fun ls hl => ?_)
                obtain ⟨x_72162, ex_72162⟩ : ∃ z : Int32, z = y58_8 + 1 := ⟨_, rfl⟩
                refine lv_iinc (v := x_72162) (lv' := [(8, .int x_72162), (7, .int x_72153), (6, .int y58_8), (9, .int x_72153), (0, .ref (ad 0 0)), (1, .int i1), (2, .int i2), (3, .int i3), (4, .int i4), (5, .int y58_5)]) hx hb dX11_copy_110 hl (k := 9) rfl (by rw [ex_72162]; rfl) (by decide) rfl (fun ls hl => ?_)
                refine lv_goto (tgt := 58) hx hb dX11_copy_113 (by decide) ?_
                exact ih58 _ (by rw [← hm58]; exact ms_up (m := 1) ex_72162 (show bn 1 1 (1 : Int32) from bn_k (by decide)) B_72156 (bn_w (bn_eq ex_72162 (bn_add B_72156 (show bn 1 1 (1 : Int32) from bn_k (by decide)) (by decide))) (by decide) : bn 0 61 x_72162) (by decide)) y58_5 y58_8 x_72153 x_72162 _ _  _ _ _ I (bn_w B_72156 (by decide)) (bn_w (bn_eq ex_72162 (bn_add B_72156 (show bn 1 1 (1 : Int32) from bn_k (by decide)) (by decide))) (by decide)) rfl Y (lv_sub hl [4, 5, 6, 7, 8, 9, 2, 1, 0] rfl)
          · have B_72151 : bn (-2147483648) 60 y58_5 := bn_w (bn_ger c_72149 B_72132 (bn_any y58_5)) (by decide)
            refine lv_iload_n hx hb dX11_copy_78 rfl (lv_at hl 3 rfl) ?_
            refine lv_goto (tgt := 83) hx hb dX11_copy_79 (by decide) ?_
            refine lv_iload_n hx hb dX11_copy_83 rfl (lv_at hl 2 rfl) ?_
            refine lv_iload hx hb dX11_copy_84 (lv_at hl 8 rfl) ?_
            refine lv_imul hx hb dX11_copy_86 ?_
            refine lv_topi (fun x_72163 ex_72163 => ?_)
            refine lv_isub hx hb dX11_copy_87 ?_
            refine lv_topi (fun x_72164 ex_72164 => ?_)
            refine lv_istore (lv' := [(9, .int x_72164), (0, .ref (ad 0 0)), (1, .int i1), (2, .int i2), (3, .int i3), (4, .int i4), (5, .int y58_5), (6, .int y58_6), (7, .int y58_7), (8, .int y58_8)]) hx hb dX11_copy_88 hl (by decide) rfl (fun ls hl => ?_)
            refine lv_iload hx hb dX11_copy_90 (lv_at hl 9 rfl) ?_
            refine lv_if_eq (tgt := 102) hx hb dX11_copy_92 (by decide) (fun c_72165 => ?_) (fun c_72165 => ?_)
            · have B_72166 : bn 0 0 y58_8 := bn_w (bn_eq c_72165 (show bn 0 0 (0 : Int32) from bn_k (by decide))) (by decide)
              refine lv_iload hx hb dX11_copy_102 (lv_at hl 9 rfl) ?_
              refine lv_istore (lv' := [(6, .int y58_8), (9, .int x_72164), (0, .ref (ad 0 0)), (1, .int i1), (2, .int i2), (3, .int i3), (4, .int i4), (5, .int y58_5), (7, .int y58_7), (8, .int y58_8)]) hx hb dX11_copy_104 hl (by decide) rfl (fun ls hl => ?_)
              refine lv_iload hx hb dX11_copy_106 (lv_at hl 1 rfl) ?_
              refine lv_istore (lv' := [(7, .int x_72164), (6, .int y58_8), (9, .int x_72164), (0, .ref (ad 0 0)), (1, .int i1), (2, .int i2), (3, .int i3), (4, .int i4), (5, .int y58_5), (8, .int y58_8)]) hx hb dX11_copy_108 hl (by decide) rfl (fun ls hl => ?_)
              obtain ⟨x_72168, ex_72168⟩ : ∃ z : Int32, z = y58_8 + 1 := ⟨_, rfl⟩
              refine lv_iinc (v := x_72168) (lv' := [(8, .int x_72168), (7, .int x_72164), (6, .int y58_8), (9, .int x_72164), (0, .ref (ad 0 0)), (1, .int i1), (2, .int i2), (3, .int i3), (4, .int i4), (5, .int y58_5)]) hx hb dX11_copy_110 hl (k := 9) rfl (by rw [ex_72168]; rfl) (by decide) rfl (fun ls hl => ?_)
              refine lv_goto (tgt := 58) hx hb dX11_copy_113 (by decide) ?_
              exact ih58 _ (by rw [← hm58]; exact ms_up (m := 1) ex_72168 (show bn 1 1 (1 : Int32) from bn_k (by decide)) B_72166 (bn_w (bn_eq ex_72168 (bn_add B_72166 (show bn 1 1 (1 : Int32) from bn_k (by decide)) (by decide))) (by decide) : bn 0 61 x_72168) (by decide)) y58_5 y58_8 x_72164 x_72168 _ _  _ _ _ I (bn_w B_72166 (by decide)) (bn_w (bn_eq ex_72168 (bn_add B_72166 (show bn 1 1 (1 : Int32) from bn_k (by decide)) (by decide))) (by decide)) rfl Y (lv_sub hl [4, 5, 6, 7, 8, 9, 2, 1, 0] rfl)
            · have B_72167 : bn 1 60 y58_8 := bn_w (bn_nel c_72165 B_72132 (show bn 0 0 (0 : Int32) from bn_k (by decide))) (by decide)
              refine lv_iload hx hb dX11_copy_95 (lv_at hl 0 rfl) ?_
              refine lv_iload hx hb dX11_copy_97 (lv_at hl 8 rfl) ?_
              refine lv_icmp_ge (tgt := 110) hx hb dX11_copy_99 (by decide) (fun c_72169 => ?_) (fun c_72169 => ?_)
              · obtain ⟨x_72172, ex_72172⟩ : ∃ z : Int32, z = y58_8 + 1 := ⟨_, rfl⟩
                refine lv_iinc (v := x_72172) (lv' := [(8, .int x_72172), (9, .int x_72164), (0, .ref (ad 0 0)), (1, .int i1), (2, .int i2), (3, .int i3), (4, .int i4), (5, .int y58_5), (6, .int y58_6), (7, .int y58_7)]) hx hb dX11_copy_110 hl (k := 9) rfl (by rw [ex_72172]; rfl) (by decide) rfl (fun ls hl => ?_)
                refine lv_goto (tgt := 58) hx hb dX11_copy_113 (by decide) ?_
                exact ih58 _ (by rw [← hm58]; exact ms_up (m := 1) ex_72172 (show bn 1 1 (1 : Int32) from bn_k (by decide)) B_72167 (bn_w (bn_eq ex_72172 (bn_add B_72167 (show bn 1 1 (1 : Int32) from bn_k (by decide)) (by decide))) (by decide) : bn 0 61 x_72172) (by decide)) y58_5 y58_6 y58_7 x_72172 _ _  _ _ _ I (bn_w b_y58_6 (by decide)) (bn_w (bn_eq ex_72172 (bn_add B_72167 (show bn 1 1 (1 : Int32) from bn_k (by decide)) (by decide))) (by decide)) rfl Y (lv_sub hl [2, 3, 4, 5, 6, 7, 8, 9, 0] rfl)
              · have B_72170 : bn (-2147483647) 2147483647 y58_7 := bn_w (bn_gtl c_72169 (bn_any y58_7) (bn_any x_72164)) (by decide)
                have B_72171 : bn (-2147483648) 2147483646 x_72164 := bn_w (bn_gtr c_72169 (bn_any y58_7) (bn_any x_72164)) (by decide)
                refine lv_iload hx hb dX11_copy_102 (lv_at hl 9 rfl) ?_
                refine lv_istore (lv' := [(6, .int y58_8), (9, .int x_72164), (0, .ref (ad 0 0)), (1, .int i1), (2, .int i2), (3, .int i3), (4, .int i4), (5, .int y58_5), (7, .int y58_7), (8, .int y58_8)]) hx hb dX11_copy_104 hl (by decide) rfl (fun ls hl => ?_)
                refine lv_iload hx hb dX11_copy_106 (lv_at hl 1 rfl) ?_
                refine lv_istore (lv' := [(7, .int x_72164), (6, .int y58_8), (9, .int x_72164), (0, .ref (ad 0 0)), (1, .int i1), (2, .int i2), (3, .int i3), (4, .int i4), (5, .int y58_5), (8, .int y58_8)]) hx hb dX11_copy_108 hl (by decide) rfl (fun ls hl => ?_)
                obtain ⟨x_72173, ex_72173⟩ : ∃ z : Int32, z = y58_8 + 1 := ⟨_, rfl⟩
                refine lv_iinc (v := x_72173) (lv' := [(8, .int x_72173), (7, .int x_72164), (6, .int y58_8), (9, .int x_72164), (0, .ref (ad 0 0)), (1, .int i1), (2, .int i2), (3, .int i3), (4, .int i4), (5, .int y58_5)]) hx hb dX11_copy_110 hl (k := 9) rfl (by rw [ex_72173]; rfl) (by decide) rfl (fun ls hl => ?_)
                refine lv_goto (tgt := 58) hx hb dX11_copy_113 (by decide) ?_
                exact ih58 _ (by rw [← hm58]; exact ms_up (m := 1) ex_72173 (show bn 1 1 (1 : Int32) from bn_k (by decide)) B_72167 (bn_w (bn_eq ex_72173 (bn_add B_72167 (show bn 1 1 (1 : Int32) from bn_k (by decide)) (by decide))) (by decide) : bn 0 61 x_72173) (by decide)) y58_5 y58_8 x_72164 x_72173 _ _  _ _ _ I (bn_w B_72167 (by decide)) (bn_w (bn_eq ex_72173 (bn_add B_72167 (show bn 1 1 (1 : Int32) from bn_k (by decide)) (by decide))) (by decide)) rfl Y (lv_sub hl [4, 5, 6, 7, 8, 9, 2, 1, 0] rfl)
  refine lv_aload_n hx hb dX11_copy_0 rfl (lv_at hl 0 rfl) ?_
  have p_ad_0_0 := opnC_0 (j := 0) I (by decide)
  have p_ad_0_0 : pt L f (ad 0 0) (.inr (11, [.ref (ad 1 0), .ref (ad 1 1), .ref (ad 2 0), .ref (ad 3 0), .ref (ad 4 0), .ref (ad 5 0), .ref (ad 6 0), .ref (ad 7 0), .ref (ad 8 0)])) := p_ad_0_0
  refine pg_get S Y ok_X11 0 (by decide) kf11_13 (v := .ref (ad 1 0)) p_ad_0_0 rfl dX11_copy_1 ?_
  obtain ⟨v_72174, v_72176, v_72178, v_72180, v_72182, p_ad_1_0, b_72175, b_72177, b_72179, b_72181, b_72183⟩ := opnC_1 (j := 0) I (by decide)
  have p_ad_1_0 : pt L f (ad 1 0) (.inr (10, [.ref (ad 40 0), .ref (ad 41 0), .ref (ad 42 0), .ref (ad 10 0), .ref (ad 43 0), .ref (ad 20 0), .ref (ad 20 1), .ref (ad 20 2), .ref (ad 20 3), .ref (ad 20 4), .int v_72174, .int v_72176, .int v_72178, .int v_72180, .int v_72182])) := p_ad_1_0
  refine pg_getN S Y ok_X10 3 (by decide) kf11_131 (v := .ref (ad 10 0)) p_ad_1_0 rfl dX11_copy_4 ?_
  refine lv_iload_n hx hb dX11_copy_7 rfl (lv_at hl 1 rfl) ?_
  refine cVp (As := [.int i1]) (rest := []) S Y (x_X4_unreleased (l := l) (j := 0) I hW hT hQ (by decide)) cw_X4_unreleased km11_322 (I.opo (k := 10) (j := 0) (by decide) rfl).choose_spec.1 ok_X4.1 rfl rfl ⟨Nat.le_of_ble_eq_true rfl, Nat.le_of_ble_eq_true rfl⟩ hl.1 rfl (Nat.le_of_ble_eq_true rfl) ⟨Nat.le_of_ble_eq_true rfl, Nat.le_of_ble_eq_true rfl⟩ dX11_copy_8 (fun r_72184 H locs er_72184 Y => ?_)
  refine lv_if_eq (tgt := 35) hx hb dX11_copy_11 (by decide) (fun c_72185 => ?_) (fun c_72185 => ?_)
  · have B_72186 : bn 0 0 r_72184 := bn_w (bn_eq c_72185 (show bn 0 0 (0 : Int32) from bn_k (by decide))) (by decide)
    refine lv_ldcw (v := (-100000)) hx hb S.ow (S.w kk11_325) dX11_copy_35 ?_
    exact prI (post := fun r L1 f1 => SH (spC (NR 30 0 4) ((0, 6) : Int × Int) tc w q) nnC G ad L1 f1) S Y rfl (by decide) (by decide) hA1 I dX11_copy_38
  · have B_72187 : bn 1 1 r_72184 := bn_w (bn_nel c_72185 er_72184 (show bn 0 0 (0 : Int32) from bn_k (by decide))) (by decide)
    refine lv_iload_n hx hb dX11_copy_14 rfl (lv_at hl 2 rfl) ?_
    refine lv_iconst (v := 0) hx hb dX11_copy_15 (by decide) ?_
    refine lv_bipush (v := 99) hx hb dX11_copy_16 (by decide) ?_
    refine cSp (As := [.int i2, .int 0, .int 99]) (rest := []) S Y (x_X11_within (l := l) ) cw_X11_within km11_146 rfl ⟨Nat.le_of_ble_eq_true rfl, Nat.le_of_ble_eq_true rfl⟩ hl.1 rfl (Nat.le_of_ble_eq_true rfl) ⟨Nat.le_of_ble_eq_true rfl, Nat.le_of_ble_eq_true rfl⟩ dX11_copy_18 (fun r_72188 H locs er_72188 Y => ?_)
    refine lv_if_eq (tgt := 35) hx hb dX11_copy_21 (by decide) (fun c_72189 => ?_) (fun c_72189 => ?_)
    · have B_72190 : bn 0 0 r_72188 := bn_w (bn_eq c_72189 (show bn 0 0 (0 : Int32) from bn_k (by decide))) (by decide)
      refine lv_ldcw (v := (-100000)) hx hb S.ow (S.w kk11_325) dX11_copy_35 ?_
      exact prI (post := fun r L1 f1 => SH (spC (NR 30 0 4) ((0, 6) : Int × Int) tc w q) nnC G ad L1 f1) S Y rfl (by decide) (by decide) hA1 I dX11_copy_38
    · have B_72191 : bn 1 1 r_72188 := bn_w (bn_nel c_72189 er_72188 (show bn 0 0 (0 : Int32) from bn_k (by decide))) (by decide)
      refine lv_iload_n hx hb dX11_copy_24 rfl (lv_at hl 3 rfl) ?_
      refine lv_iconst (v := 0) hx hb dX11_copy_25 (by decide) ?_
      refine lv_sipush (v := 9999) hx hb dX11_copy_26 (by decide) ?_
      refine cSp (As := [.int i3, .int 0, .int 9999]) (rest := []) S Y (x_X11_within (l := l) ) cw_X11_within km11_146 rfl ⟨Nat.le_of_ble_eq_true rfl, Nat.le_of_ble_eq_true rfl⟩ hl.1 rfl (Nat.le_of_ble_eq_true rfl) ⟨Nat.le_of_ble_eq_true rfl, Nat.le_of_ble_eq_true rfl⟩ dX11_copy_29 (fun r_72192 H locs er_72192 Y => ?_)
      refine lv_if_ne (tgt := 39) hx hb dX11_copy_32 (by decide) (fun c_72193 => ?_) (fun c_72193 => ?_)
      · have B_72194 : bn 1 1 r_72192 := bn_w (bn_nel c_72193 er_72192 (show bn 0 0 (0 : Int32) from bn_k (by decide))) (by decide)
        refine lv_aload_n hx hb dX11_copy_39 rfl (lv_at hl 0 rfl) ?_
        refine pg_get S Y ok_X11 6 (by decide) kf11_59 (v := .ref (ad 6 0)) p_ad_0_0 rfl dX11_copy_40 ?_
        refine lv_iload_n hx hb dX11_copy_43 rfl (lv_at hl 1 rfl) ?_
        refine cVi (As := [.int i1]) (rest := []) S Y (x_X2_daysToFade (l := l) I hW hT hQ) cw_X2_daysToFade km11_246 (I.opo (k := 6) (j := 0) (by decide) rfl).choose_spec.1 ok_X2.1 rfl rfl ⟨Nat.le_of_ble_eq_true rfl, Nat.le_of_ble_eq_true rfl⟩ hl.1 rfl (Nat.le_of_ble_eq_true rfl) ⟨Nat.le_of_ble_eq_true rfl, Nat.le_of_ble_eq_true rfl⟩ dX11_copy_44 (fun r_72198 L_72196 f_72197 H locs I Y => ?_)
        refine lv_istore (lv' := [(5, .int r_72198), (0, .ref (ad 0 0)), (1, .int i1), (2, .int i2), (3, .int i3), (4, .int i4)]) hx hb dX11_copy_47 hl (by decide) rfl (fun ls hl => ?_)
        refine lv_iconst (v := 0) hx hb dX11_copy_49 (by decide) ?_
        refine lv_istore (lv' := [(6, .int 0), (5, .int r_72198), (0, .ref (ad 0 0)), (1, .int i1), (2, .int i2), (3, .int i3), (4, .int i4)]) hx hb dX11_copy_50 hl (by decide) rfl (fun ls hl => ?_)
        refine lv_iconst (v := 0) hx hb dX11_copy_52 (by decide) ?_
        refine lv_istore (lv' := [(7, .int 0), (6, .int 0), (5, .int r_72198), (0, .ref (ad 0 0)), (1, .int i1), (2, .int i2), (3, .int i3), (4, .int i4)]) hx hb dX11_copy_53 hl (by decide) rfl (fun ls hl => ?_)
        refine lv_iconst (v := 0) hx hb dX11_copy_55 (by decide) ?_
        refine lv_istore (lv' := [(8, .int 0), (7, .int 0), (6, .int 0), (5, .int r_72198), (0, .ref (ad 0 0)), (1, .int i1), (2, .int i2), (3, .int i3), (4, .int i4)]) hx hb dX11_copy_56 hl (by decide) rfl (fun ls hl => ?_)
        exact J_58 _ r_72198 0 0 0 _ _  _ _ _ I (bn_w (show bn 0 0 (0 : Int32) from bn_k (by decide)) (by decide)) (bn_w (show bn 0 0 (0 : Int32) from bn_k (by decide)) (by decide)) rfl Y (lv_sub hl [4, 5, 6, 7, 8, 3, 2, 1, 0] rfl)
      · have B_72195 : bn 0 0 r_72192 := bn_w (bn_eq c_72193 (show bn 0 0 (0 : Int32) from bn_k (by decide))) (by decide)
        refine lv_ldcw (v := (-100000)) hx hb S.ow (S.w kk11_325) dX11_copy_35 ?_
        exact prI (post := fun r L1 f1 => SH (spC (NR 30 0 4) ((0, 6) : Int × Int) tc w q) nnC G ad L1 f1) S Y rfl (by decide) (by decide) hA1 I dX11_copy_38
set_option maxHeartbeats 4000000 in
set_option maxRecDepth 100000 in
theorem x_X11_worn {l : Launch} {G : GG}  {L : List Nat} {f : HF} {ad : Nat → Nat → Nat} {tc w : Nat → Int × Int} {q : Nat → (Nat → Int32) → Prop} {i1 i2 : Int32} (I : SH (spC (NR 30 0 4) ((0, 6) : Int × Int) tc w q) nnC G ad L f) (hW : WBp w 8) (hT : WBp tc 4) (hQ : QIp q) (hZ : ZZp w q) (hE : ∀ j, (tc j).1 = (tc j).2) : PMi l yX11_worn cX11_worn 3 .int 1 0 0 G [.ref (ad 0 0), .int i1, .int i2] L f (fun r L1 f1 => SH (spC (NR 30 0 4) ((0, 6) : Int × Int) tc w q) nnC G ad L1 f1) := by
  refine PMi.of (post := fun r L1 f1 => SH (spC (NR 30 0 4) ((0, 6) : Int × Int) tc w q) nnC G ad L1 f1) (own := RX11) (by decide) rfl (Nat.le_of_ble_eq_true rfl) (fun sz p e s m args below meth c A ls hA1 hname S Y hl => ?_)
  have hx := S.hx
  have hb := S.hb
  have hl : lv_has ls 3 [(0, .ref (ad 0 0)), (1, .int i1), (2, .int i2)] := hl
  refine lv_iload_n hx hb dX11_worn_0 rfl (lv_at hl 1 rfl) ?_
  refine lv_iconst (v := (-1)) hx hb dX11_worn_1 (by decide) ?_
  refine lv_icmp_ne (tgt := 16) hx hb dX11_worn_2 (by decide) (fun c_72271 => ?_) (fun c_72271 => ?_)
  · refine lv_aload_n hx hb dX11_worn_16 rfl (lv_at hl 0 rfl) ?_
    have p_ad_0_0 := opnC_0 (j := 0) I (by decide)
    have p_ad_0_0 : pt L f (ad 0 0) (.inr (11, [.ref (ad 1 0), .ref (ad 1 1), .ref (ad 2 0), .ref (ad 3 0), .ref (ad 4 0), .ref (ad 5 0), .ref (ad 6 0), .ref (ad 7 0), .ref (ad 8 0)])) := p_ad_0_0
    refine pg_get S Y ok_X11 0 (by decide) kf11_13 (v := .ref (ad 1 0)) p_ad_0_0 rfl dX11_worn_17 ?_
    obtain ⟨v_72273, v_72275, v_72277, v_72279, v_72281, p_ad_1_0, b_72274, b_72276, b_72278, b_72280, b_72282⟩ := opnC_1 (j := 0) I (by decide)
    have p_ad_1_0 : pt L f (ad 1 0) (.inr (10, [.ref (ad 40 0), .ref (ad 41 0), .ref (ad 42 0), .ref (ad 10 0), .ref (ad 43 0), .ref (ad 20 0), .ref (ad 20 1), .ref (ad 20 2), .ref (ad 20 3), .ref (ad 20 4), .int v_72273, .int v_72275, .int v_72277, .int v_72279, .int v_72281])) := p_ad_1_0
    refine pg_getN S Y ok_X10 3 (by decide) kf11_131 (v := .ref (ad 10 0)) p_ad_1_0 rfl dX11_worn_20 ?_
    refine lv_iload_n hx hb dX11_worn_23 rfl (lv_at hl 1 rfl) ?_
    refine cVp (As := [.int i1]) (rest := []) S Y (x_X4_has (l := l) (j := 0) I hW hT hQ (by decide)) cw_X4_has km11_211 (I.opo (k := 10) (j := 0) (by decide) rfl).choose_spec.1 ok_X4.1 rfl rfl ⟨Nat.le_of_ble_eq_true rfl, Nat.le_of_ble_eq_true rfl⟩ hl.1 rfl (Nat.le_of_ble_eq_true rfl) ⟨Nat.le_of_ble_eq_true rfl, Nat.le_of_ble_eq_true rfl⟩ dX11_worn_24 (fun r_72283 H locs er_72283 Y => ?_)
    refine lv_if_eq (tgt := 40) hx hb dX11_worn_27 (by decide) (fun c_72284 => ?_) (fun c_72284 => ?_)
    · have B_72285 : bn 0 0 r_72283 := bn_w (bn_eq c_72284 (show bn 0 0 (0 : Int32) from bn_k (by decide))) (by decide)
      refine lv_bipush (v := (-2)) hx hb dX11_worn_40 (by decide) ?_
      exact prI (post := fun r L1 f1 => SH (spC (NR 30 0 4) ((0, 6) : Int × Int) tc w q) nnC G ad L1 f1) S Y rfl (by decide) (by decide) hA1 I dX11_worn_42
    · have B_72286 : bn 1 1 r_72283 := bn_w (bn_nel c_72284 er_72283 (show bn 0 0 (0 : Int32) from bn_k (by decide))) (by decide)
      refine lv_iload_n hx hb dX11_worn_30 rfl (lv_at hl 2 rfl) ?_
      refine lv_iconst (v := 0) hx hb dX11_worn_31 (by decide) ?_
      refine lv_bipush (v := 99) hx hb dX11_worn_32 (by decide) ?_
      refine cSp (As := [.int i2, .int 0, .int 99]) (rest := []) S Y (x_X11_within (l := l) ) cw_X11_within km11_146 rfl ⟨Nat.le_of_ble_eq_true rfl, Nat.le_of_ble_eq_true rfl⟩ hl.1 rfl (Nat.le_of_ble_eq_true rfl) ⟨Nat.le_of_ble_eq_true rfl, Nat.le_of_ble_eq_true rfl⟩ dX11_worn_34 (fun r_72287 H locs er_72287 Y => ?_)
      refine lv_if_ne (tgt := 43) hx hb dX11_worn_37 (by decide) (fun c_72288 => ?_) (fun c_72288 => ?_)
      · have B_72289 : bn 1 1 r_72287 := bn_w (bn_nel c_72288 er_72287 (show bn 0 0 (0 : Int32) from bn_k (by decide))) (by decide)
        refine lv_aload_n hx hb dX11_worn_43 rfl (lv_at hl 0 rfl) ?_
        refine pg_get S Y ok_X11 0 (by decide) kf11_13 (v := .ref (ad 1 0)) p_ad_0_0 rfl dX11_worn_44 ?_
        refine pg_getN S Y ok_X10 9 (by decide) kf11_326 (v := .ref (ad 20 4)) p_ad_1_0 rfl dX11_worn_47 ?_
        refine lv_iload_n hx hb dX11_worn_50 rfl (lv_at hl 1 rfl) ?_
        refine lv_iload_n hx hb dX11_worn_51 rfl (lv_at hl 2 rfl) ?_
        refine lv_iconst (v := 0) hx hb dX11_worn_52 (by decide) ?_
        refine cVi (As := [.int i1, .int i2, .int 0]) (rest := []) S Y (x_X9_tell (l := l) (j := 4) I hW hT hQ (by decide) (hZ _ (by decide) (by decide) (by decide)).1 (hZ _ (by decide) (by decide) (by decide)).2) cw_X9_tell km11_258 (I.opo (k := 20) (j := 4) (by decide) rfl).choose_spec.1 ok_X9.1 rfl rfl ⟨Nat.le_of_ble_eq_true rfl, Nat.le_of_ble_eq_true rfl⟩ hl.1 rfl (Nat.le_of_ble_eq_true rfl) ⟨Nat.le_of_ble_eq_true rfl, Nat.le_of_ble_eq_true rfl⟩ dX11_worn_53 (fun r_72293 L_72291 f_72292 H locs I Y => ?_)
        exact prI (post := fun r L1 f1 => SH (spC (NR 30 0 4) ((0, 6) : Int × Int) tc w q) nnC G ad L1 f1) S Y rfl (by decide) (by decide) hA1 I dX11_worn_56
      · have B_72290 : bn 0 0 r_72287 := bn_w (bn_eq c_72288 (show bn 0 0 (0 : Int32) from bn_k (by decide))) (by decide)
        refine lv_bipush (v := (-2)) hx hb dX11_worn_40 (by decide) ?_
        exact prI (post := fun r L1 f1 => SH (spC (NR 30 0 4) ((0, 6) : Int × Int) tc w q) nnC G ad L1 f1) S Y rfl (by decide) (by decide) hA1 I dX11_worn_42
  · have B_72272 : bn (-1) (-1) i1 := bn_w (bn_eq c_72271 (show bn (-1) (-1) ((-1) : Int32) from bn_k (by decide))) (by decide)
    refine lv_aload_n hx hb dX11_worn_5 rfl (lv_at hl 0 rfl) ?_
    have p_ad_0_0 := opnC_0 (j := 0) I (by decide)
    have p_ad_0_0 : pt L f (ad 0 0) (.inr (11, [.ref (ad 1 0), .ref (ad 1 1), .ref (ad 2 0), .ref (ad 3 0), .ref (ad 4 0), .ref (ad 5 0), .ref (ad 6 0), .ref (ad 7 0), .ref (ad 8 0)])) := p_ad_0_0
    refine pg_get S Y ok_X11 0 (by decide) kf11_13 (v := .ref (ad 1 0)) p_ad_0_0 rfl dX11_worn_6 ?_
    obtain ⟨v_72294, v_72296, v_72298, v_72300, v_72302, p_ad_1_0, b_72295, b_72297, b_72299, b_72301, b_72303⟩ := opnC_1 (j := 0) I (by decide)
    have p_ad_1_0 : pt L f (ad 1 0) (.inr (10, [.ref (ad 40 0), .ref (ad 41 0), .ref (ad 42 0), .ref (ad 10 0), .ref (ad 43 0), .ref (ad 20 0), .ref (ad 20 1), .ref (ad 20 2), .ref (ad 20 3), .ref (ad 20 4), .int v_72294, .int v_72296, .int v_72298, .int v_72300, .int v_72302])) := p_ad_1_0
    refine pg_getN S Y ok_X10 9 (by decide) kf11_326 (v := .ref (ad 20 4)) p_ad_1_0 rfl dX11_worn_9 ?_
    refine cVi (As := []) (rest := []) S Y (x_X9_forget (l := l) (j := 4) I hW hT hQ (by decide) (hZ _ (by decide) (by decide) (by decide)).1 (hZ _ (by decide) (by decide) (by decide)).2) cw_X9_forget km11_253 (I.opo (k := 20) (j := 4) (by decide) rfl).choose_spec.1 ok_X9.1 rfl rfl ⟨Nat.le_of_ble_eq_true rfl, Nat.le_of_ble_eq_true rfl⟩ hl.1 rfl (Nat.le_of_ble_eq_true rfl) ⟨Nat.le_of_ble_eq_true rfl, Nat.le_of_ble_eq_true rfl⟩ dX11_worn_12 (fun r_72306 L_72304 f_72305 H locs hr_72306 Y => ?_)
    obtain ⟨er_72306, I⟩ := hr_72306
    exact prI (post := fun r L1 f1 => SH (spC (NR 30 0 4) ((0, 6) : Int × Int) tc w q) nnC G ad L1 f1) S Y rfl (by decide) (by decide) hA1 I dX11_worn_15
set_option maxHeartbeats 4000000 in
set_option maxRecDepth 100000 in
theorem x_X11_whose {l : Launch} {G : GG}  {L : List Nat} {f : HF} {ad : Nat → Nat → Nat} {tc w : Nat → Int × Int} {q : Nat → (Nat → Int32) → Prop} (I : SH (spC (NR 30 0 4) ((0, 6) : Int × Int) tc w q) nnC G ad L f) (hW : WBp w 8) (hT : WBp tc 4) (hQ : QIp q) (hZ : ZZp w q) (hE : ∀ j, (tc j).1 = (tc j).2) : PMi l yX11_whose cX11_whose 3 .int 5 0 0 G [.ref (ad 0 0)] L f (fun r L1 f1 => SH (spC (NR 30 0 4) ((0, 6) : Int × Int) tc w q) nnC G ad L1 f1) := by
  refine PMi.of (post := fun r L1 f1 => SH (spC (NR 30 0 4) ((0, 6) : Int × Int) tc w q) nnC G ad L1 f1) (own := RX11) (by decide) rfl (Nat.le_of_ble_eq_true rfl) (fun sz p e s m args below meth c A ls hA1 hname S Y hl => ?_)
  have hx := S.hx
  have hb := S.hb
  have hl : lv_has ls 3 [(0, .ref (ad 0 0))] := hl
  have J_4 : ∀ (n4 : Nat) (y4_1 y4_2 : Int32) (L_4 : List Nat) (f_4 : HF) (H : Heap) (locs : List Loc) (ls : Array Slot), (SH (spC (NR 30 0 4) ((0, 6) : Int × Int) tc w q) nnC G ad L_4 f_4) → (bn 0 15 y4_1) → (bn 0 4 y4_2) → (((4 : Int) - y4_2.toInt).toNat = n4) → (DY G A s [] L_4 f_4 H locs) → (lv_has ls 3 [(0, .ref (ad 0 0)), (1, .int y4_1), (2, .int y4_2)]) → W p l e (rmD 5 0 0) s m args below meth c H locs (0) (0) (MQ below (va_Qi (fun r (u : List Nat × HF) => (fun r L1 f1 => SH (spC (NR 30 0 4) ((0, 6) : Int × Int) tc w q) nnC G ad L1 f1) r u.1 u.2) (fun u t => pOut G (va_A (va_pl L f) sz) u.1 u.2 t) (va_A (va_pl L f) sz)) args s 0 0 A) (F0 m 4 ls []) := by
    intro n4
    induction n4 using Nat.strongRecOn with
    | _ n4 ih4 =>
      intro y4_1 y4_2 L_4 f_4 H locs ls I b_y4_1 b_y4_2 hm4 Y hl
      refine lv_iload_n hx hb dX11_whose_4 rfl (lv_at hl 2 rfl) ?_
      refine lv_aload_n hx hb dX11_whose_5 rfl (lv_at hl 0 rfl) ?_
      have p_ad_0_0 := opnC_0 (j := 0) I (by decide)
      have p_ad_0_0 : pt L_4 f_4 (ad 0 0) (.inr (11, [.ref (ad 1 0), .ref (ad 1 1), .ref (ad 2 0), .ref (ad 3 0), .ref (ad 4 0), .ref (ad 5 0), .ref (ad 6 0), .ref (ad 7 0), .ref (ad 8 0)])) := p_ad_0_0
      refine pg_get S Y ok_X11 0 (by decide) kf11_13 (v := .ref (ad 1 0)) p_ad_0_0 rfl dX11_whose_6 ?_
      obtain ⟨v_72445, v_72447, v_72449, v_72451, v_72453, p_ad_1_0, b_72446, b_72448, b_72450, b_72452, b_72454⟩ := opnC_1 (j := 0) I (by decide)
      have p_ad_1_0 : pt L_4 f_4 (ad 1 0) (.inr (10, [.ref (ad 40 0), .ref (ad 41 0), .ref (ad 42 0), .ref (ad 10 0), .ref (ad 43 0), .ref (ad 20 0), .ref (ad 20 1), .ref (ad 20 2), .ref (ad 20 3), .ref (ad 20 4), .int v_72445, .int v_72447, .int v_72449, .int v_72451, .int v_72453])) := p_ad_1_0
      refine pg_getN S Y ok_X10 11 (by decide) kf11_329 (v := .int v_72447) p_ad_1_0 rfl dX11_whose_9 ?_
      refine lv_icmp_ge (tgt := 38) hx hb dX11_whose_12 (by decide) (fun c_72455 => ?_) (fun c_72455 => ?_)
      · refine lv_iload_n hx hb dX11_whose_38 rfl (lv_at hl 1 rfl) ?_
        exact prI (post := fun r L1 f1 => SH (spC (NR 30 0 4) ((0, 6) : Int × Int) tc w q) nnC G ad L1 f1) S Y rfl (by decide) (by decide) hA1 I dX11_whose_39
      · have B_72456 : bn 1 4 v_72447 := bn_w (bn_gtl c_72455 (bn_w (a' := 0) (b' := 4) b_72448 (hT 0)) b_y4_2) (by decide)
        have B_72457 : bn 0 3 y4_2 := bn_w (bn_gtr c_72455 (bn_w (a' := 0) (b' := 4) b_72448 (hT 0)) b_y4_2) (by decide)
        refine lv_aload_n hx hb dX11_whose_15 rfl (lv_at hl 0 rfl) ?_
        refine pg_get S Y ok_X11 3 (by decide) kf11_34 (v := .ref (ad 3 0)) p_ad_0_0 rfl dX11_whose_16 ?_
        refine lv_iload_n hx hb dX11_whose_19 rfl (lv_at hl 2 rfl) ?_
        refine cVi (As := [.int y4_2]) (rest := []) S Y (x_X3_explains (l := l) I hW hT hQ) cw_X3_explains km11_332 (I.opo (k := 3) (j := 0) (by decide) rfl).choose_spec.1 ok_X3.1 rfl rfl ⟨Nat.le_of_ble_eq_true rfl, Nat.le_of_ble_eq_true rfl⟩ hl.1 rfl (Nat.le_of_ble_eq_true rfl) ⟨Nat.le_of_ble_eq_true rfl, Nat.le_of_ble_eq_true rfl⟩ dX11_whose_20 (fun r_72460 L_72458 f_72459 H locs hr_72460 Y => ?_)
        obtain ⟨er_72460, I⟩ := hr_72460
        refine lv_if_eq (tgt := 32) hx hb dX11_whose_23 (by decide) (fun c_72461 => ?_) (fun c_72461 => ?_)
        · have B_72462 : bn 0 0 r_72460 := bn_w (bn_eq c_72461 (show bn 0 0 (0 : Int32) from bn_k (by decide))) (by decide)
          obtain ⟨x_72464, ex_72464⟩ : ∃ z : Int32, z = y4_2 + 1 := ⟨_, rfl⟩
          refine lv_iinc (v := x_72464) (lv' := [(2, .int x_72464), (0, .ref (ad 0 0)), (1, .int y4_1)]) hx hb dX11_whose_32 hl (k := 2) rfl (by rw [ex_72464]; rfl) (by decide) rfl (fun ls hl => ?_)
          refine lv_goto (tgt := 4) hx hb dX11_whose_35 (by decide) ?_
          exact ih4 _ (by rw [← hm4]; exact ms_up (m := 1) ex_72464 (show bn 1 1 (1 : Int32) from bn_k (by decide)) B_72457 (bn_w (bn_eq ex_72464 (bn_add B_72457 (show bn 1 1 (1 : Int32) from bn_k (by decide)) (by decide))) (by decide) : bn 0 4 x_72464) (by decide)) y4_1 x_72464 _ _  _ _ _ I (bn_w b_y4_1 (by decide)) (bn_w (bn_eq ex_72464 (bn_add B_72457 (show bn 1 1 (1 : Int32) from bn_k (by decide)) (by decide))) (by decide)) rfl Y (lv_sub hl [1, 2, 0] rfl)
        · have B_72463 : bn 1 1 r_72460 := bn_w (bn_nel c_72461 er_72460 (show bn 0 0 (0 : Int32) from bn_k (by decide))) (by decide)
          refine lv_iload_n hx hb dX11_whose_26 rfl (lv_at hl 1 rfl) ?_
          refine lv_iconst (v := 1) hx hb dX11_whose_27 (by decide) ?_
          refine lv_iload_n hx hb dX11_whose_28 rfl (lv_at hl 2 rfl) ?_
          refine lv_ishl hx hb dX11_whose_29 ?_
          refine lv_topi (fun x_72465 ex_72465 => ?_)
          refine lv_ior hx hb dX11_whose_30 ?_
          refine lv_topi (fun x_72466 ex_72466 => ?_)
          refine lv_istore_n (lv' := [(1, .int x_72466), (0, .ref (ad 0 0)), (2, .int y4_2)]) hx hb dX11_whose_31 rfl hl (by decide) rfl (fun ls hl => ?_)
          obtain ⟨x_72467, ex_72467⟩ : ∃ z : Int32, z = y4_2 + 1 := ⟨_, rfl⟩
          refine lv_iinc (v := x_72467) (lv' := [(2, .int x_72467), (1, .int x_72466), (0, .ref (ad 0 0))]) hx hb dX11_whose_32 hl (k := 2) rfl (by rw [ex_72467]; rfl) (by decide) rfl (fun ls hl => ?_)
          refine lv_goto (tgt := 4) hx hb dX11_whose_35 (by decide) ?_
          exact ih4 _ (by rw [← hm4]; exact ms_up (m := 1) ex_72467 (show bn 1 1 (1 : Int32) from bn_k (by decide)) B_72457 (bn_w (bn_eq ex_72467 (bn_add B_72457 (show bn 1 1 (1 : Int32) from bn_k (by decide)) (by decide))) (by decide) : bn 0 4 x_72467) (by decide)) x_72466 x_72467 _ _  _ _ _ I (bn_w (bn_eq ex_72466 (bn_or (n := 4) (bn_w b_y4_1 (by decide) : bn 0 15 y4_1) (bn_w (bn_eq ex_72465 (bn_shl (n := 3) (bn_w B_72457 (by decide) : bn 0 3 y4_2) (by decide) (by decide))) (by decide) : bn 0 8 x_72465) (by decide) (by decide))) (by decide)) (bn_w (bn_eq ex_72467 (bn_add B_72457 (show bn 1 1 (1 : Int32) from bn_k (by decide)) (by decide))) (by decide)) rfl Y (lv_sub hl [2, 1, 0] rfl)
  refine lv_iconst (v := 0) hx hb dX11_whose_0 (by decide) ?_
  refine lv_istore_n (lv' := [(1, .int 0), (0, .ref (ad 0 0))]) hx hb dX11_whose_1 rfl hl (by decide) rfl (fun ls hl => ?_)
  refine lv_iconst (v := 0) hx hb dX11_whose_2 (by decide) ?_
  refine lv_istore_n (lv' := [(2, .int 0), (1, .int 0), (0, .ref (ad 0 0))]) hx hb dX11_whose_3 rfl hl (by decide) rfl (fun ls hl => ?_)
  exact J_4 _ 0 0 _ _  _ _ _ I (bn_w (show bn 0 0 (0 : Int32) from bn_k (by decide)) (by decide)) (bn_w (show bn 0 0 (0 : Int32) from bn_k (by decide)) (by decide)) rfl Y (lv_sub hl [2, 1, 0] rfl)
set_option maxHeartbeats 4000000 in
set_option maxRecDepth 100000 in
theorem x_X11_mostSworn {l : Launch} {G : GG}  {L : List Nat} {f : HF} {ad : Nat → Nat → Nat} {tc w : Nat → Int × Int} {q : Nat → (Nat → Int32) → Prop} (I : SH (spC (NR 30 0 4) ((0, 6) : Int × Int) tc w q) nnC G ad L f) (hW : WBp w 8) (hT : WBp tc 4) (hQ : QIp q) (hZ : ZZp w q) (hE : ∀ j, (tc j).1 = (tc j).2) : PMi l yX11_mostSworn cX11_mostSworn 1 .int 5 0 0 G [.ref (ad 0 0)] L f (fun r L1 f1 => SH (spC (NR 30 0 4) ((0, 6) : Int × Int) tc w q) nnC G ad L1 f1) := by
  refine PMi.of (post := fun r L1 f1 => SH (spC (NR 30 0 4) ((0, 6) : Int × Int) tc w q) nnC G ad L1 f1) (own := RX11) (by decide) rfl (Nat.le_of_ble_eq_true rfl) (fun sz p e s m args below meth c A ls hA1 hname S Y hl => ?_)
  have hx := S.hx
  have hb := S.hb
  have hl : lv_has ls 1 [(0, .ref (ad 0 0))] := hl
  refine lv_aload_n hx hb dX11_mostSworn_0 rfl (lv_at hl 0 rfl) ?_
  have p_ad_0_0 := opnC_0 (j := 0) I (by decide)
  have p_ad_0_0 : pt L f (ad 0 0) (.inr (11, [.ref (ad 1 0), .ref (ad 1 1), .ref (ad 2 0), .ref (ad 3 0), .ref (ad 4 0), .ref (ad 5 0), .ref (ad 6 0), .ref (ad 7 0), .ref (ad 8 0)])) := p_ad_0_0
  refine pg_get S Y ok_X11 8 (by decide) kf11_75 (v := .ref (ad 8 0)) p_ad_0_0 rfl dX11_mostSworn_1 ?_
  refine cVp (As := []) (rest := []) S Y (x_X0_mostOften (l := l) I hW hT hQ) cw_X0_mostOften km11_335 (I.opo (k := 8) (j := 0) (by decide) rfl).choose_spec.1 ok_X0.1 rfl rfl ⟨Nat.le_of_ble_eq_true rfl, Nat.le_of_ble_eq_true rfl⟩ hl.1 rfl (Nat.le_of_ble_eq_true rfl) ⟨Nat.le_of_ble_eq_true rfl, Nat.le_of_ble_eq_true rfl⟩ dX11_mostSworn_4 (fun r_72470 H locs er_72470 Y => ?_)
  exact prI (post := fun r L1 f1 => SH (spC (NR 30 0 4) ((0, 6) : Int × Int) tc w q) nnC G ad L1 f1) S Y rfl (by decide) (by decide) hA1 I dX11_mostSworn_7
set_option maxHeartbeats 4000000 in
set_option maxRecDepth 100000 in
theorem x_X11_faithful {l : Launch} {G : GG}  {L : List Nat} {f : HF} {ad : Nat → Nat → Nat} {tc w : Nat → Int × Int} {q : Nat → (Nat → Int32) → Prop} (I : SH (spC (NR 30 0 4) ((0, 6) : Int × Int) tc w q) nnC G ad L f) (hW : WBp w 8) (hT : WBp tc 4) (hQ : QIp q) (hZ : ZZp w q) (hE : ∀ j, (tc j).1 = (tc j).2) : PMi l yX11_faithful cX11_faithful 1 .int 2 0 0 G [.ref (ad 0 0)] L f (fun r L1 f1 => SH (spC (NR 30 0 4) ((0, 6) : Int × Int) tc w q) nnC G ad L1 f1) := by
  refine PMi.of (post := fun r L1 f1 => SH (spC (NR 30 0 4) ((0, 6) : Int × Int) tc w q) nnC G ad L1 f1) (own := RX11) (by decide) rfl (Nat.le_of_ble_eq_true rfl) (fun sz p e s m args below meth c A ls hA1 hname S Y hl => ?_)
  have hx := S.hx
  have hb := S.hb
  have hl : lv_has ls 1 [(0, .ref (ad 0 0))] := hl
  refine lv_aload_n hx hb dX11_faithful_0 rfl (lv_at hl 0 rfl) ?_
  have p_ad_0_0 := opnC_0 (j := 0) I (by decide)
  have p_ad_0_0 : pt L f (ad 0 0) (.inr (11, [.ref (ad 1 0), .ref (ad 1 1), .ref (ad 2 0), .ref (ad 3 0), .ref (ad 4 0), .ref (ad 5 0), .ref (ad 6 0), .ref (ad 7 0), .ref (ad 8 0)])) := p_ad_0_0
  refine pg_get S Y ok_X11 8 (by decide) kf11_75 (v := .ref (ad 8 0)) p_ad_0_0 rfl dX11_faithful_1 ?_
  refine cVp (As := []) (rest := []) S Y (x_X0_unbroken (l := l) I hW hT hQ) cw_X0_unbroken km11_338 (I.opo (k := 8) (j := 0) (by decide) rfl).choose_spec.1 ok_X0.1 rfl rfl ⟨Nat.le_of_ble_eq_true rfl, Nat.le_of_ble_eq_true rfl⟩ hl.1 rfl (Nat.le_of_ble_eq_true rfl) ⟨Nat.le_of_ble_eq_true rfl, Nat.le_of_ble_eq_true rfl⟩ dX11_faithful_4 (fun r_72473 H locs er_72473 Y => ?_)
  exact prI (post := fun r L1 f1 => SH (spC (NR 30 0 4) ((0, 6) : Int × Int) tc w q) nnC G ad L1 f1) S Y rfl (by decide) (by decide) hA1 I dX11_faithful_7
set_option maxHeartbeats 4000000 in
set_option maxRecDepth 100000 in
theorem x_X11_ached {l : Launch} {G : GG}  {L : List Nat} {f : HF} {ad : Nat → Nat → Nat} {tc w : Nat → Int × Int} {q : Nat → (Nat → Int32) → Prop} {i1 : Int32} (I : SH (spC (NR 30 0 4) ((0, 6) : Int × Int) tc w q) nnC G ad L f) (hW : WBp w 8) (hT : WBp tc 4) (hQ : QIp q) (hZ : ZZp w q) (hE : ∀ j, (tc j).1 = (tc j).2) : PMi l yX11_ached cX11_ached 2 .int 2 0 0 G [.ref (ad 0 0), .int i1] L f (fun r L1 f1 => SH (spC (NR 30 0 4) ((0, 6) : Int × Int) tc w q) nnC G ad L1 f1) := by
  refine PMi.of (post := fun r L1 f1 => SH (spC (NR 30 0 4) ((0, 6) : Int × Int) tc w q) nnC G ad L1 f1) (own := RX11) (by decide) rfl (Nat.le_of_ble_eq_true rfl) (fun sz p e s m args below meth c A ls hA1 hname S Y hl => ?_)
  have hx := S.hx
  have hb := S.hb
  have hl : lv_has ls 2 [(0, .ref (ad 0 0)), (1, .int i1)] := hl
  refine lv_iload_n hx hb dX11_ached_0 rfl (lv_at hl 1 rfl) ?_
  refine lv_iconst (v := (-1)) hx hb dX11_ached_1 (by decide) ?_
  refine lv_icmp_eq (tgt := 19) hx hb dX11_ached_2 (by decide) (fun c_72530 => ?_) (fun c_72530 => ?_)
  · have B_72531 : bn (-1) (-1) i1 := bn_w (bn_eq c_72530 (show bn (-1) (-1) ((-1) : Int32) from bn_k (by decide))) (by decide)
    refine lv_aload_n hx hb dX11_ached_19 rfl (lv_at hl 0 rfl) ?_
    have p_ad_0_0 := opnC_0 (j := 0) I (by decide)
    have p_ad_0_0 : pt L f (ad 0 0) (.inr (11, [.ref (ad 1 0), .ref (ad 1 1), .ref (ad 2 0), .ref (ad 3 0), .ref (ad 4 0), .ref (ad 5 0), .ref (ad 6 0), .ref (ad 7 0), .ref (ad 8 0)])) := p_ad_0_0
    refine pg_get S Y ok_X11 0 (by decide) kf11_13 (v := .ref (ad 1 0)) p_ad_0_0 rfl dX11_ached_20 ?_
    obtain ⟨v_72532, v_72534, v_72536, v_72538, v_72540, p_ad_1_0, b_72533, b_72535, b_72537, b_72539, b_72541⟩ := opnC_1 (j := 0) I (by decide)
    have p_ad_1_0 : pt L f (ad 1 0) (.inr (10, [.ref (ad 40 0), .ref (ad 41 0), .ref (ad 42 0), .ref (ad 10 0), .ref (ad 43 0), .ref (ad 20 0), .ref (ad 20 1), .ref (ad 20 2), .ref (ad 20 3), .ref (ad 20 4), .int v_72532, .int v_72534, .int v_72536, .int v_72538, .int v_72540])) := p_ad_1_0
    refine pg_getN S Y ok_X10 3 (by decide) kf11_131 (v := .ref (ad 10 0)) p_ad_1_0 rfl dX11_ached_23 ?_
    refine lv_iload_n hx hb dX11_ached_26 rfl (lv_at hl 1 rfl) ?_
    refine cVp (As := [.int i1]) (rest := []) S Y (x_X4_writtenOf (l := l) (j := 0) I hW hT hQ (by decide)) cw_X4_writtenOf km11_341 (I.opo (k := 10) (j := 0) (by decide) rfl).choose_spec.1 ok_X4.1 rfl rfl ⟨Nat.le_of_ble_eq_true rfl, Nat.le_of_ble_eq_true rfl⟩ hl.1 rfl (Nat.le_of_ble_eq_true rfl) ⟨Nat.le_of_ble_eq_true rfl, Nat.le_of_ble_eq_true rfl⟩ dX11_ached_27 (fun r_72542 H locs er_72542 Y => ?_)
    exact prI (post := fun r L1 f1 => SH (spC (NR 30 0 4) ((0, 6) : Int × Int) tc w q) nnC G ad L1 f1) S Y rfl (by decide) (by decide) hA1 I dX11_ached_30
  · refine lv_aload_n hx hb dX11_ached_5 rfl (lv_at hl 0 rfl) ?_
    have p_ad_0_0 := opnC_0 (j := 0) I (by decide)
    have p_ad_0_0 : pt L f (ad 0 0) (.inr (11, [.ref (ad 1 0), .ref (ad 1 1), .ref (ad 2 0), .ref (ad 3 0), .ref (ad 4 0), .ref (ad 5 0), .ref (ad 6 0), .ref (ad 7 0), .ref (ad 8 0)])) := p_ad_0_0
    refine pg_get S Y ok_X11 0 (by decide) kf11_13 (v := .ref (ad 1 0)) p_ad_0_0 rfl dX11_ached_6 ?_
    refine lv_iload_n hx hb dX11_ached_9 rfl (lv_at hl 1 rfl) ?_
    refine cVp (As := [.int i1]) (rest := []) S Y (x_X10_has (l := l) I hW hT hQ) cw_X10_has km11_192 (I.opo (k := 1) (j := 0) (by decide) rfl).choose_spec.1 ok_X10.1 rfl rfl ⟨Nat.le_of_ble_eq_true rfl, Nat.le_of_ble_eq_true rfl⟩ hl.1 rfl (Nat.le_of_ble_eq_true rfl) ⟨Nat.le_of_ble_eq_true rfl, Nat.le_of_ble_eq_true rfl⟩ dX11_ached_10 (fun r_72543 H locs er_72543 Y => ?_)
    refine lv_if_ne (tgt := 19) hx hb dX11_ached_13 (by decide) (fun c_72544 => ?_) (fun c_72544 => ?_)
    · have B_72545 : bn 1 1 r_72543 := bn_w (bn_nel c_72544 er_72543 (show bn 0 0 (0 : Int32) from bn_k (by decide))) (by decide)
      refine lv_aload_n hx hb dX11_ached_19 rfl (lv_at hl 0 rfl) ?_
      refine pg_get S Y ok_X11 0 (by decide) kf11_13 (v := .ref (ad 1 0)) p_ad_0_0 rfl dX11_ached_20 ?_
      obtain ⟨v_72547, v_72549, v_72551, v_72553, v_72555, p_ad_1_0, b_72548, b_72550, b_72552, b_72554, b_72556⟩ := opnC_1 (j := 0) I (by decide)
      have p_ad_1_0 : pt L f (ad 1 0) (.inr (10, [.ref (ad 40 0), .ref (ad 41 0), .ref (ad 42 0), .ref (ad 10 0), .ref (ad 43 0), .ref (ad 20 0), .ref (ad 20 1), .ref (ad 20 2), .ref (ad 20 3), .ref (ad 20 4), .int v_72547, .int v_72549, .int v_72551, .int v_72553, .int v_72555])) := p_ad_1_0
      refine pg_getN S Y ok_X10 3 (by decide) kf11_131 (v := .ref (ad 10 0)) p_ad_1_0 rfl dX11_ached_23 ?_
      refine lv_iload_n hx hb dX11_ached_26 rfl (lv_at hl 1 rfl) ?_
      refine cVp (As := [.int i1]) (rest := []) S Y (x_X4_writtenOf (l := l) (j := 0) I hW hT hQ (by decide)) cw_X4_writtenOf km11_341 (I.opo (k := 10) (j := 0) (by decide) rfl).choose_spec.1 ok_X4.1 rfl rfl ⟨Nat.le_of_ble_eq_true rfl, Nat.le_of_ble_eq_true rfl⟩ hl.1 rfl (Nat.le_of_ble_eq_true rfl) ⟨Nat.le_of_ble_eq_true rfl, Nat.le_of_ble_eq_true rfl⟩ dX11_ached_27 (fun r_72557 H locs er_72557 Y => ?_)
      exact prI (post := fun r L1 f1 => SH (spC (NR 30 0 4) ((0, 6) : Int × Int) tc w q) nnC G ad L1 f1) S Y rfl (by decide) (by decide) hA1 I dX11_ached_30
    · have B_72546 : bn 0 0 r_72543 := bn_w (bn_eq c_72544 (show bn 0 0 (0 : Int32) from bn_k (by decide))) (by decide)
      refine lv_bipush (v := (-2)) hx hb dX11_ached_16 (by decide) ?_
      exact prI (post := fun r L1 f1 => SH (spC (NR 30 0 4) ((0, 6) : Int × Int) tc w q) nnC G ad L1 f1) S Y rfl (by decide) (by decide) hA1 I dX11_ached_18
set_option maxHeartbeats 4000000 in
set_option maxRecDepth 100000 in
theorem x_X11_worstDay {l : Launch} {G : GG}  {L : List Nat} {f : HF} {ad : Nat → Nat → Nat} {tc w : Nat → Int × Int} {q : Nat → (Nat → Int32) → Prop} (I : SH (spC (NR 30 0 4) ((0, 6) : Int × Int) tc w q) nnC G ad L f) (hW : WBp w 8) (hT : WBp tc 4) (hQ : QIp q) (hZ : ZZp w q) (hE : ∀ j, (tc j).1 = (tc j).2) : PMi l yX11_worstDay cX11_worstDay 1 .int 2 0 0 G [.ref (ad 0 0)] L f (fun r L1 f1 => SH (spC (NR 30 0 4) ((0, 6) : Int × Int) tc w q) nnC G ad L1 f1) := by
  refine PMi.of (post := fun r L1 f1 => SH (spC (NR 30 0 4) ((0, 6) : Int × Int) tc w q) nnC G ad L1 f1) (own := RX11) (by decide) rfl (Nat.le_of_ble_eq_true rfl) (fun sz p e s m args below meth c A ls hA1 hname S Y hl => ?_)
  have hx := S.hx
  have hb := S.hb
  have hl : lv_has ls 1 [(0, .ref (ad 0 0))] := hl
  refine lv_aload_n hx hb dX11_worstDay_0 rfl (lv_at hl 0 rfl) ?_
  have p_ad_0_0 := opnC_0 (j := 0) I (by decide)
  have p_ad_0_0 : pt L f (ad 0 0) (.inr (11, [.ref (ad 1 0), .ref (ad 1 1), .ref (ad 2 0), .ref (ad 3 0), .ref (ad 4 0), .ref (ad 5 0), .ref (ad 6 0), .ref (ad 7 0), .ref (ad 8 0)])) := p_ad_0_0
  refine pg_get S Y ok_X11 0 (by decide) kf11_13 (v := .ref (ad 1 0)) p_ad_0_0 rfl dX11_worstDay_1 ?_
  obtain ⟨v_72580, v_72582, v_72584, v_72586, v_72588, p_ad_1_0, b_72581, b_72583, b_72585, b_72587, b_72589⟩ := opnC_1 (j := 0) I (by decide)
  have p_ad_1_0 : pt L f (ad 1 0) (.inr (10, [.ref (ad 40 0), .ref (ad 41 0), .ref (ad 42 0), .ref (ad 10 0), .ref (ad 43 0), .ref (ad 20 0), .ref (ad 20 1), .ref (ad 20 2), .ref (ad 20 3), .ref (ad 20 4), .int v_72580, .int v_72582, .int v_72584, .int v_72586, .int v_72588])) := p_ad_1_0
  refine pg_getN S Y ok_X10 3 (by decide) kf11_131 (v := .ref (ad 10 0)) p_ad_1_0 rfl dX11_worstDay_4 ?_
  refine cVp (As := []) (rest := []) S Y (x_X4_dayOfMost (l := l) (j := 0) I hW hT hQ (by decide)) cw_X4_dayOfMost km11_344 (I.opo (k := 10) (j := 0) (by decide) rfl).choose_spec.1 ok_X4.1 rfl rfl ⟨Nat.le_of_ble_eq_true rfl, Nat.le_of_ble_eq_true rfl⟩ hl.1 rfl (Nat.le_of_ble_eq_true rfl) ⟨Nat.le_of_ble_eq_true rfl, Nat.le_of_ble_eq_true rfl⟩ dX11_worstDay_7 (fun r_72590 H locs er_72590 Y => ?_)
  exact prI (post := fun r L1 f1 => SH (spC (NR 30 0 4) ((0, 6) : Int × Int) tc w q) nnC G ad L1 f1) S Y rfl (by decide) (by decide) hA1 I dX11_worstDay_10
set_option maxHeartbeats 4000000 in
set_option maxRecDepth 100000 in
theorem x_X11_about {l : Launch} {G : GG}  {L : List Nat} {f : HF} {ad : Nat → Nat → Nat} {tc w : Nat → Int × Int} {q : Nat → (Nat → Int32) → Prop} {i1 : Int32} (I : SH (spC (NR 30 0 4) ((0, 6) : Int × Int) tc w q) nnC G ad L f) (hW : WBp w 8) (hT : WBp tc 4) (hQ : QIp q) (hZ : ZZp w q) (hE : ∀ j, (tc j).1 = (tc j).2) : PMi l yX11_about cX11_about 2 .int 1 0 0 G [.ref (ad 0 0), .int i1] L f (fun r L1 f1 => SH (spC (NR 30 0 4) ((0, 6) : Int × Int) tc w q) nnC G ad L1 f1) := by
  refine PMi.of (post := fun r L1 f1 => SH (spC (NR 30 0 4) ((0, 6) : Int × Int) tc w q) nnC G ad L1 f1) (own := RX11) (by decide) rfl (Nat.le_of_ble_eq_true rfl) (fun sz p e s m args below meth c A ls hA1 hname S Y hl => ?_)
  have hx := S.hx
  have hb := S.hb
  have hl : lv_has ls 2 [(0, .ref (ad 0 0)), (1, .int i1)] := hl
  refine lv_iload_n hx hb dX11_about_0 rfl (lv_at hl 1 rfl) ?_
  rcases sw_0_9 i1 with h_72815 | h_72815 | h_72815 | h_72815 | h_72815 | h_72815 | h_72815 | h_72815 | h_72815 | h_72815 | h_72815
  · refine lv_fold (z := 0) h_72815 ?_
    refine lv_tableIn (off := 55) (tgt := 56) hx hb dX11_about_1 (by decide) (by decide) (by decide) (by decide) ?_
    refine lv_aload_n hx hb dX11_about_56 rfl (lv_at hl 0 rfl) ?_
    have p_ad_0_0 := opnC_0 (j := 0) I (by decide)
    have p_ad_0_0 : pt L f (ad 0 0) (.inr (11, [.ref (ad 1 0), .ref (ad 1 1), .ref (ad 2 0), .ref (ad 3 0), .ref (ad 4 0), .ref (ad 5 0), .ref (ad 6 0), .ref (ad 7 0), .ref (ad 8 0)])) := p_ad_0_0
    refine pg_get S Y ok_X11 0 (by decide) kf11_13 (v := .ref (ad 1 0)) p_ad_0_0 rfl dX11_about_57 ?_
    obtain ⟨v_72816, v_72818, v_72820, v_72822, v_72824, p_ad_1_0, b_72817, b_72819, b_72821, b_72823, b_72825⟩ := opnC_1 (j := 0) I (by decide)
    have p_ad_1_0 : pt L f (ad 1 0) (.inr (10, [.ref (ad 40 0), .ref (ad 41 0), .ref (ad 42 0), .ref (ad 10 0), .ref (ad 43 0), .ref (ad 20 0), .ref (ad 20 1), .ref (ad 20 2), .ref (ad 20 3), .ref (ad 20 4), .int v_72816, .int v_72818, .int v_72820, .int v_72822, .int v_72824])) := p_ad_1_0
    refine pg_getN S Y ok_X10 10 (by decide) kf11_174 (v := .int v_72816) p_ad_1_0 rfl dX11_about_60 ?_
    exact prI (post := fun r L1 f1 => SH (spC (NR 30 0 4) ((0, 6) : Int × Int) tc w q) nnC G ad L1 f1) S Y rfl (by decide) (by decide) hA1 I dX11_about_63
  · refine lv_fold (z := 1) h_72815 ?_
    refine lv_tableIn (off := 63) (tgt := 64) hx hb dX11_about_1 (by decide) (by decide) (by decide) (by decide) ?_
    refine lv_aload_n hx hb dX11_about_64 rfl (lv_at hl 0 rfl) ?_
    have p_ad_0_0 := opnC_0 (j := 0) I (by decide)
    have p_ad_0_0 : pt L f (ad 0 0) (.inr (11, [.ref (ad 1 0), .ref (ad 1 1), .ref (ad 2 0), .ref (ad 3 0), .ref (ad 4 0), .ref (ad 5 0), .ref (ad 6 0), .ref (ad 7 0), .ref (ad 8 0)])) := p_ad_0_0
    refine pg_get S Y ok_X11 0 (by decide) kf11_13 (v := .ref (ad 1 0)) p_ad_0_0 rfl dX11_about_65 ?_
    obtain ⟨v_72826, v_72828, v_72830, v_72832, v_72834, p_ad_1_0, b_72827, b_72829, b_72831, b_72833, b_72835⟩ := opnC_1 (j := 0) I (by decide)
    have p_ad_1_0 : pt L f (ad 1 0) (.inr (10, [.ref (ad 40 0), .ref (ad 41 0), .ref (ad 42 0), .ref (ad 10 0), .ref (ad 43 0), .ref (ad 20 0), .ref (ad 20 1), .ref (ad 20 2), .ref (ad 20 3), .ref (ad 20 4), .int v_72826, .int v_72828, .int v_72830, .int v_72832, .int v_72834])) := p_ad_1_0
    refine pg_getN S Y ok_X10 11 (by decide) kf11_329 (v := .int v_72828) p_ad_1_0 rfl dX11_about_68 ?_
    exact prI (post := fun r L1 f1 => SH (spC (NR 30 0 4) ((0, 6) : Int × Int) tc w q) nnC G ad L1 f1) S Y rfl (by decide) (by decide) hA1 I dX11_about_71
  · refine lv_fold (z := 2) h_72815 ?_
    refine lv_tableIn (off := 71) (tgt := 72) hx hb dX11_about_1 (by decide) (by decide) (by decide) (by decide) ?_
    refine lv_aload_n hx hb dX11_about_72 rfl (lv_at hl 0 rfl) ?_
    have p_ad_0_0 := opnC_0 (j := 0) I (by decide)
    have p_ad_0_0 : pt L f (ad 0 0) (.inr (11, [.ref (ad 1 0), .ref (ad 1 1), .ref (ad 2 0), .ref (ad 3 0), .ref (ad 4 0), .ref (ad 5 0), .ref (ad 6 0), .ref (ad 7 0), .ref (ad 8 0)])) := p_ad_0_0
    refine pg_get S Y ok_X11 0 (by decide) kf11_13 (v := .ref (ad 1 0)) p_ad_0_0 rfl dX11_about_73 ?_
    obtain ⟨v_72836, v_72838, v_72840, v_72842, v_72844, p_ad_1_0, b_72837, b_72839, b_72841, b_72843, b_72845⟩ := opnC_1 (j := 0) I (by decide)
    have p_ad_1_0 : pt L f (ad 1 0) (.inr (10, [.ref (ad 40 0), .ref (ad 41 0), .ref (ad 42 0), .ref (ad 10 0), .ref (ad 43 0), .ref (ad 20 0), .ref (ad 20 1), .ref (ad 20 2), .ref (ad 20 3), .ref (ad 20 4), .int v_72836, .int v_72838, .int v_72840, .int v_72842, .int v_72844])) := p_ad_1_0
    refine pg_getN S Y ok_X10 12 (by decide) kf11_212 (v := .int v_72840) p_ad_1_0 rfl dX11_about_76 ?_
    exact prI (post := fun r L1 f1 => SH (spC (NR 30 0 4) ((0, 6) : Int × Int) tc w q) nnC G ad L1 f1) S Y rfl (by decide) (by decide) hA1 I dX11_about_79
  · refine lv_fold (z := 3) h_72815 ?_
    refine lv_tableIn (off := 79) (tgt := 80) hx hb dX11_about_1 (by decide) (by decide) (by decide) (by decide) ?_
    refine lv_aload_n hx hb dX11_about_80 rfl (lv_at hl 0 rfl) ?_
    have p_ad_0_0 := opnC_0 (j := 0) I (by decide)
    have p_ad_0_0 : pt L f (ad 0 0) (.inr (11, [.ref (ad 1 0), .ref (ad 1 1), .ref (ad 2 0), .ref (ad 3 0), .ref (ad 4 0), .ref (ad 5 0), .ref (ad 6 0), .ref (ad 7 0), .ref (ad 8 0)])) := p_ad_0_0
    refine pg_get S Y ok_X11 0 (by decide) kf11_13 (v := .ref (ad 1 0)) p_ad_0_0 rfl dX11_about_81 ?_
    obtain ⟨v_72846, v_72848, v_72850, v_72852, v_72854, p_ad_1_0, b_72847, b_72849, b_72851, b_72853, b_72855⟩ := opnC_1 (j := 0) I (by decide)
    have p_ad_1_0 : pt L f (ad 1 0) (.inr (10, [.ref (ad 40 0), .ref (ad 41 0), .ref (ad 42 0), .ref (ad 10 0), .ref (ad 43 0), .ref (ad 20 0), .ref (ad 20 1), .ref (ad 20 2), .ref (ad 20 3), .ref (ad 20 4), .int v_72846, .int v_72848, .int v_72850, .int v_72852, .int v_72854])) := p_ad_1_0
    refine pg_getN S Y ok_X10 14 (by decide) kf11_189 (v := .int v_72854) p_ad_1_0 rfl dX11_about_84 ?_
    exact prI (post := fun r L1 f1 => SH (spC (NR 30 0 4) ((0, 6) : Int × Int) tc w q) nnC G ad L1 f1) S Y rfl (by decide) (by decide) hA1 I dX11_about_87
  · refine lv_fold (z := 4) h_72815 ?_
    refine lv_tableIn (off := 87) (tgt := 88) hx hb dX11_about_1 (by decide) (by decide) (by decide) (by decide) ?_
    refine lv_aload_n hx hb dX11_about_88 rfl (lv_at hl 0 rfl) ?_
    have p_ad_0_0 := opnC_0 (j := 0) I (by decide)
    have p_ad_0_0 : pt L f (ad 0 0) (.inr (11, [.ref (ad 1 0), .ref (ad 1 1), .ref (ad 2 0), .ref (ad 3 0), .ref (ad 4 0), .ref (ad 5 0), .ref (ad 6 0), .ref (ad 7 0), .ref (ad 8 0)])) := p_ad_0_0
    refine pg_get S Y ok_X11 0 (by decide) kf11_13 (v := .ref (ad 1 0)) p_ad_0_0 rfl dX11_about_89 ?_
    obtain ⟨v_72856, v_72858, v_72860, v_72862, v_72864, p_ad_1_0, b_72857, b_72859, b_72861, b_72863, b_72865⟩ := opnC_1 (j := 0) I (by decide)
    have p_ad_1_0 : pt L f (ad 1 0) (.inr (10, [.ref (ad 40 0), .ref (ad 41 0), .ref (ad 42 0), .ref (ad 10 0), .ref (ad 43 0), .ref (ad 20 0), .ref (ad 20 1), .ref (ad 20 2), .ref (ad 20 3), .ref (ad 20 4), .int v_72856, .int v_72858, .int v_72860, .int v_72862, .int v_72864])) := p_ad_1_0
    refine pg_getN S Y ok_X10 5 (by decide) kf11_249 (v := .ref (ad 20 0)) p_ad_1_0 rfl dX11_about_92 ?_
    obtain ⟨v_72866, v_72868, p_ad_20_0, b_72867, b_72869⟩ := opnC_20 (j := 0) I (by decide)
    have p_ad_20_0 : pt L f (ad 20 0) (.inr (9, [.ref (ad 21 0), .int v_72866, .int v_72868])) := p_ad_20_0
    refine pg_getN S Y ok_X9 2 (by decide) kf11_350 (v := .int v_72868) p_ad_20_0 rfl dX11_about_95 ?_
    exact prI (post := fun r L1 f1 => SH (spC (NR 30 0 4) ((0, 6) : Int × Int) tc w q) nnC G ad L1 f1) S Y rfl (by decide) (by decide) hA1 I dX11_about_98
  · refine lv_fold (z := 5) h_72815 ?_
    refine lv_tableIn (off := 98) (tgt := 99) hx hb dX11_about_1 (by decide) (by decide) (by decide) (by decide) ?_
    refine lv_aload_n hx hb dX11_about_99 rfl (lv_at hl 0 rfl) ?_
    have p_ad_0_0 := opnC_0 (j := 0) I (by decide)
    have p_ad_0_0 : pt L f (ad 0 0) (.inr (11, [.ref (ad 1 0), .ref (ad 1 1), .ref (ad 2 0), .ref (ad 3 0), .ref (ad 4 0), .ref (ad 5 0), .ref (ad 6 0), .ref (ad 7 0), .ref (ad 8 0)])) := p_ad_0_0
    refine pg_get S Y ok_X11 0 (by decide) kf11_13 (v := .ref (ad 1 0)) p_ad_0_0 rfl dX11_about_100 ?_
    obtain ⟨v_72870, v_72872, v_72874, v_72876, v_72878, p_ad_1_0, b_72871, b_72873, b_72875, b_72877, b_72879⟩ := opnC_1 (j := 0) I (by decide)
    have p_ad_1_0 : pt L f (ad 1 0) (.inr (10, [.ref (ad 40 0), .ref (ad 41 0), .ref (ad 42 0), .ref (ad 10 0), .ref (ad 43 0), .ref (ad 20 0), .ref (ad 20 1), .ref (ad 20 2), .ref (ad 20 3), .ref (ad 20 4), .int v_72870, .int v_72872, .int v_72874, .int v_72876, .int v_72878])) := p_ad_1_0
    refine pg_getN S Y ok_X10 6 (by decide) kf11_284 (v := .ref (ad 20 1)) p_ad_1_0 rfl dX11_about_103 ?_
    obtain ⟨v_72880, v_72882, p_ad_20_1, b_72881, b_72883⟩ := opnC_20 (j := 1) I (by decide)
    have p_ad_20_1 : pt L f (ad 20 1) (.inr (9, [.ref (ad 21 1), .int v_72880, .int v_72882])) := p_ad_20_1
    refine pg_getN S Y ok_X9 2 (by decide) kf11_350 (v := .int v_72882) p_ad_20_1 rfl dX11_about_106 ?_
    exact prI (post := fun r L1 f1 => SH (spC (NR 30 0 4) ((0, 6) : Int × Int) tc w q) nnC G ad L1 f1) S Y rfl (by decide) (by decide) hA1 I dX11_about_109
  · refine lv_fold (z := 6) h_72815 ?_
    refine lv_tableIn (off := 109) (tgt := 110) hx hb dX11_about_1 (by decide) (by decide) (by decide) (by decide) ?_
    refine lv_aload_n hx hb dX11_about_110 rfl (lv_at hl 0 rfl) ?_
    have p_ad_0_0 := opnC_0 (j := 0) I (by decide)
    have p_ad_0_0 : pt L f (ad 0 0) (.inr (11, [.ref (ad 1 0), .ref (ad 1 1), .ref (ad 2 0), .ref (ad 3 0), .ref (ad 4 0), .ref (ad 5 0), .ref (ad 6 0), .ref (ad 7 0), .ref (ad 8 0)])) := p_ad_0_0
    refine pg_get S Y ok_X11 0 (by decide) kf11_13 (v := .ref (ad 1 0)) p_ad_0_0 rfl dX11_about_111 ?_
    obtain ⟨v_72884, v_72886, v_72888, v_72890, v_72892, p_ad_1_0, b_72885, b_72887, b_72889, b_72891, b_72893⟩ := opnC_1 (j := 0) I (by decide)
    have p_ad_1_0 : pt L f (ad 1 0) (.inr (10, [.ref (ad 40 0), .ref (ad 41 0), .ref (ad 42 0), .ref (ad 10 0), .ref (ad 43 0), .ref (ad 20 0), .ref (ad 20 1), .ref (ad 20 2), .ref (ad 20 3), .ref (ad 20 4), .int v_72884, .int v_72886, .int v_72888, .int v_72890, .int v_72892])) := p_ad_1_0
    refine pg_getN S Y ok_X10 7 (by decide) kf11_293 (v := .ref (ad 20 2)) p_ad_1_0 rfl dX11_about_114 ?_
    obtain ⟨v_72894, v_72896, p_ad_20_2, b_72895, b_72897⟩ := opnC_20 (j := 2) I (by decide)
    have p_ad_20_2 : pt L f (ad 20 2) (.inr (9, [.ref (ad 21 2), .int v_72894, .int v_72896])) := p_ad_20_2
    refine pg_getN S Y ok_X9 2 (by decide) kf11_350 (v := .int v_72896) p_ad_20_2 rfl dX11_about_117 ?_
    exact prI (post := fun r L1 f1 => SH (spC (NR 30 0 4) ((0, 6) : Int × Int) tc w q) nnC G ad L1 f1) S Y rfl (by decide) (by decide) hA1 I dX11_about_120
  · refine lv_fold (z := 7) h_72815 ?_
    refine lv_tableIn (off := 120) (tgt := 121) hx hb dX11_about_1 (by decide) (by decide) (by decide) (by decide) ?_
    refine lv_aload_n hx hb dX11_about_121 rfl (lv_at hl 0 rfl) ?_
    have p_ad_0_0 := opnC_0 (j := 0) I (by decide)
    have p_ad_0_0 : pt L f (ad 0 0) (.inr (11, [.ref (ad 1 0), .ref (ad 1 1), .ref (ad 2 0), .ref (ad 3 0), .ref (ad 4 0), .ref (ad 5 0), .ref (ad 6 0), .ref (ad 7 0), .ref (ad 8 0)])) := p_ad_0_0
    refine pg_get S Y ok_X11 0 (by decide) kf11_13 (v := .ref (ad 1 0)) p_ad_0_0 rfl dX11_about_122 ?_
    obtain ⟨v_72898, v_72900, v_72902, v_72904, v_72906, p_ad_1_0, b_72899, b_72901, b_72903, b_72905, b_72907⟩ := opnC_1 (j := 0) I (by decide)
    have p_ad_1_0 : pt L f (ad 1 0) (.inr (10, [.ref (ad 40 0), .ref (ad 41 0), .ref (ad 42 0), .ref (ad 10 0), .ref (ad 43 0), .ref (ad 20 0), .ref (ad 20 1), .ref (ad 20 2), .ref (ad 20 3), .ref (ad 20 4), .int v_72898, .int v_72900, .int v_72902, .int v_72904, .int v_72906])) := p_ad_1_0
    refine pg_getN S Y ok_X10 8 (by decide) kf11_313 (v := .ref (ad 20 3)) p_ad_1_0 rfl dX11_about_125 ?_
    obtain ⟨v_72908, v_72910, p_ad_20_3, b_72909, b_72911⟩ := opnC_20 (j := 3) I (by decide)
    have p_ad_20_3 : pt L f (ad 20 3) (.inr (9, [.ref (ad 21 3), .int v_72908, .int v_72910])) := p_ad_20_3
    refine pg_getN S Y ok_X9 2 (by decide) kf11_350 (v := .int v_72910) p_ad_20_3 rfl dX11_about_128 ?_
    exact prI (post := fun r L1 f1 => SH (spC (NR 30 0 4) ((0, 6) : Int × Int) tc w q) nnC G ad L1 f1) S Y rfl (by decide) (by decide) hA1 I dX11_about_131
  · refine lv_fold (z := 8) h_72815 ?_
    refine lv_tableIn (off := 131) (tgt := 132) hx hb dX11_about_1 (by decide) (by decide) (by decide) (by decide) ?_
    refine lv_aload_n hx hb dX11_about_132 rfl (lv_at hl 0 rfl) ?_
    have p_ad_0_0 := opnC_0 (j := 0) I (by decide)
    have p_ad_0_0 : pt L f (ad 0 0) (.inr (11, [.ref (ad 1 0), .ref (ad 1 1), .ref (ad 2 0), .ref (ad 3 0), .ref (ad 4 0), .ref (ad 5 0), .ref (ad 6 0), .ref (ad 7 0), .ref (ad 8 0)])) := p_ad_0_0
    refine pg_get S Y ok_X11 0 (by decide) kf11_13 (v := .ref (ad 1 0)) p_ad_0_0 rfl dX11_about_133 ?_
    obtain ⟨v_72912, v_72914, v_72916, v_72918, v_72920, p_ad_1_0, b_72913, b_72915, b_72917, b_72919, b_72921⟩ := opnC_1 (j := 0) I (by decide)
    have p_ad_1_0 : pt L f (ad 1 0) (.inr (10, [.ref (ad 40 0), .ref (ad 41 0), .ref (ad 42 0), .ref (ad 10 0), .ref (ad 43 0), .ref (ad 20 0), .ref (ad 20 1), .ref (ad 20 2), .ref (ad 20 3), .ref (ad 20 4), .int v_72912, .int v_72914, .int v_72916, .int v_72918, .int v_72920])) := p_ad_1_0
    refine pg_getN S Y ok_X10 9 (by decide) kf11_326 (v := .ref (ad 20 4)) p_ad_1_0 rfl dX11_about_136 ?_
    obtain ⟨v_72922, v_72924, p_ad_20_4, b_72923, b_72925⟩ := opnC_20 (j := 4) I (by decide)
    have p_ad_20_4 : pt L f (ad 20 4) (.inr (9, [.ref (ad 21 4), .int v_72922, .int v_72924])) := p_ad_20_4
    refine pg_getN S Y ok_X9 2 (by decide) kf11_350 (v := .int v_72924) p_ad_20_4 rfl dX11_about_139 ?_
    exact prI (post := fun r L1 f1 => SH (spC (NR 30 0 4) ((0, 6) : Int × Int) tc w q) nnC G ad L1 f1) S Y rfl (by decide) (by decide) hA1 I dX11_about_142
  · refine lv_fold (z := 9) h_72815 ?_
    refine lv_tableIn (off := 142) (tgt := 143) hx hb dX11_about_1 (by decide) (by decide) (by decide) (by decide) ?_
    refine lv_aload_n hx hb dX11_about_143 rfl (lv_at hl 0 rfl) ?_
    have p_ad_0_0 := opnC_0 (j := 0) I (by decide)
    have p_ad_0_0 : pt L f (ad 0 0) (.inr (11, [.ref (ad 1 0), .ref (ad 1 1), .ref (ad 2 0), .ref (ad 3 0), .ref (ad 4 0), .ref (ad 5 0), .ref (ad 6 0), .ref (ad 7 0), .ref (ad 8 0)])) := p_ad_0_0
    refine pg_get S Y ok_X11 2 (by decide) kf11_25 (v := .ref (ad 2 0)) p_ad_0_0 rfl dX11_about_144 ?_
    refine cVp (As := []) (rest := []) S Y (x_X5_size (l := l) I hW hT hQ) cw_X5_size km11_91 (I.opo (k := 2) (j := 0) (by decide) rfl).choose_spec.1 ok_X5.1 rfl rfl ⟨Nat.le_of_ble_eq_true rfl, Nat.le_of_ble_eq_true rfl⟩ hl.1 rfl (Nat.le_of_ble_eq_true rfl) ⟨Nat.le_of_ble_eq_true rfl, Nat.le_of_ble_eq_true rfl⟩ dX11_about_147 (fun r_72926 H locs er_72926 Y => ?_)
    exact prI (post := fun r L1 f1 => SH (spC (NR 30 0 4) ((0, 6) : Int × Int) tc w q) nnC G ad L1 f1) S Y rfl (by decide) (by decide) hA1 I dX11_about_150
  · refine lv_tableOut (tgt := 151) hx hb dX11_about_1 h_72815 (by decide) ?_
    refine lv_bipush (v := (-2)) hx hb dX11_about_151 (by decide) ?_
    exact prI (post := fun r L1 f1 => SH (spC (NR 30 0 4) ((0, 6) : Int × Int) tc w q) nnC G ad L1 f1) S Y rfl (by decide) (by decide) hA1 I dX11_about_153
