theorem dX11_one_0 : decode cX11_one 0 = .ok (.aload_n 0, 1) := by decide +kernel
theorem dX11_one_1 : decode cX11_one 1 = .ok (.getfield 13, 3) := by decide +kernel
theorem ok_X11 : clOK 11 RX11 TX11 9 tyX11 := ⟨rfl, fun w h => ⟨(show ∀ w ∈ u_ws RX11 TX11 9, w ∈ lw_tbl by decide +kernel) w h, (show ∀ w ∈ u_ws RX11 TX11 9, gw w = true by decide +kernel) w h⟩, tyX11_ok, nmX11⟩
theorem kf11_13 : inW (Cond.fieldLink RX11 13 "KneeOaths" "world" "LKneeOaths$World;") := ⟨List.mem_of_getElem? (i := 505) (by decide +kernel), by decide +kernel⟩
theorem dX11_one_4 : decode cX11_one 4 = .ok (.iload_n 1, 1) := by decide +kernel
theorem dX11_one_5 : decode cX11_one 5 = .ok (.iload_n 2, 1) := by decide +kernel
theorem dX11_one_6 : decode cX11_one 6 = .ok (.invokevirtual 79, 3) := by decide +kernel
theorem km11_79 : inW (Cond.methodLink RX11 79 yX10_welcome) := ⟨List.mem_of_getElem? (i := 537) (by decide +kernel), by decide +kernel⟩
theorem dX11_one_9 : decode cX11_one 9 = .ok (.ireturn, 1) := by decide +kernel
theorem dX11_feed_0 : decode cX11_feed 0 = .ok (.aload_n 0, 1) := by decide +kernel
theorem dX11_feed_1 : decode cX11_feed 1 = .ok (.getfield 25, 3) := by decide +kernel
theorem kf11_25 : inW (Cond.fieldLink RX11 25 "KneeOaths" "reader" "LKneeOaths$Reader;") := ⟨List.mem_of_getElem? (i := 507) (by decide +kernel), by decide +kernel⟩
theorem dX11_feed_4 : decode cX11_feed 4 = .ok (.bipush 20, 2) := by decide +kernel
theorem dX11_feed_6 : decode cX11_feed 6 = .ok (.invokevirtual 83, 3) := by decide +kernel
theorem cw_X5_hasRoomFor : CWv yX5_hasRoomFor cX5_hasRoomFor 2 (some .boolean) 1 := ⟨⟨⟨List.mem_of_getElem? (i := 130) (by decide +kernel), by decide +kernel⟩, ⟨List.mem_of_getElem? (i := 551) (by decide +kernel), by decide +kernel⟩, by decide +kernel⟩, ⟨List.mem_of_getElem? (i := 549) (by decide +kernel), by decide +kernel⟩, ⟨List.mem_of_getElem? (i := 550) (by decide +kernel), by decide +kernel⟩⟩
theorem km11_83 : inW (Cond.methodLink RX11 83 yX5_hasRoomFor) := ⟨List.mem_of_getElem? (i := 548) (by decide +kernel), by decide +kernel⟩
theorem dX11_feed_9 : decode cX11_feed 9 = .ok (.ifCond .ne 5, 3) := by decide +kernel
theorem dX11_feed_14 : decode cX11_feed 14 = .ok (.aload_n 0, 1) := by decide +kernel
theorem dX11_feed_15 : decode cX11_feed 15 = .ok (.getfield 25, 3) := by decide +kernel
theorem dX11_feed_18 : decode cX11_feed 18 = .ok (.iload_n 1, 1) := by decide +kernel
theorem dX11_feed_19 : decode cX11_feed 19 = .ok (.invokevirtual 87, 3) := by decide +kernel
theorem cw_X5_append : CWv yX5_append cX5_append 3 none 1 := ⟨⟨⟨List.mem_of_getElem? (i := 130) (by decide +kernel), by decide +kernel⟩, ⟨List.mem_of_getElem? (i := 555) (by decide +kernel), by decide +kernel⟩, by decide +kernel⟩, ⟨List.mem_of_getElem? (i := 553) (by decide +kernel), by decide +kernel⟩, ⟨List.mem_of_getElem? (i := 554) (by decide +kernel), by decide +kernel⟩⟩
theorem km11_87 : inW (Cond.methodLink RX11 87 yX5_append) := ⟨List.mem_of_getElem? (i := 552) (by decide +kernel), by decide +kernel⟩
theorem dX11_feed_22 : decode cX11_feed 22 = .ok (.aload_n 0, 1) := by decide +kernel
theorem dX11_feed_23 : decode cX11_feed 23 = .ok (.getfield 25, 3) := by decide +kernel
theorem dX11_feed_26 : decode cX11_feed 26 = .ok (.iload_n 2, 1) := by decide +kernel
theorem dX11_feed_27 : decode cX11_feed 27 = .ok (.invokevirtual 87, 3) := by decide +kernel
theorem dX11_feed_30 : decode cX11_feed 30 = .ok (.aload_n 0, 1) := by decide +kernel
theorem dX11_feed_31 : decode cX11_feed 31 = .ok (.getfield 25, 3) := by decide +kernel
theorem dX11_feed_34 : decode cX11_feed 34 = .ok (.iload_n 3, 1) := by decide +kernel
theorem dX11_feed_35 : decode cX11_feed 35 = .ok (.invokevirtual 87, 3) := by decide +kernel
theorem dX11_feed_38 : decode cX11_feed 38 = .ok (.aload_n 0, 1) := by decide +kernel
theorem dX11_feed_39 : decode cX11_feed 39 = .ok (.getfield 25, 3) := by decide +kernel
theorem dX11_feed_42 : decode cX11_feed 42 = .ok (.iload 4, 2) := by decide +kernel
theorem dX11_feed_44 : decode cX11_feed 44 = .ok (.invokevirtual 87, 3) := by decide +kernel
theorem dX11_feed_47 : decode cX11_feed 47 = .ok (.aload_n 0, 1) := by decide +kernel
theorem dX11_feed_48 : decode cX11_feed 48 = .ok (.getfield 25, 3) := by decide +kernel
theorem dX11_feed_51 : decode cX11_feed 51 = .ok (.iload 5, 2) := by decide +kernel
theorem dX11_feed_53 : decode cX11_feed 53 = .ok (.invokevirtual 87, 3) := by decide +kernel
theorem dX11_feed_56 : decode cX11_feed 56 = .ok (.aload_n 0, 1) := by decide +kernel
theorem dX11_feed_57 : decode cX11_feed 57 = .ok (.getfield 25, 3) := by decide +kernel
theorem dX11_feed_60 : decode cX11_feed 60 = .ok (.invokevirtual 91, 3) := by decide +kernel
theorem cw_X5_size : CWv yX5_size cX5_size 1 (some .int) 0 := ⟨⟨⟨List.mem_of_getElem? (i := 130) (by decide +kernel), by decide +kernel⟩, ⟨List.mem_of_getElem? (i := 559) (by decide +kernel), by decide +kernel⟩, by decide +kernel⟩, ⟨List.mem_of_getElem? (i := 557) (by decide +kernel), by decide +kernel⟩, ⟨List.mem_of_getElem? (i := 558) (by decide +kernel), by decide +kernel⟩⟩
theorem km11_91 : inW (Cond.methodLink RX11 91 yX5_size) := ⟨List.mem_of_getElem? (i := 556) (by decide +kernel), by decide +kernel⟩
theorem dX11_feed_63 : decode cX11_feed 63 = .ok (.ireturn, 1) := by decide +kernel
theorem dX11_feed_12 : decode cX11_feed 12 = .ok (.iconst (-1), 1) := by decide +kernel
theorem dX11_feed_13 : decode cX11_feed 13 = .ok (.ireturn, 1) := by decide +kernel
theorem dX11_end_0 : decode cX11_end 0 = .ok (.aload_n 0, 1) := by decide +kernel
theorem dX11_end_1 : decode cX11_end 1 = .ok (.getfield 25, 3) := by decide +kernel
theorem dX11_end_4 : decode cX11_end 4 = .ok (.iload_n 1, 1) := by decide +kernel
theorem dX11_end_5 : decode cX11_end 5 = .ok (.invokevirtual 95, 3) := by decide +kernel
theorem cw_X5_cutTo : CWv yX5_cutTo cX5_cutTo 2 (some .boolean) 1 := ⟨⟨⟨List.mem_of_getElem? (i := 130) (by decide +kernel), by decide +kernel⟩, ⟨List.mem_of_getElem? (i := 567) (by decide +kernel), by decide +kernel⟩, by decide +kernel⟩, ⟨List.mem_of_getElem? (i := 565) (by decide +kernel), by decide +kernel⟩, ⟨List.mem_of_getElem? (i := 566) (by decide +kernel), by decide +kernel⟩⟩
theorem km11_95 : inW (Cond.methodLink RX11 95 yX5_cutTo) := ⟨List.mem_of_getElem? (i := 564) (by decide +kernel), by decide +kernel⟩
theorem dX11_end_8 : decode cX11_end 8 = .ok (.ifCond .eq 7, 3) := by decide +kernel
theorem dX11_end_15 : decode cX11_end 15 = .ok (.iconst (-1), 1) := by decide +kernel
theorem dX11_end_16 : decode cX11_end 16 = .ok (.ireturn, 1) := by decide +kernel
theorem dX11_end_11 : decode cX11_end 11 = .ok (.iload_n 1, 1) := by decide +kernel
theorem dX11_end_12 : decode cX11_end 12 = .ok (.goto 4, 3) := by decide +kernel
theorem dX11_fault_0 : decode cX11_fault 0 = .ok (.iload_n 1, 1) := by decide +kernel
theorem dX11_fault_1 : decode cX11_fault 1 = .ok (.ifCond .ne 11, 3) := by decide +kernel
theorem dX11_fault_12 : decode cX11_fault 12 = .ok (.iload_n 1, 1) := by decide +kernel
theorem dX11_fault_13 : decode cX11_fault 13 = .ok (.iconst 1, 1) := by decide +kernel
theorem dX11_fault_14 : decode cX11_fault 14 = .ok (.if_icmp .ne 13, 3) := by decide +kernel
theorem dX11_fault_27 : decode cX11_fault 27 = .ok (.iconst (-1), 1) := by decide +kernel
theorem dX11_fault_28 : decode cX11_fault 28 = .ok (.ireturn, 1) := by decide +kernel
theorem dX11_fault_17 : decode cX11_fault 17 = .ok (.aload_n 0, 1) := by decide +kernel
theorem dX11_fault_18 : decode cX11_fault 18 = .ok (.getfield 25, 3) := by decide +kernel
theorem dX11_fault_21 : decode cX11_fault 21 = .ok (.invokevirtual 112, 3) := by decide +kernel
theorem cw_X5_faultPlace : CWv yX5_faultPlace cX5_faultPlace 1 (some .int) 0 := ⟨⟨⟨List.mem_of_getElem? (i := 130) (by decide +kernel), by decide +kernel⟩, ⟨List.mem_of_getElem? (i := 855) (by decide +kernel), by decide +kernel⟩, by decide +kernel⟩, ⟨List.mem_of_getElem? (i := 853) (by decide +kernel), by decide +kernel⟩, ⟨List.mem_of_getElem? (i := 854) (by decide +kernel), by decide +kernel⟩⟩
theorem km11_112 : inW (Cond.methodLink RX11 112 yX5_faultPlace) := ⟨List.mem_of_getElem? (i := 852) (by decide +kernel), by decide +kernel⟩
theorem dX11_fault_24 : decode cX11_fault 24 = .ok (.goto 4, 3) := by decide +kernel
theorem dX11_fault_4 : decode cX11_fault 4 = .ok (.aload_n 0, 1) := by decide +kernel
theorem dX11_fault_5 : decode cX11_fault 5 = .ok (.getfield 25, 3) := by decide +kernel
theorem dX11_fault_8 : decode cX11_fault 8 = .ok (.invokevirtual 109, 3) := by decide +kernel
theorem cw_X5_faultKind : CWv yX5_faultKind cX5_faultKind 1 (some .int) 0 := ⟨⟨⟨List.mem_of_getElem? (i := 130) (by decide +kernel), by decide +kernel⟩, ⟨List.mem_of_getElem? (i := 851) (by decide +kernel), by decide +kernel⟩, by decide +kernel⟩, ⟨List.mem_of_getElem? (i := 849) (by decide +kernel), by decide +kernel⟩, ⟨List.mem_of_getElem? (i := 850) (by decide +kernel), by decide +kernel⟩⟩
theorem km11_109 : inW (Cond.methodLink RX11 109 yX5_faultKind) := ⟨List.mem_of_getElem? (i := 848) (by decide +kernel), by decide +kernel⟩
theorem dX11_fault_11 : decode cX11_fault 11 = .ok (.ireturn, 1) := by decide +kernel
theorem dX11_by_0 : decode cX11_by 0 = .ok (.aload_n 0, 1) := by decide +kernel
theorem dX11_by_1 : decode cX11_by 1 = .ok (.getfield 13, 3) := by decide +kernel
theorem dX11_by_4 : decode cX11_by 4 = .ok (.iload_n 1, 1) := by decide +kernel
theorem dX11_by_5 : decode cX11_by 5 = .ok (.invokevirtual 115, 3) := by decide +kernel
theorem cw_X10_putUnder : CWv yX10_putUnder cX10_putUnder 2 (some .boolean) 1 := ⟨⟨⟨List.mem_of_getElem? (i := 126) (by decide +kernel), by decide +kernel⟩, ⟨List.mem_of_getElem? (i := 863) (by decide +kernel), by decide +kernel⟩, by decide +kernel⟩, ⟨List.mem_of_getElem? (i := 861) (by decide +kernel), by decide +kernel⟩, ⟨List.mem_of_getElem? (i := 862) (by decide +kernel), by decide +kernel⟩⟩
theorem km11_115 : inW (Cond.methodLink RX11 115 yX10_putUnder) := ⟨List.mem_of_getElem? (i := 860) (by decide +kernel), by decide +kernel⟩
theorem dX11_by_8 : decode cX11_by 8 = .ok (.ireturn, 1) := by decide +kernel
theorem dX11_swear_0 : decode cX11_swear 0 = .ok (.aload_n 0, 1) := by decide +kernel
theorem dX11_swear_1 : decode cX11_swear 1 = .ok (.getfield 50, 3) := by decide +kernel
theorem kf11_50 : inW (Cond.fieldLink RX11 50 "KneeOaths" "deeds" "LKneeOaths$Deeds;") := ⟨List.mem_of_getElem? (i := 510) (by decide +kernel), by decide +kernel⟩
theorem dX11_swear_4 : decode cX11_swear 4 = .ok (.iload_n 1, 1) := by decide +kernel
theorem dX11_swear_5 : decode cX11_swear 5 = .ok (.iload_n 2, 1) := by decide +kernel
theorem dX11_swear_6 : decode cX11_swear 6 = .ok (.iload_n 3, 1) := by decide +kernel
theorem dX11_swear_7 : decode cX11_swear 7 = .ok (.iload 4, 2) := by decide +kernel
theorem dX11_swear_9 : decode cX11_swear 9 = .ok (.invokevirtual 118, 3) := by decide +kernel
theorem km11_118 : inW (Cond.methodLink RX11 118 yX1_swearIn) := ⟨List.mem_of_getElem? (i := 872) (by decide +kernel), by decide +kernel⟩
theorem dX11_swear_12 : decode cX11_swear 12 = .ok (.ireturn, 1) := by decide +kernel
theorem dX11_breaks_0 : decode cX11_breaks 0 = .ok (.aload_n 0, 1) := by decide +kernel
theorem dX11_breaks_1 : decode cX11_breaks 1 = .ok (.getfield 50, 3) := by decide +kernel
theorem dX11_breaks_4 : decode cX11_breaks 4 = .ok (.iload_n 1, 1) := by decide +kernel
theorem dX11_breaks_5 : decode cX11_breaks 5 = .ok (.invokevirtual 122, 3) := by decide +kernel
theorem km11_122 : inW (Cond.methodLink RX11 122 yX1_breakOath) := ⟨List.mem_of_getElem? (i := 908) (by decide +kernel), by decide +kernel⟩
theorem dX11_breaks_8 : decode cX11_breaks 8 = .ok (.ireturn, 1) := by decide +kernel
theorem dX11_release_0 : decode cX11_release 0 = .ok (.aload_n 0, 1) := by decide +kernel
theorem dX11_release_1 : decode cX11_release 1 = .ok (.getfield 50, 3) := by decide +kernel
theorem dX11_release_4 : decode cX11_release 4 = .ok (.iload_n 1, 1) := by decide +kernel
theorem dX11_release_5 : decode cX11_release 5 = .ok (.invokevirtual 125, 3) := by decide +kernel
theorem km11_125 : inW (Cond.methodLink RX11 125 yX1_releaseOath) := ⟨List.mem_of_getElem? (i := 921) (by decide +kernel), by decide +kernel⟩
theorem dX11_release_8 : decode cX11_release 8 = .ok (.ireturn, 1) := by decide +kernel
theorem dX11_kneel_0 : decode cX11_kneel 0 = .ok (.aload_n 0, 1) := by decide +kernel
theorem dX11_kneel_1 : decode cX11_kneel 1 = .ok (.getfield 50, 3) := by decide +kernel
theorem dX11_kneel_4 : decode cX11_kneel 4 = .ok (.iload_n 1, 1) := by decide +kernel
theorem dX11_kneel_5 : decode cX11_kneel 5 = .ok (.invokevirtual 128, 3) := by decide +kernel
theorem km11_128 : inW (Cond.methodLink RX11 128 yX1_kneelDown) := ⟨List.mem_of_getElem? (i := 938) (by decide +kernel), by decide +kernel⟩
theorem dX11_kneel_8 : decode cX11_kneel 8 = .ok (.ifCond .eq 17, 3) := by decide +kernel
theorem dX11_kneel_25 : decode cX11_kneel 25 = .ok (.iconst (-1), 1) := by decide +kernel
theorem dX11_kneel_26 : decode cX11_kneel 26 = .ok (.ireturn, 1) := by decide +kernel
theorem dX11_kneel_11 : decode cX11_kneel 11 = .ok (.aload_n 0, 1) := by decide +kernel
theorem dX11_kneel_12 : decode cX11_kneel 12 = .ok (.getfield 13, 3) := by decide +kernel
theorem dX11_kneel_15 : decode cX11_kneel 15 = .ok (.getfield 131, 3) := by decide +kernel
theorem kf11_131 : inW (Cond.fieldLinkNest RX11 131 "KneeOaths$World" "now" "LKneeOaths$Ledger;" "KneeOaths") := ⟨List.mem_of_getElem? (i := 271) (by decide +kernel), by decide +kernel⟩
theorem dX11_kneel_18 : decode cX11_kneel 18 = .ok (.iload_n 1, 1) := by decide +kernel
theorem dX11_kneel_19 : decode cX11_kneel 19 = .ok (.invokevirtual 135, 3) := by decide +kernel
theorem km11_135 : inW (Cond.methodLink RX11 135 yX4_marks) := ⟨List.mem_of_getElem? (i := 1018) (by decide +kernel), by decide +kernel⟩
theorem dX11_kneel_22 : decode cX11_kneel 22 = .ok (.goto 4, 3) := by decide +kernel
theorem dX11_skate_0 : decode cX11_skate 0 = .ok (.aload_n 0, 1) := by decide +kernel
theorem dX11_skate_1 : decode cX11_skate 1 = .ok (.getfield 50, 3) := by decide +kernel
theorem dX11_skate_4 : decode cX11_skate 4 = .ok (.iload_n 1, 1) := by decide +kernel
theorem dX11_skate_5 : decode cX11_skate 5 = .ok (.iload_n 2, 1) := by decide +kernel
theorem dX11_skate_6 : decode cX11_skate 6 = .ok (.invokevirtual 139, 3) := by decide +kernel
theorem km11_139 : inW (Cond.methodLink RX11 139 yX1_slide) := ⟨List.mem_of_getElem? (i := 1023) (by decide +kernel), by decide +kernel⟩
theorem dX11_skate_9 : decode cX11_skate 9 = .ok (.ifCond .eq 17, 3) := by decide +kernel
theorem dX11_skate_26 : decode cX11_skate 26 = .ok (.iconst (-1), 1) := by decide +kernel
theorem dX11_skate_27 : decode cX11_skate 27 = .ok (.ireturn, 1) := by decide +kernel
theorem dX11_skate_12 : decode cX11_skate 12 = .ok (.aload_n 0, 1) := by decide +kernel
theorem dX11_skate_13 : decode cX11_skate 13 = .ok (.getfield 13, 3) := by decide +kernel
theorem dX11_skate_16 : decode cX11_skate 16 = .ok (.getfield 131, 3) := by decide +kernel
theorem dX11_skate_19 : decode cX11_skate 19 = .ok (.iload_n 1, 1) := by decide +kernel
theorem dX11_skate_20 : decode cX11_skate 20 = .ok (.invokevirtual 135, 3) := by decide +kernel
theorem dX11_skate_23 : decode cX11_skate 23 = .ok (.goto 4, 3) := by decide +kernel
theorem dX11_strike_0 : decode cX11_strike 0 = .ok (.aload_n 0, 1) := by decide +kernel
theorem dX11_strike_1 : decode cX11_strike 1 = .ok (.getfield 50, 3) := by decide +kernel
theorem dX11_strike_4 : decode cX11_strike 4 = .ok (.iload_n 1, 1) := by decide +kernel
theorem dX11_strike_5 : decode cX11_strike 5 = .ok (.invokevirtual 143, 3) := by decide +kernel
theorem cw_X1_strikeOut : CWv yX1_strikeOut cX1_strikeOut 6 (some .int) 1 := ⟨⟨⟨List.mem_of_getElem? (i := 133) (by decide +kernel), by decide +kernel⟩, ⟨List.mem_of_getElem? (i := 1034) (by decide +kernel), by decide +kernel⟩, by decide +kernel⟩, ⟨List.mem_of_getElem? (i := 1032) (by decide +kernel), by decide +kernel⟩, ⟨List.mem_of_getElem? (i := 1033) (by decide +kernel), by decide +kernel⟩⟩
theorem km11_143 : inW (Cond.methodLink RX11 143 yX1_strikeOut) := ⟨List.mem_of_getElem? (i := 1031) (by decide +kernel), by decide +kernel⟩
theorem dX11_strike_8 : decode cX11_strike 8 = .ok (.ireturn, 1) := by decide +kernel
theorem dX11_day_0 : decode cX11_day 0 = .ok (.iload_n 1, 1) := by decide +kernel
theorem dX11_day_1 : decode cX11_day 1 = .ok (.iconst 1, 1) := by decide +kernel
theorem dX11_day_2 : decode cX11_day 2 = .ok (.bipush 60, 2) := by decide +kernel
theorem dX11_day_4 : decode cX11_day 4 = .ok (.invokestatic 146, 3) := by decide +kernel
theorem km11_146 : inW (Cond.methodLink RX11 146 yX11_within) := ⟨List.mem_of_getElem? (i := 1063) (by decide +kernel), by decide +kernel⟩
theorem dX11_day_7 : decode cX11_day 7 = .ok (.ifCond .eq 21, 3) := by decide +kernel
theorem dX11_day_28 : decode cX11_day 28 = .ok (.iconst (-1), 1) := by decide +kernel
theorem dX11_day_29 : decode cX11_day 29 = .ok (.ireturn, 1) := by decide +kernel
theorem dX11_day_10 : decode cX11_day 10 = .ok (.aload_n 0, 1) := by decide +kernel
theorem dX11_day_11 : decode cX11_day 11 = .ok (.getfield 13, 3) := by decide +kernel
theorem dX11_day_14 : decode cX11_day 14 = .ok (.getfield 131, 3) := by decide +kernel
theorem dX11_day_17 : decode cX11_day 17 = .ok (.getfield 150, 3) := by decide +kernel
theorem kf11_150 : inW (Cond.fieldLinkNest RX11 150 "KneeOaths$Ledger" "date" "I" "KneeOaths") := ⟨List.mem_of_getElem? (i := 173) (by decide +kernel), by decide +kernel⟩
theorem dX11_day_20 : decode cX11_day 20 = .ok (.iload_n 1, 1) := by decide +kernel
theorem dX11_day_21 : decode cX11_day 21 = .ok (.iadd, 1) := by decide +kernel
theorem dX11_day_22 : decode cX11_day 22 = .ok (.sipush 9999, 3) := by decide +kernel
theorem dX11_day_25 : decode cX11_day 25 = .ok (.if_icmp .le 5, 3) := by decide +kernel
theorem dX11_day_30 : decode cX11_day 30 = .ok (.iconst 0, 1) := by decide +kernel
theorem dX11_day_31 : decode cX11_day 31 = .ok (.istore_n 2, 1) := by decide +kernel
theorem dX11_day_32 : decode cX11_day 32 = .ok (.iload_n 2, 1) := by decide +kernel
theorem dX11_day_33 : decode cX11_day 33 = .ok (.iload_n 1, 1) := by decide +kernel
theorem dX11_day_34 : decode cX11_day 34 = .ok (.if_icmp .ge 17, 3) := by decide +kernel
theorem dX11_day_51 : decode cX11_day 51 = .ok (.aload_n 0, 1) := by decide +kernel
theorem dX11_day_52 : decode cX11_day 52 = .ok (.getfield 13, 3) := by decide +kernel
theorem dX11_day_55 : decode cX11_day 55 = .ok (.getfield 131, 3) := by decide +kernel
theorem dX11_day_58 : decode cX11_day 58 = .ok (.getfield 158, 3) := by decide +kernel
theorem kf11_158 : inW (Cond.fieldLinkNest RX11 158 "KneeOaths$Ledger" "rain" "I" "KneeOaths") := ⟨List.mem_of_getElem? (i := 178) (by decide +kernel), by decide +kernel⟩
theorem dX11_day_61 : decode cX11_day 61 = .ok (.ireturn, 1) := by decide +kernel
theorem dX11_day_37 : decode cX11_day 37 = .ok (.aload_n 0, 1) := by decide +kernel
theorem dX11_day_38 : decode cX11_day 38 = .ok (.getfield 50, 3) := by decide +kernel
theorem dX11_day_41 : decode cX11_day 41 = .ok (.invokevirtual 154, 3) := by decide +kernel
theorem km11_154 : inW (Cond.methodLink RX11 154 yX1_passDay) := ⟨List.mem_of_getElem? (i := 1064) (by decide +kernel), by decide +kernel⟩
theorem dX11_day_44 : decode cX11_day 44 = .ok (.pop, 1) := by decide +kernel
theorem dX11_day_45 : decode cX11_day 45 = .ok (.iinc 2 1, 3) := by decide +kernel
theorem dX11_day_48 : decode cX11_day 48 = .ok (.goto (-16), 3) := by decide +kernel
theorem dX11_played_0 : decode cX11_played 0 = .ok (.aload_n 0, 1) := by decide +kernel
theorem dX11_played_1 : decode cX11_played 1 = .ok (.getfield 13, 3) := by decide +kernel
theorem dX11_played_4 : decode cX11_played 4 = .ok (.iload_n 1, 1) := by decide +kernel
theorem dX11_played_5 : decode cX11_played 5 = .ok (.invokevirtual 161, 3) := by decide +kernel
theorem km11_161 : inW (Cond.methodLink RX11 161 yX10_script) := ⟨List.mem_of_getElem? (i := 1097) (by decide +kernel), by decide +kernel⟩
theorem dX11_played_8 : decode cX11_played 8 = .ok (.astore_n 2, 1) := by decide +kernel
theorem dX11_played_9 : decode cX11_played 9 = .ok (.aload_n 2, 1) := by decide +kernel
theorem dX11_played_10 : decode cX11_played 10 = .ok (.ifnonnull 6, 3) := by decide +kernel
theorem dX11_played_13 : decode cX11_played 13 = .ok (.bipush (-2), 2) := by decide +kernel
theorem dX11_played_15 : decode cX11_played 15 = .ok (.ireturn, 1) := by decide +kernel
theorem dX11_played_16 : decode cX11_played 16 = .ok (.iconst 0, 1) := by decide +kernel
theorem dX11_played_17 : decode cX11_played 17 = .ok (.istore_n 3, 1) := by decide +kernel
theorem dX11_played_18 : decode cX11_played 18 = .ok (.iload_n 3, 1) := by decide +kernel
theorem dX11_played_19 : decode cX11_played 19 = .ok (.aload_n 2, 1) := by decide +kernel
theorem dX11_played_20 : decode cX11_played 20 = .ok (.getfield 165, 3) := by decide +kernel
theorem kf11_165 : inW (Cond.fieldLinkNest RX11 165 "KneeOaths$Script" "clauseCount" "I" "KneeOaths") := ⟨List.mem_of_getElem? (i := 245) (by decide +kernel), by decide +kernel⟩
theorem dX11_played_23 : decode cX11_played 23 = .ok (.if_icmp .ge 23, 3) := by decide +kernel
theorem dX11_played_46 : decode cX11_played 46 = .ok (.iconst (-1), 1) := by decide +kernel
theorem dX11_played_47 : decode cX11_played 47 = .ok (.ireturn, 1) := by decide +kernel
theorem dX11_played_26 : decode cX11_played 26 = .ok (.aload_n 0, 1) := by decide +kernel
theorem dX11_played_27 : decode cX11_played 27 = .ok (.getfield 50, 3) := by decide +kernel
theorem dX11_played_30 : decode cX11_played 30 = .ok (.aload_n 2, 1) := by decide +kernel
theorem dX11_played_31 : decode cX11_played 31 = .ok (.iload_n 3, 1) := by decide +kernel
theorem dX11_played_32 : decode cX11_played 32 = .ok (.invokevirtual 170, 3) := by decide +kernel
theorem cw_X1_perform : CWv yX1_perform cX1_perform 6 (some .boolean) 2 := ⟨⟨⟨List.mem_of_getElem? (i := 133) (by decide +kernel), by decide +kernel⟩, ⟨List.mem_of_getElem? (i := 1101) (by decide +kernel), by decide +kernel⟩, by decide +kernel⟩, ⟨List.mem_of_getElem? (i := 1099) (by decide +kernel), by decide +kernel⟩, ⟨List.mem_of_getElem? (i := 1100) (by decide +kernel), by decide +kernel⟩⟩
theorem km11_170 : inW (Cond.methodLink RX11 170 yX1_perform) := ⟨List.mem_of_getElem? (i := 1098) (by decide +kernel), by decide +kernel⟩
theorem dX11_played_35 : decode cX11_played 35 = .ok (.ifCond .ne 5, 3) := by decide +kernel
theorem dX11_played_40 : decode cX11_played 40 = .ok (.iinc 3 1, 3) := by decide +kernel
theorem dX11_played_43 : decode cX11_played 43 = .ok (.goto (-25), 3) := by decide +kernel
theorem dX11_played_38 : decode cX11_played 38 = .ok (.iload_n 3, 1) := by decide +kernel
theorem dX11_played_39 : decode cX11_played 39 = .ok (.ireturn, 1) := by decide +kernel
theorem dX11_years_0 : decode cX11_years 0 = .ok (.iload_n 1, 1) := by decide +kernel
theorem dX11_years_1 : decode cX11_years 1 = .ok (.iconst 0, 1) := by decide +kernel
theorem dX11_years_2 : decode cX11_years 2 = .ok (.sipush 9999, 3) := by decide +kernel
theorem dX11_years_5 : decode cX11_years 5 = .ok (.invokestatic 146, 3) := by decide +kernel
theorem dX11_years_8 : decode cX11_years 8 = .ok (.ifCond .eq 23, 3) := by decide +kernel
theorem dX11_years_31 : decode cX11_years 31 = .ok (.iconst (-1), 1) := by decide +kernel
theorem dX11_years_32 : decode cX11_years 32 = .ok (.ireturn, 1) := by decide +kernel
theorem dX11_years_11 : decode cX11_years 11 = .ok (.iload_n 2, 1) := by decide +kernel
theorem dX11_years_12 : decode cX11_years 12 = .ok (.iconst 1, 1) := by decide +kernel
theorem dX11_years_13 : decode cX11_years 13 = .ok (.bipush 40, 2) := by decide +kernel
theorem dX11_years_15 : decode cX11_years 15 = .ok (.invokestatic 146, 3) := by decide +kernel
theorem dX11_years_18 : decode cX11_years 18 = .ok (.ifCond .eq 13, 3) := by decide +kernel
theorem dX11_years_21 : decode cX11_years 21 = .ok (.aload_n 0, 1) := by decide +kernel
theorem dX11_years_22 : decode cX11_years 22 = .ok (.getfield 13, 3) := by decide +kernel
theorem dX11_years_25 : decode cX11_years 25 = .ok (.getfield 174, 3) := by decide +kernel
theorem kf11_174 : inW (Cond.fieldLinkNest RX11 174 "KneeOaths$World" "people" "I" "KneeOaths") := ⟨List.mem_of_getElem? (i := 292) (by decide +kernel), by decide +kernel⟩
theorem dX11_years_28 : decode cX11_years 28 = .ok (.ifCond .ne 5, 3) := by decide +kernel
theorem dX11_years_33 : decode cX11_years 33 = .ok (.aload_n 0, 1) := by decide +kernel
theorem dX11_years_34 : decode cX11_years 34 = .ok (.getfield 50, 3) := by decide +kernel
theorem dX11_years_37 : decode cX11_years 37 = .ok (.iload_n 1, 1) := by decide +kernel
theorem dX11_years_38 : decode cX11_years 38 = .ok (.invokevirtual 177, 3) := by decide +kernel
theorem cw_X1_beginYears : CWv yX1_beginYears cX1_beginYears 2 none 1 := ⟨⟨⟨List.mem_of_getElem? (i := 133) (by decide +kernel), by decide +kernel⟩, ⟨List.mem_of_getElem? (i := 1120) (by decide +kernel), by decide +kernel⟩, by decide +kernel⟩, ⟨List.mem_of_getElem? (i := 1118) (by decide +kernel), by decide +kernel⟩, ⟨List.mem_of_getElem? (i := 1119) (by decide +kernel), by decide +kernel⟩⟩
theorem km11_177 : inW (Cond.methodLink RX11 177 yX1_beginYears) := ⟨List.mem_of_getElem? (i := 1117) (by decide +kernel), by decide +kernel⟩
theorem dX11_years_41 : decode cX11_years 41 = .ok (.iconst 0, 1) := by decide +kernel
theorem dX11_years_42 : decode cX11_years 42 = .ok (.istore_n 3, 1) := by decide +kernel
theorem dX11_years_43 : decode cX11_years 43 = .ok (.iload_n 3, 1) := by decide +kernel
theorem dX11_years_44 : decode cX11_years 44 = .ok (.iload_n 2, 1) := by decide +kernel
theorem dX11_years_45 : decode cX11_years 45 = .ok (.if_icmp .ge 16, 3) := by decide +kernel
theorem dX11_years_61 : decode cX11_years 61 = .ok (.aload_n 0, 1) := by decide +kernel
theorem dX11_years_62 : decode cX11_years 62 = .ok (.getfield 50, 3) := by decide +kernel
theorem dX11_years_65 : decode cX11_years 65 = .ok (.invokevirtual 183, 3) := by decide +kernel
theorem cw_X1_endYears : CWv yX1_endYears cX1_endYears 1 none 0 := ⟨⟨⟨List.mem_of_getElem? (i := 133) (by decide +kernel), by decide +kernel⟩, ⟨List.mem_of_getElem? (i := 1129) (by decide +kernel), by decide +kernel⟩, by decide +kernel⟩, ⟨List.mem_of_getElem? (i := 1127) (by decide +kernel), by decide +kernel⟩, ⟨List.mem_of_getElem? (i := 1128) (by decide +kernel), by decide +kernel⟩⟩
theorem km11_183 : inW (Cond.methodLink RX11 183 yX1_endYears) := ⟨List.mem_of_getElem? (i := 1126) (by decide +kernel), by decide +kernel⟩
theorem dX11_years_68 : decode cX11_years 68 = .ok (.aload_n 0, 1) := by decide +kernel
theorem dX11_years_69 : decode cX11_years 69 = .ok (.getfield 13, 3) := by decide +kernel
theorem dX11_years_72 : decode cX11_years 72 = .ok (.getfield 131, 3) := by decide +kernel
theorem dX11_years_75 : decode cX11_years 75 = .ok (.getfield 150, 3) := by decide +kernel
theorem dX11_years_78 : decode cX11_years 78 = .ok (.ireturn, 1) := by decide +kernel
theorem dX11_years_48 : decode cX11_years 48 = .ok (.aload_n 0, 1) := by decide +kernel
theorem dX11_years_49 : decode cX11_years 49 = .ok (.getfield 50, 3) := by decide +kernel
theorem dX11_years_52 : decode cX11_years 52 = .ok (.invokevirtual 180, 3) := by decide +kernel
theorem cw_X1_liveOn : CWv yX1_liveOn cX1_liveOn 6 none 0 := ⟨⟨⟨List.mem_of_getElem? (i := 133) (by decide +kernel), by decide +kernel⟩, ⟨List.mem_of_getElem? (i := 1124) (by decide +kernel), by decide +kernel⟩, by decide +kernel⟩, ⟨List.mem_of_getElem? (i := 1122) (by decide +kernel), by decide +kernel⟩, ⟨List.mem_of_getElem? (i := 1123) (by decide +kernel), by decide +kernel⟩⟩
theorem km11_180 : inW (Cond.methodLink RX11 180 yX1_liveOn) := ⟨List.mem_of_getElem? (i := 1121) (by decide +kernel), by decide +kernel⟩
theorem dX11_years_55 : decode cX11_years 55 = .ok (.iinc 3 1, 3) := by decide +kernel
theorem dX11_years_58 : decode cX11_years 58 = .ok (.goto (-15), 3) := by decide +kernel
theorem dX11_undo_0 : decode cX11_undo 0 = .ok (.aload_n 0, 1) := by decide +kernel
theorem dX11_undo_1 : decode cX11_undo 1 = .ok (.getfield 13, 3) := by decide +kernel
theorem dX11_undo_4 : decode cX11_undo 4 = .ok (.invokevirtual 186, 3) := by decide +kernel
theorem cw_X10_takeBack : CWv yX10_takeBack cX10_takeBack 1 (some .boolean) 0 := ⟨⟨⟨List.mem_of_getElem? (i := 126) (by decide +kernel), by decide +kernel⟩, ⟨List.mem_of_getElem? (i := 1137) (by decide +kernel), by decide +kernel⟩, by decide +kernel⟩, ⟨List.mem_of_getElem? (i := 1135) (by decide +kernel), by decide +kernel⟩, ⟨List.mem_of_getElem? (i := 1136) (by decide +kernel), by decide +kernel⟩⟩
theorem km11_186 : inW (Cond.methodLink RX11 186 yX10_takeBack) := ⟨List.mem_of_getElem? (i := 1134) (by decide +kernel), by decide +kernel⟩
theorem dX11_undo_7 : decode cX11_undo 7 = .ok (.ifCond .eq 13, 3) := by decide +kernel
theorem dX11_undo_20 : decode cX11_undo 20 = .ok (.iconst (-1), 1) := by decide +kernel
theorem dX11_undo_21 : decode cX11_undo 21 = .ok (.ireturn, 1) := by decide +kernel
theorem dX11_undo_10 : decode cX11_undo 10 = .ok (.aload_n 0, 1) := by decide +kernel
theorem dX11_undo_11 : decode cX11_undo 11 = .ok (.getfield 13, 3) := by decide +kernel
theorem dX11_undo_14 : decode cX11_undo 14 = .ok (.getfield 189, 3) := by decide +kernel
theorem kf11_189 : inW (Cond.fieldLinkNest RX11 189 "KneeOaths$World" "steps" "I" "KneeOaths") := ⟨List.mem_of_getElem? (i := 301) (by decide +kernel), by decide +kernel⟩
theorem dX11_undo_17 : decode cX11_undo 17 = .ok (.goto 4, 3) := by decide +kernel
theorem dX11_of_0 : decode cX11_of 0 = .ok (.aload_n 0, 1) := by decide +kernel
theorem dX11_of_1 : decode cX11_of 1 = .ok (.getfield 13, 3) := by decide +kernel
theorem dX11_of_4 : decode cX11_of 4 = .ok (.iload_n 1, 1) := by decide +kernel
theorem dX11_of_5 : decode cX11_of 5 = .ok (.invokevirtual 192, 3) := by decide +kernel
theorem km11_192 : inW (Cond.methodLink RX11 192 yX10_has) := ⟨List.mem_of_getElem? (i := 1142) (by decide +kernel), by decide +kernel⟩
theorem dX11_of_8 : decode cX11_of 8 = .ok (.ifCond .ne 7, 3) := by decide +kernel
theorem dX11_of_15 : decode cX11_of 15 = .ok (.iload_n 2, 1) := by decide +kernel
theorem dX11_of_16 : decode cX11_of 16 = .ok (.tableswitch 111 0 5 #[40, 49, 58, 70, 86, 102], 40) := by decide +kernel
theorem sw_0_5 (x : Int32) : x = 0 ∨ x = 1 ∨ x = 2 ∨ x = 3 ∨ x = 4 ∨ x = 5 ∨ (x.toInt < 0 ∨ 5 < x.toInt) := by
  have key : ∀ k : Int32, x.toInt = k.toInt → x = k := fun k h => Int32.toInt_inj.mp h
  by_cases h1 : x.toInt < 0
  · simp [h1]
  by_cases h2 : 5 < x.toInt
  · simp [h2]
  have h3 : x.toInt = 0 ∨ x.toInt = 1 ∨ x.toInt = 2 ∨ x.toInt = 3 ∨ x.toInt = 4 ∨ x.toInt = 5 := by omega
  rcases h3 with h | h | h | h | h | h
  · rw [key 0 (h.trans (by decide))]; decide
  · rw [key 1 (h.trans (by decide))]; decide
  · rw [key 2 (h.trans (by decide))]; decide
  · rw [key 3 (h.trans (by decide))]; decide
  · rw [key 4 (h.trans (by decide))]; decide
  · rw [key 5 (h.trans (by decide))]; decide
theorem dX11_of_56 : decode cX11_of 56 = .ok (.aload_n 0, 1) := by decide +kernel
theorem dX11_of_57 : decode cX11_of 57 = .ok (.getfield 13, 3) := by decide +kernel
theorem dX11_of_60 : decode cX11_of 60 = .ok (.iload_n 1, 1) := by decide +kernel
theorem dX11_of_61 : decode cX11_of 61 = .ok (.invokevirtual 195, 3) := by decide +kernel
theorem km11_195 : inW (Cond.methodLink RX11 195 yX10_toughOf) := ⟨List.mem_of_getElem? (i := 1143) (by decide +kernel), by decide +kernel⟩
theorem dX11_of_64 : decode cX11_of 64 = .ok (.ireturn, 1) := by decide +kernel
theorem dX11_of_65 : decode cX11_of 65 = .ok (.aload_n 0, 1) := by decide +kernel
theorem dX11_of_66 : decode cX11_of 66 = .ok (.getfield 13, 3) := by decide +kernel
theorem dX11_of_69 : decode cX11_of 69 = .ok (.iload_n 1, 1) := by decide +kernel
theorem dX11_of_70 : decode cX11_of 70 = .ok (.invokevirtual 198, 3) := by decide +kernel
theorem km11_198 : inW (Cond.methodLink RX11 198 yX10_ageOf) := ⟨List.mem_of_getElem? (i := 1144) (by decide +kernel), by decide +kernel⟩
theorem dX11_of_73 : decode cX11_of 73 = .ok (.ireturn, 1) := by decide +kernel
theorem dX11_of_74 : decode cX11_of 74 = .ok (.aload_n 0, 1) := by decide +kernel
theorem dX11_of_75 : decode cX11_of 75 = .ok (.getfield 13, 3) := by decide +kernel
theorem dX11_of_78 : decode cX11_of 78 = .ok (.getfield 131, 3) := by decide +kernel
theorem dX11_of_81 : decode cX11_of 81 = .ok (.iload_n 1, 1) := by decide +kernel
theorem dX11_of_82 : decode cX11_of 82 = .ok (.invokevirtual 135, 3) := by decide +kernel
theorem dX11_of_85 : decode cX11_of 85 = .ok (.ireturn, 1) := by decide +kernel
theorem dX11_of_86 : decode cX11_of 86 = .ok (.aload_n 0, 1) := by decide +kernel
theorem dX11_of_87 : decode cX11_of 87 = .ok (.getfield 34, 3) := by decide +kernel
theorem kf11_34 : inW (Cond.fieldLink RX11 34 "KneeOaths" "judge" "LKneeOaths$Judge;") := ⟨List.mem_of_getElem? (i := 508) (by decide +kernel), by decide +kernel⟩
theorem dX11_of_90 : decode cX11_of 90 = .ok (.aload_n 0, 1) := by decide +kernel
theorem dX11_of_91 : decode cX11_of 91 = .ok (.getfield 13, 3) := by decide +kernel
theorem dX11_of_94 : decode cX11_of 94 = .ok (.getfield 131, 3) := by decide +kernel
theorem dX11_of_97 : decode cX11_of 97 = .ok (.iload_n 1, 1) := by decide +kernel
theorem dX11_of_98 : decode cX11_of 98 = .ok (.invokevirtual 201, 3) := by decide +kernel
theorem km11_201 : inW (Cond.methodLink RX11 201 yX3_acheOf) := ⟨List.mem_of_getElem? (i := 1145) (by decide +kernel), by decide +kernel⟩
theorem dX11_of_101 : decode cX11_of 101 = .ok (.ireturn, 1) := by decide +kernel
theorem dX11_of_102 : decode cX11_of 102 = .ok (.aload_n 0, 1) := by decide +kernel
theorem dX11_of_103 : decode cX11_of 103 = .ok (.getfield 34, 3) := by decide +kernel
theorem dX11_of_106 : decode cX11_of 106 = .ok (.aload_n 0, 1) := by decide +kernel
theorem dX11_of_107 : decode cX11_of 107 = .ok (.getfield 13, 3) := by decide +kernel
theorem dX11_of_110 : decode cX11_of 110 = .ok (.getfield 131, 3) := by decide +kernel
theorem dX11_of_113 : decode cX11_of 113 = .ok (.iload_n 1, 1) := by decide +kernel
theorem dX11_of_114 : decode cX11_of 114 = .ok (.invokevirtual 205, 3) := by decide +kernel
theorem cw_X3_riskOf : CWv yX3_riskOf cX3_riskOf 5 (some .int) 2 := ⟨⟨⟨List.mem_of_getElem? (i := 131) (by decide +kernel), by decide +kernel⟩, ⟨List.mem_of_getElem? (i := 1149) (by decide +kernel), by decide +kernel⟩, by decide +kernel⟩, ⟨List.mem_of_getElem? (i := 1147) (by decide +kernel), by decide +kernel⟩, ⟨List.mem_of_getElem? (i := 1148) (by decide +kernel), by decide +kernel⟩⟩
theorem km11_205 : inW (Cond.methodLink RX11 205 yX3_riskOf) := ⟨List.mem_of_getElem? (i := 1146) (by decide +kernel), by decide +kernel⟩
theorem dX11_of_117 : decode cX11_of 117 = .ok (.ireturn, 1) := by decide +kernel
theorem dX11_of_118 : decode cX11_of 118 = .ok (.aload_n 0, 1) := by decide +kernel
theorem dX11_of_119 : decode cX11_of 119 = .ok (.getfield 75, 3) := by decide +kernel
theorem kf11_75 : inW (Cond.fieldLink RX11 75 "KneeOaths" "choices" "LKneeOaths$Choices;") := ⟨List.mem_of_getElem? (i := 513) (by decide +kernel), by decide +kernel⟩
theorem dX11_of_122 : decode cX11_of 122 = .ok (.iload_n 1, 1) := by decide +kernel
theorem dX11_of_123 : decode cX11_of 123 = .ok (.invokevirtual 208, 3) := by decide +kernel
theorem cw_X0_net : CWv yX0_net cX0_net 5 (some .int) 1 := ⟨⟨⟨List.mem_of_getElem? (i := 136) (by decide +kernel), by decide +kernel⟩, ⟨List.mem_of_getElem? (i := 1153) (by decide +kernel), by decide +kernel⟩, by decide +kernel⟩, ⟨List.mem_of_getElem? (i := 1151) (by decide +kernel), by decide +kernel⟩, ⟨List.mem_of_getElem? (i := 1152) (by decide +kernel), by decide +kernel⟩⟩
theorem km11_208 : inW (Cond.methodLink RX11 208 yX0_net) := ⟨List.mem_of_getElem? (i := 1150) (by decide +kernel), by decide +kernel⟩
theorem dX11_of_126 : decode cX11_of 126 = .ok (.ireturn, 1) := by decide +kernel
theorem dX11_of_127 : decode cX11_of 127 = .ok (.sipush (-1000), 3) := by decide +kernel
theorem dX11_of_130 : decode cX11_of 130 = .ok (.ireturn, 1) := by decide +kernel
theorem dX11_of_11 : decode cX11_of 11 = .ok (.sipush (-1000), 3) := by decide +kernel
theorem dX11_of_14 : decode cX11_of 14 = .ok (.ireturn, 1) := by decide +kernel
theorem dX11_ofOath_0 : decode cX11_ofOath 0 = .ok (.aload_n 0, 1) := by decide +kernel
theorem dX11_ofOath_1 : decode cX11_ofOath 1 = .ok (.getfield 13, 3) := by decide +kernel
theorem dX11_ofOath_4 : decode cX11_ofOath 4 = .ok (.getfield 131, 3) := by decide +kernel
theorem dX11_ofOath_7 : decode cX11_ofOath 7 = .ok (.iload_n 1, 1) := by decide +kernel
theorem dX11_ofOath_8 : decode cX11_ofOath 8 = .ok (.invokevirtual 211, 3) := by decide +kernel
theorem km11_211 : inW (Cond.methodLink RX11 211 yX4_has) := ⟨List.mem_of_getElem? (i := 1159) (by decide +kernel), by decide +kernel⟩
theorem dX11_ofOath_11 : decode cX11_ofOath 11 = .ok (.ifCond .ne 5, 3) := by decide +kernel
theorem dX11_ofOath_16 : decode cX11_ofOath 16 = .ok (.iload_n 2, 1) := by decide +kernel
theorem dX11_ofOath_17 : decode cX11_ofOath 17 = .ok (.bipush 7, 2) := by decide +kernel
theorem dX11_ofOath_19 : decode cX11_ofOath 19 = .ok (.if_icmp .ne 26, 3) := by decide +kernel
theorem dX11_ofOath_45 : decode cX11_ofOath 45 = .ok (.iload_n 2, 1) := by decide +kernel
theorem dX11_ofOath_46 : decode cX11_ofOath 46 = .ok (.bipush 8, 2) := by decide +kernel
theorem dX11_ofOath_48 : decode cX11_ofOath 48 = .ok (.if_icmp .ne 21, 3) := by decide +kernel
theorem dX11_ofOath_69 : decode cX11_ofOath 69 = .ok (.aload_n 0, 1) := by decide +kernel
theorem dX11_ofOath_70 : decode cX11_ofOath 70 = .ok (.getfield 13, 3) := by decide +kernel
theorem dX11_ofOath_73 : decode cX11_ofOath 73 = .ok (.getfield 131, 3) := by decide +kernel
theorem dX11_ofOath_76 : decode cX11_ofOath 76 = .ok (.iload_n 1, 1) := by decide +kernel
theorem dX11_ofOath_77 : decode cX11_ofOath 77 = .ok (.iload_n 2, 1) := by decide +kernel
theorem dX11_ofOath_78 : decode cX11_ofOath 78 = .ok (.invokevirtual 222, 3) := by decide +kernel
theorem km11_222 : inW (Cond.methodLink RX11 222 yX4_get) := ⟨List.mem_of_getElem? (i := 1162) (by decide +kernel), by decide +kernel⟩
theorem dX11_ofOath_81 : decode cX11_ofOath 81 = .ok (.ireturn, 1) := by decide +kernel
theorem dX11_ofOath_51 : decode cX11_ofOath 51 = .ok (.aload_n 0, 1) := by decide +kernel
theorem dX11_ofOath_52 : decode cX11_ofOath 52 = .ok (.getfield 34, 3) := by decide +kernel
theorem dX11_ofOath_55 : decode cX11_ofOath 55 = .ok (.aload_n 0, 1) := by decide +kernel
theorem dX11_ofOath_56 : decode cX11_ofOath 56 = .ok (.getfield 13, 3) := by decide +kernel
theorem dX11_ofOath_59 : decode cX11_ofOath 59 = .ok (.getfield 131, 3) := by decide +kernel
theorem dX11_ofOath_62 : decode cX11_ofOath 62 = .ok (.iload_n 1, 1) := by decide +kernel
theorem dX11_ofOath_63 : decode cX11_ofOath 63 = .ok (.invokevirtual 219, 3) := by decide +kernel
theorem km11_219 : inW (Cond.methodLink RX11 219 yX3_painOf) := ⟨List.mem_of_getElem? (i := 1161) (by decide +kernel), by decide +kernel⟩
theorem dX11_ofOath_66 : decode cX11_ofOath 66 = .ok (.goto 15, 3) := by decide +kernel
theorem dX11_ofOath_22 : decode cX11_ofOath 22 = .ok (.aload_n 0, 1) := by decide +kernel
theorem dX11_ofOath_23 : decode cX11_ofOath 23 = .ok (.getfield 34, 3) := by decide +kernel
theorem dX11_ofOath_26 : decode cX11_ofOath 26 = .ok (.aload_n 0, 1) := by decide +kernel
theorem dX11_ofOath_27 : decode cX11_ofOath 27 = .ok (.getfield 13, 3) := by decide +kernel
theorem dX11_ofOath_30 : decode cX11_ofOath 30 = .ok (.getfield 212, 3) := by decide +kernel
theorem kf11_212 : inW (Cond.fieldLinkNest RX11 212 "KneeOaths$World" "ruling" "I" "KneeOaths") := ⟨List.mem_of_getElem? (i := 298) (by decide +kernel), by decide +kernel⟩
theorem dX11_ofOath_33 : decode cX11_ofOath 33 = .ok (.aload_n 0, 1) := by decide +kernel
theorem dX11_ofOath_34 : decode cX11_ofOath 34 = .ok (.getfield 13, 3) := by decide +kernel
theorem dX11_ofOath_37 : decode cX11_ofOath 37 = .ok (.getfield 131, 3) := by decide +kernel
theorem dX11_ofOath_40 : decode cX11_ofOath 40 = .ok (.iload_n 1, 1) := by decide +kernel
theorem dX11_ofOath_41 : decode cX11_ofOath 41 = .ok (.invokevirtual 215, 3) := by decide +kernel
theorem km11_215 : inW (Cond.methodLink RX11 215 yX3_wearOf) := ⟨List.mem_of_getElem? (i := 1160) (by decide +kernel), by decide +kernel⟩
theorem dX11_ofOath_44 : decode cX11_ofOath 44 = .ok (.ireturn, 1) := by decide +kernel
theorem dX11_ofOath_14 : decode cX11_ofOath 14 = .ok (.iconst (-1), 1) := by decide +kernel
theorem dX11_ofOath_15 : decode cX11_ofOath 15 = .ok (.ireturn, 1) := by decide +kernel
theorem dX11_is_0 : decode cX11_is 0 = .ok (.iload_n 1, 1) := by decide +kernel
theorem dX11_is_1 : decode cX11_is 1 = .ok (.tableswitch 75 0 3 #[31, 42, 53, 64], 31) := by decide +kernel
theorem sw_0_3 (x : Int32) : x = 0 ∨ x = 1 ∨ x = 2 ∨ x = 3 ∨ (x.toInt < 0 ∨ 3 < x.toInt) := by
  have key : ∀ k : Int32, x.toInt = k.toInt → x = k := fun k h => Int32.toInt_inj.mp h
  by_cases h1 : x.toInt < 0
  · simp [h1]
  by_cases h2 : 3 < x.toInt
  · simp [h2]
  have h3 : x.toInt = 0 ∨ x.toInt = 1 ∨ x.toInt = 2 ∨ x.toInt = 3 := by omega
  rcases h3 with h | h | h | h
  · rw [key 0 (h.trans (by decide))]; decide
  · rw [key 1 (h.trans (by decide))]; decide
  · rw [key 2 (h.trans (by decide))]; decide
  · rw [key 3 (h.trans (by decide))]; decide
theorem dX11_is_32 : decode cX11_is 32 = .ok (.aload_n 0, 1) := by decide +kernel
theorem dX11_is_33 : decode cX11_is 33 = .ok (.getfield 13, 3) := by decide +kernel
theorem dX11_is_36 : decode cX11_is 36 = .ok (.getfield 131, 3) := by decide +kernel
theorem dX11_is_39 : decode cX11_is 39 = .ok (.getfield 150, 3) := by decide +kernel
theorem dX11_is_42 : decode cX11_is 42 = .ok (.ireturn, 1) := by decide +kernel
theorem dX11_is_43 : decode cX11_is 43 = .ok (.aload_n 0, 1) := by decide +kernel
theorem dX11_is_44 : decode cX11_is 44 = .ok (.getfield 13, 3) := by decide +kernel
theorem dX11_is_47 : decode cX11_is 47 = .ok (.getfield 131, 3) := by decide +kernel
theorem dX11_is_50 : decode cX11_is 50 = .ok (.getfield 158, 3) := by decide +kernel
theorem dX11_is_53 : decode cX11_is 53 = .ok (.ireturn, 1) := by decide +kernel
theorem dX11_is_54 : decode cX11_is 54 = .ok (.aload_n 0, 1) := by decide +kernel
theorem dX11_is_55 : decode cX11_is 55 = .ok (.getfield 13, 3) := by decide +kernel
theorem dX11_is_58 : decode cX11_is 58 = .ok (.getfield 131, 3) := by decide +kernel
theorem dX11_is_61 : decode cX11_is 61 = .ok (.getfield 225, 3) := by decide +kernel
theorem kf11_225 : inW (Cond.fieldLinkNest RX11 225 "KneeOaths$Ledger" "x" "I" "KneeOaths") := ⟨List.mem_of_getElem? (i := 181) (by decide +kernel), by decide +kernel⟩
theorem dX11_is_64 : decode cX11_is 64 = .ok (.ireturn, 1) := by decide +kernel
theorem dX11_is_65 : decode cX11_is 65 = .ok (.aload_n 0, 1) := by decide +kernel
theorem dX11_is_66 : decode cX11_is 66 = .ok (.getfield 13, 3) := by decide +kernel
theorem dX11_is_69 : decode cX11_is 69 = .ok (.getfield 131, 3) := by decide +kernel
theorem dX11_is_72 : decode cX11_is 72 = .ok (.getfield 228, 3) := by decide +kernel
theorem kf11_228 : inW (Cond.fieldLinkNest RX11 228 "KneeOaths$Ledger" "oathCount" "I" "KneeOaths") := ⟨List.mem_of_getElem? (i := 167) (by decide +kernel), by decide +kernel⟩
theorem dX11_is_75 : decode cX11_is 75 = .ok (.ireturn, 1) := by decide +kernel
theorem dX11_is_76 : decode cX11_is 76 = .ok (.bipush (-2), 2) := by decide +kernel
theorem dX11_is_78 : decode cX11_is 78 = .ok (.ireturn, 1) := by decide +kernel
theorem dX11_book_0 : decode cX11_book 0 = .ok (.iload_n 1, 1) := by decide +kernel
theorem dX11_book_1 : decode cX11_book 1 = .ok (.iconst (-1), 1) := by decide +kernel
theorem dX11_book_2 : decode cX11_book 2 = .ok (.if_icmp .ne 16, 3) := by decide +kernel
theorem dX11_book_18 : decode cX11_book 18 = .ok (.aload_n 0, 1) := by decide +kernel
theorem dX11_book_19 : decode cX11_book 19 = .ok (.getfield 13, 3) := by decide +kernel
theorem dX11_book_22 : decode cX11_book 22 = .ok (.getfield 131, 3) := by decide +kernel
theorem dX11_book_25 : decode cX11_book 25 = .ok (.iload_n 1, 1) := by decide +kernel
theorem dX11_book_26 : decode cX11_book 26 = .ok (.iload_n 2, 1) := by decide +kernel
theorem dX11_book_27 : decode cX11_book 27 = .ok (.invokevirtual 234, 3) := by decide +kernel
theorem km11_234 : inW (Cond.methodLink RX11 234 yX4_written) := ⟨List.mem_of_getElem? (i := 1171) (by decide +kernel), by decide +kernel⟩
theorem dX11_book_30 : decode cX11_book 30 = .ok (.ireturn, 1) := by decide +kernel
theorem dX11_book_5 : decode cX11_book 5 = .ok (.aload_n 0, 1) := by decide +kernel
theorem dX11_book_6 : decode cX11_book 6 = .ok (.getfield 13, 3) := by decide +kernel
theorem dX11_book_9 : decode cX11_book 9 = .ok (.getfield 131, 3) := by decide +kernel
theorem dX11_book_12 : decode cX11_book 12 = .ok (.getfield 231, 3) := by decide +kernel
theorem kf11_231 : inW (Cond.fieldLinkNest RX11 231 "KneeOaths$Ledger" "acheCount" "I" "KneeOaths") := ⟨List.mem_of_getElem? (i := 169) (by decide +kernel), by decide +kernel⟩
theorem dX11_book_15 : decode cX11_book 15 = .ok (.goto 15, 3) := by decide +kernel
theorem dX11_foretold_0 : decode cX11_foretold 0 = .ok (.iload_n 1, 1) := by decide +kernel
theorem dX11_foretold_1 : decode cX11_foretold 1 = .ok (.iconst 1, 1) := by decide +kernel
theorem dX11_foretold_2 : decode cX11_foretold 2 = .ok (.bipush 60, 2) := by decide +kernel
theorem dX11_foretold_4 : decode cX11_foretold 4 = .ok (.invokestatic 146, 3) := by decide +kernel
theorem dX11_foretold_7 : decode cX11_foretold 7 = .ok (.ifCond .ne 5, 3) := by decide +kernel
theorem dX11_foretold_12 : decode cX11_foretold 12 = .ok (.iload_n 2, 1) := by decide +kernel
theorem dX11_foretold_13 : decode cX11_foretold 13 = .ok (.iconst (-1), 1) := by decide +kernel
theorem dX11_foretold_14 : decode cX11_foretold 14 = .ok (.if_icmp .ne 12, 3) := by decide +kernel
theorem dX11_foretold_26 : decode cX11_foretold 26 = .ok (.aload_n 0, 1) := by decide +kernel
theorem dX11_foretold_27 : decode cX11_foretold 27 = .ok (.getfield 13, 3) := by decide +kernel
theorem dX11_foretold_30 : decode cX11_foretold 30 = .ok (.iload_n 2, 1) := by decide +kernel
theorem dX11_foretold_31 : decode cX11_foretold 31 = .ok (.invokevirtual 192, 3) := by decide +kernel
theorem dX11_foretold_34 : decode cX11_foretold 34 = .ok (.ifCond .eq 15, 3) := by decide +kernel
theorem dX11_foretold_49 : decode cX11_foretold 49 = .ok (.iconst (-1), 1) := by decide +kernel
theorem dX11_foretold_50 : decode cX11_foretold 50 = .ok (.ireturn, 1) := by decide +kernel
theorem dX11_foretold_37 : decode cX11_foretold 37 = .ok (.aload_n 0, 1) := by decide +kernel
theorem dX11_foretold_38 : decode cX11_foretold 38 = .ok (.getfield 59, 3) := by decide +kernel
theorem kf11_59 : inW (Cond.fieldLink RX11 59 "KneeOaths" "foresight" "LKneeOaths$Foresight;") := ⟨List.mem_of_getElem? (i := 511) (by decide +kernel), by decide +kernel⟩
theorem dX11_foretold_41 : decode cX11_foretold 41 = .ok (.iload_n 1, 1) := by decide +kernel
theorem dX11_foretold_42 : decode cX11_foretold 42 = .ok (.iload_n 2, 1) := by decide +kernel
theorem dX11_foretold_43 : decode cX11_foretold 43 = .ok (.invokevirtual 240, 3) := by decide +kernel
theorem cw_X2_achesWithin : CWv yX2_achesWithin cX2_achesWithin 5 (some .int) 2 := ⟨⟨⟨List.mem_of_getElem? (i := 134) (by decide +kernel), by decide +kernel⟩, ⟨List.mem_of_getElem? (i := 1189) (by decide +kernel), by decide +kernel⟩, by decide +kernel⟩, ⟨List.mem_of_getElem? (i := 1187) (by decide +kernel), by decide +kernel⟩, ⟨List.mem_of_getElem? (i := 1188) (by decide +kernel), by decide +kernel⟩⟩
theorem km11_240 : inW (Cond.methodLink RX11 240 yX2_achesWithin) := ⟨List.mem_of_getElem? (i := 1186) (by decide +kernel), by decide +kernel⟩
theorem dX11_foretold_46 : decode cX11_foretold 46 = .ok (.goto 4, 3) := by decide +kernel
theorem dX11_foretold_17 : decode cX11_foretold 17 = .ok (.aload_n 0, 1) := by decide +kernel
theorem dX11_foretold_18 : decode cX11_foretold 18 = .ok (.getfield 59, 3) := by decide +kernel
theorem dX11_foretold_21 : decode cX11_foretold 21 = .ok (.iload_n 1, 1) := by decide +kernel
theorem dX11_foretold_22 : decode cX11_foretold 22 = .ok (.invokevirtual 237, 3) := by decide +kernel
theorem cw_X2_rainBehind : CWv yX2_rainBehind cX2_rainBehind 3 (some .int) 1 := ⟨⟨⟨List.mem_of_getElem? (i := 134) (by decide +kernel), by decide +kernel⟩, ⟨List.mem_of_getElem? (i := 1182) (by decide +kernel), by decide +kernel⟩, by decide +kernel⟩, ⟨List.mem_of_getElem? (i := 1180) (by decide +kernel), by decide +kernel⟩, ⟨List.mem_of_getElem? (i := 1181) (by decide +kernel), by decide +kernel⟩⟩
theorem km11_237 : inW (Cond.methodLink RX11 237 yX2_rainBehind) := ⟨List.mem_of_getElem? (i := 1179) (by decide +kernel), by decide +kernel⟩
theorem dX11_foretold_25 : decode cX11_foretold 25 = .ok (.ireturn, 1) := by decide +kernel
theorem dX11_foretold_10 : decode cX11_foretold 10 = .ok (.iconst (-1), 1) := by decide +kernel
theorem dX11_foretold_11 : decode cX11_foretold 11 = .ok (.ireturn, 1) := by decide +kernel
theorem dX11_firstAche_0 : decode cX11_firstAche 0 = .ok (.aload_n 0, 1) := by decide +kernel
theorem dX11_firstAche_1 : decode cX11_firstAche 1 = .ok (.getfield 13, 3) := by decide +kernel
theorem dX11_firstAche_4 : decode cX11_firstAche 4 = .ok (.iload_n 1, 1) := by decide +kernel
theorem dX11_firstAche_5 : decode cX11_firstAche 5 = .ok (.invokevirtual 192, 3) := by decide +kernel
theorem dX11_firstAche_8 : decode cX11_firstAche 8 = .ok (.ifCond .eq 14, 3) := by decide +kernel
theorem dX11_firstAche_22 : decode cX11_firstAche 22 = .ok (.iconst (-1), 1) := by decide +kernel
theorem dX11_firstAche_23 : decode cX11_firstAche 23 = .ok (.ireturn, 1) := by decide +kernel
theorem dX11_firstAche_11 : decode cX11_firstAche 11 = .ok (.aload_n 0, 1) := by decide +kernel
theorem dX11_firstAche_12 : decode cX11_firstAche 12 = .ok (.getfield 59, 3) := by decide +kernel
theorem dX11_firstAche_15 : decode cX11_firstAche 15 = .ok (.iload_n 1, 1) := by decide +kernel
theorem dX11_firstAche_16 : decode cX11_firstAche 16 = .ok (.invokevirtual 243, 3) := by decide +kernel
theorem cw_X2_daysToAche : CWv yX2_daysToAche cX2_daysToAche 3 (some .int) 1 := ⟨⟨⟨List.mem_of_getElem? (i := 134) (by decide +kernel), by decide +kernel⟩, ⟨List.mem_of_getElem? (i := 1198) (by decide +kernel), by decide +kernel⟩, by decide +kernel⟩, ⟨List.mem_of_getElem? (i := 1196) (by decide +kernel), by decide +kernel⟩, ⟨List.mem_of_getElem? (i := 1197) (by decide +kernel), by decide +kernel⟩⟩
theorem km11_243 : inW (Cond.methodLink RX11 243 yX2_daysToAche) := ⟨List.mem_of_getElem? (i := 1195) (by decide +kernel), by decide +kernel⟩
theorem dX11_firstAche_19 : decode cX11_firstAche 19 = .ok (.goto 4, 3) := by decide +kernel
theorem dX11_fades_0 : decode cX11_fades 0 = .ok (.aload_n 0, 1) := by decide +kernel
theorem dX11_fades_1 : decode cX11_fades 1 = .ok (.getfield 59, 3) := by decide +kernel
theorem dX11_fades_4 : decode cX11_fades 4 = .ok (.iload_n 1, 1) := by decide +kernel
theorem dX11_fades_5 : decode cX11_fades 5 = .ok (.invokevirtual 246, 3) := by decide +kernel
theorem cw_X2_daysToFade : CWv yX2_daysToFade cX2_daysToFade 4 (some .int) 1 := ⟨⟨⟨List.mem_of_getElem? (i := 134) (by decide +kernel), by decide +kernel⟩, ⟨List.mem_of_getElem? (i := 1206) (by decide +kernel), by decide +kernel⟩, by decide +kernel⟩, ⟨List.mem_of_getElem? (i := 1204) (by decide +kernel), by decide +kernel⟩, ⟨List.mem_of_getElem? (i := 1205) (by decide +kernel), by decide +kernel⟩⟩
theorem km11_246 : inW (Cond.methodLink RX11 246 yX2_daysToFade) := ⟨List.mem_of_getElem? (i := 1203) (by decide +kernel), by decide +kernel⟩
theorem dX11_fades_8 : decode cX11_fades 8 = .ok (.ireturn, 1) := by decide +kernel
theorem dX11_felt_0 : decode cX11_felt 0 = .ok (.iload_n 1, 1) := by decide +kernel
theorem dX11_felt_1 : decode cX11_felt 1 = .ok (.iconst (-1), 1) := by decide +kernel
theorem dX11_felt_2 : decode cX11_felt 2 = .ok (.if_icmp .ne 14, 3) := by decide +kernel
theorem dX11_felt_16 : decode cX11_felt 16 = .ok (.aload_n 0, 1) := by decide +kernel
theorem dX11_felt_17 : decode cX11_felt 17 = .ok (.getfield 13, 3) := by decide +kernel
theorem dX11_felt_20 : decode cX11_felt 20 = .ok (.iload_n 1, 1) := by decide +kernel
theorem dX11_felt_21 : decode cX11_felt 21 = .ok (.invokevirtual 192, 3) := by decide +kernel
theorem dX11_felt_24 : decode cX11_felt 24 = .ok (.ifCond .eq 24, 3) := by decide +kernel
theorem dX11_felt_48 : decode cX11_felt 48 = .ok (.bipush (-2), 2) := by decide +kernel
theorem dX11_felt_50 : decode cX11_felt 50 = .ok (.ireturn, 1) := by decide +kernel
theorem dX11_felt_27 : decode cX11_felt 27 = .ok (.iload_n 2, 1) := by decide +kernel
theorem dX11_felt_28 : decode cX11_felt 28 = .ok (.iconst 0, 1) := by decide +kernel
theorem dX11_felt_29 : decode cX11_felt 29 = .ok (.bipush 9, 2) := by decide +kernel
theorem dX11_felt_31 : decode cX11_felt 31 = .ok (.invokestatic 146, 3) := by decide +kernel
theorem dX11_felt_34 : decode cX11_felt 34 = .ok (.ifCond .eq 14, 3) := by decide +kernel
theorem dX11_felt_37 : decode cX11_felt 37 = .ok (.iload_n 3, 1) := by decide +kernel
theorem dX11_felt_38 : decode cX11_felt 38 = .ok (.iconst 0, 1) := by decide +kernel
theorem dX11_felt_39 : decode cX11_felt 39 = .ok (.sipush 999, 3) := by decide +kernel
theorem dX11_felt_42 : decode cX11_felt 42 = .ok (.invokestatic 146, 3) := by decide +kernel
theorem dX11_felt_45 : decode cX11_felt 45 = .ok (.ifCond .ne 6, 3) := by decide +kernel
theorem dX11_felt_51 : decode cX11_felt 51 = .ok (.aload_n 0, 1) := by decide +kernel
theorem dX11_felt_52 : decode cX11_felt 52 = .ok (.getfield 13, 3) := by decide +kernel
theorem dX11_felt_55 : decode cX11_felt 55 = .ok (.getfield 249, 3) := by decide +kernel
theorem kf11_249 : inW (Cond.fieldLinkNest RX11 249 "KneeOaths$World" "feelings" "LKneeOaths$Told;" "KneeOaths") := ⟨List.mem_of_getElem? (i := 275) (by decide +kernel), by decide +kernel⟩
theorem dX11_felt_58 : decode cX11_felt 58 = .ok (.iload_n 1, 1) := by decide +kernel
theorem dX11_felt_59 : decode cX11_felt 59 = .ok (.iload_n 2, 1) := by decide +kernel
theorem dX11_felt_60 : decode cX11_felt 60 = .ok (.iload_n 3, 1) := by decide +kernel
theorem dX11_felt_61 : decode cX11_felt 61 = .ok (.invokevirtual 258, 3) := by decide +kernel
theorem cw_X9_tell : CWv yX9_tell cX9_tell 5 (some .int) 3 := ⟨⟨⟨List.mem_of_getElem? (i := 127) (by decide +kernel), by decide +kernel⟩, ⟨List.mem_of_getElem? (i := 1222) (by decide +kernel), by decide +kernel⟩, by decide +kernel⟩, ⟨List.mem_of_getElem? (i := 1220) (by decide +kernel), by decide +kernel⟩, ⟨List.mem_of_getElem? (i := 1221) (by decide +kernel), by decide +kernel⟩⟩
theorem km11_258 : inW (Cond.methodLink RX11 258 yX9_tell) := ⟨List.mem_of_getElem? (i := 1219) (by decide +kernel), by decide +kernel⟩
theorem dX11_felt_64 : decode cX11_felt 64 = .ok (.ireturn, 1) := by decide +kernel
theorem dX11_felt_5 : decode cX11_felt 5 = .ok (.aload_n 0, 1) := by decide +kernel
theorem dX11_felt_6 : decode cX11_felt 6 = .ok (.getfield 13, 3) := by decide +kernel
theorem dX11_felt_9 : decode cX11_felt 9 = .ok (.getfield 249, 3) := by decide +kernel
theorem dX11_felt_12 : decode cX11_felt 12 = .ok (.invokevirtual 253, 3) := by decide +kernel
theorem cw_X9_forget : CWv yX9_forget cX9_forget 1 (some .int) 0 := ⟨⟨⟨List.mem_of_getElem? (i := 127) (by decide +kernel), by decide +kernel⟩, ⟨List.mem_of_getElem? (i := 1218) (by decide +kernel), by decide +kernel⟩, by decide +kernel⟩, ⟨List.mem_of_getElem? (i := 1216) (by decide +kernel), by decide +kernel⟩, ⟨List.mem_of_getElem? (i := 1217) (by decide +kernel), by decide +kernel⟩⟩
theorem km11_253 : inW (Cond.methodLink RX11 253 yX9_forget) := ⟨List.mem_of_getElem? (i := 1215) (by decide +kernel), by decide +kernel⟩
theorem dX11_felt_15 : decode cX11_felt 15 = .ok (.ireturn, 1) := by decide +kernel
theorem dX11_breaches_0 : decode cX11_breaches 0 = .ok (.aload_n 0, 1) := by decide +kernel
theorem dX11_breaches_1 : decode cX11_breaches 1 = .ok (.getfield 13, 3) := by decide +kernel
theorem dX11_breaches_4 : decode cX11_breaches 4 = .ok (.iload_n 1, 1) := by decide +kernel
theorem dX11_breaches_5 : decode cX11_breaches 5 = .ok (.invokevirtual 192, 3) := by decide +kernel
theorem dX11_breaches_8 : decode cX11_breaches 8 = .ok (.ifCond .eq 12, 3) := by decide +kernel
theorem dX11_breaches_20 : decode cX11_breaches 20 = .ok (.iconst (-1), 1) := by decide +kernel
theorem dX11_breaches_21 : decode cX11_breaches 21 = .ok (.ireturn, 1) := by decide +kernel
theorem dX11_breaches_11 : decode cX11_breaches 11 = .ok (.iload_n 2, 1) := by decide +kernel
theorem dX11_breaches_12 : decode cX11_breaches 12 = .ok (.iconst 0, 1) := by decide +kernel
theorem dX11_breaches_13 : decode cX11_breaches 13 = .ok (.iconst 2, 1) := by decide +kernel
theorem dX11_breaches_14 : decode cX11_breaches 14 = .ok (.invokestatic 146, 3) := by decide +kernel
theorem dX11_breaches_17 : decode cX11_breaches 17 = .ok (.ifCond .ne 5, 3) := by decide +kernel
theorem dX11_breaches_22 : decode cX11_breaches 22 = .ok (.aload_n 0, 1) := by decide +kernel
theorem dX11_breaches_23 : decode cX11_breaches 23 = .ok (.getfield 68, 3) := by decide +kernel
theorem kf11_68 : inW (Cond.fieldLink RX11 68 "KneeOaths" "suspicions" "LKneeOaths$Suspicions;") := ⟨List.mem_of_getElem? (i := 512) (by decide +kernel), by decide +kernel⟩
theorem dX11_breaches_26 : decode cX11_breaches 26 = .ok (.iload_n 1, 1) := by decide +kernel
theorem dX11_breaches_27 : decode cX11_breaches 27 = .ok (.invokevirtual 262, 3) := by decide +kernel
theorem cw_X8_weigh : CWv yX8_weigh cX8_weigh 5 none 1 := ⟨⟨⟨List.mem_of_getElem? (i := 135) (by decide +kernel), by decide +kernel⟩, ⟨List.mem_of_getElem? (i := 1230) (by decide +kernel), by decide +kernel⟩, by decide +kernel⟩, ⟨List.mem_of_getElem? (i := 1228) (by decide +kernel), by decide +kernel⟩, ⟨List.mem_of_getElem? (i := 1229) (by decide +kernel), by decide +kernel⟩⟩
theorem km11_262 : inW (Cond.methodLink RX11 262 yX8_weigh) := ⟨List.mem_of_getElem? (i := 1227) (by decide +kernel), by decide +kernel⟩
theorem dX11_breaches_30 : decode cX11_breaches 30 = .ok (.iload_n 2, 1) := by decide +kernel
theorem dX11_breaches_31 : decode cX11_breaches 31 = .ok (.ifCond .ne 11, 3) := by decide +kernel
theorem dX11_breaches_42 : decode cX11_breaches 42 = .ok (.iload_n 2, 1) := by decide +kernel
theorem dX11_breaches_43 : decode cX11_breaches 43 = .ok (.iconst 1, 1) := by decide +kernel
theorem dX11_breaches_44 : decode cX11_breaches 44 = .ok (.if_icmp .ne 13, 3) := by decide +kernel
theorem dX11_breaches_57 : decode cX11_breaches 57 = .ok (.aload_n 0, 1) := by decide +kernel
theorem dX11_breaches_58 : decode cX11_breaches 58 = .ok (.getfield 68, 3) := by decide +kernel
theorem dX11_breaches_61 : decode cX11_breaches 61 = .ok (.invokevirtual 271, 3) := by decide +kernel
theorem cw_X8_sureKept : CWv yX8_sureKept cX8_sureKept 1 (some .int) 0 := ⟨⟨⟨List.mem_of_getElem? (i := 135) (by decide +kernel), by decide +kernel⟩, ⟨List.mem_of_getElem? (i := 1270) (by decide +kernel), by decide +kernel⟩, by decide +kernel⟩, ⟨List.mem_of_getElem? (i := 1268) (by decide +kernel), by decide +kernel⟩, ⟨List.mem_of_getElem? (i := 1269) (by decide +kernel), by decide +kernel⟩⟩
theorem km11_271 : inW (Cond.methodLink RX11 271 yX8_sureKept) := ⟨List.mem_of_getElem? (i := 1267) (by decide +kernel), by decide +kernel⟩
theorem dX11_breaches_64 : decode cX11_breaches 64 = .ok (.ireturn, 1) := by decide +kernel
theorem dX11_breaches_47 : decode cX11_breaches 47 = .ok (.aload_n 0, 1) := by decide +kernel
theorem dX11_breaches_48 : decode cX11_breaches 48 = .ok (.getfield 68, 3) := by decide +kernel
theorem dX11_breaches_51 : decode cX11_breaches 51 = .ok (.invokevirtual 268, 3) := by decide +kernel
theorem cw_X8_sureBroken : CWv yX8_sureBroken cX8_sureBroken 1 (some .int) 0 := ⟨⟨⟨List.mem_of_getElem? (i := 135) (by decide +kernel), by decide +kernel⟩, ⟨List.mem_of_getElem? (i := 1262) (by decide +kernel), by decide +kernel⟩, by decide +kernel⟩, ⟨List.mem_of_getElem? (i := 1260) (by decide +kernel), by decide +kernel⟩, ⟨List.mem_of_getElem? (i := 1261) (by decide +kernel), by decide +kernel⟩⟩
theorem km11_268 : inW (Cond.methodLink RX11 268 yX8_sureBroken) := ⟨List.mem_of_getElem? (i := 1259) (by decide +kernel), by decide +kernel⟩
theorem dX11_breaches_54 : decode cX11_breaches 54 = .ok (.goto 10, 3) := by decide +kernel
theorem dX11_breaches_34 : decode cX11_breaches 34 = .ok (.aload_n 0, 1) := by decide +kernel
theorem dX11_breaches_35 : decode cX11_breaches 35 = .ok (.getfield 68, 3) := by decide +kernel
theorem dX11_breaches_38 : decode cX11_breaches 38 = .ok (.invokevirtual 265, 3) := by decide +kernel
theorem cw_X8_sets : CWv yX8_sets cX8_sets 1 (some .int) 0 := ⟨⟨⟨List.mem_of_getElem? (i := 135) (by decide +kernel), by decide +kernel⟩, ⟨List.mem_of_getElem? (i := 1258) (by decide +kernel), by decide +kernel⟩, by decide +kernel⟩, ⟨List.mem_of_getElem? (i := 1256) (by decide +kernel), by decide +kernel⟩, ⟨List.mem_of_getElem? (i := 1257) (by decide +kernel), by decide +kernel⟩⟩
theorem km11_265 : inW (Cond.methodLink RX11 265 yX8_sets) := ⟨List.mem_of_getElem? (i := 1255) (by decide +kernel), by decide +kernel⟩
theorem dX11_breaches_41 : decode cX11_breaches 41 = .ok (.ireturn, 1) := by decide +kernel
theorem dX11_odds_0 : decode cX11_odds 0 = .ok (.aload_n 0, 1) := by decide +kernel
theorem dX11_odds_1 : decode cX11_odds 1 = .ok (.getfield 13, 3) := by decide +kernel
theorem dX11_odds_4 : decode cX11_odds 4 = .ok (.getfield 131, 3) := by decide +kernel
theorem dX11_odds_7 : decode cX11_odds 7 = .ok (.iload_n 1, 1) := by decide +kernel
theorem dX11_odds_8 : decode cX11_odds 8 = .ok (.invokevirtual 274, 3) := by decide +kernel
theorem km11_274 : inW (Cond.methodLink RX11 274 yX4_legible) := ⟨List.mem_of_getElem? (i := 1275) (by decide +kernel), by decide +kernel⟩
theorem dX11_odds_11 : decode cX11_odds 11 = .ok (.ifCond .ne 5, 3) := by decide +kernel
theorem dX11_odds_16 : decode cX11_odds 16 = .ok (.aload_n 0, 1) := by decide +kernel
theorem dX11_odds_17 : decode cX11_odds 17 = .ok (.getfield 68, 3) := by decide +kernel
theorem dX11_odds_20 : decode cX11_odds 20 = .ok (.aload_n 0, 1) := by decide +kernel
theorem dX11_odds_21 : decode cX11_odds 21 = .ok (.getfield 13, 3) := by decide +kernel
theorem dX11_odds_24 : decode cX11_odds 24 = .ok (.getfield 131, 3) := by decide +kernel
theorem dX11_odds_27 : decode cX11_odds 27 = .ok (.iload_n 1, 1) := by decide +kernel
theorem dX11_odds_28 : decode cX11_odds 28 = .ok (.iconst 1, 1) := by decide +kernel
theorem dX11_odds_29 : decode cX11_odds 29 = .ok (.invokevirtual 222, 3) := by decide +kernel
theorem dX11_odds_32 : decode cX11_odds 32 = .ok (.invokevirtual 262, 3) := by decide +kernel
theorem dX11_odds_35 : decode cX11_odds 35 = .ok (.aload_n 0, 1) := by decide +kernel
theorem dX11_odds_36 : decode cX11_odds 36 = .ok (.getfield 68, 3) := by decide +kernel
theorem dX11_odds_39 : decode cX11_odds 39 = .ok (.iload_n 1, 1) := by decide +kernel
theorem dX11_odds_40 : decode cX11_odds 40 = .ok (.iload_n 2, 1) := by decide +kernel
theorem dX11_odds_41 : decode cX11_odds 41 = .ok (.invokevirtual 277, 3) := by decide +kernel
theorem cw_X8_chance : CWv yX8_chance cX8_chance 5 (some .int) 2 := ⟨⟨⟨List.mem_of_getElem? (i := 135) (by decide +kernel), by decide +kernel⟩, ⟨List.mem_of_getElem? (i := 1279) (by decide +kernel), by decide +kernel⟩, by decide +kernel⟩, ⟨List.mem_of_getElem? (i := 1277) (by decide +kernel), by decide +kernel⟩, ⟨List.mem_of_getElem? (i := 1278) (by decide +kernel), by decide +kernel⟩⟩
theorem km11_277 : inW (Cond.methodLink RX11 277 yX8_chance) := ⟨List.mem_of_getElem? (i := 1276) (by decide +kernel), by decide +kernel⟩
theorem dX11_odds_44 : decode cX11_odds 44 = .ok (.ireturn, 1) := by decide +kernel
theorem dX11_odds_14 : decode cX11_odds 14 = .ok (.iconst (-1), 1) := by decide +kernel
theorem dX11_odds_15 : decode cX11_odds 15 = .ok (.ireturn, 1) := by decide +kernel
theorem dX11_nextAsked_0 : decode cX11_nextAsked 0 = .ok (.aload_n 0, 1) := by decide +kernel
theorem dX11_nextAsked_1 : decode cX11_nextAsked 1 = .ok (.getfield 13, 3) := by decide +kernel
theorem dX11_nextAsked_4 : decode cX11_nextAsked 4 = .ok (.iload_n 1, 1) := by decide +kernel
theorem dX11_nextAsked_5 : decode cX11_nextAsked 5 = .ok (.invokevirtual 192, 3) := by decide +kernel
theorem dX11_nextAsked_8 : decode cX11_nextAsked 8 = .ok (.ifCond .ne 5, 3) := by decide +kernel
theorem dX11_nextAsked_13 : decode cX11_nextAsked 13 = .ok (.aload_n 0, 1) := by decide +kernel
theorem dX11_nextAsked_14 : decode cX11_nextAsked 14 = .ok (.getfield 68, 3) := by decide +kernel
theorem dX11_nextAsked_17 : decode cX11_nextAsked 17 = .ok (.iload_n 1, 1) := by decide +kernel
theorem dX11_nextAsked_18 : decode cX11_nextAsked 18 = .ok (.invokevirtual 262, 3) := by decide +kernel
theorem dX11_nextAsked_21 : decode cX11_nextAsked 21 = .ok (.aload_n 0, 1) := by decide +kernel
theorem dX11_nextAsked_22 : decode cX11_nextAsked 22 = .ok (.getfield 68, 3) := by decide +kernel
theorem dX11_nextAsked_25 : decode cX11_nextAsked 25 = .ok (.invokevirtual 281, 3) := by decide +kernel
theorem cw_X8_mostTelling : CWv yX8_mostTelling cX8_mostTelling 6 (some .int) 0 := ⟨⟨⟨List.mem_of_getElem? (i := 135) (by decide +kernel), by decide +kernel⟩, ⟨List.mem_of_getElem? (i := 1290) (by decide +kernel), by decide +kernel⟩, by decide +kernel⟩, ⟨List.mem_of_getElem? (i := 1288) (by decide +kernel), by decide +kernel⟩, ⟨List.mem_of_getElem? (i := 1289) (by decide +kernel), by decide +kernel⟩⟩
theorem km11_281 : inW (Cond.methodLink RX11 281 yX8_mostTelling) := ⟨List.mem_of_getElem? (i := 1287) (by decide +kernel), by decide +kernel⟩
theorem dX11_nextAsked_28 : decode cX11_nextAsked 28 = .ok (.ireturn, 1) := by decide +kernel
theorem dX11_nextAsked_11 : decode cX11_nextAsked 11 = .ok (.iconst (-1), 1) := by decide +kernel
theorem dX11_nextAsked_12 : decode cX11_nextAsked 12 = .ok (.ireturn, 1) := by decide +kernel
theorem dX11_clash_0 : decode cX11_clash 0 = .ok (.iload_n 1, 1) := by decide +kernel
theorem dX11_clash_1 : decode cX11_clash 1 = .ok (.iconst (-1), 1) := by decide +kernel
theorem dX11_clash_2 : decode cX11_clash 2 = .ok (.if_icmp .ne 14, 3) := by decide +kernel
theorem dX11_clash_16 : decode cX11_clash 16 = .ok (.aload_n 0, 1) := by decide +kernel
theorem dX11_clash_17 : decode cX11_clash 17 = .ok (.getfield 13, 3) := by decide +kernel
theorem dX11_clash_20 : decode cX11_clash 20 = .ok (.getfield 131, 3) := by decide +kernel
theorem dX11_clash_23 : decode cX11_clash 23 = .ok (.iload_n 1, 1) := by decide +kernel
theorem dX11_clash_24 : decode cX11_clash 24 = .ok (.invokevirtual 211, 3) := by decide +kernel
theorem dX11_clash_27 : decode cX11_clash 27 = .ok (.ifCond .eq 22, 3) := by decide +kernel
theorem dX11_clash_49 : decode cX11_clash 49 = .ok (.bipush (-2), 2) := by decide +kernel
theorem dX11_clash_51 : decode cX11_clash 51 = .ok (.ireturn, 1) := by decide +kernel
theorem dX11_clash_30 : decode cX11_clash 30 = .ok (.aload_n 0, 1) := by decide +kernel
theorem dX11_clash_31 : decode cX11_clash 31 = .ok (.getfield 13, 3) := by decide +kernel
theorem dX11_clash_34 : decode cX11_clash 34 = .ok (.getfield 131, 3) := by decide +kernel
theorem dX11_clash_37 : decode cX11_clash 37 = .ok (.iload_n 2, 1) := by decide +kernel
theorem dX11_clash_38 : decode cX11_clash 38 = .ok (.invokevirtual 211, 3) := by decide +kernel
theorem dX11_clash_41 : decode cX11_clash 41 = .ok (.ifCond .eq 8, 3) := by decide +kernel
theorem dX11_clash_44 : decode cX11_clash 44 = .ok (.iload_n 1, 1) := by decide +kernel
theorem dX11_clash_45 : decode cX11_clash 45 = .ok (.iload_n 2, 1) := by decide +kernel
theorem dX11_clash_46 : decode cX11_clash 46 = .ok (.if_icmp .ne 6, 3) := by decide +kernel
theorem dX11_clash_52 : decode cX11_clash 52 = .ok (.aload_n 0, 1) := by decide +kernel
theorem dX11_clash_53 : decode cX11_clash 53 = .ok (.getfield 13, 3) := by decide +kernel
theorem dX11_clash_56 : decode cX11_clash 56 = .ok (.getfield 284, 3) := by decide +kernel
theorem kf11_284 : inW (Cond.fieldLinkNest RX11 284 "KneeOaths$World" "clashes" "LKneeOaths$Told;" "KneeOaths") := ⟨List.mem_of_getElem? (i := 278) (by decide +kernel), by decide +kernel⟩
theorem dX11_clash_59 : decode cX11_clash 59 = .ok (.iload_n 1, 1) := by decide +kernel
theorem dX11_clash_60 : decode cX11_clash 60 = .ok (.iload_n 2, 1) := by decide +kernel
theorem dX11_clash_61 : decode cX11_clash 61 = .ok (.iconst 0, 1) := by decide +kernel
theorem dX11_clash_62 : decode cX11_clash 62 = .ok (.invokevirtual 258, 3) := by decide +kernel
theorem dX11_clash_65 : decode cX11_clash 65 = .ok (.ireturn, 1) := by decide +kernel
theorem dX11_clash_5 : decode cX11_clash 5 = .ok (.aload_n 0, 1) := by decide +kernel
theorem dX11_clash_6 : decode cX11_clash 6 = .ok (.getfield 13, 3) := by decide +kernel
theorem dX11_clash_9 : decode cX11_clash 9 = .ok (.getfield 284, 3) := by decide +kernel
theorem dX11_clash_12 : decode cX11_clash 12 = .ok (.invokevirtual 253, 3) := by decide +kernel
theorem dX11_clash_15 : decode cX11_clash 15 = .ok (.ireturn, 1) := by decide +kernel
theorem dX11_leastReleased_0 : decode cX11_leastReleased 0 = .ok (.aload_n 0, 1) := by decide +kernel
theorem dX11_leastReleased_1 : decode cX11_leastReleased 1 = .ok (.getfield 75, 3) := by decide +kernel
theorem dX11_leastReleased_4 : decode cX11_leastReleased 4 = .ok (.invokevirtual 287, 3) := by decide +kernel
theorem cw_X0_fewestReleased : CWv yX0_fewestReleased cX0_fewestReleased 5 (some .int) 0 := ⟨⟨⟨List.mem_of_getElem? (i := 136) (by decide +kernel), by decide +kernel⟩, ⟨List.mem_of_getElem? (i := 1305) (by decide +kernel), by decide +kernel⟩, by decide +kernel⟩, ⟨List.mem_of_getElem? (i := 1303) (by decide +kernel), by decide +kernel⟩, ⟨List.mem_of_getElem? (i := 1304) (by decide +kernel), by decide +kernel⟩⟩
theorem km11_287 : inW (Cond.methodLink RX11 287 yX0_fewestReleased) := ⟨List.mem_of_getElem? (i := 1302) (by decide +kernel), by decide +kernel⟩
theorem dX11_leastReleased_7 : decode cX11_leastReleased 7 = .ok (.ireturn, 1) := by decide +kernel
theorem dX11_forged_0 : decode cX11_forged 0 = .ok (.aload_n 0, 1) := by decide +kernel
theorem dX11_forged_1 : decode cX11_forged 1 = .ok (.getfield 13, 3) := by decide +kernel
theorem dX11_forged_4 : decode cX11_forged 4 = .ok (.iload_n 1, 1) := by decide +kernel
theorem dX11_forged_5 : decode cX11_forged 5 = .ok (.invokevirtual 192, 3) := by decide +kernel
theorem dX11_forged_8 : decode cX11_forged 8 = .ok (.ifCond .eq 22, 3) := by decide +kernel
theorem dX11_forged_30 : decode cX11_forged 30 = .ok (.sipush (-1000), 3) := by decide +kernel
theorem dX11_forged_33 : decode cX11_forged 33 = .ok (.ireturn, 1) := by decide +kernel
theorem dX11_forged_11 : decode cX11_forged 11 = .ok (.iload_n 2, 1) := by decide +kernel
theorem dX11_forged_12 : decode cX11_forged 12 = .ok (.iconst 0, 1) := by decide +kernel
theorem dX11_forged_13 : decode cX11_forged 13 = .ok (.iconst 1, 1) := by decide +kernel
theorem dX11_forged_14 : decode cX11_forged 14 = .ok (.invokestatic 146, 3) := by decide +kernel
theorem dX11_forged_17 : decode cX11_forged 17 = .ok (.ifCond .eq 13, 3) := by decide +kernel
theorem dX11_forged_20 : decode cX11_forged 20 = .ok (.iload_n 3, 1) := by decide +kernel
theorem dX11_forged_21 : decode cX11_forged 21 = .ok (.iconst 0, 1) := by decide +kernel
theorem dX11_forged_22 : decode cX11_forged 22 = .ok (.bipush 99, 2) := by decide +kernel
theorem dX11_forged_24 : decode cX11_forged 24 = .ok (.invokestatic 146, 3) := by decide +kernel
theorem dX11_forged_27 : decode cX11_forged 27 = .ok (.ifCond .ne 7, 3) := by decide +kernel
theorem dX11_forged_34 : decode cX11_forged 34 = .ok (.iload_n 3, 1) := by decide +kernel
theorem dX11_forged_35 : decode cX11_forged 35 = .ok (.aload_n 0, 1) := by decide +kernel
theorem dX11_forged_36 : decode cX11_forged 36 = .ok (.getfield 13, 3) := by decide +kernel
theorem dX11_forged_39 : decode cX11_forged 39 = .ok (.getfield 131, 3) := by decide +kernel
theorem dX11_forged_42 : decode cX11_forged 42 = .ok (.iload_n 1, 1) := by decide +kernel
theorem dX11_forged_43 : decode cX11_forged 43 = .ok (.iload_n 2, 1) := by decide +kernel
theorem dX11_forged_44 : decode cX11_forged 44 = .ok (.invokevirtual 290, 3) := by decide +kernel
theorem cw_X4_marksOnKnee : CWv yX4_marksOnKnee cX4_marksOnKnee 5 (some .int) 2 := ⟨⟨⟨List.mem_of_getElem? (i := 125) (by decide +kernel), by decide +kernel⟩, ⟨List.mem_of_getElem? (i := 1323) (by decide +kernel), by decide +kernel⟩, by decide +kernel⟩, ⟨List.mem_of_getElem? (i := 1321) (by decide +kernel), by decide +kernel⟩, ⟨List.mem_of_getElem? (i := 1322) (by decide +kernel), by decide +kernel⟩⟩
theorem km11_290 : inW (Cond.methodLink RX11 290 yX4_marksOnKnee) := ⟨List.mem_of_getElem? (i := 1320) (by decide +kernel), by decide +kernel⟩
theorem dX11_forged_47 : decode cX11_forged 47 = .ok (.isub, 1) := by decide +kernel
theorem dX11_forged_48 : decode cX11_forged 48 = .ok (.ireturn, 1) := by decide +kernel
theorem dX11_inTime_0 : decode cX11_inTime 0 = .ok (.iload_n 1, 1) := by decide +kernel
theorem dX11_inTime_1 : decode cX11_inTime 1 = .ok (.iconst 0, 1) := by decide +kernel
theorem dX11_inTime_2 : decode cX11_inTime 2 = .ok (.iconst 2, 1) := by decide +kernel
theorem dX11_inTime_3 : decode cX11_inTime 3 = .ok (.invokestatic 146, 3) := by decide +kernel
theorem dX11_inTime_6 : decode cX11_inTime 6 = .ok (.ifCond .ne 5, 3) := by decide +kernel
theorem dX11_inTime_11 : decode cX11_inTime 11 = .ok (.aload_n 0, 1) := by decide +kernel
theorem dX11_inTime_12 : decode cX11_inTime 12 = .ok (.getfield 75, 3) := by decide +kernel
theorem dX11_inTime_15 : decode cX11_inTime 15 = .ok (.invokevirtual 296, 3) := by decide +kernel
theorem cw_X0_mostInTime : CWv yX0_mostInTime cX0_mostInTime 3 (some .int) 0 := ⟨⟨⟨List.mem_of_getElem? (i := 136) (by decide +kernel), by decide +kernel⟩, ⟨List.mem_of_getElem? (i := 1335) (by decide +kernel), by decide +kernel⟩, by decide +kernel⟩, ⟨List.mem_of_getElem? (i := 1333) (by decide +kernel), by decide +kernel⟩, ⟨List.mem_of_getElem? (i := 1334) (by decide +kernel), by decide +kernel⟩⟩
theorem km11_296 : inW (Cond.methodLink RX11 296 yX0_mostInTime) := ⟨List.mem_of_getElem? (i := 1332) (by decide +kernel), by decide +kernel⟩
theorem dX11_inTime_18 : decode cX11_inTime 18 = .ok (.istore_n 2, 1) := by decide +kernel
theorem dX11_inTime_19 : decode cX11_inTime 19 = .ok (.iload_n 1, 1) := by decide +kernel
theorem dX11_inTime_20 : decode cX11_inTime 20 = .ok (.ifCond .ne 8, 3) := by decide +kernel
theorem dX11_inTime_28 : decode cX11_inTime 28 = .ok (.iload_n 1, 1) := by decide +kernel
theorem dX11_inTime_29 : decode cX11_inTime 29 = .ok (.iconst 1, 1) := by decide +kernel
theorem dX11_inTime_30 : decode cX11_inTime 30 = .ok (.if_icmp .ne 7, 3) := by decide +kernel
theorem dX11_inTime_37 : decode cX11_inTime 37 = .ok (.aload_n 0, 1) := by decide +kernel
theorem dX11_inTime_38 : decode cX11_inTime 38 = .ok (.getfield 75, 3) := by decide +kernel
theorem dX11_inTime_41 : decode cX11_inTime 41 = .ok (.iload_n 2, 1) := by decide +kernel
theorem dX11_inTime_42 : decode cX11_inTime 42 = .ok (.sipush 999, 3) := by decide +kernel
theorem dX11_inTime_45 : decode cX11_inTime 45 = .ok (.invokevirtual 304, 3) := by decide +kernel
theorem km11_304 : inW (Cond.methodLink RX11 304 yX0_workOf) := ⟨List.mem_of_getElem? (i := 1345) (by decide +kernel), by decide +kernel⟩
theorem dX11_inTime_48 : decode cX11_inTime 48 = .ok (.ireturn, 1) := by decide +kernel
theorem dX11_inTime_33 : decode cX11_inTime 33 = .ok (.iload_n 2, 1) := by decide +kernel
theorem dX11_inTime_34 : decode cX11_inTime 34 = .ok (.goto 14, 3) := by decide +kernel
theorem dX11_inTime_23 : decode cX11_inTime 23 = .ok (.iload_n 2, 1) := by decide +kernel
theorem dX11_inTime_24 : decode cX11_inTime 24 = .ok (.invokestatic 299, 3) := by decide +kernel
theorem km11_299 : inW (Cond.methodLink RX11 299 yJ6_bitCount_0f7a4) := ⟨List.mem_of_getElem? (i := 1344) (by decide +kernel), by decide +kernel⟩
theorem dX11_inTime_27 : decode cX11_inTime 27 = .ok (.ireturn, 1) := by decide +kernel
theorem dX11_inTime_9 : decode cX11_inTime 9 = .ok (.iconst (-1), 1) := by decide +kernel
theorem dX11_inTime_10 : decode cX11_inTime 10 = .ok (.ireturn, 1) := by decide +kernel
theorem dX11_whom_0 : decode cX11_whom 0 = .ok (.aload_n 0, 1) := by decide +kernel
theorem dX11_whom_1 : decode cX11_whom 1 = .ok (.getfield 13, 3) := by decide +kernel
theorem dX11_whom_4 : decode cX11_whom 4 = .ok (.iload_n 1, 1) := by decide +kernel
theorem dX11_whom_5 : decode cX11_whom 5 = .ok (.invokevirtual 192, 3) := by decide +kernel
theorem dX11_whom_8 : decode cX11_whom 8 = .ok (.ifCond .ne 5, 3) := by decide +kernel
theorem dX11_whom_13 : decode cX11_whom 13 = .ok (.iconst (-1), 1) := by decide +kernel
theorem dX11_whom_14 : decode cX11_whom 14 = .ok (.istore_n 2, 1) := by decide +kernel
theorem dX11_whom_15 : decode cX11_whom 15 = .ok (.iconst 0, 1) := by decide +kernel
theorem dX11_whom_16 : decode cX11_whom 16 = .ok (.istore_n 3, 1) := by decide +kernel
theorem dX11_whom_17 : decode cX11_whom 17 = .ok (.iconst 0, 1) := by decide +kernel
theorem dX11_whom_18 : decode cX11_whom 18 = .ok (.istore 4, 2) := by decide +kernel
theorem dX11_whom_11 : decode cX11_whom 11 = .ok (.iconst (-1), 1) := by decide +kernel
theorem dX11_whom_12 : decode cX11_whom 12 = .ok (.ireturn, 1) := by decide +kernel
theorem dX11_whom_20 : decode cX11_whom 20 = .ok (.iload 4, 2) := by decide +kernel
theorem dX11_whom_22 : decode cX11_whom 22 = .ok (.aload_n 0, 1) := by decide +kernel
theorem dX11_whom_23 : decode cX11_whom 23 = .ok (.getfield 13, 3) := by decide +kernel
theorem dX11_whom_26 : decode cX11_whom 26 = .ok (.getfield 174, 3) := by decide +kernel
theorem dX11_whom_29 : decode cX11_whom 29 = .ok (.if_icmp .ge 60, 3) := by decide +kernel
theorem dX11_whom_89 : decode cX11_whom 89 = .ok (.iload_n 2, 1) := by decide +kernel
theorem dX11_whom_90 : decode cX11_whom 90 = .ok (.ireturn, 1) := by decide +kernel
theorem dX11_whom_32 : decode cX11_whom 32 = .ok (.iload 4, 2) := by decide +kernel
theorem dX11_whom_34 : decode cX11_whom 34 = .ok (.iload_n 1, 1) := by decide +kernel
theorem dX11_whom_35 : decode cX11_whom 35 = .ok (.if_icmp .ne 7, 3) := by decide +kernel
theorem dX11_whom_42 : decode cX11_whom 42 = .ok (.aload_n 0, 1) := by decide +kernel
theorem dX11_whom_43 : decode cX11_whom 43 = .ok (.getfield 34, 3) := by decide +kernel
theorem dX11_whom_46 : decode cX11_whom 46 = .ok (.aload_n 0, 1) := by decide +kernel
theorem dX11_whom_47 : decode cX11_whom 47 = .ok (.getfield 13, 3) := by decide +kernel
theorem dX11_whom_50 : decode cX11_whom 50 = .ok (.getfield 131, 3) := by decide +kernel
theorem dX11_whom_53 : decode cX11_whom 53 = .ok (.iload 4, 2) := by decide +kernel
theorem dX11_whom_55 : decode cX11_whom 55 = .ok (.invokevirtual 205, 3) := by decide +kernel
theorem dX11_whom_58 : decode cX11_whom 58 = .ok (.istore 5, 2) := by decide +kernel
theorem dX11_whom_60 : decode cX11_whom 60 = .ok (.iload 4, 2) := by decide +kernel
theorem dX11_whom_62 : decode cX11_whom 62 = .ok (.iload_n 1, 1) := by decide +kernel
theorem dX11_whom_63 : decode cX11_whom 63 = .ok (.if_icmp .eq 20, 3) := by decide +kernel
theorem dX11_whom_66 : decode cX11_whom 66 = .ok (.iload_n 2, 1) := by decide +kernel
theorem dX11_whom_67 : decode cX11_whom 67 = .ok (.iconst (-1), 1) := by decide +kernel
theorem dX11_whom_68 : decode cX11_whom 68 = .ok (.if_icmp .eq 9, 3) := by decide +kernel
theorem dX11_whom_77 : decode cX11_whom 77 = .ok (.iload 4, 2) := by decide +kernel
theorem dX11_whom_79 : decode cX11_whom 79 = .ok (.istore_n 2, 1) := by decide +kernel
theorem dX11_whom_80 : decode cX11_whom 80 = .ok (.iload 5, 2) := by decide +kernel
theorem dX11_whom_82 : decode cX11_whom 82 = .ok (.istore_n 3, 1) := by decide +kernel
theorem dX11_whom_83 : decode cX11_whom 83 = .ok (.iinc 4 1, 3) := by decide +kernel
theorem dX11_whom_86 : decode cX11_whom 86 = .ok (.goto (-66), 3) := by decide +kernel
theorem dX11_whom_71 : decode cX11_whom 71 = .ok (.iload 5, 2) := by decide +kernel
theorem dX11_whom_73 : decode cX11_whom 73 = .ok (.iload_n 3, 1) := by decide +kernel
theorem dX11_whom_74 : decode cX11_whom 74 = .ok (.if_icmp .ge 9, 3) := by decide +kernel
theorem dX11_whom_38 : decode cX11_whom 38 = .ok (.iconst 0, 1) := by decide +kernel
theorem dX11_whom_39 : decode cX11_whom 39 = .ok (.goto 19, 3) := by decide +kernel
theorem dX11_ring_0 : decode cX11_ring 0 = .ok (.aload_n 0, 1) := by decide +kernel
theorem dX11_ring_1 : decode cX11_ring 1 = .ok (.getfield 41, 3) := by decide +kernel
theorem kf11_41 : inW (Cond.fieldLink RX11 41 "KneeOaths" "rings" "LKneeOaths$Rings;") := ⟨List.mem_of_getElem? (i := 509) (by decide +kernel), by decide +kernel⟩
theorem dX11_ring_4 : decode cX11_ring 4 = .ok (.invokevirtual 307, 3) := by decide +kernel
theorem cw_X6_shortest : CWv yX6_shortest cX6_shortest 2 (some .int) 0 := ⟨⟨⟨List.mem_of_getElem? (i := 132) (by decide +kernel), by decide +kernel⟩, ⟨List.mem_of_getElem? (i := 1357) (by decide +kernel), by decide +kernel⟩, by decide +kernel⟩, ⟨List.mem_of_getElem? (i := 1355) (by decide +kernel), by decide +kernel⟩, ⟨List.mem_of_getElem? (i := 1356) (by decide +kernel), by decide +kernel⟩⟩
theorem km11_307 : inW (Cond.methodLink RX11 307 yX6_shortest) := ⟨List.mem_of_getElem? (i := 1354) (by decide +kernel), by decide +kernel⟩
theorem dX11_ring_7 : decode cX11_ring 7 = .ok (.ireturn, 1) := by decide +kernel
theorem dX11_allSeen_0 : decode cX11_allSeen 0 = .ok (.aload_n 0, 1) := by decide +kernel
theorem dX11_allSeen_1 : decode cX11_allSeen 1 = .ok (.getfield 75, 3) := by decide +kernel
theorem dX11_allSeen_4 : decode cX11_allSeen 4 = .ok (.invokevirtual 310, 3) := by decide +kernel
theorem cw_X0_fewestAsked : CWv yX0_fewestAsked cX0_fewestAsked 3 (some .int) 0 := ⟨⟨⟨List.mem_of_getElem? (i := 136) (by decide +kernel), by decide +kernel⟩, ⟨List.mem_of_getElem? (i := 1373) (by decide +kernel), by decide +kernel⟩, by decide +kernel⟩, ⟨List.mem_of_getElem? (i := 1371) (by decide +kernel), by decide +kernel⟩, ⟨List.mem_of_getElem? (i := 1372) (by decide +kernel), by decide +kernel⟩⟩
theorem km11_310 : inW (Cond.methodLink RX11 310 yX0_fewestAsked) := ⟨List.mem_of_getElem? (i := 1370) (by decide +kernel), by decide +kernel⟩
theorem dX11_allSeen_7 : decode cX11_allSeen 7 = .ok (.ireturn, 1) := by decide +kernel
theorem dX11_saw_0 : decode cX11_saw 0 = .ok (.iload_n 1, 1) := by decide +kernel
theorem dX11_saw_1 : decode cX11_saw 1 = .ok (.iconst (-1), 1) := by decide +kernel
theorem dX11_saw_2 : decode cX11_saw 2 = .ok (.if_icmp .ne 14, 3) := by decide +kernel
theorem dX11_saw_16 : decode cX11_saw 16 = .ok (.aload_n 0, 1) := by decide +kernel
theorem dX11_saw_17 : decode cX11_saw 17 = .ok (.getfield 13, 3) := by decide +kernel
theorem dX11_saw_20 : decode cX11_saw 20 = .ok (.iload_n 1, 1) := by decide +kernel
theorem dX11_saw_21 : decode cX11_saw 21 = .ok (.invokevirtual 192, 3) := by decide +kernel
theorem dX11_saw_24 : decode cX11_saw 24 = .ok (.ifCond .eq 19, 3) := by decide +kernel
theorem dX11_saw_43 : decode cX11_saw 43 = .ok (.bipush (-2), 2) := by decide +kernel
theorem dX11_saw_45 : decode cX11_saw 45 = .ok (.ireturn, 1) := by decide +kernel
theorem dX11_saw_27 : decode cX11_saw 27 = .ok (.aload_n 0, 1) := by decide +kernel
theorem dX11_saw_28 : decode cX11_saw 28 = .ok (.getfield 13, 3) := by decide +kernel
theorem dX11_saw_31 : decode cX11_saw 31 = .ok (.iload_n 2, 1) := by decide +kernel
theorem dX11_saw_32 : decode cX11_saw 32 = .ok (.invokevirtual 192, 3) := by decide +kernel
theorem dX11_saw_35 : decode cX11_saw 35 = .ok (.ifCond .eq 8, 3) := by decide +kernel
theorem dX11_saw_38 : decode cX11_saw 38 = .ok (.iload_n 1, 1) := by decide +kernel
theorem dX11_saw_39 : decode cX11_saw 39 = .ok (.iload_n 2, 1) := by decide +kernel
theorem dX11_saw_40 : decode cX11_saw 40 = .ok (.if_icmp .ne 6, 3) := by decide +kernel
theorem dX11_saw_46 : decode cX11_saw 46 = .ok (.aload_n 0, 1) := by decide +kernel
theorem dX11_saw_47 : decode cX11_saw 47 = .ok (.getfield 13, 3) := by decide +kernel
theorem dX11_saw_50 : decode cX11_saw 50 = .ok (.getfield 313, 3) := by decide +kernel
theorem kf11_313 : inW (Cond.fieldLinkNest RX11 313 "KneeOaths$World" "sights" "LKneeOaths$Told;" "KneeOaths") := ⟨List.mem_of_getElem? (i := 284) (by decide +kernel), by decide +kernel⟩
theorem dX11_saw_53 : decode cX11_saw 53 = .ok (.iload_n 1, 1) := by decide +kernel
theorem dX11_saw_54 : decode cX11_saw 54 = .ok (.iload_n 2, 1) := by decide +kernel
theorem dX11_saw_55 : decode cX11_saw 55 = .ok (.iconst 0, 1) := by decide +kernel
theorem dX11_saw_56 : decode cX11_saw 56 = .ok (.invokevirtual 258, 3) := by decide +kernel
theorem dX11_saw_59 : decode cX11_saw 59 = .ok (.ireturn, 1) := by decide +kernel
theorem dX11_saw_5 : decode cX11_saw 5 = .ok (.aload_n 0, 1) := by decide +kernel
theorem dX11_saw_6 : decode cX11_saw 6 = .ok (.getfield 13, 3) := by decide +kernel
theorem dX11_saw_9 : decode cX11_saw 9 = .ok (.getfield 313, 3) := by decide +kernel
theorem dX11_saw_12 : decode cX11_saw 12 = .ok (.invokevirtual 253, 3) := by decide +kernel
theorem dX11_saw_15 : decode cX11_saw 15 = .ok (.ireturn, 1) := by decide +kernel
theorem dX11_known_0 : decode cX11_known 0 = .ok (.aload_n 0, 1) := by decide +kernel
theorem dX11_known_1 : decode cX11_known 1 = .ok (.getfield 13, 3) := by decide +kernel
theorem dX11_known_4 : decode cX11_known 4 = .ok (.iload_n 1, 1) := by decide +kernel
theorem dX11_known_5 : decode cX11_known 5 = .ok (.invokevirtual 192, 3) := by decide +kernel
theorem dX11_known_8 : decode cX11_known 8 = .ok (.ifCond .eq 14, 3) := by decide +kernel
theorem dX11_known_22 : decode cX11_known 22 = .ok (.iconst (-1), 1) := by decide +kernel
theorem dX11_known_23 : decode cX11_known 23 = .ok (.ireturn, 1) := by decide +kernel
theorem dX11_known_11 : decode cX11_known 11 = .ok (.aload_n 0, 1) := by decide +kernel
theorem dX11_known_12 : decode cX11_known 12 = .ok (.getfield 75, 3) := by decide +kernel
theorem dX11_known_15 : decode cX11_known 15 = .ok (.iload_n 1, 1) := by decide +kernel
theorem dX11_known_16 : decode cX11_known 16 = .ok (.invokevirtual 316, 3) := by decide +kernel
theorem km11_316 : inW (Cond.methodLink RX11 316 yX0_wordsOf) := ⟨List.mem_of_getElem? (i := 1387) (by decide +kernel), by decide +kernel⟩
theorem dX11_known_19 : decode cX11_known 19 = .ok (.goto 4, 3) := by decide +kernel
theorem dX11_together_0 : decode cX11_together 0 = .ok (.aload_n 0, 1) := by decide +kernel
theorem dX11_together_1 : decode cX11_together 1 = .ok (.getfield 75, 3) := by decide +kernel
theorem dX11_together_4 : decode cX11_together 4 = .ok (.invokevirtual 319, 3) := by decide +kernel
theorem cw_X0_fewestKnowing : CWv yX0_fewestKnowing cX0_fewestKnowing 4 (some .int) 0 := ⟨⟨⟨List.mem_of_getElem? (i := 136) (by decide +kernel), by decide +kernel⟩, ⟨List.mem_of_getElem? (i := 1398) (by decide +kernel), by decide +kernel⟩, by decide +kernel⟩, ⟨List.mem_of_getElem? (i := 1396) (by decide +kernel), by decide +kernel⟩, ⟨List.mem_of_getElem? (i := 1397) (by decide +kernel), by decide +kernel⟩⟩
theorem km11_319 : inW (Cond.methodLink RX11 319 yX0_fewestKnowing) := ⟨List.mem_of_getElem? (i := 1395) (by decide +kernel), by decide +kernel⟩
theorem dX11_together_7 : decode cX11_together 7 = .ok (.ireturn, 1) := by decide +kernel
theorem dX11_copy_0 : decode cX11_copy 0 = .ok (.aload_n 0, 1) := by decide +kernel
theorem dX11_copy_1 : decode cX11_copy 1 = .ok (.getfield 13, 3) := by decide +kernel
theorem dX11_copy_4 : decode cX11_copy 4 = .ok (.getfield 131, 3) := by decide +kernel
theorem dX11_copy_7 : decode cX11_copy 7 = .ok (.iload_n 1, 1) := by decide +kernel
theorem dX11_copy_8 : decode cX11_copy 8 = .ok (.invokevirtual 322, 3) := by decide +kernel
theorem km11_322 : inW (Cond.methodLink RX11 322 yX4_unreleased) := ⟨List.mem_of_getElem? (i := 1408) (by decide +kernel), by decide +kernel⟩
theorem dX11_copy_11 : decode cX11_copy 11 = .ok (.ifCond .eq 24, 3) := by decide +kernel
theorem dX11_copy_35 : decode cX11_copy 35 = .ok (.ldc_w 325, 3) := by decide +kernel
theorem kk11_325 : inW (Cond.constant RX11 325 (-100000)) := ⟨List.mem_of_getElem? (i := 1409) (by decide +kernel), by decide +kernel⟩
theorem dX11_copy_38 : decode cX11_copy 38 = .ok (.ireturn, 1) := by decide +kernel
theorem dX11_copy_14 : decode cX11_copy 14 = .ok (.iload_n 2, 1) := by decide +kernel
theorem dX11_copy_15 : decode cX11_copy 15 = .ok (.iconst 0, 1) := by decide +kernel
theorem dX11_copy_16 : decode cX11_copy 16 = .ok (.bipush 99, 2) := by decide +kernel
theorem dX11_copy_18 : decode cX11_copy 18 = .ok (.invokestatic 146, 3) := by decide +kernel
theorem dX11_copy_21 : decode cX11_copy 21 = .ok (.ifCond .eq 14, 3) := by decide +kernel
theorem dX11_copy_24 : decode cX11_copy 24 = .ok (.iload_n 3, 1) := by decide +kernel
theorem dX11_copy_25 : decode cX11_copy 25 = .ok (.iconst 0, 1) := by decide +kernel
theorem dX11_copy_26 : decode cX11_copy 26 = .ok (.sipush 9999, 3) := by decide +kernel
theorem dX11_copy_29 : decode cX11_copy 29 = .ok (.invokestatic 146, 3) := by decide +kernel
theorem dX11_copy_32 : decode cX11_copy 32 = .ok (.ifCond .ne 7, 3) := by decide +kernel
theorem dX11_copy_39 : decode cX11_copy 39 = .ok (.aload_n 0, 1) := by decide +kernel
theorem dX11_copy_40 : decode cX11_copy 40 = .ok (.getfield 59, 3) := by decide +kernel
theorem dX11_copy_43 : decode cX11_copy 43 = .ok (.iload_n 1, 1) := by decide +kernel
theorem dX11_copy_44 : decode cX11_copy 44 = .ok (.invokevirtual 246, 3) := by decide +kernel
theorem dX11_copy_47 : decode cX11_copy 47 = .ok (.istore 5, 2) := by decide +kernel
theorem dX11_copy_49 : decode cX11_copy 49 = .ok (.iconst 0, 1) := by decide +kernel
theorem dX11_copy_50 : decode cX11_copy 50 = .ok (.istore 6, 2) := by decide +kernel
theorem dX11_copy_52 : decode cX11_copy 52 = .ok (.iconst 0, 1) := by decide +kernel
theorem dX11_copy_53 : decode cX11_copy 53 = .ok (.istore 7, 2) := by decide +kernel
theorem dX11_copy_55 : decode cX11_copy 55 = .ok (.iconst 0, 1) := by decide +kernel
theorem dX11_copy_56 : decode cX11_copy 56 = .ok (.istore 8, 2) := by decide +kernel
theorem dX11_copy_58 : decode cX11_copy 58 = .ok (.iload 8, 2) := by decide +kernel
theorem dX11_copy_60 : decode cX11_copy 60 = .ok (.bipush 60, 2) := by decide +kernel
theorem dX11_copy_62 : decode cX11_copy 62 = .ok (.if_icmp .gt 54, 3) := by decide +kernel
theorem dX11_copy_65 : decode cX11_copy 65 = .ok (.iload 5, 2) := by decide +kernel
theorem dX11_copy_67 : decode cX11_copy 67 = .ok (.iconst (-1), 1) := by decide +kernel
theorem dX11_copy_68 : decode cX11_copy 68 = .ok (.if_icmp .eq 14, 3) := by decide +kernel
theorem dX11_copy_82 : decode cX11_copy 82 = .ok (.iconst 0, 1) := by decide +kernel
theorem dX11_copy_83 : decode cX11_copy 83 = .ok (.iload_n 2, 1) := by decide +kernel
theorem dX11_copy_84 : decode cX11_copy 84 = .ok (.iload 8, 2) := by decide +kernel
theorem dX11_copy_86 : decode cX11_copy 86 = .ok (.imul, 1) := by decide +kernel
theorem dX11_copy_87 : decode cX11_copy 87 = .ok (.isub, 1) := by decide +kernel
theorem dX11_copy_88 : decode cX11_copy 88 = .ok (.istore 9, 2) := by decide +kernel
theorem dX11_copy_90 : decode cX11_copy 90 = .ok (.iload 8, 2) := by decide +kernel
theorem dX11_copy_92 : decode cX11_copy 92 = .ok (.ifCond .eq 10, 3) := by decide +kernel
theorem dX11_copy_102 : decode cX11_copy 102 = .ok (.iload 8, 2) := by decide +kernel
theorem dX11_copy_104 : decode cX11_copy 104 = .ok (.istore 6, 2) := by decide +kernel
theorem dX11_copy_106 : decode cX11_copy 106 = .ok (.iload 9, 2) := by decide +kernel
theorem dX11_copy_108 : decode cX11_copy 108 = .ok (.istore 7, 2) := by decide +kernel
theorem dX11_copy_110 : decode cX11_copy 110 = .ok (.iinc 8 1, 3) := by decide +kernel
theorem dX11_copy_113 : decode cX11_copy 113 = .ok (.goto (-55), 3) := by decide +kernel
theorem dX11_copy_95 : decode cX11_copy 95 = .ok (.iload 9, 2) := by decide +kernel
theorem dX11_copy_97 : decode cX11_copy 97 = .ok (.iload 7, 2) := by decide +kernel
theorem dX11_copy_99 : decode cX11_copy 99 = .ok (.if_icmp .ge 11, 3) := by decide +kernel
theorem dX11_copy_71 : decode cX11_copy 71 = .ok (.iload 5, 2) := by decide +kernel
theorem dX11_copy_73 : decode cX11_copy 73 = .ok (.iload 8, 2) := by decide +kernel
theorem dX11_copy_75 : decode cX11_copy 75 = .ok (.if_icmp .gt 7, 3) := by decide +kernel
theorem dX11_copy_78 : decode cX11_copy 78 = .ok (.iload_n 3, 1) := by decide +kernel
theorem dX11_copy_79 : decode cX11_copy 79 = .ok (.goto 4, 3) := by decide +kernel
theorem dX11_copy_116 : decode cX11_copy 116 = .ok (.iload 4, 2) := by decide +kernel
theorem dX11_copy_118 : decode cX11_copy 118 = .ok (.ifCond .eq 8, 3) := by decide +kernel
theorem dX11_copy_126 : decode cX11_copy 126 = .ok (.iload 6, 2) := by decide +kernel
theorem dX11_copy_128 : decode cX11_copy 128 = .ok (.ireturn, 1) := by decide +kernel
theorem dX11_copy_121 : decode cX11_copy 121 = .ok (.iload 7, 2) := by decide +kernel
theorem dX11_copy_123 : decode cX11_copy 123 = .ok (.goto 5, 3) := by decide +kernel
theorem dX11_worn_0 : decode cX11_worn 0 = .ok (.iload_n 1, 1) := by decide +kernel
theorem dX11_worn_1 : decode cX11_worn 1 = .ok (.iconst (-1), 1) := by decide +kernel
theorem dX11_worn_2 : decode cX11_worn 2 = .ok (.if_icmp .ne 14, 3) := by decide +kernel
theorem dX11_worn_16 : decode cX11_worn 16 = .ok (.aload_n 0, 1) := by decide +kernel
theorem dX11_worn_17 : decode cX11_worn 17 = .ok (.getfield 13, 3) := by decide +kernel
theorem dX11_worn_20 : decode cX11_worn 20 = .ok (.getfield 131, 3) := by decide +kernel
theorem dX11_worn_23 : decode cX11_worn 23 = .ok (.iload_n 1, 1) := by decide +kernel
theorem dX11_worn_24 : decode cX11_worn 24 = .ok (.invokevirtual 211, 3) := by decide +kernel
theorem dX11_worn_27 : decode cX11_worn 27 = .ok (.ifCond .eq 13, 3) := by decide +kernel
theorem dX11_worn_40 : decode cX11_worn 40 = .ok (.bipush (-2), 2) := by decide +kernel
theorem dX11_worn_42 : decode cX11_worn 42 = .ok (.ireturn, 1) := by decide +kernel
theorem dX11_worn_30 : decode cX11_worn 30 = .ok (.iload_n 2, 1) := by decide +kernel
theorem dX11_worn_31 : decode cX11_worn 31 = .ok (.iconst 0, 1) := by decide +kernel
theorem dX11_worn_32 : decode cX11_worn 32 = .ok (.bipush 99, 2) := by decide +kernel
theorem dX11_worn_34 : decode cX11_worn 34 = .ok (.invokestatic 146, 3) := by decide +kernel
theorem dX11_worn_37 : decode cX11_worn 37 = .ok (.ifCond .ne 6, 3) := by decide +kernel
theorem dX11_worn_43 : decode cX11_worn 43 = .ok (.aload_n 0, 1) := by decide +kernel
theorem dX11_worn_44 : decode cX11_worn 44 = .ok (.getfield 13, 3) := by decide +kernel
theorem dX11_worn_47 : decode cX11_worn 47 = .ok (.getfield 326, 3) := by decide +kernel
theorem kf11_326 : inW (Cond.fieldLinkNest RX11 326 "KneeOaths$World" "wearings" "LKneeOaths$Told;" "KneeOaths") := ⟨List.mem_of_getElem? (i := 287) (by decide +kernel), by decide +kernel⟩
theorem dX11_worn_50 : decode cX11_worn 50 = .ok (.iload_n 1, 1) := by decide +kernel
theorem dX11_worn_51 : decode cX11_worn 51 = .ok (.iload_n 2, 1) := by decide +kernel
theorem dX11_worn_52 : decode cX11_worn 52 = .ok (.iconst 0, 1) := by decide +kernel
theorem dX11_worn_53 : decode cX11_worn 53 = .ok (.invokevirtual 258, 3) := by decide +kernel
theorem dX11_worn_56 : decode cX11_worn 56 = .ok (.ireturn, 1) := by decide +kernel
theorem dX11_worn_5 : decode cX11_worn 5 = .ok (.aload_n 0, 1) := by decide +kernel
theorem dX11_worn_6 : decode cX11_worn 6 = .ok (.getfield 13, 3) := by decide +kernel
theorem dX11_worn_9 : decode cX11_worn 9 = .ok (.getfield 326, 3) := by decide +kernel
theorem dX11_worn_12 : decode cX11_worn 12 = .ok (.invokevirtual 253, 3) := by decide +kernel
theorem dX11_worn_15 : decode cX11_worn 15 = .ok (.ireturn, 1) := by decide +kernel
theorem dX11_whose_0 : decode cX11_whose 0 = .ok (.iconst 0, 1) := by decide +kernel
theorem dX11_whose_1 : decode cX11_whose 1 = .ok (.istore_n 1, 1) := by decide +kernel
theorem dX11_whose_2 : decode cX11_whose 2 = .ok (.iconst 0, 1) := by decide +kernel
theorem dX11_whose_3 : decode cX11_whose 3 = .ok (.istore_n 2, 1) := by decide +kernel
theorem dX11_whose_4 : decode cX11_whose 4 = .ok (.iload_n 2, 1) := by decide +kernel
theorem dX11_whose_5 : decode cX11_whose 5 = .ok (.aload_n 0, 1) := by decide +kernel
theorem dX11_whose_6 : decode cX11_whose 6 = .ok (.getfield 13, 3) := by decide +kernel
theorem dX11_whose_9 : decode cX11_whose 9 = .ok (.getfield 329, 3) := by decide +kernel
theorem kf11_329 : inW (Cond.fieldLinkNest RX11 329 "KneeOaths$World" "textCount" "I" "KneeOaths") := ⟨List.mem_of_getElem? (i := 294) (by decide +kernel), by decide +kernel⟩
theorem dX11_whose_12 : decode cX11_whose 12 = .ok (.if_icmp .ge 26, 3) := by decide +kernel
theorem dX11_whose_38 : decode cX11_whose 38 = .ok (.iload_n 1, 1) := by decide +kernel
theorem dX11_whose_39 : decode cX11_whose 39 = .ok (.ireturn, 1) := by decide +kernel
theorem dX11_whose_15 : decode cX11_whose 15 = .ok (.aload_n 0, 1) := by decide +kernel
theorem dX11_whose_16 : decode cX11_whose 16 = .ok (.getfield 34, 3) := by decide +kernel
theorem dX11_whose_19 : decode cX11_whose 19 = .ok (.iload_n 2, 1) := by decide +kernel
theorem dX11_whose_20 : decode cX11_whose 20 = .ok (.invokevirtual 332, 3) := by decide +kernel
theorem cw_X3_explains : CWv yX3_explains cX3_explains 4 (some .boolean) 1 := ⟨⟨⟨List.mem_of_getElem? (i := 131) (by decide +kernel), by decide +kernel⟩, ⟨List.mem_of_getElem? (i := 1421) (by decide +kernel), by decide +kernel⟩, by decide +kernel⟩, ⟨List.mem_of_getElem? (i := 1419) (by decide +kernel), by decide +kernel⟩, ⟨List.mem_of_getElem? (i := 1420) (by decide +kernel), by decide +kernel⟩⟩
theorem km11_332 : inW (Cond.methodLink RX11 332 yX3_explains) := ⟨List.mem_of_getElem? (i := 1418) (by decide +kernel), by decide +kernel⟩
theorem dX11_whose_23 : decode cX11_whose 23 = .ok (.ifCond .eq 9, 3) := by decide +kernel
theorem dX11_whose_32 : decode cX11_whose 32 = .ok (.iinc 2 1, 3) := by decide +kernel
theorem dX11_whose_35 : decode cX11_whose 35 = .ok (.goto (-31), 3) := by decide +kernel
theorem dX11_whose_26 : decode cX11_whose 26 = .ok (.iload_n 1, 1) := by decide +kernel
theorem dX11_whose_27 : decode cX11_whose 27 = .ok (.iconst 1, 1) := by decide +kernel
theorem dX11_whose_28 : decode cX11_whose 28 = .ok (.iload_n 2, 1) := by decide +kernel
theorem dX11_whose_29 : decode cX11_whose 29 = .ok (.ishl, 1) := by decide +kernel
theorem dX11_whose_30 : decode cX11_whose 30 = .ok (.ior, 1) := by decide +kernel
theorem dX11_whose_31 : decode cX11_whose 31 = .ok (.istore_n 1, 1) := by decide +kernel
theorem dX11_mostSworn_0 : decode cX11_mostSworn 0 = .ok (.aload_n 0, 1) := by decide +kernel
theorem dX11_mostSworn_1 : decode cX11_mostSworn 1 = .ok (.getfield 75, 3) := by decide +kernel
theorem dX11_mostSworn_4 : decode cX11_mostSworn 4 = .ok (.invokevirtual 335, 3) := by decide +kernel
theorem cw_X0_mostOften : CWv yX0_mostOften cX0_mostOften 5 (some .int) 0 := ⟨⟨⟨List.mem_of_getElem? (i := 136) (by decide +kernel), by decide +kernel⟩, ⟨List.mem_of_getElem? (i := 1432) (by decide +kernel), by decide +kernel⟩, by decide +kernel⟩, ⟨List.mem_of_getElem? (i := 1430) (by decide +kernel), by decide +kernel⟩, ⟨List.mem_of_getElem? (i := 1431) (by decide +kernel), by decide +kernel⟩⟩
theorem km11_335 : inW (Cond.methodLink RX11 335 yX0_mostOften) := ⟨List.mem_of_getElem? (i := 1429) (by decide +kernel), by decide +kernel⟩
theorem dX11_mostSworn_7 : decode cX11_mostSworn 7 = .ok (.ireturn, 1) := by decide +kernel
theorem dX11_faithful_0 : decode cX11_faithful 0 = .ok (.aload_n 0, 1) := by decide +kernel
theorem dX11_faithful_1 : decode cX11_faithful 1 = .ok (.getfield 75, 3) := by decide +kernel
theorem dX11_faithful_4 : decode cX11_faithful 4 = .ok (.invokevirtual 338, 3) := by decide +kernel
theorem cw_X0_unbroken : CWv yX0_unbroken cX0_unbroken 3 (some .int) 0 := ⟨⟨⟨List.mem_of_getElem? (i := 136) (by decide +kernel), by decide +kernel⟩, ⟨List.mem_of_getElem? (i := 1444) (by decide +kernel), by decide +kernel⟩, by decide +kernel⟩, ⟨List.mem_of_getElem? (i := 1442) (by decide +kernel), by decide +kernel⟩, ⟨List.mem_of_getElem? (i := 1443) (by decide +kernel), by decide +kernel⟩⟩
theorem km11_338 : inW (Cond.methodLink RX11 338 yX0_unbroken) := ⟨List.mem_of_getElem? (i := 1441) (by decide +kernel), by decide +kernel⟩
theorem dX11_faithful_7 : decode cX11_faithful 7 = .ok (.ireturn, 1) := by decide +kernel
theorem dX11_ached_0 : decode cX11_ached 0 = .ok (.iload_n 1, 1) := by decide +kernel
theorem dX11_ached_1 : decode cX11_ached 1 = .ok (.iconst (-1), 1) := by decide +kernel
theorem dX11_ached_2 : decode cX11_ached 2 = .ok (.if_icmp .eq 17, 3) := by decide +kernel
theorem dX11_ached_19 : decode cX11_ached 19 = .ok (.aload_n 0, 1) := by decide +kernel
theorem dX11_ached_20 : decode cX11_ached 20 = .ok (.getfield 13, 3) := by decide +kernel
theorem dX11_ached_23 : decode cX11_ached 23 = .ok (.getfield 131, 3) := by decide +kernel
theorem dX11_ached_26 : decode cX11_ached 26 = .ok (.iload_n 1, 1) := by decide +kernel
theorem dX11_ached_27 : decode cX11_ached 27 = .ok (.invokevirtual 341, 3) := by decide +kernel
theorem cw_X4_writtenOf : CWv yX4_writtenOf cX4_writtenOf 4 (some .int) 1 := ⟨⟨⟨List.mem_of_getElem? (i := 125) (by decide +kernel), by decide +kernel⟩, ⟨List.mem_of_getElem? (i := 1452) (by decide +kernel), by decide +kernel⟩, by decide +kernel⟩, ⟨List.mem_of_getElem? (i := 1450) (by decide +kernel), by decide +kernel⟩, ⟨List.mem_of_getElem? (i := 1451) (by decide +kernel), by decide +kernel⟩⟩
theorem km11_341 : inW (Cond.methodLink RX11 341 yX4_writtenOf) := ⟨List.mem_of_getElem? (i := 1449) (by decide +kernel), by decide +kernel⟩
theorem dX11_ached_30 : decode cX11_ached 30 = .ok (.ireturn, 1) := by decide +kernel
theorem dX11_ached_5 : decode cX11_ached 5 = .ok (.aload_n 0, 1) := by decide +kernel
theorem dX11_ached_6 : decode cX11_ached 6 = .ok (.getfield 13, 3) := by decide +kernel
theorem dX11_ached_9 : decode cX11_ached 9 = .ok (.iload_n 1, 1) := by decide +kernel
theorem dX11_ached_10 : decode cX11_ached 10 = .ok (.invokevirtual 192, 3) := by decide +kernel
theorem dX11_ached_13 : decode cX11_ached 13 = .ok (.ifCond .ne 6, 3) := by decide +kernel
theorem dX11_ached_16 : decode cX11_ached 16 = .ok (.bipush (-2), 2) := by decide +kernel
theorem dX11_ached_18 : decode cX11_ached 18 = .ok (.ireturn, 1) := by decide +kernel
theorem dX11_worstDay_0 : decode cX11_worstDay 0 = .ok (.aload_n 0, 1) := by decide +kernel
theorem dX11_worstDay_1 : decode cX11_worstDay 1 = .ok (.getfield 13, 3) := by decide +kernel
theorem dX11_worstDay_4 : decode cX11_worstDay 4 = .ok (.getfield 131, 3) := by decide +kernel
theorem dX11_worstDay_7 : decode cX11_worstDay 7 = .ok (.invokevirtual 344, 3) := by decide +kernel
theorem cw_X4_dayOfMost : CWv yX4_dayOfMost cX4_dayOfMost 4 (some .int) 0 := ⟨⟨⟨List.mem_of_getElem? (i := 125) (by decide +kernel), by decide +kernel⟩, ⟨List.mem_of_getElem? (i := 1461) (by decide +kernel), by decide +kernel⟩, by decide +kernel⟩, ⟨List.mem_of_getElem? (i := 1459) (by decide +kernel), by decide +kernel⟩, ⟨List.mem_of_getElem? (i := 1460) (by decide +kernel), by decide +kernel⟩⟩
theorem km11_344 : inW (Cond.methodLink RX11 344 yX4_dayOfMost) := ⟨List.mem_of_getElem? (i := 1458) (by decide +kernel), by decide +kernel⟩
theorem dX11_worstDay_10 : decode cX11_worstDay 10 = .ok (.ireturn, 1) := by decide +kernel
theorem dX11_about_0 : decode cX11_about 0 = .ok (.iload_n 1, 1) := by decide +kernel
theorem dX11_about_1 : decode cX11_about 1 = .ok (.tableswitch 150 0 9 #[55, 63, 71, 79, 87, 98, 109, 120, 131, 142], 55) := by decide +kernel
theorem sw_0_9 (x : Int32) : x = 0 ∨ x = 1 ∨ x = 2 ∨ x = 3 ∨ x = 4 ∨ x = 5 ∨ x = 6 ∨ x = 7 ∨ x = 8 ∨ x = 9 ∨ (x.toInt < 0 ∨ 9 < x.toInt) := by
  have key : ∀ k : Int32, x.toInt = k.toInt → x = k := fun k h => Int32.toInt_inj.mp h
  by_cases h1 : x.toInt < 0
  · simp [h1]
  by_cases h2 : 9 < x.toInt
  · simp [h2]
  have h3 : x.toInt = 0 ∨ x.toInt = 1 ∨ x.toInt = 2 ∨ x.toInt = 3 ∨ x.toInt = 4 ∨ x.toInt = 5 ∨ x.toInt = 6 ∨ x.toInt = 7 ∨ x.toInt = 8 ∨ x.toInt = 9 := by omega
  rcases h3 with h | h | h | h | h | h | h | h | h | h
  · rw [key 0 (h.trans (by decide))]; decide
  · rw [key 1 (h.trans (by decide))]; decide
  · rw [key 2 (h.trans (by decide))]; decide
  · rw [key 3 (h.trans (by decide))]; decide
  · rw [key 4 (h.trans (by decide))]; decide
  · rw [key 5 (h.trans (by decide))]; decide
  · rw [key 6 (h.trans (by decide))]; decide
  · rw [key 7 (h.trans (by decide))]; decide
  · rw [key 8 (h.trans (by decide))]; decide
  · rw [key 9 (h.trans (by decide))]; decide
theorem dX11_about_56 : decode cX11_about 56 = .ok (.aload_n 0, 1) := by decide +kernel
theorem dX11_about_57 : decode cX11_about 57 = .ok (.getfield 13, 3) := by decide +kernel
theorem dX11_about_60 : decode cX11_about 60 = .ok (.getfield 174, 3) := by decide +kernel
theorem dX11_about_63 : decode cX11_about 63 = .ok (.ireturn, 1) := by decide +kernel
theorem dX11_about_64 : decode cX11_about 64 = .ok (.aload_n 0, 1) := by decide +kernel
theorem dX11_about_65 : decode cX11_about 65 = .ok (.getfield 13, 3) := by decide +kernel
theorem dX11_about_68 : decode cX11_about 68 = .ok (.getfield 329, 3) := by decide +kernel
theorem dX11_about_71 : decode cX11_about 71 = .ok (.ireturn, 1) := by decide +kernel
theorem dX11_about_72 : decode cX11_about 72 = .ok (.aload_n 0, 1) := by decide +kernel
theorem dX11_about_73 : decode cX11_about 73 = .ok (.getfield 13, 3) := by decide +kernel
theorem dX11_about_76 : decode cX11_about 76 = .ok (.getfield 212, 3) := by decide +kernel
theorem dX11_about_79 : decode cX11_about 79 = .ok (.ireturn, 1) := by decide +kernel
theorem dX11_about_80 : decode cX11_about 80 = .ok (.aload_n 0, 1) := by decide +kernel
theorem dX11_about_81 : decode cX11_about 81 = .ok (.getfield 13, 3) := by decide +kernel
theorem dX11_about_84 : decode cX11_about 84 = .ok (.getfield 189, 3) := by decide +kernel
theorem dX11_about_87 : decode cX11_about 87 = .ok (.ireturn, 1) := by decide +kernel
theorem dX11_about_88 : decode cX11_about 88 = .ok (.aload_n 0, 1) := by decide +kernel
theorem dX11_about_89 : decode cX11_about 89 = .ok (.getfield 13, 3) := by decide +kernel
theorem dX11_about_92 : decode cX11_about 92 = .ok (.getfield 249, 3) := by decide +kernel
theorem dX11_about_95 : decode cX11_about 95 = .ok (.getfield 350, 3) := by decide +kernel
theorem kf11_350 : inW (Cond.fieldLinkNest RX11 350 "KneeOaths$Told" "count" "I" "KneeOaths") := ⟨List.mem_of_getElem? (i := 224) (by decide +kernel), by decide +kernel⟩
theorem dX11_about_98 : decode cX11_about 98 = .ok (.ireturn, 1) := by decide +kernel
theorem dX11_about_99 : decode cX11_about 99 = .ok (.aload_n 0, 1) := by decide +kernel
theorem dX11_about_100 : decode cX11_about 100 = .ok (.getfield 13, 3) := by decide +kernel
theorem dX11_about_103 : decode cX11_about 103 = .ok (.getfield 284, 3) := by decide +kernel
theorem dX11_about_106 : decode cX11_about 106 = .ok (.getfield 350, 3) := by decide +kernel
theorem dX11_about_109 : decode cX11_about 109 = .ok (.ireturn, 1) := by decide +kernel
theorem dX11_about_110 : decode cX11_about 110 = .ok (.aload_n 0, 1) := by decide +kernel
theorem dX11_about_111 : decode cX11_about 111 = .ok (.getfield 13, 3) := by decide +kernel
theorem dX11_about_114 : decode cX11_about 114 = .ok (.getfield 293, 3) := by decide +kernel
theorem kf11_293 : inW (Cond.fieldLinkNest RX11 293 "KneeOaths$World" "words" "LKneeOaths$Told;" "KneeOaths") := ⟨List.mem_of_getElem? (i := 281) (by decide +kernel), by decide +kernel⟩
theorem dX11_about_117 : decode cX11_about 117 = .ok (.getfield 350, 3) := by decide +kernel
theorem dX11_about_120 : decode cX11_about 120 = .ok (.ireturn, 1) := by decide +kernel
theorem dX11_about_121 : decode cX11_about 121 = .ok (.aload_n 0, 1) := by decide +kernel
theorem dX11_about_122 : decode cX11_about 122 = .ok (.getfield 13, 3) := by decide +kernel
theorem dX11_about_125 : decode cX11_about 125 = .ok (.getfield 313, 3) := by decide +kernel
theorem dX11_about_128 : decode cX11_about 128 = .ok (.getfield 350, 3) := by decide +kernel
theorem dX11_about_131 : decode cX11_about 131 = .ok (.ireturn, 1) := by decide +kernel
theorem dX11_about_132 : decode cX11_about 132 = .ok (.aload_n 0, 1) := by decide +kernel
theorem dX11_about_133 : decode cX11_about 133 = .ok (.getfield 13, 3) := by decide +kernel
theorem dX11_about_136 : decode cX11_about 136 = .ok (.getfield 326, 3) := by decide +kernel
theorem dX11_about_139 : decode cX11_about 139 = .ok (.getfield 350, 3) := by decide +kernel
theorem dX11_about_142 : decode cX11_about 142 = .ok (.ireturn, 1) := by decide +kernel
theorem dX11_about_143 : decode cX11_about 143 = .ok (.aload_n 0, 1) := by decide +kernel
theorem dX11_about_144 : decode cX11_about 144 = .ok (.getfield 25, 3) := by decide +kernel
theorem dX11_about_147 : decode cX11_about 147 = .ok (.invokevirtual 91, 3) := by decide +kernel
theorem dX11_about_150 : decode cX11_about 150 = .ok (.ireturn, 1) := by decide +kernel
theorem dX11_about_151 : decode cX11_about 151 = .ok (.bipush (-2), 2) := by decide +kernel
theorem dX11_about_153 : decode cX11_about 153 = .ok (.ireturn, 1) := by decide +kernel
def ZZp (w : Nat → Int × Int) (q : Nat → (Nat → Int32) → Prop) : Prop := ∀ j, j < 10 → j ≠ 2 → j ≠ 7 → ((w j).1 ≤ 0 ∧ 8 ≤ (w j).2) ∧ ∀ g, q j g
set_option maxHeartbeats 4000000 in
set_option maxRecDepth 100000 in
theorem x_X11_one {l : Launch} {G : GG}  {L : List Nat} {f : HF} {ad : Nat → Nat → Nat} {tc w : Nat → Int × Int} {q : Nat → (Nat → Int32) → Prop} {i1 i2 : Int32} (I : SH (spC (NR 30 0 4) ((0, 6) : Int × Int) tc w q) nnC G ad L f) (hW : WBp w 8) (hT : WBp tc 4) (hQ : QIp q) (hZ : ZZp w q) (hE : ∀ j, (tc j).1 = (tc j).2) : PMi l yX11_one cX11_one 3 .int 2 0 0 G [.ref (ad 0 0), .int i1, .int i2] L f (fun r L1 f1 => SH (spC (NR 30 0 4) ((0, 6) : Int × Int) tc w q) nnC G ad L1 f1) := by
  refine PMi.of (post := fun r L1 f1 => SH (spC (NR 30 0 4) ((0, 6) : Int × Int) tc w q) nnC G ad L1 f1) (own := RX11) (by decide) rfl (Nat.le_of_ble_eq_true rfl) (fun sz p e s m args below meth c A ls hA1 hname S Y hl => ?_)
  have hx := S.hx
  have hb := S.hb
  have hl : lv_has ls 3 [(0, .ref (ad 0 0)), (1, .int i1), (2, .int i2)] := hl
  refine lv_aload_n hx hb dX11_one_0 rfl (lv_at hl 0 rfl) ?_
  have p_ad_0_0 := opnC_0 (j := 0) I (by decide)
  have p_ad_0_0 : pt L f (ad 0 0) (.inr (11, [.ref (ad 1 0), .ref (ad 1 1), .ref (ad 2 0), .ref (ad 3 0), .ref (ad 4 0), .ref (ad 5 0), .ref (ad 6 0), .ref (ad 7 0), .ref (ad 8 0)])) := p_ad_0_0
  refine pg_get S Y ok_X11 0 (by decide) kf11_13 (v := .ref (ad 1 0)) p_ad_0_0 rfl dX11_one_1 ?_
  refine lv_iload_n hx hb dX11_one_4 rfl (lv_at hl 1 rfl) ?_
  refine lv_iload_n hx hb dX11_one_5 rfl (lv_at hl 2 rfl) ?_
  refine cVi (As := [.int i1, .int i2]) (rest := []) S Y (x_X10_welcome (l := l) I hW hT hQ) cw_X10_welcome km11_79 (I.opo (k := 1) (j := 0) (by decide) rfl).choose_spec.1 ok_X10.1 rfl rfl ⟨Nat.le_of_ble_eq_true rfl, Nat.le_of_ble_eq_true rfl⟩ hl.1 rfl (Nat.le_of_ble_eq_true rfl) ⟨Nat.le_of_ble_eq_true rfl, Nat.le_of_ble_eq_true rfl⟩ dX11_one_6 (fun r_71540 L_71538 f_71539 H locs I Y => ?_)
  exact prI (post := fun r L1 f1 => SH (spC (NR 30 0 4) ((0, 6) : Int × Int) tc w q) nnC G ad L1 f1) S Y rfl (by decide) (by decide) hA1 I dX11_one_9
set_option maxHeartbeats 4000000 in
set_option maxRecDepth 100000 in
theorem x_X11_feed {l : Launch} {G : GG}  {L : List Nat} {f : HF} {ad : Nat → Nat → Nat} {tc w : Nat → Int × Int} {q : Nat → (Nat → Int32) → Prop} {i1 i2 i3 i4 i5 : Int32} (I : SH (spC (NR 30 0 4) ((0, 6) : Int × Int) tc w q) nnC G ad L f) (hW : WBp w 8) (hT : WBp tc 4) (hQ : QIp q) (hZ : ZZp w q) (hE : ∀ j, (tc j).1 = (tc j).2) : PMi l yX11_feed cX11_feed 6 .int 1 0 0 G [.ref (ad 0 0), .int i1, .int i2, .int i3, .int i4, .int i5] L f (fun r L1 f1 => SH (spC (NR 30 0 4) ((0, 6) : Int × Int) tc w q) nnC G ad L1 f1) := by
  refine PMi.of (post := fun r L1 f1 => SH (spC (NR 30 0 4) ((0, 6) : Int × Int) tc w q) nnC G ad L1 f1) (own := RX11) (by decide) rfl (Nat.le_of_ble_eq_true rfl) (fun sz p e s m args below meth c A ls hA1 hname S Y hl => ?_)
  have hx := S.hx
  have hb := S.hb
  have hl : lv_has ls 6 [(0, .ref (ad 0 0)), (1, .int i1), (2, .int i2), (3, .int i3), (4, .int i4), (5, .int i5)] := hl
  refine lv_aload_n hx hb dX11_feed_0 rfl (lv_at hl 0 rfl) ?_
  have p_ad_0_0 := opnC_0 (j := 0) I (by decide)
  have p_ad_0_0 : pt L f (ad 0 0) (.inr (11, [.ref (ad 1 0), .ref (ad 1 1), .ref (ad 2 0), .ref (ad 3 0), .ref (ad 4 0), .ref (ad 5 0), .ref (ad 6 0), .ref (ad 7 0), .ref (ad 8 0)])) := p_ad_0_0
  refine pg_get S Y ok_X11 2 (by decide) kf11_25 (v := .ref (ad 2 0)) p_ad_0_0 rfl dX11_feed_1 ?_
  refine lv_bipush (v := 20) hx hb dX11_feed_4 (by decide) ?_
  refine cVp (As := [.int 20]) (rest := []) S Y (x_X5_hasRoomFor (l := l) I hW hT hQ) cw_X5_hasRoomFor km11_83 (I.opo (k := 2) (j := 0) (by decide) rfl).choose_spec.1 ok_X5.1 rfl rfl ⟨Nat.le_of_ble_eq_true rfl, Nat.le_of_ble_eq_true rfl⟩ hl.1 rfl (Nat.le_of_ble_eq_true rfl) ⟨Nat.le_of_ble_eq_true rfl, Nat.le_of_ble_eq_true rfl⟩ dX11_feed_6 (fun r_71571 H locs er_71571 Y => ?_)
  refine lv_if_ne (tgt := 14) hx hb dX11_feed_9 (by decide) (fun c_71572 => ?_) (fun c_71572 => ?_)
  · have B_71573 : bn 1 1 r_71571 := bn_w (bn_nel c_71572 er_71571 (show bn 0 0 (0 : Int32) from bn_k (by decide))) (by decide)
    refine lv_aload_n hx hb dX11_feed_14 rfl (lv_at hl 0 rfl) ?_
    refine pg_get S Y ok_X11 2 (by decide) kf11_25 (v := .ref (ad 2 0)) p_ad_0_0 rfl dX11_feed_15 ?_
    refine lv_iload_n hx hb dX11_feed_18 rfl (lv_at hl 1 rfl) ?_
    refine cVv (As := [.int i1]) (rest := []) S Y (x_X5_append (l := l) I hW hT hQ) cw_X5_append km11_87 (I.opo (k := 2) (j := 0) (by decide) rfl).choose_spec.1 ok_X5.1 rfl rfl ⟨Nat.le_of_ble_eq_true rfl, Nat.le_of_ble_eq_true rfl⟩ hl.1 rfl (Nat.le_of_ble_eq_true rfl) ⟨Nat.le_of_ble_eq_true rfl, Nat.le_of_ble_eq_true rfl⟩ dX11_feed_19 (fun L_71575 f_71576 H locs I Y => ?_)
    refine lv_aload_n hx hb dX11_feed_22 rfl (lv_at hl 0 rfl) ?_
    have p_ad_0_0 := opnC_0 (j := 0) I (by decide)
    have p_ad_0_0 : pt L_71575 f_71576 (ad 0 0) (.inr (11, [.ref (ad 1 0), .ref (ad 1 1), .ref (ad 2 0), .ref (ad 3 0), .ref (ad 4 0), .ref (ad 5 0), .ref (ad 6 0), .ref (ad 7 0), .ref (ad 8 0)])) := p_ad_0_0
    refine pg_get S Y ok_X11 2 (by decide) kf11_25 (v := .ref (ad 2 0)) p_ad_0_0 rfl dX11_feed_23 ?_
    refine lv_iload_n hx hb dX11_feed_26 rfl (lv_at hl 2 rfl) ?_
    refine cVv (As := [.int i2]) (rest := []) S Y (x_X5_append (l := l) I hW hT hQ) cw_X5_append km11_87 (I.opo (k := 2) (j := 0) (by decide) rfl).choose_spec.1 ok_X5.1 rfl rfl ⟨Nat.le_of_ble_eq_true rfl, Nat.le_of_ble_eq_true rfl⟩ hl.1 rfl (Nat.le_of_ble_eq_true rfl) ⟨Nat.le_of_ble_eq_true rfl, Nat.le_of_ble_eq_true rfl⟩ dX11_feed_27 (fun L_71577 f_71578 H locs I Y => ?_)
    refine lv_aload_n hx hb dX11_feed_30 rfl (lv_at hl 0 rfl) ?_
    have p_ad_0_0 := opnC_0 (j := 0) I (by decide)
    have p_ad_0_0 : pt L_71577 f_71578 (ad 0 0) (.inr (11, [.ref (ad 1 0), .ref (ad 1 1), .ref (ad 2 0), .ref (ad 3 0), .ref (ad 4 0), .ref (ad 5 0), .ref (ad 6 0), .ref (ad 7 0), .ref (ad 8 0)])) := p_ad_0_0
    refine pg_get S Y ok_X11 2 (by decide) kf11_25 (v := .ref (ad 2 0)) p_ad_0_0 rfl dX11_feed_31 ?_
    refine lv_iload_n hx hb dX11_feed_34 rfl (lv_at hl 3 rfl) ?_
    refine cVv (As := [.int i3]) (rest := []) S Y (x_X5_append (l := l) I hW hT hQ) cw_X5_append km11_87 (I.opo (k := 2) (j := 0) (by decide) rfl).choose_spec.1 ok_X5.1 rfl rfl ⟨Nat.le_of_ble_eq_true rfl, Nat.le_of_ble_eq_true rfl⟩ hl.1 rfl (Nat.le_of_ble_eq_true rfl) ⟨Nat.le_of_ble_eq_true rfl, Nat.le_of_ble_eq_true rfl⟩ dX11_feed_35 (fun L_71579 f_71580 H locs I Y => ?_)
    refine lv_aload_n hx hb dX11_feed_38 rfl (lv_at hl 0 rfl) ?_
    have p_ad_0_0 := opnC_0 (j := 0) I (by decide)
    have p_ad_0_0 : pt L_71579 f_71580 (ad 0 0) (.inr (11, [.ref (ad 1 0), .ref (ad 1 1), .ref (ad 2 0), .ref (ad 3 0), .ref (ad 4 0), .ref (ad 5 0), .ref (ad 6 0), .ref (ad 7 0), .ref (ad 8 0)])) := p_ad_0_0
    refine pg_get S Y ok_X11 2 (by decide) kf11_25 (v := .ref (ad 2 0)) p_ad_0_0 rfl dX11_feed_39 ?_
    refine lv_iload hx hb dX11_feed_42 (lv_at hl 4 rfl) ?_
    refine cVv (As := [.int i4]) (rest := []) S Y (x_X5_append (l := l) I hW hT hQ) cw_X5_append km11_87 (I.opo (k := 2) (j := 0) (by decide) rfl).choose_spec.1 ok_X5.1 rfl rfl ⟨Nat.le_of_ble_eq_true rfl, Nat.le_of_ble_eq_true rfl⟩ hl.1 rfl (Nat.le_of_ble_eq_true rfl) ⟨Nat.le_of_ble_eq_true rfl, Nat.le_of_ble_eq_true rfl⟩ dX11_feed_44 (fun L_71581 f_71582 H locs I Y => ?_)
    refine lv_aload_n hx hb dX11_feed_47 rfl (lv_at hl 0 rfl) ?_
    have p_ad_0_0 := opnC_0 (j := 0) I (by decide)
    have p_ad_0_0 : pt L_71581 f_71582 (ad 0 0) (.inr (11, [.ref (ad 1 0), .ref (ad 1 1), .ref (ad 2 0), .ref (ad 3 0), .ref (ad 4 0), .ref (ad 5 0), .ref (ad 6 0), .ref (ad 7 0), .ref (ad 8 0)])) := p_ad_0_0
    refine pg_get S Y ok_X11 2 (by decide) kf11_25 (v := .ref (ad 2 0)) p_ad_0_0 rfl dX11_feed_48 ?_
    refine lv_iload hx hb dX11_feed_51 (lv_at hl 5 rfl) ?_
    refine cVv (As := [.int i5]) (rest := []) S Y (x_X5_append (l := l) I hW hT hQ) cw_X5_append km11_87 (I.opo (k := 2) (j := 0) (by decide) rfl).choose_spec.1 ok_X5.1 rfl rfl ⟨Nat.le_of_ble_eq_true rfl, Nat.le_of_ble_eq_true rfl⟩ hl.1 rfl (Nat.le_of_ble_eq_true rfl) ⟨Nat.le_of_ble_eq_true rfl, Nat.le_of_ble_eq_true rfl⟩ dX11_feed_53 (fun L_71583 f_71584 H locs I Y => ?_)
    refine lv_aload_n hx hb dX11_feed_56 rfl (lv_at hl 0 rfl) ?_
    have p_ad_0_0 := opnC_0 (j := 0) I (by decide)
    have p_ad_0_0 : pt L_71583 f_71584 (ad 0 0) (.inr (11, [.ref (ad 1 0), .ref (ad 1 1), .ref (ad 2 0), .ref (ad 3 0), .ref (ad 4 0), .ref (ad 5 0), .ref (ad 6 0), .ref (ad 7 0), .ref (ad 8 0)])) := p_ad_0_0
    refine pg_get S Y ok_X11 2 (by decide) kf11_25 (v := .ref (ad 2 0)) p_ad_0_0 rfl dX11_feed_57 ?_
    refine cVp (As := []) (rest := []) S Y (x_X5_size (l := l) I hW hT hQ) cw_X5_size km11_91 (I.opo (k := 2) (j := 0) (by decide) rfl).choose_spec.1 ok_X5.1 rfl rfl ⟨Nat.le_of_ble_eq_true rfl, Nat.le_of_ble_eq_true rfl⟩ hl.1 rfl (Nat.le_of_ble_eq_true rfl) ⟨Nat.le_of_ble_eq_true rfl, Nat.le_of_ble_eq_true rfl⟩ dX11_feed_60 (fun r_71585 H locs er_71585 Y => ?_)
    exact prI (post := fun r L1 f1 => SH (spC (NR 30 0 4) ((0, 6) : Int × Int) tc w q) nnC G ad L1 f1) S Y rfl (by decide) (by decide) hA1 I dX11_feed_63
  · have B_71574 : bn 0 0 r_71571 := bn_w (bn_eq c_71572 (show bn 0 0 (0 : Int32) from bn_k (by decide))) (by decide)
    refine lv_iconst (v := (-1)) hx hb dX11_feed_12 (by decide) ?_
    exact prI (post := fun r L1 f1 => SH (spC (NR 30 0 4) ((0, 6) : Int × Int) tc w q) nnC G ad L1 f1) S Y rfl (by decide) (by decide) hA1 I dX11_feed_13
set_option maxHeartbeats 4000000 in
set_option maxRecDepth 100000 in
theorem x_X11_end {l : Launch} {G : GG}  {L : List Nat} {f : HF} {ad : Nat → Nat → Nat} {tc w : Nat → Int × Int} {q : Nat → (Nat → Int32) → Prop} {i1 : Int32} (I : SH (spC (NR 30 0 4) ((0, 6) : Int × Int) tc w q) nnC G ad L f) (hW : WBp w 8) (hT : WBp tc 4) (hQ : QIp q) (hZ : ZZp w q) (hE : ∀ j, (tc j).1 = (tc j).2) : PMi l yX11_end cX11_end 2 .int 1 0 0 G [.ref (ad 0 0), .int i1] L f (fun r L1 f1 => SH (spC (NR 30 0 4) ((0, 6) : Int × Int) tc w q) nnC G ad L1 f1) := by
  refine PMi.of (post := fun r L1 f1 => SH (spC (NR 30 0 4) ((0, 6) : Int × Int) tc w q) nnC G ad L1 f1) (own := RX11) (by decide) rfl (Nat.le_of_ble_eq_true rfl) (fun sz p e s m args below meth c A ls hA1 hname S Y hl => ?_)
  have hx := S.hx
  have hb := S.hb
  have hl : lv_has ls 2 [(0, .ref (ad 0 0)), (1, .int i1)] := hl
  refine lv_aload_n hx hb dX11_end_0 rfl (lv_at hl 0 rfl) ?_
  have p_ad_0_0 := opnC_0 (j := 0) I (by decide)
  have p_ad_0_0 : pt L f (ad 0 0) (.inr (11, [.ref (ad 1 0), .ref (ad 1 1), .ref (ad 2 0), .ref (ad 3 0), .ref (ad 4 0), .ref (ad 5 0), .ref (ad 6 0), .ref (ad 7 0), .ref (ad 8 0)])) := p_ad_0_0
  refine pg_get S Y ok_X11 2 (by decide) kf11_25 (v := .ref (ad 2 0)) p_ad_0_0 rfl dX11_end_1 ?_
  refine lv_iload_n hx hb dX11_end_4 rfl (lv_at hl 1 rfl) ?_
  refine cVi (As := [.int i1]) (rest := []) S Y (x_X5_cutTo (l := l) I hW hT hQ) cw_X5_cutTo km11_95 (I.opo (k := 2) (j := 0) (by decide) rfl).choose_spec.1 ok_X5.1 rfl rfl ⟨Nat.le_of_ble_eq_true rfl, Nat.le_of_ble_eq_true rfl⟩ hl.1 rfl (Nat.le_of_ble_eq_true rfl) ⟨Nat.le_of_ble_eq_true rfl, Nat.le_of_ble_eq_true rfl⟩ dX11_end_5 (fun r_71600 L_71598 f_71599 H locs hr_71600 Y => ?_)
  obtain ⟨er_71600, I⟩ := hr_71600
  refine lv_if_eq (tgt := 15) hx hb dX11_end_8 (by decide) (fun c_71601 => ?_) (fun c_71601 => ?_)
  · have B_71602 : bn 0 0 r_71600 := bn_w (bn_eq c_71601 (show bn 0 0 (0 : Int32) from bn_k (by decide))) (by decide)
    refine lv_iconst (v := (-1)) hx hb dX11_end_15 (by decide) ?_
    exact prI (post := fun r L1 f1 => SH (spC (NR 30 0 4) ((0, 6) : Int × Int) tc w q) nnC G ad L1 f1) S Y rfl (by decide) (by decide) hA1 I dX11_end_16
  · have B_71603 : bn 1 1 r_71600 := bn_w (bn_nel c_71601 er_71600 (show bn 0 0 (0 : Int32) from bn_k (by decide))) (by decide)
    refine lv_iload_n hx hb dX11_end_11 rfl (lv_at hl 1 rfl) ?_
    refine lv_goto (tgt := 16) hx hb dX11_end_12 (by decide) ?_
    exact prI (post := fun r L1 f1 => SH (spC (NR 30 0 4) ((0, 6) : Int × Int) tc w q) nnC G ad L1 f1) S Y rfl (by decide) (by decide) hA1 I dX11_end_16
set_option maxHeartbeats 4000000 in
set_option maxRecDepth 100000 in
theorem x_X11_fault {l : Launch} {G : GG}  {L : List Nat} {f : HF} {ad : Nat → Nat → Nat} {tc w : Nat → Int × Int} {q : Nat → (Nat → Int32) → Prop} {i1 : Int32} (I : SH (spC (NR 30 0 4) ((0, 6) : Int × Int) tc w q) nnC G ad L f) (hW : WBp w 8) (hT : WBp tc 4) (hQ : QIp q) (hZ : ZZp w q) (hE : ∀ j, (tc j).1 = (tc j).2) : PMi l yX11_fault cX11_fault 2 .int 1 0 0 G [.ref (ad 0 0), .int i1] L f (fun r L1 f1 => SH (spC (NR 30 0 4) ((0, 6) : Int × Int) tc w q) nnC G ad L1 f1) := by
  refine PMi.of (post := fun r L1 f1 => SH (spC (NR 30 0 4) ((0, 6) : Int × Int) tc w q) nnC G ad L1 f1) (own := RX11) (by decide) rfl (Nat.le_of_ble_eq_true rfl) (fun sz p e s m args below meth c A ls hA1 hname S Y hl => ?_)
  have hx := S.hx
  have hb := S.hb
  have hl : lv_has ls 2 [(0, .ref (ad 0 0)), (1, .int i1)] := hl
  refine lv_iload_n hx hb dX11_fault_0 rfl (lv_at hl 1 rfl) ?_
  refine lv_if_ne (tgt := 12) hx hb dX11_fault_1 (by decide) (fun c_71616 => ?_) (fun c_71616 => ?_)
  · refine lv_iload_n hx hb dX11_fault_12 rfl (lv_at hl 1 rfl) ?_
    refine lv_iconst (v := 1) hx hb dX11_fault_13 (by decide) ?_
    refine lv_icmp_ne (tgt := 27) hx hb dX11_fault_14 (by decide) (fun c_71618 => ?_) (fun c_71618 => ?_)
    · refine lv_iconst (v := (-1)) hx hb dX11_fault_27 (by decide) ?_
      exact prI (post := fun r L1 f1 => SH (spC (NR 30 0 4) ((0, 6) : Int × Int) tc w q) nnC G ad L1 f1) S Y rfl (by decide) (by decide) hA1 I dX11_fault_28
    · have B_71619 : bn 1 1 i1 := bn_w (bn_eq c_71618 (show bn 1 1 (1 : Int32) from bn_k (by decide))) (by decide)
      refine lv_aload_n hx hb dX11_fault_17 rfl (lv_at hl 0 rfl) ?_
      have p_ad_0_0 := opnC_0 (j := 0) I (by decide)
      have p_ad_0_0 : pt L f (ad 0 0) (.inr (11, [.ref (ad 1 0), .ref (ad 1 1), .ref (ad 2 0), .ref (ad 3 0), .ref (ad 4 0), .ref (ad 5 0), .ref (ad 6 0), .ref (ad 7 0), .ref (ad 8 0)])) := p_ad_0_0
      refine pg_get S Y ok_X11 2 (by decide) kf11_25 (v := .ref (ad 2 0)) p_ad_0_0 rfl dX11_fault_18 ?_
      refine cVp (As := []) (rest := []) S Y (x_X5_faultPlace (l := l) I hW hT hQ) cw_X5_faultPlace km11_112 (I.opo (k := 2) (j := 0) (by decide) rfl).choose_spec.1 ok_X5.1 rfl rfl ⟨Nat.le_of_ble_eq_true rfl, Nat.le_of_ble_eq_true rfl⟩ hl.1 rfl (Nat.le_of_ble_eq_true rfl) ⟨Nat.le_of_ble_eq_true rfl, Nat.le_of_ble_eq_true rfl⟩ dX11_fault_21 (fun r_71620 H locs er_71620 Y => ?_)
      refine lv_goto (tgt := 28) hx hb dX11_fault_24 (by decide) ?_
      exact prI (post := fun r L1 f1 => SH (spC (NR 30 0 4) ((0, 6) : Int × Int) tc w q) nnC G ad L1 f1) S Y rfl (by decide) (by decide) hA1 I dX11_fault_28
  · have B_71617 : bn 0 0 i1 := bn_w (bn_eq c_71616 (show bn 0 0 (0 : Int32) from bn_k (by decide))) (by decide)
    refine lv_aload_n hx hb dX11_fault_4 rfl (lv_at hl 0 rfl) ?_
    have p_ad_0_0 := opnC_0 (j := 0) I (by decide)
    have p_ad_0_0 : pt L f (ad 0 0) (.inr (11, [.ref (ad 1 0), .ref (ad 1 1), .ref (ad 2 0), .ref (ad 3 0), .ref (ad 4 0), .ref (ad 5 0), .ref (ad 6 0), .ref (ad 7 0), .ref (ad 8 0)])) := p_ad_0_0
    refine pg_get S Y ok_X11 2 (by decide) kf11_25 (v := .ref (ad 2 0)) p_ad_0_0 rfl dX11_fault_5 ?_
    refine cVp (As := []) (rest := []) S Y (x_X5_faultKind (l := l) I hW hT hQ) cw_X5_faultKind km11_109 (I.opo (k := 2) (j := 0) (by decide) rfl).choose_spec.1 ok_X5.1 rfl rfl ⟨Nat.le_of_ble_eq_true rfl, Nat.le_of_ble_eq_true rfl⟩ hl.1 rfl (Nat.le_of_ble_eq_true rfl) ⟨Nat.le_of_ble_eq_true rfl, Nat.le_of_ble_eq_true rfl⟩ dX11_fault_8 (fun r_71621 H locs er_71621 Y => ?_)
    exact prI (post := fun r L1 f1 => SH (spC (NR 30 0 4) ((0, 6) : Int × Int) tc w q) nnC G ad L1 f1) S Y rfl (by decide) (by decide) hA1 I dX11_fault_11
set_option maxHeartbeats 4000000 in
set_option maxRecDepth 100000 in
theorem x_X11_by {l : Launch} {G : GG}  {L : List Nat} {f : HF} {ad : Nat → Nat → Nat} {tc w : Nat → Int × Int} {q : Nat → (Nat → Int32) → Prop} {i1 : Int32} (I : SH (spC (NR 30 0 4) ((0, 6) : Int × Int) tc w q) nnC G ad L f) (hW : WBp w 8) (hT : WBp tc 4) (hQ : QIp q) (hZ : ZZp w q) (hE : ∀ j, (tc j).1 = (tc j).2) : PMi l yX11_by cX11_by 2 .boolean 2 0 0 G [.ref (ad 0 0), .int i1] L f (fun r L1 f1 => bn 0 1 r ∧ SH (spC (NR 30 0 4) ((0, 6) : Int × Int) tc w q) nnC G ad L1 f1) := by
  refine PMi.of (post := fun r L1 f1 => bn 0 1 r ∧ SH (spC (NR 30 0 4) ((0, 6) : Int × Int) tc w q) nnC G ad L1 f1) (own := RX11) (by decide) rfl (Nat.le_of_ble_eq_true rfl) (fun sz p e s m args below meth c A ls hA1 hname S Y hl => ?_)
  have hx := S.hx
  have hb := S.hb
  have hl : lv_has ls 2 [(0, .ref (ad 0 0)), (1, .int i1)] := hl
  refine lv_aload_n hx hb dX11_by_0 rfl (lv_at hl 0 rfl) ?_
  have p_ad_0_0 := opnC_0 (j := 0) I (by decide)
  have p_ad_0_0 : pt L f (ad 0 0) (.inr (11, [.ref (ad 1 0), .ref (ad 1 1), .ref (ad 2 0), .ref (ad 3 0), .ref (ad 4 0), .ref (ad 5 0), .ref (ad 6 0), .ref (ad 7 0), .ref (ad 8 0)])) := p_ad_0_0
  refine pg_get S Y ok_X11 0 (by decide) kf11_13 (v := .ref (ad 1 0)) p_ad_0_0 rfl dX11_by_1 ?_
  refine lv_iload_n hx hb dX11_by_4 rfl (lv_at hl 1 rfl) ?_
  refine cVi (As := [.int i1]) (rest := []) S Y (x_X10_putUnder (l := l) I hW hT hQ) cw_X10_putUnder km11_115 (I.opo (k := 1) (j := 0) (by decide) rfl).choose_spec.1 ok_X10.1 rfl rfl ⟨Nat.le_of_ble_eq_true rfl, Nat.le_of_ble_eq_true rfl⟩ hl.1 rfl (Nat.le_of_ble_eq_true rfl) ⟨Nat.le_of_ble_eq_true rfl, Nat.le_of_ble_eq_true rfl⟩ dX11_by_5 (fun r_71630 L_71628 f_71629 H locs hr_71630 Y => ?_)
  obtain ⟨er_71630, I⟩ := hr_71630
  exact prI (post := fun r L1 f1 => bn 0 1 r ∧ SH (spC (NR 30 0 4) ((0, 6) : Int × Int) tc w q) nnC G ad L1 f1) S Y (nw_b (bn_w er_71630 (by decide))) (by decide) (by decide) hA1 ⟨bn_w er_71630 (by decide), I⟩ dX11_by_8
set_option maxHeartbeats 4000000 in
set_option maxRecDepth 100000 in
theorem x_X11_swear {l : Launch} {G : GG}  {L : List Nat} {f : HF} {ad : Nat → Nat → Nat} {tc w : Nat → Int × Int} {q : Nat → (Nat → Int32) → Prop} {i1 i2 i3 i4 : Int32} (I : SH (spC (NR 30 0 4) ((0, 6) : Int × Int) tc w q) nnC G ad L f) (hW : WBp w 8) (hT : WBp tc 4) (hQ : QIp q) (hZ : ZZp w q) (hE : ∀ j, (tc j).1 = (tc j).2) : PMi l yX11_swear cX11_swear 5 .int 5 0 0 G [.ref (ad 0 0), .int i1, .int i2, .int i3, .int i4] L f (fun r L1 f1 => SH (spC (NR 30 0 4) ((0, 6) : Int × Int) tc w q) nnC G ad L1 f1) := by
  refine PMi.of (post := fun r L1 f1 => SH (spC (NR 30 0 4) ((0, 6) : Int × Int) tc w q) nnC G ad L1 f1) (own := RX11) (by decide) rfl (Nat.le_of_ble_eq_true rfl) (fun sz p e s m args below meth c A ls hA1 hname S Y hl => ?_)
  have hx := S.hx
  have hb := S.hb
  have hl : lv_has ls 5 [(0, .ref (ad 0 0)), (1, .int i1), (2, .int i2), (3, .int i3), (4, .int i4)] := hl
  refine lv_aload_n hx hb dX11_swear_0 rfl (lv_at hl 0 rfl) ?_
  have p_ad_0_0 := opnC_0 (j := 0) I (by decide)
  have p_ad_0_0 : pt L f (ad 0 0) (.inr (11, [.ref (ad 1 0), .ref (ad 1 1), .ref (ad 2 0), .ref (ad 3 0), .ref (ad 4 0), .ref (ad 5 0), .ref (ad 6 0), .ref (ad 7 0), .ref (ad 8 0)])) := p_ad_0_0
  refine pg_get S Y ok_X11 5 (by decide) kf11_50 (v := .ref (ad 5 0)) p_ad_0_0 rfl dX11_swear_1 ?_
  refine lv_iload_n hx hb dX11_swear_4 rfl (lv_at hl 1 rfl) ?_
  refine lv_iload_n hx hb dX11_swear_5 rfl (lv_at hl 2 rfl) ?_
  refine lv_iload_n hx hb dX11_swear_6 rfl (lv_at hl 3 rfl) ?_
  refine lv_iload hx hb dX11_swear_7 (lv_at hl 4 rfl) ?_
  refine cVi (As := [.int i1, .int i2, .int i3, .int i4]) (rest := []) S Y (x_X1_swearIn (l := l) I hW hT hQ) cw_X1_swearIn km11_118 (I.opo (k := 5) (j := 0) (by decide) rfl).choose_spec.1 ok_X1.1 rfl rfl ⟨Nat.le_of_ble_eq_true rfl, Nat.le_of_ble_eq_true rfl⟩ hl.1 rfl (Nat.le_of_ble_eq_true rfl) ⟨Nat.le_of_ble_eq_true rfl, Nat.le_of_ble_eq_true rfl⟩ dX11_swear_9 (fun r_71639 L_71637 f_71638 H locs I Y => ?_)
  exact prI (post := fun r L1 f1 => SH (spC (NR 30 0 4) ((0, 6) : Int × Int) tc w q) nnC G ad L1 f1) S Y rfl (by decide) (by decide) hA1 I dX11_swear_12
set_option maxHeartbeats 4000000 in
set_option maxRecDepth 100000 in
theorem x_X11_breaks {l : Launch} {G : GG}  {L : List Nat} {f : HF} {ad : Nat → Nat → Nat} {tc w : Nat → Int × Int} {q : Nat → (Nat → Int32) → Prop} {i1 : Int32} (I : SH (spC (NR 30 0 4) ((0, 6) : Int × Int) tc w q) nnC G ad L f) (hW : WBp w 8) (hT : WBp tc 4) (hQ : QIp q) (hZ : ZZp w q) (hE : ∀ j, (tc j).1 = (tc j).2) : PMi l yX11_breaks cX11_breaks 2 .boolean 5 0 0 G [.ref (ad 0 0), .int i1] L f (fun r L1 f1 => bn 0 1 r ∧ SH (spC (NR 30 0 4) ((0, 6) : Int × Int) tc w q) nnC G ad L1 f1) := by
  refine PMi.of (post := fun r L1 f1 => bn 0 1 r ∧ SH (spC (NR 30 0 4) ((0, 6) : Int × Int) tc w q) nnC G ad L1 f1) (own := RX11) (by decide) rfl (Nat.le_of_ble_eq_true rfl) (fun sz p e s m args below meth c A ls hA1 hname S Y hl => ?_)
  have hx := S.hx
  have hb := S.hb
  have hl : lv_has ls 2 [(0, .ref (ad 0 0)), (1, .int i1)] := hl
  refine lv_aload_n hx hb dX11_breaks_0 rfl (lv_at hl 0 rfl) ?_
  have p_ad_0_0 := opnC_0 (j := 0) I (by decide)
  have p_ad_0_0 : pt L f (ad 0 0) (.inr (11, [.ref (ad 1 0), .ref (ad 1 1), .ref (ad 2 0), .ref (ad 3 0), .ref (ad 4 0), .ref (ad 5 0), .ref (ad 6 0), .ref (ad 7 0), .ref (ad 8 0)])) := p_ad_0_0
  refine pg_get S Y ok_X11 5 (by decide) kf11_50 (v := .ref (ad 5 0)) p_ad_0_0 rfl dX11_breaks_1 ?_
  refine lv_iload_n hx hb dX11_breaks_4 rfl (lv_at hl 1 rfl) ?_
  refine cVi (As := [.int i1]) (rest := []) S Y (x_X1_breakOath (l := l) I hW hT hQ) cw_X1_breakOath km11_122 (I.opo (k := 5) (j := 0) (by decide) rfl).choose_spec.1 ok_X1.1 rfl rfl ⟨Nat.le_of_ble_eq_true rfl, Nat.le_of_ble_eq_true rfl⟩ hl.1 rfl (Nat.le_of_ble_eq_true rfl) ⟨Nat.le_of_ble_eq_true rfl, Nat.le_of_ble_eq_true rfl⟩ dX11_breaks_5 (fun r_71648 L_71646 f_71647 H locs hr_71648 Y => ?_)
  obtain ⟨er_71648, I⟩ := hr_71648
  exact prI (post := fun r L1 f1 => bn 0 1 r ∧ SH (spC (NR 30 0 4) ((0, 6) : Int × Int) tc w q) nnC G ad L1 f1) S Y (nw_b (bn_w er_71648 (by decide))) (by decide) (by decide) hA1 ⟨bn_w er_71648 (by decide), I⟩ dX11_breaks_8
set_option maxHeartbeats 4000000 in
set_option maxRecDepth 100000 in
theorem x_X11_release {l : Launch} {G : GG}  {L : List Nat} {f : HF} {ad : Nat → Nat → Nat} {tc w : Nat → Int × Int} {q : Nat → (Nat → Int32) → Prop} {i1 : Int32} (I : SH (spC (NR 30 0 4) ((0, 6) : Int × Int) tc w q) nnC G ad L f) (hW : WBp w 8) (hT : WBp tc 4) (hQ : QIp q) (hZ : ZZp w q) (hE : ∀ j, (tc j).1 = (tc j).2) : PMi l yX11_release cX11_release 2 .boolean 5 0 0 G [.ref (ad 0 0), .int i1] L f (fun r L1 f1 => bn 0 1 r ∧ SH (spC (NR 30 0 4) ((0, 6) : Int × Int) tc w q) nnC G ad L1 f1) := by
  refine PMi.of (post := fun r L1 f1 => bn 0 1 r ∧ SH (spC (NR 30 0 4) ((0, 6) : Int × Int) tc w q) nnC G ad L1 f1) (own := RX11) (by decide) rfl (Nat.le_of_ble_eq_true rfl) (fun sz p e s m args below meth c A ls hA1 hname S Y hl => ?_)
  have hx := S.hx
  have hb := S.hb
  have hl : lv_has ls 2 [(0, .ref (ad 0 0)), (1, .int i1)] := hl
  refine lv_aload_n hx hb dX11_release_0 rfl (lv_at hl 0 rfl) ?_
  have p_ad_0_0 := opnC_0 (j := 0) I (by decide)
  have p_ad_0_0 : pt L f (ad 0 0) (.inr (11, [.ref (ad 1 0), .ref (ad 1 1), .ref (ad 2 0), .ref (ad 3 0), .ref (ad 4 0), .ref (ad 5 0), .ref (ad 6 0), .ref (ad 7 0), .ref (ad 8 0)])) := p_ad_0_0
  refine pg_get S Y ok_X11 5 (by decide) kf11_50 (v := .ref (ad 5 0)) p_ad_0_0 rfl dX11_release_1 ?_
  refine lv_iload_n hx hb dX11_release_4 rfl (lv_at hl 1 rfl) ?_
  refine cVi (As := [.int i1]) (rest := []) S Y (x_X1_releaseOath (l := l) I hW hT hQ) cw_X1_releaseOath km11_125 (I.opo (k := 5) (j := 0) (by decide) rfl).choose_spec.1 ok_X1.1 rfl rfl ⟨Nat.le_of_ble_eq_true rfl, Nat.le_of_ble_eq_true rfl⟩ hl.1 rfl (Nat.le_of_ble_eq_true rfl) ⟨Nat.le_of_ble_eq_true rfl, Nat.le_of_ble_eq_true rfl⟩ dX11_release_5 (fun r_71657 L_71655 f_71656 H locs hr_71657 Y => ?_)
  obtain ⟨er_71657, I⟩ := hr_71657
  exact prI (post := fun r L1 f1 => bn 0 1 r ∧ SH (spC (NR 30 0 4) ((0, 6) : Int × Int) tc w q) nnC G ad L1 f1) S Y (nw_b (bn_w er_71657 (by decide))) (by decide) (by decide) hA1 ⟨bn_w er_71657 (by decide), I⟩ dX11_release_8
set_option maxHeartbeats 4000000 in
set_option maxRecDepth 100000 in
theorem x_X11_kneel {l : Launch} {G : GG}  {L : List Nat} {f : HF} {ad : Nat → Nat → Nat} {tc w : Nat → Int × Int} {q : Nat → (Nat → Int32) → Prop} {i1 : Int32} (I : SH (spC (NR 30 0 4) ((0, 6) : Int × Int) tc w q) nnC G ad L f) (hW : WBp w 8) (hT : WBp tc 4) (hQ : QIp q) (hZ : ZZp w q) (hE : ∀ j, (tc j).1 = (tc j).2) : PMi l yX11_kneel cX11_kneel 2 .int 6 0 0 G [.ref (ad 0 0), .int i1] L f (fun r L1 f1 => SH (spC (NR 30 0 4) ((0, 6) : Int × Int) tc w q) nnC G ad L1 f1) := by
  refine PMi.of (post := fun r L1 f1 => SH (spC (NR 30 0 4) ((0, 6) : Int × Int) tc w q) nnC G ad L1 f1) (own := RX11) (by decide) rfl (Nat.le_of_ble_eq_true rfl) (fun sz p e s m args below meth c A ls hA1 hname S Y hl => ?_)
  have hx := S.hx
  have hb := S.hb
  have hl : lv_has ls 2 [(0, .ref (ad 0 0)), (1, .int i1)] := hl
  refine lv_aload_n hx hb dX11_kneel_0 rfl (lv_at hl 0 rfl) ?_
  have p_ad_0_0 := opnC_0 (j := 0) I (by decide)
  have p_ad_0_0 : pt L f (ad 0 0) (.inr (11, [.ref (ad 1 0), .ref (ad 1 1), .ref (ad 2 0), .ref (ad 3 0), .ref (ad 4 0), .ref (ad 5 0), .ref (ad 6 0), .ref (ad 7 0), .ref (ad 8 0)])) := p_ad_0_0
  refine pg_get S Y ok_X11 5 (by decide) kf11_50 (v := .ref (ad 5 0)) p_ad_0_0 rfl dX11_kneel_1 ?_
  refine lv_iload_n hx hb dX11_kneel_4 rfl (lv_at hl 1 rfl) ?_
  refine cVi (As := [.int i1]) (rest := []) S Y (x_X1_kneelDown (l := l) I hW hT hQ) cw_X1_kneelDown km11_128 (I.opo (k := 5) (j := 0) (by decide) rfl).choose_spec.1 ok_X1.1 rfl rfl ⟨Nat.le_of_ble_eq_true rfl, Nat.le_of_ble_eq_true rfl⟩ hl.1 rfl (Nat.le_of_ble_eq_true rfl) ⟨Nat.le_of_ble_eq_true rfl, Nat.le_of_ble_eq_true rfl⟩ dX11_kneel_5 (fun r_71694 L_71692 f_71693 H locs hr_71694 Y => ?_)
  obtain ⟨er_71694, I⟩ := hr_71694
  refine lv_if_eq (tgt := 25) hx hb dX11_kneel_8 (by decide) (fun c_71695 => ?_) (fun c_71695 => ?_)
  · have B_71696 : bn 0 0 r_71694 := bn_w (bn_eq c_71695 (show bn 0 0 (0 : Int32) from bn_k (by decide))) (by decide)
    refine lv_iconst (v := (-1)) hx hb dX11_kneel_25 (by decide) ?_
    exact prI (post := fun r L1 f1 => SH (spC (NR 30 0 4) ((0, 6) : Int × Int) tc w q) nnC G ad L1 f1) S Y rfl (by decide) (by decide) hA1 I dX11_kneel_26
  · have B_71697 : bn 1 1 r_71694 := bn_w (bn_nel c_71695 er_71694 (show bn 0 0 (0 : Int32) from bn_k (by decide))) (by decide)
    refine lv_aload_n hx hb dX11_kneel_11 rfl (lv_at hl 0 rfl) ?_
    have p_ad_0_0 := opnC_0 (j := 0) I (by decide)
    have p_ad_0_0 : pt L_71692 f_71693 (ad 0 0) (.inr (11, [.ref (ad 1 0), .ref (ad 1 1), .ref (ad 2 0), .ref (ad 3 0), .ref (ad 4 0), .ref (ad 5 0), .ref (ad 6 0), .ref (ad 7 0), .ref (ad 8 0)])) := p_ad_0_0
    refine pg_get S Y ok_X11 0 (by decide) kf11_13 (v := .ref (ad 1 0)) p_ad_0_0 rfl dX11_kneel_12 ?_
    obtain ⟨v_71698, v_71700, v_71702, v_71704, v_71706, p_ad_1_0, b_71699, b_71701, b_71703, b_71705, b_71707⟩ := opnC_1 (j := 0) I (by decide)
    have p_ad_1_0 : pt L_71692 f_71693 (ad 1 0) (.inr (10, [.ref (ad 40 0), .ref (ad 41 0), .ref (ad 42 0), .ref (ad 10 0), .ref (ad 43 0), .ref (ad 20 0), .ref (ad 20 1), .ref (ad 20 2), .ref (ad 20 3), .ref (ad 20 4), .int v_71698, .int v_71700, .int v_71702, .int v_71704, .int v_71706])) := p_ad_1_0
    refine pg_getN S Y ok_X10 3 (by decide) kf11_131 (v := .ref (ad 10 0)) p_ad_1_0 rfl dX11_kneel_15 ?_
    refine lv_iload_n hx hb dX11_kneel_18 rfl (lv_at hl 1 rfl) ?_
    refine cVp (As := [.int i1]) (rest := []) S Y (x_X4_marks (l := l) (j := 0) I hW hT hQ (by decide)) cw_X4_marks km11_135 (I.opo (k := 10) (j := 0) (by decide) rfl).choose_spec.1 ok_X4.1 rfl rfl ⟨Nat.le_of_ble_eq_true rfl, Nat.le_of_ble_eq_true rfl⟩ hl.1 rfl (Nat.le_of_ble_eq_true rfl) ⟨Nat.le_of_ble_eq_true rfl, Nat.le_of_ble_eq_true rfl⟩ dX11_kneel_19 (fun r_71708 H locs er_71708 Y => ?_)
    refine lv_goto (tgt := 26) hx hb dX11_kneel_22 (by decide) ?_
    exact prI (post := fun r L1 f1 => SH (spC (NR 30 0 4) ((0, 6) : Int × Int) tc w q) nnC G ad L1 f1) S Y rfl (by decide) (by decide) hA1 I dX11_kneel_26
set_option maxHeartbeats 4000000 in
set_option maxRecDepth 100000 in
theorem x_X11_skate {l : Launch} {G : GG}  {L : List Nat} {f : HF} {ad : Nat → Nat → Nat} {tc w : Nat → Int × Int} {q : Nat → (Nat → Int32) → Prop} {i1 i2 : Int32} (I : SH (spC (NR 30 0 4) ((0, 6) : Int × Int) tc w q) nnC G ad L f) (hW : WBp w 8) (hT : WBp tc 4) (hQ : QIp q) (hZ : ZZp w q) (hE : ∀ j, (tc j).1 = (tc j).2) : PMi l yX11_skate cX11_skate 3 .int 5 0 0 G [.ref (ad 0 0), .int i1, .int i2] L f (fun r L1 f1 => SH (spC (NR 30 0 4) ((0, 6) : Int × Int) tc w q) nnC G ad L1 f1) := by
  refine PMi.of (post := fun r L1 f1 => SH (spC (NR 30 0 4) ((0, 6) : Int × Int) tc w q) nnC G ad L1 f1) (own := RX11) (by decide) rfl (Nat.le_of_ble_eq_true rfl) (fun sz p e s m args below meth c A ls hA1 hname S Y hl => ?_)
  have hx := S.hx
  have hb := S.hb
  have hl : lv_has ls 3 [(0, .ref (ad 0 0)), (1, .int i1), (2, .int i2)] := hl
  refine lv_aload_n hx hb dX11_skate_0 rfl (lv_at hl 0 rfl) ?_
  have p_ad_0_0 := opnC_0 (j := 0) I (by decide)
  have p_ad_0_0 : pt L f (ad 0 0) (.inr (11, [.ref (ad 1 0), .ref (ad 1 1), .ref (ad 2 0), .ref (ad 3 0), .ref (ad 4 0), .ref (ad 5 0), .ref (ad 6 0), .ref (ad 7 0), .ref (ad 8 0)])) := p_ad_0_0
  refine pg_get S Y ok_X11 5 (by decide) kf11_50 (v := .ref (ad 5 0)) p_ad_0_0 rfl dX11_skate_1 ?_
  refine lv_iload_n hx hb dX11_skate_4 rfl (lv_at hl 1 rfl) ?_
  refine lv_iload_n hx hb dX11_skate_5 rfl (lv_at hl 2 rfl) ?_
  refine cVi (As := [.int i1, .int i2]) (rest := []) S Y (x_X1_slide (l := l) I hW hT hQ) cw_X1_slide km11_139 (I.opo (k := 5) (j := 0) (by decide) rfl).choose_spec.1 ok_X1.1 rfl rfl ⟨Nat.le_of_ble_eq_true rfl, Nat.le_of_ble_eq_true rfl⟩ hl.1 rfl (Nat.le_of_ble_eq_true rfl) ⟨Nat.le_of_ble_eq_true rfl, Nat.le_of_ble_eq_true rfl⟩ dX11_skate_6 (fun r_71745 L_71743 f_71744 H locs hr_71745 Y => ?_)
  obtain ⟨er_71745, I⟩ := hr_71745
  refine lv_if_eq (tgt := 26) hx hb dX11_skate_9 (by decide) (fun c_71746 => ?_) (fun c_71746 => ?_)
  · have B_71747 : bn 0 0 r_71745 := bn_w (bn_eq c_71746 (show bn 0 0 (0 : Int32) from bn_k (by decide))) (by decide)
    refine lv_iconst (v := (-1)) hx hb dX11_skate_26 (by decide) ?_
    exact prI (post := fun r L1 f1 => SH (spC (NR 30 0 4) ((0, 6) : Int × Int) tc w q) nnC G ad L1 f1) S Y rfl (by decide) (by decide) hA1 I dX11_skate_27
  · have B_71748 : bn 1 1 r_71745 := bn_w (bn_nel c_71746 er_71745 (show bn 0 0 (0 : Int32) from bn_k (by decide))) (by decide)
    refine lv_aload_n hx hb dX11_skate_12 rfl (lv_at hl 0 rfl) ?_
    have p_ad_0_0 := opnC_0 (j := 0) I (by decide)
    have p_ad_0_0 : pt L_71743 f_71744 (ad 0 0) (.inr (11, [.ref (ad 1 0), .ref (ad 1 1), .ref (ad 2 0), .ref (ad 3 0), .ref (ad 4 0), .ref (ad 5 0), .ref (ad 6 0), .ref (ad 7 0), .ref (ad 8 0)])) := p_ad_0_0
    refine pg_get S Y ok_X11 0 (by decide) kf11_13 (v := .ref (ad 1 0)) p_ad_0_0 rfl dX11_skate_13 ?_
    obtain ⟨v_71749, v_71751, v_71753, v_71755, v_71757, p_ad_1_0, b_71750, b_71752, b_71754, b_71756, b_71758⟩ := opnC_1 (j := 0) I (by decide)
    have p_ad_1_0 : pt L_71743 f_71744 (ad 1 0) (.inr (10, [.ref (ad 40 0), .ref (ad 41 0), .ref (ad 42 0), .ref (ad 10 0), .ref (ad 43 0), .ref (ad 20 0), .ref (ad 20 1), .ref (ad 20 2), .ref (ad 20 3), .ref (ad 20 4), .int v_71749, .int v_71751, .int v_71753, .int v_71755, .int v_71757])) := p_ad_1_0
    refine pg_getN S Y ok_X10 3 (by decide) kf11_131 (v := .ref (ad 10 0)) p_ad_1_0 rfl dX11_skate_16 ?_
    refine lv_iload_n hx hb dX11_skate_19 rfl (lv_at hl 1 rfl) ?_
    refine cVp (As := [.int i1]) (rest := []) S Y (x_X4_marks (l := l) (j := 0) I hW hT hQ (by decide)) cw_X4_marks km11_135 (I.opo (k := 10) (j := 0) (by decide) rfl).choose_spec.1 ok_X4.1 rfl rfl ⟨Nat.le_of_ble_eq_true rfl, Nat.le_of_ble_eq_true rfl⟩ hl.1 rfl (Nat.le_of_ble_eq_true rfl) ⟨Nat.le_of_ble_eq_true rfl, Nat.le_of_ble_eq_true rfl⟩ dX11_skate_20 (fun r_71759 H locs er_71759 Y => ?_)
    refine lv_goto (tgt := 27) hx hb dX11_skate_23 (by decide) ?_
    exact prI (post := fun r L1 f1 => SH (spC (NR 30 0 4) ((0, 6) : Int × Int) tc w q) nnC G ad L1 f1) S Y rfl (by decide) (by decide) hA1 I dX11_skate_27
set_option maxHeartbeats 4000000 in
set_option maxRecDepth 100000 in
theorem x_X11_strike {l : Launch} {G : GG}  {L : List Nat} {f : HF} {ad : Nat → Nat → Nat} {tc w : Nat → Int × Int} {q : Nat → (Nat → Int32) → Prop} {i1 : Int32} (I : SH (spC (NR 30 0 4) ((0, 6) : Int × Int) tc w q) nnC G ad L f) (hW : WBp w 8) (hT : WBp tc 4) (hQ : QIp q) (hZ : ZZp w q) (hE : ∀ j, (tc j).1 = (tc j).2) : PMi l yX11_strike cX11_strike 2 .int 7 0 0 G [.ref (ad 0 0), .int i1] L f (fun r L1 f1 => SH (spC (NR 30 0 4) ((0, 6) : Int × Int) tc w q) nnC G ad L1 f1) := by
  refine PMi.of (post := fun r L1 f1 => SH (spC (NR 30 0 4) ((0, 6) : Int × Int) tc w q) nnC G ad L1 f1) (own := RX11) (by decide) rfl (Nat.le_of_ble_eq_true rfl) (fun sz p e s m args below meth c A ls hA1 hname S Y hl => ?_)
  have hx := S.hx
  have hb := S.hb
  have hl : lv_has ls 2 [(0, .ref (ad 0 0)), (1, .int i1)] := hl
  refine lv_aload_n hx hb dX11_strike_0 rfl (lv_at hl 0 rfl) ?_
  have p_ad_0_0 := opnC_0 (j := 0) I (by decide)
  have p_ad_0_0 : pt L f (ad 0 0) (.inr (11, [.ref (ad 1 0), .ref (ad 1 1), .ref (ad 2 0), .ref (ad 3 0), .ref (ad 4 0), .ref (ad 5 0), .ref (ad 6 0), .ref (ad 7 0), .ref (ad 8 0)])) := p_ad_0_0
  refine pg_get S Y ok_X11 5 (by decide) kf11_50 (v := .ref (ad 5 0)) p_ad_0_0 rfl dX11_strike_1 ?_
  refine lv_iload_n hx hb dX11_strike_4 rfl (lv_at hl 1 rfl) ?_
  refine cVi (As := [.int i1]) (rest := []) S Y (x_X1_strikeOut (l := l) I hW hT hQ) cw_X1_strikeOut km11_143 (I.opo (k := 5) (j := 0) (by decide) rfl).choose_spec.1 ok_X1.1 rfl rfl ⟨Nat.le_of_ble_eq_true rfl, Nat.le_of_ble_eq_true rfl⟩ hl.1 rfl (Nat.le_of_ble_eq_true rfl) ⟨Nat.le_of_ble_eq_true rfl, Nat.le_of_ble_eq_true rfl⟩ dX11_strike_5 (fun r_71768 L_71766 f_71767 H locs I Y => ?_)
  exact prI (post := fun r L1 f1 => SH (spC (NR 30 0 4) ((0, 6) : Int × Int) tc w q) nnC G ad L1 f1) S Y rfl (by decide) (by decide) hA1 I dX11_strike_8
set_option maxHeartbeats 4000000 in
set_option maxRecDepth 100000 in
theorem x_X11_day {l : Launch} {G : GG}  {L : List Nat} {f : HF} {ad : Nat → Nat → Nat} {tc w : Nat → Int × Int} {q : Nat → (Nat → Int32) → Prop} {i1 : Int32} (I : SH (spC (NR 30 0 4) ((0, 6) : Int × Int) tc w q) nnC G ad L f) (hW : WBp w 8) (hT : WBp tc 4) (hQ : QIp q) (hZ : ZZp w q) (hE : ∀ j, (tc j).1 = (tc j).2) : PMi l yX11_day cX11_day 3 .int 6 0 0 G [.ref (ad 0 0), .int i1] L f (fun r L1 f1 => SH (spC (NR 30 0 4) ((0, 6) : Int × Int) tc w q) nnC G ad L1 f1) := by
  refine PMi.of (post := fun r L1 f1 => SH (spC (NR 30 0 4) ((0, 6) : Int × Int) tc w q) nnC G ad L1 f1) (own := RX11) (by decide) rfl (Nat.le_of_ble_eq_true rfl) (fun sz p e s m args below meth c A ls hA1 hname S Y hl => ?_)
  have hx := S.hx
  have hb := S.hb
  have hl : lv_has ls 3 [(0, .ref (ad 0 0)), (1, .int i1)] := hl
  have J_32 : ∀ (n32 : Nat) (y32_2 : Int32) (L_32 : List Nat) (f_32 : HF) (H : Heap) (locs : List Loc) (ls : Array Slot), (SH (spC (NR 30 0 4) ((0, 6) : Int × Int) tc w q) nnC G ad L_32 f_32) → (bn 0 2147483647 y32_2) → (((2147483647 : Int) - y32_2.toInt).toNat = n32) → (DY G A s [] L_32 f_32 H locs) → (lv_has ls 3 [(0, .ref (ad 0 0)), (1, .int i1), (2, .int y32_2)]) → W p l e (rmD 6 0 0) s m args below meth c H locs (0) (0) (MQ below (va_Qi (fun r (u : List Nat × HF) => (fun r L1 f1 => SH (spC (NR 30 0 4) ((0, 6) : Int × Int) tc w q) nnC G ad L1 f1) r u.1 u.2) (fun u t => pOut G (va_A (va_pl L f) sz) u.1 u.2 t) (va_A (va_pl L f) sz)) args s 0 0 A) (F0 m 32 ls []) := by
    intro n32
    induction n32 using Nat.strongRecOn with
    | _ n32 ih32 =>
      intro y32_2 L_32 f_32 H locs ls I b_y32_2 hm32 Y hl
      refine lv_iload_n hx hb dX11_day_32 rfl (lv_at hl 2 rfl) ?_
      refine lv_iload_n hx hb dX11_day_33 rfl (lv_at hl 1 rfl) ?_
      refine lv_icmp_ge (tgt := 51) hx hb dX11_day_34 (by decide) (fun c_73202 => ?_) (fun c_73202 => ?_)
      · refine lv_aload_n hx hb dX11_day_51 rfl (lv_at hl 0 rfl) ?_
        have p_ad_0_0 := opnC_0 (j := 0) I (by decide)
        have p_ad_0_0 : pt L_32 f_32 (ad 0 0) (.inr (11, [.ref (ad 1 0), .ref (ad 1 1), .ref (ad 2 0), .ref (ad 3 0), .ref (ad 4 0), .ref (ad 5 0), .ref (ad 6 0), .ref (ad 7 0), .ref (ad 8 0)])) := p_ad_0_0
        refine pg_get S Y ok_X11 0 (by decide) kf11_13 (v := .ref (ad 1 0)) p_ad_0_0 rfl dX11_day_52 ?_
        obtain ⟨v_73205, v_73207, v_73209, v_73211, v_73213, p_ad_1_0, b_73206, b_73208, b_73210, b_73212, b_73214⟩ := opnC_1 (j := 0) I (by decide)
        have p_ad_1_0 : pt L_32 f_32 (ad 1 0) (.inr (10, [.ref (ad 40 0), .ref (ad 41 0), .ref (ad 42 0), .ref (ad 10 0), .ref (ad 43 0), .ref (ad 20 0), .ref (ad 20 1), .ref (ad 20 2), .ref (ad 20 3), .ref (ad 20 4), .int v_73205, .int v_73207, .int v_73209, .int v_73211, .int v_73213])) := p_ad_1_0
        refine pg_getN S Y ok_X10 3 (by decide) kf11_131 (v := .ref (ad 10 0)) p_ad_1_0 rfl dX11_day_55 ?_
        obtain ⟨v_73215, v_73217, v_73219, v_73221, v_73223, p_ad_10_0, b_73216, b_73218, b_73220, b_73222, b_73224⟩ := opnC_10 (j := 0) I (by decide)
        have p_ad_10_0 : pt L_32 f_32 (ad 10 0) (.inr (4, [.ref (ad 11 0), .ref (ad 12 0), .int v_73215, .int v_73217, .int v_73219, .int v_73221, .int v_73223])) := p_ad_10_0
        refine pg_getN S Y ok_X4 5 (by decide) kf11_158 (v := .int v_73221) p_ad_10_0 rfl dX11_day_58 ?_
        exact prI (post := fun r L1 f1 => SH (spC (NR 30 0 4) ((0, 6) : Int × Int) tc w q) nnC G ad L1 f1) S Y rfl (by decide) (by decide) hA1 I dX11_day_61
      · have B_73203 : bn 1 2147483647 i1 := bn_w (bn_gtl c_73202 (bn_any i1) b_y32_2) (by decide)
        have B_73204 : bn 0 2147483646 y32_2 := bn_w (bn_gtr c_73202 (bn_any i1) b_y32_2) (by decide)
        refine lv_aload_n hx hb dX11_day_37 rfl (lv_at hl 0 rfl) ?_
        have p_ad_0_0 := opnC_0 (j := 0) I (by decide)
        have p_ad_0_0 : pt L_32 f_32 (ad 0 0) (.inr (11, [.ref (ad 1 0), .ref (ad 1 1), .ref (ad 2 0), .ref (ad 3 0), .ref (ad 4 0), .ref (ad 5 0), .ref (ad 6 0), .ref (ad 7 0), .ref (ad 8 0)])) := p_ad_0_0
        refine pg_get S Y ok_X11 5 (by decide) kf11_50 (v := .ref (ad 5 0)) p_ad_0_0 rfl dX11_day_38 ?_
        refine cVi (As := []) (rest := []) S Y (x_X1_passDay (l := l) I hW hT hQ) cw_X1_passDay km11_154 (I.opo (k := 5) (j := 0) (by decide) rfl).choose_spec.1 ok_X1.1 rfl rfl ⟨Nat.le_of_ble_eq_true rfl, Nat.le_of_ble_eq_true rfl⟩ hl.1 rfl (Nat.le_of_ble_eq_true rfl) ⟨Nat.le_of_ble_eq_true rfl, Nat.le_of_ble_eq_true rfl⟩ dX11_day_41 (fun r_73227 L_73225 f_73226 H locs hr_73227 Y => ?_)
        obtain ⟨er_73227, I⟩ := hr_73227
        refine lv_pop hx hb dX11_day_44 rfl ?_
        obtain ⟨x_73228, ex_73228⟩ : ∃ z : Int32, z = y32_2 + 1 := ⟨_, rfl⟩
        refine lv_iinc (v := x_73228) (lv' := [(2, .int x_73228), (0, .ref (ad 0 0)), (1, .int i1)]) hx hb dX11_day_45 hl (k := 2) rfl (by rw [ex_73228]; rfl) (by decide) rfl (fun ls hl => ?_)
        refine lv_goto (tgt := 32) hx hb dX11_day_48 (by decide) ?_
        exact ih32 _ (by rw [← hm32]; exact ms_up (m := 1) ex_73228 (show bn 1 1 (1 : Int32) from bn_k (by decide)) B_73204 (bn_w (bn_eq ex_73228 (bn_add B_73204 (show bn 1 1 (1 : Int32) from bn_k (by decide)) (by decide))) (by decide) : bn 0 2147483647 x_73228) (by decide)) x_73228 _ _  _ _ _ I (bn_w (bn_eq ex_73228 (bn_add B_73204 (show bn 1 1 (1 : Int32) from bn_k (by decide)) (by decide))) (by decide)) rfl Y (lv_sub hl [1, 2, 0] rfl)
  refine lv_iload_n hx hb dX11_day_0 rfl (lv_at hl 1 rfl) ?_
  refine lv_iconst (v := 1) hx hb dX11_day_1 (by decide) ?_
  refine lv_bipush (v := 60) hx hb dX11_day_2 (by decide) ?_
  refine cSp (As := [.int i1, .int 1, .int 60]) (rest := []) S Y (x_X11_within (l := l) ) cw_X11_within km11_146 rfl ⟨Nat.le_of_ble_eq_true rfl, Nat.le_of_ble_eq_true rfl⟩ hl.1 rfl (Nat.le_of_ble_eq_true rfl) ⟨Nat.le_of_ble_eq_true rfl, Nat.le_of_ble_eq_true rfl⟩ dX11_day_4 (fun r_73229 H locs er_73229 Y => ?_)
  refine lv_if_eq (tgt := 28) hx hb dX11_day_7 (by decide) (fun c_73230 => ?_) (fun c_73230 => ?_)
  · have B_73231 : bn 0 0 r_73229 := bn_w (bn_eq c_73230 (show bn 0 0 (0 : Int32) from bn_k (by decide))) (by decide)
    refine lv_iconst (v := (-1)) hx hb dX11_day_28 (by decide) ?_
    exact prI (post := fun r L1 f1 => SH (spC (NR 30 0 4) ((0, 6) : Int × Int) tc w q) nnC G ad L1 f1) S Y rfl (by decide) (by decide) hA1 I dX11_day_29
  · have B_73232 : bn 1 1 r_73229 := bn_w (bn_nel c_73230 er_73229 (show bn 0 0 (0 : Int32) from bn_k (by decide))) (by decide)
    refine lv_aload_n hx hb dX11_day_10 rfl (lv_at hl 0 rfl) ?_
    have p_ad_0_0 := opnC_0 (j := 0) I (by decide)
    have p_ad_0_0 : pt L f (ad 0 0) (.inr (11, [.ref (ad 1 0), .ref (ad 1 1), .ref (ad 2 0), .ref (ad 3 0), .ref (ad 4 0), .ref (ad 5 0), .ref (ad 6 0), .ref (ad 7 0), .ref (ad 8 0)])) := p_ad_0_0
    refine pg_get S Y ok_X11 0 (by decide) kf11_13 (v := .ref (ad 1 0)) p_ad_0_0 rfl dX11_day_11 ?_
    obtain ⟨v_73233, v_73235, v_73237, v_73239, v_73241, p_ad_1_0, b_73234, b_73236, b_73238, b_73240, b_73242⟩ := opnC_1 (j := 0) I (by decide)
    have p_ad_1_0 : pt L f (ad 1 0) (.inr (10, [.ref (ad 40 0), .ref (ad 41 0), .ref (ad 42 0), .ref (ad 10 0), .ref (ad 43 0), .ref (ad 20 0), .ref (ad 20 1), .ref (ad 20 2), .ref (ad 20 3), .ref (ad 20 4), .int v_73233, .int v_73235, .int v_73237, .int v_73239, .int v_73241])) := p_ad_1_0
    refine pg_getN S Y ok_X10 3 (by decide) kf11_131 (v := .ref (ad 10 0)) p_ad_1_0 rfl dX11_day_14 ?_
    obtain ⟨v_73243, v_73245, v_73247, v_73249, v_73251, p_ad_10_0, b_73244, b_73246, b_73248, b_73250, b_73252⟩ := opnC_10 (j := 0) I (by decide)
    have p_ad_10_0 : pt L f (ad 10 0) (.inr (4, [.ref (ad 11 0), .ref (ad 12 0), .int v_73243, .int v_73245, .int v_73247, .int v_73249, .int v_73251])) := p_ad_10_0
    refine pg_getN S Y ok_X4 4 (by decide) kf11_150 (v := .int v_73247) p_ad_10_0 rfl dX11_day_17 ?_
    refine lv_iload_n hx hb dX11_day_20 rfl (lv_at hl 1 rfl) ?_
    refine lv_iadd hx hb dX11_day_21 ?_
    refine lv_topi (fun x_73253 ex_73253 => ?_)
    refine lv_sipush (v := 9999) hx hb dX11_day_22 (by decide) ?_
    refine lv_icmp_le (tgt := 30) hx hb dX11_day_25 (by decide) (fun c_73254 => ?_) (fun c_73254 => ?_)
    · have B_73255 : bn (-2147483648) 9999 x_73253 := bn_w (bn_lel c_73254 (bn_any x_73253) (show bn 9999 9999 (9999 : Int32) from bn_k (by decide))) (by decide)
      refine lv_iconst (v := 0) hx hb dX11_day_30 (by decide) ?_
      refine lv_istore_n (lv' := [(2, .int 0), (0, .ref (ad 0 0)), (1, .int i1)]) hx hb dX11_day_31 rfl hl (by decide) rfl (fun ls hl => ?_)
      exact J_32 _ 0 _ _  _ _ _ I (bn_w (show bn 0 0 (0 : Int32) from bn_k (by decide)) (by decide)) rfl Y (lv_sub hl [1, 2, 0] rfl)
    · have B_73256 : bn 10000 2147483647 x_73253 := bn_w (bn_gtl c_73254 (bn_any x_73253) (show bn 9999 9999 (9999 : Int32) from bn_k (by decide))) (by decide)
      refine lv_iconst (v := (-1)) hx hb dX11_day_28 (by decide) ?_
      exact prI (post := fun r L1 f1 => SH (spC (NR 30 0 4) ((0, 6) : Int × Int) tc w q) nnC G ad L1 f1) S Y rfl (by decide) (by decide) hA1 I dX11_day_29
set_option maxHeartbeats 4000000 in
set_option maxRecDepth 100000 in
theorem x_X11_played {l : Launch} {G : GG}  {L : List Nat} {f : HF} {ad : Nat → Nat → Nat} {tc w : Nat → Int × Int} {q : Nat → (Nat → Int32) → Prop} {i1 : Int32} (I : SH (spC (NR 30 0 4) ((0, 6) : Int × Int) tc w q) nnC G ad L f) (hW : WBp w 8) (hT : WBp tc 4) (hQ : QIp q) (hZ : ZZp w q) (hE : ∀ j, (tc j).1 = (tc j).2) : PMi l yX11_played cX11_played 4 .int 7 0 0 G [.ref (ad 0 0), .int i1] L f (fun r L1 f1 => SH (spC (NR 30 0 4) ((0, 6) : Int × Int) tc w q) nnC G ad L1 f1) := by
  refine PMi.of (post := fun r L1 f1 => SH (spC (NR 30 0 4) ((0, 6) : Int × Int) tc w q) nnC G ad L1 f1) (own := RX11) (by decide) rfl (Nat.le_of_ble_eq_true rfl) (fun sz p e s m args below meth c A ls hA1 hname S Y hl => ?_)
  have hx := S.hx
  have hb := S.hb
  have hl : lv_has ls 4 [(0, .ref (ad 0 0)), (1, .int i1)] := hl
  have J_18 : ∀ (n18 : Nat) (y18_3 : Int32) (u18_2 : Nat) (L_18 : List Nat) (f_18 : HF) (H : Heap) (locs : List Loc) (ls : Array Slot), (SH (spC (NR 30 0 4) ((0, 6) : Int × Int) tc w q) nnC G ad L_18 f_18) → (u18_2 < 8) → (bn 0 24 y18_3) → (((24 : Int) - y18_3.toInt).toNat = n18) → (DY G A s [] L_18 f_18 H locs) → (lv_has ls 4 [(0, .ref (ad 0 0)), (1, .int i1), (2, .ref (ad 30 u18_2)), (3, .int y18_3)]) → W p l e (rmD 7 0 0) s m args below meth c H locs (0) (0) (MQ below (va_Qi (fun r (u : List Nat × HF) => (fun r L1 f1 => SH (spC (NR 30 0 4) ((0, 6) : Int × Int) tc w q) nnC G ad L1 f1) r u.1 u.2) (fun u t => pOut G (va_A (va_pl L f) sz) u.1 u.2 t) (va_A (va_pl L f) sz)) args s 0 0 A) (F0 m 18 ls []) := by
    intro n18
    induction n18 using Nat.strongRecOn with
    | _ n18 ih18 =>
      intro y18_3 u18_2 L_18 f_18 H locs ls I hu18_2 b_y18_3 hm18 Y hl
      refine lv_iload_n hx hb dX11_played_18 rfl (lv_at hl 3 rfl) ?_
      refine lv_aload_n hx hb dX11_played_19 rfl (lv_at hl 2 rfl) ?_
      obtain ⟨v_73499, v_73501, p_ad_30_u18_2, b_73500, b_73502⟩ := opnC_30 (j := u18_2) I hu18_2
      have p_ad_30_u18_2 : pt L_18 f_18 (ad 30 u18_2) (.inr (7, [.ref (ad 31 u18_2), .ref (ad 32 u18_2), .ref (ad 33 u18_2), .ref (ad 34 u18_2), .ref (ad 35 u18_2), .int v_73499, .int v_73501])) := p_ad_30_u18_2
      refine pg_getN S Y ok_X7 6 (by decide) kf11_165 (v := .int v_73501) p_ad_30_u18_2 rfl dX11_played_20 ?_
      refine lv_icmp_ge (tgt := 46) hx hb dX11_played_23 (by decide) (fun c_73503 => ?_) (fun c_73503 => ?_)
      · refine lv_iconst (v := (-1)) hx hb dX11_played_46 (by decide) ?_
        exact prI (post := fun r L1 f1 => SH (spC (NR 30 0 4) ((0, 6) : Int × Int) tc w q) nnC G ad L1 f1) S Y rfl (by decide) (by decide) hA1 I dX11_played_47
      · have B_73504 : bn 1 24 v_73501 := bn_w (bn_gtl c_73503 b_73502 b_y18_3) (by decide)
        have B_73505 : bn 0 23 y18_3 := bn_w (bn_gtr c_73503 b_73502 b_y18_3) (by decide)
        refine lv_aload_n hx hb dX11_played_26 rfl (lv_at hl 0 rfl) ?_
        have p_ad_0_0 := opnC_0 (j := 0) I (by decide)
        have p_ad_0_0 : pt L_18 f_18 (ad 0 0) (.inr (11, [.ref (ad 1 0), .ref (ad 1 1), .ref (ad 2 0), .ref (ad 3 0), .ref (ad 4 0), .ref (ad 5 0), .ref (ad 6 0), .ref (ad 7 0), .ref (ad 8 0)])) := p_ad_0_0
        refine pg_get S Y ok_X11 5 (by decide) kf11_50 (v := .ref (ad 5 0)) p_ad_0_0 rfl dX11_played_27 ?_
        refine lv_aload_n hx hb dX11_played_30 rfl (lv_at hl 2 rfl) ?_
        refine lv_iload_n hx hb dX11_played_31 rfl (lv_at hl 3 rfl) ?_
        refine cVi (As := [.ref (ad 30 u18_2), .int y18_3]) (rest := []) S Y (x_X1_perform (l := l) (j := u18_2) I hW hT hQ hu18_2) cw_X1_perform km11_170 (I.opo (k := 5) (j := 0) (by decide) rfl).choose_spec.1 ok_X1.1 rfl rfl ⟨Nat.le_of_ble_eq_true rfl, Nat.le_of_ble_eq_true rfl⟩ hl.1 rfl (Nat.le_of_ble_eq_true rfl) ⟨Nat.le_of_ble_eq_true rfl, Nat.le_of_ble_eq_true rfl⟩ dX11_played_32 (fun r_73508 L_73506 f_73507 H locs hr_73508 Y => ?_)
        obtain ⟨er_73508, I⟩ := hr_73508
        refine lv_if_ne (tgt := 40) hx hb dX11_played_35 (by decide) (fun c_73509 => ?_) (fun c_73509 => ?_)
        · have B_73510 : bn 1 1 r_73508 := bn_w (bn_nel c_73509 er_73508 (show bn 0 0 (0 : Int32) from bn_k (by decide))) (by decide)
          obtain ⟨x_73512, ex_73512⟩ : ∃ z : Int32, z = y18_3 + 1 := ⟨_, rfl⟩
          refine lv_iinc (v := x_73512) (lv' := [(3, .int x_73512), (0, .ref (ad 0 0)), (1, .int i1), (2, .ref (ad 30 u18_2))]) hx hb dX11_played_40 hl (k := 3) rfl (by rw [ex_73512]; rfl) (by decide) rfl (fun ls hl => ?_)
          refine lv_goto (tgt := 18) hx hb dX11_played_43 (by decide) ?_
          exact ih18 _ (by rw [← hm18]; exact ms_up (m := 1) ex_73512 (show bn 1 1 (1 : Int32) from bn_k (by decide)) B_73505 (bn_w (bn_eq ex_73512 (bn_add B_73505 (show bn 1 1 (1 : Int32) from bn_k (by decide)) (by decide))) (by decide) : bn 0 24 x_73512) (by decide)) x_73512 u18_2 _ _  _ _ _ I hu18_2 (bn_w (bn_eq ex_73512 (bn_add B_73505 (show bn 1 1 (1 : Int32) from bn_k (by decide)) (by decide))) (by decide)) rfl Y (lv_sub hl [1, 2, 3, 0] rfl)
        · have B_73511 : bn 0 0 r_73508 := bn_w (bn_eq c_73509 (show bn 0 0 (0 : Int32) from bn_k (by decide))) (by decide)
          refine lv_iload_n hx hb dX11_played_38 rfl (lv_at hl 3 rfl) ?_
          exact prI (post := fun r L1 f1 => SH (spC (NR 30 0 4) ((0, 6) : Int × Int) tc w q) nnC G ad L1 f1) S Y rfl (by decide) (by decide) hA1 I dX11_played_39
  refine lv_aload_n hx hb dX11_played_0 rfl (lv_at hl 0 rfl) ?_
  have p_ad_0_0 := opnC_0 (j := 0) I (by decide)
  have p_ad_0_0 : pt L f (ad 0 0) (.inr (11, [.ref (ad 1 0), .ref (ad 1 1), .ref (ad 2 0), .ref (ad 3 0), .ref (ad 4 0), .ref (ad 5 0), .ref (ad 6 0), .ref (ad 7 0), .ref (ad 8 0)])) := p_ad_0_0
  refine pg_get S Y ok_X11 0 (by decide) kf11_13 (v := .ref (ad 1 0)) p_ad_0_0 rfl dX11_played_1 ?_
  refine lv_iload_n hx hb dX11_played_4 rfl (lv_at hl 1 rfl) ?_
  refine cVw (As := [.int i1]) (rest := []) S Y (x_X10_script (l := l) I hW hT hQ) cw_X10_script km11_161 (I.opo (k := 1) (j := 0) (by decide) rfl).choose_spec.1 ok_X10.1 rfl rfl ⟨Nat.le_of_ble_eq_true rfl, Nat.le_of_ble_eq_true rfl⟩ hl.1 rfl (Nat.le_of_ble_eq_true rfl) ⟨Nat.le_of_ble_eq_true rfl, Nat.le_of_ble_eq_true rfl⟩ dX11_played_5 (fun r_73513 H locs er_73513 Y => ?_)
  rcases er_73513 with er_73513 | ⟨t_73514, ht_73514, er_73513⟩
  · rw [er_73513]
    show W _ _ _ _ _ _ _ _ _ _ _ _ _ _ _ (F0 _ _ _ (.null :: _))
    refine lv_astore_nN (lv' := [(2, .null), (0, .ref (ad 0 0)), (1, .int i1)]) hx hb dX11_played_8 rfl hl (by decide) rfl (fun ls hl => ?_)
    refine lv_aload_nN hx hb dX11_played_9 rfl (lv_at hl 0 rfl) ?_
    refine lv_ifnonnullN hx hb dX11_played_10 ?_
    refine lv_bipush (v := (-2)) hx hb dX11_played_13 (by decide) ?_
    exact prI (post := fun r L1 f1 => SH (spC (NR 30 0 4) ((0, 6) : Int × Int) tc w q) nnC G ad L1 f1) S Y rfl (by decide) (by decide) hA1 I dX11_played_15
  · rw [er_73513]
    have e9 : 0 + t_73514 = t_73514 := Nat.zero_add _
    rw [e9]
    show W _ _ _ _ _ _ _ _ _ _ _ _ _ _ _ (F0 _ _ _ (.ref (ad 30 t_73514) :: _))
    refine lv_astore_n (lv' := [(2, .ref (ad 30 t_73514)), (0, .ref (ad 0 0)), (1, .int i1)]) hx hb dX11_played_8 rfl hl (by decide) rfl (fun ls hl => ?_)
    refine lv_aload_n hx hb dX11_played_9 rfl (lv_at hl 0 rfl) ?_
    refine lv_ifnonnull (tgt := 16) hx hb dX11_played_10 (by decide) ?_
    refine lv_iconst (v := 0) hx hb dX11_played_16 (by decide) ?_
    refine lv_istore_n (lv' := [(3, .int 0), (2, .ref (ad 30 t_73514)), (0, .ref (ad 0 0)), (1, .int i1)]) hx hb dX11_played_17 rfl hl (by decide) rfl (fun ls hl => ?_)
    exact J_18 _ 0 t_73514 _ _  _ _ _ I (show t_73514 < 8 from by omega) (bn_w (show bn 0 0 (0 : Int32) from bn_k (by decide)) (by decide)) rfl Y (lv_sub hl [2, 3, 1, 0] rfl)
set_option maxHeartbeats 4000000 in
set_option maxRecDepth 100000 in
theorem x_X11_years {l : Launch} {G : GG}  {L : List Nat} {f : HF} {ad : Nat → Nat → Nat} {tc w : Nat → Int × Int} {q : Nat → (Nat → Int32) → Prop} {i1 i2 : Int32} (I : SH (spC (NR 30 0 4) ((0, 6) : Int × Int) tc w q) nnC G ad L f) (hW : WBp w 8) (hT : WBp tc 4) (hQ : QIp q) (hZ : ZZp w q) (hE : ∀ j, (tc j).1 = (tc j).2) : PMi l yX11_years cX11_years 4 .int 7 0 0 G [.ref (ad 0 0), .int i1, .int i2] L f (fun r L1 f1 => SH (spC (NR 30 0 4) ((0, 6) : Int × Int) tc w q) nnC G ad L1 f1) := by
  refine PMi.of (post := fun r L1 f1 => SH (spC (NR 30 0 4) ((0, 6) : Int × Int) tc w q) nnC G ad L1 f1) (own := RX11) (by decide) rfl (Nat.le_of_ble_eq_true rfl) (fun sz p e s m args below meth c A ls hA1 hname S Y hl => ?_)
  have hx := S.hx
  have hb := S.hb
  have hl : lv_has ls 4 [(0, .ref (ad 0 0)), (1, .int i1), (2, .int i2)] := hl
  have J_43 : ∀ (n43 : Nat) (y43_3 : Int32) (L_43 : List Nat) (f_43 : HF) (H : Heap) (locs : List Loc) (ls : Array Slot), (SH (spC (NR 30 0 4) ((0, 6) : Int × Int) tc w q) nnC G ad L_43 f_43) → (bn 0 2147483647 y43_3) → (((2147483647 : Int) - y43_3.toInt).toNat = n43) → (DY G A s [] L_43 f_43 H locs) → (lv_has ls 4 [(0, .ref (ad 0 0)), (1, .int i1), (2, .int i2), (3, .int y43_3)]) → W p l e (rmD 7 0 0) s m args below meth c H locs (0) (0) (MQ below (va_Qi (fun r (u : List Nat × HF) => (fun r L1 f1 => SH (spC (NR 30 0 4) ((0, 6) : Int × Int) tc w q) nnC G ad L1 f1) r u.1 u.2) (fun u t => pOut G (va_A (va_pl L f) sz) u.1 u.2 t) (va_A (va_pl L f) sz)) args s 0 0 A) (F0 m 43 ls []) := by
    intro n43
    induction n43 using Nat.strongRecOn with
    | _ n43 ih43 =>
      intro y43_3 L_43 f_43 H locs ls I b_y43_3 hm43 Y hl
      refine lv_iload_n hx hb dX11_years_43 rfl (lv_at hl 3 rfl) ?_
      refine lv_iload_n hx hb dX11_years_44 rfl (lv_at hl 2 rfl) ?_
      refine lv_icmp_ge (tgt := 61) hx hb dX11_years_45 (by decide) (fun c_74989 => ?_) (fun c_74989 => ?_)
      · refine lv_aload_n hx hb dX11_years_61 rfl (lv_at hl 0 rfl) ?_
        have p_ad_0_0 := opnC_0 (j := 0) I (by decide)
        have p_ad_0_0 : pt L_43 f_43 (ad 0 0) (.inr (11, [.ref (ad 1 0), .ref (ad 1 1), .ref (ad 2 0), .ref (ad 3 0), .ref (ad 4 0), .ref (ad 5 0), .ref (ad 6 0), .ref (ad 7 0), .ref (ad 8 0)])) := p_ad_0_0
        refine pg_get S Y ok_X11 5 (by decide) kf11_50 (v := .ref (ad 5 0)) p_ad_0_0 rfl dX11_years_62 ?_
        refine cVv (As := []) (rest := []) S Y (x_X1_endYears (l := l) I hW hT hQ) cw_X1_endYears km11_183 (I.opo (k := 5) (j := 0) (by decide) rfl).choose_spec.1 ok_X1.1 rfl rfl ⟨Nat.le_of_ble_eq_true rfl, Nat.le_of_ble_eq_true rfl⟩ hl.1 rfl (Nat.le_of_ble_eq_true rfl) ⟨Nat.le_of_ble_eq_true rfl, Nat.le_of_ble_eq_true rfl⟩ dX11_years_65 (fun L_74992 f_74993 H locs I Y => ?_)
        refine lv_aload_n hx hb dX11_years_68 rfl (lv_at hl 0 rfl) ?_
        have p_ad_0_0 := opnC_0 (j := 0) I (by decide)
        have p_ad_0_0 : pt L_74992 f_74993 (ad 0 0) (.inr (11, [.ref (ad 1 0), .ref (ad 1 1), .ref (ad 2 0), .ref (ad 3 0), .ref (ad 4 0), .ref (ad 5 0), .ref (ad 6 0), .ref (ad 7 0), .ref (ad 8 0)])) := p_ad_0_0
        refine pg_get S Y ok_X11 0 (by decide) kf11_13 (v := .ref (ad 1 0)) p_ad_0_0 rfl dX11_years_69 ?_
        obtain ⟨v_74994, v_74996, v_74998, v_75000, v_75002, p_ad_1_0, b_74995, b_74997, b_74999, b_75001, b_75003⟩ := opnC_1 (j := 0) I (by decide)
        have p_ad_1_0 : pt L_74992 f_74993 (ad 1 0) (.inr (10, [.ref (ad 40 0), .ref (ad 41 0), .ref (ad 42 0), .ref (ad 10 0), .ref (ad 43 0), .ref (ad 20 0), .ref (ad 20 1), .ref (ad 20 2), .ref (ad 20 3), .ref (ad 20 4), .int v_74994, .int v_74996, .int v_74998, .int v_75000, .int v_75002])) := p_ad_1_0
        refine pg_getN S Y ok_X10 3 (by decide) kf11_131 (v := .ref (ad 10 0)) p_ad_1_0 rfl dX11_years_72 ?_
        obtain ⟨v_75004, v_75006, v_75008, v_75010, v_75012, p_ad_10_0, b_75005, b_75007, b_75009, b_75011, b_75013⟩ := opnC_10 (j := 0) I (by decide)
        have p_ad_10_0 : pt L_74992 f_74993 (ad 10 0) (.inr (4, [.ref (ad 11 0), .ref (ad 12 0), .int v_75004, .int v_75006, .int v_75008, .int v_75010, .int v_75012])) := p_ad_10_0
        refine pg_getN S Y ok_X4 4 (by decide) kf11_150 (v := .int v_75008) p_ad_10_0 rfl dX11_years_75 ?_
        exact prI (post := fun r L1 f1 => SH (spC (NR 30 0 4) ((0, 6) : Int × Int) tc w q) nnC G ad L1 f1) S Y rfl (by decide) (by decide) hA1 I dX11_years_78
      · have B_74990 : bn 1 2147483647 i2 := bn_w (bn_gtl c_74989 (bn_any i2) b_y43_3) (by decide)
        have B_74991 : bn 0 2147483646 y43_3 := bn_w (bn_gtr c_74989 (bn_any i2) b_y43_3) (by decide)
        refine lv_aload_n hx hb dX11_years_48 rfl (lv_at hl 0 rfl) ?_
        have p_ad_0_0 := opnC_0 (j := 0) I (by decide)
        have p_ad_0_0 : pt L_43 f_43 (ad 0 0) (.inr (11, [.ref (ad 1 0), .ref (ad 1 1), .ref (ad 2 0), .ref (ad 3 0), .ref (ad 4 0), .ref (ad 5 0), .ref (ad 6 0), .ref (ad 7 0), .ref (ad 8 0)])) := p_ad_0_0
        refine pg_get S Y ok_X11 5 (by decide) kf11_50 (v := .ref (ad 5 0)) p_ad_0_0 rfl dX11_years_49 ?_
        refine cVv (As := []) (rest := []) S Y (x_X1_liveOn (l := l) I hW hT hQ) cw_X1_liveOn km11_180 (I.opo (k := 5) (j := 0) (by decide) rfl).choose_spec.1 ok_X1.1 rfl rfl ⟨Nat.le_of_ble_eq_true rfl, Nat.le_of_ble_eq_true rfl⟩ hl.1 rfl (Nat.le_of_ble_eq_true rfl) ⟨Nat.le_of_ble_eq_true rfl, Nat.le_of_ble_eq_true rfl⟩ dX11_years_52 (fun L_75014 f_75015 H locs I Y => ?_)
        obtain ⟨x_75016, ex_75016⟩ : ∃ z : Int32, z = y43_3 + 1 := ⟨_, rfl⟩
        refine lv_iinc (v := x_75016) (lv' := [(3, .int x_75016), (0, .ref (ad 0 0)), (1, .int i1), (2, .int i2)]) hx hb dX11_years_55 hl (k := 3) rfl (by rw [ex_75016]; rfl) (by decide) rfl (fun ls hl => ?_)
        refine lv_goto (tgt := 43) hx hb dX11_years_58 (by decide) ?_
        exact ih43 _ (by rw [← hm43]; exact ms_up (m := 1) ex_75016 (show bn 1 1 (1 : Int32) from bn_k (by decide)) B_74991 (bn_w (bn_eq ex_75016 (bn_add B_74991 (show bn 1 1 (1 : Int32) from bn_k (by decide)) (by decide))) (by decide) : bn 0 2147483647 x_75016) (by decide)) x_75016 _ _  _ _ _ I (bn_w (bn_eq ex_75016 (bn_add B_74991 (show bn 1 1 (1 : Int32) from bn_k (by decide)) (by decide))) (by decide)) rfl Y (lv_sub hl [1, 2, 3, 0] rfl)
  refine lv_iload_n hx hb dX11_years_0 rfl (lv_at hl 1 rfl) ?_
  refine lv_iconst (v := 0) hx hb dX11_years_1 (by decide) ?_
  refine lv_sipush (v := 9999) hx hb dX11_years_2 (by decide) ?_
  refine cSp (As := [.int i1, .int 0, .int 9999]) (rest := []) S Y (x_X11_within (l := l) ) cw_X11_within km11_146 rfl ⟨Nat.le_of_ble_eq_true rfl, Nat.le_of_ble_eq_true rfl⟩ hl.1 rfl (Nat.le_of_ble_eq_true rfl) ⟨Nat.le_of_ble_eq_true rfl, Nat.le_of_ble_eq_true rfl⟩ dX11_years_5 (fun r_75017 H locs er_75017 Y => ?_)
  refine lv_if_eq (tgt := 31) hx hb dX11_years_8 (by decide) (fun c_75018 => ?_) (fun c_75018 => ?_)
  · have B_75019 : bn 0 0 r_75017 := bn_w (bn_eq c_75018 (show bn 0 0 (0 : Int32) from bn_k (by decide))) (by decide)
    refine lv_iconst (v := (-1)) hx hb dX11_years_31 (by decide) ?_
    exact prI (post := fun r L1 f1 => SH (spC (NR 30 0 4) ((0, 6) : Int × Int) tc w q) nnC G ad L1 f1) S Y rfl (by decide) (by decide) hA1 I dX11_years_32
  · have B_75020 : bn 1 1 r_75017 := bn_w (bn_nel c_75018 er_75017 (show bn 0 0 (0 : Int32) from bn_k (by decide))) (by decide)
    refine lv_iload_n hx hb dX11_years_11 rfl (lv_at hl 2 rfl) ?_
    refine lv_iconst (v := 1) hx hb dX11_years_12 (by decide) ?_
    refine lv_bipush (v := 40) hx hb dX11_years_13 (by decide) ?_
    refine cSp (As := [.int i2, .int 1, .int 40]) (rest := []) S Y (x_X11_within (l := l) ) cw_X11_within km11_146 rfl ⟨Nat.le_of_ble_eq_true rfl, Nat.le_of_ble_eq_true rfl⟩ hl.1 rfl (Nat.le_of_ble_eq_true rfl) ⟨Nat.le_of_ble_eq_true rfl, Nat.le_of_ble_eq_true rfl⟩ dX11_years_15 (fun r_75021 H locs er_75021 Y => ?_)
    refine lv_if_eq (tgt := 31) hx hb dX11_years_18 (by decide) (fun c_75022 => ?_) (fun c_75022 => ?_)
    · have B_75023 : bn 0 0 r_75021 := bn_w (bn_eq c_75022 (show bn 0 0 (0 : Int32) from bn_k (by decide))) (by decide)
      refine lv_iconst (v := (-1)) hx hb dX11_years_31 (by decide) ?_
      exact prI (post := fun r L1 f1 => SH (spC (NR 30 0 4) ((0, 6) : Int × Int) tc w q) nnC G ad L1 f1) S Y rfl (by decide) (by decide) hA1 I dX11_years_32
    · have B_75024 : bn 1 1 r_75021 := bn_w (bn_nel c_75022 er_75021 (show bn 0 0 (0 : Int32) from bn_k (by decide))) (by decide)
      refine lv_aload_n hx hb dX11_years_21 rfl (lv_at hl 0 rfl) ?_
      have p_ad_0_0 := opnC_0 (j := 0) I (by decide)
      have p_ad_0_0 : pt L f (ad 0 0) (.inr (11, [.ref (ad 1 0), .ref (ad 1 1), .ref (ad 2 0), .ref (ad 3 0), .ref (ad 4 0), .ref (ad 5 0), .ref (ad 6 0), .ref (ad 7 0), .ref (ad 8 0)])) := p_ad_0_0
      refine pg_get S Y ok_X11 0 (by decide) kf11_13 (v := .ref (ad 1 0)) p_ad_0_0 rfl dX11_years_22 ?_
      obtain ⟨v_75025, v_75027, v_75029, v_75031, v_75033, p_ad_1_0, b_75026, b_75028, b_75030, b_75032, b_75034⟩ := opnC_1 (j := 0) I (by decide)
      have p_ad_1_0 : pt L f (ad 1 0) (.inr (10, [.ref (ad 40 0), .ref (ad 41 0), .ref (ad 42 0), .ref (ad 10 0), .ref (ad 43 0), .ref (ad 20 0), .ref (ad 20 1), .ref (ad 20 2), .ref (ad 20 3), .ref (ad 20 4), .int v_75025, .int v_75027, .int v_75029, .int v_75031, .int v_75033])) := p_ad_1_0
      refine pg_getN S Y ok_X10 10 (by decide) kf11_174 (v := .int v_75025) p_ad_1_0 rfl dX11_years_25 ?_
      refine lv_if_ne (tgt := 33) hx hb dX11_years_28 (by decide) (fun c_75035 => ?_) (fun c_75035 => ?_)
      · have B_75036 : bn 1 6 v_75025 := bn_w (bn_nel c_75035 b_75026 (show bn 0 0 (0 : Int32) from bn_k (by decide))) (by decide)
        refine lv_aload_n hx hb dX11_years_33 rfl (lv_at hl 0 rfl) ?_
        refine pg_get S Y ok_X11 5 (by decide) kf11_50 (v := .ref (ad 5 0)) p_ad_0_0 rfl dX11_years_34 ?_
        refine lv_iload_n hx hb dX11_years_37 rfl (lv_at hl 1 rfl) ?_
        refine cVv (As := [.int i1]) (rest := []) S Y (x_X1_beginYears (l := l) I hW hT hQ) cw_X1_beginYears km11_177 (I.opo (k := 5) (j := 0) (by decide) rfl).choose_spec.1 ok_X1.1 rfl rfl ⟨Nat.le_of_ble_eq_true rfl, Nat.le_of_ble_eq_true rfl⟩ hl.1 rfl (Nat.le_of_ble_eq_true rfl) ⟨Nat.le_of_ble_eq_true rfl, Nat.le_of_ble_eq_true rfl⟩ dX11_years_38 (fun L_75038 f_75039 H locs I Y => ?_)
        refine lv_iconst (v := 0) hx hb dX11_years_41 (by decide) ?_
        refine lv_istore_n (lv' := [(3, .int 0), (0, .ref (ad 0 0)), (1, .int i1), (2, .int i2)]) hx hb dX11_years_42 rfl hl (by decide) rfl (fun ls hl => ?_)
        exact J_43 _ 0 _ _  _ _ _ I (bn_w (show bn 0 0 (0 : Int32) from bn_k (by decide)) (by decide)) rfl Y (lv_sub hl [1, 2, 3, 0] rfl)
      · have B_75037 : bn 0 0 v_75025 := bn_w (bn_eq c_75035 (show bn 0 0 (0 : Int32) from bn_k (by decide))) (by decide)
        refine lv_iconst (v := (-1)) hx hb dX11_years_31 (by decide) ?_
        exact prI (post := fun r L1 f1 => SH (spC (NR 30 0 4) ((0, 6) : Int × Int) tc w q) nnC G ad L1 f1) S Y rfl (by decide) (by decide) hA1 I dX11_years_32
set_option maxHeartbeats 4000000 in
set_option maxRecDepth 100000 in
theorem x_X11_undo {l : Launch} {G : GG}  {L : List Nat} {f : HF} {ad : Nat → Nat → Nat} {tc w : Nat → Int × Int} {q : Nat → (Nat → Int32) → Prop} (I : SH (spC (NR 30 0 4) ((0, 6) : Int × Int) tc w q) nnC G ad L f) (hW : WBp w 8) (hT : WBp tc 4) (hQ : QIp q) (hZ : ZZp w q) (hE : ∀ j, (tc j).1 = (tc j).2) : PMi l yX11_undo cX11_undo 1 .int 3 0 0 G [.ref (ad 0 0)] L f (fun r L1 f1 => SH (spC (NR 30 0 4) ((0, 6) : Int × Int) tc w q) nnC G ad L1 f1) := by
  refine PMi.of (post := fun r L1 f1 => SH (spC (NR 30 0 4) ((0, 6) : Int × Int) tc w q) nnC G ad L1 f1) (own := RX11) (by decide) rfl (Nat.le_of_ble_eq_true rfl) (fun sz p e s m args below meth c A ls hA1 hname S Y hl => ?_)
  have hx := S.hx
  have hb := S.hb
  have hl : lv_has ls 1 [(0, .ref (ad 0 0))] := hl
  refine lv_aload_n hx hb dX11_undo_0 rfl (lv_at hl 0 rfl) ?_
  have p_ad_0_0 := opnC_0 (j := 0) I (by decide)
  have p_ad_0_0 : pt L f (ad 0 0) (.inr (11, [.ref (ad 1 0), .ref (ad 1 1), .ref (ad 2 0), .ref (ad 3 0), .ref (ad 4 0), .ref (ad 5 0), .ref (ad 6 0), .ref (ad 7 0), .ref (ad 8 0)])) := p_ad_0_0
  refine pg_get S Y ok_X11 0 (by decide) kf11_13 (v := .ref (ad 1 0)) p_ad_0_0 rfl dX11_undo_1 ?_
  refine cVi (As := []) (rest := []) S Y (x_X10_takeBack (l := l) I hW hT hQ) cw_X10_takeBack km11_186 (I.opo (k := 1) (j := 0) (by decide) rfl).choose_spec.1 ok_X10.1 rfl rfl ⟨Nat.le_of_ble_eq_true rfl, Nat.le_of_ble_eq_true rfl⟩ hl.1 rfl (Nat.le_of_ble_eq_true rfl) ⟨Nat.le_of_ble_eq_true rfl, Nat.le_of_ble_eq_true rfl⟩ dX11_undo_4 (fun r_75074 L_75072 f_75073 H locs hr_75074 Y => ?_)
  obtain ⟨er_75074, I⟩ := hr_75074
  refine lv_if_eq (tgt := 20) hx hb dX11_undo_7 (by decide) (fun c_75075 => ?_) (fun c_75075 => ?_)
  · have B_75076 : bn 0 0 r_75074 := bn_w (bn_eq c_75075 (show bn 0 0 (0 : Int32) from bn_k (by decide))) (by decide)
    refine lv_iconst (v := (-1)) hx hb dX11_undo_20 (by decide) ?_
    exact prI (post := fun r L1 f1 => SH (spC (NR 30 0 4) ((0, 6) : Int × Int) tc w q) nnC G ad L1 f1) S Y rfl (by decide) (by decide) hA1 I dX11_undo_21
  · have B_75077 : bn 1 1 r_75074 := bn_w (bn_nel c_75075 er_75074 (show bn 0 0 (0 : Int32) from bn_k (by decide))) (by decide)
    refine lv_aload_n hx hb dX11_undo_10 rfl (lv_at hl 0 rfl) ?_
    have p_ad_0_0 := opnC_0 (j := 0) I (by decide)
    have p_ad_0_0 : pt L_75072 f_75073 (ad 0 0) (.inr (11, [.ref (ad 1 0), .ref (ad 1 1), .ref (ad 2 0), .ref (ad 3 0), .ref (ad 4 0), .ref (ad 5 0), .ref (ad 6 0), .ref (ad 7 0), .ref (ad 8 0)])) := p_ad_0_0
    refine pg_get S Y ok_X11 0 (by decide) kf11_13 (v := .ref (ad 1 0)) p_ad_0_0 rfl dX11_undo_11 ?_
    obtain ⟨v_75078, v_75080, v_75082, v_75084, v_75086, p_ad_1_0, b_75079, b_75081, b_75083, b_75085, b_75087⟩ := opnC_1 (j := 0) I (by decide)
    have p_ad_1_0 : pt L_75072 f_75073 (ad 1 0) (.inr (10, [.ref (ad 40 0), .ref (ad 41 0), .ref (ad 42 0), .ref (ad 10 0), .ref (ad 43 0), .ref (ad 20 0), .ref (ad 20 1), .ref (ad 20 2), .ref (ad 20 3), .ref (ad 20 4), .int v_75078, .int v_75080, .int v_75082, .int v_75084, .int v_75086])) := p_ad_1_0
    refine pg_getN S Y ok_X10 14 (by decide) kf11_189 (v := .int v_75086) p_ad_1_0 rfl dX11_undo_14 ?_
    refine lv_goto (tgt := 21) hx hb dX11_undo_17 (by decide) ?_
    exact prI (post := fun r L1 f1 => SH (spC (NR 30 0 4) ((0, 6) : Int × Int) tc w q) nnC G ad L1 f1) S Y rfl (by decide) (by decide) hA1 I dX11_undo_21
set_option maxHeartbeats 4000000 in
set_option maxRecDepth 100000 in
theorem x_X11_of {l : Launch} {G : GG}  {L : List Nat} {f : HF} {ad : Nat → Nat → Nat} {tc w : Nat → Int × Int} {q : Nat → (Nat → Int32) → Prop} {i1 i2 : Int32} (I : SH (spC (NR 30 0 4) ((0, 6) : Int × Int) tc w q) nnC G ad L f) (hW : WBp w 8) (hT : WBp tc 4) (hQ : QIp q) (hZ : ZZp w q) (hE : ∀ j, (tc j).1 = (tc j).2) : PMi l yX11_of cX11_of 3 .int 5 0 0 G [.ref (ad 0 0), .int i1, .int i2] L f (fun r L1 f1 => SH (spC (NR 30 0 4) ((0, 6) : Int × Int) tc w q) nnC G ad L1 f1) := by
  refine PMi.of (post := fun r L1 f1 => SH (spC (NR 30 0 4) ((0, 6) : Int × Int) tc w q) nnC G ad L1 f1) (own := RX11) (by decide) rfl (Nat.le_of_ble_eq_true rfl) (fun sz p e s m args below meth c A ls hA1 hname S Y hl => ?_)
  have hx := S.hx
  have hb := S.hb
  have hl : lv_has ls 3 [(0, .ref (ad 0 0)), (1, .int i1), (2, .int i2)] := hl
  refine lv_aload_n hx hb dX11_of_0 rfl (lv_at hl 0 rfl) ?_
  have p_ad_0_0 := opnC_0 (j := 0) I (by decide)
  have p_ad_0_0 : pt L f (ad 0 0) (.inr (11, [.ref (ad 1 0), .ref (ad 1 1), .ref (ad 2 0), .ref (ad 3 0), .ref (ad 4 0), .ref (ad 5 0), .ref (ad 6 0), .ref (ad 7 0), .ref (ad 8 0)])) := p_ad_0_0
  refine pg_get S Y ok_X11 0 (by decide) kf11_13 (v := .ref (ad 1 0)) p_ad_0_0 rfl dX11_of_1 ?_
  refine lv_iload_n hx hb dX11_of_4 rfl (lv_at hl 1 rfl) ?_
  refine cVp (As := [.int i1]) (rest := []) S Y (x_X10_has (l := l) I hW hT hQ) cw_X10_has km11_192 (I.opo (k := 1) (j := 0) (by decide) rfl).choose_spec.1 ok_X10.1 rfl rfl ⟨Nat.le_of_ble_eq_true rfl, Nat.le_of_ble_eq_true rfl⟩ hl.1 rfl (Nat.le_of_ble_eq_true rfl) ⟨Nat.le_of_ble_eq_true rfl, Nat.le_of_ble_eq_true rfl⟩ dX11_of_5 (fun r_75178 H locs er_75178 Y => ?_)
  refine lv_if_ne (tgt := 15) hx hb dX11_of_8 (by decide) (fun c_75179 => ?_) (fun c_75179 => ?_)
  · have B_75180 : bn 1 1 r_75178 := bn_w (bn_nel c_75179 er_75178 (show bn 0 0 (0 : Int32) from bn_k (by decide))) (by decide)
    refine lv_iload_n hx hb dX11_of_15 rfl (lv_at hl 2 rfl) ?_
    rcases sw_0_5 i2 with h_75182 | h_75182 | h_75182 | h_75182 | h_75182 | h_75182 | h_75182
    · refine lv_fold (z := 0) h_75182 ?_
      refine lv_tableIn (off := 40) (tgt := 56) hx hb dX11_of_16 (by decide) (by decide) (by decide) (by decide) ?_
      refine lv_aload_n hx hb dX11_of_56 rfl (lv_at hl 0 rfl) ?_
      refine pg_get S Y ok_X11 0 (by decide) kf11_13 (v := .ref (ad 1 0)) p_ad_0_0 rfl dX11_of_57 ?_
      refine lv_iload_n hx hb dX11_of_60 rfl (lv_at hl 1 rfl) ?_
      refine cVp (As := [.int i1]) (rest := []) S Y (x_X10_toughOf (l := l) I hW hT hQ) cw_X10_toughOf km11_195 (I.opo (k := 1) (j := 0) (by decide) rfl).choose_spec.1 ok_X10.1 rfl rfl ⟨Nat.le_of_ble_eq_true rfl, Nat.le_of_ble_eq_true rfl⟩ hl.1 rfl (Nat.le_of_ble_eq_true rfl) ⟨Nat.le_of_ble_eq_true rfl, Nat.le_of_ble_eq_true rfl⟩ dX11_of_61 (fun r_75183 H locs er_75183 Y => ?_)
      exact prI (post := fun r L1 f1 => SH (spC (NR 30 0 4) ((0, 6) : Int × Int) tc w q) nnC G ad L1 f1) S Y rfl (by decide) (by decide) hA1 I dX11_of_64
    · refine lv_fold (z := 1) h_75182 ?_
      refine lv_tableIn (off := 49) (tgt := 65) hx hb dX11_of_16 (by decide) (by decide) (by decide) (by decide) ?_
      refine lv_aload_n hx hb dX11_of_65 rfl (lv_at hl 0 rfl) ?_
      refine pg_get S Y ok_X11 0 (by decide) kf11_13 (v := .ref (ad 1 0)) p_ad_0_0 rfl dX11_of_66 ?_
      refine lv_iload_n hx hb dX11_of_69 rfl (lv_at hl 1 rfl) ?_
      refine cVp (As := [.int i1]) (rest := []) S Y (x_X10_ageOf (l := l) I hW hT hQ) cw_X10_ageOf km11_198 (I.opo (k := 1) (j := 0) (by decide) rfl).choose_spec.1 ok_X10.1 rfl rfl ⟨Nat.le_of_ble_eq_true rfl, Nat.le_of_ble_eq_true rfl⟩ hl.1 rfl (Nat.le_of_ble_eq_true rfl) ⟨Nat.le_of_ble_eq_true rfl, Nat.le_of_ble_eq_true rfl⟩ dX11_of_70 (fun r_75184 H locs er_75184 Y => ?_)
      exact prI (post := fun r L1 f1 => SH (spC (NR 30 0 4) ((0, 6) : Int × Int) tc w q) nnC G ad L1 f1) S Y rfl (by decide) (by decide) hA1 I dX11_of_73
    · refine lv_fold (z := 2) h_75182 ?_
      refine lv_tableIn (off := 58) (tgt := 74) hx hb dX11_of_16 (by decide) (by decide) (by decide) (by decide) ?_
      refine lv_aload_n hx hb dX11_of_74 rfl (lv_at hl 0 rfl) ?_
      refine pg_get S Y ok_X11 0 (by decide) kf11_13 (v := .ref (ad 1 0)) p_ad_0_0 rfl dX11_of_75 ?_
      obtain ⟨v_75185, v_75187, v_75189, v_75191, v_75193, p_ad_1_0, b_75186, b_75188, b_75190, b_75192, b_75194⟩ := opnC_1 (j := 0) I (by decide)
      have p_ad_1_0 : pt L f (ad 1 0) (.inr (10, [.ref (ad 40 0), .ref (ad 41 0), .ref (ad 42 0), .ref (ad 10 0), .ref (ad 43 0), .ref (ad 20 0), .ref (ad 20 1), .ref (ad 20 2), .ref (ad 20 3), .ref (ad 20 4), .int v_75185, .int v_75187, .int v_75189, .int v_75191, .int v_75193])) := p_ad_1_0
      refine pg_getN S Y ok_X10 3 (by decide) kf11_131 (v := .ref (ad 10 0)) p_ad_1_0 rfl dX11_of_78 ?_
      refine lv_iload_n hx hb dX11_of_81 rfl (lv_at hl 1 rfl) ?_
      refine cVp (As := [.int i1]) (rest := []) S Y (x_X4_marks (l := l) (j := 0) I hW hT hQ (by decide)) cw_X4_marks km11_135 (I.opo (k := 10) (j := 0) (by decide) rfl).choose_spec.1 ok_X4.1 rfl rfl ⟨Nat.le_of_ble_eq_true rfl, Nat.le_of_ble_eq_true rfl⟩ hl.1 rfl (Nat.le_of_ble_eq_true rfl) ⟨Nat.le_of_ble_eq_true rfl, Nat.le_of_ble_eq_true rfl⟩ dX11_of_82 (fun r_75195 H locs er_75195 Y => ?_)
      exact prI (post := fun r L1 f1 => SH (spC (NR 30 0 4) ((0, 6) : Int × Int) tc w q) nnC G ad L1 f1) S Y rfl (by decide) (by decide) hA1 I dX11_of_85
    · refine lv_fold (z := 3) h_75182 ?_
      refine lv_tableIn (off := 70) (tgt := 86) hx hb dX11_of_16 (by decide) (by decide) (by decide) (by decide) ?_
      refine lv_aload_n hx hb dX11_of_86 rfl (lv_at hl 0 rfl) ?_
      refine pg_get S Y ok_X11 3 (by decide) kf11_34 (v := .ref (ad 3 0)) p_ad_0_0 rfl dX11_of_87 ?_
      refine lv_aload_n hx hb dX11_of_90 rfl (lv_at hl 0 rfl) ?_
      refine pg_get S Y ok_X11 0 (by decide) kf11_13 (v := .ref (ad 1 0)) p_ad_0_0 rfl dX11_of_91 ?_
      obtain ⟨v_75196, v_75198, v_75200, v_75202, v_75204, p_ad_1_0, b_75197, b_75199, b_75201, b_75203, b_75205⟩ := opnC_1 (j := 0) I (by decide)
      have p_ad_1_0 : pt L f (ad 1 0) (.inr (10, [.ref (ad 40 0), .ref (ad 41 0), .ref (ad 42 0), .ref (ad 10 0), .ref (ad 43 0), .ref (ad 20 0), .ref (ad 20 1), .ref (ad 20 2), .ref (ad 20 3), .ref (ad 20 4), .int v_75196, .int v_75198, .int v_75200, .int v_75202, .int v_75204])) := p_ad_1_0
      refine pg_getN S Y ok_X10 3 (by decide) kf11_131 (v := .ref (ad 10 0)) p_ad_1_0 rfl dX11_of_94 ?_
      refine lv_iload_n hx hb dX11_of_97 rfl (lv_at hl 1 rfl) ?_
      refine cVi (As := [.ref (ad 10 0), .int i1]) (rest := []) S Y (x_X3_acheOf (l := l) (j := 0) I hW hT hQ (by decide)) cw_X3_acheOf km11_201 (I.opo (k := 3) (j := 0) (by decide) rfl).choose_spec.1 ok_X3.1 rfl rfl ⟨Nat.le_of_ble_eq_true rfl, Nat.le_of_ble_eq_true rfl⟩ hl.1 rfl (Nat.le_of_ble_eq_true rfl) ⟨Nat.le_of_ble_eq_true rfl, Nat.le_of_ble_eq_true rfl⟩ dX11_of_98 (fun r_75208 L_75206 f_75207 H locs I Y => ?_)
      exact prI (post := fun r L1 f1 => SH (spC (NR 30 0 4) ((0, 6) : Int × Int) tc w q) nnC G ad L1 f1) S Y rfl (by decide) (by decide) hA1 I dX11_of_101
    · refine lv_fold (z := 4) h_75182 ?_
      refine lv_tableIn (off := 86) (tgt := 102) hx hb dX11_of_16 (by decide) (by decide) (by decide) (by decide) ?_
      refine lv_aload_n hx hb dX11_of_102 rfl (lv_at hl 0 rfl) ?_
      refine pg_get S Y ok_X11 3 (by decide) kf11_34 (v := .ref (ad 3 0)) p_ad_0_0 rfl dX11_of_103 ?_
      refine lv_aload_n hx hb dX11_of_106 rfl (lv_at hl 0 rfl) ?_
      refine pg_get S Y ok_X11 0 (by decide) kf11_13 (v := .ref (ad 1 0)) p_ad_0_0 rfl dX11_of_107 ?_
      obtain ⟨v_75209, v_75211, v_75213, v_75215, v_75217, p_ad_1_0, b_75210, b_75212, b_75214, b_75216, b_75218⟩ := opnC_1 (j := 0) I (by decide)
      have p_ad_1_0 : pt L f (ad 1 0) (.inr (10, [.ref (ad 40 0), .ref (ad 41 0), .ref (ad 42 0), .ref (ad 10 0), .ref (ad 43 0), .ref (ad 20 0), .ref (ad 20 1), .ref (ad 20 2), .ref (ad 20 3), .ref (ad 20 4), .int v_75209, .int v_75211, .int v_75213, .int v_75215, .int v_75217])) := p_ad_1_0
      refine pg_getN S Y ok_X10 3 (by decide) kf11_131 (v := .ref (ad 10 0)) p_ad_1_0 rfl dX11_of_110 ?_
      refine lv_iload_n hx hb dX11_of_113 rfl (lv_at hl 1 rfl) ?_
      refine cVi (As := [.ref (ad 10 0), .int i1]) (rest := []) S Y (x_X3_riskOf (l := l) (j := 0) I hW hT hQ (by decide)) cw_X3_riskOf km11_205 (I.opo (k := 3) (j := 0) (by decide) rfl).choose_spec.1 ok_X3.1 rfl rfl ⟨Nat.le_of_ble_eq_true rfl, Nat.le_of_ble_eq_true rfl⟩ hl.1 rfl (Nat.le_of_ble_eq_true rfl) ⟨Nat.le_of_ble_eq_true rfl, Nat.le_of_ble_eq_true rfl⟩ dX11_of_114 (fun r_75221 L_75219 f_75220 H locs I Y => ?_)
      exact prI (post := fun r L1 f1 => SH (spC (NR 30 0 4) ((0, 6) : Int × Int) tc w q) nnC G ad L1 f1) S Y rfl (by decide) (by decide) hA1 I dX11_of_117
    · refine lv_fold (z := 5) h_75182 ?_
      refine lv_tableIn (off := 102) (tgt := 118) hx hb dX11_of_16 (by decide) (by decide) (by decide) (by decide) ?_
      refine lv_aload_n hx hb dX11_of_118 rfl (lv_at hl 0 rfl) ?_
      refine pg_get S Y ok_X11 8 (by decide) kf11_75 (v := .ref (ad 8 0)) p_ad_0_0 rfl dX11_of_119 ?_
      refine lv_iload_n hx hb dX11_of_122 rfl (lv_at hl 1 rfl) ?_
      refine cVp (As := [.int i1]) (rest := []) S Y (x_X0_net (l := l) I hW hT hQ) cw_X0_net km11_208 (I.opo (k := 8) (j := 0) (by decide) rfl).choose_spec.1 ok_X0.1 rfl rfl ⟨Nat.le_of_ble_eq_true rfl, Nat.le_of_ble_eq_true rfl⟩ hl.1 rfl (Nat.le_of_ble_eq_true rfl) ⟨Nat.le_of_ble_eq_true rfl, Nat.le_of_ble_eq_true rfl⟩ dX11_of_123 (fun r_75222 H locs er_75222 Y => ?_)
      exact prI (post := fun r L1 f1 => SH (spC (NR 30 0 4) ((0, 6) : Int × Int) tc w q) nnC G ad L1 f1) S Y rfl (by decide) (by decide) hA1 I dX11_of_126
    · refine lv_tableOut (tgt := 127) hx hb dX11_of_16 h_75182 (by decide) ?_
      refine lv_sipush (v := (-1000)) hx hb dX11_of_127 (by decide) ?_
      exact prI (post := fun r L1 f1 => SH (spC (NR 30 0 4) ((0, 6) : Int × Int) tc w q) nnC G ad L1 f1) S Y rfl (by decide) (by decide) hA1 I dX11_of_130
  · have B_75181 : bn 0 0 r_75178 := bn_w (bn_eq c_75179 (show bn 0 0 (0 : Int32) from bn_k (by decide))) (by decide)
    refine lv_sipush (v := (-1000)) hx hb dX11_of_11 (by decide) ?_
    exact prI (post := fun r L1 f1 => SH (spC (NR 30 0 4) ((0, 6) : Int × Int) tc w q) nnC G ad L1 f1) S Y rfl (by decide) (by decide) hA1 I dX11_of_14
set_option maxHeartbeats 4000000 in
set_option maxRecDepth 100000 in
theorem x_X11_ofOath {l : Launch} {G : GG}  {L : List Nat} {f : HF} {ad : Nat → Nat → Nat} {tc w : Nat → Int × Int} {q : Nat → (Nat → Int32) → Prop} {i1 i2 : Int32} (I : SH (spC (NR 30 0 4) ((0, 6) : Int × Int) tc w q) nnC G ad L f) (hW : WBp w 8) (hT : WBp tc 4) (hQ : QIp q) (hZ : ZZp w q) (hE : ∀ j, (tc j).1 = (tc j).2) : PMi l yX11_ofOath cX11_ofOath 3 .int 4 0 0 G [.ref (ad 0 0), .int i1, .int i2] L f (fun r L1 f1 => SH (spC (NR 30 0 4) ((0, 6) : Int × Int) tc w q) nnC G ad L1 f1) := by
  refine PMi.of (post := fun r L1 f1 => SH (spC (NR 30 0 4) ((0, 6) : Int × Int) tc w q) nnC G ad L1 f1) (own := RX11) (by decide) rfl (Nat.le_of_ble_eq_true rfl) (fun sz p e s m args below meth c A ls hA1 hname S Y hl => ?_)
  have hx := S.hx
  have hb := S.hb
  have hl : lv_has ls 3 [(0, .ref (ad 0 0)), (1, .int i1), (2, .int i2)] := hl
  refine lv_aload_n hx hb dX11_ofOath_0 rfl (lv_at hl 0 rfl) ?_
  have p_ad_0_0 := opnC_0 (j := 0) I (by decide)
  have p_ad_0_0 : pt L f (ad 0 0) (.inr (11, [.ref (ad 1 0), .ref (ad 1 1), .ref (ad 2 0), .ref (ad 3 0), .ref (ad 4 0), .ref (ad 5 0), .ref (ad 6 0), .ref (ad 7 0), .ref (ad 8 0)])) := p_ad_0_0
  refine pg_get S Y ok_X11 0 (by decide) kf11_13 (v := .ref (ad 1 0)) p_ad_0_0 rfl dX11_ofOath_1 ?_
  obtain ⟨v_75273, v_75275, v_75277, v_75279, v_75281, p_ad_1_0, b_75274, b_75276, b_75278, b_75280, b_75282⟩ := opnC_1 (j := 0) I (by decide)
  have p_ad_1_0 : pt L f (ad 1 0) (.inr (10, [.ref (ad 40 0), .ref (ad 41 0), .ref (ad 42 0), .ref (ad 10 0), .ref (ad 43 0), .ref (ad 20 0), .ref (ad 20 1), .ref (ad 20 2), .ref (ad 20 3), .ref (ad 20 4), .int v_75273, .int v_75275, .int v_75277, .int v_75279, .int v_75281])) := p_ad_1_0
  refine pg_getN S Y ok_X10 3 (by decide) kf11_131 (v := .ref (ad 10 0)) p_ad_1_0 rfl dX11_ofOath_4 ?_
  refine lv_iload_n hx hb dX11_ofOath_7 rfl (lv_at hl 1 rfl) ?_
  refine cVp (As := [.int i1]) (rest := []) S Y (x_X4_has (l := l) (j := 0) I hW hT hQ (by decide)) cw_X4_has km11_211 (I.opo (k := 10) (j := 0) (by decide) rfl).choose_spec.1 ok_X4.1 rfl rfl ⟨Nat.le_of_ble_eq_true rfl, Nat.le_of_ble_eq_true rfl⟩ hl.1 rfl (Nat.le_of_ble_eq_true rfl) ⟨Nat.le_of_ble_eq_true rfl, Nat.le_of_ble_eq_true rfl⟩ dX11_ofOath_8 (fun r_75283 H locs er_75283 Y => ?_)
  refine lv_if_ne (tgt := 16) hx hb dX11_ofOath_11 (by decide) (fun c_75284 => ?_) (fun c_75284 => ?_)
  · have B_75285 : bn 1 1 r_75283 := bn_w (bn_nel c_75284 er_75283 (show bn 0 0 (0 : Int32) from bn_k (by decide))) (by decide)
    refine lv_iload_n hx hb dX11_ofOath_16 rfl (lv_at hl 2 rfl) ?_
    refine lv_bipush (v := 7) hx hb dX11_ofOath_17 (by decide) ?_
    refine lv_icmp_ne (tgt := 45) hx hb dX11_ofOath_19 (by decide) (fun c_75287 => ?_) (fun c_75287 => ?_)
    · refine lv_iload_n hx hb dX11_ofOath_45 rfl (lv_at hl 2 rfl) ?_
      refine lv_bipush (v := 8) hx hb dX11_ofOath_46 (by decide) ?_
      refine lv_icmp_ne (tgt := 69) hx hb dX11_ofOath_48 (by decide) (fun c_75289 => ?_) (fun c_75289 => ?_)
      · refine lv_aload_n hx hb dX11_ofOath_69 rfl (lv_at hl 0 rfl) ?_
        refine pg_get S Y ok_X11 0 (by decide) kf11_13 (v := .ref (ad 1 0)) p_ad_0_0 rfl dX11_ofOath_70 ?_
        refine pg_getN S Y ok_X10 3 (by decide) kf11_131 (v := .ref (ad 10 0)) p_ad_1_0 rfl dX11_ofOath_73 ?_
        refine lv_iload_n hx hb dX11_ofOath_76 rfl (lv_at hl 1 rfl) ?_
        refine lv_iload_n hx hb dX11_ofOath_77 rfl (lv_at hl 2 rfl) ?_
        refine cVp (As := [.int i1, .int i2]) (rest := []) S Y (x_X4_get (l := l) (j := 0) I hW hT hQ (by decide)) cw_X4_get km11_222 (I.opo (k := 10) (j := 0) (by decide) rfl).choose_spec.1 ok_X4.1 rfl rfl ⟨Nat.le_of_ble_eq_true rfl, Nat.le_of_ble_eq_true rfl⟩ hl.1 rfl (Nat.le_of_ble_eq_true rfl) ⟨Nat.le_of_ble_eq_true rfl, Nat.le_of_ble_eq_true rfl⟩ dX11_ofOath_78 (fun r_75291 H locs er_75291 Y => ?_)
        exact prI (post := fun r L1 f1 => SH (spC (NR 30 0 4) ((0, 6) : Int × Int) tc w q) nnC G ad L1 f1) S Y rfl (by decide) (by decide) hA1 I dX11_ofOath_81
      · have B_75290 : bn 8 8 i2 := bn_w (bn_eq c_75289 (show bn 8 8 (8 : Int32) from bn_k (by decide))) (by decide)
        refine lv_aload_n hx hb dX11_ofOath_51 rfl (lv_at hl 0 rfl) ?_
        refine pg_get S Y ok_X11 3 (by decide) kf11_34 (v := .ref (ad 3 0)) p_ad_0_0 rfl dX11_ofOath_52 ?_
        refine lv_aload_n hx hb dX11_ofOath_55 rfl (lv_at hl 0 rfl) ?_
        refine pg_get S Y ok_X11 0 (by decide) kf11_13 (v := .ref (ad 1 0)) p_ad_0_0 rfl dX11_ofOath_56 ?_
        refine pg_getN S Y ok_X10 3 (by decide) kf11_131 (v := .ref (ad 10 0)) p_ad_1_0 rfl dX11_ofOath_59 ?_
        refine lv_iload_n hx hb dX11_ofOath_62 rfl (lv_at hl 1 rfl) ?_
        refine cVi (As := [.ref (ad 10 0), .int i1]) (rest := []) S Y (x_X3_painOf (l := l) (j := 0) I hW hT hQ (by decide)) cw_X3_painOf km11_219 (I.opo (k := 3) (j := 0) (by decide) rfl).choose_spec.1 ok_X3.1 rfl rfl ⟨Nat.le_of_ble_eq_true rfl, Nat.le_of_ble_eq_true rfl⟩ hl.1 rfl (Nat.le_of_ble_eq_true rfl) ⟨Nat.le_of_ble_eq_true rfl, Nat.le_of_ble_eq_true rfl⟩ dX11_ofOath_63 (fun r_75294 L_75292 f_75293 H locs I Y => ?_)
        refine lv_goto (tgt := 81) hx hb dX11_ofOath_66 (by decide) ?_
        exact prI (post := fun r L1 f1 => SH (spC (NR 30 0 4) ((0, 6) : Int × Int) tc w q) nnC G ad L1 f1) S Y rfl (by decide) (by decide) hA1 I dX11_ofOath_81
    · have B_75288 : bn 7 7 i2 := bn_w (bn_eq c_75287 (show bn 7 7 (7 : Int32) from bn_k (by decide))) (by decide)
      refine lv_aload_n hx hb dX11_ofOath_22 rfl (lv_at hl 0 rfl) ?_
      refine pg_get S Y ok_X11 3 (by decide) kf11_34 (v := .ref (ad 3 0)) p_ad_0_0 rfl dX11_ofOath_23 ?_
      refine lv_aload_n hx hb dX11_ofOath_26 rfl (lv_at hl 0 rfl) ?_
      refine pg_get S Y ok_X11 0 (by decide) kf11_13 (v := .ref (ad 1 0)) p_ad_0_0 rfl dX11_ofOath_27 ?_
      refine pg_getN S Y ok_X10 12 (by decide) kf11_212 (v := .int v_75277) p_ad_1_0 rfl dX11_ofOath_30 ?_
      refine lv_aload_n hx hb dX11_ofOath_33 rfl (lv_at hl 0 rfl) ?_
      refine pg_get S Y ok_X11 0 (by decide) kf11_13 (v := .ref (ad 1 0)) p_ad_0_0 rfl dX11_ofOath_34 ?_
      refine pg_getN S Y ok_X10 3 (by decide) kf11_131 (v := .ref (ad 10 0)) p_ad_1_0 rfl dX11_ofOath_37 ?_
      refine lv_iload_n hx hb dX11_ofOath_40 rfl (lv_at hl 1 rfl) ?_
      refine cVi (As := [.int v_75277, .ref (ad 10 0), .int i1]) (rest := []) S Y (x_X3_wearOf (l := l) (j := 0) I hW hT hQ (by decide)) cw_X3_wearOf km11_215 (I.opo (k := 3) (j := 0) (by decide) rfl).choose_spec.1 ok_X3.1 rfl rfl ⟨Nat.le_of_ble_eq_true rfl, Nat.le_of_ble_eq_true rfl⟩ hl.1 rfl (Nat.le_of_ble_eq_true rfl) ⟨Nat.le_of_ble_eq_true rfl, Nat.le_of_ble_eq_true rfl⟩ dX11_ofOath_41 (fun r_75297 L_75295 f_75296 H locs I Y => ?_)
      exact prI (post := fun r L1 f1 => SH (spC (NR 30 0 4) ((0, 6) : Int × Int) tc w q) nnC G ad L1 f1) S Y rfl (by decide) (by decide) hA1 I dX11_ofOath_44
  · have B_75286 : bn 0 0 r_75283 := bn_w (bn_eq c_75284 (show bn 0 0 (0 : Int32) from bn_k (by decide))) (by decide)
    refine lv_iconst (v := (-1)) hx hb dX11_ofOath_14 (by decide) ?_
    exact prI (post := fun r L1 f1 => SH (spC (NR 30 0 4) ((0, 6) : Int × Int) tc w q) nnC G ad L1 f1) S Y rfl (by decide) (by decide) hA1 I dX11_ofOath_15
set_option maxHeartbeats 4000000 in
set_option maxRecDepth 100000 in
theorem x_X11_is {l : Launch} {G : GG}  {L : List Nat} {f : HF} {ad : Nat → Nat → Nat} {tc w : Nat → Int × Int} {q : Nat → (Nat → Int32) → Prop} {i1 : Int32} (I : SH (spC (NR 30 0 4) ((0, 6) : Int × Int) tc w q) nnC G ad L f) (hW : WBp w 8) (hT : WBp tc 4) (hQ : QIp q) (hZ : ZZp w q) (hE : ∀ j, (tc j).1 = (tc j).2) : PMi l yX11_is cX11_is 2 .int 0 0 0 G [.ref (ad 0 0), .int i1] L f (fun r L1 f1 => SH (spC (NR 30 0 4) ((0, 6) : Int × Int) tc w q) nnC G ad L1 f1) := by
  refine PMi.of (post := fun r L1 f1 => SH (spC (NR 30 0 4) ((0, 6) : Int × Int) tc w q) nnC G ad L1 f1) (own := RX11) (by decide) rfl (Nat.le_of_ble_eq_true rfl) (fun sz p e s m args below meth c A ls hA1 hname S Y hl => ?_)
  have hx := S.hx
  have hb := S.hb
  have hl : lv_has ls 2 [(0, .ref (ad 0 0)), (1, .int i1)] := hl
  refine lv_iload_n hx hb dX11_is_0 rfl (lv_at hl 1 rfl) ?_
  rcases sw_0_3 i1 with h_75460 | h_75460 | h_75460 | h_75460 | h_75460
  · refine lv_fold (z := 0) h_75460 ?_
    refine lv_tableIn (off := 31) (tgt := 32) hx hb dX11_is_1 (by decide) (by decide) (by decide) (by decide) ?_
    refine lv_aload_n hx hb dX11_is_32 rfl (lv_at hl 0 rfl) ?_
    have p_ad_0_0 := opnC_0 (j := 0) I (by decide)
    have p_ad_0_0 : pt L f (ad 0 0) (.inr (11, [.ref (ad 1 0), .ref (ad 1 1), .ref (ad 2 0), .ref (ad 3 0), .ref (ad 4 0), .ref (ad 5 0), .ref (ad 6 0), .ref (ad 7 0), .ref (ad 8 0)])) := p_ad_0_0
    refine pg_get S Y ok_X11 0 (by decide) kf11_13 (v := .ref (ad 1 0)) p_ad_0_0 rfl dX11_is_33 ?_
    obtain ⟨v_75461, v_75463, v_75465, v_75467, v_75469, p_ad_1_0, b_75462, b_75464, b_75466, b_75468, b_75470⟩ := opnC_1 (j := 0) I (by decide)
    have p_ad_1_0 : pt L f (ad 1 0) (.inr (10, [.ref (ad 40 0), .ref (ad 41 0), .ref (ad 42 0), .ref (ad 10 0), .ref (ad 43 0), .ref (ad 20 0), .ref (ad 20 1), .ref (ad 20 2), .ref (ad 20 3), .ref (ad 20 4), .int v_75461, .int v_75463, .int v_75465, .int v_75467, .int v_75469])) := p_ad_1_0
    refine pg_getN S Y ok_X10 3 (by decide) kf11_131 (v := .ref (ad 10 0)) p_ad_1_0 rfl dX11_is_36 ?_
    obtain ⟨v_75471, v_75473, v_75475, v_75477, v_75479, p_ad_10_0, b_75472, b_75474, b_75476, b_75478, b_75480⟩ := opnC_10 (j := 0) I (by decide)
    have p_ad_10_0 : pt L f (ad 10 0) (.inr (4, [.ref (ad 11 0), .ref (ad 12 0), .int v_75471, .int v_75473, .int v_75475, .int v_75477, .int v_75479])) := p_ad_10_0
    refine pg_getN S Y ok_X4 4 (by decide) kf11_150 (v := .int v_75475) p_ad_10_0 rfl dX11_is_39 ?_
    exact prI (post := fun r L1 f1 => SH (spC (NR 30 0 4) ((0, 6) : Int × Int) tc w q) nnC G ad L1 f1) S Y rfl (by decide) (by decide) hA1 I dX11_is_42
  · refine lv_fold (z := 1) h_75460 ?_
    refine lv_tableIn (off := 42) (tgt := 43) hx hb dX11_is_1 (by decide) (by decide) (by decide) (by decide) ?_
    refine lv_aload_n hx hb dX11_is_43 rfl (lv_at hl 0 rfl) ?_
    have p_ad_0_0 := opnC_0 (j := 0) I (by decide)
    have p_ad_0_0 : pt L f (ad 0 0) (.inr (11, [.ref (ad 1 0), .ref (ad 1 1), .ref (ad 2 0), .ref (ad 3 0), .ref (ad 4 0), .ref (ad 5 0), .ref (ad 6 0), .ref (ad 7 0), .ref (ad 8 0)])) := p_ad_0_0
    refine pg_get S Y ok_X11 0 (by decide) kf11_13 (v := .ref (ad 1 0)) p_ad_0_0 rfl dX11_is_44 ?_
    obtain ⟨v_75481, v_75483, v_75485, v_75487, v_75489, p_ad_1_0, b_75482, b_75484, b_75486, b_75488, b_75490⟩ := opnC_1 (j := 0) I (by decide)
    have p_ad_1_0 : pt L f (ad 1 0) (.inr (10, [.ref (ad 40 0), .ref (ad 41 0), .ref (ad 42 0), .ref (ad 10 0), .ref (ad 43 0), .ref (ad 20 0), .ref (ad 20 1), .ref (ad 20 2), .ref (ad 20 3), .ref (ad 20 4), .int v_75481, .int v_75483, .int v_75485, .int v_75487, .int v_75489])) := p_ad_1_0
    refine pg_getN S Y ok_X10 3 (by decide) kf11_131 (v := .ref (ad 10 0)) p_ad_1_0 rfl dX11_is_47 ?_
    obtain ⟨v_75491, v_75493, v_75495, v_75497, v_75499, p_ad_10_0, b_75492, b_75494, b_75496, b_75498, b_75500⟩ := opnC_10 (j := 0) I (by decide)
    have p_ad_10_0 : pt L f (ad 10 0) (.inr (4, [.ref (ad 11 0), .ref (ad 12 0), .int v_75491, .int v_75493, .int v_75495, .int v_75497, .int v_75499])) := p_ad_10_0
    refine pg_getN S Y ok_X4 5 (by decide) kf11_158 (v := .int v_75497) p_ad_10_0 rfl dX11_is_50 ?_
    exact prI (post := fun r L1 f1 => SH (spC (NR 30 0 4) ((0, 6) : Int × Int) tc w q) nnC G ad L1 f1) S Y rfl (by decide) (by decide) hA1 I dX11_is_53
  · refine lv_fold (z := 2) h_75460 ?_
    refine lv_tableIn (off := 53) (tgt := 54) hx hb dX11_is_1 (by decide) (by decide) (by decide) (by decide) ?_
    refine lv_aload_n hx hb dX11_is_54 rfl (lv_at hl 0 rfl) ?_
    have p_ad_0_0 := opnC_0 (j := 0) I (by decide)
    have p_ad_0_0 : pt L f (ad 0 0) (.inr (11, [.ref (ad 1 0), .ref (ad 1 1), .ref (ad 2 0), .ref (ad 3 0), .ref (ad 4 0), .ref (ad 5 0), .ref (ad 6 0), .ref (ad 7 0), .ref (ad 8 0)])) := p_ad_0_0
    refine pg_get S Y ok_X11 0 (by decide) kf11_13 (v := .ref (ad 1 0)) p_ad_0_0 rfl dX11_is_55 ?_
    obtain ⟨v_75501, v_75503, v_75505, v_75507, v_75509, p_ad_1_0, b_75502, b_75504, b_75506, b_75508, b_75510⟩ := opnC_1 (j := 0) I (by decide)
    have p_ad_1_0 : pt L f (ad 1 0) (.inr (10, [.ref (ad 40 0), .ref (ad 41 0), .ref (ad 42 0), .ref (ad 10 0), .ref (ad 43 0), .ref (ad 20 0), .ref (ad 20 1), .ref (ad 20 2), .ref (ad 20 3), .ref (ad 20 4), .int v_75501, .int v_75503, .int v_75505, .int v_75507, .int v_75509])) := p_ad_1_0
    refine pg_getN S Y ok_X10 3 (by decide) kf11_131 (v := .ref (ad 10 0)) p_ad_1_0 rfl dX11_is_58 ?_
    obtain ⟨v_75511, v_75513, v_75515, v_75517, v_75519, p_ad_10_0, b_75512, b_75514, b_75516, b_75518, b_75520⟩ := opnC_10 (j := 0) I (by decide)
    have p_ad_10_0 : pt L f (ad 10 0) (.inr (4, [.ref (ad 11 0), .ref (ad 12 0), .int v_75511, .int v_75513, .int v_75515, .int v_75517, .int v_75519])) := p_ad_10_0
    refine pg_getN S Y ok_X4 6 (by decide) kf11_225 (v := .int v_75519) p_ad_10_0 rfl dX11_is_61 ?_
    exact prI (post := fun r L1 f1 => SH (spC (NR 30 0 4) ((0, 6) : Int × Int) tc w q) nnC G ad L1 f1) S Y rfl (by decide) (by decide) hA1 I dX11_is_64
  · refine lv_fold (z := 3) h_75460 ?_
    refine lv_tableIn (off := 64) (tgt := 65) hx hb dX11_is_1 (by decide) (by decide) (by decide) (by decide) ?_
    refine lv_aload_n hx hb dX11_is_65 rfl (lv_at hl 0 rfl) ?_
    have p_ad_0_0 := opnC_0 (j := 0) I (by decide)
    have p_ad_0_0 : pt L f (ad 0 0) (.inr (11, [.ref (ad 1 0), .ref (ad 1 1), .ref (ad 2 0), .ref (ad 3 0), .ref (ad 4 0), .ref (ad 5 0), .ref (ad 6 0), .ref (ad 7 0), .ref (ad 8 0)])) := p_ad_0_0
    refine pg_get S Y ok_X11 0 (by decide) kf11_13 (v := .ref (ad 1 0)) p_ad_0_0 rfl dX11_is_66 ?_
    obtain ⟨v_75521, v_75523, v_75525, v_75527, v_75529, p_ad_1_0, b_75522, b_75524, b_75526, b_75528, b_75530⟩ := opnC_1 (j := 0) I (by decide)
    have p_ad_1_0 : pt L f (ad 1 0) (.inr (10, [.ref (ad 40 0), .ref (ad 41 0), .ref (ad 42 0), .ref (ad 10 0), .ref (ad 43 0), .ref (ad 20 0), .ref (ad 20 1), .ref (ad 20 2), .ref (ad 20 3), .ref (ad 20 4), .int v_75521, .int v_75523, .int v_75525, .int v_75527, .int v_75529])) := p_ad_1_0
    refine pg_getN S Y ok_X10 3 (by decide) kf11_131 (v := .ref (ad 10 0)) p_ad_1_0 rfl dX11_is_69 ?_
    obtain ⟨v_75531, v_75533, v_75535, v_75537, v_75539, p_ad_10_0, b_75532, b_75534, b_75536, b_75538, b_75540⟩ := opnC_10 (j := 0) I (by decide)
    have p_ad_10_0 : pt L f (ad 10 0) (.inr (4, [.ref (ad 11 0), .ref (ad 12 0), .int v_75531, .int v_75533, .int v_75535, .int v_75537, .int v_75539])) := p_ad_10_0
    refine pg_getN S Y ok_X4 2 (by decide) kf11_228 (v := .int v_75531) p_ad_10_0 rfl dX11_is_72 ?_
    exact prI (post := fun r L1 f1 => SH (spC (NR 30 0 4) ((0, 6) : Int × Int) tc w q) nnC G ad L1 f1) S Y rfl (by decide) (by decide) hA1 I dX11_is_75
  · refine lv_tableOut (tgt := 76) hx hb dX11_is_1 h_75460 (by decide) ?_
    refine lv_bipush (v := (-2)) hx hb dX11_is_76 (by decide) ?_
    exact prI (post := fun r L1 f1 => SH (spC (NR 30 0 4) ((0, 6) : Int × Int) tc w q) nnC G ad L1 f1) S Y rfl (by decide) (by decide) hA1 I dX11_is_78
set_option maxHeartbeats 4000000 in
set_option maxRecDepth 100000 in
theorem x_X11_book {l : Launch} {G : GG}  {L : List Nat} {f : HF} {ad : Nat → Nat → Nat} {tc w : Nat → Int × Int} {q : Nat → (Nat → Int32) → Prop} {i1 i2 : Int32} (I : SH (spC (NR 30 0 4) ((0, 6) : Int × Int) tc w q) nnC G ad L f) (hW : WBp w 8) (hT : WBp tc 4) (hQ : QIp q) (hZ : ZZp w q) (hE : ∀ j, (tc j).1 = (tc j).2) : PMi l yX11_book cX11_book 3 .int 1 0 0 G [.ref (ad 0 0), .int i1, .int i2] L f (fun r L1 f1 => SH (spC (NR 30 0 4) ((0, 6) : Int × Int) tc w q) nnC G ad L1 f1) := by
  refine PMi.of (post := fun r L1 f1 => SH (spC (NR 30 0 4) ((0, 6) : Int × Int) tc w q) nnC G ad L1 f1) (own := RX11) (by decide) rfl (Nat.le_of_ble_eq_true rfl) (fun sz p e s m args below meth c A ls hA1 hname S Y hl => ?_)
  have hx := S.hx
  have hb := S.hb
  have hl : lv_has ls 3 [(0, .ref (ad 0 0)), (1, .int i1), (2, .int i2)] := hl
  refine lv_iload_n hx hb dX11_book_0 rfl (lv_at hl 1 rfl) ?_
  refine lv_iconst (v := (-1)) hx hb dX11_book_1 (by decide) ?_
  refine lv_icmp_ne (tgt := 18) hx hb dX11_book_2 (by decide) (fun c_75607 => ?_) (fun c_75607 => ?_)
  · refine lv_aload_n hx hb dX11_book_18 rfl (lv_at hl 0 rfl) ?_
    have p_ad_0_0 := opnC_0 (j := 0) I (by decide)
    have p_ad_0_0 : pt L f (ad 0 0) (.inr (11, [.ref (ad 1 0), .ref (ad 1 1), .ref (ad 2 0), .ref (ad 3 0), .ref (ad 4 0), .ref (ad 5 0), .ref (ad 6 0), .ref (ad 7 0), .ref (ad 8 0)])) := p_ad_0_0
    refine pg_get S Y ok_X11 0 (by decide) kf11_13 (v := .ref (ad 1 0)) p_ad_0_0 rfl dX11_book_19 ?_
    obtain ⟨v_75609, v_75611, v_75613, v_75615, v_75617, p_ad_1_0, b_75610, b_75612, b_75614, b_75616, b_75618⟩ := opnC_1 (j := 0) I (by decide)
    have p_ad_1_0 : pt L f (ad 1 0) (.inr (10, [.ref (ad 40 0), .ref (ad 41 0), .ref (ad 42 0), .ref (ad 10 0), .ref (ad 43 0), .ref (ad 20 0), .ref (ad 20 1), .ref (ad 20 2), .ref (ad 20 3), .ref (ad 20 4), .int v_75609, .int v_75611, .int v_75613, .int v_75615, .int v_75617])) := p_ad_1_0
    refine pg_getN S Y ok_X10 3 (by decide) kf11_131 (v := .ref (ad 10 0)) p_ad_1_0 rfl dX11_book_22 ?_
    refine lv_iload_n hx hb dX11_book_25 rfl (lv_at hl 1 rfl) ?_
    refine lv_iload_n hx hb dX11_book_26 rfl (lv_at hl 2 rfl) ?_
    refine cVp (As := [.int i1, .int i2]) (rest := []) S Y (x_X4_written (l := l) (j := 0) I hW hT hQ (by decide)) cw_X4_written km11_234 (I.opo (k := 10) (j := 0) (by decide) rfl).choose_spec.1 ok_X4.1 rfl rfl ⟨Nat.le_of_ble_eq_true rfl, Nat.le_of_ble_eq_true rfl⟩ hl.1 rfl (Nat.le_of_ble_eq_true rfl) ⟨Nat.le_of_ble_eq_true rfl, Nat.le_of_ble_eq_true rfl⟩ dX11_book_27 (fun r_75619 H locs er_75619 Y => ?_)
    exact prI (post := fun r L1 f1 => SH (spC (NR 30 0 4) ((0, 6) : Int × Int) tc w q) nnC G ad L1 f1) S Y rfl (by decide) (by decide) hA1 I dX11_book_30
  · have B_75608 : bn (-1) (-1) i1 := bn_w (bn_eq c_75607 (show bn (-1) (-1) ((-1) : Int32) from bn_k (by decide))) (by decide)
    refine lv_aload_n hx hb dX11_book_5 rfl (lv_at hl 0 rfl) ?_
    have p_ad_0_0 := opnC_0 (j := 0) I (by decide)
    have p_ad_0_0 : pt L f (ad 0 0) (.inr (11, [.ref (ad 1 0), .ref (ad 1 1), .ref (ad 2 0), .ref (ad 3 0), .ref (ad 4 0), .ref (ad 5 0), .ref (ad 6 0), .ref (ad 7 0), .ref (ad 8 0)])) := p_ad_0_0
    refine pg_get S Y ok_X11 0 (by decide) kf11_13 (v := .ref (ad 1 0)) p_ad_0_0 rfl dX11_book_6 ?_
    obtain ⟨v_75620, v_75622, v_75624, v_75626, v_75628, p_ad_1_0, b_75621, b_75623, b_75625, b_75627, b_75629⟩ := opnC_1 (j := 0) I (by decide)
    have p_ad_1_0 : pt L f (ad 1 0) (.inr (10, [.ref (ad 40 0), .ref (ad 41 0), .ref (ad 42 0), .ref (ad 10 0), .ref (ad 43 0), .ref (ad 20 0), .ref (ad 20 1), .ref (ad 20 2), .ref (ad 20 3), .ref (ad 20 4), .int v_75620, .int v_75622, .int v_75624, .int v_75626, .int v_75628])) := p_ad_1_0
    refine pg_getN S Y ok_X10 3 (by decide) kf11_131 (v := .ref (ad 10 0)) p_ad_1_0 rfl dX11_book_9 ?_
    obtain ⟨v_75630, v_75632, v_75634, v_75636, v_75638, p_ad_10_0, b_75631, b_75633, b_75635, b_75637, b_75639⟩ := opnC_10 (j := 0) I (by decide)
    have p_ad_10_0 : pt L f (ad 10 0) (.inr (4, [.ref (ad 11 0), .ref (ad 12 0), .int v_75630, .int v_75632, .int v_75634, .int v_75636, .int v_75638])) := p_ad_10_0
    refine pg_getN S Y ok_X4 3 (by decide) kf11_231 (v := .int v_75632) p_ad_10_0 rfl dX11_book_12 ?_
    refine lv_goto (tgt := 30) hx hb dX11_book_15 (by decide) ?_
    exact prI (post := fun r L1 f1 => SH (spC (NR 30 0 4) ((0, 6) : Int × Int) tc w q) nnC G ad L1 f1) S Y rfl (by decide) (by decide) hA1 I dX11_book_30
set_option maxHeartbeats 4000000 in
set_option maxRecDepth 100000 in
theorem x_X11_foretold {l : Launch} {G : GG}  {L : List Nat} {f : HF} {ad : Nat → Nat → Nat} {tc w : Nat → Int × Int} {q : Nat → (Nat → Int32) → Prop} {i1 i2 : Int32} (I : SH (spC (NR 30 0 4) ((0, 6) : Int × Int) tc w q) nnC G ad L f) (hW : WBp w 8) (hT : WBp tc 4) (hQ : QIp q) (hZ : ZZp w q) (hE : ∀ j, (tc j).1 = (tc j).2) : PMi l yX11_foretold cX11_foretold 3 .int 6 0 0 G [.ref (ad 0 0), .int i1, .int i2] L f (fun r L1 f1 => SH (spC (NR 30 0 4) ((0, 6) : Int × Int) tc w q) nnC G ad L1 f1) := by
  refine PMi.of (post := fun r L1 f1 => SH (spC (NR 30 0 4) ((0, 6) : Int × Int) tc w q) nnC G ad L1 f1) (own := RX11) (by decide) rfl (Nat.le_of_ble_eq_true rfl) (fun sz p e s m args below meth c A ls hA1 hname S Y hl => ?_)
  have hx := S.hx
  have hb := S.hb
  have hl : lv_has ls 3 [(0, .ref (ad 0 0)), (1, .int i1), (2, .int i2)] := hl
  refine lv_iload_n hx hb dX11_foretold_0 rfl (lv_at hl 1 rfl) ?_
  refine lv_iconst (v := 1) hx hb dX11_foretold_1 (by decide) ?_
  refine lv_bipush (v := 60) hx hb dX11_foretold_2 (by decide) ?_
  refine cSp (As := [.int i1, .int 1, .int 60]) (rest := []) S Y (x_X11_within (l := l) ) cw_X11_within km11_146 rfl ⟨Nat.le_of_ble_eq_true rfl, Nat.le_of_ble_eq_true rfl⟩ hl.1 rfl (Nat.le_of_ble_eq_true rfl) ⟨Nat.le_of_ble_eq_true rfl, Nat.le_of_ble_eq_true rfl⟩ dX11_foretold_4 (fun r_75672 H locs er_75672 Y => ?_)
  refine lv_if_ne (tgt := 12) hx hb dX11_foretold_7 (by decide) (fun c_75673 => ?_) (fun c_75673 => ?_)
  · have B_75674 : bn 1 1 r_75672 := bn_w (bn_nel c_75673 er_75672 (show bn 0 0 (0 : Int32) from bn_k (by decide))) (by decide)
    refine lv_iload_n hx hb dX11_foretold_12 rfl (lv_at hl 2 rfl) ?_
    refine lv_iconst (v := (-1)) hx hb dX11_foretold_13 (by decide) ?_
    refine lv_icmp_ne (tgt := 26) hx hb dX11_foretold_14 (by decide) (fun c_75676 => ?_) (fun c_75676 => ?_)
    · refine lv_aload_n hx hb dX11_foretold_26 rfl (lv_at hl 0 rfl) ?_
      have p_ad_0_0 := opnC_0 (j := 0) I (by decide)
      have p_ad_0_0 : pt L f (ad 0 0) (.inr (11, [.ref (ad 1 0), .ref (ad 1 1), .ref (ad 2 0), .ref (ad 3 0), .ref (ad 4 0), .ref (ad 5 0), .ref (ad 6 0), .ref (ad 7 0), .ref (ad 8 0)])) := p_ad_0_0
      refine pg_get S Y ok_X11 0 (by decide) kf11_13 (v := .ref (ad 1 0)) p_ad_0_0 rfl dX11_foretold_27 ?_
      refine lv_iload_n hx hb dX11_foretold_30 rfl (lv_at hl 2 rfl) ?_
      refine cVp (As := [.int i2]) (rest := []) S Y (x_X10_has (l := l) I hW hT hQ) cw_X10_has km11_192 (I.opo (k := 1) (j := 0) (by decide) rfl).choose_spec.1 ok_X10.1 rfl rfl ⟨Nat.le_of_ble_eq_true rfl, Nat.le_of_ble_eq_true rfl⟩ hl.1 rfl (Nat.le_of_ble_eq_true rfl) ⟨Nat.le_of_ble_eq_true rfl, Nat.le_of_ble_eq_true rfl⟩ dX11_foretold_31 (fun r_75678 H locs er_75678 Y => ?_)
      refine lv_if_eq (tgt := 49) hx hb dX11_foretold_34 (by decide) (fun c_75679 => ?_) (fun c_75679 => ?_)
      · have B_75680 : bn 0 0 r_75678 := bn_w (bn_eq c_75679 (show bn 0 0 (0 : Int32) from bn_k (by decide))) (by decide)
        refine lv_iconst (v := (-1)) hx hb dX11_foretold_49 (by decide) ?_
        exact prI (post := fun r L1 f1 => SH (spC (NR 30 0 4) ((0, 6) : Int × Int) tc w q) nnC G ad L1 f1) S Y rfl (by decide) (by decide) hA1 I dX11_foretold_50
      · have B_75681 : bn 1 1 r_75678 := bn_w (bn_nel c_75679 er_75678 (show bn 0 0 (0 : Int32) from bn_k (by decide))) (by decide)
        refine lv_aload_n hx hb dX11_foretold_37 rfl (lv_at hl 0 rfl) ?_
        refine pg_get S Y ok_X11 6 (by decide) kf11_59 (v := .ref (ad 6 0)) p_ad_0_0 rfl dX11_foretold_38 ?_
        refine lv_iload_n hx hb dX11_foretold_41 rfl (lv_at hl 1 rfl) ?_
        refine lv_iload_n hx hb dX11_foretold_42 rfl (lv_at hl 2 rfl) ?_
        refine cVi (As := [.int i1, .int i2]) (rest := []) S Y (x_X2_achesWithin (l := l) I hW hT hQ) cw_X2_achesWithin km11_240 (I.opo (k := 6) (j := 0) (by decide) rfl).choose_spec.1 ok_X2.1 rfl rfl ⟨Nat.le_of_ble_eq_true rfl, Nat.le_of_ble_eq_true rfl⟩ hl.1 rfl (Nat.le_of_ble_eq_true rfl) ⟨Nat.le_of_ble_eq_true rfl, Nat.le_of_ble_eq_true rfl⟩ dX11_foretold_43 (fun r_75684 L_75682 f_75683 H locs I Y => ?_)
        refine lv_goto (tgt := 50) hx hb dX11_foretold_46 (by decide) ?_
        exact prI (post := fun r L1 f1 => SH (spC (NR 30 0 4) ((0, 6) : Int × Int) tc w q) nnC G ad L1 f1) S Y rfl (by decide) (by decide) hA1 I dX11_foretold_50
    · have B_75677 : bn (-1) (-1) i2 := bn_w (bn_eq c_75676 (show bn (-1) (-1) ((-1) : Int32) from bn_k (by decide))) (by decide)
      refine lv_aload_n hx hb dX11_foretold_17 rfl (lv_at hl 0 rfl) ?_
      have p_ad_0_0 := opnC_0 (j := 0) I (by decide)
      have p_ad_0_0 : pt L f (ad 0 0) (.inr (11, [.ref (ad 1 0), .ref (ad 1 1), .ref (ad 2 0), .ref (ad 3 0), .ref (ad 4 0), .ref (ad 5 0), .ref (ad 6 0), .ref (ad 7 0), .ref (ad 8 0)])) := p_ad_0_0
      refine pg_get S Y ok_X11 6 (by decide) kf11_59 (v := .ref (ad 6 0)) p_ad_0_0 rfl dX11_foretold_18 ?_
      refine lv_iload_n hx hb dX11_foretold_21 rfl (lv_at hl 1 rfl) ?_
      refine cVi (As := [.int i1]) (rest := []) S Y (x_X2_rainBehind (l := l) I hW hT hQ) cw_X2_rainBehind km11_237 (I.opo (k := 6) (j := 0) (by decide) rfl).choose_spec.1 ok_X2.1 rfl rfl ⟨Nat.le_of_ble_eq_true rfl, Nat.le_of_ble_eq_true rfl⟩ hl.1 rfl (Nat.le_of_ble_eq_true rfl) ⟨Nat.le_of_ble_eq_true rfl, Nat.le_of_ble_eq_true rfl⟩ dX11_foretold_22 (fun r_75687 L_75685 f_75686 H locs I Y => ?_)
      exact prI (post := fun r L1 f1 => SH (spC (NR 30 0 4) ((0, 6) : Int × Int) tc w q) nnC G ad L1 f1) S Y rfl (by decide) (by decide) hA1 I dX11_foretold_25
  · have B_75675 : bn 0 0 r_75672 := bn_w (bn_eq c_75673 (show bn 0 0 (0 : Int32) from bn_k (by decide))) (by decide)
    refine lv_iconst (v := (-1)) hx hb dX11_foretold_10 (by decide) ?_
    exact prI (post := fun r L1 f1 => SH (spC (NR 30 0 4) ((0, 6) : Int × Int) tc w q) nnC G ad L1 f1) S Y rfl (by decide) (by decide) hA1 I dX11_foretold_11
set_option maxHeartbeats 4000000 in
set_option maxRecDepth 100000 in
theorem x_X11_firstAche {l : Launch} {G : GG}  {L : List Nat} {f : HF} {ad : Nat → Nat → Nat} {tc w : Nat → Int × Int} {q : Nat → (Nat → Int32) → Prop} {i1 : Int32} (I : SH (spC (NR 30 0 4) ((0, 6) : Int × Int) tc w q) nnC G ad L f) (hW : WBp w 8) (hT : WBp tc 4) (hQ : QIp q) (hZ : ZZp w q) (hE : ∀ j, (tc j).1 = (tc j).2) : PMi l yX11_firstAche cX11_firstAche 2 .int 6 0 0 G [.ref (ad 0 0), .int i1] L f (fun r L1 f1 => SH (spC (NR 30 0 4) ((0, 6) : Int × Int) tc w q) nnC G ad L1 f1) := by
  refine PMi.of (post := fun r L1 f1 => SH (spC (NR 30 0 4) ((0, 6) : Int × Int) tc w q) nnC G ad L1 f1) (own := RX11) (by decide) rfl (Nat.le_of_ble_eq_true rfl) (fun sz p e s m args below meth c A ls hA1 hname S Y hl => ?_)
  have hx := S.hx
  have hb := S.hb
  have hl : lv_has ls 2 [(0, .ref (ad 0 0)), (1, .int i1)] := hl
  refine lv_aload_n hx hb dX11_firstAche_0 rfl (lv_at hl 0 rfl) ?_
  have p_ad_0_0 := opnC_0 (j := 0) I (by decide)
  have p_ad_0_0 : pt L f (ad 0 0) (.inr (11, [.ref (ad 1 0), .ref (ad 1 1), .ref (ad 2 0), .ref (ad 3 0), .ref (ad 4 0), .ref (ad 5 0), .ref (ad 6 0), .ref (ad 7 0), .ref (ad 8 0)])) := p_ad_0_0
  refine pg_get S Y ok_X11 0 (by decide) kf11_13 (v := .ref (ad 1 0)) p_ad_0_0 rfl dX11_firstAche_1 ?_
  refine lv_iload_n hx hb dX11_firstAche_4 rfl (lv_at hl 1 rfl) ?_
  refine cVp (As := [.int i1]) (rest := []) S Y (x_X10_has (l := l) I hW hT hQ) cw_X10_has km11_192 (I.opo (k := 1) (j := 0) (by decide) rfl).choose_spec.1 ok_X10.1 rfl rfl ⟨Nat.le_of_ble_eq_true rfl, Nat.le_of_ble_eq_true rfl⟩ hl.1 rfl (Nat.le_of_ble_eq_true rfl) ⟨Nat.le_of_ble_eq_true rfl, Nat.le_of_ble_eq_true rfl⟩ dX11_firstAche_5 (fun r_75702 H locs er_75702 Y => ?_)
  refine lv_if_eq (tgt := 22) hx hb dX11_firstAche_8 (by decide) (fun c_75703 => ?_) (fun c_75703 => ?_)
  · have B_75704 : bn 0 0 r_75702 := bn_w (bn_eq c_75703 (show bn 0 0 (0 : Int32) from bn_k (by decide))) (by decide)
    refine lv_iconst (v := (-1)) hx hb dX11_firstAche_22 (by decide) ?_
    exact prI (post := fun r L1 f1 => SH (spC (NR 30 0 4) ((0, 6) : Int × Int) tc w q) nnC G ad L1 f1) S Y rfl (by decide) (by decide) hA1 I dX11_firstAche_23
  · have B_75705 : bn 1 1 r_75702 := bn_w (bn_nel c_75703 er_75702 (show bn 0 0 (0 : Int32) from bn_k (by decide))) (by decide)
    refine lv_aload_n hx hb dX11_firstAche_11 rfl (lv_at hl 0 rfl) ?_
    refine pg_get S Y ok_X11 6 (by decide) kf11_59 (v := .ref (ad 6 0)) p_ad_0_0 rfl dX11_firstAche_12 ?_
    refine lv_iload_n hx hb dX11_firstAche_15 rfl (lv_at hl 1 rfl) ?_
    refine cVi (As := [.int i1]) (rest := []) S Y (x_X2_daysToAche (l := l) I hW hT hQ) cw_X2_daysToAche km11_243 (I.opo (k := 6) (j := 0) (by decide) rfl).choose_spec.1 ok_X2.1 rfl rfl ⟨Nat.le_of_ble_eq_true rfl, Nat.le_of_ble_eq_true rfl⟩ hl.1 rfl (Nat.le_of_ble_eq_true rfl) ⟨Nat.le_of_ble_eq_true rfl, Nat.le_of_ble_eq_true rfl⟩ dX11_firstAche_16 (fun r_75708 L_75706 f_75707 H locs I Y => ?_)
    refine lv_goto (tgt := 23) hx hb dX11_firstAche_19 (by decide) ?_
    exact prI (post := fun r L1 f1 => SH (spC (NR 30 0 4) ((0, 6) : Int × Int) tc w q) nnC G ad L1 f1) S Y rfl (by decide) (by decide) hA1 I dX11_firstAche_23
set_option maxHeartbeats 4000000 in
set_option maxRecDepth 100000 in
theorem x_X11_fades {l : Launch} {G : GG}  {L : List Nat} {f : HF} {ad : Nat → Nat → Nat} {tc w : Nat → Int × Int} {q : Nat → (Nat → Int32) → Prop} {i1 : Int32} (I : SH (spC (NR 30 0 4) ((0, 6) : Int × Int) tc w q) nnC G ad L f) (hW : WBp w 8) (hT : WBp tc 4) (hQ : QIp q) (hZ : ZZp w q) (hE : ∀ j, (tc j).1 = (tc j).2) : PMi l yX11_fades cX11_fades 2 .int 6 0 0 G [.ref (ad 0 0), .int i1] L f (fun r L1 f1 => SH (spC (NR 30 0 4) ((0, 6) : Int × Int) tc w q) nnC G ad L1 f1) := by
  refine PMi.of (post := fun r L1 f1 => SH (spC (NR 30 0 4) ((0, 6) : Int × Int) tc w q) nnC G ad L1 f1) (own := RX11) (by decide) rfl (Nat.le_of_ble_eq_true rfl) (fun sz p e s m args below meth c A ls hA1 hname S Y hl => ?_)
  have hx := S.hx
  have hb := S.hb
  have hl : lv_has ls 2 [(0, .ref (ad 0 0)), (1, .int i1)] := hl
  refine lv_aload_n hx hb dX11_fades_0 rfl (lv_at hl 0 rfl) ?_
  have p_ad_0_0 := opnC_0 (j := 0) I (by decide)
  have p_ad_0_0 : pt L f (ad 0 0) (.inr (11, [.ref (ad 1 0), .ref (ad 1 1), .ref (ad 2 0), .ref (ad 3 0), .ref (ad 4 0), .ref (ad 5 0), .ref (ad 6 0), .ref (ad 7 0), .ref (ad 8 0)])) := p_ad_0_0
  refine pg_get S Y ok_X11 6 (by decide) kf11_59 (v := .ref (ad 6 0)) p_ad_0_0 rfl dX11_fades_1 ?_
  refine lv_iload_n hx hb dX11_fades_4 rfl (lv_at hl 1 rfl) ?_
  refine cVi (As := [.int i1]) (rest := []) S Y (x_X2_daysToFade (l := l) I hW hT hQ) cw_X2_daysToFade km11_246 (I.opo (k := 6) (j := 0) (by decide) rfl).choose_spec.1 ok_X2.1 rfl rfl ⟨Nat.le_of_ble_eq_true rfl, Nat.le_of_ble_eq_true rfl⟩ hl.1 rfl (Nat.le_of_ble_eq_true rfl) ⟨Nat.le_of_ble_eq_true rfl, Nat.le_of_ble_eq_true rfl⟩ dX11_fades_5 (fun r_75717 L_75715 f_75716 H locs I Y => ?_)
  exact prI (post := fun r L1 f1 => SH (spC (NR 30 0 4) ((0, 6) : Int × Int) tc w q) nnC G ad L1 f1) S Y rfl (by decide) (by decide) hA1 I dX11_fades_8
set_option maxHeartbeats 4000000 in
set_option maxRecDepth 100000 in
theorem x_X11_felt {l : Launch} {G : GG}  {L : List Nat} {f : HF} {ad : Nat → Nat → Nat} {tc w : Nat → Int × Int} {q : Nat → (Nat → Int32) → Prop} {i1 i2 i3 : Int32} (I : SH (spC (NR 30 0 4) ((0, 6) : Int × Int) tc w q) nnC G ad L f) (hW : WBp w 8) (hT : WBp tc 4) (hQ : QIp q) (hZ : ZZp w q) (hE : ∀ j, (tc j).1 = (tc j).2) : PMi l yX11_felt cX11_felt 4 .int 1 0 0 G [.ref (ad 0 0), .int i1, .int i2, .int i3] L f (fun r L1 f1 => SH (spC (NR 30 0 4) ((0, 6) : Int × Int) tc w q) nnC G ad L1 f1) := by
  refine PMi.of (post := fun r L1 f1 => SH (spC (NR 30 0 4) ((0, 6) : Int × Int) tc w q) nnC G ad L1 f1) (own := RX11) (by decide) rfl (Nat.le_of_ble_eq_true rfl) (fun sz p e s m args below meth c A ls hA1 hname S Y hl => ?_)
  have hx := S.hx
  have hb := S.hb
  have hl : lv_has ls 4 [(0, .ref (ad 0 0)), (1, .int i1), (2, .int i2), (3, .int i3)] := hl
  refine lv_iload_n hx hb dX11_felt_0 rfl (lv_at hl 1 rfl) ?_
  refine lv_iconst (v := (-1)) hx hb dX11_felt_1 (by decide) ?_
  refine lv_icmp_ne (tgt := 16) hx hb dX11_felt_2 (by decide) (fun c_75798 => ?_) (fun c_75798 => ?_)
  · refine lv_aload_n hx hb dX11_felt_16 rfl (lv_at hl 0 rfl) ?_
    have p_ad_0_0 := opnC_0 (j := 0) I (by decide)
    have p_ad_0_0 : pt L f (ad 0 0) (.inr (11, [.ref (ad 1 0), .ref (ad 1 1), .ref (ad 2 0), .ref (ad 3 0), .ref (ad 4 0), .ref (ad 5 0), .ref (ad 6 0), .ref (ad 7 0), .ref (ad 8 0)])) := p_ad_0_0
    refine pg_get S Y ok_X11 0 (by decide) kf11_13 (v := .ref (ad 1 0)) p_ad_0_0 rfl dX11_felt_17 ?_
    refine lv_iload_n hx hb dX11_felt_20 rfl (lv_at hl 1 rfl) ?_
    refine cVp (As := [.int i1]) (rest := []) S Y (x_X10_has (l := l) I hW hT hQ) cw_X10_has km11_192 (I.opo (k := 1) (j := 0) (by decide) rfl).choose_spec.1 ok_X10.1 rfl rfl ⟨Nat.le_of_ble_eq_true rfl, Nat.le_of_ble_eq_true rfl⟩ hl.1 rfl (Nat.le_of_ble_eq_true rfl) ⟨Nat.le_of_ble_eq_true rfl, Nat.le_of_ble_eq_true rfl⟩ dX11_felt_21 (fun r_75800 H locs er_75800 Y => ?_)
    refine lv_if_eq (tgt := 48) hx hb dX11_felt_24 (by decide) (fun c_75801 => ?_) (fun c_75801 => ?_)
    · have B_75802 : bn 0 0 r_75800 := bn_w (bn_eq c_75801 (show bn 0 0 (0 : Int32) from bn_k (by decide))) (by decide)
      refine lv_bipush (v := (-2)) hx hb dX11_felt_48 (by decide) ?_
      exact prI (post := fun r L1 f1 => SH (spC (NR 30 0 4) ((0, 6) : Int × Int) tc w q) nnC G ad L1 f1) S Y rfl (by decide) (by decide) hA1 I dX11_felt_50
    · have B_75803 : bn 1 1 r_75800 := bn_w (bn_nel c_75801 er_75800 (show bn 0 0 (0 : Int32) from bn_k (by decide))) (by decide)
      refine lv_iload_n hx hb dX11_felt_27 rfl (lv_at hl 2 rfl) ?_
      refine lv_iconst (v := 0) hx hb dX11_felt_28 (by decide) ?_
      refine lv_bipush (v := 9) hx hb dX11_felt_29 (by decide) ?_
      refine cSp (As := [.int i2, .int 0, .int 9]) (rest := []) S Y (x_X11_within (l := l) ) cw_X11_within km11_146 rfl ⟨Nat.le_of_ble_eq_true rfl, Nat.le_of_ble_eq_true rfl⟩ hl.1 rfl (Nat.le_of_ble_eq_true rfl) ⟨Nat.le_of_ble_eq_true rfl, Nat.le_of_ble_eq_true rfl⟩ dX11_felt_31 (fun r_75804 H locs er_75804 Y => ?_)
      refine lv_if_eq (tgt := 48) hx hb dX11_felt_34 (by decide) (fun c_75805 => ?_) (fun c_75805 => ?_)
      · have B_75806 : bn 0 0 r_75804 := bn_w (bn_eq c_75805 (show bn 0 0 (0 : Int32) from bn_k (by decide))) (by decide)
        refine lv_bipush (v := (-2)) hx hb dX11_felt_48 (by decide) ?_
        exact prI (post := fun r L1 f1 => SH (spC (NR 30 0 4) ((0, 6) : Int × Int) tc w q) nnC G ad L1 f1) S Y rfl (by decide) (by decide) hA1 I dX11_felt_50
      · have B_75807 : bn 1 1 r_75804 := bn_w (bn_nel c_75805 er_75804 (show bn 0 0 (0 : Int32) from bn_k (by decide))) (by decide)
        refine lv_iload_n hx hb dX11_felt_37 rfl (lv_at hl 3 rfl) ?_
        refine lv_iconst (v := 0) hx hb dX11_felt_38 (by decide) ?_
        refine lv_sipush (v := 999) hx hb dX11_felt_39 (by decide) ?_
        refine cSp (As := [.int i3, .int 0, .int 999]) (rest := []) S Y (x_X11_within (l := l) ) cw_X11_within km11_146 rfl ⟨Nat.le_of_ble_eq_true rfl, Nat.le_of_ble_eq_true rfl⟩ hl.1 rfl (Nat.le_of_ble_eq_true rfl) ⟨Nat.le_of_ble_eq_true rfl, Nat.le_of_ble_eq_true rfl⟩ dX11_felt_42 (fun r_75808 H locs er_75808 Y => ?_)
        refine lv_if_ne (tgt := 51) hx hb dX11_felt_45 (by decide) (fun c_75809 => ?_) (fun c_75809 => ?_)
        · have B_75810 : bn 1 1 r_75808 := bn_w (bn_nel c_75809 er_75808 (show bn 0 0 (0 : Int32) from bn_k (by decide))) (by decide)
          refine lv_aload_n hx hb dX11_felt_51 rfl (lv_at hl 0 rfl) ?_
          refine pg_get S Y ok_X11 0 (by decide) kf11_13 (v := .ref (ad 1 0)) p_ad_0_0 rfl dX11_felt_52 ?_
          obtain ⟨v_75812, v_75814, v_75816, v_75818, v_75820, p_ad_1_0, b_75813, b_75815, b_75817, b_75819, b_75821⟩ := opnC_1 (j := 0) I (by decide)
          have p_ad_1_0 : pt L f (ad 1 0) (.inr (10, [.ref (ad 40 0), .ref (ad 41 0), .ref (ad 42 0), .ref (ad 10 0), .ref (ad 43 0), .ref (ad 20 0), .ref (ad 20 1), .ref (ad 20 2), .ref (ad 20 3), .ref (ad 20 4), .int v_75812, .int v_75814, .int v_75816, .int v_75818, .int v_75820])) := p_ad_1_0
          refine pg_getN S Y ok_X10 5 (by decide) kf11_249 (v := .ref (ad 20 0)) p_ad_1_0 rfl dX11_felt_55 ?_
          refine lv_iload_n hx hb dX11_felt_58 rfl (lv_at hl 1 rfl) ?_
          refine lv_iload_n hx hb dX11_felt_59 rfl (lv_at hl 2 rfl) ?_
          refine lv_iload_n hx hb dX11_felt_60 rfl (lv_at hl 3 rfl) ?_
          refine cVi (As := [.int i1, .int i2, .int i3]) (rest := []) S Y (x_X9_tell (l := l) (j := 0) I hW hT hQ (by decide) (hZ _ (by decide) (by decide) (by decide)).1 (hZ _ (by decide) (by decide) (by decide)).2) cw_X9_tell km11_258 (I.opo (k := 20) (j := 0) (by decide) rfl).choose_spec.1 ok_X9.1 rfl rfl ⟨Nat.le_of_ble_eq_true rfl, Nat.le_of_ble_eq_true rfl⟩ hl.1 rfl (Nat.le_of_ble_eq_true rfl) ⟨Nat.le_of_ble_eq_true rfl, Nat.le_of_ble_eq_true rfl⟩ dX11_felt_61 (fun r_75824 L_75822 f_75823 H locs I Y => ?_)
          exact prI (post := fun r L1 f1 => SH (spC (NR 30 0 4) ((0, 6) : Int × Int) tc w q) nnC G ad L1 f1) S Y rfl (by decide) (by decide) hA1 I dX11_felt_64
        · have B_75811 : bn 0 0 r_75808 := bn_w (bn_eq c_75809 (show bn 0 0 (0 : Int32) from bn_k (by decide))) (by decide)
          refine lv_bipush (v := (-2)) hx hb dX11_felt_48 (by decide) ?_
          exact prI (post := fun r L1 f1 => SH (spC (NR 30 0 4) ((0, 6) : Int × Int) tc w q) nnC G ad L1 f1) S Y rfl (by decide) (by decide) hA1 I dX11_felt_50
  · have B_75799 : bn (-1) (-1) i1 := bn_w (bn_eq c_75798 (show bn (-1) (-1) ((-1) : Int32) from bn_k (by decide))) (by decide)
    refine lv_aload_n hx hb dX11_felt_5 rfl (lv_at hl 0 rfl) ?_
    have p_ad_0_0 := opnC_0 (j := 0) I (by decide)
    have p_ad_0_0 : pt L f (ad 0 0) (.inr (11, [.ref (ad 1 0), .ref (ad 1 1), .ref (ad 2 0), .ref (ad 3 0), .ref (ad 4 0), .ref (ad 5 0), .ref (ad 6 0), .ref (ad 7 0), .ref (ad 8 0)])) := p_ad_0_0
    refine pg_get S Y ok_X11 0 (by decide) kf11_13 (v := .ref (ad 1 0)) p_ad_0_0 rfl dX11_felt_6 ?_
    obtain ⟨v_75825, v_75827, v_75829, v_75831, v_75833, p_ad_1_0, b_75826, b_75828, b_75830, b_75832, b_75834⟩ := opnC_1 (j := 0) I (by decide)
    have p_ad_1_0 : pt L f (ad 1 0) (.inr (10, [.ref (ad 40 0), .ref (ad 41 0), .ref (ad 42 0), .ref (ad 10 0), .ref (ad 43 0), .ref (ad 20 0), .ref (ad 20 1), .ref (ad 20 2), .ref (ad 20 3), .ref (ad 20 4), .int v_75825, .int v_75827, .int v_75829, .int v_75831, .int v_75833])) := p_ad_1_0
    refine pg_getN S Y ok_X10 5 (by decide) kf11_249 (v := .ref (ad 20 0)) p_ad_1_0 rfl dX11_felt_9 ?_
    refine cVi (As := []) (rest := []) S Y (x_X9_forget (l := l) (j := 0) I hW hT hQ (by decide) (hZ _ (by decide) (by decide) (by decide)).1 (hZ _ (by decide) (by decide) (by decide)).2) cw_X9_forget km11_253 (I.opo (k := 20) (j := 0) (by decide) rfl).choose_spec.1 ok_X9.1 rfl rfl ⟨Nat.le_of_ble_eq_true rfl, Nat.le_of_ble_eq_true rfl⟩ hl.1 rfl (Nat.le_of_ble_eq_true rfl) ⟨Nat.le_of_ble_eq_true rfl, Nat.le_of_ble_eq_true rfl⟩ dX11_felt_12 (fun r_75837 L_75835 f_75836 H locs hr_75837 Y => ?_)
    obtain ⟨er_75837, I⟩ := hr_75837
    exact prI (post := fun r L1 f1 => SH (spC (NR 30 0 4) ((0, 6) : Int × Int) tc w q) nnC G ad L1 f1) S Y rfl (by decide) (by decide) hA1 I dX11_felt_15
set_option maxHeartbeats 4000000 in
set_option maxRecDepth 100000 in
theorem x_X11_breaches {l : Launch} {G : GG}  {L : List Nat} {f : HF} {ad : Nat → Nat → Nat} {tc w : Nat → Int × Int} {q : Nat → (Nat → Int32) → Prop} {i1 i2 : Int32} (I : SH (spC (NR 30 0 4) ((0, 6) : Int × Int) tc w q) nnC G ad L f) (hW : WBp w 8) (hT : WBp tc 4) (hQ : QIp q) (hZ : ZZp w q) (hE : ∀ j, (tc j).1 = (tc j).2) : PMi l yX11_breaches cX11_breaches 3 .int 6 0 0 G [.ref (ad 0 0), .int i1, .int i2] L f (fun r L1 f1 => SH (spC (NR 30 0 4) ((0, 6) : Int × Int) tc w q) nnC G ad L1 f1) := by
  refine PMi.of (post := fun r L1 f1 => SH (spC (NR 30 0 4) ((0, 6) : Int × Int) tc w q) nnC G ad L1 f1) (own := RX11) (by decide) rfl (Nat.le_of_ble_eq_true rfl) (fun sz p e s m args below meth c A ls hA1 hname S Y hl => ?_)
  have hx := S.hx
  have hb := S.hb
  have hl : lv_has ls 3 [(0, .ref (ad 0 0)), (1, .int i1), (2, .int i2)] := hl
  refine lv_aload_n hx hb dX11_breaches_0 rfl (lv_at hl 0 rfl) ?_
  have p_ad_0_0 := opnC_0 (j := 0) I (by decide)
  have p_ad_0_0 : pt L f (ad 0 0) (.inr (11, [.ref (ad 1 0), .ref (ad 1 1), .ref (ad 2 0), .ref (ad 3 0), .ref (ad 4 0), .ref (ad 5 0), .ref (ad 6 0), .ref (ad 7 0), .ref (ad 8 0)])) := p_ad_0_0
  refine pg_get S Y ok_X11 0 (by decide) kf11_13 (v := .ref (ad 1 0)) p_ad_0_0 rfl dX11_breaches_1 ?_
  refine lv_iload_n hx hb dX11_breaches_4 rfl (lv_at hl 1 rfl) ?_
  refine cVp (As := [.int i1]) (rest := []) S Y (x_X10_has (l := l) I hW hT hQ) cw_X10_has km11_192 (I.opo (k := 1) (j := 0) (by decide) rfl).choose_spec.1 ok_X10.1 rfl rfl ⟨Nat.le_of_ble_eq_true rfl, Nat.le_of_ble_eq_true rfl⟩ hl.1 rfl (Nat.le_of_ble_eq_true rfl) ⟨Nat.le_of_ble_eq_true rfl, Nat.le_of_ble_eq_true rfl⟩ dX11_breaches_5 (fun r_75872 H locs er_75872 Y => ?_)
  refine lv_if_eq (tgt := 20) hx hb dX11_breaches_8 (by decide) (fun c_75873 => ?_) (fun c_75873 => ?_)
  · have B_75874 : bn 0 0 r_75872 := bn_w (bn_eq c_75873 (show bn 0 0 (0 : Int32) from bn_k (by decide))) (by decide)
    refine lv_iconst (v := (-1)) hx hb dX11_breaches_20 (by decide) ?_
    exact prI (post := fun r L1 f1 => SH (spC (NR 30 0 4) ((0, 6) : Int × Int) tc w q) nnC G ad L1 f1) S Y rfl (by decide) (by decide) hA1 I dX11_breaches_21
  · have B_75875 : bn 1 1 r_75872 := bn_w (bn_nel c_75873 er_75872 (show bn 0 0 (0 : Int32) from bn_k (by decide))) (by decide)
    refine lv_iload_n hx hb dX11_breaches_11 rfl (lv_at hl 2 rfl) ?_
    refine lv_iconst (v := 0) hx hb dX11_breaches_12 (by decide) ?_
    refine lv_iconst (v := 2) hx hb dX11_breaches_13 (by decide) ?_
    refine cSp (As := [.int i2, .int 0, .int 2]) (rest := []) S Y (x_X11_within (l := l) ) cw_X11_within km11_146 rfl ⟨Nat.le_of_ble_eq_true rfl, Nat.le_of_ble_eq_true rfl⟩ hl.1 rfl (Nat.le_of_ble_eq_true rfl) ⟨Nat.le_of_ble_eq_true rfl, Nat.le_of_ble_eq_true rfl⟩ dX11_breaches_14 (fun r_75876 H locs er_75876 Y => ?_)
    refine lv_if_ne (tgt := 22) hx hb dX11_breaches_17 (by decide) (fun c_75877 => ?_) (fun c_75877 => ?_)
    · have B_75878 : bn 1 1 r_75876 := bn_w (bn_nel c_75877 er_75876 (show bn 0 0 (0 : Int32) from bn_k (by decide))) (by decide)
      refine lv_aload_n hx hb dX11_breaches_22 rfl (lv_at hl 0 rfl) ?_
      refine pg_get S Y ok_X11 7 (by decide) kf11_68 (v := .ref (ad 7 0)) p_ad_0_0 rfl dX11_breaches_23 ?_
      refine lv_iload_n hx hb dX11_breaches_26 rfl (lv_at hl 1 rfl) ?_
      refine cVv (As := [.int i1]) (rest := []) S Y (x_X8_weigh (l := l) I hW hT hQ) cw_X8_weigh km11_262 (I.opo (k := 7) (j := 0) (by decide) rfl).choose_spec.1 ok_X8.1 rfl rfl ⟨Nat.le_of_ble_eq_true rfl, Nat.le_of_ble_eq_true rfl⟩ hl.1 rfl (Nat.le_of_ble_eq_true rfl) ⟨Nat.le_of_ble_eq_true rfl, Nat.le_of_ble_eq_true rfl⟩ dX11_breaches_27 (fun L_75880 f_75881 H locs I Y => ?_)
      refine lv_iload_n hx hb dX11_breaches_30 rfl (lv_at hl 2 rfl) ?_
      refine lv_if_ne (tgt := 42) hx hb dX11_breaches_31 (by decide) (fun c_75882 => ?_) (fun c_75882 => ?_)
      · refine lv_iload_n hx hb dX11_breaches_42 rfl (lv_at hl 2 rfl) ?_
        refine lv_iconst (v := 1) hx hb dX11_breaches_43 (by decide) ?_
        refine lv_icmp_ne (tgt := 57) hx hb dX11_breaches_44 (by decide) (fun c_75884 => ?_) (fun c_75884 => ?_)
        · refine lv_aload_n hx hb dX11_breaches_57 rfl (lv_at hl 0 rfl) ?_
          have p_ad_0_0 := opnC_0 (j := 0) I (by decide)
          have p_ad_0_0 : pt L_75880 f_75881 (ad 0 0) (.inr (11, [.ref (ad 1 0), .ref (ad 1 1), .ref (ad 2 0), .ref (ad 3 0), .ref (ad 4 0), .ref (ad 5 0), .ref (ad 6 0), .ref (ad 7 0), .ref (ad 8 0)])) := p_ad_0_0
          refine pg_get S Y ok_X11 7 (by decide) kf11_68 (v := .ref (ad 7 0)) p_ad_0_0 rfl dX11_breaches_58 ?_
          refine cVp (As := []) (rest := []) S Y (x_X8_sureKept (l := l) I hW hT hQ) cw_X8_sureKept km11_271 (I.opo (k := 7) (j := 0) (by decide) rfl).choose_spec.1 ok_X8.1 rfl rfl ⟨Nat.le_of_ble_eq_true rfl, Nat.le_of_ble_eq_true rfl⟩ hl.1 rfl (Nat.le_of_ble_eq_true rfl) ⟨Nat.le_of_ble_eq_true rfl, Nat.le_of_ble_eq_true rfl⟩ dX11_breaches_61 (fun r_75886 H locs er_75886 Y => ?_)
          exact prI (post := fun r L1 f1 => SH (spC (NR 30 0 4) ((0, 6) : Int × Int) tc w q) nnC G ad L1 f1) S Y rfl (by decide) (by decide) hA1 I dX11_breaches_64
        · have B_75885 : bn 1 1 i2 := bn_w (bn_eq c_75884 (show bn 1 1 (1 : Int32) from bn_k (by decide))) (by decide)
          refine lv_aload_n hx hb dX11_breaches_47 rfl (lv_at hl 0 rfl) ?_
          have p_ad_0_0 := opnC_0 (j := 0) I (by decide)
          have p_ad_0_0 : pt L_75880 f_75881 (ad 0 0) (.inr (11, [.ref (ad 1 0), .ref (ad 1 1), .ref (ad 2 0), .ref (ad 3 0), .ref (ad 4 0), .ref (ad 5 0), .ref (ad 6 0), .ref (ad 7 0), .ref (ad 8 0)])) := p_ad_0_0
          refine pg_get S Y ok_X11 7 (by decide) kf11_68 (v := .ref (ad 7 0)) p_ad_0_0 rfl dX11_breaches_48 ?_
          refine cVp (As := []) (rest := []) S Y (x_X8_sureBroken (l := l) I hW hT hQ) cw_X8_sureBroken km11_268 (I.opo (k := 7) (j := 0) (by decide) rfl).choose_spec.1 ok_X8.1 rfl rfl ⟨Nat.le_of_ble_eq_true rfl, Nat.le_of_ble_eq_true rfl⟩ hl.1 rfl (Nat.le_of_ble_eq_true rfl) ⟨Nat.le_of_ble_eq_true rfl, Nat.le_of_ble_eq_true rfl⟩ dX11_breaches_51 (fun r_75887 H locs er_75887 Y => ?_)
          refine lv_goto (tgt := 64) hx hb dX11_breaches_54 (by decide) ?_
          exact prI (post := fun r L1 f1 => SH (spC (NR 30 0 4) ((0, 6) : Int × Int) tc w q) nnC G ad L1 f1) S Y rfl (by decide) (by decide) hA1 I dX11_breaches_64
      · have B_75883 : bn 0 0 i2 := bn_w (bn_eq c_75882 (show bn 0 0 (0 : Int32) from bn_k (by decide))) (by decide)
        refine lv_aload_n hx hb dX11_breaches_34 rfl (lv_at hl 0 rfl) ?_
        have p_ad_0_0 := opnC_0 (j := 0) I (by decide)
        have p_ad_0_0 : pt L_75880 f_75881 (ad 0 0) (.inr (11, [.ref (ad 1 0), .ref (ad 1 1), .ref (ad 2 0), .ref (ad 3 0), .ref (ad 4 0), .ref (ad 5 0), .ref (ad 6 0), .ref (ad 7 0), .ref (ad 8 0)])) := p_ad_0_0
        refine pg_get S Y ok_X11 7 (by decide) kf11_68 (v := .ref (ad 7 0)) p_ad_0_0 rfl dX11_breaches_35 ?_
        refine cVp (As := []) (rest := []) S Y (x_X8_sets (l := l) I hW hT hQ) cw_X8_sets km11_265 (I.opo (k := 7) (j := 0) (by decide) rfl).choose_spec.1 ok_X8.1 rfl rfl ⟨Nat.le_of_ble_eq_true rfl, Nat.le_of_ble_eq_true rfl⟩ hl.1 rfl (Nat.le_of_ble_eq_true rfl) ⟨Nat.le_of_ble_eq_true rfl, Nat.le_of_ble_eq_true rfl⟩ dX11_breaches_38 (fun r_75888 H locs er_75888 Y => ?_)
        exact prI (post := fun r L1 f1 => SH (spC (NR 30 0 4) ((0, 6) : Int × Int) tc w q) nnC G ad L1 f1) S Y rfl (by decide) (by decide) hA1 I dX11_breaches_41
    · have B_75879 : bn 0 0 r_75876 := bn_w (bn_eq c_75877 (show bn 0 0 (0 : Int32) from bn_k (by decide))) (by decide)
      refine lv_iconst (v := (-1)) hx hb dX11_breaches_20 (by decide) ?_
      exact prI (post := fun r L1 f1 => SH (spC (NR 30 0 4) ((0, 6) : Int × Int) tc w q) nnC G ad L1 f1) S Y rfl (by decide) (by decide) hA1 I dX11_breaches_21
set_option maxHeartbeats 4000000 in
set_option maxRecDepth 100000 in
theorem x_X11_odds {l : Launch} {G : GG}  {L : List Nat} {f : HF} {ad : Nat → Nat → Nat} {tc w : Nat → Int × Int} {q : Nat → (Nat → Int32) → Prop} {i1 i2 : Int32} (I : SH (spC (NR 30 0 4) ((0, 6) : Int × Int) tc w q) nnC G ad L f) (hW : WBp w 8) (hT : WBp tc 4) (hQ : QIp q) (b_i2 : bn 0 1 i2) (hZ : ZZp w q) (hE : ∀ j, (tc j).1 = (tc j).2) : PMi l yX11_odds cX11_odds 3 .int 6 0 0 G [.ref (ad 0 0), .int i1, .int i2] L f (fun r L1 f1 => SH (spC (NR 30 0 4) ((0, 6) : Int × Int) tc w q) nnC G ad L1 f1) := by
  refine PMi.of (post := fun r L1 f1 => SH (spC (NR 30 0 4) ((0, 6) : Int × Int) tc w q) nnC G ad L1 f1) (own := RX11) (by decide) rfl (Nat.le_of_ble_eq_true rfl) (fun sz p e s m args below meth c A ls hA1 hname S Y hl => ?_)
  have hx := S.hx
  have hb := S.hb
  have hl : lv_has ls 3 [(0, .ref (ad 0 0)), (1, .int i1), (2, .int i2)] := hl
  refine lv_aload_n hx hb dX11_odds_0 rfl (lv_at hl 0 rfl) ?_
  have p_ad_0_0 := opnC_0 (j := 0) I (by decide)
  have p_ad_0_0 : pt L f (ad 0 0) (.inr (11, [.ref (ad 1 0), .ref (ad 1 1), .ref (ad 2 0), .ref (ad 3 0), .ref (ad 4 0), .ref (ad 5 0), .ref (ad 6 0), .ref (ad 7 0), .ref (ad 8 0)])) := p_ad_0_0
  refine pg_get S Y ok_X11 0 (by decide) kf11_13 (v := .ref (ad 1 0)) p_ad_0_0 rfl dX11_odds_1 ?_
  obtain ⟨v_75925, v_75927, v_75929, v_75931, v_75933, p_ad_1_0, b_75926, b_75928, b_75930, b_75932, b_75934⟩ := opnC_1 (j := 0) I (by decide)
  have p_ad_1_0 : pt L f (ad 1 0) (.inr (10, [.ref (ad 40 0), .ref (ad 41 0), .ref (ad 42 0), .ref (ad 10 0), .ref (ad 43 0), .ref (ad 20 0), .ref (ad 20 1), .ref (ad 20 2), .ref (ad 20 3), .ref (ad 20 4), .int v_75925, .int v_75927, .int v_75929, .int v_75931, .int v_75933])) := p_ad_1_0
  refine pg_getN S Y ok_X10 3 (by decide) kf11_131 (v := .ref (ad 10 0)) p_ad_1_0 rfl dX11_odds_4 ?_
  refine lv_iload_n hx hb dX11_odds_7 rfl (lv_at hl 1 rfl) ?_
  refine cVp (As := [.int i1]) (rest := []) S Y (x_X4_legible (l := l) (j := 0) I hW hT hQ (by decide)) cw_X4_legible km11_274 (I.opo (k := 10) (j := 0) (by decide) rfl).choose_spec.1 ok_X4.1 rfl rfl ⟨Nat.le_of_ble_eq_true rfl, Nat.le_of_ble_eq_true rfl⟩ hl.1 rfl (Nat.le_of_ble_eq_true rfl) ⟨Nat.le_of_ble_eq_true rfl, Nat.le_of_ble_eq_true rfl⟩ dX11_odds_8 (fun r_75935 H locs er_75935 Y => ?_)
  refine lv_if_ne (tgt := 16) hx hb dX11_odds_11 (by decide) (fun c_75936 => ?_) (fun c_75936 => ?_)
  · have B_75937 : bn 1 1 r_75935 := bn_w (bn_nel c_75936 er_75935 (show bn 0 0 (0 : Int32) from bn_k (by decide))) (by decide)
    refine lv_aload_n hx hb dX11_odds_16 rfl (lv_at hl 0 rfl) ?_
    refine pg_get S Y ok_X11 7 (by decide) kf11_68 (v := .ref (ad 7 0)) p_ad_0_0 rfl dX11_odds_17 ?_
    refine lv_aload_n hx hb dX11_odds_20 rfl (lv_at hl 0 rfl) ?_
    refine pg_get S Y ok_X11 0 (by decide) kf11_13 (v := .ref (ad 1 0)) p_ad_0_0 rfl dX11_odds_21 ?_
    refine pg_getN S Y ok_X10 3 (by decide) kf11_131 (v := .ref (ad 10 0)) p_ad_1_0 rfl dX11_odds_24 ?_
    refine lv_iload_n hx hb dX11_odds_27 rfl (lv_at hl 1 rfl) ?_
    refine lv_iconst (v := 1) hx hb dX11_odds_28 (by decide) ?_
    refine cVp (As := [.int i1, .int 1]) (rest := [.ref (ad 7 0)]) S Y (x_X4_get (l := l) (j := 0) I hW hT hQ (by decide)) cw_X4_get km11_222 (I.opo (k := 10) (j := 0) (by decide) rfl).choose_spec.1 ok_X4.1 rfl rfl ⟨Nat.le_of_ble_eq_true rfl, Nat.le_of_ble_eq_true rfl⟩ hl.1 rfl (Nat.le_of_ble_eq_true rfl) ⟨Nat.le_of_ble_eq_true rfl, Nat.le_of_ble_eq_true rfl⟩ dX11_odds_29 (fun r_75939 H locs er_75939 Y => ?_)
    refine cVv (As := [.int r_75939]) (rest := []) S Y (x_X8_weigh (l := l) I hW hT hQ) cw_X8_weigh km11_262 (I.opo (k := 7) (j := 0) (by decide) rfl).choose_spec.1 ok_X8.1 rfl rfl ⟨Nat.le_of_ble_eq_true rfl, Nat.le_of_ble_eq_true rfl⟩ hl.1 rfl (Nat.le_of_ble_eq_true rfl) ⟨Nat.le_of_ble_eq_true rfl, Nat.le_of_ble_eq_true rfl⟩ dX11_odds_32 (fun L_75940 f_75941 H locs I Y => ?_)
    refine lv_aload_n hx hb dX11_odds_35 rfl (lv_at hl 0 rfl) ?_
    have p_ad_0_0 := opnC_0 (j := 0) I (by decide)
    have p_ad_0_0 : pt L_75940 f_75941 (ad 0 0) (.inr (11, [.ref (ad 1 0), .ref (ad 1 1), .ref (ad 2 0), .ref (ad 3 0), .ref (ad 4 0), .ref (ad 5 0), .ref (ad 6 0), .ref (ad 7 0), .ref (ad 8 0)])) := p_ad_0_0
    refine pg_get S Y ok_X11 7 (by decide) kf11_68 (v := .ref (ad 7 0)) p_ad_0_0 rfl dX11_odds_36 ?_
    refine lv_iload_n hx hb dX11_odds_39 rfl (lv_at hl 1 rfl) ?_
    refine lv_iload_n hx hb dX11_odds_40 rfl (lv_at hl 2 rfl) ?_
    refine cVp (As := [.int i1, .int i2]) (rest := []) S Y (x_X8_chance (l := l) I hW hT hQ (bn_w b_i2 (by decide))) cw_X8_chance km11_277 (I.opo (k := 7) (j := 0) (by decide) rfl).choose_spec.1 ok_X8.1 rfl rfl ⟨Nat.le_of_ble_eq_true rfl, Nat.le_of_ble_eq_true rfl⟩ hl.1 rfl (Nat.le_of_ble_eq_true rfl) ⟨Nat.le_of_ble_eq_true rfl, Nat.le_of_ble_eq_true rfl⟩ dX11_odds_41 (fun r_75942 H locs er_75942 Y => ?_)
    exact prI (post := fun r L1 f1 => SH (spC (NR 30 0 4) ((0, 6) : Int × Int) tc w q) nnC G ad L1 f1) S Y rfl (by decide) (by decide) hA1 I dX11_odds_44
  · have B_75938 : bn 0 0 r_75935 := bn_w (bn_eq c_75936 (show bn 0 0 (0 : Int32) from bn_k (by decide))) (by decide)
    refine lv_iconst (v := (-1)) hx hb dX11_odds_14 (by decide) ?_
    exact prI (post := fun r L1 f1 => SH (spC (NR 30 0 4) ((0, 6) : Int × Int) tc w q) nnC G ad L1 f1) S Y rfl (by decide) (by decide) hA1 I dX11_odds_15
set_option maxHeartbeats 4000000 in
set_option maxRecDepth 100000 in
theorem x_X11_nextAsked {l : Launch} {G : GG}  {L : List Nat} {f : HF} {ad : Nat → Nat → Nat} {tc w : Nat → Int × Int} {q : Nat → (Nat → Int32) → Prop} {i1 : Int32} (I : SH (spC (NR 30 0 4) ((0, 6) : Int × Int) tc w q) nnC G ad L f) (hW : WBp w 8) (hT : WBp tc 4) (hQ : QIp q) (hZ : ZZp w q) (hE : ∀ j, (tc j).1 = (tc j).2) : PMi l yX11_nextAsked cX11_nextAsked 2 .int 6 0 0 G [.ref (ad 0 0), .int i1] L f (fun r L1 f1 => SH (spC (NR 30 0 4) ((0, 6) : Int × Int) tc w q) nnC G ad L1 f1) := by
  refine PMi.of (post := fun r L1 f1 => SH (spC (NR 30 0 4) ((0, 6) : Int × Int) tc w q) nnC G ad L1 f1) (own := RX11) (by decide) rfl (Nat.le_of_ble_eq_true rfl) (fun sz p e s m args below meth c A ls hA1 hname S Y hl => ?_)
  have hx := S.hx
  have hb := S.hb
  have hl : lv_has ls 2 [(0, .ref (ad 0 0)), (1, .int i1)] := hl
  refine lv_aload_n hx hb dX11_nextAsked_0 rfl (lv_at hl 0 rfl) ?_
  have p_ad_0_0 := opnC_0 (j := 0) I (by decide)
  have p_ad_0_0 : pt L f (ad 0 0) (.inr (11, [.ref (ad 1 0), .ref (ad 1 1), .ref (ad 2 0), .ref (ad 3 0), .ref (ad 4 0), .ref (ad 5 0), .ref (ad 6 0), .ref (ad 7 0), .ref (ad 8 0)])) := p_ad_0_0
  refine pg_get S Y ok_X11 0 (by decide) kf11_13 (v := .ref (ad 1 0)) p_ad_0_0 rfl dX11_nextAsked_1 ?_
  refine lv_iload_n hx hb dX11_nextAsked_4 rfl (lv_at hl 1 rfl) ?_
  refine cVp (As := [.int i1]) (rest := []) S Y (x_X10_has (l := l) I hW hT hQ) cw_X10_has km11_192 (I.opo (k := 1) (j := 0) (by decide) rfl).choose_spec.1 ok_X10.1 rfl rfl ⟨Nat.le_of_ble_eq_true rfl, Nat.le_of_ble_eq_true rfl⟩ hl.1 rfl (Nat.le_of_ble_eq_true rfl) ⟨Nat.le_of_ble_eq_true rfl, Nat.le_of_ble_eq_true rfl⟩ dX11_nextAsked_5 (fun r_75957 H locs er_75957 Y => ?_)
  refine lv_if_ne (tgt := 13) hx hb dX11_nextAsked_8 (by decide) (fun c_75958 => ?_) (fun c_75958 => ?_)
  · have B_75959 : bn 1 1 r_75957 := bn_w (bn_nel c_75958 er_75957 (show bn 0 0 (0 : Int32) from bn_k (by decide))) (by decide)
    refine lv_aload_n hx hb dX11_nextAsked_13 rfl (lv_at hl 0 rfl) ?_
    refine pg_get S Y ok_X11 7 (by decide) kf11_68 (v := .ref (ad 7 0)) p_ad_0_0 rfl dX11_nextAsked_14 ?_
    refine lv_iload_n hx hb dX11_nextAsked_17 rfl (lv_at hl 1 rfl) ?_
    refine cVv (As := [.int i1]) (rest := []) S Y (x_X8_weigh (l := l) I hW hT hQ) cw_X8_weigh km11_262 (I.opo (k := 7) (j := 0) (by decide) rfl).choose_spec.1 ok_X8.1 rfl rfl ⟨Nat.le_of_ble_eq_true rfl, Nat.le_of_ble_eq_true rfl⟩ hl.1 rfl (Nat.le_of_ble_eq_true rfl) ⟨Nat.le_of_ble_eq_true rfl, Nat.le_of_ble_eq_true rfl⟩ dX11_nextAsked_18 (fun L_75961 f_75962 H locs I Y => ?_)
    refine lv_aload_n hx hb dX11_nextAsked_21 rfl (lv_at hl 0 rfl) ?_
    have p_ad_0_0 := opnC_0 (j := 0) I (by decide)
    have p_ad_0_0 : pt L_75961 f_75962 (ad 0 0) (.inr (11, [.ref (ad 1 0), .ref (ad 1 1), .ref (ad 2 0), .ref (ad 3 0), .ref (ad 4 0), .ref (ad 5 0), .ref (ad 6 0), .ref (ad 7 0), .ref (ad 8 0)])) := p_ad_0_0
    refine pg_get S Y ok_X11 7 (by decide) kf11_68 (v := .ref (ad 7 0)) p_ad_0_0 rfl dX11_nextAsked_22 ?_
    refine cVp (As := []) (rest := []) S Y (x_X8_mostTelling (l := l) I hW hT hQ) cw_X8_mostTelling km11_281 (I.opo (k := 7) (j := 0) (by decide) rfl).choose_spec.1 ok_X8.1 rfl rfl ⟨Nat.le_of_ble_eq_true rfl, Nat.le_of_ble_eq_true rfl⟩ hl.1 rfl (Nat.le_of_ble_eq_true rfl) ⟨Nat.le_of_ble_eq_true rfl, Nat.le_of_ble_eq_true rfl⟩ dX11_nextAsked_25 (fun r_75963 H locs er_75963 Y => ?_)
    exact prI (post := fun r L1 f1 => SH (spC (NR 30 0 4) ((0, 6) : Int × Int) tc w q) nnC G ad L1 f1) S Y rfl (by decide) (by decide) hA1 I dX11_nextAsked_28
  · have B_75960 : bn 0 0 r_75957 := bn_w (bn_eq c_75958 (show bn 0 0 (0 : Int32) from bn_k (by decide))) (by decide)
    refine lv_iconst (v := (-1)) hx hb dX11_nextAsked_11 (by decide) ?_
    exact prI (post := fun r L1 f1 => SH (spC (NR 30 0 4) ((0, 6) : Int × Int) tc w q) nnC G ad L1 f1) S Y rfl (by decide) (by decide) hA1 I dX11_nextAsked_12
set_option maxHeartbeats 4000000 in
set_option maxRecDepth 100000 in
theorem x_X11_clash {l : Launch} {G : GG}  {L : List Nat} {f : HF} {ad : Nat → Nat → Nat} {tc w : Nat → Int × Int} {q : Nat → (Nat → Int32) → Prop} {i1 i2 : Int32} (I : SH (spC (NR 30 0 4) ((0, 6) : Int × Int) tc w q) nnC G ad L f) (hW : WBp w 8) (hT : WBp tc 4) (hQ : QIp q) (hZ : ZZp w q) (hE : ∀ j, (tc j).1 = (tc j).2) : PMi l yX11_clash cX11_clash 3 .int 1 0 0 G [.ref (ad 0 0), .int i1, .int i2] L f (fun r L1 f1 => SH (spC (NR 30 0 4) ((0, 6) : Int × Int) tc w q) nnC G ad L1 f1) := by
  refine PMi.of (post := fun r L1 f1 => SH (spC (NR 30 0 4) ((0, 6) : Int × Int) tc w q) nnC G ad L1 f1) (own := RX11) (by decide) rfl (Nat.le_of_ble_eq_true rfl) (fun sz p e s m args below meth c A ls hA1 hname S Y hl => ?_)
  have hx := S.hx
  have hb := S.hb
  have hl : lv_has ls 3 [(0, .ref (ad 0 0)), (1, .int i1), (2, .int i2)] := hl
  refine lv_iload_n hx hb dX11_clash_0 rfl (lv_at hl 1 rfl) ?_
  refine lv_iconst (v := (-1)) hx hb dX11_clash_1 (by decide) ?_
  refine lv_icmp_ne (tgt := 16) hx hb dX11_clash_2 (by decide) (fun c_76038 => ?_) (fun c_76038 => ?_)
  · refine lv_aload_n hx hb dX11_clash_16 rfl (lv_at hl 0 rfl) ?_
    have p_ad_0_0 := opnC_0 (j := 0) I (by decide)
    have p_ad_0_0 : pt L f (ad 0 0) (.inr (11, [.ref (ad 1 0), .ref (ad 1 1), .ref (ad 2 0), .ref (ad 3 0), .ref (ad 4 0), .ref (ad 5 0), .ref (ad 6 0), .ref (ad 7 0), .ref (ad 8 0)])) := p_ad_0_0
    refine pg_get S Y ok_X11 0 (by decide) kf11_13 (v := .ref (ad 1 0)) p_ad_0_0 rfl dX11_clash_17 ?_
    obtain ⟨v_76040, v_76042, v_76044, v_76046, v_76048, p_ad_1_0, b_76041, b_76043, b_76045, b_76047, b_76049⟩ := opnC_1 (j := 0) I (by decide)
    have p_ad_1_0 : pt L f (ad 1 0) (.inr (10, [.ref (ad 40 0), .ref (ad 41 0), .ref (ad 42 0), .ref (ad 10 0), .ref (ad 43 0), .ref (ad 20 0), .ref (ad 20 1), .ref (ad 20 2), .ref (ad 20 3), .ref (ad 20 4), .int v_76040, .int v_76042, .int v_76044, .int v_76046, .int v_76048])) := p_ad_1_0
    refine pg_getN S Y ok_X10 3 (by decide) kf11_131 (v := .ref (ad 10 0)) p_ad_1_0 rfl dX11_clash_20 ?_
    refine lv_iload_n hx hb dX11_clash_23 rfl (lv_at hl 1 rfl) ?_
    refine cVp (As := [.int i1]) (rest := []) S Y (x_X4_has (l := l) (j := 0) I hW hT hQ (by decide)) cw_X4_has km11_211 (I.opo (k := 10) (j := 0) (by decide) rfl).choose_spec.1 ok_X4.1 rfl rfl ⟨Nat.le_of_ble_eq_true rfl, Nat.le_of_ble_eq_true rfl⟩ hl.1 rfl (Nat.le_of_ble_eq_true rfl) ⟨Nat.le_of_ble_eq_true rfl, Nat.le_of_ble_eq_true rfl⟩ dX11_clash_24 (fun r_76050 H locs er_76050 Y => ?_)
    refine lv_if_eq (tgt := 49) hx hb dX11_clash_27 (by decide) (fun c_76051 => ?_) (fun c_76051 => ?_)
    · have B_76052 : bn 0 0 r_76050 := bn_w (bn_eq c_76051 (show bn 0 0 (0 : Int32) from bn_k (by decide))) (by decide)
      refine lv_bipush (v := (-2)) hx hb dX11_clash_49 (by decide) ?_
      exact prI (post := fun r L1 f1 => SH (spC (NR 30 0 4) ((0, 6) : Int × Int) tc w q) nnC G ad L1 f1) S Y rfl (by decide) (by decide) hA1 I dX11_clash_51
    · have B_76053 : bn 1 1 r_76050 := bn_w (bn_nel c_76051 er_76050 (show bn 0 0 (0 : Int32) from bn_k (by decide))) (by decide)
      refine lv_aload_n hx hb dX11_clash_30 rfl (lv_at hl 0 rfl) ?_
      refine pg_get S Y ok_X11 0 (by decide) kf11_13 (v := .ref (ad 1 0)) p_ad_0_0 rfl dX11_clash_31 ?_
      refine pg_getN S Y ok_X10 3 (by decide) kf11_131 (v := .ref (ad 10 0)) p_ad_1_0 rfl dX11_clash_34 ?_
      refine lv_iload_n hx hb dX11_clash_37 rfl (lv_at hl 2 rfl) ?_
      refine cVp (As := [.int i2]) (rest := []) S Y (x_X4_has (l := l) (j := 0) I hW hT hQ (by decide)) cw_X4_has km11_211 (I.opo (k := 10) (j := 0) (by decide) rfl).choose_spec.1 ok_X4.1 rfl rfl ⟨Nat.le_of_ble_eq_true rfl, Nat.le_of_ble_eq_true rfl⟩ hl.1 rfl (Nat.le_of_ble_eq_true rfl) ⟨Nat.le_of_ble_eq_true rfl, Nat.le_of_ble_eq_true rfl⟩ dX11_clash_38 (fun r_76054 H locs er_76054 Y => ?_)
      refine lv_if_eq (tgt := 49) hx hb dX11_clash_41 (by decide) (fun c_76055 => ?_) (fun c_76055 => ?_)
      · have B_76056 : bn 0 0 r_76054 := bn_w (bn_eq c_76055 (show bn 0 0 (0 : Int32) from bn_k (by decide))) (by decide)
        refine lv_bipush (v := (-2)) hx hb dX11_clash_49 (by decide) ?_
        exact prI (post := fun r L1 f1 => SH (spC (NR 30 0 4) ((0, 6) : Int × Int) tc w q) nnC G ad L1 f1) S Y rfl (by decide) (by decide) hA1 I dX11_clash_51
      · have B_76057 : bn 1 1 r_76054 := bn_w (bn_nel c_76055 er_76054 (show bn 0 0 (0 : Int32) from bn_k (by decide))) (by decide)
        refine lv_iload_n hx hb dX11_clash_44 rfl (lv_at hl 1 rfl) ?_
        refine lv_iload_n hx hb dX11_clash_45 rfl (lv_at hl 2 rfl) ?_
        refine lv_icmp_ne (tgt := 52) hx hb dX11_clash_46 (by decide) (fun c_76058 => ?_) (fun c_76058 => ?_)
        · refine lv_aload_n hx hb dX11_clash_52 rfl (lv_at hl 0 rfl) ?_
          refine pg_get S Y ok_X11 0 (by decide) kf11_13 (v := .ref (ad 1 0)) p_ad_0_0 rfl dX11_clash_53 ?_
          refine pg_getN S Y ok_X10 6 (by decide) kf11_284 (v := .ref (ad 20 1)) p_ad_1_0 rfl dX11_clash_56 ?_
          refine lv_iload_n hx hb dX11_clash_59 rfl (lv_at hl 1 rfl) ?_
          refine lv_iload_n hx hb dX11_clash_60 rfl (lv_at hl 2 rfl) ?_
          refine lv_iconst (v := 0) hx hb dX11_clash_61 (by decide) ?_
          refine cVi (As := [.int i1, .int i2, .int 0]) (rest := []) S Y (x_X9_tell (l := l) (j := 1) I hW hT hQ (by decide) (hZ _ (by decide) (by decide) (by decide)).1 (hZ _ (by decide) (by decide) (by decide)).2) cw_X9_tell km11_258 (I.opo (k := 20) (j := 1) (by decide) rfl).choose_spec.1 ok_X9.1 rfl rfl ⟨Nat.le_of_ble_eq_true rfl, Nat.le_of_ble_eq_true rfl⟩ hl.1 rfl (Nat.le_of_ble_eq_true rfl) ⟨Nat.le_of_ble_eq_true rfl, Nat.le_of_ble_eq_true rfl⟩ dX11_clash_62 (fun r_76061 L_76059 f_76060 H locs I Y => ?_)
          exact prI (post := fun r L1 f1 => SH (spC (NR 30 0 4) ((0, 6) : Int × Int) tc w q) nnC G ad L1 f1) S Y rfl (by decide) (by decide) hA1 I dX11_clash_65
        · refine lv_bipush (v := (-2)) hx hb dX11_clash_49 (by decide) ?_
          exact prI (post := fun r L1 f1 => SH (spC (NR 30 0 4) ((0, 6) : Int × Int) tc w q) nnC G ad L1 f1) S Y rfl (by decide) (by decide) hA1 I dX11_clash_51
  · have B_76039 : bn (-1) (-1) i1 := bn_w (bn_eq c_76038 (show bn (-1) (-1) ((-1) : Int32) from bn_k (by decide))) (by decide)
    refine lv_aload_n hx hb dX11_clash_5 rfl (lv_at hl 0 rfl) ?_
    have p_ad_0_0 := opnC_0 (j := 0) I (by decide)
    have p_ad_0_0 : pt L f (ad 0 0) (.inr (11, [.ref (ad 1 0), .ref (ad 1 1), .ref (ad 2 0), .ref (ad 3 0), .ref (ad 4 0), .ref (ad 5 0), .ref (ad 6 0), .ref (ad 7 0), .ref (ad 8 0)])) := p_ad_0_0
    refine pg_get S Y ok_X11 0 (by decide) kf11_13 (v := .ref (ad 1 0)) p_ad_0_0 rfl dX11_clash_6 ?_
    obtain ⟨v_76062, v_76064, v_76066, v_76068, v_76070, p_ad_1_0, b_76063, b_76065, b_76067, b_76069, b_76071⟩ := opnC_1 (j := 0) I (by decide)
    have p_ad_1_0 : pt L f (ad 1 0) (.inr (10, [.ref (ad 40 0), .ref (ad 41 0), .ref (ad 42 0), .ref (ad 10 0), .ref (ad 43 0), .ref (ad 20 0), .ref (ad 20 1), .ref (ad 20 2), .ref (ad 20 3), .ref (ad 20 4), .int v_76062, .int v_76064, .int v_76066, .int v_76068, .int v_76070])) := p_ad_1_0
    refine pg_getN S Y ok_X10 6 (by decide) kf11_284 (v := .ref (ad 20 1)) p_ad_1_0 rfl dX11_clash_9 ?_
    refine cVi (As := []) (rest := []) S Y (x_X9_forget (l := l) (j := 1) I hW hT hQ (by decide) (hZ _ (by decide) (by decide) (by decide)).1 (hZ _ (by decide) (by decide) (by decide)).2) cw_X9_forget km11_253 (I.opo (k := 20) (j := 1) (by decide) rfl).choose_spec.1 ok_X9.1 rfl rfl ⟨Nat.le_of_ble_eq_true rfl, Nat.le_of_ble_eq_true rfl⟩ hl.1 rfl (Nat.le_of_ble_eq_true rfl) ⟨Nat.le_of_ble_eq_true rfl, Nat.le_of_ble_eq_true rfl⟩ dX11_clash_12 (fun r_76074 L_76072 f_76073 H locs hr_76074 Y => ?_)
    obtain ⟨er_76074, I⟩ := hr_76074
    exact prI (post := fun r L1 f1 => SH (spC (NR 30 0 4) ((0, 6) : Int × Int) tc w q) nnC G ad L1 f1) S Y rfl (by decide) (by decide) hA1 I dX11_clash_15
set_option maxHeartbeats 4000000 in
set_option maxRecDepth 100000 in
theorem x_X11_leastReleased {l : Launch} {G : GG}  {L : List Nat} {f : HF} {ad : Nat → Nat → Nat} {tc w : Nat → Int × Int} {q : Nat → (Nat → Int32) → Prop} (I : SH (spC (NR 30 0 4) ((0, 6) : Int × Int) tc w q) nnC G ad L f) (hW : WBp w 8) (hT : WBp tc 4) (hQ : QIp q) (hZ : ZZp w q) (hE : ∀ j, (tc j).1 = (tc j).2) : PMi l yX11_leastReleased cX11_leastReleased 1 .int 3 0 0 G [.ref (ad 0 0)] L f (fun r L1 f1 => SH (spC (NR 30 0 4) ((0, 6) : Int × Int) tc w q) nnC G ad L1 f1) := by
  refine PMi.of (post := fun r L1 f1 => SH (spC (NR 30 0 4) ((0, 6) : Int × Int) tc w q) nnC G ad L1 f1) (own := RX11) (by decide) rfl (Nat.le_of_ble_eq_true rfl) (fun sz p e s m args below meth c A ls hA1 hname S Y hl => ?_)
  have hx := S.hx
  have hb := S.hb
  have hl : lv_has ls 1 [(0, .ref (ad 0 0))] := hl
  refine lv_aload_n hx hb dX11_leastReleased_0 rfl (lv_at hl 0 rfl) ?_
  have p_ad_0_0 := opnC_0 (j := 0) I (by decide)
  have p_ad_0_0 : pt L f (ad 0 0) (.inr (11, [.ref (ad 1 0), .ref (ad 1 1), .ref (ad 2 0), .ref (ad 3 0), .ref (ad 4 0), .ref (ad 5 0), .ref (ad 6 0), .ref (ad 7 0), .ref (ad 8 0)])) := p_ad_0_0
  refine pg_get S Y ok_X11 8 (by decide) kf11_75 (v := .ref (ad 8 0)) p_ad_0_0 rfl dX11_leastReleased_1 ?_
  refine cVi (As := []) (rest := []) S Y (x_X0_fewestReleased (l := l) I hW hT hQ) cw_X0_fewestReleased km11_287 (I.opo (k := 8) (j := 0) (by decide) rfl).choose_spec.1 ok_X0.1 rfl rfl ⟨Nat.le_of_ble_eq_true rfl, Nat.le_of_ble_eq_true rfl⟩ hl.1 rfl (Nat.le_of_ble_eq_true rfl) ⟨Nat.le_of_ble_eq_true rfl, Nat.le_of_ble_eq_true rfl⟩ dX11_leastReleased_4 (fun r_76083 L_76081 f_76082 H locs I Y => ?_)
  exact prI (post := fun r L1 f1 => SH (spC (NR 30 0 4) ((0, 6) : Int × Int) tc w q) nnC G ad L1 f1) S Y rfl (by decide) (by decide) hA1 I dX11_leastReleased_7
set_option maxHeartbeats 4000000 in
set_option maxRecDepth 100000 in
theorem x_X11_forged {l : Launch} {G : GG}  {L : List Nat} {f : HF} {ad : Nat → Nat → Nat} {tc w : Nat → Int × Int} {q : Nat → (Nat → Int32) → Prop} {i1 i2 i3 : Int32} (I : SH (spC (NR 30 0 4) ((0, 6) : Int × Int) tc w q) nnC G ad L f) (hW : WBp w 8) (hT : WBp tc 4) (hQ : QIp q) (hZ : ZZp w q) (hE : ∀ j, (tc j).1 = (tc j).2) : PMi l yX11_forged cX11_forged 4 .int 2 0 0 G [.ref (ad 0 0), .int i1, .int i2, .int i3] L f (fun r L1 f1 => SH (spC (NR 30 0 4) ((0, 6) : Int × Int) tc w q) nnC G ad L1 f1) := by
  refine PMi.of (post := fun r L1 f1 => SH (spC (NR 30 0 4) ((0, 6) : Int × Int) tc w q) nnC G ad L1 f1) (own := RX11) (by decide) rfl (Nat.le_of_ble_eq_true rfl) (fun sz p e s m args below meth c A ls hA1 hname S Y hl => ?_)
  have hx := S.hx
  have hb := S.hb
  have hl : lv_has ls 4 [(0, .ref (ad 0 0)), (1, .int i1), (2, .int i2), (3, .int i3)] := hl
  refine lv_aload_n hx hb dX11_forged_0 rfl (lv_at hl 0 rfl) ?_
  have p_ad_0_0 := opnC_0 (j := 0) I (by decide)
  have p_ad_0_0 : pt L f (ad 0 0) (.inr (11, [.ref (ad 1 0), .ref (ad 1 1), .ref (ad 2 0), .ref (ad 3 0), .ref (ad 4 0), .ref (ad 5 0), .ref (ad 6 0), .ref (ad 7 0), .ref (ad 8 0)])) := p_ad_0_0
  refine pg_get S Y ok_X11 0 (by decide) kf11_13 (v := .ref (ad 1 0)) p_ad_0_0 rfl dX11_forged_1 ?_
  refine lv_iload_n hx hb dX11_forged_4 rfl (lv_at hl 1 rfl) ?_
  refine cVp (As := [.int i1]) (rest := []) S Y (x_X10_has (l := l) I hW hT hQ) cw_X10_has km11_192 (I.opo (k := 1) (j := 0) (by decide) rfl).choose_spec.1 ok_X10.1 rfl rfl ⟨Nat.le_of_ble_eq_true rfl, Nat.le_of_ble_eq_true rfl⟩ hl.1 rfl (Nat.le_of_ble_eq_true rfl) ⟨Nat.le_of_ble_eq_true rfl, Nat.le_of_ble_eq_true rfl⟩ dX11_forged_5 (fun r_76132 H locs er_76132 Y => ?_)
  refine lv_if_eq (tgt := 30) hx hb dX11_forged_8 (by decide) (fun c_76133 => ?_) (fun c_76133 => ?_)
  · have B_76134 : bn 0 0 r_76132 := bn_w (bn_eq c_76133 (show bn 0 0 (0 : Int32) from bn_k (by decide))) (by decide)
    refine lv_sipush (v := (-1000)) hx hb dX11_forged_30 (by decide) ?_
    exact prI (post := fun r L1 f1 => SH (spC (NR 30 0 4) ((0, 6) : Int × Int) tc w q) nnC G ad L1 f1) S Y rfl (by decide) (by decide) hA1 I dX11_forged_33
  · have B_76135 : bn 1 1 r_76132 := bn_w (bn_nel c_76133 er_76132 (show bn 0 0 (0 : Int32) from bn_k (by decide))) (by decide)
    refine lv_iload_n hx hb dX11_forged_11 rfl (lv_at hl 2 rfl) ?_
    refine lv_iconst (v := 0) hx hb dX11_forged_12 (by decide) ?_
    refine lv_iconst (v := 1) hx hb dX11_forged_13 (by decide) ?_
    refine cSp (As := [.int i2, .int 0, .int 1]) (rest := []) S Y (x_X11_within (l := l) ) cw_X11_within km11_146 rfl ⟨Nat.le_of_ble_eq_true rfl, Nat.le_of_ble_eq_true rfl⟩ hl.1 rfl (Nat.le_of_ble_eq_true rfl) ⟨Nat.le_of_ble_eq_true rfl, Nat.le_of_ble_eq_true rfl⟩ dX11_forged_14 (fun r_76136 H locs er_76136 Y => ?_)
    refine lv_if_eq (tgt := 30) hx hb dX11_forged_17 (by decide) (fun c_76137 => ?_) (fun c_76137 => ?_)
    · have B_76138 : bn 0 0 r_76136 := bn_w (bn_eq c_76137 (show bn 0 0 (0 : Int32) from bn_k (by decide))) (by decide)
      refine lv_sipush (v := (-1000)) hx hb dX11_forged_30 (by decide) ?_
      exact prI (post := fun r L1 f1 => SH (spC (NR 30 0 4) ((0, 6) : Int × Int) tc w q) nnC G ad L1 f1) S Y rfl (by decide) (by decide) hA1 I dX11_forged_33
    · have B_76139 : bn 1 1 r_76136 := bn_w (bn_nel c_76137 er_76136 (show bn 0 0 (0 : Int32) from bn_k (by decide))) (by decide)
      refine lv_iload_n hx hb dX11_forged_20 rfl (lv_at hl 3 rfl) ?_
      refine lv_iconst (v := 0) hx hb dX11_forged_21 (by decide) ?_
      refine lv_bipush (v := 99) hx hb dX11_forged_22 (by decide) ?_
      refine cSp (As := [.int i3, .int 0, .int 99]) (rest := []) S Y (x_X11_within (l := l) ) cw_X11_within km11_146 rfl ⟨Nat.le_of_ble_eq_true rfl, Nat.le_of_ble_eq_true rfl⟩ hl.1 rfl (Nat.le_of_ble_eq_true rfl) ⟨Nat.le_of_ble_eq_true rfl, Nat.le_of_ble_eq_true rfl⟩ dX11_forged_24 (fun r_76140 H locs er_76140 Y => ?_)
      refine lv_if_ne (tgt := 34) hx hb dX11_forged_27 (by decide) (fun c_76141 => ?_) (fun c_76141 => ?_)
      · have B_76142 : bn 1 1 r_76140 := bn_w (bn_nel c_76141 er_76140 (show bn 0 0 (0 : Int32) from bn_k (by decide))) (by decide)
        refine lv_iload_n hx hb dX11_forged_34 rfl (lv_at hl 3 rfl) ?_
        refine lv_aload_n hx hb dX11_forged_35 rfl (lv_at hl 0 rfl) ?_
        refine pg_get S Y ok_X11 0 (by decide) kf11_13 (v := .ref (ad 1 0)) p_ad_0_0 rfl dX11_forged_36 ?_
        obtain ⟨v_76144, v_76146, v_76148, v_76150, v_76152, p_ad_1_0, b_76145, b_76147, b_76149, b_76151, b_76153⟩ := opnC_1 (j := 0) I (by decide)
        have p_ad_1_0 : pt L f (ad 1 0) (.inr (10, [.ref (ad 40 0), .ref (ad 41 0), .ref (ad 42 0), .ref (ad 10 0), .ref (ad 43 0), .ref (ad 20 0), .ref (ad 20 1), .ref (ad 20 2), .ref (ad 20 3), .ref (ad 20 4), .int v_76144, .int v_76146, .int v_76148, .int v_76150, .int v_76152])) := p_ad_1_0
        refine pg_getN S Y ok_X10 3 (by decide) kf11_131 (v := .ref (ad 10 0)) p_ad_1_0 rfl dX11_forged_39 ?_
        refine lv_iload_n hx hb dX11_forged_42 rfl (lv_at hl 1 rfl) ?_
        refine lv_iload_n hx hb dX11_forged_43 rfl (lv_at hl 2 rfl) ?_
        refine cVp (As := [.int i1, .int i2]) (rest := [.int i3]) S Y (x_X4_marksOnKnee (l := l) (j := 0) I hW hT hQ (by decide)) cw_X4_marksOnKnee km11_290 (I.opo (k := 10) (j := 0) (by decide) rfl).choose_spec.1 ok_X4.1 rfl rfl ⟨Nat.le_of_ble_eq_true rfl, Nat.le_of_ble_eq_true rfl⟩ hl.1 rfl (Nat.le_of_ble_eq_true rfl) ⟨Nat.le_of_ble_eq_true rfl, Nat.le_of_ble_eq_true rfl⟩ dX11_forged_44 (fun r_76154 H locs er_76154 Y => ?_)
        refine lv_isub hx hb dX11_forged_47 ?_
        refine lv_topi (fun x_76155 ex_76155 => ?_)
        exact prI (post := fun r L1 f1 => SH (spC (NR 30 0 4) ((0, 6) : Int × Int) tc w q) nnC G ad L1 f1) S Y rfl (by decide) (by decide) hA1 I dX11_forged_48
      · have B_76143 : bn 0 0 r_76140 := bn_w (bn_eq c_76141 (show bn 0 0 (0 : Int32) from bn_k (by decide))) (by decide)
        refine lv_sipush (v := (-1000)) hx hb dX11_forged_30 (by decide) ?_
        exact prI (post := fun r L1 f1 => SH (spC (NR 30 0 4) ((0, 6) : Int × Int) tc w q) nnC G ad L1 f1) S Y rfl (by decide) (by decide) hA1 I dX11_forged_33
set_option maxHeartbeats 4000000 in
set_option maxRecDepth 100000 in
theorem x_X11_inTime {l : Launch} {G : GG}  {L : List Nat} {f : HF} {ad : Nat → Nat → Nat} {tc w : Nat → Int × Int} {q : Nat → (Nat → Int32) → Prop} {i1 : Int32} (I : SH (spC (NR 30 0 4) ((0, 6) : Int × Int) tc w q) nnC G ad L f) (hW : WBp w 8) (hT : WBp tc 4) (hQ : QIp q) (hZ : ZZp w q) (hE : ∀ j, (tc j).1 = (tc j).2) : PMi l yX11_inTime cX11_inTime 3 .int 4 0 0 G [.ref (ad 0 0), .int i1] L f (fun r L1 f1 => SH (spC (NR 30 0 4) ((0, 6) : Int × Int) tc w q) nnC G ad L1 f1) := by
  refine PMi.of (post := fun r L1 f1 => SH (spC (NR 30 0 4) ((0, 6) : Int × Int) tc w q) nnC G ad L1 f1) (own := RX11) (by decide) rfl (Nat.le_of_ble_eq_true rfl) (fun sz p e s m args below meth c A ls hA1 hname S Y hl => ?_)
  have hx := S.hx
  have hb := S.hb
  have hl : lv_has ls 3 [(0, .ref (ad 0 0)), (1, .int i1)] := hl
  refine lv_iload_n hx hb dX11_inTime_0 rfl (lv_at hl 1 rfl) ?_
  refine lv_iconst (v := 0) hx hb dX11_inTime_1 (by decide) ?_
  refine lv_iconst (v := 2) hx hb dX11_inTime_2 (by decide) ?_
  refine cSp (As := [.int i1, .int 0, .int 2]) (rest := []) S Y (x_X11_within (l := l) ) cw_X11_within km11_146 rfl ⟨Nat.le_of_ble_eq_true rfl, Nat.le_of_ble_eq_true rfl⟩ hl.1 rfl (Nat.le_of_ble_eq_true rfl) ⟨Nat.le_of_ble_eq_true rfl, Nat.le_of_ble_eq_true rfl⟩ dX11_inTime_3 (fun r_76178 H locs er_76178 Y => ?_)
  refine lv_if_ne (tgt := 11) hx hb dX11_inTime_6 (by decide) (fun c_76179 => ?_) (fun c_76179 => ?_)
  · have B_76180 : bn 1 1 r_76178 := bn_w (bn_nel c_76179 er_76178 (show bn 0 0 (0 : Int32) from bn_k (by decide))) (by decide)
    refine lv_aload_n hx hb dX11_inTime_11 rfl (lv_at hl 0 rfl) ?_
    have p_ad_0_0 := opnC_0 (j := 0) I (by decide)
    have p_ad_0_0 : pt L f (ad 0 0) (.inr (11, [.ref (ad 1 0), .ref (ad 1 1), .ref (ad 2 0), .ref (ad 3 0), .ref (ad 4 0), .ref (ad 5 0), .ref (ad 6 0), .ref (ad 7 0), .ref (ad 8 0)])) := p_ad_0_0
    refine pg_get S Y ok_X11 8 (by decide) kf11_75 (v := .ref (ad 8 0)) p_ad_0_0 rfl dX11_inTime_12 ?_
    refine cVp (As := []) (rest := []) S Y (x_X0_mostInTime (l := l) I hW hT hQ) cw_X0_mostInTime km11_296 (I.opo (k := 8) (j := 0) (by decide) rfl).choose_spec.1 ok_X0.1 rfl rfl ⟨Nat.le_of_ble_eq_true rfl, Nat.le_of_ble_eq_true rfl⟩ hl.1 rfl (Nat.le_of_ble_eq_true rfl) ⟨Nat.le_of_ble_eq_true rfl, Nat.le_of_ble_eq_true rfl⟩ dX11_inTime_15 (fun r_76182 H locs er_76182 Y => ?_)
    refine lv_istore_n (lv' := [(2, .int r_76182), (0, .ref (ad 0 0)), (1, .int i1)]) hx hb dX11_inTime_18 rfl hl (by decide) rfl (fun ls hl => ?_)
    refine lv_iload_n hx hb dX11_inTime_19 rfl (lv_at hl 2 rfl) ?_
    refine lv_if_ne (tgt := 28) hx hb dX11_inTime_20 (by decide) (fun c_76183 => ?_) (fun c_76183 => ?_)
    · refine lv_iload_n hx hb dX11_inTime_28 rfl (lv_at hl 2 rfl) ?_
      refine lv_iconst (v := 1) hx hb dX11_inTime_29 (by decide) ?_
      refine lv_icmp_ne (tgt := 37) hx hb dX11_inTime_30 (by decide) (fun c_76185 => ?_) (fun c_76185 => ?_)
      · refine lv_aload_n hx hb dX11_inTime_37 rfl (lv_at hl 1 rfl) ?_
        refine pg_get S Y ok_X11 8 (by decide) kf11_75 (v := .ref (ad 8 0)) p_ad_0_0 rfl dX11_inTime_38 ?_
        refine lv_iload_n hx hb dX11_inTime_41 rfl (lv_at hl 0 rfl) ?_
        refine lv_sipush (v := 999) hx hb dX11_inTime_42 (by decide) ?_
        refine cVp (As := [.int r_76182, .int 999]) (rest := []) S Y (x_X0_workOf (l := l) I hW hT hQ) cw_X0_workOf km11_304 (I.opo (k := 8) (j := 0) (by decide) rfl).choose_spec.1 ok_X0.1 rfl rfl ⟨Nat.le_of_ble_eq_true rfl, Nat.le_of_ble_eq_true rfl⟩ hl.1 rfl (Nat.le_of_ble_eq_true rfl) ⟨Nat.le_of_ble_eq_true rfl, Nat.le_of_ble_eq_true rfl⟩ dX11_inTime_45 (fun r_76187 H locs er_76187 Y => ?_)
        exact prI (post := fun r L1 f1 => SH (spC (NR 30 0 4) ((0, 6) : Int × Int) tc w q) nnC G ad L1 f1) S Y rfl (by decide) (by decide) hA1 I dX11_inTime_48
      · have B_76186 : bn 1 1 i1 := bn_w (bn_eq c_76185 (show bn 1 1 (1 : Int32) from bn_k (by decide))) (by decide)
        refine lv_iload_n hx hb dX11_inTime_33 rfl (lv_at hl 0 rfl) ?_
        refine lv_goto (tgt := 48) hx hb dX11_inTime_34 (by decide) ?_
        exact prI (post := fun r L1 f1 => SH (spC (NR 30 0 4) ((0, 6) : Int × Int) tc w q) nnC G ad L1 f1) S Y rfl (by decide) (by decide) hA1 I dX11_inTime_48
    · have B_76184 : bn 0 0 i1 := bn_w (bn_eq c_76183 (show bn 0 0 (0 : Int32) from bn_k (by decide))) (by decide)
      refine lv_iload_n hx hb dX11_inTime_23 rfl (lv_at hl 0 rfl) ?_
      refine cSp (As := [.int r_76182]) (rest := []) S Y (x_bitCount (l := l) ) cw_X106_bitCount_0f7a4 km11_299 rfl ⟨Nat.le_of_ble_eq_true rfl, Nat.le_of_ble_eq_true rfl⟩ hl.1 rfl (Nat.le_of_ble_eq_true rfl) ⟨Nat.le_of_ble_eq_true rfl, Nat.le_of_ble_eq_true rfl⟩ dX11_inTime_24 (fun r_76188 H locs er_76188 Y => ?_)
      exact prI (post := fun r L1 f1 => SH (spC (NR 30 0 4) ((0, 6) : Int × Int) tc w q) nnC G ad L1 f1) S Y rfl (by decide) (by decide) hA1 I dX11_inTime_27
  · have B_76181 : bn 0 0 r_76178 := bn_w (bn_eq c_76179 (show bn 0 0 (0 : Int32) from bn_k (by decide))) (by decide)
    refine lv_iconst (v := (-1)) hx hb dX11_inTime_9 (by decide) ?_
    exact prI (post := fun r L1 f1 => SH (spC (NR 30 0 4) ((0, 6) : Int × Int) tc w q) nnC G ad L1 f1) S Y rfl (by decide) (by decide) hA1 I dX11_inTime_10
set_option maxHeartbeats 4000000 in
set_option maxRecDepth 100000 in
theorem x_X11_whom {l : Launch} {G : GG}  {L : List Nat} {f : HF} {ad : Nat → Nat → Nat} {tc w : Nat → Int × Int} {q : Nat → (Nat → Int32) → Prop} {i1 : Int32} (I : SH (spC (NR 30 0 4) ((0, 6) : Int × Int) tc w q) nnC G ad L f) (hW : WBp w 8) (hT : WBp tc 4) (hQ : QIp q) (hZ : ZZp w q) (hE : ∀ j, (tc j).1 = (tc j).2) : PMi l yX11_whom cX11_whom 6 .int 4 0 0 G [.ref (ad 0 0), .int i1] L f (fun r L1 f1 => SH (spC (NR 30 0 4) ((0, 6) : Int × Int) tc w q) nnC G ad L1 f1) := by
  refine PMi.of (post := fun r L1 f1 => SH (spC (NR 30 0 4) ((0, 6) : Int × Int) tc w q) nnC G ad L1 f1) (own := RX11) (by decide) rfl (Nat.le_of_ble_eq_true rfl) (fun sz p e s m args below meth c A ls hA1 hname S Y hl => ?_)
  have hx := S.hx
  have hb := S.hb
  have hl : lv_has ls 6 [(0, .ref (ad 0 0)), (1, .int i1)] := hl
  have J_20 : ∀ (n20 : Nat) (y20_2 y20_3 y20_4 : Int32) (L_20 : List Nat) (f_20 : HF) (H : Heap) (locs : List Loc) (ls : Array Slot), (SH (spC (NR 30 0 4) ((0, 6) : Int × Int) tc w q) nnC G ad L_20 f_20) → (bn (-1) 5 y20_2) → (bn 0 6 y20_4) → (((6 : Int) - y20_4.toInt).toNat = n20) → (DY G A s [] L_20 f_20 H locs) → (lv_has ls 6 [(0, .ref (ad 0 0)), (1, .int i1), (2, .int y20_2), (3, .int y20_3), (4, .int y20_4)]) → W p l e (rmD 4 0 0) s m args below meth c H locs (0) (0) (MQ below (va_Qi (fun r (u : List Nat × HF) => (fun r L1 f1 => SH (spC (NR 30 0 4) ((0, 6) : Int × Int) tc w q) nnC G ad L1 f1) r u.1 u.2) (fun u t => pOut G (va_A (va_pl L f) sz) u.1 u.2 t) (va_A (va_pl L f) sz)) args s 0 0 A) (F0 m 20 ls []) := by
    intro n20
    induction n20 using Nat.strongRecOn with
    | _ n20 ih20 =>
      intro y20_2 y20_3 y20_4 L_20 f_20 H locs ls I b_y20_2 b_y20_4 hm20 Y hl
      refine lv_iload hx hb dX11_whom_20 (lv_at hl 4 rfl) ?_
      refine lv_aload_n hx hb dX11_whom_22 rfl (lv_at hl 0 rfl) ?_
      have p_ad_0_0 := opnC_0 (j := 0) I (by decide)
      have p_ad_0_0 : pt L_20 f_20 (ad 0 0) (.inr (11, [.ref (ad 1 0), .ref (ad 1 1), .ref (ad 2 0), .ref (ad 3 0), .ref (ad 4 0), .ref (ad 5 0), .ref (ad 6 0), .ref (ad 7 0), .ref (ad 8 0)])) := p_ad_0_0
      refine pg_get S Y ok_X11 0 (by decide) kf11_13 (v := .ref (ad 1 0)) p_ad_0_0 rfl dX11_whom_23 ?_
      obtain ⟨v_76412, v_76414, v_76416, v_76418, v_76420, p_ad_1_0, b_76413, b_76415, b_76417, b_76419, b_76421⟩ := opnC_1 (j := 0) I (by decide)
      have p_ad_1_0 : pt L_20 f_20 (ad 1 0) (.inr (10, [.ref (ad 40 0), .ref (ad 41 0), .ref (ad 42 0), .ref (ad 10 0), .ref (ad 43 0), .ref (ad 20 0), .ref (ad 20 1), .ref (ad 20 2), .ref (ad 20 3), .ref (ad 20 4), .int v_76412, .int v_76414, .int v_76416, .int v_76418, .int v_76420])) := p_ad_1_0
      refine pg_getN S Y ok_X10 10 (by decide) kf11_174 (v := .int v_76412) p_ad_1_0 rfl dX11_whom_26 ?_
      refine lv_icmp_ge (tgt := 89) hx hb dX11_whom_29 (by decide) (fun c_76422 => ?_) (fun c_76422 => ?_)
      · refine lv_iload_n hx hb dX11_whom_89 rfl (lv_at hl 2 rfl) ?_
        exact prI (post := fun r L1 f1 => SH (spC (NR 30 0 4) ((0, 6) : Int × Int) tc w q) nnC G ad L1 f1) S Y rfl (by decide) (by decide) hA1 I dX11_whom_90
      · have B_76423 : bn 1 6 v_76412 := bn_w (bn_gtl c_76422 b_76413 b_y20_4) (by decide)
        have B_76424 : bn 0 5 y20_4 := bn_w (bn_gtr c_76422 b_76413 b_y20_4) (by decide)
        refine lv_iload hx hb dX11_whom_32 (lv_at hl 4 rfl) ?_
        refine lv_iload_n hx hb dX11_whom_34 rfl (lv_at hl 1 rfl) ?_
        refine lv_icmp_ne (tgt := 42) hx hb dX11_whom_35 (by decide) (fun c_76425 => ?_) (fun c_76425 => ?_)
        · refine lv_aload_n hx hb dX11_whom_42 rfl (lv_at hl 0 rfl) ?_
          refine pg_get S Y ok_X11 3 (by decide) kf11_34 (v := .ref (ad 3 0)) p_ad_0_0 rfl dX11_whom_43 ?_
          refine lv_aload_n hx hb dX11_whom_46 rfl (lv_at hl 0 rfl) ?_
          refine pg_get S Y ok_X11 0 (by decide) kf11_13 (v := .ref (ad 1 0)) p_ad_0_0 rfl dX11_whom_47 ?_
          refine pg_getN S Y ok_X10 3 (by decide) kf11_131 (v := .ref (ad 10 0)) p_ad_1_0 rfl dX11_whom_50 ?_
          refine lv_iload hx hb dX11_whom_53 (lv_at hl 4 rfl) ?_
          refine cVi (As := [.ref (ad 10 0), .int y20_4]) (rest := []) S Y (x_X3_riskOf (l := l) (j := 0) I hW hT hQ (by decide)) cw_X3_riskOf km11_205 (I.opo (k := 3) (j := 0) (by decide) rfl).choose_spec.1 ok_X3.1 rfl rfl ⟨Nat.le_of_ble_eq_true rfl, Nat.le_of_ble_eq_true rfl⟩ hl.1 rfl (Nat.le_of_ble_eq_true rfl) ⟨Nat.le_of_ble_eq_true rfl, Nat.le_of_ble_eq_true rfl⟩ dX11_whom_55 (fun r_76428 L_76426 f_76427 H locs I Y => ?_)
          refine lv_istore (lv' := [(5, .int r_76428), (0, .ref (ad 0 0)), (1, .int i1), (2, .int y20_2), (3, .int y20_3), (4, .int y20_4)]) hx hb dX11_whom_58 hl (by decide) rfl (fun ls hl => ?_)
          refine lv_iload hx hb dX11_whom_60 (lv_at hl 5 rfl) ?_
          refine lv_iload_n hx hb dX11_whom_62 rfl (lv_at hl 2 rfl) ?_
          refine lv_icmp_eq (tgt := 83) hx hb dX11_whom_63 (by decide) (fun h => absurd h c_76425) (fun _ => ?_)
          refine lv_iload_n hx hb dX11_whom_66 rfl (lv_at hl 3 rfl) ?_
          refine lv_iconst (v := (-1)) hx hb dX11_whom_67 (by decide) ?_
          refine lv_icmp_eq (tgt := 77) hx hb dX11_whom_68 (by decide) (fun c_76429 => ?_) (fun c_76429 => ?_)
          · have B_76430 : bn (-1) (-1) y20_2 := bn_w (bn_eq c_76429 (show bn (-1) (-1) ((-1) : Int32) from bn_k (by decide))) (by decide)
            refine lv_iload hx hb dX11_whom_77 (lv_at hl 5 rfl) ?_
            refine lv_istore_n (lv' := [(2, .int y20_4), (5, .int r_76428), (0, .ref (ad 0 0)), (1, .int i1), (3, .int y20_3), (4, .int y20_4)]) hx hb dX11_whom_79 rfl hl (by decide) rfl (fun ls hl => ?_)
            refine lv_iload hx hb dX11_whom_80 (lv_at hl 1 rfl) ?_
            refine lv_istore_n (lv' := [(3, .int r_76428), (2, .int y20_4), (5, .int r_76428), (0, .ref (ad 0 0)), (1, .int i1), (4, .int y20_4)]) hx hb dX11_whom_82 rfl hl (by decide) rfl (fun ls hl => ?_)
            obtain ⟨x_76432, ex_76432⟩ : ∃ z : Int32, z = y20_4 + 1 := ⟨_, rfl⟩
            refine lv_iinc (v := x_76432) (lv' := [(4, .int x_76432), (3, .int r_76428), (2, .int y20_4), (5, .int r_76428), (0, .ref (ad 0 0)), (1, .int i1)]) hx hb dX11_whom_83 hl (k := 5) rfl (by rw [ex_76432]; rfl) (by decide) rfl (fun ls hl => ?_)
            refine lv_goto (tgt := 20) hx hb dX11_whom_86 (by decide) ?_
            exact ih20 _ (by rw [← hm20]; exact ms_up (m := 1) ex_76432 (show bn 1 1 (1 : Int32) from bn_k (by decide)) B_76424 (bn_w (bn_eq ex_76432 (bn_add B_76424 (show bn 1 1 (1 : Int32) from bn_k (by decide)) (by decide))) (by decide) : bn 0 6 x_76432) (by decide)) y20_4 r_76428 x_76432 _ _  _ _ _ I (bn_w B_76424 (by decide)) (bn_w (bn_eq ex_76432 (bn_add B_76424 (show bn 1 1 (1 : Int32) from bn_k (by decide)) (by decide))) (by decide)) rfl Y (lv_sub hl [4, 5, 2, 1, 0] rfl)
          · have B_76431 : bn 0 5 y20_2 := bn_w (bn_nel c_76429 b_y20_2 (show bn (-1) (-1) ((-1) : Int32) from bn_k (by decide))) (by decide)
            refine lv_iload hx hb dX11_whom_71 (lv_at hl 0 rfl) ?_
            refine lv_iload_n hx hb dX11_whom_73 rfl (lv_at hl 4 rfl) ?_
            refine lv_icmp_ge (tgt := 83) hx hb dX11_whom_74 (by decide) (fun c_76433 => ?_) (fun c_76433 => ?_)
            · obtain ⟨x_76436, ex_76436⟩ : ∃ z : Int32, z = y20_4 + 1 := ⟨_, rfl⟩
              refine lv_iinc (v := x_76436) (lv' := [(4, .int x_76436), (5, .int r_76428), (0, .ref (ad 0 0)), (1, .int i1), (2, .int y20_2), (3, .int y20_3)]) hx hb dX11_whom_83 hl (k := 5) rfl (by rw [ex_76436]; rfl) (by decide) rfl (fun ls hl => ?_)
              refine lv_goto (tgt := 20) hx hb dX11_whom_86 (by decide) ?_
              exact ih20 _ (by rw [← hm20]; exact ms_up (m := 1) ex_76436 (show bn 1 1 (1 : Int32) from bn_k (by decide)) B_76424 (bn_w (bn_eq ex_76436 (bn_add B_76424 (show bn 1 1 (1 : Int32) from bn_k (by decide)) (by decide))) (by decide) : bn 0 6 x_76436) (by decide)) y20_2 y20_3 x_76436 _ _  _ _ _ I (bn_w B_76431 (by decide)) (bn_w (bn_eq ex_76436 (bn_add B_76424 (show bn 1 1 (1 : Int32) from bn_k (by decide)) (by decide))) (by decide)) rfl Y (lv_sub hl [2, 3, 4, 5, 0] rfl)
            · have B_76434 : bn (-2147483647) 2147483647 y20_3 := bn_w (bn_gtl c_76433 (bn_any y20_3) (bn_any r_76428)) (by decide)
              have B_76435 : bn (-2147483648) 2147483646 r_76428 := bn_w (bn_gtr c_76433 (bn_any y20_3) (bn_any r_76428)) (by decide)
              refine lv_iload hx hb dX11_whom_77 (lv_at hl 5 rfl) ?_
              refine lv_istore_n (lv' := [(2, .int y20_4), (5, .int r_76428), (0, .ref (ad 0 0)), (1, .int i1), (3, .int y20_3), (4, .int y20_4)]) hx hb dX11_whom_79 rfl hl (by decide) rfl (fun ls hl => ?_)
              refine lv_iload hx hb dX11_whom_80 (lv_at hl 1 rfl) ?_
              refine lv_istore_n (lv' := [(3, .int r_76428), (2, .int y20_4), (5, .int r_76428), (0, .ref (ad 0 0)), (1, .int i1), (4, .int y20_4)]) hx hb dX11_whom_82 rfl hl (by decide) rfl (fun ls hl => ?_)
              obtain ⟨x_76437, ex_76437⟩ : ∃ z : Int32, z = y20_4 + 1 := ⟨_, rfl⟩
              refine lv_iinc (v := x_76437) (lv' := [(4, .int x_76437), (3, .int r_76428), (2, .int y20_4), (5, .int r_76428), (0, .ref (ad 0 0)), (1, .int i1)]) hx hb dX11_whom_83 hl (k := 5) rfl (by rw [ex_76437]; rfl) (by decide) rfl (fun ls hl => ?_)
              refine lv_goto (tgt := 20) hx hb dX11_whom_86 (by decide) ?_
              exact ih20 _ (by rw [← hm20]; exact ms_up (m := 1) ex_76437 (show bn 1 1 (1 : Int32) from bn_k (by decide)) B_76424 (bn_w (bn_eq ex_76437 (bn_add B_76424 (show bn 1 1 (1 : Int32) from bn_k (by decide)) (by decide))) (by decide) : bn 0 6 x_76437) (by decide)) y20_4 r_76428 x_76437 _ _  _ _ _ I (bn_w B_76424 (by decide)) (bn_w (bn_eq ex_76437 (bn_add B_76424 (show bn 1 1 (1 : Int32) from bn_k (by decide)) (by decide))) (by decide)) rfl Y (lv_sub hl [4, 5, 2, 1, 0] rfl)
        · refine lv_iconst (v := 0) hx hb dX11_whom_38 (by decide) ?_
          refine lv_goto (tgt := 58) hx hb dX11_whom_39 (by decide) ?_
          refine lv_istore (lv' := [(5, .int 0), (0, .ref (ad 0 0)), (1, .int i1), (2, .int y20_2), (3, .int y20_3), (4, .int y20_4)]) hx hb dX11_whom_58 hl (by decide) rfl (fun ls hl => ?_)
          refine lv_iload hx hb dX11_whom_60 (lv_at hl 5 rfl) ?_
          refine lv_iload_n hx hb dX11_whom_62 rfl (lv_at hl 2 rfl) ?_
          refine lv_icmp_eq (tgt := 83) hx hb dX11_whom_63 (by decide) (fun _ => ?_) (fun h => absurd c_76425 h)
          obtain ⟨x_76438, ex_76438⟩ : ∃ z : Int32, z = y20_4 + 1 := ⟨_, rfl⟩
          refine lv_iinc (v := x_76438) (lv' := [(4, .int x_76438), (5, .int 0), (0, .ref (ad 0 0)), (1, .int i1), (2, .int y20_2), (3, .int y20_3)]) hx hb dX11_whom_83 hl (k := 5) rfl (by rw [ex_76438]; rfl) (by decide) rfl (fun ls hl => ?_)
          refine lv_goto (tgt := 20) hx hb dX11_whom_86 (by decide) ?_
          exact ih20 _ (by rw [← hm20]; exact ms_up (m := 1) ex_76438 (show bn 1 1 (1 : Int32) from bn_k (by decide)) B_76424 (bn_w (bn_eq ex_76438 (bn_add B_76424 (show bn 1 1 (1 : Int32) from bn_k (by decide)) (by decide))) (by decide) : bn 0 6 x_76438) (by decide)) y20_2 y20_3 x_76438 _ _  _ _ _ I (bn_w b_y20_2 (by decide)) (bn_w (bn_eq ex_76438 (bn_add B_76424 (show bn 1 1 (1 : Int32) from bn_k (by decide)) (by decide))) (by decide)) rfl Y (lv_sub hl [2, 3, 4, 5, 0] rfl)
  refine lv_aload_n hx hb dX11_whom_0 rfl (lv_at hl 0 rfl) ?_
  have p_ad_0_0 := opnC_0 (j := 0) I (by decide)
  have p_ad_0_0 : pt L f (ad 0 0) (.inr (11, [.ref (ad 1 0), .ref (ad 1 1), .ref (ad 2 0), .ref (ad 3 0), .ref (ad 4 0), .ref (ad 5 0), .ref (ad 6 0), .ref (ad 7 0), .ref (ad 8 0)])) := p_ad_0_0
  refine pg_get S Y ok_X11 0 (by decide) kf11_13 (v := .ref (ad 1 0)) p_ad_0_0 rfl dX11_whom_1 ?_
  refine lv_iload_n hx hb dX11_whom_4 rfl (lv_at hl 1 rfl) ?_
  refine cVp (As := [.int i1]) (rest := []) S Y (x_X10_has (l := l) I hW hT hQ) cw_X10_has km11_192 (I.opo (k := 1) (j := 0) (by decide) rfl).choose_spec.1 ok_X10.1 rfl rfl ⟨Nat.le_of_ble_eq_true rfl, Nat.le_of_ble_eq_true rfl⟩ hl.1 rfl (Nat.le_of_ble_eq_true rfl) ⟨Nat.le_of_ble_eq_true rfl, Nat.le_of_ble_eq_true rfl⟩ dX11_whom_5 (fun r_76439 H locs er_76439 Y => ?_)
  refine lv_if_ne (tgt := 13) hx hb dX11_whom_8 (by decide) (fun c_76440 => ?_) (fun c_76440 => ?_)
  · have B_76441 : bn 1 1 r_76439 := bn_w (bn_nel c_76440 er_76439 (show bn 0 0 (0 : Int32) from bn_k (by decide))) (by decide)
    refine lv_iconst (v := (-1)) hx hb dX11_whom_13 (by decide) ?_
    refine lv_istore_n (lv' := [(2, .int (-1)), (0, .ref (ad 0 0)), (1, .int i1)]) hx hb dX11_whom_14 rfl hl (by decide) rfl (fun ls hl => ?_)
    refine lv_iconst (v := 0) hx hb dX11_whom_15 (by decide) ?_
    refine lv_istore_n (lv' := [(3, .int 0), (2, .int (-1)), (0, .ref (ad 0 0)), (1, .int i1)]) hx hb dX11_whom_16 rfl hl (by decide) rfl (fun ls hl => ?_)
    refine lv_iconst (v := 0) hx hb dX11_whom_17 (by decide) ?_
    refine lv_istore (lv' := [(4, .int 0), (3, .int 0), (2, .int (-1)), (0, .ref (ad 0 0)), (1, .int i1)]) hx hb dX11_whom_18 hl (by decide) rfl (fun ls hl => ?_)
    exact J_20 _ (-1) 0 0 _ _  _ _ _ I (bn_w (show bn (-1) (-1) ((-1) : Int32) from bn_k (by decide)) (by decide)) (bn_w (show bn 0 0 (0 : Int32) from bn_k (by decide)) (by decide)) rfl Y (lv_sub hl [3, 4, 2, 1, 0] rfl)
  · have B_76442 : bn 0 0 r_76439 := bn_w (bn_eq c_76440 (show bn 0 0 (0 : Int32) from bn_k (by decide))) (by decide)
    refine lv_iconst (v := (-1)) hx hb dX11_whom_11 (by decide) ?_
    exact prI (post := fun r L1 f1 => SH (spC (NR 30 0 4) ((0, 6) : Int × Int) tc w q) nnC G ad L1 f1) S Y rfl (by decide) (by decide) hA1 I dX11_whom_12
set_option maxHeartbeats 4000000 in
set_option maxRecDepth 100000 in
theorem x_X11_ring {l : Launch} {G : GG}  {L : List Nat} {f : HF} {ad : Nat → Nat → Nat} {tc w : Nat → Int × Int} {q : Nat → (Nat → Int32) → Prop} (I : SH (spC (NR 30 0 4) ((0, 6) : Int × Int) tc w q) nnC G ad L f) (hW : WBp w 8) (hT : WBp tc 4) (hQ : QIp q) (hZ : ZZp w q) (hE : ∀ j, (tc j).1 = (tc j).2) : PMi l yX11_ring cX11_ring 1 .int 16 0 0 G [.ref (ad 0 0)] L f (fun r L1 f1 => SH (spC (NR 30 0 4) ((0, 6) : Int × Int) tc w q) nnC G ad L1 f1) := by
  refine PMi.of (post := fun r L1 f1 => SH (spC (NR 30 0 4) ((0, 6) : Int × Int) tc w q) nnC G ad L1 f1) (own := RX11) (by decide) rfl (Nat.le_of_ble_eq_true rfl) (fun sz p e s m args below meth c A ls hA1 hname S Y hl => ?_)
  have hx := S.hx
  have hb := S.hb
  have hl : lv_has ls 1 [(0, .ref (ad 0 0))] := hl
  refine lv_aload_n hx hb dX11_ring_0 rfl (lv_at hl 0 rfl) ?_
  have p_ad_0_0 := opnC_0 (j := 0) I (by decide)
  have p_ad_0_0 : pt L f (ad 0 0) (.inr (11, [.ref (ad 1 0), .ref (ad 1 1), .ref (ad 2 0), .ref (ad 3 0), .ref (ad 4 0), .ref (ad 5 0), .ref (ad 6 0), .ref (ad 7 0), .ref (ad 8 0)])) := p_ad_0_0
  refine pg_get S Y ok_X11 4 (by decide) kf11_41 (v := .ref (ad 4 0)) p_ad_0_0 rfl dX11_ring_1 ?_
  refine cVi (As := []) (rest := []) S Y (x_X6_shortest (l := l) I hW hT hQ) cw_X6_shortest km11_307 (I.opo (k := 4) (j := 0) (by decide) rfl).choose_spec.1 ok_X6.1 rfl rfl ⟨Nat.le_of_ble_eq_true rfl, Nat.le_of_ble_eq_true rfl⟩ hl.1 rfl (Nat.le_of_ble_eq_true rfl) ⟨Nat.le_of_ble_eq_true rfl, Nat.le_of_ble_eq_true rfl⟩ dX11_ring_4 (fun r_76451 L_76449 f_76450 H locs I Y => ?_)
  exact prI (post := fun r L1 f1 => SH (spC (NR 30 0 4) ((0, 6) : Int × Int) tc w q) nnC G ad L1 f1) S Y rfl (by decide) (by decide) hA1 I dX11_ring_7
set_option maxHeartbeats 4000000 in
set_option maxRecDepth 100000 in
theorem x_X11_allSeen {l : Launch} {G : GG}  {L : List Nat} {f : HF} {ad : Nat → Nat → Nat} {tc w : Nat → Int × Int} {q : Nat → (Nat → Int32) → Prop} (I : SH (spC (NR 30 0 4) ((0, 6) : Int × Int) tc w q) nnC G ad L f) (hW : WBp w 8) (hT : WBp tc 4) (hQ : QIp q) (hZ : ZZp w q) (hE : ∀ j, (tc j).1 = (tc j).2) : PMi l yX11_allSeen cX11_allSeen 1 .int 5 0 0 G [.ref (ad 0 0)] L f (fun r L1 f1 => SH (spC (NR 30 0 4) ((0, 6) : Int × Int) tc w q) nnC G ad L1 f1) := by
  refine PMi.of (post := fun r L1 f1 => SH (spC (NR 30 0 4) ((0, 6) : Int × Int) tc w q) nnC G ad L1 f1) (own := RX11) (by decide) rfl (Nat.le_of_ble_eq_true rfl) (fun sz p e s m args below meth c A ls hA1 hname S Y hl => ?_)
  have hx := S.hx
  have hb := S.hb
  have hl : lv_has ls 1 [(0, .ref (ad 0 0))] := hl
  refine lv_aload_n hx hb dX11_allSeen_0 rfl (lv_at hl 0 rfl) ?_
  have p_ad_0_0 := opnC_0 (j := 0) I (by decide)
  have p_ad_0_0 : pt L f (ad 0 0) (.inr (11, [.ref (ad 1 0), .ref (ad 1 1), .ref (ad 2 0), .ref (ad 3 0), .ref (ad 4 0), .ref (ad 5 0), .ref (ad 6 0), .ref (ad 7 0), .ref (ad 8 0)])) := p_ad_0_0
  refine pg_get S Y ok_X11 8 (by decide) kf11_75 (v := .ref (ad 8 0)) p_ad_0_0 rfl dX11_allSeen_1 ?_
  refine cVp (As := []) (rest := []) S Y (x_X0_fewestAsked (l := l) I hW hT hQ) cw_X0_fewestAsked km11_310 (I.opo (k := 8) (j := 0) (by decide) rfl).choose_spec.1 ok_X0.1 rfl rfl ⟨Nat.le_of_ble_eq_true rfl, Nat.le_of_ble_eq_true rfl⟩ hl.1 rfl (Nat.le_of_ble_eq_true rfl) ⟨Nat.le_of_ble_eq_true rfl, Nat.le_of_ble_eq_true rfl⟩ dX11_allSeen_4 (fun r_76454 H locs er_76454 Y => ?_)
  exact prI (post := fun r L1 f1 => SH (spC (NR 30 0 4) ((0, 6) : Int × Int) tc w q) nnC G ad L1 f1) S Y rfl (by decide) (by decide) hA1 I dX11_allSeen_7
set_option maxHeartbeats 4000000 in
set_option maxRecDepth 100000 in
theorem x_X11_saw {l : Launch} {G : GG}  {L : List Nat} {f : HF} {ad : Nat → Nat → Nat} {tc w : Nat → Int × Int} {q : Nat → (Nat → Int32) → Prop} {i1 i2 : Int32} (I : SH (spC (NR 30 0 4) ((0, 6) : Int × Int) tc w q) nnC G ad L f) (hW : WBp w 8) (hT : WBp tc 4) (hQ : QIp q) (hZ : ZZp w q) (hE : ∀ j, (tc j).1 = (tc j).2) : PMi l yX11_saw cX11_saw 3 .int 1 0 0 G [.ref (ad 0 0), .int i1, .int i2] L f (fun r L1 f1 => SH (spC (NR 30 0 4) ((0, 6) : Int × Int) tc w q) nnC G ad L1 f1) := by
  refine PMi.of (post := fun r L1 f1 => SH (spC (NR 30 0 4) ((0, 6) : Int × Int) tc w q) nnC G ad L1 f1) (own := RX11) (by decide) rfl (Nat.le_of_ble_eq_true rfl) (fun sz p e s m args below meth c A ls hA1 hname S Y hl => ?_)
  have hx := S.hx
  have hb := S.hb
  have hl : lv_has ls 3 [(0, .ref (ad 0 0)), (1, .int i1), (2, .int i2)] := hl
  refine lv_iload_n hx hb dX11_saw_0 rfl (lv_at hl 1 rfl) ?_
  refine lv_iconst (v := (-1)) hx hb dX11_saw_1 (by decide) ?_
  refine lv_icmp_ne (tgt := 16) hx hb dX11_saw_2 (by decide) (fun c_76529 => ?_) (fun c_76529 => ?_)
  · refine lv_aload_n hx hb dX11_saw_16 rfl (lv_at hl 0 rfl) ?_
    have p_ad_0_0 := opnC_0 (j := 0) I (by decide)
    have p_ad_0_0 : pt L f (ad 0 0) (.inr (11, [.ref (ad 1 0), .ref (ad 1 1), .ref (ad 2 0), .ref (ad 3 0), .ref (ad 4 0), .ref (ad 5 0), .ref (ad 6 0), .ref (ad 7 0), .ref (ad 8 0)])) := p_ad_0_0
    refine pg_get S Y ok_X11 0 (by decide) kf11_13 (v := .ref (ad 1 0)) p_ad_0_0 rfl dX11_saw_17 ?_
    refine lv_iload_n hx hb dX11_saw_20 rfl (lv_at hl 1 rfl) ?_
    refine cVp (As := [.int i1]) (rest := []) S Y (x_X10_has (l := l) I hW hT hQ) cw_X10_has km11_192 (I.opo (k := 1) (j := 0) (by decide) rfl).choose_spec.1 ok_X10.1 rfl rfl ⟨Nat.le_of_ble_eq_true rfl, Nat.le_of_ble_eq_true rfl⟩ hl.1 rfl (Nat.le_of_ble_eq_true rfl) ⟨Nat.le_of_ble_eq_true rfl, Nat.le_of_ble_eq_true rfl⟩ dX11_saw_21 (fun r_76531 H locs er_76531 Y => ?_)
    refine lv_if_eq (tgt := 43) hx hb dX11_saw_24 (by decide) (fun c_76532 => ?_) (fun c_76532 => ?_)
    · have B_76533 : bn 0 0 r_76531 := bn_w (bn_eq c_76532 (show bn 0 0 (0 : Int32) from bn_k (by decide))) (by decide)
      refine lv_bipush (v := (-2)) hx hb dX11_saw_43 (by decide) ?_
      exact prI (post := fun r L1 f1 => SH (spC (NR 30 0 4) ((0, 6) : Int × Int) tc w q) nnC G ad L1 f1) S Y rfl (by decide) (by decide) hA1 I dX11_saw_45
    · have B_76534 : bn 1 1 r_76531 := bn_w (bn_nel c_76532 er_76531 (show bn 0 0 (0 : Int32) from bn_k (by decide))) (by decide)
      refine lv_aload_n hx hb dX11_saw_27 rfl (lv_at hl 0 rfl) ?_
      refine pg_get S Y ok_X11 0 (by decide) kf11_13 (v := .ref (ad 1 0)) p_ad_0_0 rfl dX11_saw_28 ?_
      refine lv_iload_n hx hb dX11_saw_31 rfl (lv_at hl 2 rfl) ?_
      refine cVp (As := [.int i2]) (rest := []) S Y (x_X10_has (l := l) I hW hT hQ) cw_X10_has km11_192 (I.opo (k := 1) (j := 0) (by decide) rfl).choose_spec.1 ok_X10.1 rfl rfl ⟨Nat.le_of_ble_eq_true rfl, Nat.le_of_ble_eq_true rfl⟩ hl.1 rfl (Nat.le_of_ble_eq_true rfl) ⟨Nat.le_of_ble_eq_true rfl, Nat.le_of_ble_eq_true rfl⟩ dX11_saw_32 (fun r_76535 H locs er_76535 Y => ?_)
      refine lv_if_eq (tgt := 43) hx hb dX11_saw_35 (by decide) (fun c_76536 => ?_) (fun c_76536 => ?_)
      · have B_76537 : bn 0 0 r_76535 := bn_w (bn_eq c_76536 (show bn 0 0 (0 : Int32) from bn_k (by decide))) (by decide)
        refine lv_bipush (v := (-2)) hx hb dX11_saw_43 (by decide) ?_
        exact prI (post := fun r L1 f1 => SH (spC (NR 30 0 4) ((0, 6) : Int × Int) tc w q) nnC G ad L1 f1) S Y rfl (by decide) (by decide) hA1 I dX11_saw_45
      · have B_76538 : bn 1 1 r_76535 := bn_w (bn_nel c_76536 er_76535 (show bn 0 0 (0 : Int32) from bn_k (by decide))) (by decide)
        refine lv_iload_n hx hb dX11_saw_38 rfl (lv_at hl 1 rfl) ?_
        refine lv_iload_n hx hb dX11_saw_39 rfl (lv_at hl 2 rfl) ?_
        refine lv_icmp_ne (tgt := 46) hx hb dX11_saw_40 (by decide) (fun c_76539 => ?_) (fun c_76539 => ?_)
        · refine lv_aload_n hx hb dX11_saw_46 rfl (lv_at hl 0 rfl) ?_
          refine pg_get S Y ok_X11 0 (by decide) kf11_13 (v := .ref (ad 1 0)) p_ad_0_0 rfl dX11_saw_47 ?_
          obtain ⟨v_76540, v_76542, v_76544, v_76546, v_76548, p_ad_1_0, b_76541, b_76543, b_76545, b_76547, b_76549⟩ := opnC_1 (j := 0) I (by decide)
          have p_ad_1_0 : pt L f (ad 1 0) (.inr (10, [.ref (ad 40 0), .ref (ad 41 0), .ref (ad 42 0), .ref (ad 10 0), .ref (ad 43 0), .ref (ad 20 0), .ref (ad 20 1), .ref (ad 20 2), .ref (ad 20 3), .ref (ad 20 4), .int v_76540, .int v_76542, .int v_76544, .int v_76546, .int v_76548])) := p_ad_1_0
          refine pg_getN S Y ok_X10 8 (by decide) kf11_313 (v := .ref (ad 20 3)) p_ad_1_0 rfl dX11_saw_50 ?_
          refine lv_iload_n hx hb dX11_saw_53 rfl (lv_at hl 1 rfl) ?_
          refine lv_iload_n hx hb dX11_saw_54 rfl (lv_at hl 2 rfl) ?_
          refine lv_iconst (v := 0) hx hb dX11_saw_55 (by decide) ?_
          refine cVi (As := [.int i1, .int i2, .int 0]) (rest := []) S Y (x_X9_tell (l := l) (j := 3) I hW hT hQ (by decide) (hZ _ (by decide) (by decide) (by decide)).1 (hZ _ (by decide) (by decide) (by decide)).2) cw_X9_tell km11_258 (I.opo (k := 20) (j := 3) (by decide) rfl).choose_spec.1 ok_X9.1 rfl rfl ⟨Nat.le_of_ble_eq_true rfl, Nat.le_of_ble_eq_true rfl⟩ hl.1 rfl (Nat.le_of_ble_eq_true rfl) ⟨Nat.le_of_ble_eq_true rfl, Nat.le_of_ble_eq_true rfl⟩ dX11_saw_56 (fun r_76552 L_76550 f_76551 H locs I Y => ?_)
          exact prI (post := fun r L1 f1 => SH (spC (NR 30 0 4) ((0, 6) : Int × Int) tc w q) nnC G ad L1 f1) S Y rfl (by decide) (by decide) hA1 I dX11_saw_59
        · refine lv_bipush (v := (-2)) hx hb dX11_saw_43 (by decide) ?_
          exact prI (post := fun r L1 f1 => SH (spC (NR 30 0 4) ((0, 6) : Int × Int) tc w q) nnC G ad L1 f1) S Y rfl (by decide) (by decide) hA1 I dX11_saw_45
  · have B_76530 : bn (-1) (-1) i1 := bn_w (bn_eq c_76529 (show bn (-1) (-1) ((-1) : Int32) from bn_k (by decide))) (by decide)
    refine lv_aload_n hx hb dX11_saw_5 rfl (lv_at hl 0 rfl) ?_
    have p_ad_0_0 := opnC_0 (j := 0) I (by decide)
    have p_ad_0_0 : pt L f (ad 0 0) (.inr (11, [.ref (ad 1 0), .ref (ad 1 1), .ref (ad 2 0), .ref (ad 3 0), .ref (ad 4 0), .ref (ad 5 0), .ref (ad 6 0), .ref (ad 7 0), .ref (ad 8 0)])) := p_ad_0_0
    refine pg_get S Y ok_X11 0 (by decide) kf11_13 (v := .ref (ad 1 0)) p_ad_0_0 rfl dX11_saw_6 ?_
    obtain ⟨v_76553, v_76555, v_76557, v_76559, v_76561, p_ad_1_0, b_76554, b_76556, b_76558, b_76560, b_76562⟩ := opnC_1 (j := 0) I (by decide)
    have p_ad_1_0 : pt L f (ad 1 0) (.inr (10, [.ref (ad 40 0), .ref (ad 41 0), .ref (ad 42 0), .ref (ad 10 0), .ref (ad 43 0), .ref (ad 20 0), .ref (ad 20 1), .ref (ad 20 2), .ref (ad 20 3), .ref (ad 20 4), .int v_76553, .int v_76555, .int v_76557, .int v_76559, .int v_76561])) := p_ad_1_0
    refine pg_getN S Y ok_X10 8 (by decide) kf11_313 (v := .ref (ad 20 3)) p_ad_1_0 rfl dX11_saw_9 ?_
    refine cVi (As := []) (rest := []) S Y (x_X9_forget (l := l) (j := 3) I hW hT hQ (by decide) (hZ _ (by decide) (by decide) (by decide)).1 (hZ _ (by decide) (by decide) (by decide)).2) cw_X9_forget km11_253 (I.opo (k := 20) (j := 3) (by decide) rfl).choose_spec.1 ok_X9.1 rfl rfl ⟨Nat.le_of_ble_eq_true rfl, Nat.le_of_ble_eq_true rfl⟩ hl.1 rfl (Nat.le_of_ble_eq_true rfl) ⟨Nat.le_of_ble_eq_true rfl, Nat.le_of_ble_eq_true rfl⟩ dX11_saw_12 (fun r_76565 L_76563 f_76564 H locs hr_76565 Y => ?_)
    obtain ⟨er_76565, I⟩ := hr_76565
    exact prI (post := fun r L1 f1 => SH (spC (NR 30 0 4) ((0, 6) : Int × Int) tc w q) nnC G ad L1 f1) S Y rfl (by decide) (by decide) hA1 I dX11_saw_15
set_option maxHeartbeats 4000000 in
set_option maxRecDepth 100000 in
theorem x_X11_known {l : Launch} {G : GG}  {L : List Nat} {f : HF} {ad : Nat → Nat → Nat} {tc w : Nat → Int × Int} {q : Nat → (Nat → Int32) → Prop} {i1 : Int32} (I : SH (spC (NR 30 0 4) ((0, 6) : Int × Int) tc w q) nnC G ad L f) (hW : WBp w 8) (hT : WBp tc 4) (hQ : QIp q) (hZ : ZZp w q) (hE : ∀ j, (tc j).1 = (tc j).2) : PMi l yX11_known cX11_known 2 .int 4 0 0 G [.ref (ad 0 0), .int i1] L f (fun r L1 f1 => SH (spC (NR 30 0 4) ((0, 6) : Int × Int) tc w q) nnC G ad L1 f1) := by
  refine PMi.of (post := fun r L1 f1 => SH (spC (NR 30 0 4) ((0, 6) : Int × Int) tc w q) nnC G ad L1 f1) (own := RX11) (by decide) rfl (Nat.le_of_ble_eq_true rfl) (fun sz p e s m args below meth c A ls hA1 hname S Y hl => ?_)
  have hx := S.hx
  have hb := S.hb
  have hl : lv_has ls 2 [(0, .ref (ad 0 0)), (1, .int i1)] := hl
  refine lv_aload_n hx hb dX11_known_0 rfl (lv_at hl 0 rfl) ?_
  have p_ad_0_0 := opnC_0 (j := 0) I (by decide)
  have p_ad_0_0 : pt L f (ad 0 0) (.inr (11, [.ref (ad 1 0), .ref (ad 1 1), .ref (ad 2 0), .ref (ad 3 0), .ref (ad 4 0), .ref (ad 5 0), .ref (ad 6 0), .ref (ad 7 0), .ref (ad 8 0)])) := p_ad_0_0
  refine pg_get S Y ok_X11 0 (by decide) kf11_13 (v := .ref (ad 1 0)) p_ad_0_0 rfl dX11_known_1 ?_
  refine lv_iload_n hx hb dX11_known_4 rfl (lv_at hl 1 rfl) ?_
  refine cVp (As := [.int i1]) (rest := []) S Y (x_X10_has (l := l) I hW hT hQ) cw_X10_has km11_192 (I.opo (k := 1) (j := 0) (by decide) rfl).choose_spec.1 ok_X10.1 rfl rfl ⟨Nat.le_of_ble_eq_true rfl, Nat.le_of_ble_eq_true rfl⟩ hl.1 rfl (Nat.le_of_ble_eq_true rfl) ⟨Nat.le_of_ble_eq_true rfl, Nat.le_of_ble_eq_true rfl⟩ dX11_known_5 (fun r_76576 H locs er_76576 Y => ?_)
  refine lv_if_eq (tgt := 22) hx hb dX11_known_8 (by decide) (fun c_76577 => ?_) (fun c_76577 => ?_)
  · have B_76578 : bn 0 0 r_76576 := bn_w (bn_eq c_76577 (show bn 0 0 (0 : Int32) from bn_k (by decide))) (by decide)
    refine lv_iconst (v := (-1)) hx hb dX11_known_22 (by decide) ?_
    exact prI (post := fun r L1 f1 => SH (spC (NR 30 0 4) ((0, 6) : Int × Int) tc w q) nnC G ad L1 f1) S Y rfl (by decide) (by decide) hA1 I dX11_known_23
  · have B_76579 : bn 1 1 r_76576 := bn_w (bn_nel c_76577 er_76576 (show bn 0 0 (0 : Int32) from bn_k (by decide))) (by decide)
    refine lv_aload_n hx hb dX11_known_11 rfl (lv_at hl 0 rfl) ?_
    refine pg_get S Y ok_X11 8 (by decide) kf11_75 (v := .ref (ad 8 0)) p_ad_0_0 rfl dX11_known_12 ?_
    refine lv_iload_n hx hb dX11_known_15 rfl (lv_at hl 1 rfl) ?_
    refine cVp (As := [.int i1]) (rest := []) S Y (x_X0_wordsOf (l := l) I hW hT hQ) cw_X0_wordsOf km11_316 (I.opo (k := 8) (j := 0) (by decide) rfl).choose_spec.1 ok_X0.1 rfl rfl ⟨Nat.le_of_ble_eq_true rfl, Nat.le_of_ble_eq_true rfl⟩ hl.1 rfl (Nat.le_of_ble_eq_true rfl) ⟨Nat.le_of_ble_eq_true rfl, Nat.le_of_ble_eq_true rfl⟩ dX11_known_16 (fun r_76580 H locs er_76580 Y => ?_)
    refine lv_goto (tgt := 23) hx hb dX11_known_19 (by decide) ?_
    exact prI (post := fun r L1 f1 => SH (spC (NR 30 0 4) ((0, 6) : Int × Int) tc w q) nnC G ad L1 f1) S Y rfl (by decide) (by decide) hA1 I dX11_known_23
set_option maxHeartbeats 4000000 in
set_option maxRecDepth 100000 in
theorem x_X11_together {l : Launch} {G : GG}  {L : List Nat} {f : HF} {ad : Nat → Nat → Nat} {tc w : Nat → Int × Int} {q : Nat → (Nat → Int32) → Prop} (I : SH (spC (NR 30 0 4) ((0, 6) : Int × Int) tc w q) nnC G ad L f) (hW : WBp w 8) (hT : WBp tc 4) (hQ : QIp q) (hZ : ZZp w q) (hE : ∀ j, (tc j).1 = (tc j).2) : PMi l yX11_together cX11_together 1 .int 5 0 0 G [.ref (ad 0 0)] L f (fun r L1 f1 => SH (spC (NR 30 0 4) ((0, 6) : Int × Int) tc w q) nnC G ad L1 f1) := by
  refine PMi.of (post := fun r L1 f1 => SH (spC (NR 30 0 4) ((0, 6) : Int × Int) tc w q) nnC G ad L1 f1) (own := RX11) (by decide) rfl (Nat.le_of_ble_eq_true rfl) (fun sz p e s m args below meth c A ls hA1 hname S Y hl => ?_)
  have hx := S.hx
  have hb := S.hb
  have hl : lv_has ls 1 [(0, .ref (ad 0 0))] := hl
  refine lv_aload_n hx hb dX11_together_0 rfl (lv_at hl 0 rfl) ?_
  have p_ad_0_0 := opnC_0 (j := 0) I (by decide)
  have p_ad_0_0 : pt L f (ad 0 0) (.inr (11, [.ref (ad 1 0), .ref (ad 1 1), .ref (ad 2 0), .ref (ad 3 0), .ref (ad 4 0), .ref (ad 5 0), .ref (ad 6 0), .ref (ad 7 0), .ref (ad 8 0)])) := p_ad_0_0
  refine pg_get S Y ok_X11 8 (by decide) kf11_75 (v := .ref (ad 8 0)) p_ad_0_0 rfl dX11_together_1 ?_
  refine cVi (As := []) (rest := []) S Y (x_X0_fewestKnowing (l := l) I hW hT hQ) cw_X0_fewestKnowing km11_319 (I.opo (k := 8) (j := 0) (by decide) rfl).choose_spec.1 ok_X0.1 rfl rfl ⟨Nat.le_of_ble_eq_true rfl, Nat.le_of_ble_eq_true rfl⟩ hl.1 rfl (Nat.le_of_ble_eq_true rfl) ⟨Nat.le_of_ble_eq_true rfl, Nat.le_of_ble_eq_true rfl⟩ dX11_together_4 (fun r_76589 L_76587 f_76588 H locs I Y => ?_)
  exact prI (post := fun r L1 f1 => SH (spC (NR 30 0 4) ((0, 6) : Int × Int) tc w q) nnC G ad L1 f1) S Y rfl (by decide) (by decide) hA1 I dX11_together_7
set_option maxHeartbeats 4000000 in
set_option maxRecDepth 100000 in
theorem x_X11_copy {l : Launch} {G : GG}  {L : List Nat} {f : HF} {ad : Nat → Nat → Nat} {tc w : Nat → Int × Int} {q : Nat → (Nat → Int32) → Prop} {i1 i2 i3 i4 : Int32} (I : SH (spC (NR 30 0 4) ((0, 6) : Int × Int) tc w q) nnC G ad L f) (hW : WBp w 8) (hT : WBp tc 4) (hQ : QIp q) (b_i4 : bn 0 1 i4) (hZ : ZZp w q) (hE : ∀ j, (tc j).1 = (tc j).2) : PMi l yX11_copy cX11_copy 10 .int 6 0 0 G [.ref (ad 0 0), .int i1, .int i2, .int i3, .int i4] L f (fun r L1 f1 => SH (spC (NR 30 0 4) ((0, 6) : Int × Int) tc w q) nnC G ad L1 f1) := by
  refine PMi.of (post := fun r L1 f1 => SH (spC (NR 30 0 4) ((0, 6) : Int × Int) tc w q) nnC G ad L1 f1) (own := RX11) (by decide) rfl (Nat.le_of_ble_eq_true rfl) (fun sz p e s m args below meth c A ls hA1 hname S Y hl => ?_)
  have hx := S.hx
  have hb := S.hb
  have hl : lv_has ls 10 [(0, .ref (ad 0 0)), (1, .int i1), (2, .int i2), (3, .int i3), (4, .int i4)] := hl
  have J_58 : ∀ (n58 : Nat) (y58_5 y58_6 y58_7 y58_8 : Int32) (L_58 : List Nat) (f_58 : HF) (H : Heap) (locs : List Loc) (ls : Array Slot), (SH (spC (NR 30 0 4) ((0, 6) : Int × Int) tc w q) nnC G ad L_58 f_58) → (bn 0 60 y58_6) → (bn 0 61 y58_8) → (((61 : Int) - y58_8.toInt).toNat = n58) → (DY G A s [] L_58 f_58 H locs) → (lv_has ls 10 [(0, .ref (ad 0 0)), (1, .int i1), (2, .int i2), (3, .int i3), (4, .int i4), (5, .int y58_5), (6, .int y58_6), (7, .int y58_7), (8, .int y58_8)]) → W p l e (rmD 6 0 0) s m args below meth c H locs (0) (0) (MQ below (va_Qi (fun r (u : List Nat × HF) => (fun r L1 f1 => SH (spC (NR 30 0 4) ((0, 6) : Int × Int) tc w q) nnC G ad L1 f1) r u.1 u.2) (fun u t => pOut G (va_A (va_pl L f) sz) u.1 u.2 t) (va_A (va_pl L f) sz)) args s 0 0 A) (F0 m 58 ls []) := by
    intro n58
    induction n58 using Nat.strongRecOn with
    | _ n58 ih58 =>
      intro y58_5 y58_6 y58_7 y58_8 L_58 f_58 H locs ls I b_y58_6 b_y58_8 hm58 Y hl
      refine lv_iload hx hb dX11_copy_58 (lv_at hl 8 rfl) ?_
      refine lv_bipush (v := 60) hx hb dX11_copy_60 (by decide) ?_
      refine lv_icmp_gt (tgt := 116) hx hb dX11_copy_62 (by decide) (fun c_77667 => ?_) (fun c_77667 => ?_)
      · have B_77668 : bn 61 61 y58_8 := bn_w (bn_ltr c_77667 (show bn 60 60 (60 : Int32) from bn_k (by decide)) b_y58_8) (by decide)
        refine lv_iload hx hb dX11_copy_116 (lv_at hl 4 rfl) ?_
        refine lv_if_eq (tgt := 126) hx hb dX11_copy_118 (by decide) (fun c_77670 => ?_) (fun c_77670 => ?_)
        · have B_77671 : bn 0 0 i4 := bn_w (bn_eq c_77670 (show bn 0 0 (0 : Int32) from bn_k (by decide))) (by decide)
          refine lv_iload hx hb dX11_copy_126 (lv_at hl 6 rfl) ?_
          exact prI (post := fun r L1 f1 => SH (spC (NR 30 0 4) ((0, 6) : Int × Int) tc w q) nnC G ad L1 f1) S Y rfl (by decide) (by decide) hA1 I dX11_copy_128
        · have B_77672 : bn 1 1 i4 := bn_w (bn_nel c_77670 b_i4 (show bn 0 0 (0 : Int32) from bn_k (by decide))) (by decide)
          refine lv_iload hx hb dX11_copy_121 (lv_at hl 7 rfl) ?_
          refine lv_goto (tgt := 128) hx hb dX11_copy_123 (by decide) ?_
          exact prI (post := fun r L1 f1 => SH (spC (NR 30 0 4) ((0, 6) : Int × Int) tc w q) nnC G ad L1 f1) S Y rfl (by decide) (by decide) hA1 I dX11_copy_128
      · have B_77669 : bn 0 60 y58_8 := bn_w (bn_ger c_77667 (show bn 60 60 (60 : Int32) from bn_k (by decide)) b_y58_8) (by decide)
        refine lv_iload hx hb dX11_copy_65 (lv_at hl 5 rfl) ?_
        refine lv_iconst (v := (-1)) hx hb dX11_copy_67 (by decide) ?_
        refine lv_icmp_eq (tgt := 82) hx hb dX11_copy_68 (by decide) (fun c_77673 => ?_) (fun c_77673 => ?_)
        · have B_77674 : bn (-1) (-1) y58_5 := bn_w (bn_eq c_77673 (show bn (-1) (-1) ((-1) : Int32) from bn_k (by decide))) (by decide)
          refine lv_iconst (v := 0) hx hb dX11_copy_82 (by decide) ?_
          refine lv_iload_n hx hb dX11_copy_83 rfl (lv_at hl 2 rfl) ?_
          refine lv_iload hx hb dX11_copy_84 (lv_at hl 8 rfl) ?_
          refine lv_imul hx hb dX11_copy_86 ?_
          refine lv_topi (fun x_77675 ex_77675 => ?_)
          refine lv_isub hx hb dX11_copy_87 ?_
          refine lv_topi (fun x_77676 ex_77676 => ?_)
          refine lv_istore (lv' := [(9, .int x_77676), (0, .ref (ad 0 0)), (1, .int i1), (2, .int i2), (3, .int i3), (4, .int i4), (5, .int y58_5), (6, .int y58_6), (7, .int y58_7), (8, .int y58_8)]) hx hb dX11_copy_88 hl (by decide) rfl (fun ls hl => ?_)
          refine lv_iload hx hb dX11_copy_90 (lv_at hl 9 rfl) ?_
          refine lv_if_eq (tgt := 102) hx hb dX11_copy_92 (by decide) (fun c_77677 => ?_) (fun c_77677 => ?_)
          · have B_77678 : bn 0 0 y58_8 := bn_w (bn_eq c_77677 (show bn 0 0 (0 : Int32) from bn_k (by decide))) (by decide)
            refine lv_iload hx hb dX11_copy_102 (lv_at hl 9 rfl) ?_
            refine lv_istore (lv' := [(6, .int y58_8), (9, .int x_77676), (0, .ref (ad 0 0)), (1, .int i1), (2, .int i2), (3, .int i3), (4, .int i4), (5, .int y58_5), (7, .int y58_7), (8, .int y58_8)]) hx hb dX11_copy_104 hl (by decide) rfl (fun ls hl => ?_)
            refine lv_iload hx hb dX11_copy_106 (lv_at hl 1 rfl) ?_
            refine lv_istore (lv' := [(7, .int x_77676), (6, .int y58_8), (9, .int x_77676), (0, .ref (ad 0 0)), (1, .int i1), (2, .int i2), (3, .int i3), (4, .int i4), (5, .int y58_5), (8, .int y58_8)]) hx hb dX11_copy_108 hl (by decide) rfl (fun ls hl => ?_)
            obtain ⟨x_77680, ex_77680⟩ : ∃ z : Int32, z = y58_8 + 1 := ⟨_, rfl⟩
            refine lv_iinc (v := x_77680) (lv' := [(8, .int x_77680), (7, .int x_77676), (6, .int y58_8), (9, .int x_77676), (0, .ref (ad 0 0)), (1, .int i1), (2, .int i2), (3, .int i3), (4, .int i4), (5, .int y58_5)]) hx hb dX11_copy_110 hl (k := 9) rfl (by rw [ex_77680]; rfl) (by decide) rfl (fun ls hl => ?_)
            refine lv_goto (tgt := 58) hx hb dX11_copy_113 (by decide) ?_
            exact ih58 _ (by rw [← hm58]; exact ms_up (m := 1) ex_77680 (show bn 1 1 (1 : Int32) from bn_k (by decide)) B_77678 (bn_w (bn_eq ex_77680 (bn_add B_77678 (show bn 1 1 (1 : Int32) from bn_k (by decide)) (by decide))) (by decide) : bn 0 61 x_77680) (by decide)) y58_5 y58_8 x_77676 x_77680 _ _  _ _ _ I (bn_w B_77678 (by decide)) (bn_w (bn_eq ex_77680 (bn_add B_77678 (show bn 1 1 (1 : Int32) from bn_k (by decide)) (by decide))) (by decide)) rfl Y (lv_sub hl [4, 5, 6, 7, 8, 9, 2, 1, 0] rfl)
          · have B_77679 : bn 1 60 y58_8 := bn_w (bn_nel c_77677 B_77669 (show bn 0 0 (0 : Int32) from bn_k (by decide))) (by decide)
            refine lv_iload hx hb dX11_copy_95 (lv_at hl 0 rfl) ?_
            refine lv_iload hx hb dX11_copy_97 (lv_at hl 8 rfl) ?_
            refine lv_icmp_ge (tgt := 110) hx hb dX11_copy_99 (by decide) (fun c_77681 => ?_) (fun c_77681 => ?_)
            · obtain ⟨x_77684, ex_77684⟩ : ∃ z : Int32, z = y58_8 + 1 := ⟨_, rfl⟩
              refine lv_iinc (v := x_77684) (lv' := [(8, .int x_77684), (9, .int x_77676), (0, .ref (ad 0 0)), (1, .int i1), (2, .int i2), (3, .int i3), (4, .int i4), (5, .int y58_5), (6, .int y58_6), (7, .int y58_7)]) hx hb dX11_copy_110 hl (k := 9) rfl (by rw [ex_77684]; rfl) (by decide) rfl (fun ls hl => ?_)
              refine lv_goto (tgt := 58) hx hb dX11_copy_113 (by decide) ?_
              exact ih58 _ (by rw [← hm58]; exact ms_up (m := 1) ex_77684 (show bn 1 1 (1 : Int32) from bn_k (by decide)) B_77679 (bn_w (bn_eq ex_77684 (bn_add B_77679 (show bn 1 1 (1 : Int32) from bn_k (by decide)) (by decide))) (by decide) : bn 0 61 x_77684) (by decide)) y58_5 y58_6 y58_7 x_77684 _ _  _ _ _ I (bn_w b_y58_6 (by decide)) (bn_w (bn_eq ex_77684 (bn_add B_77679 (show bn 1 1 (1 : Int32) from bn_k (by decide)) (by decide))) (by decide)) rfl Y (lv_sub hl [2, 3, 4, 5, 6, 7, 8, 9, 0] rfl)
            · have B_77682 : bn (-2147483647) 2147483647 y58_7 := bn_w (bn_gtl c_77681 (bn_any y58_7) (bn_any x_77676)) (by decide)
              have B_77683 : bn (-2147483648) 2147483646 x_77676 := bn_w (bn_gtr c_77681 (bn_any y58_7) (bn_any x_77676)) (by decide)
              refine lv_iload hx hb dX11_copy_102 (lv_at hl 9 rfl) ?_
              refine lv_istore (lv' := [(6, .int y58_8), (9, .int x_77676), (0, .ref (ad 0 0)), (1, .int i1), (2, .int i2), (3, .int i3), (4, .int i4), (5, .int y58_5), (7, .int y58_7), (8, .int y58_8)]) hx hb dX11_copy_104 hl (by decide) rfl (fun ls hl => ?_)
              refine lv_iload hx hb dX11_copy_106 (lv_at hl 1 rfl) ?_
              refine lv_istore (lv' := [(7, .int x_77676), (6, .int y58_8), (9, .int x_77676), (0, .ref (ad 0 0)), (1, .int i1), (2, .int i2), (3, .int i3), (4, .int i4), (5, .int y58_5), (8, .int y58_8)]) hx hb dX11_copy_108 hl (by decide) rfl (fun ls hl => ?_)
              obtain ⟨x_77685, ex_77685⟩ : ∃ z : Int32, z = y58_8 + 1 := ⟨_, rfl⟩
              refine lv_iinc (v := x_77685) (lv' := [(8, .int x_77685), (7, .int x_77676), (6, .int y58_8), (9, .int x_77676), (0, .ref (ad 0 0)), (1, .int i1), (2, .int i2), (3, .int i3), (4, .int i4), (5, .int y58_5)]) hx hb dX11_copy_110 hl (k := 9) rfl (by rw [ex_77685]; rfl) (by decide) rfl (fun ls hl => ?_)
              refine lv_goto (tgt := 58) hx hb dX11_copy_113 (by decide) ?_
              exact ih58 _ (by rw [← hm58]; exact ms_up (m := 1) ex_77685 (show bn 1 1 (1 : Int32) from bn_k (by decide)) B_77679 (bn_w (bn_eq ex_77685 (bn_add B_77679 (show bn 1 1 (1 : Int32) from bn_k (by decide)) (by decide))) (by decide) : bn 0 61 x_77685) (by decide)) y58_5 y58_8 x_77676 x_77685 _ _  _ _ _ I (bn_w B_77679 (by decide)) (bn_w (bn_eq ex_77685 (bn_add B_77679 (show bn 1 1 (1 : Int32) from bn_k (by decide)) (by decide))) (by decide)) rfl Y (lv_sub hl [4, 5, 6, 7, 8, 9, 2, 1, 0] rfl)
        · refine lv_iload hx hb dX11_copy_71 (lv_at hl 5 rfl) ?_
          refine lv_iload hx hb dX11_copy_73 (lv_at hl 8 rfl) ?_
          refine lv_icmp_gt (tgt := 82) hx hb dX11_copy_75 (by decide) (fun c_77686 => ?_) (fun c_77686 => ?_)
          · have B_77687 : bn 1 2147483647 y58_5 := bn_w (bn_ltr c_77686 B_77669 (bn_any y58_5)) (by decide)
            refine lv_iconst (v := 0) hx hb dX11_copy_82 (by decide) ?_
            refine lv_iload_n hx hb dX11_copy_83 rfl (lv_at hl 2 rfl) ?_
            refine lv_iload hx hb dX11_copy_84 (lv_at hl 8 rfl) ?_
            refine lv_imul hx hb dX11_copy_86 ?_
            refine lv_topi (fun x_77689 ex_77689 => ?_)
            refine lv_isub hx hb dX11_copy_87 ?_
            refine lv_topi (fun x_77690 ex_77690 => ?_)
            refine lv_istore (lv' := [(9, .int x_77690), (0, .ref (ad 0 0)), (1, .int i1), (2, .int i2), (3, .int i3), (4, .int i4), (5, .int y58_5), (6, .int y58_6), (7, .int y58_7), (8, .int y58_8)]) hx hb dX11_copy_88 hl (by decide) rfl (fun ls hl => ?_)
            refine lv_iload hx hb dX11_copy_90 (lv_at hl 9 rfl) ?_
            refine lv_if_eq (tgt := 102) hx hb dX11_copy_92 (by decide) (fun c_77691 => ?_) (fun c_77691 => ?_)
            · have B_77692 : bn 0 0 y58_8 := bn_w (bn_eq c_77691 (show bn 0 0 (0 : Int32) from bn_k (by decide))) (by decide)
              refine lv_iload hx hb dX11_copy_102 (lv_at hl 9 rfl) ?_
              refine lv_istore (lv' := [(6, .int y58_8), (9, .int x_77690), (0, .ref (ad 0 0)), (1, .int i1), (2, .int i2), (3, .int i3), (4, .int i4), (5, .int y58_5), (7, .int y58_7), (8, .int y58_8)]) hx hb dX11_copy_104 hl (by decide) rfl (fun ls hl => ?_)
              refine lv_iload hx hb dX11_copy_106 (lv_at hl 1 rfl) ?_
              refine lv_istore (lv' := [(7, .int x_77690), (6, .int y58_8), (9, .int x_77690), (0, .ref (ad 0 0)), (1, .int i1), (2, .int i2), (3, .int i3), (4, .int i4), (5, .int y58_5), (8, .int y58_8)]) hx hb dX11_copy_108 hl (by decide) rfl (fun ls hl => ?_)
              obtain ⟨x_77694, ex_77694⟩ : ∃ z : Int32, z = y58_8 + 1 := ⟨_, rfl⟩
              refine lv_iinc (v := x_77694) (lv' := [(8, .int x_77694), (7, .int x_77690), (6, .int y58_8), (9, .int x_77690), (0, .ref (ad 0 0)), (1, .int i1), (2, .int i2), (3, .int i3), (4, .int i4), (5, .int y58_5)]) hx hb dX11_copy_110 hl (k := 9) rfl (by rw [ex_77694]; rfl) (by decide) rfl (fun ls hl => ?_)
              refine lv_goto (tgt := 58) hx hb dX11_copy_113 (by decide) ?_
              exact ih58 _ (by rw [← hm58]; exact ms_up (m := 1) ex_77694 (show bn 1 1 (1 : Int32) from bn_k (by decide)) B_77692 (bn_w (bn_eq ex_77694 (bn_add B_77692 (show bn 1 1 (1 : Int32) from bn_k (by decide)) (by decide))) (by decide) : bn 0 61 x_77694) (by decide)) y58_5 y58_8 x_77690 x_77694 _ _  _ _ _ I (bn_w B_77692 (by decide)) (bn_w (bn_eq ex_77694 (bn_add B_77692 (show bn 1 1 (1 : Int32) from bn_k (by decide)) (by decide))) (by decide)) rfl Y (lv_sub hl [4, 5, 6, 7, 8, 9, 2, 1, 0] rfl)
            · have B_77693 : bn 1 60 y58_8 := bn_w (bn_nel c_77691 B_77669 (show bn 0 0 (0 : Int32) from bn_k (by decide))) (by decide)
              refine lv_iload hx hb dX11_copy_95 (lv_at hl 0 rfl) ?_
              refine lv_iload hx hb dX11_copy_97 (lv_at hl 8 rfl) ?_
              refine lv_icmp_ge (tgt := 110) hx hb dX11_copy_99 (by decide) (fun c_77695 => ?_) (fun c_77695 => ?_)
              · obtain ⟨x_77698, ex_77698⟩ : ∃ z : Int32, z = y58_8 + 1 := ⟨_, rfl⟩
                refine lv_iinc (v := x_77698) (lv' := [(8, .int x_77698), (9, .int x_77690), (0, .ref (ad 0 0)), (1, .int i1), (2, .int i2), (3, .int i3), (4, .int i4), (5, .int y58_5), (6, .int y58_6), (7, .int y58_7)]) hx hb dX11_copy_110 hl (k := 9) rfl (by rw [ex_77698]; rfl) (by decide) rfl (fun ls hl => ?_)
                refine lv_goto (tgt := 58) hx hb dX11_copy_113 (by decide) ?_
                exact ih58 _ (by rw [← hm58]; exact ms_up (m := 1) ex_77698 (show bn 1 1 (1 : Int32) from bn_k (by decide)) B_77693 (bn_w (bn_eq ex_77698 (bn_add B_77693 (show bn 1 1 (1 : Int32) from bn_k (by decide)) (by decide))) (by decide) : bn 0 61 x_77698) (by decide)) y58_5 y58_6 y58_7 x_77698 _ _  _ _ _ I (bn_w b_y58_6 (by decide)) (bn_w (bn_eq ex_77698 (bn_add B_77693 (show bn 1 1 (1 : Int32) from bn_k (by decide)) (by decide))) (by decide)) rfl Y (lv_sub hl [2, 3, 4, 5, 6, 7, 8, 9, 0] rfl)
              · have B_77696 : bn (-2147483647) 2147483647 y58_7 := bn_w (bn_gtl c_77695 (bn_any y58_7) (bn_any x_77690)) (by decide)
                have B_77697 : bn (-2147483648) 2147483646 x_77690 := bn_w (bn_gtr c_77695 (bn_any y58_7) (bn_any x_77690)) (by decide)
                refine lv_iload hx hb dX11_copy_102 (lv_at hl 9 rfl) ?_
                refine lv_istore (lv' := [(6, .int y58_8), (9, .int x_77690), (0, .ref (ad 0 0)), (1, .int i1), (2, .int i2), (3, .int i3), (4, .int i4), (5, .int y58_5), (7, .int y58_7), (8, .int y58_8)]) hx hb dX11_copy_104 hl (by decide) rfl (fun ls hl => ?_)
                refine lv_iload hx hb dX11_copy_106 (lv_at hl 1 rfl) ?_
                refine lv_istore (lv' := [(7, .int x_77690), (6, .int y58_8), (9, .int x_77690), (0, .ref (ad 0 0)), (1, .int i1), (2, .int i2), (3, .int i3), (4, .int i4), (5, .int y58_5), (8, .int y58_8)]) hx hb dX11_copy_108 hl (by decide) rfl (fun ls hl => ?_)
                obtain ⟨x_77699, ex_77699⟩ : ∃ z : Int32, z = y58_8 + 1 := ⟨_, rfl⟩
                refine lv_iinc (v := x_77699) (lv' := [(8, .int x_77699), (7, .int x_77690), (6, .int y58_8), (9, .int x_77690), (0, .ref (ad 0 0)), (1, .int i1), (2, .int i2), (3, .int i3), (4, .int i4), (5, .int y58_5)]) hx hb dX11_copy_110 hl (k := 9) rfl (by rw [ex_77699]; rfl) (by decide) rfl (fun ls hl => ?_)
                refine lv_goto (tgt := 58) hx hb dX11_copy_113 (by decide) ?_
                exact ih58 _ (by rw [← hm58]; exact ms_up (m := 1) ex_77699 (show bn 1 1 (1 : Int32) from bn_k (by decide)) B_77693 (bn_w (bn_eq ex_77699 (bn_add B_77693 (show bn 1 1 (1 : Int32) from bn_k (by decide)) (by decide))) (by decide) : bn 0 61 x_77699) (by decide)) y58_5 y58_8 x_77690 x_77699 _ _  _ _ _ I (bn_w B_77693 (by decide)) (bn_w (bn_eq ex_77699 (bn_add B_77693 (show bn 1 1 (1 : Int32) from bn_k (by decide)) (by decide))) (by decide)) rfl Y (lv_sub hl [4, 5, 6, 7, 8, 9, 2, 1, 0] rfl)
          · have B_77688 : bn (-2147483648) 60 y58_5 := bn_w (bn_ger c_77686 B_77669 (bn_any y58_5)) (by decide)
            refine lv_iload_n hx hb dX11_copy_78 rfl (lv_at hl 3 rfl) ?_
            refine lv_goto (tgt := 83) hx hb dX11_copy_79 (by decide) ?_
            refine lv_iload_n hx hb dX11_copy_83 rfl (lv_at hl 2 rfl) ?_
            refine lv_iload hx hb dX11_copy_84 (lv_at hl 8 rfl) ?_
            refine lv_imul hx hb dX11_copy_86 ?_
            refine lv_topi (fun x_77700 ex_77700 => ?_)
            refine lv_isub hx hb dX11_copy_87 ?_
            refine lv_topi (fun x_77701 ex_77701 => ?_)
            refine lv_istore (lv' := [(9, .int x_77701), (0, .ref (ad 0 0)), (1, .int i1), (2, .int i2), (3, .int i3), (4, .int i4), (5, .int y58_5), (6, .int y58_6), (7, .int y58_7), (8, .int y58_8)]) hx hb dX11_copy_88 hl (by decide) rfl (fun ls hl => ?_)
            refine lv_iload hx hb dX11_copy_90 (lv_at hl 9 rfl) ?_
            refine lv_if_eq (tgt := 102) hx hb dX11_copy_92 (by decide) (fun c_77702 => ?_) (fun c_77702 => ?_)
            · have B_77703 : bn 0 0 y58_8 := bn_w (bn_eq c_77702 (show bn 0 0 (0 : Int32) from bn_k (by decide))) (by decide)
              refine lv_iload hx hb dX11_copy_102 (lv_at hl 9 rfl) ?_
              refine lv_istore (lv' := [(6, .int y58_8), (9, .int x_77701), (0, .ref (ad 0 0)), (1, .int i1), (2, .int i2), (3, .int i3), (4, .int i4), (5, .int y58_5), (7, .int y58_7), (8, .int y58_8)]) hx hb dX11_copy_104 hl (by decide) rfl (fun ls hl => ?_)
              refine lv_iload hx hb dX11_copy_106 (lv_at hl 1 rfl) ?_
              refine lv_istore (lv' := [(7, .int x_77701), (6, .int y58_8), (9, .int x_77701), (0, .ref (ad 0 0)), (1, .int i1), (2, .int i2), (3, .int i3), (4, .int i4), (5, .int y58_5), (8, .int y58_8)]) hx hb dX11_copy_108 hl (by decide) rfl (fun ls hl => ?_)
              obtain ⟨x_77705, ex_77705⟩ : ∃ z : Int32, z = y58_8 + 1 := ⟨_, rfl⟩
              refine lv_iinc (v := x_77705) (lv' := [(8, .int x_77705), (7, .int x_77701), (6, .int y58_8), (9, .int x_77701), (0, .ref (ad 0 0)), (1, .int i1), (2, .int i2), (3, .int i3), (4, .int i4), (5, .int y58_5)]) hx hb dX11_copy_110 hl (k := 9) rfl (by rw [ex_77705]; rfl) (by decide) rfl (fun ls hl => ?_)
              refine lv_goto (tgt := 58) hx hb dX11_copy_113 (by decide) ?_
              exact ih58 _ (by rw [← hm58]; exact ms_up (m := 1) ex_77705 (show bn 1 1 (1 : Int32) from bn_k (by decide)) B_77703 (bn_w (bn_eq ex_77705 (bn_add B_77703 (show bn 1 1 (1 : Int32) from bn_k (by decide)) (by decide))) (by decide) : bn 0 61 x_77705) (by decide)) y58_5 y58_8 x_77701 x_77705 _ _  _ _ _ I (bn_w B_77703 (by decide)) (bn_w (bn_eq ex_77705 (bn_add B_77703 (show bn 1 1 (1 : Int32) from bn_k (by decide)) (by decide))) (by decide)) rfl Y (lv_sub hl [4, 5, 6, 7, 8, 9, 2, 1, 0] rfl)
            · have B_77704 : bn 1 60 y58_8 := bn_w (bn_nel c_77702 B_77669 (show bn 0 0 (0 : Int32) from bn_k (by decide))) (by decide)
              refine lv_iload hx hb dX11_copy_95 (lv_at hl 0 rfl) ?_
              refine lv_iload hx hb dX11_copy_97 (lv_at hl 8 rfl) ?_
              refine lv_icmp_ge (tgt := 110) hx hb dX11_copy_99 (by decide) (fun c_77706 => ?_) (fun c_77706 => ?_)
              · obtain ⟨x_77709, ex_77709⟩ : ∃ z : Int32, z = y58_8 + 1 := ⟨_, rfl⟩
                refine lv_iinc (v := x_77709) (lv' := [(8, .int x_77709), (9, .int x_77701), (0, .ref (ad 0 0)), (1, .int i1), (2, .int i2), (3, .int i3), (4, .int i4), (5, .int y58_5), (6, .int y58_6), (7, .int y58_7)]) hx hb dX11_copy_110 hl (k := 9) rfl (by rw [ex_77709]; rfl) (by decide) rfl (fun ls hl => ?_)
                refine lv_goto (tgt := 58) hx hb dX11_copy_113 (by decide) ?_
                exact ih58 _ (by rw [← hm58]; exact ms_up (m := 1) ex_77709 (show bn 1 1 (1 : Int32) from bn_k (by decide)) B_77704 (bn_w (bn_eq ex_77709 (bn_add B_77704 (show bn 1 1 (1 : Int32) from bn_k (by decide)) (by decide))) (by decide) : bn 0 61 x_77709) (by decide)) y58_5 y58_6 y58_7 x_77709 _ _  _ _ _ I (bn_w b_y58_6 (by decide)) (bn_w (bn_eq ex_77709 (bn_add B_77704 (show bn 1 1 (1 : Int32) from bn_k (by decide)) (by decide))) (by decide)) rfl Y (lv_sub hl [2, 3, 4, 5, 6, 7, 8, 9, 0] rfl)
              · have B_77707 : bn (-2147483647) 2147483647 y58_7 := bn_w (bn_gtl c_77706 (bn_any y58_7) (bn_any x_77701)) (by decide)
                have B_77708 : bn (-2147483648) 2147483646 x_77701 := bn_w (bn_gtr c_77706 (bn_any y58_7) (bn_any x_77701)) (by decide)
                refine lv_iload hx hb dX11_copy_102 (lv_at hl 9 rfl) ?_
                refine lv_istore (lv' := [(6, .int y58_8), (9, .int x_77701), (0, .ref (ad 0 0)), (1, .int i1), (2, .int i2), (3, .int i3), (4, .int i4), (5, .int y58_5), (7, .int y58_7), (8, .int y58_8)]) hx hb dX11_copy_104 hl (by decide) rfl (fun ls hl => ?_)
                refine lv_iload hx hb dX11_copy_106 (lv_at hl 1 rfl) ?_
                refine lv_istore (lv' := [(7, .int x_77701), (6, .int y58_8), (9, .int x_77701), (0, .ref (ad 0 0)), (1, .int i1), (2, .int i2), (3, .int i3), (4, .int i4), (5, .int y58_5), (8, .int y58_8)]) hx hb dX11_copy_108 hl (by decide) rfl (fun ls hl => ?_)
                obtain ⟨x_77710, ex_77710⟩ : ∃ z : Int32, z = y58_8 + 1 := ⟨_, rfl⟩
                refine lv_iinc (v := x_77710) (lv' := [(8, .int x_77710), (7, .int x_77701), (6, .int y58_8), (9, .int x_77701), (0, .ref (ad 0 0)), (1, .int i1), (2, .int i2), (3, .int i3), (4, .int i4), (5, .int y58_5)]) hx hb dX11_copy_110 hl (k := 9) rfl (by rw [ex_77710]; rfl) (by decide) rfl (fun ls hl => ?_)
                refine lv_goto (tgt := 58) hx hb dX11_copy_113 (by decide) ?_
                exact ih58 _ (by rw [← hm58]; exact ms_up (m := 1) ex_77710 (show bn 1 1 (1 : Int32) from bn_k (by decide)) B_77704 (bn_w (bn_eq ex_77710 (bn_add B_77704 (show bn 1 1 (1 : Int32) from bn_k (by decide)) (by decide))) (by decide) : bn 0 61 x_77710) (by decide)) y58_5 y58_8 x_77701 x_77710 _ _  _ _ _ I (bn_w B_77704 (by decide)) (bn_w (bn_eq ex_77710 (bn_add B_77704 (show bn 1 1 (1 : Int32) from bn_k (by decide)) (by decide))) (by decide)) rfl Y (lv_sub hl [4, 5, 6, 7, 8, 9, 2, 1, 0] rfl)
  refine lv_aload_n hx hb dX11_copy_0 rfl (lv_at hl 0 rfl) ?_
  have p_ad_0_0 := opnC_0 (j := 0) I (by decide)
  have p_ad_0_0 : pt L f (ad 0 0) (.inr (11, [.ref (ad 1 0), .ref (ad 1 1), .ref (ad 2 0), .ref (ad 3 0), .ref (ad 4 0), .ref (ad 5 0), .ref (ad 6 0), .ref (ad 7 0), .ref (ad 8 0)])) := p_ad_0_0
  refine pg_get S Y ok_X11 0 (by decide) kf11_13 (v := .ref (ad 1 0)) p_ad_0_0 rfl dX11_copy_1 ?_
  obtain ⟨v_77711, v_77713, v_77715, v_77717, v_77719, p_ad_1_0, b_77712, b_77714, b_77716, b_77718, b_77720⟩ := opnC_1 (j := 0) I (by decide)
  have p_ad_1_0 : pt L f (ad 1 0) (.inr (10, [.ref (ad 40 0), .ref (ad 41 0), .ref (ad 42 0), .ref (ad 10 0), .ref (ad 43 0), .ref (ad 20 0), .ref (ad 20 1), .ref (ad 20 2), .ref (ad 20 3), .ref (ad 20 4), .int v_77711, .int v_77713, .int v_77715, .int v_77717, .int v_77719])) := p_ad_1_0
  refine pg_getN S Y ok_X10 3 (by decide) kf11_131 (v := .ref (ad 10 0)) p_ad_1_0 rfl dX11_copy_4 ?_
  refine lv_iload_n hx hb dX11_copy_7 rfl (lv_at hl 1 rfl) ?_
  refine cVp (As := [.int i1]) (rest := []) S Y (x_X4_unreleased (l := l) (j := 0) I hW hT hQ (by decide)) cw_X4_unreleased km11_322 (I.opo (k := 10) (j := 0) (by decide) rfl).choose_spec.1 ok_X4.1 rfl rfl ⟨Nat.le_of_ble_eq_true rfl, Nat.le_of_ble_eq_true rfl⟩ hl.1 rfl (Nat.le_of_ble_eq_true rfl) ⟨Nat.le_of_ble_eq_true rfl, Nat.le_of_ble_eq_true rfl⟩ dX11_copy_8 (fun r_77721 H locs er_77721 Y => ?_)
  refine lv_if_eq (tgt := 35) hx hb dX11_copy_11 (by decide) (fun c_77722 => ?_) (fun c_77722 => ?_)
  · have B_77723 : bn 0 0 r_77721 := bn_w (bn_eq c_77722 (show bn 0 0 (0 : Int32) from bn_k (by decide))) (by decide)
    refine lv_ldcw (v := (-100000)) hx hb S.ow (S.w kk11_325) dX11_copy_35 ?_
    exact prI (post := fun r L1 f1 => SH (spC (NR 30 0 4) ((0, 6) : Int × Int) tc w q) nnC G ad L1 f1) S Y rfl (by decide) (by decide) hA1 I dX11_copy_38
  · have B_77724 : bn 1 1 r_77721 := bn_w (bn_nel c_77722 er_77721 (show bn 0 0 (0 : Int32) from bn_k (by decide))) (by decide)
    refine lv_iload_n hx hb dX11_copy_14 rfl (lv_at hl 2 rfl) ?_
    refine lv_iconst (v := 0) hx hb dX11_copy_15 (by decide) ?_
    refine lv_bipush (v := 99) hx hb dX11_copy_16 (by decide) ?_
    refine cSp (As := [.int i2, .int 0, .int 99]) (rest := []) S Y (x_X11_within (l := l) ) cw_X11_within km11_146 rfl ⟨Nat.le_of_ble_eq_true rfl, Nat.le_of_ble_eq_true rfl⟩ hl.1 rfl (Nat.le_of_ble_eq_true rfl) ⟨Nat.le_of_ble_eq_true rfl, Nat.le_of_ble_eq_true rfl⟩ dX11_copy_18 (fun r_77725 H locs er_77725 Y => ?_)
    refine lv_if_eq (tgt := 35) hx hb dX11_copy_21 (by decide) (fun c_77726 => ?_) (fun c_77726 => ?_)
    · have B_77727 : bn 0 0 r_77725 := bn_w (bn_eq c_77726 (show bn 0 0 (0 : Int32) from bn_k (by decide))) (by decide)
      refine lv_ldcw (v := (-100000)) hx hb S.ow (S.w kk11_325) dX11_copy_35 ?_
      exact prI (post := fun r L1 f1 => SH (spC (NR 30 0 4) ((0, 6) : Int × Int) tc w q) nnC G ad L1 f1) S Y rfl (by decide) (by decide) hA1 I dX11_copy_38
    · have B_77728 : bn 1 1 r_77725 := bn_w (bn_nel c_77726 er_77725 (show bn 0 0 (0 : Int32) from bn_k (by decide))) (by decide)
      refine lv_iload_n hx hb dX11_copy_24 rfl (lv_at hl 3 rfl) ?_
      refine lv_iconst (v := 0) hx hb dX11_copy_25 (by decide) ?_
      refine lv_sipush (v := 9999) hx hb dX11_copy_26 (by decide) ?_
      refine cSp (As := [.int i3, .int 0, .int 9999]) (rest := []) S Y (x_X11_within (l := l) ) cw_X11_within km11_146 rfl ⟨Nat.le_of_ble_eq_true rfl, Nat.le_of_ble_eq_true rfl⟩ hl.1 rfl (Nat.le_of_ble_eq_true rfl) ⟨Nat.le_of_ble_eq_true rfl, Nat.le_of_ble_eq_true rfl⟩ dX11_copy_29 (fun r_77729 H locs er_77729 Y => ?_)
      refine lv_if_ne (tgt := 39) hx hb dX11_copy_32 (by decide) (fun c_77730 => ?_) (fun c_77730 => ?_)
      · have B_77731 : bn 1 1 r_77729 := bn_w (bn_nel c_77730 er_77729 (show bn 0 0 (0 : Int32) from bn_k (by decide))) (by decide)
        refine lv_aload_n hx hb dX11_copy_39 rfl (lv_at hl 0 rfl) ?_
        refine pg_get S Y ok_X11 6 (by decide) kf11_59 (v := .ref (ad 6 0)) p_ad_0_0 rfl dX11_copy_40 ?_
        refine lv_iload_n hx hb dX11_copy_43 rfl (lv_at hl 1 rfl) ?_
        refine cVi (As := [.int i1]) (rest := []) S Y (x_X2_daysToFade (l := l) I hW hT hQ) cw_X2_daysToFade km11_246 (I.opo (k := 6) (j := 0) (by decide) rfl).choose_spec.1 ok_X2.1 rfl rfl ⟨Nat.le_of_ble_eq_true rfl, Nat.le_of_ble_eq_true rfl⟩ hl.1 rfl (Nat.le_of_ble_eq_true rfl) ⟨Nat.le_of_ble_eq_true rfl, Nat.le_of_ble_eq_true rfl⟩ dX11_copy_44 (fun r_77735 L_77733 f_77734 H locs I Y => ?_)
        refine lv_istore (lv' := [(5, .int r_77735), (0, .ref (ad 0 0)), (1, .int i1), (2, .int i2), (3, .int i3), (4, .int i4)]) hx hb dX11_copy_47 hl (by decide) rfl (fun ls hl => ?_)
        refine lv_iconst (v := 0) hx hb dX11_copy_49 (by decide) ?_
        refine lv_istore (lv' := [(6, .int 0), (5, .int r_77735), (0, .ref (ad 0 0)), (1, .int i1), (2, .int i2), (3, .int i3), (4, .int i4)]) hx hb dX11_copy_50 hl (by decide) rfl (fun ls hl => ?_)
        refine lv_iconst (v := 0) hx hb dX11_copy_52 (by decide) ?_
        refine lv_istore (lv' := [(7, .int 0), (6, .int 0), (5, .int r_77735), (0, .ref (ad 0 0)), (1, .int i1), (2, .int i2), (3, .int i3), (4, .int i4)]) hx hb dX11_copy_53 hl (by decide) rfl (fun ls hl => ?_)
        refine lv_iconst (v := 0) hx hb dX11_copy_55 (by decide) ?_
        refine lv_istore (lv' := [(8, .int 0), (7, .int 0), (6, .int 0), (5, .int r_77735), (0, .ref (ad 0 0)), (1, .int i1), (2, .int i2), (3, .int i3), (4, .int i4)]) hx hb dX11_copy_56 hl (by decide) rfl (fun ls hl => ?_)
        exact J_58 _ r_77735 0 0 0 _ _  _ _ _ I (bn_w (show bn 0 0 (0 : Int32) from bn_k (by decide)) (by decide)) (bn_w (show bn 0 0 (0 : Int32) from bn_k (by decide)) (by decide)) rfl Y (lv_sub hl [4, 5, 6, 7, 8, 3, 2, 1, 0] rfl)
      · have B_77732 : bn 0 0 r_77729 := bn_w (bn_eq c_77730 (show bn 0 0 (0 : Int32) from bn_k (by decide))) (by decide)
        refine lv_ldcw (v := (-100000)) hx hb S.ow (S.w kk11_325) dX11_copy_35 ?_
        exact prI (post := fun r L1 f1 => SH (spC (NR 30 0 4) ((0, 6) : Int × Int) tc w q) nnC G ad L1 f1) S Y rfl (by decide) (by decide) hA1 I dX11_copy_38
set_option maxHeartbeats 4000000 in
set_option maxRecDepth 100000 in
theorem x_X11_worn {l : Launch} {G : GG}  {L : List Nat} {f : HF} {ad : Nat → Nat → Nat} {tc w : Nat → Int × Int} {q : Nat → (Nat → Int32) → Prop} {i1 i2 : Int32} (I : SH (spC (NR 30 0 4) ((0, 6) : Int × Int) tc w q) nnC G ad L f) (hW : WBp w 8) (hT : WBp tc 4) (hQ : QIp q) (hZ : ZZp w q) (hE : ∀ j, (tc j).1 = (tc j).2) : PMi l yX11_worn cX11_worn 3 .int 1 0 0 G [.ref (ad 0 0), .int i1, .int i2] L f (fun r L1 f1 => SH (spC (NR 30 0 4) ((0, 6) : Int × Int) tc w q) nnC G ad L1 f1) := by
  refine PMi.of (post := fun r L1 f1 => SH (spC (NR 30 0 4) ((0, 6) : Int × Int) tc w q) nnC G ad L1 f1) (own := RX11) (by decide) rfl (Nat.le_of_ble_eq_true rfl) (fun sz p e s m args below meth c A ls hA1 hname S Y hl => ?_)
  have hx := S.hx
  have hb := S.hb
  have hl : lv_has ls 3 [(0, .ref (ad 0 0)), (1, .int i1), (2, .int i2)] := hl
  refine lv_iload_n hx hb dX11_worn_0 rfl (lv_at hl 1 rfl) ?_
  refine lv_iconst (v := (-1)) hx hb dX11_worn_1 (by decide) ?_
  refine lv_icmp_ne (tgt := 16) hx hb dX11_worn_2 (by decide) (fun c_77808 => ?_) (fun c_77808 => ?_)
  · refine lv_aload_n hx hb dX11_worn_16 rfl (lv_at hl 0 rfl) ?_
    have p_ad_0_0 := opnC_0 (j := 0) I (by decide)
    have p_ad_0_0 : pt L f (ad 0 0) (.inr (11, [.ref (ad 1 0), .ref (ad 1 1), .ref (ad 2 0), .ref (ad 3 0), .ref (ad 4 0), .ref (ad 5 0), .ref (ad 6 0), .ref (ad 7 0), .ref (ad 8 0)])) := p_ad_0_0
    refine pg_get S Y ok_X11 0 (by decide) kf11_13 (v := .ref (ad 1 0)) p_ad_0_0 rfl dX11_worn_17 ?_
    obtain ⟨v_77810, v_77812, v_77814, v_77816, v_77818, p_ad_1_0, b_77811, b_77813, b_77815, b_77817, b_77819⟩ := opnC_1 (j := 0) I (by decide)
    have p_ad_1_0 : pt L f (ad 1 0) (.inr (10, [.ref (ad 40 0), .ref (ad 41 0), .ref (ad 42 0), .ref (ad 10 0), .ref (ad 43 0), .ref (ad 20 0), .ref (ad 20 1), .ref (ad 20 2), .ref (ad 20 3), .ref (ad 20 4), .int v_77810, .int v_77812, .int v_77814, .int v_77816, .int v_77818])) := p_ad_1_0
    refine pg_getN S Y ok_X10 3 (by decide) kf11_131 (v := .ref (ad 10 0)) p_ad_1_0 rfl dX11_worn_20 ?_
    refine lv_iload_n hx hb dX11_worn_23 rfl (lv_at hl 1 rfl) ?_
    refine cVp (As := [.int i1]) (rest := []) S Y (x_X4_has (l := l) (j := 0) I hW hT hQ (by decide)) cw_X4_has km11_211 (I.opo (k := 10) (j := 0) (by decide) rfl).choose_spec.1 ok_X4.1 rfl rfl ⟨Nat.le_of_ble_eq_true rfl, Nat.le_of_ble_eq_true rfl⟩ hl.1 rfl (Nat.le_of_ble_eq_true rfl) ⟨Nat.le_of_ble_eq_true rfl, Nat.le_of_ble_eq_true rfl⟩ dX11_worn_24 (fun r_77820 H locs er_77820 Y => ?_)
    refine lv_if_eq (tgt := 40) hx hb dX11_worn_27 (by decide) (fun c_77821 => ?_) (fun c_77821 => ?_)
    · have B_77822 : bn 0 0 r_77820 := bn_w (bn_eq c_77821 (show bn 0 0 (0 : Int32) from bn_k (by decide))) (by decide)
      refine lv_bipush (v := (-2)) hx hb dX11_worn_40 (by decide) ?_
      exact prI (post := fun r L1 f1 => SH (spC (NR 30 0 4) ((0, 6) : Int × Int) tc w q) nnC G ad L1 f1) S Y rfl (by decide) (by decide) hA1 I dX11_worn_42
    · have B_77823 : bn 1 1 r_77820 := bn_w (bn_nel c_77821 er_77820 (show bn 0 0 (0 : Int32) from bn_k (by decide))) (by decide)
      refine lv_iload_n hx hb dX11_worn_30 rfl (lv_at hl 2 rfl) ?_
      refine lv_iconst (v := 0) hx hb dX11_worn_31 (by decide) ?_
      refine lv_bipush (v := 99) hx hb dX11_worn_32 (by decide) ?_
      refine cSp (As := [.int i2, .int 0, .int 99]) (rest := []) S Y (x_X11_within (l := l) ) cw_X11_within km11_146 rfl ⟨Nat.le_of_ble_eq_true rfl, Nat.le_of_ble_eq_true rfl⟩ hl.1 rfl (Nat.le_of_ble_eq_true rfl) ⟨Nat.le_of_ble_eq_true rfl, Nat.le_of_ble_eq_true rfl⟩ dX11_worn_34 (fun r_77824 H locs er_77824 Y => ?_)
      refine lv_if_ne (tgt := 43) hx hb dX11_worn_37 (by decide) (fun c_77825 => ?_) (fun c_77825 => ?_)
      · have B_77826 : bn 1 1 r_77824 := bn_w (bn_nel c_77825 er_77824 (show bn 0 0 (0 : Int32) from bn_k (by decide))) (by decide)
        refine lv_aload_n hx hb dX11_worn_43 rfl (lv_at hl 0 rfl) ?_
        refine pg_get S Y ok_X11 0 (by decide) kf11_13 (v := .ref (ad 1 0)) p_ad_0_0 rfl dX11_worn_44 ?_
        refine pg_getN S Y ok_X10 9 (by decide) kf11_326 (v := .ref (ad 20 4)) p_ad_1_0 rfl dX11_worn_47 ?_
        refine lv_iload_n hx hb dX11_worn_50 rfl (lv_at hl 1 rfl) ?_
        refine lv_iload_n hx hb dX11_worn_51 rfl (lv_at hl 2 rfl) ?_
        refine lv_iconst (v := 0) hx hb dX11_worn_52 (by decide) ?_
        refine cVi (As := [.int i1, .int i2, .int 0]) (rest := []) S Y (x_X9_tell (l := l) (j := 4) I hW hT hQ (by decide) (hZ _ (by decide) (by decide) (by decide)).1 (hZ _ (by decide) (by decide) (by decide)).2) cw_X9_tell km11_258 (I.opo (k := 20) (j := 4) (by decide) rfl).choose_spec.1 ok_X9.1 rfl rfl ⟨Nat.le_of_ble_eq_true rfl, Nat.le_of_ble_eq_true rfl⟩ hl.1 rfl (Nat.le_of_ble_eq_true rfl) ⟨Nat.le_of_ble_eq_true rfl, Nat.le_of_ble_eq_true rfl⟩ dX11_worn_53 (fun r_77830 L_77828 f_77829 H locs I Y => ?_)
        exact prI (post := fun r L1 f1 => SH (spC (NR 30 0 4) ((0, 6) : Int × Int) tc w q) nnC G ad L1 f1) S Y rfl (by decide) (by decide) hA1 I dX11_worn_56
      · have B_77827 : bn 0 0 r_77824 := bn_w (bn_eq c_77825 (show bn 0 0 (0 : Int32) from bn_k (by decide))) (by decide)
        refine lv_bipush (v := (-2)) hx hb dX11_worn_40 (by decide) ?_
        exact prI (post := fun r L1 f1 => SH (spC (NR 30 0 4) ((0, 6) : Int × Int) tc w q) nnC G ad L1 f1) S Y rfl (by decide) (by decide) hA1 I dX11_worn_42
  · have B_77809 : bn (-1) (-1) i1 := bn_w (bn_eq c_77808 (show bn (-1) (-1) ((-1) : Int32) from bn_k (by decide))) (by decide)
    refine lv_aload_n hx hb dX11_worn_5 rfl (lv_at hl 0 rfl) ?_
    have p_ad_0_0 := opnC_0 (j := 0) I (by decide)
    have p_ad_0_0 : pt L f (ad 0 0) (.inr (11, [.ref (ad 1 0), .ref (ad 1 1), .ref (ad 2 0), .ref (ad 3 0), .ref (ad 4 0), .ref (ad 5 0), .ref (ad 6 0), .ref (ad 7 0), .ref (ad 8 0)])) := p_ad_0_0
    refine pg_get S Y ok_X11 0 (by decide) kf11_13 (v := .ref (ad 1 0)) p_ad_0_0 rfl dX11_worn_6 ?_
    obtain ⟨v_77831, v_77833, v_77835, v_77837, v_77839, p_ad_1_0, b_77832, b_77834, b_77836, b_77838, b_77840⟩ := opnC_1 (j := 0) I (by decide)
    have p_ad_1_0 : pt L f (ad 1 0) (.inr (10, [.ref (ad 40 0), .ref (ad 41 0), .ref (ad 42 0), .ref (ad 10 0), .ref (ad 43 0), .ref (ad 20 0), .ref (ad 20 1), .ref (ad 20 2), .ref (ad 20 3), .ref (ad 20 4), .int v_77831, .int v_77833, .int v_77835, .int v_77837, .int v_77839])) := p_ad_1_0
    refine pg_getN S Y ok_X10 9 (by decide) kf11_326 (v := .ref (ad 20 4)) p_ad_1_0 rfl dX11_worn_9 ?_
    refine cVi (As := []) (rest := []) S Y (x_X9_forget (l := l) (j := 4) I hW hT hQ (by decide) (hZ _ (by decide) (by decide) (by decide)).1 (hZ _ (by decide) (by decide) (by decide)).2) cw_X9_forget km11_253 (I.opo (k := 20) (j := 4) (by decide) rfl).choose_spec.1 ok_X9.1 rfl rfl ⟨Nat.le_of_ble_eq_true rfl, Nat.le_of_ble_eq_true rfl⟩ hl.1 rfl (Nat.le_of_ble_eq_true rfl) ⟨Nat.le_of_ble_eq_true rfl, Nat.le_of_ble_eq_true rfl⟩ dX11_worn_12 (fun r_77843 L_77841 f_77842 H locs hr_77843 Y => ?_)
    obtain ⟨er_77843, I⟩ := hr_77843
    exact prI (post := fun r L1 f1 => SH (spC (NR 30 0 4) ((0, 6) : Int × Int) tc w q) nnC G ad L1 f1) S Y rfl (by decide) (by decide) hA1 I dX11_worn_15
set_option maxHeartbeats 4000000 in
set_option maxRecDepth 100000 in
theorem x_X11_whose {l : Launch} {G : GG}  {L : List Nat} {f : HF} {ad : Nat → Nat → Nat} {tc w : Nat → Int × Int} {q : Nat → (Nat → Int32) → Prop} (I : SH (spC (NR 30 0 4) ((0, 6) : Int × Int) tc w q) nnC G ad L f) (hW : WBp w 8) (hT : WBp tc 4) (hQ : QIp q) (hZ : ZZp w q) (hE : ∀ j, (tc j).1 = (tc j).2) : PMi l yX11_whose cX11_whose 3 .int 5 0 0 G [.ref (ad 0 0)] L f (fun r L1 f1 => SH (spC (NR 30 0 4) ((0, 6) : Int × Int) tc w q) nnC G ad L1 f1) := by
  refine PMi.of (post := fun r L1 f1 => SH (spC (NR 30 0 4) ((0, 6) : Int × Int) tc w q) nnC G ad L1 f1) (own := RX11) (by decide) rfl (Nat.le_of_ble_eq_true rfl) (fun sz p e s m args below meth c A ls hA1 hname S Y hl => ?_)
  have hx := S.hx
  have hb := S.hb
  have hl : lv_has ls 3 [(0, .ref (ad 0 0))] := hl
  have J_4 : ∀ (n4 : Nat) (y4_1 y4_2 : Int32) (L_4 : List Nat) (f_4 : HF) (H : Heap) (locs : List Loc) (ls : Array Slot), (SH (spC (NR 30 0 4) ((0, 6) : Int × Int) tc w q) nnC G ad L_4 f_4) → (bn 0 15 y4_1) → (bn 0 4 y4_2) → (((4 : Int) - y4_2.toInt).toNat = n4) → (DY G A s [] L_4 f_4 H locs) → (lv_has ls 3 [(0, .ref (ad 0 0)), (1, .int y4_1), (2, .int y4_2)]) → W p l e (rmD 5 0 0) s m args below meth c H locs (0) (0) (MQ below (va_Qi (fun r (u : List Nat × HF) => (fun r L1 f1 => SH (spC (NR 30 0 4) ((0, 6) : Int × Int) tc w q) nnC G ad L1 f1) r u.1 u.2) (fun u t => pOut G (va_A (va_pl L f) sz) u.1 u.2 t) (va_A (va_pl L f) sz)) args s 0 0 A) (F0 m 4 ls []) := by
    intro n4
    induction n4 using Nat.strongRecOn with
    | _ n4 ih4 =>
      intro y4_1 y4_2 L_4 f_4 H locs ls I b_y4_1 b_y4_2 hm4 Y hl
      refine lv_iload_n hx hb dX11_whose_4 rfl (lv_at hl 2 rfl) ?_
      refine lv_aload_n hx hb dX11_whose_5 rfl (lv_at hl 0 rfl) ?_
      have p_ad_0_0 := opnC_0 (j := 0) I (by decide)
      have p_ad_0_0 : pt L_4 f_4 (ad 0 0) (.inr (11, [.ref (ad 1 0), .ref (ad 1 1), .ref (ad 2 0), .ref (ad 3 0), .ref (ad 4 0), .ref (ad 5 0), .ref (ad 6 0), .ref (ad 7 0), .ref (ad 8 0)])) := p_ad_0_0
      refine pg_get S Y ok_X11 0 (by decide) kf11_13 (v := .ref (ad 1 0)) p_ad_0_0 rfl dX11_whose_6 ?_
      obtain ⟨v_77982, v_77984, v_77986, v_77988, v_77990, p_ad_1_0, b_77983, b_77985, b_77987, b_77989, b_77991⟩ := opnC_1 (j := 0) I (by decide)
      have p_ad_1_0 : pt L_4 f_4 (ad 1 0) (.inr (10, [.ref (ad 40 0), .ref (ad 41 0), .ref (ad 42 0), .ref (ad 10 0), .ref (ad 43 0), .ref (ad 20 0), .ref (ad 20 1), .ref (ad 20 2), .ref (ad 20 3), .ref (ad 20 4), .int v_77982, .int v_77984, .int v_77986, .int v_77988, .int v_77990])) := p_ad_1_0
      refine pg_getN S Y ok_X10 11 (by decide) kf11_329 (v := .int v_77984) p_ad_1_0 rfl dX11_whose_9 ?_
      refine lv_icmp_ge (tgt := 38) hx hb dX11_whose_12 (by decide) (fun c_77992 => ?_) (fun c_77992 => ?_)
      · refine lv_iload_n hx hb dX11_whose_38 rfl (lv_at hl 1 rfl) ?_
        exact prI (post := fun r L1 f1 => SH (spC (NR 30 0 4) ((0, 6) : Int × Int) tc w q) nnC G ad L1 f1) S Y rfl (by decide) (by decide) hA1 I dX11_whose_39
      · have B_77993 : bn 1 4 v_77984 := bn_w (bn_gtl c_77992 (bn_w (a' := 0) (b' := 4) b_77985 (hT 0)) b_y4_2) (by decide)
        have B_77994 : bn 0 3 y4_2 := bn_w (bn_gtr c_77992 (bn_w (a' := 0) (b' := 4) b_77985 (hT 0)) b_y4_2) (by decide)
        refine lv_aload_n hx hb dX11_whose_15 rfl (lv_at hl 0 rfl) ?_
        refine pg_get S Y ok_X11 3 (by decide) kf11_34 (v := .ref (ad 3 0)) p_ad_0_0 rfl dX11_whose_16 ?_
        refine lv_iload_n hx hb dX11_whose_19 rfl (lv_at hl 2 rfl) ?_
        refine cVi (As := [.int y4_2]) (rest := []) S Y (x_X3_explains (l := l) I hW hT hQ) cw_X3_explains km11_332 (I.opo (k := 3) (j := 0) (by decide) rfl).choose_spec.1 ok_X3.1 rfl rfl ⟨Nat.le_of_ble_eq_true rfl, Nat.le_of_ble_eq_true rfl⟩ hl.1 rfl (Nat.le_of_ble_eq_true rfl) ⟨Nat.le_of_ble_eq_true rfl, Nat.le_of_ble_eq_true rfl⟩ dX11_whose_20 (fun r_77997 L_77995 f_77996 H locs hr_77997 Y => ?_)
        obtain ⟨er_77997, I⟩ := hr_77997
        refine lv_if_eq (tgt := 32) hx hb dX11_whose_23 (by decide) (fun c_77998 => ?_) (fun c_77998 => ?_)
        · have B_77999 : bn 0 0 r_77997 := bn_w (bn_eq c_77998 (show bn 0 0 (0 : Int32) from bn_k (by decide))) (by decide)
          obtain ⟨x_78001, ex_78001⟩ : ∃ z : Int32, z = y4_2 + 1 := ⟨_, rfl⟩
          refine lv_iinc (v := x_78001) (lv' := [(2, .int x_78001), (0, .ref (ad 0 0)), (1, .int y4_1)]) hx hb dX11_whose_32 hl (k := 2) rfl (by rw [ex_78001]; rfl) (by decide) rfl (fun ls hl => ?_)
          refine lv_goto (tgt := 4) hx hb dX11_whose_35 (by decide) ?_
          exact ih4 _ (by rw [← hm4]; exact ms_up (m := 1) ex_78001 (show bn 1 1 (1 : Int32) from bn_k (by decide)) B_77994 (bn_w (bn_eq ex_78001 (bn_add B_77994 (show bn 1 1 (1 : Int32) from bn_k (by decide)) (by decide))) (by decide) : bn 0 4 x_78001) (by decide)) y4_1 x_78001 _ _  _ _ _ I (bn_w b_y4_1 (by decide)) (bn_w (bn_eq ex_78001 (bn_add B_77994 (show bn 1 1 (1 : Int32) from bn_k (by decide)) (by decide))) (by decide)) rfl Y (lv_sub hl [1, 2, 0] rfl)
        · have B_78000 : bn 1 1 r_77997 := bn_w (bn_nel c_77998 er_77997 (show bn 0 0 (0 : Int32) from bn_k (by decide))) (by decide)
          refine lv_iload_n hx hb dX11_whose_26 rfl (lv_at hl 1 rfl) ?_
          refine lv_iconst (v := 1) hx hb dX11_whose_27 (by decide) ?_
          refine lv_iload_n hx hb dX11_whose_28 rfl (lv_at hl 2 rfl) ?_
          refine lv_ishl hx hb dX11_whose_29 ?_
          refine lv_topi (fun x_78002 ex_78002 => ?_)
          refine lv_ior hx hb dX11_whose_30 ?_
          refine lv_topi (fun x_78003 ex_78003 => ?_)
          refine lv_istore_n (lv' := [(1, .int x_78003), (0, .ref (ad 0 0)), (2, .int y4_2)]) hx hb dX11_whose_31 rfl hl (by decide) rfl (fun ls hl => ?_)
          obtain ⟨x_78004, ex_78004⟩ : ∃ z : Int32, z = y4_2 + 1 := ⟨_, rfl⟩
          refine lv_iinc (v := x_78004) (lv' := [(2, .int x_78004), (1, .int x_78003), (0, .ref (ad 0 0))]) hx hb dX11_whose_32 hl (k := 2) rfl (by rw [ex_78004]; rfl) (by decide) rfl (fun ls hl => ?_)
          refine lv_goto (tgt := 4) hx hb dX11_whose_35 (by decide) ?_
          exact ih4 _ (by rw [← hm4]; exact ms_up (m := 1) ex_78004 (show bn 1 1 (1 : Int32) from bn_k (by decide)) B_77994 (bn_w (bn_eq ex_78004 (bn_add B_77994 (show bn 1 1 (1 : Int32) from bn_k (by decide)) (by decide))) (by decide) : bn 0 4 x_78004) (by decide)) x_78003 x_78004 _ _  _ _ _ I (bn_w (bn_eq ex_78003 (bn_or (n := 4) (bn_w b_y4_1 (by decide) : bn 0 15 y4_1) (bn_w (bn_eq ex_78002 (bn_shl (n := 3) (bn_w B_77994 (by decide) : bn 0 3 y4_2) (by decide) (by decide))) (by decide) : bn 0 8 x_78002) (by decide) (by decide))) (by decide)) (bn_w (bn_eq ex_78004 (bn_add B_77994 (show bn 1 1 (1 : Int32) from bn_k (by decide)) (by decide))) (by decide)) rfl Y (lv_sub hl [2, 1, 0] rfl)
  refine lv_iconst (v := 0) hx hb dX11_whose_0 (by decide) ?_
  refine lv_istore_n (lv' := [(1, .int 0), (0, .ref (ad 0 0))]) hx hb dX11_whose_1 rfl hl (by decide) rfl (fun ls hl => ?_)
  refine lv_iconst (v := 0) hx hb dX11_whose_2 (by decide) ?_
  refine lv_istore_n (lv' := [(2, .int 0), (1, .int 0), (0, .ref (ad 0 0))]) hx hb dX11_whose_3 rfl hl (by decide) rfl (fun ls hl => ?_)
  exact J_4 _ 0 0 _ _  _ _ _ I (bn_w (show bn 0 0 (0 : Int32) from bn_k (by decide)) (by decide)) (bn_w (show bn 0 0 (0 : Int32) from bn_k (by decide)) (by decide)) rfl Y (lv_sub hl [2, 1, 0] rfl)
set_option maxHeartbeats 4000000 in
set_option maxRecDepth 100000 in
theorem x_X11_mostSworn {l : Launch} {G : GG}  {L : List Nat} {f : HF} {ad : Nat → Nat → Nat} {tc w : Nat → Int × Int} {q : Nat → (Nat → Int32) → Prop} (I : SH (spC (NR 30 0 4) ((0, 6) : Int × Int) tc w q) nnC G ad L f) (hW : WBp w 8) (hT : WBp tc 4) (hQ : QIp q) (hZ : ZZp w q) (hE : ∀ j, (tc j).1 = (tc j).2) : PMi l yX11_mostSworn cX11_mostSworn 1 .int 5 0 0 G [.ref (ad 0 0)] L f (fun r L1 f1 => SH (spC (NR 30 0 4) ((0, 6) : Int × Int) tc w q) nnC G ad L1 f1) := by
  refine PMi.of (post := fun r L1 f1 => SH (spC (NR 30 0 4) ((0, 6) : Int × Int) tc w q) nnC G ad L1 f1) (own := RX11) (by decide) rfl (Nat.le_of_ble_eq_true rfl) (fun sz p e s m args below meth c A ls hA1 hname S Y hl => ?_)
  have hx := S.hx
  have hb := S.hb
  have hl : lv_has ls 1 [(0, .ref (ad 0 0))] := hl
  refine lv_aload_n hx hb dX11_mostSworn_0 rfl (lv_at hl 0 rfl) ?_
  have p_ad_0_0 := opnC_0 (j := 0) I (by decide)
  have p_ad_0_0 : pt L f (ad 0 0) (.inr (11, [.ref (ad 1 0), .ref (ad 1 1), .ref (ad 2 0), .ref (ad 3 0), .ref (ad 4 0), .ref (ad 5 0), .ref (ad 6 0), .ref (ad 7 0), .ref (ad 8 0)])) := p_ad_0_0
  refine pg_get S Y ok_X11 8 (by decide) kf11_75 (v := .ref (ad 8 0)) p_ad_0_0 rfl dX11_mostSworn_1 ?_
  refine cVp (As := []) (rest := []) S Y (x_X0_mostOften (l := l) I hW hT hQ) cw_X0_mostOften km11_335 (I.opo (k := 8) (j := 0) (by decide) rfl).choose_spec.1 ok_X0.1 rfl rfl ⟨Nat.le_of_ble_eq_true rfl, Nat.le_of_ble_eq_true rfl⟩ hl.1 rfl (Nat.le_of_ble_eq_true rfl) ⟨Nat.le_of_ble_eq_true rfl, Nat.le_of_ble_eq_true rfl⟩ dX11_mostSworn_4 (fun r_78007 H locs er_78007 Y => ?_)
  exact prI (post := fun r L1 f1 => SH (spC (NR 30 0 4) ((0, 6) : Int × Int) tc w q) nnC G ad L1 f1) S Y rfl (by decide) (by decide) hA1 I dX11_mostSworn_7
set_option maxHeartbeats 4000000 in
set_option maxRecDepth 100000 in
theorem x_X11_faithful {l : Launch} {G : GG}  {L : List Nat} {f : HF} {ad : Nat → Nat → Nat} {tc w : Nat → Int × Int} {q : Nat → (Nat → Int32) → Prop} (I : SH (spC (NR 30 0 4) ((0, 6) : Int × Int) tc w q) nnC G ad L f) (hW : WBp w 8) (hT : WBp tc 4) (hQ : QIp q) (hZ : ZZp w q) (hE : ∀ j, (tc j).1 = (tc j).2) : PMi l yX11_faithful cX11_faithful 1 .int 2 0 0 G [.ref (ad 0 0)] L f (fun r L1 f1 => SH (spC (NR 30 0 4) ((0, 6) : Int × Int) tc w q) nnC G ad L1 f1) := by
  refine PMi.of (post := fun r L1 f1 => SH (spC (NR 30 0 4) ((0, 6) : Int × Int) tc w q) nnC G ad L1 f1) (own := RX11) (by decide) rfl (Nat.le_of_ble_eq_true rfl) (fun sz p e s m args below meth c A ls hA1 hname S Y hl => ?_)
  have hx := S.hx
  have hb := S.hb
  have hl : lv_has ls 1 [(0, .ref (ad 0 0))] := hl
  refine lv_aload_n hx hb dX11_faithful_0 rfl (lv_at hl 0 rfl) ?_
  have p_ad_0_0 := opnC_0 (j := 0) I (by decide)
  have p_ad_0_0 : pt L f (ad 0 0) (.inr (11, [.ref (ad 1 0), .ref (ad 1 1), .ref (ad 2 0), .ref (ad 3 0), .ref (ad 4 0), .ref (ad 5 0), .ref (ad 6 0), .ref (ad 7 0), .ref (ad 8 0)])) := p_ad_0_0
  refine pg_get S Y ok_X11 8 (by decide) kf11_75 (v := .ref (ad 8 0)) p_ad_0_0 rfl dX11_faithful_1 ?_
  refine cVp (As := []) (rest := []) S Y (x_X0_unbroken (l := l) I hW hT hQ) cw_X0_unbroken km11_338 (I.opo (k := 8) (j := 0) (by decide) rfl).choose_spec.1 ok_X0.1 rfl rfl ⟨Nat.le_of_ble_eq_true rfl, Nat.le_of_ble_eq_true rfl⟩ hl.1 rfl (Nat.le_of_ble_eq_true rfl) ⟨Nat.le_of_ble_eq_true rfl, Nat.le_of_ble_eq_true rfl⟩ dX11_faithful_4 (fun r_78010 H locs er_78010 Y => ?_)
  exact prI (post := fun r L1 f1 => SH (spC (NR 30 0 4) ((0, 6) : Int × Int) tc w q) nnC G ad L1 f1) S Y rfl (by decide) (by decide) hA1 I dX11_faithful_7
set_option maxHeartbeats 4000000 in
set_option maxRecDepth 100000 in
theorem x_X11_ached {l : Launch} {G : GG}  {L : List Nat} {f : HF} {ad : Nat → Nat → Nat} {tc w : Nat → Int × Int} {q : Nat → (Nat → Int32) → Prop} {i1 : Int32} (I : SH (spC (NR 30 0 4) ((0, 6) : Int × Int) tc w q) nnC G ad L f) (hW : WBp w 8) (hT : WBp tc 4) (hQ : QIp q) (hZ : ZZp w q) (hE : ∀ j, (tc j).1 = (tc j).2) : PMi l yX11_ached cX11_ached 2 .int 2 0 0 G [.ref (ad 0 0), .int i1] L f (fun r L1 f1 => SH (spC (NR 30 0 4) ((0, 6) : Int × Int) tc w q) nnC G ad L1 f1) := by
  refine PMi.of (post := fun r L1 f1 => SH (spC (NR 30 0 4) ((0, 6) : Int × Int) tc w q) nnC G ad L1 f1) (own := RX11) (by decide) rfl (Nat.le_of_ble_eq_true rfl) (fun sz p e s m args below meth c A ls hA1 hname S Y hl => ?_)
  have hx := S.hx
  have hb := S.hb
  have hl : lv_has ls 2 [(0, .ref (ad 0 0)), (1, .int i1)] := hl
  refine lv_iload_n hx hb dX11_ached_0 rfl (lv_at hl 1 rfl) ?_
  refine lv_iconst (v := (-1)) hx hb dX11_ached_1 (by decide) ?_
  refine lv_icmp_eq (tgt := 19) hx hb dX11_ached_2 (by decide) (fun c_78067 => ?_) (fun c_78067 => ?_)
  · have B_78068 : bn (-1) (-1) i1 := bn_w (bn_eq c_78067 (show bn (-1) (-1) ((-1) : Int32) from bn_k (by decide))) (by decide)
    refine lv_aload_n hx hb dX11_ached_19 rfl (lv_at hl 0 rfl) ?_
    have p_ad_0_0 := opnC_0 (j := 0) I (by decide)
    have p_ad_0_0 : pt L f (ad 0 0) (.inr (11, [.ref (ad 1 0), .ref (ad 1 1), .ref (ad 2 0), .ref (ad 3 0), .ref (ad 4 0), .ref (ad 5 0), .ref (ad 6 0), .ref (ad 7 0), .ref (ad 8 0)])) := p_ad_0_0
    refine pg_get S Y ok_X11 0 (by decide) kf11_13 (v := .ref (ad 1 0)) p_ad_0_0 rfl dX11_ached_20 ?_
    obtain ⟨v_78069, v_78071, v_78073, v_78075, v_78077, p_ad_1_0, b_78070, b_78072, b_78074, b_78076, b_78078⟩ := opnC_1 (j := 0) I (by decide)
    have p_ad_1_0 : pt L f (ad 1 0) (.inr (10, [.ref (ad 40 0), .ref (ad 41 0), .ref (ad 42 0), .ref (ad 10 0), .ref (ad 43 0), .ref (ad 20 0), .ref (ad 20 1), .ref (ad 20 2), .ref (ad 20 3), .ref (ad 20 4), .int v_78069, .int v_78071, .int v_78073, .int v_78075, .int v_78077])) := p_ad_1_0
    refine pg_getN S Y ok_X10 3 (by decide) kf11_131 (v := .ref (ad 10 0)) p_ad_1_0 rfl dX11_ached_23 ?_
    refine lv_iload_n hx hb dX11_ached_26 rfl (lv_at hl 1 rfl) ?_
    refine cVp (As := [.int i1]) (rest := []) S Y (x_X4_writtenOf (l := l) (j := 0) I hW hT hQ (by decide)) cw_X4_writtenOf km11_341 (I.opo (k := 10) (j := 0) (by decide) rfl).choose_spec.1 ok_X4.1 rfl rfl ⟨Nat.le_of_ble_eq_true rfl, Nat.le_of_ble_eq_true rfl⟩ hl.1 rfl (Nat.le_of_ble_eq_true rfl) ⟨Nat.le_of_ble_eq_true rfl, Nat.le_of_ble_eq_true rfl⟩ dX11_ached_27 (fun r_78079 H locs er_78079 Y => ?_)
    exact prI (post := fun r L1 f1 => SH (spC (NR 30 0 4) ((0, 6) : Int × Int) tc w q) nnC G ad L1 f1) S Y rfl (by decide) (by decide) hA1 I dX11_ached_30
  · refine lv_aload_n hx hb dX11_ached_5 rfl (lv_at hl 0 rfl) ?_
    have p_ad_0_0 := opnC_0 (j := 0) I (by decide)
    have p_ad_0_0 : pt L f (ad 0 0) (.inr (11, [.ref (ad 1 0), .ref (ad 1 1), .ref (ad 2 0), .ref (ad 3 0), .ref (ad 4 0), .ref (ad 5 0), .ref (ad 6 0), .ref (ad 7 0), .ref (ad 8 0)])) := p_ad_0_0
    refine pg_get S Y ok_X11 0 (by decide) kf11_13 (v := .ref (ad 1 0)) p_ad_0_0 rfl dX11_ached_6 ?_
    refine lv_iload_n hx hb dX11_ached_9 rfl (lv_at hl 1 rfl) ?_
    refine cVp (As := [.int i1]) (rest := []) S Y (x_X10_has (l := l) I hW hT hQ) cw_X10_has km11_192 (I.opo (k := 1) (j := 0) (by decide) rfl).choose_spec.1 ok_X10.1 rfl rfl ⟨Nat.le_of_ble_eq_true rfl, Nat.le_of_ble_eq_true rfl⟩ hl.1 rfl (Nat.le_of_ble_eq_true rfl) ⟨Nat.le_of_ble_eq_true rfl, Nat.le_of_ble_eq_true rfl⟩ dX11_ached_10 (fun r_78080 H locs er_78080 Y => ?_)
    refine lv_if_ne (tgt := 19) hx hb dX11_ached_13 (by decide) (fun c_78081 => ?_) (fun c_78081 => ?_)
    · have B_78082 : bn 1 1 r_78080 := bn_w (bn_nel c_78081 er_78080 (show bn 0 0 (0 : Int32) from bn_k (by decide))) (by decide)
      refine lv_aload_n hx hb dX11_ached_19 rfl (lv_at hl 0 rfl) ?_
      refine pg_get S Y ok_X11 0 (by decide) kf11_13 (v := .ref (ad 1 0)) p_ad_0_0 rfl dX11_ached_20 ?_
      obtain ⟨v_78084, v_78086, v_78088, v_78090, v_78092, p_ad_1_0, b_78085, b_78087, b_78089, b_78091, b_78093⟩ := opnC_1 (j := 0) I (by decide)
      have p_ad_1_0 : pt L f (ad 1 0) (.inr (10, [.ref (ad 40 0), .ref (ad 41 0), .ref (ad 42 0), .ref (ad 10 0), .ref (ad 43 0), .ref (ad 20 0), .ref (ad 20 1), .ref (ad 20 2), .ref (ad 20 3), .ref (ad 20 4), .int v_78084, .int v_78086, .int v_78088, .int v_78090, .int v_78092])) := p_ad_1_0
      refine pg_getN S Y ok_X10 3 (by decide) kf11_131 (v := .ref (ad 10 0)) p_ad_1_0 rfl dX11_ached_23 ?_
      refine lv_iload_n hx hb dX11_ached_26 rfl (lv_at hl 1 rfl) ?_
      refine cVp (As := [.int i1]) (rest := []) S Y (x_X4_writtenOf (l := l) (j := 0) I hW hT hQ (by decide)) cw_X4_writtenOf km11_341 (I.opo (k := 10) (j := 0) (by decide) rfl).choose_spec.1 ok_X4.1 rfl rfl ⟨Nat.le_of_ble_eq_true rfl, Nat.le_of_ble_eq_true rfl⟩ hl.1 rfl (Nat.le_of_ble_eq_true rfl) ⟨Nat.le_of_ble_eq_true rfl, Nat.le_of_ble_eq_true rfl⟩ dX11_ached_27 (fun r_78094 H locs er_78094 Y => ?_)
      exact prI (post := fun r L1 f1 => SH (spC (NR 30 0 4) ((0, 6) : Int × Int) tc w q) nnC G ad L1 f1) S Y rfl (by decide) (by decide) hA1 I dX11_ached_30
    · have B_78083 : bn 0 0 r_78080 := bn_w (bn_eq c_78081 (show bn 0 0 (0 : Int32) from bn_k (by decide))) (by decide)
      refine lv_bipush (v := (-2)) hx hb dX11_ached_16 (by decide) ?_
      exact prI (post := fun r L1 f1 => SH (spC (NR 30 0 4) ((0, 6) : Int × Int) tc w q) nnC G ad L1 f1) S Y rfl (by decide) (by decide) hA1 I dX11_ached_18
set_option maxHeartbeats 4000000 in
set_option maxRecDepth 100000 in
theorem x_X11_worstDay {l : Launch} {G : GG}  {L : List Nat} {f : HF} {ad : Nat → Nat → Nat} {tc w : Nat → Int × Int} {q : Nat → (Nat → Int32) → Prop} (I : SH (spC (NR 30 0 4) ((0, 6) : Int × Int) tc w q) nnC G ad L f) (hW : WBp w 8) (hT : WBp tc 4) (hQ : QIp q) (hZ : ZZp w q) (hE : ∀ j, (tc j).1 = (tc j).2) : PMi l yX11_worstDay cX11_worstDay 1 .int 2 0 0 G [.ref (ad 0 0)] L f (fun r L1 f1 => SH (spC (NR 30 0 4) ((0, 6) : Int × Int) tc w q) nnC G ad L1 f1) := by
  refine PMi.of (post := fun r L1 f1 => SH (spC (NR 30 0 4) ((0, 6) : Int × Int) tc w q) nnC G ad L1 f1) (own := RX11) (by decide) rfl (Nat.le_of_ble_eq_true rfl) (fun sz p e s m args below meth c A ls hA1 hname S Y hl => ?_)
  have hx := S.hx
  have hb := S.hb
  have hl : lv_has ls 1 [(0, .ref (ad 0 0))] := hl
  refine lv_aload_n hx hb dX11_worstDay_0 rfl (lv_at hl 0 rfl) ?_
  have p_ad_0_0 := opnC_0 (j := 0) I (by decide)
  have p_ad_0_0 : pt L f (ad 0 0) (.inr (11, [.ref (ad 1 0), .ref (ad 1 1), .ref (ad 2 0), .ref (ad 3 0), .ref (ad 4 0), .ref (ad 5 0), .ref (ad 6 0), .ref (ad 7 0), .ref (ad 8 0)])) := p_ad_0_0
  refine pg_get S Y ok_X11 0 (by decide) kf11_13 (v := .ref (ad 1 0)) p_ad_0_0 rfl dX11_worstDay_1 ?_
  obtain ⟨v_78117, v_78119, v_78121, v_78123, v_78125, p_ad_1_0, b_78118, b_78120, b_78122, b_78124, b_78126⟩ := opnC_1 (j := 0) I (by decide)
  have p_ad_1_0 : pt L f (ad 1 0) (.inr (10, [.ref (ad 40 0), .ref (ad 41 0), .ref (ad 42 0), .ref (ad 10 0), .ref (ad 43 0), .ref (ad 20 0), .ref (ad 20 1), .ref (ad 20 2), .ref (ad 20 3), .ref (ad 20 4), .int v_78117, .int v_78119, .int v_78121, .int v_78123, .int v_78125])) := p_ad_1_0
  refine pg_getN S Y ok_X10 3 (by decide) kf11_131 (v := .ref (ad 10 0)) p_ad_1_0 rfl dX11_worstDay_4 ?_
  refine cVp (As := []) (rest := []) S Y (x_X4_dayOfMost (l := l) (j := 0) I hW hT hQ (by decide)) cw_X4_dayOfMost km11_344 (I.opo (k := 10) (j := 0) (by decide) rfl).choose_spec.1 ok_X4.1 rfl rfl ⟨Nat.le_of_ble_eq_true rfl, Nat.le_of_ble_eq_true rfl⟩ hl.1 rfl (Nat.le_of_ble_eq_true rfl) ⟨Nat.le_of_ble_eq_true rfl, Nat.le_of_ble_eq_true rfl⟩ dX11_worstDay_7 (fun r_78127 H locs er_78127 Y => ?_)
  exact prI (post := fun r L1 f1 => SH (spC (NR 30 0 4) ((0, 6) : Int × Int) tc w q) nnC G ad L1 f1) S Y rfl (by decide) (by decide) hA1 I dX11_worstDay_10
set_option maxHeartbeats 4000000 in
set_option maxRecDepth 100000 in
theorem x_X11_about {l : Launch} {G : GG}  {L : List Nat} {f : HF} {ad : Nat → Nat → Nat} {tc w : Nat → Int × Int} {q : Nat → (Nat → Int32) → Prop} {i1 : Int32} (I : SH (spC (NR 30 0 4) ((0, 6) : Int × Int) tc w q) nnC G ad L f) (hW : WBp w 8) (hT : WBp tc 4) (hQ : QIp q) (hZ : ZZp w q) (hE : ∀ j, (tc j).1 = (tc j).2) : PMi l yX11_about cX11_about 2 .int 1 0 0 G [.ref (ad 0 0), .int i1] L f (fun r L1 f1 => SH (spC (NR 30 0 4) ((0, 6) : Int × Int) tc w q) nnC G ad L1 f1) := by
  refine PMi.of (post := fun r L1 f1 => SH (spC (NR 30 0 4) ((0, 6) : Int × Int) tc w q) nnC G ad L1 f1) (own := RX11) (by decide) rfl (Nat.le_of_ble_eq_true rfl) (fun sz p e s m args below meth c A ls hA1 hname S Y hl => ?_)
  have hx := S.hx
  have hb := S.hb
  have hl : lv_has ls 2 [(0, .ref (ad 0 0)), (1, .int i1)] := hl
  refine lv_iload_n hx hb dX11_about_0 rfl (lv_at hl 1 rfl) ?_
  rcases sw_0_9 i1 with h_78352 | h_78352 | h_78352 | h_78352 | h_78352 | h_78352 | h_78352 | h_78352 | h_78352 | h_78352 | h_78352
  · refine lv_fold (z := 0) h_78352 ?_
    refine lv_tableIn (off := 55) (tgt := 56) hx hb dX11_about_1 (by decide) (by decide) (by decide) (by decide) ?_
    refine lv_aload_n hx hb dX11_about_56 rfl (lv_at hl 0 rfl) ?_
    have p_ad_0_0 := opnC_0 (j := 0) I (by decide)
    have p_ad_0_0 : pt L f (ad 0 0) (.inr (11, [.ref (ad 1 0), .ref (ad 1 1), .ref (ad 2 0), .ref (ad 3 0), .ref (ad 4 0), .ref (ad 5 0), .ref (ad 6 0), .ref (ad 7 0), .ref (ad 8 0)])) := p_ad_0_0
    refine pg_get S Y ok_X11 0 (by decide) kf11_13 (v := .ref (ad 1 0)) p_ad_0_0 rfl dX11_about_57 ?_
    obtain ⟨v_78353, v_78355, v_78357, v_78359, v_78361, p_ad_1_0, b_78354, b_78356, b_78358, b_78360, b_78362⟩ := opnC_1 (j := 0) I (by decide)
    have p_ad_1_0 : pt L f (ad 1 0) (.inr (10, [.ref (ad 40 0), .ref (ad 41 0), .ref (ad 42 0), .ref (ad 10 0), .ref (ad 43 0), .ref (ad 20 0), .ref (ad 20 1), .ref (ad 20 2), .ref (ad 20 3), .ref (ad 20 4), .int v_78353, .int v_78355, .int v_78357, .int v_78359, .int v_78361])) := p_ad_1_0
    refine pg_getN S Y ok_X10 10 (by decide) kf11_174 (v := .int v_78353) p_ad_1_0 rfl dX11_about_60 ?_
    exact prI (post := fun r L1 f1 => SH (spC (NR 30 0 4) ((0, 6) : Int × Int) tc w q) nnC G ad L1 f1) S Y rfl (by decide) (by decide) hA1 I dX11_about_63
  · refine lv_fold (z := 1) h_78352 ?_
    refine lv_tableIn (off := 63) (tgt := 64) hx hb dX11_about_1 (by decide) (by decide) (by decide) (by decide) ?_
    refine lv_aload_n hx hb dX11_about_64 rfl (lv_at hl 0 rfl) ?_
    have p_ad_0_0 := opnC_0 (j := 0) I (by decide)
    have p_ad_0_0 : pt L f (ad 0 0) (.inr (11, [.ref (ad 1 0), .ref (ad 1 1), .ref (ad 2 0), .ref (ad 3 0), .ref (ad 4 0), .ref (ad 5 0), .ref (ad 6 0), .ref (ad 7 0), .ref (ad 8 0)])) := p_ad_0_0
    refine pg_get S Y ok_X11 0 (by decide) kf11_13 (v := .ref (ad 1 0)) p_ad_0_0 rfl dX11_about_65 ?_
    obtain ⟨v_78363, v_78365, v_78367, v_78369, v_78371, p_ad_1_0, b_78364, b_78366, b_78368, b_78370, b_78372⟩ := opnC_1 (j := 0) I (by decide)
    have p_ad_1_0 : pt L f (ad 1 0) (.inr (10, [.ref (ad 40 0), .ref (ad 41 0), .ref (ad 42 0), .ref (ad 10 0), .ref (ad 43 0), .ref (ad 20 0), .ref (ad 20 1), .ref (ad 20 2), .ref (ad 20 3), .ref (ad 20 4), .int v_78363, .int v_78365, .int v_78367, .int v_78369, .int v_78371])) := p_ad_1_0
    refine pg_getN S Y ok_X10 11 (by decide) kf11_329 (v := .int v_78365) p_ad_1_0 rfl dX11_about_68 ?_
    exact prI (post := fun r L1 f1 => SH (spC (NR 30 0 4) ((0, 6) : Int × Int) tc w q) nnC G ad L1 f1) S Y rfl (by decide) (by decide) hA1 I dX11_about_71
  · refine lv_fold (z := 2) h_78352 ?_
    refine lv_tableIn (off := 71) (tgt := 72) hx hb dX11_about_1 (by decide) (by decide) (by decide) (by decide) ?_
    refine lv_aload_n hx hb dX11_about_72 rfl (lv_at hl 0 rfl) ?_
    have p_ad_0_0 := opnC_0 (j := 0) I (by decide)
    have p_ad_0_0 : pt L f (ad 0 0) (.inr (11, [.ref (ad 1 0), .ref (ad 1 1), .ref (ad 2 0), .ref (ad 3 0), .ref (ad 4 0), .ref (ad 5 0), .ref (ad 6 0), .ref (ad 7 0), .ref (ad 8 0)])) := p_ad_0_0
    refine pg_get S Y ok_X11 0 (by decide) kf11_13 (v := .ref (ad 1 0)) p_ad_0_0 rfl dX11_about_73 ?_
    obtain ⟨v_78373, v_78375, v_78377, v_78379, v_78381, p_ad_1_0, b_78374, b_78376, b_78378, b_78380, b_78382⟩ := opnC_1 (j := 0) I (by decide)
    have p_ad_1_0 : pt L f (ad 1 0) (.inr (10, [.ref (ad 40 0), .ref (ad 41 0), .ref (ad 42 0), .ref (ad 10 0), .ref (ad 43 0), .ref (ad 20 0), .ref (ad 20 1), .ref (ad 20 2), .ref (ad 20 3), .ref (ad 20 4), .int v_78373, .int v_78375, .int v_78377, .int v_78379, .int v_78381])) := p_ad_1_0
    refine pg_getN S Y ok_X10 12 (by decide) kf11_212 (v := .int v_78377) p_ad_1_0 rfl dX11_about_76 ?_
    exact prI (post := fun r L1 f1 => SH (spC (NR 30 0 4) ((0, 6) : Int × Int) tc w q) nnC G ad L1 f1) S Y rfl (by decide) (by decide) hA1 I dX11_about_79
  · refine lv_fold (z := 3) h_78352 ?_
    refine lv_tableIn (off := 79) (tgt := 80) hx hb dX11_about_1 (by decide) (by decide) (by decide) (by decide) ?_
    refine lv_aload_n hx hb dX11_about_80 rfl (lv_at hl 0 rfl) ?_
    have p_ad_0_0 := opnC_0 (j := 0) I (by decide)
    have p_ad_0_0 : pt L f (ad 0 0) (.inr (11, [.ref (ad 1 0), .ref (ad 1 1), .ref (ad 2 0), .ref (ad 3 0), .ref (ad 4 0), .ref (ad 5 0), .ref (ad 6 0), .ref (ad 7 0), .ref (ad 8 0)])) := p_ad_0_0
    refine pg_get S Y ok_X11 0 (by decide) kf11_13 (v := .ref (ad 1 0)) p_ad_0_0 rfl dX11_about_81 ?_
    obtain ⟨v_78383, v_78385, v_78387, v_78389, v_78391, p_ad_1_0, b_78384, b_78386, b_78388, b_78390, b_78392⟩ := opnC_1 (j := 0) I (by decide)
    have p_ad_1_0 : pt L f (ad 1 0) (.inr (10, [.ref (ad 40 0), .ref (ad 41 0), .ref (ad 42 0), .ref (ad 10 0), .ref (ad 43 0), .ref (ad 20 0), .ref (ad 20 1), .ref (ad 20 2), .ref (ad 20 3), .ref (ad 20 4), .int v_78383, .int v_78385, .int v_78387, .int v_78389, .int v_78391])) := p_ad_1_0
    refine pg_getN S Y ok_X10 14 (by decide) kf11_189 (v := .int v_78391) p_ad_1_0 rfl dX11_about_84 ?_
    exact prI (post := fun r L1 f1 => SH (spC (NR 30 0 4) ((0, 6) : Int × Int) tc w q) nnC G ad L1 f1) S Y rfl (by decide) (by decide) hA1 I dX11_about_87
  · refine lv_fold (z := 4) h_78352 ?_
    refine lv_tableIn (off := 87) (tgt := 88) hx hb dX11_about_1 (by decide) (by decide) (by decide) (by decide) ?_
    refine lv_aload_n hx hb dX11_about_88 rfl (lv_at hl 0 rfl) ?_
    have p_ad_0_0 := opnC_0 (j := 0) I (by decide)
    have p_ad_0_0 : pt L f (ad 0 0) (.inr (11, [.ref (ad 1 0), .ref (ad 1 1), .ref (ad 2 0), .ref (ad 3 0), .ref (ad 4 0), .ref (ad 5 0), .ref (ad 6 0), .ref (ad 7 0), .ref (ad 8 0)])) := p_ad_0_0
    refine pg_get S Y ok_X11 0 (by decide) kf11_13 (v := .ref (ad 1 0)) p_ad_0_0 rfl dX11_about_89 ?_
    obtain ⟨v_78393, v_78395, v_78397, v_78399, v_78401, p_ad_1_0, b_78394, b_78396, b_78398, b_78400, b_78402⟩ := opnC_1 (j := 0) I (by decide)
    have p_ad_1_0 : pt L f (ad 1 0) (.inr (10, [.ref (ad 40 0), .ref (ad 41 0), .ref (ad 42 0), .ref (ad 10 0), .ref (ad 43 0), .ref (ad 20 0), .ref (ad 20 1), .ref (ad 20 2), .ref (ad 20 3), .ref (ad 20 4), .int v_78393, .int v_78395, .int v_78397, .int v_78399, .int v_78401])) := p_ad_1_0
    refine pg_getN S Y ok_X10 5 (by decide) kf11_249 (v := .ref (ad 20 0)) p_ad_1_0 rfl dX11_about_92 ?_
    obtain ⟨v_78403, v_78405, p_ad_20_0, b_78404, b_78406⟩ := opnC_20 (j := 0) I (by decide)
    have p_ad_20_0 : pt L f (ad 20 0) (.inr (9, [.ref (ad 21 0), .int v_78403, .int v_78405])) := p_ad_20_0
    refine pg_getN S Y ok_X9 2 (by decide) kf11_350 (v := .int v_78405) p_ad_20_0 rfl dX11_about_95 ?_
    exact prI (post := fun r L1 f1 => SH (spC (NR 30 0 4) ((0, 6) : Int × Int) tc w q) nnC G ad L1 f1) S Y rfl (by decide) (by decide) hA1 I dX11_about_98
  · refine lv_fold (z := 5) h_78352 ?_
    refine lv_tableIn (off := 98) (tgt := 99) hx hb dX11_about_1 (by decide) (by decide) (by decide) (by decide) ?_
    refine lv_aload_n hx hb dX11_about_99 rfl (lv_at hl 0 rfl) ?_
    have p_ad_0_0 := opnC_0 (j := 0) I (by decide)
    have p_ad_0_0 : pt L f (ad 0 0) (.inr (11, [.ref (ad 1 0), .ref (ad 1 1), .ref (ad 2 0), .ref (ad 3 0), .ref (ad 4 0), .ref (ad 5 0), .ref (ad 6 0), .ref (ad 7 0), .ref (ad 8 0)])) := p_ad_0_0
    refine pg_get S Y ok_X11 0 (by decide) kf11_13 (v := .ref (ad 1 0)) p_ad_0_0 rfl dX11_about_100 ?_
    obtain ⟨v_78407, v_78409, v_78411, v_78413, v_78415, p_ad_1_0, b_78408, b_78410, b_78412, b_78414, b_78416⟩ := opnC_1 (j := 0) I (by decide)
    have p_ad_1_0 : pt L f (ad 1 0) (.inr (10, [.ref (ad 40 0), .ref (ad 41 0), .ref (ad 42 0), .ref (ad 10 0), .ref (ad 43 0), .ref (ad 20 0), .ref (ad 20 1), .ref (ad 20 2), .ref (ad 20 3), .ref (ad 20 4), .int v_78407, .int v_78409, .int v_78411, .int v_78413, .int v_78415])) := p_ad_1_0
    refine pg_getN S Y ok_X10 6 (by decide) kf11_284 (v := .ref (ad 20 1)) p_ad_1_0 rfl dX11_about_103 ?_
    obtain ⟨v_78417, v_78419, p_ad_20_1, b_78418, b_78420⟩ := opnC_20 (j := 1) I (by decide)
    have p_ad_20_1 : pt L f (ad 20 1) (.inr (9, [.ref (ad 21 1), .int v_78417, .int v_78419])) := p_ad_20_1
    refine pg_getN S Y ok_X9 2 (by decide) kf11_350 (v := .int v_78419) p_ad_20_1 rfl dX11_about_106 ?_
    exact prI (post := fun r L1 f1 => SH (spC (NR 30 0 4) ((0, 6) : Int × Int) tc w q) nnC G ad L1 f1) S Y rfl (by decide) (by decide) hA1 I dX11_about_109
  · refine lv_fold (z := 6) h_78352 ?_
    refine lv_tableIn (off := 109) (tgt := 110) hx hb dX11_about_1 (by decide) (by decide) (by decide) (by decide) ?_
    refine lv_aload_n hx hb dX11_about_110 rfl (lv_at hl 0 rfl) ?_
    have p_ad_0_0 := opnC_0 (j := 0) I (by decide)
    have p_ad_0_0 : pt L f (ad 0 0) (.inr (11, [.ref (ad 1 0), .ref (ad 1 1), .ref (ad 2 0), .ref (ad 3 0), .ref (ad 4 0), .ref (ad 5 0), .ref (ad 6 0), .ref (ad 7 0), .ref (ad 8 0)])) := p_ad_0_0
    refine pg_get S Y ok_X11 0 (by decide) kf11_13 (v := .ref (ad 1 0)) p_ad_0_0 rfl dX11_about_111 ?_
    obtain ⟨v_78421, v_78423, v_78425, v_78427, v_78429, p_ad_1_0, b_78422, b_78424, b_78426, b_78428, b_78430⟩ := opnC_1 (j := 0) I (by decide)
    have p_ad_1_0 : pt L f (ad 1 0) (.inr (10, [.ref (ad 40 0), .ref (ad 41 0), .ref (ad 42 0), .ref (ad 10 0), .ref (ad 43 0), .ref (ad 20 0), .ref (ad 20 1), .ref (ad 20 2), .ref (ad 20 3), .ref (ad 20 4), .int v_78421, .int v_78423, .int v_78425, .int v_78427, .int v_78429])) := p_ad_1_0
    refine pg_getN S Y ok_X10 7 (by decide) kf11_293 (v := .ref (ad 20 2)) p_ad_1_0 rfl dX11_about_114 ?_
    obtain ⟨v_78431, v_78433, p_ad_20_2, b_78432, b_78434⟩ := opnC_20 (j := 2) I (by decide)
    have p_ad_20_2 : pt L f (ad 20 2) (.inr (9, [.ref (ad 21 2), .int v_78431, .int v_78433])) := p_ad_20_2
    refine pg_getN S Y ok_X9 2 (by decide) kf11_350 (v := .int v_78433) p_ad_20_2 rfl dX11_about_117 ?_
    exact prI (post := fun r L1 f1 => SH (spC (NR 30 0 4) ((0, 6) : Int × Int) tc w q) nnC G ad L1 f1) S Y rfl (by decide) (by decide) hA1 I dX11_about_120
  · refine lv_fold (z := 7) h_78352 ?_
    refine lv_tableIn (off := 120) (tgt := 121) hx hb dX11_about_1 (by decide) (by decide) (by decide) (by decide) ?_
    refine lv_aload_n hx hb dX11_about_121 rfl (lv_at hl 0 rfl) ?_
    have p_ad_0_0 := opnC_0 (j := 0) I (by decide)
    have p_ad_0_0 : pt L f (ad 0 0) (.inr (11, [.ref (ad 1 0), .ref (ad 1 1), .ref (ad 2 0), .ref (ad 3 0), .ref (ad 4 0), .ref (ad 5 0), .ref (ad 6 0), .ref (ad 7 0), .ref (ad 8 0)])) := p_ad_0_0
    refine pg_get S Y ok_X11 0 (by decide) kf11_13 (v := .ref (ad 1 0)) p_ad_0_0 rfl dX11_about_122 ?_
    obtain ⟨v_78435, v_78437, v_78439, v_78441, v_78443, p_ad_1_0, b_78436, b_78438, b_78440, b_78442, b_78444⟩ := opnC_1 (j := 0) I (by decide)
    have p_ad_1_0 : pt L f (ad 1 0) (.inr (10, [.ref (ad 40 0), .ref (ad 41 0), .ref (ad 42 0), .ref (ad 10 0), .ref (ad 43 0), .ref (ad 20 0), .ref (ad 20 1), .ref (ad 20 2), .ref (ad 20 3), .ref (ad 20 4), .int v_78435, .int v_78437, .int v_78439, .int v_78441, .int v_78443])) := p_ad_1_0
    refine pg_getN S Y ok_X10 8 (by decide) kf11_313 (v := .ref (ad 20 3)) p_ad_1_0 rfl dX11_about_125 ?_
    obtain ⟨v_78445, v_78447, p_ad_20_3, b_78446, b_78448⟩ := opnC_20 (j := 3) I (by decide)
    have p_ad_20_3 : pt L f (ad 20 3) (.inr (9, [.ref (ad 21 3), .int v_78445, .int v_78447])) := p_ad_20_3
    refine pg_getN S Y ok_X9 2 (by decide) kf11_350 (v := .int v_78447) p_ad_20_3 rfl dX11_about_128 ?_
    exact prI (post := fun r L1 f1 => SH (spC (NR 30 0 4) ((0, 6) : Int × Int) tc w q) nnC G ad L1 f1) S Y rfl (by decide) (by decide) hA1 I dX11_about_131
  · refine lv_fold (z := 8) h_78352 ?_
    refine lv_tableIn (off := 131) (tgt := 132) hx hb dX11_about_1 (by decide) (by decide) (by decide) (by decide) ?_
    refine lv_aload_n hx hb dX11_about_132 rfl (lv_at hl 0 rfl) ?_
    have p_ad_0_0 := opnC_0 (j := 0) I (by decide)
    have p_ad_0_0 : pt L f (ad 0 0) (.inr (11, [.ref (ad 1 0), .ref (ad 1 1), .ref (ad 2 0), .ref (ad 3 0), .ref (ad 4 0), .ref (ad 5 0), .ref (ad 6 0), .ref (ad 7 0), .ref (ad 8 0)])) := p_ad_0_0
    refine pg_get S Y ok_X11 0 (by decide) kf11_13 (v := .ref (ad 1 0)) p_ad_0_0 rfl dX11_about_133 ?_
    obtain ⟨v_78449, v_78451, v_78453, v_78455, v_78457, p_ad_1_0, b_78450, b_78452, b_78454, b_78456, b_78458⟩ := opnC_1 (j := 0) I (by decide)
    have p_ad_1_0 : pt L f (ad 1 0) (.inr (10, [.ref (ad 40 0), .ref (ad 41 0), .ref (ad 42 0), .ref (ad 10 0), .ref (ad 43 0), .ref (ad 20 0), .ref (ad 20 1), .ref (ad 20 2), .ref (ad 20 3), .ref (ad 20 4), .int v_78449, .int v_78451, .int v_78453, .int v_78455, .int v_78457])) := p_ad_1_0
    refine pg_getN S Y ok_X10 9 (by decide) kf11_326 (v := .ref (ad 20 4)) p_ad_1_0 rfl dX11_about_136 ?_
    obtain ⟨v_78459, v_78461, p_ad_20_4, b_78460, b_78462⟩ := opnC_20 (j := 4) I (by decide)
    have p_ad_20_4 : pt L f (ad 20 4) (.inr (9, [.ref (ad 21 4), .int v_78459, .int v_78461])) := p_ad_20_4
    refine pg_getN S Y ok_X9 2 (by decide) kf11_350 (v := .int v_78461) p_ad_20_4 rfl dX11_about_139 ?_
    exact prI (post := fun r L1 f1 => SH (spC (NR 30 0 4) ((0, 6) : Int × Int) tc w q) nnC G ad L1 f1) S Y rfl (by decide) (by decide) hA1 I dX11_about_142
  · refine lv_fold (z := 9) h_78352 ?_
    refine lv_tableIn (off := 142) (tgt := 143) hx hb dX11_about_1 (by decide) (by decide) (by decide) (by decide) ?_
    refine lv_aload_n hx hb dX11_about_143 rfl (lv_at hl 0 rfl) ?_
    have p_ad_0_0 := opnC_0 (j := 0) I (by decide)
    have p_ad_0_0 : pt L f (ad 0 0) (.inr (11, [.ref (ad 1 0), .ref (ad 1 1), .ref (ad 2 0), .ref (ad 3 0), .ref (ad 4 0), .ref (ad 5 0), .ref (ad 6 0), .ref (ad 7 0), .ref (ad 8 0)])) := p_ad_0_0
    refine pg_get S Y ok_X11 2 (by decide) kf11_25 (v := .ref (ad 2 0)) p_ad_0_0 rfl dX11_about_144 ?_
    refine cVp (As := []) (rest := []) S Y (x_X5_size (l := l) I hW hT hQ) cw_X5_size km11_91 (I.opo (k := 2) (j := 0) (by decide) rfl).choose_spec.1 ok_X5.1 rfl rfl ⟨Nat.le_of_ble_eq_true rfl, Nat.le_of_ble_eq_true rfl⟩ hl.1 rfl (Nat.le_of_ble_eq_true rfl) ⟨Nat.le_of_ble_eq_true rfl, Nat.le_of_ble_eq_true rfl⟩ dX11_about_147 (fun r_78463 H locs er_78463 Y => ?_)
    exact prI (post := fun r L1 f1 => SH (spC (NR 30 0 4) ((0, 6) : Int × Int) tc w q) nnC G ad L1 f1) S Y rfl (by decide) (by decide) hA1 I dX11_about_150
  · refine lv_tableOut (tgt := 151) hx hb dX11_about_1 h_78352 (by decide) ?_
    refine lv_bipush (v := (-2)) hx hb dX11_about_151 (by decide) ?_
    exact prI (post := fun r L1 f1 => SH (spC (NR 30 0 4) ((0, 6) : Int × Int) tc w q) nnC G ad L1 f1) S Y rfl (by decide) (by decide) hA1 I dX11_about_153
