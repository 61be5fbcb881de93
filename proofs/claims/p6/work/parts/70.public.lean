theorem dX11_one_0 : decode cX11_one 0 = .ok (.aload_n 0, 1) := by decide +kernel
theorem dX11_one_1 : decode cX11_one 1 = .ok (.getfield 13, 3) := by decide +kernel
theorem ok_X11 : clOK 11 RX11 TX11 9 tyX11 := ⟨rfl, fun w h => ⟨(show ∀ w ∈ u_ws RX11 TX11 9, w ∈ lw_tbl by decide +kernel) w h, (show ∀ w ∈ u_ws RX11 TX11 9, gw w = true by decide +kernel) w h⟩, tyX11_ok, nmX11⟩
theorem kf11_13 : inW (Cond.fieldLink RX11 13 "KneeOaths" "world" "LKneeOaths$World;") := ⟨List.mem_of_getElem? (i := 505) (by decide +kernel), by decide +kernel⟩
theorem dX11_one_4 : decode cX11_one 4 = .ok (.iload_n 1, 1) := by decide +kernel
theorem dX11_one_5 : decode cX11_one 5 = .ok (.iload_n 2, 1) := by decide +kernel
theorem dX11_one_6 : decode cX11_one 6 = .ok (.invokevirtual 79, 3) := by decide +kernel
theorem km11_79 : inW (Cond.methodLink RX11 79 yX10_welcome) := ⟨List.mem_of_getElem? (i := 537) (by decide +kernel), by decide +kernel⟩
theorem dX11_one_9 : decode cX11_one 9 = .ok (.ireturn, 1) := by decide +kernel
theorem dX11_feed_0 : decode cX11_feed 0 = .ok (.aload_n 0, 1) := by decide +kernel
theorem dX11_feed_1 : decode cX11_feed 1 = .ok (.getfield 25, 3) := by decide +kernel
theorem kf11_25 : inW (Cond.fieldLink RX11 25 "KneeOaths" "reader" "LKneeOaths$Reader;") := ⟨List.mem_of_getElem? (i := 507) (by decide +kernel), by decide +kernel⟩
theorem dX11_feed_4 : decode cX11_feed 4 = .ok (.bipush 20, 2) := by decide +kernel
theorem dX11_feed_6 : decode cX11_feed 6 = .ok (.invokevirtual 83, 3) := by decide +kernel
theorem cw_X5_hasRoomFor : CWv yX5_hasRoomFor cX5_hasRoomFor 2 (some .boolean) 1 := ⟨⟨⟨List.mem_of_getElem? (i := 130) (by decide +kernel), by decide +kernel⟩, ⟨List.mem_of_getElem? (i := 551) (by decide +kernel), by decide +kernel⟩, by decide +kernel⟩, ⟨List.mem_of_getElem? (i := 549) (by decide +kernel), by decide +kernel⟩, ⟨List.mem_of_getElem? (i := 550) (by decide +kernel), by decide +kernel⟩⟩
theorem km11_83 : inW (Cond.methodLink RX11 83 yX5_hasRoomFor) := ⟨List.mem_of_getElem? (i := 548) (by decide +kernel), by decide +kernel⟩
theorem dX11_feed_9 : decode cX11_feed 9 = .ok (.ifCond .ne 5, 3) := by decide +kernel
theorem dX11_feed_14 : decode cX11_feed 14 = .ok (.aload_n 0, 1) := by decide +kernel
theorem dX11_feed_15 : decode cX11_feed 15 = .ok (.getfield 25, 3) := by decide +kernel
theorem dX11_feed_18 : decode cX11_feed 18 = .ok (.iload_n 1, 1) := by decide +kernel
theorem dX11_feed_19 : decode cX11_feed 19 = .ok (.invokevirtual 87, 3) := by decide +kernel
theorem cw_X5_append : CWv yX5_append cX5_append 3 none 1 := ⟨⟨⟨List.mem_of_getElem? (i := 130) (by decide +kernel), by decide +kernel⟩, ⟨List.mem_of_getElem? (i := 555) (by decide +kernel), by decide +kernel⟩, by decide +kernel⟩, ⟨List.mem_of_getElem? (i := 553) (by decide +kernel), by decide +kernel⟩, ⟨List.mem_of_getElem? (i := 554) (by decide +kernel), by decide +kernel⟩⟩
theorem km11_87 : inW (Cond.methodLink RX11 87 yX5_append) := ⟨List.mem_of_getElem? (i := 552) (by decide +kernel), by decide +kernel⟩
theorem dX11_feed_22 : decode cX11_feed 22 = .ok (.aload_n 0, 1) := by decide +kernel
theorem dX11_feed_23 : decode cX11_feed 23 = .ok (.getfield 25, 3) := by decide +kernel
theorem dX11_feed_26 : decode cX11_feed 26 = .ok (.iload_n 2, 1) := by decide +kernel
theorem dX11_feed_27 : decode cX11_feed 27 = .ok (.invokevirtual 87, 3) := by decide +kernel
theorem dX11_feed_30 : decode cX11_feed 30 = .ok (.aload_n 0, 1) := by decide +kernel
theorem dX11_feed_31 : decode cX11_feed 31 = .ok (.getfield 25, 3) := by decide +kernel
theorem dX11_feed_34 : decode cX11_feed 34 = .ok (.iload_n 3, 1) := by decide +kernel
theorem dX11_feed_35 : decode cX11_feed 35 = .ok (.invokevirtual 87, 3) := by decide +kernel
theorem dX11_feed_38 : decode cX11_feed 38 = .ok (.aload_n 0, 1) := by decide +kernel
theorem dX11_feed_39 : decode cX11_feed 39 = .ok (.getfield 25, 3) := by decide +kernel
theorem dX11_feed_42 : decode cX11_feed 42 = .ok (.iload 4, 2) := by decide +kernel
theorem dX11_feed_44 : decode cX11_feed 44 = .ok (.invokevirtual 87, 3) := by decide +kernel
theorem dX11_feed_47 : decode cX11_feed 47 = .ok (.aload_n 0, 1) := by decide +kernel
theorem dX11_feed_48 : decode cX11_feed 48 = .ok (.getfield 25, 3) := by decide +kernel
theorem dX11_feed_51 : decode cX11_feed 51 = .ok (.iload 5, 2) := by decide +kernel
theorem dX11_feed_53 : decode cX11_feed 53 = .ok (.invokevirtual 87, 3) := by decide +kernel
theorem dX11_feed_56 : decode cX11_feed 56 = .ok (.aload_n 0, 1) := by decide +kernel
theorem dX11_feed_57 : decode cX11_feed 57 = .ok (.getfield 25, 3) := by decide +kernel
theorem dX11_feed_60 : decode cX11_feed 60 = .ok (.invokevirtual 91, 3) := by decide +kernel
theorem cw_X5_size : CWv yX5_size cX5_size 1 (some .int) 0 := ⟨⟨⟨List.mem_of_getElem? (i := 130) (by decide +kernel), by decide +kernel⟩, ⟨List.mem_of_getElem? (i := 559) (by decide +kernel), by decide +kernel⟩, by decide +kernel⟩, ⟨List.mem_of_getElem? (i := 557) (by decide +kernel), by decide +kernel⟩, ⟨List.mem_of_getElem? (i := 558) (by decide +kernel), by decide +kernel⟩⟩
theorem km11_91 : inW (Cond.methodLink RX11 91 yX5_size) := ⟨List.mem_of_getElem? (i := 556) (by decide +kernel), by decide +kernel⟩
theorem dX11_feed_63 : decode cX11_feed 63 = .ok (.ireturn, 1) := by decide +kernel
theorem dX11_feed_12 : decode cX11_feed 12 = .ok (.iconst (-1), 1) := by decide +kernel
theorem dX11_feed_13 : decode cX11_feed 13 = .ok (.ireturn, 1) := by decide +kernel
theorem dX11_end_0 : decode cX11_end 0 = .ok (.aload_n 0, 1) := by decide +kernel
theorem dX11_end_1 : decode cX11_end 1 = .ok (.getfield 25, 3) := by decide +kernel
theorem dX11_end_4 : decode cX11_end 4 = .ok (.iload_n 1, 1) := by decide +kernel
theorem dX11_end_5 : decode cX11_end 5 = .ok (.invokevirtual 95, 3) := by decide +kernel
theorem cw_X5_cutTo : CWv yX5_cutTo cX5_cutTo 2 (some .boolean) 1 := ⟨⟨⟨List.mem_of_getElem? (i := 130) (by decide +kernel), by decide +kernel⟩, ⟨List.mem_of_getElem? (i := 567) (by decide +kernel), by decide +kernel⟩, by decide +kernel⟩, ⟨List.mem_of_getElem? (i := 565) (by decide +kernel), by decide +kernel⟩, ⟨List.mem_of_getElem? (i := 566) (by decide +kernel), by decide +kernel⟩⟩
theorem km11_95 : inW (Cond.methodLink RX11 95 yX5_cutTo) := ⟨List.mem_of_getElem? (i := 564) (by decide +kernel), by decide +kernel⟩
theorem dX11_end_8 : decode cX11_end 8 = .ok (.ifCond .eq 7, 3) := by decide +kernel
theorem dX11_end_15 : decode cX11_end 15 = .ok (.iconst (-1), 1) := by decide +kernel
theorem dX11_end_16 : decode cX11_end 16 = .ok (.ireturn, 1) := by decide +kernel
theorem dX11_end_11 : decode cX11_end 11 = .ok (.iload_n 1, 1) := by decide +kernel
theorem dX11_end_12 : decode cX11_end 12 = .ok (.goto 4, 3) := by decide +kernel
theorem dX11_fault_0 : decode cX11_fault 0 = .ok (.iload_n 1, 1) := by decide +kernel
theorem dX11_fault_1 : decode cX11_fault 1 = .ok (.ifCond .ne 11, 3) := by decide +kernel
theorem dX11_fault_12 : decode cX11_fault 12 = .ok (.iload_n 1, 1) := by decide +kernel
theorem dX11_fault_13 : decode cX11_fault 13 = .ok (.iconst 1, 1) := by decide +kernel
theorem dX11_fault_14 : decode cX11_fault 14 = .ok (.if_icmp .ne 13, 3) := by decide +kernel
theorem dX11_fault_27 : decode cX11_fault 27 = .ok (.iconst (-1), 1) := by decide +kernel
theorem dX11_fault_28 : decode cX11_fault 28 = .ok (.ireturn, 1) := by decide +kernel
theorem dX11_fault_17 : decode cX11_fault 17 = .ok (.aload_n 0, 1) := by decide +kernel
theorem dX11_fault_18 : decode cX11_fault 18 = .ok (.getfield 25, 3) := by decide +kernel
theorem dX11_fault_21 : decode cX11_fault 21 = .ok (.invokevirtual 112, 3) := by decide +kernel
theorem cw_X5_faultPlace : CWv yX5_faultPlace cX5_faultPlace 1 (some .int) 0 := ⟨⟨⟨List.mem_of_getElem? (i := 130) (by decide +kernel), by decide +kernel⟩, ⟨List.mem_of_getElem? (i := 855) (by decide +kernel), by decide +kernel⟩, by decide +kernel⟩, ⟨List.mem_of_getElem? (i := 853) (by decide +kernel), by decide +kernel⟩, ⟨List.mem_of_getElem? (i := 854) (by decide +kernel), by decide +kernel⟩⟩
theorem km11_112 : inW (Cond.methodLink RX11 112 yX5_faultPlace) := ⟨List.mem_of_getElem? (i := 852) (by decide +kernel), by decide +kernel⟩
theorem dX11_fault_24 : decode cX11_fault 24 = .ok (.goto 4, 3) := by decide +kernel
theorem dX11_fault_4 : decode cX11_fault 4 = .ok (.aload_n 0, 1) := by decide +kernel
theorem dX11_fault_5 : decode cX11_fault 5 = .ok (.getfield 25, 3) := by decide +kernel
theorem dX11_fault_8 : decode cX11_fault 8 = .ok (.invokevirtual 109, 3) := by decide +kernel
theorem cw_X5_faultKind : CWv yX5_faultKind cX5_faultKind 1 (some .int) 0 := ⟨⟨⟨List.mem_of_getElem? (i := 130) (by decide +kernel), by decide +kernel⟩, ⟨List.mem_of_getElem? (i := 851) (by decide +kernel), by decide +kernel⟩, by decide +kernel⟩, ⟨List.mem_of_getElem? (i := 849) (by decide +kernel), by decide +kernel⟩, ⟨List.mem_of_getElem? (i := 850) (by decide +kernel), by decide +kernel⟩⟩
theorem km11_109 : inW (Cond.methodLink RX11 109 yX5_faultKind) := ⟨List.mem_of_getElem? (i := 848) (by decide +kernel), by decide +kernel⟩
theorem dX11_fault_11 : decode cX11_fault 11 = .ok (.ireturn, 1) := by decide +kernel
theorem dX11_by_0 : decode cX11_by 0 = .ok (.aload_n 0, 1) := by decide +kernel
theorem dX11_by_1 : decode cX11_by 1 = .ok (.getfield 13, 3) := by decide +kernel
theorem dX11_by_4 : decode cX11_by 4 = .ok (.iload_n 1, 1) := by decide +kernel
theorem dX11_by_5 : decode cX11_by 5 = .ok (.invokevirtual 115, 3) := by decide +kernel
theorem cw_X10_putUnder : CWv yX10_putUnder cX10_putUnder 2 (some .boolean) 1 := ⟨⟨⟨List.mem_of_getElem? (i := 126) (by decide +kernel), by decide +kernel⟩, ⟨List.mem_of_getElem? (i := 863) (by decide +kernel), by decide +kernel⟩, by decide +kernel⟩, ⟨List.mem_of_getElem? (i := 861) (by decide +kernel), by decide +kernel⟩, ⟨List.mem_of_getElem? (i := 862) (by decide +kernel), by decide +kernel⟩⟩
theorem km11_115 : inW (Cond.methodLink RX11 115 yX10_putUnder) := ⟨List.mem_of_getElem? (i := 860) (by decide +kernel), by decide +kernel⟩
theorem dX11_by_8 : decode cX11_by 8 = .ok (.ireturn, 1) := by decide +kernel
theorem dX11_swear_0 : decode cX11_swear 0 = .ok (.aload_n 0, 1) := by decide +kernel
theorem dX11_swear_1 : decode cX11_swear 1 = .ok (.getfield 50, 3) := by decide +kernel
theorem kf11_50 : inW (Cond.fieldLink RX11 50 "KneeOaths" "deeds" "LKneeOaths$Deeds;") := ⟨List.mem_of_getElem? (i := 510) (by decide +kernel), by decide +kernel⟩
theorem dX11_swear_4 : decode cX11_swear 4 = .ok (.iload_n 1, 1) := by decide +kernel
theorem dX11_swear_5 : decode cX11_swear 5 = .ok (.iload_n 2, 1) := by decide +kernel
theorem dX11_swear_6 : decode cX11_swear 6 = .ok (.iload_n 3, 1) := by decide +kernel
theorem dX11_swear_7 : decode cX11_swear 7 = .ok (.iload 4, 2) := by decide +kernel
theorem dX11_swear_9 : decode cX11_swear 9 = .ok (.invokevirtual 118, 3) := by decide +kernel
theorem km11_118 : inW (Cond.methodLink RX11 118 yX1_swearIn) := ⟨List.mem_of_getElem? (i := 872) (by decide +kernel), by decide +kernel⟩
theorem dX11_swear_12 : decode cX11_swear 12 = .ok (.ireturn, 1) := by decide +kernel
theorem dX11_breaks_0 : decode cX11_breaks 0 = .ok (.aload_n 0, 1) := by decide +kernel
theorem dX11_breaks_1 : decode cX11_breaks 1 = .ok (.getfield 50, 3) := by decide +kernel
theorem dX11_breaks_4 : decode cX11_breaks 4 = .ok (.iload_n 1, 1) := by decide +kernel
theorem dX11_breaks_5 : decode cX11_breaks 5 = .ok (.invokevirtual 122, 3) := by decide +kernel
theorem km11_122 : inW (Cond.methodLink RX11 122 yX1_breakOath) := ⟨List.mem_of_getElem? (i := 908) (by decide +kernel), by decide +kernel⟩
theorem dX11_breaks_8 : decode cX11_breaks 8 = .ok (.ireturn, 1) := by decide +kernel
theorem dX11_release_0 : decode cX11_release 0 = .ok (.aload_n 0, 1) := by decide +kernel
theorem dX11_release_1 : decode cX11_release 1 = .ok (.getfield 50, 3) := by decide +kernel
theorem dX11_release_4 : decode cX11_release 4 = .ok (.iload_n 1, 1) := by decide +kernel
theorem dX11_release_5 : decode cX11_release 5 = .ok (.invokevirtual 125, 3) := by decide +kernel
theorem km11_125 : inW (Cond.methodLink RX11 125 yX1_releaseOath) := ⟨List.mem_of_getElem? (i := 921) (by decide +kernel), by decide +kernel⟩
theorem dX11_release_8 : decode cX11_release 8 = .ok (.ireturn, 1) := by decide +kernel
theorem dX11_kneel_0 : decode cX11_kneel 0 = .ok (.aload_n 0, 1) := by decide +kernel
theorem dX11_kneel_1 : decode cX11_kneel 1 = .ok (.getfield 50, 3) := by decide +kernel
theorem dX11_kneel_4 : decode cX11_kneel 4 = .ok (.iload_n 1, 1) := by decide +kernel
theorem dX11_kneel_5 : decode cX11_kneel 5 = .ok (.invokevirtual 128, 3) := by decide +kernel
theorem km11_128 : inW (Cond.methodLink RX11 128 yX1_kneelDown) := ⟨List.mem_of_getElem? (i := 938) (by decide +kernel), by decide +kernel⟩
theorem dX11_kneel_8 : decode cX11_kneel 8 = .ok (.ifCond .eq 17, 3) := by decide +kernel
theorem dX11_kneel_25 : decode cX11_kneel 25 = .ok (.iconst (-1), 1) := by decide +kernel
theorem dX11_kneel_26 : decode cX11_kneel 26 = .ok (.ireturn, 1) := by decide +kernel
theorem dX11_kneel_11 : decode cX11_kneel 11 = .ok (.aload_n 0, 1) := by decide +kernel
theorem dX11_kneel_12 : decode cX11_kneel 12 = .ok (.getfield 13, 3) := by decide +kernel
theorem dX11_kneel_15 : decode cX11_kneel 15 = .ok (.getfield 131, 3) := by decide +kernel
theorem kf11_131 : inW (Cond.fieldLinkNest RX11 131 "KneeOaths$World" "now" "LKneeOaths$Ledger;" "KneeOaths") := ⟨List.mem_of_getElem? (i := 271) (by decide +kernel), by decide +kernel⟩
theorem dX11_kneel_18 : decode cX11_kneel 18 = .ok (.iload_n 1, 1) := by decide +kernel
theorem dX11_kneel_19 : decode cX11_kneel 19 = .ok (.invokevirtual 135, 3) := by decide +kernel
theorem km11_135 : inW (Cond.methodLink RX11 135 yX4_marks) := ⟨List.mem_of_getElem? (i := 1018) (by decide +kernel), by decide +kernel⟩
theorem dX11_kneel_22 : decode cX11_kneel 22 = .ok (.goto 4, 3) := by decide +kernel
theorem dX11_skate_0 : decode cX11_skate 0 = .ok (.aload_n 0, 1) := by decide +kernel
theorem dX11_skate_1 : decode cX11_skate 1 = .ok (.getfield 50, 3) := by decide +kernel
theorem dX11_skate_4 : decode cX11_skate 4 = .ok (.iload_n 1, 1) := by decide +kernel
theorem dX11_skate_5 : decode cX11_skate 5 = .ok (.iload_n 2, 1) := by decide +kernel
theorem dX11_skate_6 : decode cX11_skate 6 = .ok (.invokevirtual 139, 3) := by decide +kernel
theorem km11_139 : inW (Cond.methodLink RX11 139 yX1_slide) := ⟨List.mem_of_getElem? (i := 1023) (by decide +kernel), by decide +kernel⟩
theorem dX11_skate_9 : decode cX11_skate 9 = .ok (.ifCond .eq 17, 3) := by decide +kernel
theorem dX11_skate_26 : decode cX11_skate 26 = .ok (.iconst (-1), 1) := by decide +kernel
theorem dX11_skate_27 : decode cX11_skate 27 = .ok (.ireturn, 1) := by decide +kernel
theorem dX11_skate_12 : decode cX11_skate 12 = .ok (.aload_n 0, 1) := by decide +kernel
theorem dX11_skate_13 : decode cX11_skate 13 = .ok (.getfield 13, 3) := by decide +kernel
theorem dX11_skate_16 : decode cX11_skate 16 = .ok (.getfield 131, 3) := by decide +kernel
theorem dX11_skate_19 : decode cX11_skate 19 = .ok (.iload_n 1, 1) := by decide +kernel
theorem dX11_skate_20 : decode cX11_skate 20 = .ok (.invokevirtual 135, 3) := by decide +kernel
theorem dX11_skate_23 : decode cX11_skate 23 = .ok (.goto 4, 3) := by decide +kernel
theorem dX11_strike_0 : decode cX11_strike 0 = .ok (.aload_n 0, 1) := by decide +kernel
theorem dX11_strike_1 : decode cX11_strike 1 = .ok (.getfield 50, 3) := by decide +kernel
theorem dX11_strike_4 : decode cX11_strike 4 = .ok (.iload_n 1, 1) := by decide +kernel
theorem dX11_strike_5 : decode cX11_strike 5 = .ok (.invokevirtual 143, 3) := by decide +kernel
theorem cw_X1_strikeOut : CWv yX1_strikeOut cX1_strikeOut 6 (some .int) 1 := ⟨⟨⟨List.mem_of_getElem? (i := 133) (by decide +kernel), by decide +kernel⟩, ⟨List.mem_of_getElem? (i := 1034) (by decide +kernel), by decide +kernel⟩, by decide +kernel⟩, ⟨List.mem_of_getElem? (i := 1032) (by decide +kernel), by decide +kernel⟩, ⟨List.mem_of_getElem? (i := 1033) (by decide +kernel), by decide +kernel⟩⟩
theorem km11_143 : inW (Cond.methodLink RX11 143 yX1_strikeOut) := ⟨List.mem_of_getElem? (i := 1031) (by decide +kernel), by decide +kernel⟩
theorem dX11_strike_8 : decode cX11_strike 8 = .ok (.ireturn, 1) := by decide +kernel
theorem dX11_day_0 : decode cX11_day 0 = .ok (.iload_n 1, 1) := by decide +kernel
theorem dX11_day_1 : decode cX11_day 1 = .ok (.iconst 1, 1) := by decide +kernel
theorem dX11_day_2 : decode cX11_day 2 = .ok (.bipush 60, 2) := by decide +kernel
theorem dX11_day_4 : decode cX11_day 4 = .ok (.invokestatic 146, 3) := by decide +kernel
theorem km11_146 : inW (Cond.methodLink RX11 146 yX11_within) := ⟨List.mem_of_getElem? (i := 1063) (by decide +kernel), by decide +kernel⟩
theorem dX11_day_7 : decode cX11_day 7 = .ok (.ifCond .eq 21, 3) := by decide +kernel
theorem dX11_day_28 : decode cX11_day 28 = .ok (.iconst (-1), 1) := by decide +kernel
theorem dX11_day_29 : decode cX11_day 29 = .ok (.ireturn, 1) := by decide +kernel
theorem dX11_day_10 : decode cX11_day 10 = .ok (.aload_n 0, 1) := by decide +kernel
theorem dX11_day_11 : decode cX11_day 11 = .ok (.getfield 13, 3) := by decide +kernel
theorem dX11_day_14 : decode cX11_day 14 = .ok (.getfield 131, 3) := by decide +kernel
theorem dX11_day_17 : decode cX11_day 17 = .ok (.getfield 150, 3) := by decide +kernel
theorem kf11_150 : inW (Cond.fieldLinkNest RX11 150 "KneeOaths$Ledger" "date" "I" "KneeOaths") := ⟨List.mem_of_getElem? (i := 173) (by decide +kernel), by decide +kernel⟩
theorem dX11_day_20 : decode cX11_day 20 = .ok (.iload_n 1, 1) := by decide +kernel
theorem dX11_day_21 : decode cX11_day 21 = .ok (.iadd, 1) := by decide +kernel
theorem dX11_day_22 : decode cX11_day 22 = .ok (.sipush 9999, 3) := by decide +kernel
theorem dX11_day_25 : decode cX11_day 25 = .ok (.if_icmp .le 5, 3) := by decide +kernel
theorem dX11_day_30 : decode cX11_day 30 = .ok (.iconst 0, 1) := by decide +kernel
theorem dX11_day_31 : decode cX11_day 31 = .ok (.istore_n 2, 1) := by decide +kernel
theorem dX11_day_32 : decode cX11_day 32 = .ok (.iload_n 2, 1) := by decide +kernel
theorem dX11_day_33 : decode cX11_day 33 = .ok (.iload_n 1, 1) := by decide +kernel
theorem dX11_day_34 : decode cX11_day 34 = .ok (.if_icmp .ge 17, 3) := by decide +kernel
theorem dX11_day_51 : decode cX11_day 51 = .ok (.aload_n 0, 1) := by decide +kernel
theorem dX11_day_52 : decode cX11_day 52 = .ok (.getfield 13, 3) := by decide +kernel
theorem dX11_day_55 : decode cX11_day 55 = .ok (.getfield 131, 3) := by decide +kernel
theorem dX11_day_58 : decode cX11_day 58 = .ok (.getfield 158, 3) := by decide +kernel
theorem kf11_158 : inW (Cond.fieldLinkNest RX11 158 "KneeOaths$Ledger" "rain" "I" "KneeOaths") := ⟨List.mem_of_getElem? (i := 178) (by decide +kernel), by decide +kernel⟩
theorem dX11_day_61 : decode cX11_day 61 = .ok (.ireturn, 1) := by decide +kernel
theorem dX11_day_37 : decode cX11_day 37 = .ok (.aload_n 0, 1) := by decide +kernel
theorem dX11_day_38 : decode cX11_day 38 = .ok (.getfield 50, 3) := by decide +kernel
theorem dX11_day_41 : decode cX11_day 41 = .ok (.invokevirtual 154, 3) := by decide +kernel
theorem km11_154 : inW (Cond.methodLink RX11 154 yX1_passDay) := ⟨List.mem_of_getElem? (i := 1064) (by decide +kernel), by decide +kernel⟩
theorem dX11_day_44 : decode cX11_day 44 = .ok (.pop, 1) := by decide +kernel
theorem dX11_day_45 : decode cX11_day 45 = .ok (.iinc 2 1, 3) := by decide +kernel
theorem dX11_day_48 : decode cX11_day 48 = .ok (.goto (-16), 3) := by decide +kernel
theorem dX11_played_0 : decode cX11_played 0 = .ok (.aload_n 0, 1) := by decide +kernel
theorem dX11_played_1 : decode cX11_played 1 = .ok (.getfield 13, 3) := by decide +kernel
theorem dX11_played_4 : decode cX11_played 4 = .ok (.iload_n 1, 1) := by decide +kernel
theorem dX11_played_5 : decode cX11_played 5 = .ok (.invokevirtual 161, 3) := by decide +kernel
theorem km11_161 : inW (Cond.methodLink RX11 161 yX10_script) := ⟨List.mem_of_getElem? (i := 1097) (by decide +kernel), by decide +kernel⟩
theorem dX11_played_8 : decode cX11_played 8 = .ok (.astore_n 2, 1) := by decide +kernel
theorem dX11_played_9 : decode cX11_played 9 = .ok (.aload_n 2, 1) := by decide +kernel
theorem dX11_played_10 : decode cX11_played 10 = .ok (.ifnonnull 6, 3) := by decide +kernel
theorem dX11_played_13 : decode cX11_played 13 = .ok (.bipush (-2), 2) := by decide +kernel
theorem dX11_played_15 : decode cX11_played 15 = .ok (.ireturn, 1) := by decide +kernel
theorem dX11_played_16 : decode cX11_played 16 = .ok (.iconst 0, 1) := by decide +kernel
theorem dX11_played_17 : decode cX11_played 17 = .ok (.istore_n 3, 1) := by decide +kernel
theorem dX11_played_18 : decode cX11_played 18 = .ok (.iload_n 3, 1) := by decide +kernel
theorem dX11_played_19 : decode cX11_played 19 = .ok (.aload_n 2, 1) := by decide +kernel
theorem dX11_played_20 : decode cX11_played 20 = .ok (.getfield 165, 3) := by decide +kernel
theorem kf11_165 : inW (Cond.fieldLinkNest RX11 165 "KneeOaths$Script" "clauseCount" "I" "KneeOaths") := ⟨List.mem_of_getElem? (i := 245) (by decide +kernel), by decide +kernel⟩
theorem dX11_played_23 : decode cX11_played 23 = .ok (.if_icmp .ge 23, 3) := by decide +kernel
theorem dX11_played_46 : decode cX11_played 46 = .ok (.iconst (-1), 1) := by decide +kernel
theorem dX11_played_47 : decode cX11_played 47 = .ok (.ireturn, 1) := by decide +kernel
theorem dX11_played_26 : decode cX11_played 26 = .ok (.aload_n 0, 1) := by decide +kernel
theorem dX11_played_27 : decode cX11_played 27 = .ok (.getfield 50, 3) := by decide +kernel
theorem dX11_played_30 : decode cX11_played 30 = .ok (.aload_n 2, 1) := by decide +kernel
theorem dX11_played_31 : decode cX11_played 31 = .ok (.iload_n 3, 1) := by decide +kernel
theorem dX11_played_32 : decode cX11_played 32 = .ok (.invokevirtual 170, 3) := by decide +kernel
theorem cw_X1_perform : CWv yX1_perform cX1_perform 6 (some .boolean) 2 := ⟨⟨⟨List.mem_of_getElem? (i := 133) (by decide +kernel), by decide +kernel⟩, ⟨List.mem_of_getElem? (i := 1101) (by decide +kernel), by decide +kernel⟩, by decide +kernel⟩, ⟨List.mem_of_getElem? (i := 1099) (by decide +kernel), by decide +kernel⟩, ⟨List.mem_of_getElem? (i := 1100) (by decide +kernel), by decide +kernel⟩⟩
theorem km11_170 : inW (Cond.methodLink RX11 170 yX1_perform) := ⟨List.mem_of_getElem? (i := 1098) (by decide +kernel), by decide +kernel⟩
theorem dX11_played_35 : decode cX11_played 35 = .ok (.ifCond .ne 5, 3) := by decide +kernel
theorem dX11_played_40 : decode cX11_played 40 = .ok (.iinc 3 1, 3) := by decide +kernel
theorem dX11_played_43 : decode cX11_played 43 = .ok (.goto (-25), 3) := by decide +kernel
theorem dX11_played_38 : decode cX11_played 38 = .ok (.iload_n 3, 1) := by decide +kernel
theorem dX11_played_39 : decode cX11_played 39 = .ok (.ireturn, 1) := by decide +kernel
theorem dX11_years_0 : decode cX11_years 0 = .ok (.iload_n 1, 1) := by decide +kernel
theorem dX11_years_1 : decode cX11_years 1 = .ok (.iconst 0, 1) := by decide +kernel
theorem dX11_years_2 : decode cX11_years 2 = .ok (.sipush 9999, 3) := by decide +kernel
theorem dX11_years_5 : decode cX11_years 5 = .ok (.invokestatic 146, 3) := by decide +kernel
theorem dX11_years_8 : decode cX11_years 8 = .ok (.ifCond .eq 23, 3) := by decide +kernel
theorem dX11_years_31 : decode cX11_years 31 = .ok (.iconst (-1), 1) := by decide +kernel
theorem dX11_years_32 : decode cX11_years 32 = .ok (.ireturn, 1) := by decide +kernel
theorem dX11_years_11 : decode cX11_years 11 = .ok (.iload_n 2, 1) := by decide +kernel
theorem dX11_years_12 : decode cX11_years 12 = .ok (.iconst 1, 1) := by decide +kernel
theorem dX11_years_13 : decode cX11_years 13 = .ok (.bipush 40, 2) := by decide +kernel
theorem dX11_years_15 : decode cX11_years 15 = .ok (.invokestatic 146, 3) := by decide +kernel
theorem dX11_years_18 : decode cX11_years 18 = .ok (.ifCond .eq 13, 3) := by decide +kernel
theorem dX11_years_21 : decode cX11_years 21 = .ok (.aload_n 0, 1) := by decide +kernel
theorem dX11_years_22 : decode cX11_years 22 = .ok (.getfield 13, 3) := by decide +kernel
theorem dX11_years_25 : decode cX11_years 25 = .ok (.getfield 174, 3) := by decide +kernel
theorem kf11_174 : inW (Cond.fieldLinkNest RX11 174 "KneeOaths$World" "people" "I" "KneeOaths") := ⟨List.mem_of_getElem? (i := 292) (by decide +kernel), by decide +kernel⟩
theorem dX11_years_28 : decode cX11_years 28 = .ok (.ifCond .ne 5, 3) := by decide +kernel
theorem dX11_years_33 : decode cX11_years 33 = .ok (.aload_n 0, 1) := by decide +kernel
theorem dX11_years_34 : decode cX11_years 34 = .ok (.getfield 50, 3) := by decide +kernel
theorem dX11_years_37 : decode cX11_years 37 = .ok (.iload_n 1, 1) := by decide +kernel
theorem dX11_years_38 : decode cX11_years 38 = .ok (.invokevirtual 177, 3) := by decide +kernel
theorem cw_X1_beginYears : CWv yX1_beginYears cX1_beginYears 2 none 1 := ⟨⟨⟨List.mem_of_getElem? (i := 133) (by decide +kernel), by decide +kernel⟩, ⟨List.mem_of_getElem? (i := 1120) (by decide +kernel), by decide +kernel⟩, by decide +kernel⟩, ⟨List.mem_of_getElem? (i := 1118) (by decide +kernel), by decide +kernel⟩, ⟨List.mem_of_getElem? (i := 1119) (by decide +kernel), by decide +kernel⟩⟩
theorem km11_177 : inW (Cond.methodLink RX11 177 yX1_beginYears) := ⟨List.mem_of_getElem? (i := 1117) (by decide +kernel), by decide +kernel⟩
theorem dX11_years_41 : decode cX11_years 41 = .ok (.iconst 0, 1) := by decide +kernel
theorem dX11_years_42 : decode cX11_years 42 = .ok (.istore_n 3, 1) := by decide +kernel
theorem dX11_years_43 : decode cX11_years 43 = .ok (.iload_n 3, 1) := by decide +kernel
theorem dX11_years_44 : decode cX11_years 44 = .ok (.iload_n 2, 1) := by decide +kernel
theorem dX11_years_45 : decode cX11_years 45 = .ok (.if_icmp .ge 16, 3) := by decide +kernel
theorem dX11_years_61 : decode cX11_years 61 = .ok (.aload_n 0, 1) := by decide +kernel
theorem dX11_years_62 : decode cX11_years 62 = .ok (.getfield 50, 3) := by decide +kernel
theorem dX11_years_65 : decode cX11_years 65 = .ok (.invokevirtual 183, 3) := by decide +kernel
theorem cw_X1_endYears : CWv yX1_endYears cX1_endYears 1 none 0 := ⟨⟨⟨List.mem_of_getElem? (i := 133) (by decide +kernel), by decide +kernel⟩, ⟨List.mem_of_getElem? (i := 1129) (by decide +kernel), by decide +kernel⟩, by decide +kernel⟩, ⟨List.mem_of_getElem? (i := 1127) (by decide +kernel), by decide +kernel⟩, ⟨List.mem_of_getElem? (i := 1128) (by decide +kernel), by decide +kernel⟩⟩
theorem km11_183 : inW (Cond.methodLink RX11 183 yX1_endYears) := ⟨List.mem_of_getElem? (i := 1126) (by decide +kernel), by decide +kernel⟩
theorem dX11_years_68 : decode cX11_years 68 = .ok (.aload_n 0, 1) := by decide +kernel
theorem dX11_years_69 : decode cX11_years 69 = .ok (.getfield 13, 3) := by decide +kernel
theorem dX11_years_72 : decode cX11_years 72 = .ok (.getfield 131, 3) := by decide +kernel
theorem dX11_years_75 : decode cX11_years 75 = .ok (.getfield 150, 3) := by decide +kernel
theorem dX11_years_78 : decode cX11_years 78 = .ok (.ireturn, 1) := by decide +kernel
theorem dX11_years_48 : decode cX11_years 48 = .ok (.aload_n 0, 1) := by decide +kernel
theorem dX11_years_49 : decode cX11_years 49 = .ok (.getfield 50, 3) := by decide +kernel
theorem dX11_years_52 : decode cX11_years 52 = .ok (.invokevirtual 180, 3) := by decide +kernel
theorem cw_X1_liveOn : CWv yX1_liveOn cX1_liveOn 6 none 0 := ⟨⟨⟨List.mem_of_getElem? (i := 133) (by decide +kernel), by decide +kernel⟩, ⟨List.mem_of_getElem? (i := 1124) (by decide +kernel), by decide +kernel⟩, by decide +kernel⟩, ⟨List.mem_of_getElem? (i := 1122) (by decide +kernel), by decide +kernel⟩, ⟨List.mem_of_getElem? (i := 1123) (by decide +kernel), by decide +kernel⟩⟩
theorem km11_180 : inW (Cond.methodLink RX11 180 yX1_liveOn) := ⟨List.mem_of_getElem? (i := 1121) (by decide +kernel), by decide +kernel⟩
theorem dX11_years_55 : decode cX11_years 55 = .ok (.iinc 3 1, 3) := by decide +kernel
theorem dX11_years_58 : decode cX11_years 58 = .ok (.goto (-15), 3) := by decide +kernel
theorem dX11_undo_0 : decode cX11_undo 0 = .ok (.aload_n 0, 1) := by decide +kernel
theorem dX11_undo_1 : decode cX11_undo 1 = .ok (.getfield 13, 3) := by decide +kernel
theorem dX11_undo_4 : decode cX11_undo 4 = .ok (.invokevirtual 186, 3) := by decide +kernel
theorem cw_X10_takeBack : CWv yX10_takeBack cX10_takeBack 1 (some .boolean) 0 := ⟨⟨⟨List.mem_of_getElem? (i := 126) (by decide +kernel), by decide +kernel⟩, ⟨List.mem_of_getElem? (i := 1137) (by decide +kernel), by decide +kernel⟩, by decide +kernel⟩, ⟨List.mem_of_getElem? (i := 1135) (by decide +kernel), by decide +kernel⟩, ⟨List.mem_of_getElem? (i := 1136) (by decide +kernel), by decide +kernel⟩⟩
theorem km11_186 : inW (Cond.methodLink RX11 186 yX10_takeBack) := ⟨List.mem_of_getElem? (i := 1134) (by decide +kernel), by decide +kernel⟩
theorem dX11_undo_7 : decode cX11_undo 7 = .ok (.ifCond .eq 13, 3) := by decide +kernel
theorem dX11_undo_20 : decode cX11_undo 20 = .ok (.iconst (-1), 1) := by decide +kernel
theorem dX11_undo_21 : decode cX11_undo 21 = .ok (.ireturn, 1) := by decide +kernel
theorem dX11_undo_10 : decode cX11_undo 10 = .ok (.aload_n 0, 1) := by decide +kernel
theorem dX11_undo_11 : decode cX11_undo 11 = .ok (.getfield 13, 3) := by decide +kernel
theorem dX11_undo_14 : decode cX11_undo 14 = .ok (.getfield 189, 3) := by decide +kernel
theorem kf11_189 : inW (Cond.fieldLinkNest RX11 189 "KneeOaths$World" "steps" "I" "KneeOaths") := ⟨List.mem_of_getElem? (i := 301) (by decide +kernel), by decide +kernel⟩
theorem dX11_undo_17 : decode cX11_undo 17 = .ok (.goto 4, 3) := by decide +kernel
theorem dX11_of_0 : decode cX11_of 0 = .ok (.aload_n 0, 1) := by decide +kernel
theorem dX11_of_1 : decode cX11_of 1 = .ok (.getfield 13, 3) := by decide +kernel
theorem dX11_of_4 : decode cX11_of 4 = .ok (.iload_n 1, 1) := by decide +kernel
theorem dX11_of_5 : decode cX11_of 5 = .ok (.invokevirtual 192, 3) := by decide +kernel
theorem km11_192 : inW (Cond.methodLink RX11 192 yX10_has) := ⟨List.mem_of_getElem? (i := 1142) (by decide +kernel), by decide +kernel⟩
theorem dX11_of_8 : decode cX11_of 8 = .ok (.ifCond .ne 7, 3) := by decide +kernel
theorem dX11_of_15 : decode cX11_of 15 = .ok (.iload_n 2, 1) := by decide +kernel
theorem dX11_of_16 : decode cX11_of 16 = .ok (.tableswitch 111 0 5 #[40, 49, 58, 70, 86, 102], 40) := by decide +kernel
theorem sw_0_5 (x : Int32) : x = 0 ∨ x = 1 ∨ x = 2 ∨ x = 3 ∨ x = 4 ∨ x = 5 ∨ (x.toInt < 0 ∨ 5 < x.toInt) := by
  have key : ∀ k : Int32, x.toInt = k.toInt → x = k := fun k h => Int32.toInt_inj.mp h
  by_cases h1 : x.toInt < 0
  · simp [h1]
  by_cases h2 : 5 < x.toInt
  · simp [h2]
  have h3 : x.toInt = 0 ∨ x.toInt = 1 ∨ x.toInt = 2 ∨ x.toInt = 3 ∨ x.toInt = 4 ∨ x.toInt = 5 := by omega
  rcases h3 with h | h | h | h | h | h
  · rw [key 0 (h.trans (by decide))]; decide
  · rw [key 1 (h.trans (by decide))]; decide
  · rw [key 2 (h.trans (by decide))]; decide
  · rw [key 3 (h.trans (by decide))]; decide
  · rw [key 4 (h.trans (by decide))]; decide
  · rw [key 5 (h.trans (by decide))]; decide
theorem dX11_of_56 : decode cX11_of 56 = .ok (.aload_n 0, 1) := by decide +kernel
theorem dX11_of_57 : decode cX11_of 57 = .ok (.getfield 13, 3) := by decide +kernel
theorem dX11_of_60 : decode cX11_of 60 = .ok (.iload_n 1, 1) := by decide +kernel
theorem dX11_of_61 : decode cX11_of 61 = .ok (.invokevirtual 195, 3) := by decide +kernel
theorem km11_195 : inW (Cond.methodLink RX11 195 yX10_toughOf) := ⟨List.mem_of_getElem? (i := 1143) (by decide +kernel), by decide +kernel⟩
theorem dX11_of_64 : decode cX11_of 64 = .ok (.ireturn, 1) := by decide +kernel
theorem dX11_of_65 : decode cX11_of 65 = .ok (.aload_n 0, 1) := by decide +kernel
theorem dX11_of_66 : decode cX11_of 66 = .ok (.getfield 13, 3) := by decide +kernel
theorem dX11_of_69 : decode cX11_of 69 = .ok (.iload_n 1, 1) := by decide +kernel
theorem dX11_of_70 : decode cX11_of 70 = .ok (.invokevirtual 198, 3) := by decide +kernel
theorem km11_198 : inW (Cond.methodLink RX11 198 yX10_ageOf) := ⟨List.mem_of_getElem? (i := 1144) (by decide +kernel), by decide +kernel⟩
theorem dX11_of_73 : decode cX11_of 73 = .ok (.ireturn, 1) := by decide +kernel
theorem dX11_of_74 : decode cX11_of 74 = .ok (.aload_n 0, 1) := by decide +kernel
theorem dX11_of_75 : decode cX11_of 75 = .ok (.getfield 13, 3) := by decide +kernel
theorem dX11_of_78 : decode cX11_of 78 = .ok (.getfield 131, 3) := by decide +kernel
theorem dX11_of_81 : decode cX11_of 81 = .ok (.iload_n 1, 1) := by decide +kernel
theorem dX11_of_82 : decode cX11_of 82 = .ok (.invokevirtual 135, 3) := by decide +kernel
theorem dX11_of_85 : decode cX11_of 85 = .ok (.ireturn, 1) := by decide +kernel
theorem dX11_of_86 : decode cX11_of 86 = .ok (.aload_n 0, 1) := by decide +kernel
theorem dX11_of_87 : decode cX11_of 87 = .ok (.getfield 34, 3) := by decide +kernel
theorem kf11_34 : inW (Cond.fieldLink RX11 34 "KneeOaths" "judge" "LKneeOaths$Judge;") := ⟨List.mem_of_getElem? (i := 508) (by decide +kernel), by decide +kernel⟩
theorem dX11_of_90 : decode cX11_of 90 = .ok (.aload_n 0, 1) := by decide +kernel
theorem dX11_of_91 : decode cX11_of 91 = .ok (.getfield 13, 3) := by decide +kernel
theorem dX11_of_94 : decode cX11_of 94 = .ok (.getfield 131, 3) := by decide +kernel
theorem dX11_of_97 : decode cX11_of 97 = .ok (.iload_n 1, 1) := by decide +kernel
theorem dX11_of_98 : decode cX11_of 98 = .ok (.invokevirtual 201, 3) := by decide +kernel
theorem km11_201 : inW (Cond.methodLink RX11 201 yX3_acheOf) := ⟨List.mem_of_getElem? (i := 1145) (by decide +kernel), by decide +kernel⟩
theorem dX11_of_101 : decode cX11_of 101 = .ok (.ireturn, 1) := by decide +kernel
theorem dX11_of_102 : decode cX11_of 102 = .ok (.aload_n 0, 1) := by decide +kernel
theorem dX11_of_103 : decode cX11_of 103 = .ok (.getfield 34, 3) := by decide +kernel
theorem dX11_of_106 : decode cX11_of 106 = .ok (.aload_n 0, 1) := by decide +kernel
theorem dX11_of_107 : decode cX11_of 107 = .ok (.getfield 13, 3) := by decide +kernel
theorem dX11_of_110 : decode cX11_of 110 = .ok (.getfield 131, 3) := by decide +kernel
theorem dX11_of_113 : decode cX11_of 113 = .ok (.iload_n 1, 1) := by decide +kernel
theorem dX11_of_114 : decode cX11_of 114 = .ok (.invokevirtual 205, 3) := by decide +kernel
theorem cw_X3_riskOf : CWv yX3_riskOf cX3_riskOf 5 (some .int) 2 := ⟨⟨⟨List.mem_of_getElem? (i := 131) (by decide +kernel), by decide +kernel⟩, ⟨List.mem_of_getElem? (i := 1149) (by decide +kernel), by decide +kernel⟩, by decide +kernel⟩, ⟨List.mem_of_getElem? (i := 1147) (by decide +kernel), by decide +kernel⟩, ⟨List.mem_of_getElem? (i := 1148) (by decide +kernel), by decide +kernel⟩⟩
theorem km11_205 : inW (Cond.methodLink RX11 205 yX3_riskOf) := ⟨List.mem_of_getElem? (i := 1146) (by decide +kernel), by decide +kernel⟩
theorem dX11_of_117 : decode cX11_of 117 = .ok (.ireturn, 1) := by decide +kernel
theorem dX11_of_118 : decode cX11_of 118 = .ok (.aload_n 0, 1) := by decide +kernel
theorem dX11_of_119 : decode cX11_of 119 = .ok (.getfield 75, 3) := by decide +kernel
theorem kf11_75 : inW (Cond.fieldLink RX11 75 "KneeOaths" "choices" "LKneeOaths$Choices;") := ⟨List.mem_of_getElem? (i := 513) (by decide +kernel), by decide +kernel⟩
theorem dX11_of_122 : decode cX11_of 122 = .ok (.iload_n 1, 1) := by decide +kernel
theorem dX11_of_123 : decode cX11_of 123 = .ok (.invokevirtual 208, 3) := by decide +kernel
theorem cw_X0_net : CWv yX0_net cX0_net 5 (some .int) 1 := ⟨⟨⟨List.mem_of_getElem? (i := 136) (by decide +kernel), by decide +kernel⟩, ⟨List.mem_of_getElem? (i := 1153) (by decide +kernel), by decide +kernel⟩, by decide +kernel⟩, ⟨List.mem_of_getElem? (i := 1151) (by decide +kernel), by decide +kernel⟩, ⟨List.mem_of_getElem? (i := 1152) (by decide +kernel), by decide +kernel⟩⟩
theorem km11_208 : inW (Cond.methodLink RX11 208 yX0_net) := ⟨List.mem_of_getElem? (i := 1150) (by decide +kernel), by decide +kernel⟩
theorem dX11_of_126 : decode cX11_of 126 = .ok (.ireturn, 1) := by decide +kernel
theorem dX11_of_127 : decode cX11_of 127 = .ok (.sipush (-1000), 3) := by decide +kernel
theorem dX11_of_130 : decode cX11_of 130 = .ok (.ireturn, 1) := by decide +kernel
theorem dX11_of_11 : decode cX11_of 11 = .ok (.sipush (-1000), 3) := by decide +kernel
theorem dX11_of_14 : decode cX11_of 14 = .ok (.ireturn, 1) := by decide +kernel
theorem dX11_ofOath_0 : decode cX11_ofOath 0 = .ok (.aload_n 0, 1) := by decide +kernel
theorem dX11_ofOath_1 : decode cX11_ofOath 1 = .ok (.getfield 13, 3) := by decide +kernel
theorem dX11_ofOath_4 : decode cX11_ofOath 4 = .ok (.getfield 131, 3) := by decide +kernel
theorem dX11_ofOath_7 : decode cX11_ofOath 7 = .ok (.iload_n 1, 1) := by decide +kernel
theorem dX11_ofOath_8 : decode cX11_ofOath 8 = .ok (.invokevirtual 211, 3) := by decide +kernel
theorem km11_211 : inW (Cond.methodLink RX11 211 yX4_has) := ⟨List.mem_of_getElem? (i := 1159) (by decide +kernel), by decide +kernel⟩
theorem dX11_ofOath_11 : decode cX11_ofOath 11 = .ok (.ifCond .ne 5, 3) := by decide +kernel
theorem dX11_ofOath_16 : decode cX11_ofOath 16 = .ok (.iload_n 2, 1) := by decide +kernel
theorem dX11_ofOath_17 : decode cX11_ofOath 17 = .ok (.bipush 7, 2) := by decide +kernel
theorem dX11_ofOath_19 : decode cX11_ofOath 19 = .ok (.if_icmp .ne 26, 3) := by decide +kernel
theorem dX11_ofOath_45 : decode cX11_ofOath 45 = .ok (.iload_n 2, 1) := by decide +kernel
theorem dX11_ofOath_46 : decode cX11_ofOath 46 = .ok (.bipush 8, 2) := by decide +kernel
theorem dX11_ofOath_48 : decode cX11_ofOath 48 = .ok (.if_icmp .ne 21, 3) := by decide +kernel
theorem dX11_ofOath_69 : decode cX11_ofOath 69 = .ok (.aload_n 0, 1) := by decide +kernel
theorem dX11_ofOath_70 : decode cX11_ofOath 70 = .ok (.getfield 13, 3) := by decide +kernel
theorem dX11_ofOath_73 : decode cX11_ofOath 73 = .ok (.getfield 131, 3) := by decide +kernel
theorem dX11_ofOath_76 : decode cX11_ofOath 76 = .ok (.iload_n 1, 1) := by decide +kernel
theorem dX11_ofOath_77 : decode cX11_ofOath 77 = .ok (.iload_n 2, 1) := by decide +kernel
theorem dX11_ofOath_78 : decode cX11_ofOath 78 = .ok (.invokevirtual 222, 3) := by decide +kernel
theorem km11_222 : inW (Cond.methodLink RX11 222 yX4_get) := ⟨List.mem_of_getElem? (i := 1162) (by decide +kernel), by decide +kernel⟩
theorem dX11_ofOath_81 : decode cX11_ofOath 81 = .ok (.ireturn, 1) := by decide +kernel
theorem dX11_ofOath_51 : decode cX11_ofOath 51 = .ok (.aload_n 0, 1) := by decide +kernel
theorem dX11_ofOath_52 : decode cX11_ofOath 52 = .ok (.getfield 34, 3) := by decide +kernel
theorem dX11_ofOath_55 : decode cX11_ofOath 55 = .ok (.aload_n 0, 1) := by decide +kernel
theorem dX11_ofOath_56 : decode cX11_ofOath 56 = .ok (.getfield 13, 3) := by decide +kernel
theorem dX11_ofOath_59 : decode cX11_ofOath 59 = .ok (.getfield 131, 3) := by decide +kernel
theorem dX11_ofOath_62 : decode cX11_ofOath 62 = .ok (.iload_n 1, 1) := by decide +kernel
theorem dX11_ofOath_63 : decode cX11_ofOath 63 = .ok (.invokevirtual 219, 3) := by decide +kernel
theorem km11_219 : inW (Cond.methodLink RX11 219 yX3_painOf) := ⟨List.mem_of_getElem? (i := 1161) (by decide +kernel), by decide +kernel⟩
theorem dX11_ofOath_66 : decode cX11_ofOath 66 = .ok (.goto 15, 3) := by decide +kernel
theorem dX11_ofOath_22 : decode cX11_ofOath 22 = .ok (.aload_n 0, 1) := by decide +kernel
theorem dX11_ofOath_23 : decode cX11_ofOath 23 = .ok (.getfield 34, 3) := by decide +kernel
theorem dX11_ofOath_26 : decode cX11_ofOath 26 = .ok (.aload_n 0, 1) := by decide +kernel
theorem dX11_ofOath_27 : decode cX11_ofOath 27 = .ok (.getfield 13, 3) := by decide +kernel
theorem dX11_ofOath_30 : decode cX11_ofOath 30 = .ok (.getfield 212, 3) := by decide +kernel
theorem kf11_212 : inW (Cond.fieldLinkNest RX11 212 "KneeOaths$World" "ruling" "I" "KneeOaths") := ⟨List.mem_of_getElem? (i := 298) (by decide +kernel), by decide +kernel⟩
theorem dX11_ofOath_33 : decode cX11_ofOath 33 = .ok (.aload_n 0, 1) := by decide +kernel
theorem dX11_ofOath_34 : decode cX11_ofOath 34 = .ok (.getfield 13, 3) := by decide +kernel
theorem dX11_ofOath_37 : decode cX11_ofOath 37 = .ok (.getfield 131, 3) := by decide +kernel
theorem dX11_ofOath_40 : decode cX11_ofOath 40 = .ok (.iload_n 1, 1) := by decide +kernel
theorem dX11_ofOath_41 : decode cX11_ofOath 41 = .ok (.invokevirtual 215, 3) := by decide +kernel
theorem km11_215 : inW (Cond.methodLink RX11 215 yX3_wearOf) := ⟨List.mem_of_getElem? (i := 1160) (by decide +kernel), by decide +kernel⟩
theorem dX11_ofOath_44 : decode cX11_ofOath 44 = .ok (.ireturn, 1) := by decide +kernel
theorem dX11_ofOath_14 : decode cX11_ofOath 14 = .ok (.iconst (-1), 1) := by decide +kernel
theorem dX11_ofOath_15 : decode cX11_ofOath 15 = .ok (.ireturn, 1) := by decide +kernel
theorem dX11_is_0 : decode cX11_is 0 = .ok (.iload_n 1, 1) := by decide +kernel
theorem dX11_is_1 : decode cX11_is 1 = .ok (.tableswitch 75 0 3 #[31, 42, 53, 64], 31) := by decide +kernel
theorem sw_0_3 (x : Int32) : x = 0 ∨ x = 1 ∨ x = 2 ∨ x = 3 ∨ (x.toInt < 0 ∨ 3 < x.toInt) := by
  have key : ∀ k : Int32, x.toInt = k.toInt → x = k := fun k h => Int32.toInt_inj.mp h
  by_cases h1 : x.toInt < 0
  · simp [h1]
  by_cases h2 : 3 < x.toInt
  · simp [h2]
  have h3 : x.toInt = 0 ∨ x.toInt = 1 ∨ x.toInt = 2 ∨ x.toInt = 3 := by omega
  rcases h3 with h | h | h | h
  · rw [key 0 (h.trans (by decide))]; decide
  · rw [key 1 (h.trans (by decide))]; decide
  · rw [key 2 (h.trans (by decide))]; decide
  · rw [key 3 (h.trans (by decide))]; decide
theorem dX11_is_32 : decode cX11_is 32 = .ok (.aload_n 0, 1) := by decide +kernel
theorem dX11_is_33 : decode cX11_is 33 = .ok (.getfield 13, 3) := by decide +kernel
theorem dX11_is_36 : decode cX11_is 36 = .ok (.getfield 131, 3) := by decide +kernel
theorem dX11_is_39 : decode cX11_is 39 = .ok (.getfield 150, 3) := by decide +kernel
theorem dX11_is_42 : decode cX11_is 42 = .ok (.ireturn, 1) := by decide +kernel
theorem dX11_is_43 : decode cX11_is 43 = .ok (.aload_n 0, 1) := by decide +kernel
theorem dX11_is_44 : decode cX11_is 44 = .ok (.getfield 13, 3) := by decide +kernel
theorem dX11_is_47 : decode cX11_is 47 = .ok (.getfield 131, 3) := by decide +kernel
theorem dX11_is_50 : decode cX11_is 50 = .ok (.getfield 158, 3) := by decide +kernel
theorem dX11_is_53 : decode cX11_is 53 = .ok (.ireturn, 1) := by decide +kernel
theorem dX11_is_54 : decode cX11_is 54 = .ok (.aload_n 0, 1) := by decide +kernel
theorem dX11_is_55 : decode cX11_is 55 = .ok (.getfield 13, 3) := by decide +kernel
theorem dX11_is_58 : decode cX11_is 58 = .ok (.getfield 131, 3) := by decide +kernel
theorem dX11_is_61 : decode cX11_is 61 = .ok (.getfield 225, 3) := by decide +kernel
theorem kf11_225 : inW (Cond.fieldLinkNest RX11 225 "KneeOaths$Ledger" "x" "I" "KneeOaths") := ⟨List.mem_of_getElem? (i := 181) (by decide +kernel), by decide +kernel⟩
theorem dX11_is_64 : decode cX11_is 64 = .ok (.ireturn, 1) := by decide +kernel
theorem dX11_is_65 : decode cX11_is 65 = .ok (.aload_n 0, 1) := by decide +kernel
theorem dX11_is_66 : decode cX11_is 66 = .ok (.getfield 13, 3) := by decide +kernel
theorem dX11_is_69 : decode cX11_is 69 = .ok (.getfield 131, 3) := by decide +kernel
theorem dX11_is_72 : decode cX11_is 72 = .ok (.getfield 228, 3) := by decide +kernel
theorem kf11_228 : inW (Cond.fieldLinkNest RX11 228 "KneeOaths$Ledger" "oathCount" "I" "KneeOaths") := ⟨List.mem_of_getElem? (i := 167) (by decide +kernel), by decide +kernel⟩
theorem dX11_is_75 : decode cX11_is 75 = .ok (.ireturn, 1) := by decide +kernel
theorem dX11_is_76 : decode cX11_is 76 = .ok (.bipush (-2), 2) := by decide +kernel
theorem dX11_is_78 : decode cX11_is 78 = .ok (.ireturn, 1) := by decide +kernel
theorem dX11_book_0 : decode cX11_book 0 = .ok (.iload_n 1, 1) := by decide +kernel
theorem dX11_book_1 : decode cX11_book 1 = .ok (.iconst (-1), 1) := by decide +kernel
theorem dX11_book_2 : decode cX11_book 2 = .ok (.if_icmp .ne 16, 3) := by decide +kernel
theorem dX11_book_18 : decode cX11_book 18 = .ok (.aload_n 0, 1) := by decide +kernel
theorem dX11_book_19 : decode cX11_book 19 = .ok (.getfield 13, 3) := by decide +kernel
theorem dX11_book_22 : decode cX11_book 22 = .ok (.getfield 131, 3) := by decide +kernel
theorem dX11_book_25 : decode cX11_book 25 = .ok (.iload_n 1, 1) := by decide +kernel
theorem dX11_book_26 : decode cX11_book 26 = .ok (.iload_n 2, 1) := by decide +kernel
theorem dX11_book_27 : decode cX11_book 27 = .ok (.invokevirtual 234, 3) := by decide +kernel
theorem km11_234 : inW (Cond.methodLink RX11 234 yX4_written) := ⟨List.mem_of_getElem? (i := 1171) (by decide +kernel), by decide +kernel⟩
theorem dX11_book_30 : decode cX11_book 30 = .ok (.ireturn, 1) := by decide +kernel
theorem dX11_book_5 : decode cX11_book 5 = .ok (.aload_n 0, 1) := by decide +kernel
theorem dX11_book_6 : decode cX11_book 6 = .ok (.getfield 13, 3) := by decide +kernel
theorem dX11_book_9 : decode cX11_book 9 = .ok (.getfield 131, 3) := by decide +kernel
theorem dX11_book_12 : decode cX11_book 12 = .ok (.getfield 231, 3) := by decide +kernel
theorem kf11_231 : inW (Cond.fieldLinkNest RX11 231 "KneeOaths$Ledger" "acheCount" "I" "KneeOaths") := ⟨List.mem_of_getElem? (i := 169) (by decide +kernel), by decide +kernel⟩
theorem dX11_book_15 : decode cX11_book 15 = .ok (.goto 15, 3) := by decide +kernel
theorem dX11_foretold_0 : decode cX11_foretold 0 = .ok (.iload_n 1, 1) := by decide +kernel
theorem dX11_foretold_1 : decode cX11_foretold 1 = .ok (.iconst 1, 1) := by decide +kernel
theorem dX11_foretold_2 : decode cX11_foretold 2 = .ok (.bipush 60, 2) := by decide +kernel
theorem dX11_foretold_4 : decode cX11_foretold 4 = .ok (.invokestatic 146, 3) := by decide +kernel
theorem dX11_foretold_7 : decode cX11_foretold 7 = .ok (.ifCond .ne 5, 3) := by decide +kernel
theorem dX11_foretold_12 : decode cX11_foretold 12 = .ok (.iload_n 2, 1) := by decide +kernel
theorem dX11_foretold_13 : decode cX11_foretold 13 = .ok (.iconst (-1), 1) := by decide +kernel
theorem dX11_foretold_14 : decode cX11_foretold 14 = .ok (.if_icmp .ne 12, 3) := by decide +kernel
theorem dX11_foretold_26 : decode cX11_foretold 26 = .ok (.aload_n 0, 1) := by decide +kernel
theorem dX11_foretold_27 : decode cX11_foretold 27 = .ok (.getfield 13, 3) := by decide +kernel
theorem dX11_foretold_30 : decode cX11_foretold 30 = .ok (.iload_n 2, 1) := by decide +kernel
theorem dX11_foretold_31 : decode cX11_foretold 31 = .ok (.invokevirtual 192, 3) := by decide +kernel
theorem dX11_foretold_34 : decode cX11_foretold 34 = .ok (.ifCond .eq 15, 3) := by decide +kernel
theorem dX11_foretold_49 : decode cX11_foretold 49 = .ok (.iconst (-1), 1) := by decide +kernel
theorem dX11_foretold_50 : decode cX11_foretold 50 = .ok (.ireturn, 1) := by decide +kernel
theorem dX11_foretold_37 : decode cX11_foretold 37 = .ok (.aload_n 0, 1) := by decide +kernel
theorem dX11_foretold_38 : decode cX11_foretold 38 = .ok (.getfield 59, 3) := by decide +kernel
theorem kf11_59 : inW (Cond.fieldLink RX11 59 "KneeOaths" "foresight" "LKneeOaths$Foresight;") := ⟨List.mem_of_getElem? (i := 511) (by decide +kernel), by decide +kernel⟩
theorem dX11_foretold_41 : decode cX11_foretold 41 = .ok (.iload_n 1, 1) := by decide +kernel
theorem dX11_foretold_42 : decode cX11_foretold 42 = .ok (.iload_n 2, 1) := by decide +kernel
theorem dX11_foretold_43 : decode cX11_foretold 43 = .ok (.invokevirtual 240, 3) := by decide +kernel
theorem cw_X2_achesWithin : CWv yX2_achesWithin cX2_achesWithin 5 (some .int) 2 := ⟨⟨⟨List.mem_of_getElem? (i := 134) (by decide +kernel), by decide +kernel⟩, ⟨List.mem_of_getElem? (i := 1189) (by decide +kernel), by decide +kernel⟩, by decide +kernel⟩, ⟨List.mem_of_getElem? (i := 1187) (by decide +kernel), by decide +kernel⟩, ⟨List.mem_of_getElem? (i := 1188) (by decide +kernel), by decide +kernel⟩⟩
theorem km11_240 : inW (Cond.methodLink RX11 240 yX2_achesWithin) := ⟨List.mem_of_getElem? (i := 1186) (by decide +kernel), by decide +kernel⟩
theorem dX11_foretold_46 : decode cX11_foretold 46 = .ok (.goto 4, 3) := by decide +kernel
theorem dX11_foretold_17 : decode cX11_foretold 17 = .ok (.aload_n 0, 1) := by decide +kernel
theorem dX11_foretold_18 : decode cX11_foretold 18 = .ok (.getfield 59, 3) := by decide +kernel
theorem dX11_foretold_21 : decode cX11_foretold 21 = .ok (.iload_n 1, 1) := by decide +kernel
theorem dX11_foretold_22 : decode cX11_foretold 22 = .ok (.invokevirtual 237, 3) := by decide +kernel
theorem cw_X2_rainBehind : CWv yX2_rainBehind cX2_rainBehind 3 (some .int) 1 := ⟨⟨⟨List.mem_of_getElem? (i := 134) (by decide +kernel), by decide +kernel⟩, ⟨List.mem_of_getElem? (i := 1182) (by decide +kernel), by decide +kernel⟩, by decide +kernel⟩, ⟨List.mem_of_getElem? (i := 1180) (by decide +kernel), by decide +kernel⟩, ⟨List.mem_of_getElem? (i := 1181) (by decide +kernel), by decide +kernel⟩⟩
theorem km11_237 : inW (Cond.methodLink RX11 237 yX2_rainBehind) := ⟨List.mem_of_getElem? (i := 1179) (by decide +kernel), by decide +kernel⟩
theorem dX11_foretold_25 : decode cX11_foretold 25 = .ok (.ireturn, 1) := by decide +kernel
theorem dX11_foretold_10 : decode cX11_foretold 10 = .ok (.iconst (-1), 1) := by decide +kernel
theorem dX11_foretold_11 : decode cX11_foretold 11 = .ok (.ireturn, 1) := by decide +kernel
theorem dX11_firstAche_0 : decode cX11_firstAche 0 = .ok (.aload_n 0, 1) := by decide +kernel
theorem dX11_firstAche_1 : decode cX11_firstAche 1 = .ok (.getfield 13, 3) := by decide +kernel
theorem dX11_firstAche_4 : decode cX11_firstAche 4 = .ok (.iload_n 1, 1) := by decide +kernel
theorem dX11_firstAche_5 : decode cX11_firstAche 5 = .ok (.invokevirtual 192, 3) := by decide +kernel
theorem dX11_firstAche_8 : decode cX11_firstAche 8 = .ok (.ifCond .eq 14, 3) := by decide +kernel
theorem dX11_firstAche_22 : decode cX11_firstAche 22 = .ok (.iconst (-1), 1) := by decide +kernel
theorem dX11_firstAche_23 : decode cX11_firstAche 23 = .ok (.ireturn, 1) := by decide +kernel
theorem dX11_firstAche_11 : decode cX11_firstAche 11 = .ok (.aload_n 0, 1) := by decide +kernel
theorem dX11_firstAche_12 : decode cX11_firstAche 12 = .ok (.getfield 59, 3) := by decide +kernel
theorem dX11_firstAche_15 : decode cX11_firstAche 15 = .ok (.iload_n 1, 1) := by decide +kernel
theorem dX11_firstAche_16 : decode cX11_firstAche 16 = .ok (.invokevirtual 243, 3) := by decide +kernel
theorem cw_X2_daysToAche : CWv yX2_daysToAche cX2_daysToAche 3 (some .int) 1 := ⟨⟨⟨List.mem_of_getElem? (i := 134) (by decide +kernel), by decide +kernel⟩, ⟨List.mem_of_getElem? (i := 1198) (by decide +kernel), by decide +kernel⟩, by decide +kernel⟩, ⟨List.mem_of_getElem? (i := 1196) (by decide +kernel), by decide +kernel⟩, ⟨List.mem_of_getElem? (i := 1197) (by decide +kernel), by decide +kernel⟩⟩
theorem km11_243 : inW (Cond.methodLink RX11 243 yX2_daysToAche) := ⟨List.mem_of_getElem? (i := 1195) (by decide +kernel), by decide +kernel⟩
theorem dX11_firstAche_19 : decode cX11_firstAche 19 = .ok (.goto 4, 3) := by decide +kernel
theorem dX11_fades_0 : decode cX11_fades 0 = .ok (.aload_n 0, 1) := by decide +kernel
theorem dX11_fades_1 : decode cX11_fades 1 = .ok (.getfield 59, 3) := by decide +kernel
theorem dX11_fades_4 : decode cX11_fades 4 = .ok (.iload_n 1, 1) := by decide +kernel
theorem dX11_fades_5 : decode cX11_fades 5 = .ok (.invokevirtual 246, 3) := by decide +kernel
theorem cw_X2_daysToFade : CWv yX2_daysToFade cX2_daysToFade 4 (some .int) 1 := ⟨⟨⟨List.mem_of_getElem? (i := 134) (by decide +kernel), by decide +kernel⟩, ⟨List.mem_of_getElem? (i := 1206) (by decide +kernel), by decide +kernel⟩, by decide +kernel⟩, ⟨List.mem_of_getElem? (i := 1204) (by decide +kernel), by decide +kernel⟩, ⟨List.mem_of_getElem? (i := 1205) (by decide +kernel), by decide +kernel⟩⟩
theorem km11_246 : inW (Cond.methodLink RX11 246 yX2_daysToFade) := ⟨List.mem_of_getElem? (i := 1203) (by decide +kernel), by decide +kernel⟩
theorem dX11_fades_8 : decode cX11_fades 8 = .ok (.ireturn, 1) := by decide +kernel
theorem dX11_felt_0 : decode cX11_felt 0 = .ok (.iload_n 1, 1) := by decide +kernel
theorem dX11_felt_1 : decode cX11_felt 1 = .ok (.iconst (-1), 1) := by decide +kernel
theorem dX11_felt_2 : decode cX11_felt 2 = .ok (.if_icmp .ne 14, 3) := by decide +kernel
theorem dX11_felt_16 : decode cX11_felt 16 = .ok (.aload_n 0, 1) := by decide +kernel
theorem dX11_felt_17 : decode cX11_felt 17 = .ok (.getfield 13, 3) := by decide +kernel
theorem dX11_felt_20 : decode cX11_felt 20 = .ok (.iload_n 1, 1) := by decide +kernel
theorem dX11_felt_21 : decode cX11_felt 21 = .ok (.invokevirtual 192, 3) := by decide +kernel
theorem dX11_felt_24 : decode cX11_felt 24 = .ok (.ifCond .eq 24, 3) := by decide +kernel
theorem dX11_felt_48 : decode cX11_felt 48 = .ok (.bipush (-2), 2) := by decide +kernel
theorem dX11_felt_50 : decode cX11_felt 50 = .ok (.ireturn, 1) := by decide +kernel
theorem dX11_felt_27 : decode cX11_felt 27 = .ok (.iload_n 2, 1) := by decide +kernel
theorem dX11_felt_28 : decode cX11_felt 28 = .ok (.iconst 0, 1) := by decide +kernel
theorem dX11_felt_29 : decode cX11_felt 29 = .ok (.bipush 9, 2) := by decide +kernel
theorem dX11_felt_31 : decode cX11_felt 31 = .ok (.invokestatic 146, 3) := by decide +kernel
theorem dX11_felt_34 : decode cX11_felt 34 = .ok (.ifCond .eq 14, 3) := by decide +kernel
theorem dX11_felt_37 : decode cX11_felt 37 = .ok (.iload_n 3, 1) := by decide +kernel
theorem dX11_felt_38 : decode cX11_felt 38 = .ok (.iconst 0, 1) := by decide +kernel
theorem dX11_felt_39 : decode cX11_felt 39 = .ok (.sipush 999, 3) := by decide +kernel
theorem dX11_felt_42 : decode cX11_felt 42 = .ok (.invokestatic 146, 3) := by decide +kernel
theorem dX11_felt_45 : decode cX11_felt 45 = .ok (.ifCond .ne 6, 3) := by decide +kernel
theorem dX11_felt_51 : decode cX11_felt 51 = .ok (.aload_n 0, 1) := by decide +kernel
theorem dX11_felt_52 : decode cX11_felt 52 = .ok (.getfield 13, 3) := by decide +kernel
theorem dX11_felt_55 : decode cX11_felt 55 = .ok (.getfield 249, 3) := by decide +kernel
theorem kf11_249 : inW (Cond.fieldLinkNest RX11 249 "KneeOaths$World" "feelings" "LKneeOaths$Told;" "KneeOaths") := ⟨List.mem_of_getElem? (i := 275) (by decide +kernel), by decide +kernel⟩
theorem dX11_felt_58 : decode cX11_felt 58 = .ok (.iload_n 1, 1) := by decide +kernel
theorem dX11_felt_59 : decode cX11_felt 59 = .ok (.iload_n 2, 1) := by decide +kernel
theorem dX11_felt_60 : decode cX11_felt 60 = .ok (.iload_n 3, 1) := by decide +kernel
theorem dX11_felt_61 : decode cX11_felt 61 = .ok (.invokevirtual 258, 3) := by decide +kernel
theorem cw_X9_tell : CWv yX9_tell cX9_tell 5 (some .int) 3 := ⟨⟨⟨List.mem_of_getElem? (i := 127) (by decide +kernel), by decide +kernel⟩, ⟨List.mem_of_getElem? (i := 1222) (by decide +kernel), by decide +kernel⟩, by decide +kernel⟩, ⟨List.mem_of_getElem? (i := 1220) (by decide +kernel), by decide +kernel⟩, ⟨List.mem_of_getElem? (i := 1221) (by decide +kernel), by decide +kernel⟩⟩
theorem km11_258 : inW (Cond.methodLink RX11 258 yX9_tell) := ⟨List.mem_of_getElem? (i := 1219) (by decide +kernel), by decide +kernel⟩
theorem dX11_felt_64 : decode cX11_felt 64 = .ok (.ireturn, 1) := by decide +kernel
theorem dX11_felt_5 : decode cX11_felt 5 = .ok (.aload_n 0, 1) := by decide +kernel
theorem dX11_felt_6 : decode cX11_felt 6 = .ok (.getfield 13, 3) := by decide +kernel
theorem dX11_felt_9 : decode cX11_felt 9 = .ok (.getfield 249, 3) := by decide +kernel
theorem dX11_felt_12 : decode cX11_felt 12 = .ok (.invokevirtual 253, 3) := by decide +kernel
theorem cw_X9_forget : CWv yX9_forget cX9_forget 1 (some .int) 0 := ⟨⟨⟨List.mem_of_getElem? (i := 127) (by decide +kernel), by decide +kernel⟩, ⟨List.mem_of_getElem? (i := 1218) (by decide +kernel), by decide +kernel⟩, by decide +kernel⟩, ⟨List.mem_of_getElem? (i := 1216) (by decide +kernel), by decide +kernel⟩, ⟨List.mem_of_getElem? (i := 1217) (by decide +kernel), by decide +kernel⟩⟩
theorem km11_253 : inW (Cond.methodLink RX11 253 yX9_forget) := ⟨List.mem_of_getElem? (i := 1215) (by decide +kernel), by decide +kernel⟩
theorem dX11_felt_15 : decode cX11_felt 15 = .ok (.ireturn, 1) := by decide +kernel
theorem dX11_breaches_0 : decode cX11_breaches 0 = .ok (.aload_n 0, 1) := by decide +kernel
theorem dX11_breaches_1 : decode cX11_breaches 1 = .ok (.getfield 13, 3) := by decide +kernel
theorem dX11_breaches_4 : decode cX11_breaches 4 = .ok (.iload_n 1, 1) := by decide +kernel
theorem dX11_breaches_5 : decode cX11_breaches 5 = .ok (.invokevirtual 192, 3) := by decide +kernel
theorem dX11_breaches_8 : decode cX11_breaches 8 = .ok (.ifCond .eq 12, 3) := by decide +kernel
theorem dX11_breaches_20 : decode cX11_breaches 20 = .ok (.iconst (-1), 1) := by decide +kernel
theorem dX11_breaches_21 : decode cX11_breaches 21 = .ok (.ireturn, 1) := by decide +kernel
theorem dX11_breaches_11 : decode cX11_breaches 11 = .ok (.iload_n 2, 1) := by decide +kernel
theorem dX11_breaches_12 : decode cX11_breaches 12 = .ok (.iconst 0, 1) := by decide +kernel
theorem dX11_breaches_13 : decode cX11_breaches 13 = .ok (.iconst 2, 1) := by decide +kernel
theorem dX11_breaches_14 : decode cX11_breaches 14 = .ok (.invokestatic 146, 3) := by decide +kernel
theorem dX11_breaches_17 : decode cX11_breaches 17 = .ok (.ifCond .ne 5, 3) := by decide +kernel
theorem dX11_breaches_22 : decode cX11_breaches 22 = .ok (.aload_n 0, 1) := by decide +kernel
theorem dX11_breaches_23 : decode cX11_breaches 23 = .ok (.getfield 68, 3) := by decide +kernel
theorem kf11_68 : inW (Cond.fieldLink RX11 68 "KneeOaths" "suspicions" "LKneeOaths$Suspicions;") := ⟨List.mem_of_getElem? (i := 512) (by decide +kernel), by decide +kernel⟩
theorem dX11_breaches_26 : decode cX11_breaches 26 = .ok (.iload_n 1, 1) := by decide +kernel
theorem dX11_breaches_27 : decode cX11_breaches 27 = .ok (.invokevirtual 262, 3) := by decide +kernel
theorem cw_X8_weigh : CWv yX8_weigh cX8_weigh 5 none 1 := ⟨⟨⟨List.mem_of_getElem? (i := 135) (by decide +kernel), by decide +kernel⟩, ⟨List.mem_of_getElem? (i := 1230) (by decide +kernel), by decide +kernel⟩, by decide +kernel⟩, ⟨List.mem_of_getElem? (i := 1228) (by decide +kernel), by decide +kernel⟩, ⟨List.mem_of_getElem? (i := 1229) (by decide +kernel), by decide +kernel⟩⟩
theorem km11_262 : inW (Cond.methodLink RX11 262 yX8_weigh) := ⟨List.mem_of_getElem? (i := 1227) (by decide +kernel), by decide +kernel⟩
theorem dX11_breaches_30 : decode cX11_breaches 30 = .ok (.iload_n 2, 1) := by decide +kernel
theorem dX11_breaches_31 : decode cX11_breaches 31 = .ok (.ifCond .ne 11, 3) := by decide +kernel
theorem dX11_breaches_42 : decode cX11_breaches 42 = .ok (.iload_n 2, 1) := by decide +kernel
theorem dX11_breaches_43 : decode cX11_breaches 43 = .ok (.iconst 1, 1) := by decide +kernel
theorem dX11_breaches_44 : decode cX11_breaches 44 = .ok (.if_icmp .ne 13, 3) := by decide +kernel
theorem dX11_breaches_57 : decode cX11_breaches 57 = .ok (.aload_n 0, 1) := by decide +kernel
theorem dX11_breaches_58 : decode cX11_breaches 58 = .ok (.getfield 68, 3) := by decide +kernel
theorem dX11_breaches_61 : decode cX11_breaches 61 = .ok (.invokevirtual 271, 3) := by decide +kernel
theorem cw_X8_sureKept : CWv yX8_sureKept cX8_sureKept 1 (some .int) 0 := ⟨⟨⟨List.mem_of_getElem? (i := 135) (by decide +kernel), by decide +kernel⟩, ⟨List.mem_of_getElem? (i := 1270) (by decide +kernel), by decide +kernel⟩, by decide +kernel⟩, ⟨List.mem_of_getElem? (i := 1268) (by decide +kernel), by decide +kernel⟩, ⟨List.mem_of_getElem? (i := 1269) (by decide +kernel), by decide +kernel⟩⟩
theorem km11_271 : inW (Cond.methodLink RX11 271 yX8_sureKept) := ⟨List.mem_of_getElem? (i := 1267) (by decide +kernel), by decide +kernel⟩
theorem dX11_breaches_64 : decode cX11_breaches 64 = .ok (.ireturn, 1) := by decide +kernel
theorem dX11_breaches_47 : decode cX11_breaches 47 = .ok (.aload_n 0, 1) := by decide +kernel
theorem dX11_breaches_48 : decode cX11_breaches 48 = .ok (.getfield 68, 3) := by decide +kernel
theorem dX11_breaches_51 : decode cX11_breaches 51 = .ok (.invokevirtual 268, 3) := by decide +kernel
theorem cw_X8_sureBroken : CWv yX8_sureBroken cX8_sureBroken 1 (some .int) 0 := ⟨⟨⟨List.mem_of_getElem? (i := 135) (by decide +kernel), by decide +kernel⟩, ⟨List.mem_of_getElem? (i := 1262) (by decide +kernel), by decide +kernel⟩, by decide +kernel⟩, ⟨List.mem_of_getElem? (i := 1260) (by decide +kernel), by decide +kernel⟩, ⟨List.mem_of_getElem? (i := 1261) (by decide +kernel), by decide +kernel⟩⟩
theorem km11_268 : inW (Cond.methodLink RX11 268 yX8_sureBroken) := ⟨List.mem_of_getElem? (i := 1259) (by decide +kernel), by decide +kernel⟩
theorem dX11_breaches_54 : decode cX11_breaches 54 = .ok (.goto 10, 3) := by decide +kernel
theorem dX11_breaches_34 : decode cX11_breaches 34 = .ok (.aload_n 0, 1) := by decide +kernel
theorem dX11_breaches_35 : decode cX11_breaches 35 = .ok (.getfield 68, 3) := by decide +kernel
theorem dX11_breaches_38 : decode cX11_breaches 38 = .ok (.invokevirtual 265, 3) := by decide +kernel
theorem cw_X8_sets : CWv yX8_sets cX8_sets 1 (some .int) 0 := ⟨⟨⟨List.mem_of_getElem? (i := 135) (by decide +kernel), by decide +kernel⟩, ⟨List.mem_of_getElem? (i := 1258) (by decide +kernel), by decide +kernel⟩, by decide +kernel⟩, ⟨List.mem_of_getElem? (i := 1256) (by decide +kernel), by decide +kernel⟩, ⟨List.mem_of_getElem? (i := 1257) (by decide +kernel), by decide +kernel⟩⟩
theorem km11_265 : inW (Cond.methodLink RX11 265 yX8_sets) := ⟨List.mem_of_getElem? (i := 1255) (by decide +kernel), by decide +kernel⟩
theorem dX11_breaches_41 : decode cX11_breaches 41 = .ok (.ireturn, 1) := by decide +kernel
theorem dX11_odds_0 : decode cX11_odds 0 = .ok (.aload_n 0, 1) := by decide +kernel
theorem dX11_odds_1 : decode cX11_odds 1 = .ok (.getfield 13, 3) := by decide +kernel
theorem dX11_odds_4 : decode cX11_odds 4 = .ok (.getfield 131, 3) := by decide +kernel
theorem dX11_odds_7 : decode cX11_odds 7 = .ok (.iload_n 1, 1) := by decide +kernel
theorem dX11_odds_8 : decode cX11_odds 8 = .ok (.invokevirtual 274, 3) := by decide +kernel
theorem km11_274 : inW (Cond.methodLink RX11 274 yX4_legible) := ⟨List.mem_of_getElem? (i := 1275) (by decide +kernel), by decide +kernel⟩
theorem dX11_odds_11 : decode cX11_odds 11 = .ok (.ifCond .ne 5, 3) := by decide +kernel
theorem dX11_odds_16 : decode cX11_odds 16 = .ok (.aload_n 0, 1) := by decide +kernel
theorem dX11_odds_17 : decode cX11_odds 17 = .ok (.getfield 68, 3) := by decide +kernel
theorem dX11_odds_20 : decode cX11_odds 20 = .ok (.aload_n 0, 1) := by decide +kernel
theorem dX11_odds_21 : decode cX11_odds 21 = .ok (.getfield 13, 3) := by decide +kernel
theorem dX11_odds_24 : decode cX11_odds 24 = .ok (.getfield 131, 3) := by decide +kernel
theorem dX11_odds_27 : decode cX11_odds 27 = .ok (.iload_n 1, 1) := by decide +kernel
theorem dX11_odds_28 : decode cX11_odds 28 = .ok (.iconst 1, 1) := by decide +kernel
theorem dX11_odds_29 : decode cX11_odds 29 = .ok (.invokevirtual 222, 3) := by decide +kernel
theorem dX11_odds_32 : decode cX11_odds 32 = .ok (.invokevirtual 262, 3) := by decide +kernel
theorem dX11_odds_35 : decode cX11_odds 35 = .ok (.aload_n 0, 1) := by decide +kernel
theorem dX11_odds_36 : decode cX11_odds 36 = .ok (.getfield 68, 3) := by decide +kernel
theorem dX11_odds_39 : decode cX11_odds 39 = .ok (.iload_n 1, 1) := by decide +kernel
theorem dX11_odds_40 : decode cX11_odds 40 = .ok (.iload_n 2, 1) := by decide +kernel
theorem dX11_odds_41 : decode cX11_odds 41 = .ok (.invokevirtual 277, 3) := by decide +kernel
theorem cw_X8_chance : CWv yX8_chance cX8_chance 5 (some .int) 2 := ⟨⟨⟨List.mem_of_getElem? (i := 135) (by decide +kernel), by decide +kernel⟩, ⟨List.mem_of_getElem? (i := 1279) (by decide +kernel), by decide +kernel⟩, by decide +kernel⟩, ⟨List.mem_of_getElem? (i := 1277) (by decide +kernel), by decide +kernel⟩, ⟨List.mem_of_getElem? (i := 1278) (by decide +kernel), by decide +kernel⟩⟩
theorem km11_277 : inW (Cond.methodLink RX11 277 yX8_chance) := ⟨List.mem_of_getElem? (i := 1276) (by decide +kernel), by decide +kernel⟩
theorem dX11_odds_44 : decode cX11_odds 44 = .ok (.ireturn, 1) := by decide +kernel
theorem dX11_odds_14 : decode cX11_odds 14 = .ok (.iconst (-1), 1) := by decide +kernel
theorem dX11_odds_15 : decode cX11_odds 15 = .ok (.ireturn, 1) := by decide +kernel
theorem dX11_nextAsked_0 : decode cX11_nextAsked 0 = .ok (.aload_n 0, 1) := by decide +kernel
theorem dX11_nextAsked_1 : decode cX11_nextAsked 1 = .ok (.getfield 13, 3) := by decide +kernel
theorem dX11_nextAsked_4 : decode cX11_nextAsked 4 = .ok (.iload_n 1, 1) := by decide +kernel
theorem dX11_nextAsked_5 : decode cX11_nextAsked 5 = .ok (.invokevirtual 192, 3) := by decide +kernel
theorem dX11_nextAsked_8 : decode cX11_nextAsked 8 = .ok (.ifCond .ne 5, 3) := by decide +kernel
theorem dX11_nextAsked_13 : decode cX11_nextAsked 13 = .ok (.aload_n 0, 1) := by decide +kernel
theorem dX11_nextAsked_14 : decode cX11_nextAsked 14 = .ok (.getfield 68, 3) := by decide +kernel
theorem dX11_nextAsked_17 : decode cX11_nextAsked 17 = .ok (.iload_n 1, 1) := by decide +kernel
theorem dX11_nextAsked_18 : decode cX11_nextAsked 18 = .ok (.invokevirtual 262, 3) := by decide +kernel
theorem dX11_nextAsked_21 : decode cX11_nextAsked 21 = .ok (.aload_n 0, 1) := by decide +kernel
theorem dX11_nextAsked_22 : decode cX11_nextAsked 22 = .ok (.getfield 68, 3) := by decide +kernel
theorem dX11_nextAsked_25 : decode cX11_nextAsked 25 = .ok (.invokevirtual 281, 3) := by decide +kernel
theorem cw_X8_mostTelling : CWv yX8_mostTelling cX8_mostTelling 6 (some .int) 0 := ⟨⟨⟨List.mem_of_getElem? (i := 135) (by decide +kernel), by decide +kernel⟩, ⟨List.mem_of_getElem? (i := 1290) (by decide +kernel), by decide +kernel⟩, by decide +kernel⟩, ⟨List.mem_of_getElem? (i := 1288) (by decide +kernel), by decide +kernel⟩, ⟨List.mem_of_getElem? (i := 1289) (by decide +kernel), by decide +kernel⟩⟩
theorem km11_281 : inW (Cond.methodLink RX11 281 yX8_mostTelling) := ⟨List.mem_of_getElem? (i := 1287) (by decide +kernel), by decide +kernel⟩
theorem dX11_nextAsked_28 : decode cX11_nextAsked 28 = .ok (.ireturn, 1) := by decide +kernel
theorem dX11_nextAsked_11 : decode cX11_nextAsked 11 = .ok (.iconst (-1), 1) := by decide +kernel
theorem dX11_nextAsked_12 : decode cX11_nextAsked 12 = .ok (.ireturn, 1) := by decide +kernel
theorem dX11_clash_0 : decode cX11_clash 0 = .ok (.iload_n 1, 1) := by decide +kernel
theorem dX11_clash_1 : decode cX11_clash 1 = .ok (.iconst (-1), 1) := by decide +kernel
theorem dX11_clash_2 : decode cX11_clash 2 = .ok (.if_icmp .ne 14, 3) := by decide +kernel
theorem dX11_clash_16 : decode cX11_clash 16 = .ok (.aload_n 0, 1) := by decide +kernel
theorem dX11_clash_17 : decode cX11_clash 17 = .ok (.getfield 13, 3) := by decide +kernel
theorem dX11_clash_20 : decode cX11_clash 20 = .ok (.getfield 131, 3) := by decide +kernel
theorem dX11_clash_23 : decode cX11_clash 23 = .ok (.iload_n 1, 1) := by decide +kernel
theorem dX11_clash_24 : decode cX11_clash 24 = .ok (.invokevirtual 211, 3) := by decide +kernel
theorem dX11_clash_27 : decode cX11_clash 27 = .ok (.ifCond .eq 22, 3) := by decide +kernel
theorem dX11_clash_49 : decode cX11_clash 49 = .ok (.bipush (-2), 2) := by decide +kernel
theorem dX11_clash_51 : decode cX11_clash 51 = .ok (.ireturn, 1) := by decide +kernel
theorem dX11_clash_30 : decode cX11_clash 30 = .ok (.aload_n 0, 1) := by decide +kernel
theorem dX11_clash_31 : decode cX11_clash 31 = .ok (.getfield 13, 3) := by decide +kernel
theorem dX11_clash_34 : decode cX11_clash 34 = .ok (.getfield 131, 3) := by decide +kernel
theorem dX11_clash_37 : decode cX11_clash 37 = .ok (.iload_n 2, 1) := by decide +kernel
theorem dX11_clash_38 : decode cX11_clash 38 = .ok (.invokevirtual 211, 3) := by decide +kernel
theorem dX11_clash_41 : decode cX11_clash 41 = .ok (.ifCond .eq 8, 3) := by decide +kernel
theorem dX11_clash_44 : decode cX11_clash 44 = .ok (.iload_n 1, 1) := by decide +kernel
theorem dX11_clash_45 : decode cX11_clash 45 = .ok (.iload_n 2, 1) := by decide +kernel
theorem dX11_clash_46 : decode cX11_clash 46 = .ok (.if_icmp .ne 6, 3) := by decide +kernel
theorem dX11_clash_52 : decode cX11_clash 52 = .ok (.aload_n 0, 1) := by decide +kernel
theorem dX11_clash_53 : decode cX11_clash 53 = .ok (.getfield 13, 3) := by decide +kernel
theorem dX11_clash_56 : decode cX11_clash 56 = .ok (.getfield 284, 3) := by decide +kernel
theorem kf11_284 : inW (Cond.fieldLinkNest RX11 284 "KneeOaths$World" "clashes" "LKneeOaths$Told;" "KneeOaths") := ⟨List.mem_of_getElem? (i := 278) (by decide +kernel), by decide +kernel⟩
theorem dX11_clash_59 : decode cX11_clash 59 = .ok (.iload_n 1, 1) := by decide +kernel
theorem dX11_clash_60 : decode cX11_clash 60 = .ok (.iload_n 2, 1) := by decide +kernel
theorem dX11_clash_61 : decode cX11_clash 61 = .ok (.iconst 0, 1) := by decide +kernel
theorem dX11_clash_62 : decode cX11_clash 62 = .ok (.invokevirtual 258, 3) := by decide +kernel
theorem dX11_clash_65 : decode cX11_clash 65 = .ok (.ireturn, 1) := by decide +kernel
theorem dX11_clash_5 : decode cX11_clash 5 = .ok (.aload_n 0, 1) := by decide +kernel
theorem dX11_clash_6 : decode cX11_clash 6 = .ok (.getfield 13, 3) := by decide +kernel
theorem dX11_clash_9 : decode cX11_clash 9 = .ok (.getfield 284, 3) := by decide +kernel
theorem dX11_clash_12 : decode cX11_clash 12 = .ok (.invokevirtual 253, 3) := by decide +kernel
theorem dX11_clash_15 : decode cX11_clash 15 = .ok (.ireturn, 1) := by decide +kernel
theorem dX11_leastReleased_0 : decode cX11_leastReleased 0 = .ok (.aload_n 0, 1) := by decide +kernel
theorem dX11_leastReleased_1 : decode cX11_leastReleased 1 = .ok (.getfield 75, 3) := by decide +kernel
theorem dX11_leastReleased_4 : decode cX11_leastReleased 4 = .ok (.invokevirtual 287, 3) := by decide +kernel
theorem cw_X0_fewestReleased : CWv yX0_fewestReleased cX0_fewestReleased 5 (some .int) 0 := ⟨⟨⟨List.mem_of_getElem? (i := 136) (by decide +kernel), by decide +kernel⟩, ⟨List.mem_of_getElem? (i := 1305) (by decide +kernel), by decide +kernel⟩, by decide +kernel⟩, ⟨List.mem_of_getElem? (i := 1303) (by decide +kernel), by decide +kernel⟩, ⟨List.mem_of_getElem? (i := 1304) (by decide +kernel), by decide +kernel⟩⟩
theorem km11_287 : inW (Cond.methodLink RX11 287 yX0_fewestReleased) := ⟨List.mem_of_getElem? (i := 1302) (by decide +kernel), by decide +kernel⟩
theorem dX11_leastReleased_7 : decode cX11_leastReleased 7 = .ok (.ireturn, 1) := by decide +kernel
theorem dX11_forged_0 : decode cX11_forged 0 = .ok (.aload_n 0, 1) := by decide +kernel
theorem dX11_forged_1 : decode cX11_forged 1 = .ok (.getfield 13, 3) := by decide +kernel
theorem dX11_forged_4 : decode cX11_forged 4 = .ok (.iload_n 1, 1) := by decide +kernel
theorem dX11_forged_5 : decode cX11_forged 5 = .ok (.invokevirtual 192, 3) := by decide +kernel
theorem dX11_forged_8 : decode cX11_forged 8 = .ok (.ifCond .eq 22, 3) := by decide +kernel
theorem dX11_forged_30 : decode cX11_forged 30 = .ok (.sipush (-1000), 3) := by decide +kernel
theorem dX11_forged_33 : decode cX11_forged 33 = .ok (.ireturn, 1) := by decide +kernel
theorem dX11_forged_11 : decode cX11_forged 11 = .ok (.iload_n 2, 1) := by decide +kernel
theorem dX11_forged_12 : decode cX11_forged 12 = .ok (.iconst 0, 1) := by decide +kernel
theorem dX11_forged_13 : decode cX11_forged 13 = .ok (.iconst 1, 1) := by decide +kernel
theorem dX11_forged_14 : decode cX11_forged 14 = .ok (.invokestatic 146, 3) := by decide +kernel
theorem dX11_forged_17 : decode cX11_forged 17 = .ok (.ifCond .eq 13, 3) := by decide +kernel
theorem dX11_forged_20 : decode cX11_forged 20 = .ok (.iload_n 3, 1) := by decide +kernel
theorem dX11_forged_21 : decode cX11_forged 21 = .ok (.iconst 0, 1) := by decide +kernel
theorem dX11_forged_22 : decode cX11_forged 22 = .ok (.bipush 99, 2) := by decide +kernel
theorem dX11_forged_24 : decode cX11_forged 24 = .ok (.invokestatic 146, 3) := by decide +kernel
theorem dX11_forged_27 : decode cX11_forged 27 = .ok (.ifCond .ne 7, 3) := by decide +kernel
theorem dX11_forged_34 : decode cX11_forged 34 = .ok (.iload_n 3, 1) := by decide +kernel
theorem dX11_forged_35 : decode cX11_forged 35 = .ok (.aload_n 0, 1) := by decide +kernel
theorem dX11_forged_36 : decode cX11_forged 36 = .ok (.getfield 13, 3) := by decide +kernel
theorem dX11_forged_39 : decode cX11_forged 39 = .ok (.getfield 131, 3) := by decide +kernel
theorem dX11_forged_42 : decode cX11_forged 42 = .ok (.iload_n 1, 1) := by decide +kernel
theorem dX11_forged_43 : decode cX11_forged 43 = .ok (.iload_n 2, 1) := by decide +kernel
theorem dX11_forged_44 : decode cX11_forged 44 = .ok (.invokevirtual 290, 3) := by decide +kernel
theorem cw_X4_marksOnKnee : CWv yX4_marksOnKnee cX4_marksOnKnee 5 (some .int) 2 := ⟨⟨⟨List.mem_of_getElem? (i := 125) (by decide +kernel), by decide +kernel⟩, ⟨List.mem_of_getElem? (i := 1323) (by decide +kernel), by decide +kernel⟩, by decide +kernel⟩, ⟨List.mem_of_getElem? (i := 1321) (by decide +kernel), by decide +kernel⟩, ⟨List.mem_of_getElem? (i := 1322) (by decide +kernel), by decide +kernel⟩⟩
theorem km11_290 : inW (Cond.methodLink RX11 290 yX4_marksOnKnee) := ⟨List.mem_of_getElem? (i := 1320) (by decide +kernel), by decide +kernel⟩
theorem dX11_forged_47 : decode cX11_forged 47 = .ok (.isub, 1) := by decide +kernel
theorem dX11_forged_48 : decode cX11_forged 48 = .ok (.ireturn, 1) := by decide +kernel
theorem dX11_inTime_0 : decode cX11_inTime 0 = .ok (.iload_n 1, 1) := by decide +kernel
theorem dX11_inTime_1 : decode cX11_inTime 1 = .ok (.iconst 0, 1) := by decide +kernel
theorem dX11_inTime_2 : decode cX11_inTime 2 = .ok (.iconst 2, 1) := by decide +kernel
theorem dX11_inTime_3 : decode cX11_inTime 3 = .ok (.invokestatic 146, 3) := by decide +kernel
theorem dX11_inTime_6 : decode cX11_inTime 6 = .ok (.ifCond .ne 5, 3) := by decide +kernel
theorem dX11_inTime_11 : decode cX11_inTime 11 = .ok (.aload_n 0, 1) := by decide +kernel
theorem dX11_inTime_12 : decode cX11_inTime 12 = .ok (.getfield 75, 3) := by decide +kernel
theorem dX11_inTime_15 : decode cX11_inTime 15 = .ok (.invokevirtual 296, 3) := by decide +kernel
theorem cw_X0_mostInTime : CWv yX0_mostInTime cX0_mostInTime 3 (some .int) 0 := ⟨⟨⟨List.mem_of_getElem? (i := 136) (by decide +kernel), by decide +kernel⟩, ⟨List.mem_of_getElem? (i := 1335) (by decide +kernel), by decide +kernel⟩, by decide +kernel⟩, ⟨List.mem_of_getElem? (i := 1333) (by decide +kernel), by decide +kernel⟩, ⟨List.mem_of_getElem? (i := 1334) (by decide +kernel), by decide +kernel⟩⟩
theorem km11_296 : inW (Cond.methodLink RX11 296 yX0_mostInTime) := ⟨List.mem_of_getElem? (i := 1332) (by decide +kernel), by decide +kernel⟩
theorem dX11_inTime_18 : decode cX11_inTime 18 = .ok (.istore_n 2, 1) := by decide +kernel
theorem dX11_inTime_19 : decode cX11_inTime 19 = .ok (.iload_n 1, 1) := by decide +kernel
theorem dX11_inTime_20 : decode cX11_inTime 20 = .ok (.ifCond .ne 8, 3) := by decide +kernel
theorem dX11_inTime_28 : decode cX11_inTime 28 = .ok (.iload_n 1, 1) := by decide +kernel
theorem dX11_inTime_29 : decode cX11_inTime 29 = .ok (.iconst 1, 1) := by decide +kernel
theorem dX11_inTime_30 : decode cX11_inTime 30 = .ok (.if_icmp .ne 7, 3) := by decide +kernel
theorem dX11_inTime_37 : decode cX11_inTime 37 = .ok (.aload_n 0, 1) := by decide +kernel
theorem dX11_inTime_38 : decode cX11_inTime 38 = .ok (.getfield 75, 3) := by decide +kernel
theorem dX11_inTime_41 : decode cX11_inTime 41 = .ok (.iload_n 2, 1) := by decide +kernel
theorem dX11_inTime_42 : decode cX11_inTime 42 = .ok (.sipush 999, 3) := by decide +kernel
theorem dX11_inTime_45 : decode cX11_inTime 45 = .ok (.invokevirtual 304, 3) := by decide +kernel
theorem km11_304 : inW (Cond.methodLink RX11 304 yX0_workOf) := ⟨List.mem_of_getElem? (i := 1345) (by decide +kernel), by decide +kernel⟩
theorem dX11_inTime_48 : decode cX11_inTime 48 = .ok (.ireturn, 1) := by decide +kernel
theorem dX11_inTime_33 : decode cX11_inTime 33 = .ok (.iload_n 2, 1) := by decide +kernel
theorem dX11_inTime_34 : decode cX11_inTime 34 = .ok (.goto 14, 3) := by decide +kernel
theorem dX11_inTime_23 : decode cX11_inTime 23 = .ok (.iload_n 2, 1) := by decide +kernel
theorem dX11_inTime_24 : decode cX11_inTime 24 = .ok (.invokestatic 299, 3) := by decide +kernel
theorem km11_299 : inW (Cond.methodLink RX11 299 yJ6_bitCount_0f7a4) := ⟨List.mem_of_getElem? (i := 1344) (by decide +kernel), by decide +kernel⟩
theorem dX11_inTime_27 : decode cX11_inTime 27 = .ok (.ireturn, 1) := by decide +kernel
theorem dX11_inTime_9 : decode cX11_inTime 9 = .ok (.iconst (-1), 1) := by decide +kernel
theorem dX11_inTime_10 : decode cX11_inTime 10 = .ok (.ireturn, 1) := by decide +kernel
theorem dX11_whom_0 : decode cX11_whom 0 = .ok (.aload_n 0, 1) := by decide +kernel
theorem dX11_whom_1 : decode cX11_whom 1 = .ok (.getfield 13, 3) := by decide +kernel
theorem dX11_whom_4 : decode cX11_whom 4 = .ok (.iload_n 1, 1) := by decide +kernel
theorem dX11_whom_5 : decode cX11_whom 5 = .ok (.invokevirtual 192, 3) := by decide +kernel
theorem dX11_whom_8 : decode cX11_whom 8 = .ok (.ifCond .ne 5, 3) := by decide +kernel
theorem dX11_whom_13 : decode cX11_whom 13 = .ok (.iconst (-1), 1) := by decide +kernel
theorem dX11_whom_14 : decode cX11_whom 14 = .ok (.istore_n 2, 1) := by decide +kernel
theorem dX11_whom_15 : decode cX11_whom 15 = .ok (.iconst 0, 1) := by decide +kernel
theorem dX11_whom_16 : decode cX11_whom 16 = .ok (.istore_n 3, 1) := by decide +kernel
theorem dX11_whom_17 : decode cX11_whom 17 = .ok (.iconst 0, 1) := by decide +kernel
theorem dX11_whom_18 : decode cX11_whom 18 = .ok (.istore 4, 2) := by decide +kernel
theorem dX11_whom_11 : decode cX11_whom 11 = .ok (.iconst (-1), 1) := by decide +kernel
theorem dX11_whom_12 : decode cX11_whom 12 = .ok (.ireturn, 1) := by decide +kernel
theorem dX11_whom_20 : decode cX11_whom 20 = .ok (.iload 4, 2) := by decide +kernel
theorem dX11_whom_22 : decode cX11_whom 22 = .ok (.aload_n 0, 1) := by decide +kernel
theorem dX11_whom_23 : decode cX11_whom 23 = .ok (.getfield 13, 3) := by decide +kernel
theorem dX11_whom_26 : decode cX11_whom 26 = .ok (.getfield 174, 3) := by decide +kernel
theorem dX11_whom_29 : decode cX11_whom 29 = .ok (.if_icmp .ge 60, 3) := by decide +kernel
theorem dX11_whom_89 : decode cX11_whom 89 = .ok (.iload_n 2, 1) := by decide +kernel
theorem dX11_whom_90 : decode cX11_whom 90 = .ok (.ireturn, 1) := by decide +kernel
theorem dX11_whom_32 : decode cX11_whom 32 = .ok (.iload 4, 2) := by decide +kernel
theorem dX11_whom_34 : decode cX11_whom 34 = .ok (.iload_n 1, 1) := by decide +kernel
theorem dX11_whom_35 : decode cX11_whom 35 = .ok (.if_icmp .ne 7, 3) := by decide +kernel
theorem dX11_whom_42 : decode cX11_whom 42 = .ok (.aload_n 0, 1) := by decide +kernel
theorem dX11_whom_43 : decode cX11_whom 43 = .ok (.getfield 34, 3) := by decide +kernel
theorem dX11_whom_46 : decode cX11_whom 46 = .ok (.aload_n 0, 1) := by decide +kernel
theorem dX11_whom_47 : decode cX11_whom 47 = .ok (.getfield 13, 3) := by decide +kernel
theorem dX11_whom_50 : decode cX11_whom 50 = .ok (.getfield 131, 3) := by decide +kernel
theorem dX11_whom_53 : decode cX11_whom 53 = .ok (.iload 4, 2) := by decide +kernel
theorem dX11_whom_55 : decode cX11_whom 55 = .ok (.invokevirtual 205, 3) := by decide +kernel
theorem dX11_whom_58 : decode cX11_whom 58 = .ok (.istore 5, 2) := by decide +kernel
theorem dX11_whom_60 : decode cX11_whom 60 = .ok (.iload 4, 2) := by decide +kernel
theorem dX11_whom_62 : decode cX11_whom 62 = .ok (.iload_n 1, 1) := by decide +kernel
theorem dX11_whom_63 : decode cX11_whom 63 = .ok (.if_icmp .eq 20, 3) := by decide +kernel
theorem dX11_whom_66 : decode cX11_whom 66 = .ok (.iload_n 2, 1) := by decide +kernel
theorem dX11_whom_67 : decode cX11_whom 67 = .ok (.iconst (-1), 1) := by decide +kernel
theorem dX11_whom_68 : decode cX11_whom 68 = .ok (.if_icmp .eq 9, 3) := by decide +kernel
theorem dX11_whom_77 : decode cX11_whom 77 = .ok (.iload 4, 2) := by decide +kernel
theorem dX11_whom_79 : decode cX11_whom 79 = .ok (.istore_n 2, 1) := by decide +kernel
theorem dX11_whom_80 : decode cX11_whom 80 = .ok (.iload 5, 2) := by decide +kernel
theorem dX11_whom_82 : decode cX11_whom 82 = .ok (.istore_n 3, 1) := by decide +kernel
theorem dX11_whom_83 : decode cX11_whom 83 = .ok (.iinc 4 1, 3) := by decide +kernel
theorem dX11_whom_86 : decode cX11_whom 86 = .ok (.goto (-66), 3) := by decide +kernel
theorem dX11_whom_71 : decode cX11_whom 71 = .ok (.iload 5, 2) := by decide +kernel
theorem dX11_whom_73 : decode cX11_whom 73 = .ok (.iload_n 3, 1) := by decide +kernel
theorem dX11_whom_74 : decode cX11_whom 74 = .ok (.if_icmp .ge 9, 3) := by decide +kernel
theorem dX11_whom_38 : decode cX11_whom 38 = .ok (.iconst 0, 1) := by decide +kernel
theorem dX11_whom_39 : decode cX11_whom 39 = .ok (.goto 19, 3) := by decide +kernel
theorem dX11_ring_0 : decode cX11_ring 0 = .ok (.aload_n 0, 1) := by decide +kernel
theorem dX11_ring_1 : decode cX11_ring 1 = .ok (.getfield 41, 3) := by decide +kernel
theorem kf11_41 : inW (Cond.fieldLink RX11 41 "KneeOaths" "rings" "LKneeOaths$Rings;") := ⟨List.mem_of_getElem? (i := 509) (by decide +kernel), by decide +kernel⟩
theorem dX11_ring_4 : decode cX11_ring 4 = .ok (.invokevirtual 307, 3) := by decide +kernel
theorem cw_X6_shortest : CWv yX6_shortest cX6_shortest 2 (some .int) 0 := ⟨⟨⟨List.mem_of_getElem? (i := 132) (by decide +kernel), by decide +kernel⟩, ⟨List.mem_of_getElem? (i := 1357) (by decide +kernel), by decide +kernel⟩, by decide +kernel⟩, ⟨List.mem_of_getElem? (i := 1355) (by decide +kernel), by decide +kernel⟩, ⟨List.mem_of_getElem? (i := 1356) (by decide +kernel), by decide +kernel⟩⟩
theorem km11_307 : inW (Cond.methodLink RX11 307 yX6_shortest) := ⟨List.mem_of_getElem? (i := 1354) (by decide +kernel), by decide +kernel⟩
theorem dX11_ring_7 : decode cX11_ring 7 = .ok (.ireturn, 1) := by decide +kernel
theorem dX11_allSeen_0 : decode cX11_allSeen 0 = .ok (.aload_n 0, 1) := by decide +kernel
theorem dX11_allSeen_1 : decode cX11_allSeen 1 = .ok (.getfield 75, 3) := by decide +kernel
theorem dX11_allSeen_4 : decode cX11_allSeen 4 = .ok (.invokevirtual 310, 3) := by decide +kernel
theorem cw_X0_fewestAsked : CWv yX0_fewestAsked cX0_fewestAsked 3 (some .int) 0 := ⟨⟨⟨List.mem_of_getElem? (i := 136) (by decide +kernel), by decide +kernel⟩, ⟨List.mem_of_getElem? (i := 1373) (by decide +kernel), by decide +kernel⟩, by decide +kernel⟩, ⟨List.mem_of_getElem? (i := 1371) (by decide +kernel), by decide +kernel⟩, ⟨List.mem_of_getElem? (i := 1372) (by decide +kernel), by decide +kernel⟩⟩
theorem km11_310 : inW (Cond.methodLink RX11 310 yX0_fewestAsked) := ⟨List.mem_of_getElem? (i := 1370) (by decide +kernel), by decide +kernel⟩
theorem dX11_allSeen_7 : decode cX11_allSeen 7 = .ok (.ireturn, 1) := by decide +kernel
theorem dX11_saw_0 : decode cX11_saw 0 = .ok (.iload_n 1, 1) := by decide +kernel
theorem dX11_saw_1 : decode cX11_saw 1 = .ok (.iconst (-1), 1) := by decide +kernel
theorem dX11_saw_2 : decode cX11_saw 2 = .ok (.if_icmp .ne 14, 3) := by decide +kernel
theorem dX11_saw_16 : decode cX11_saw 16 = .ok (.aload_n 0, 1) := by decide +kernel
theorem dX11_saw_17 : decode cX11_saw 17 = .ok (.getfield 13, 3) := by decide +kernel
theorem dX11_saw_20 : decode cX11_saw 20 = .ok (.iload_n 1, 1) := by decide +kernel
theorem dX11_saw_21 : decode cX11_saw 21 = .ok (.invokevirtual 192, 3) := by decide +kernel
theorem dX11_saw_24 : decode cX11_saw 24 = .ok (.ifCond .eq 19, 3) := by decide +kernel
theorem dX11_saw_43 : decode cX11_saw 43 = .ok (.bipush (-2), 2) := by decide +kernel
theorem dX11_saw_45 : decode cX11_saw 45 = .ok (.ireturn, 1) := by decide +kernel
theorem dX11_saw_27 : decode cX11_saw 27 = .ok (.aload_n 0, 1) := by decide +kernel
theorem dX11_saw_28 : decode cX11_saw 28 = .ok (.getfield 13, 3) := by decide +kernel
theorem dX11_saw_31 : decode cX11_saw 31 = .ok (.iload_n 2, 1) := by decide +kernel
theorem dX11_saw_32 : decode cX11_saw 32 = .ok (.invokevirtual 192, 3) := by decide +kernel
theorem dX11_saw_35 : decode cX11_saw 35 = .ok (.ifCond .eq 8, 3) := by decide +kernel
theorem dX11_saw_38 : decode cX11_saw 38 = .ok (.iload_n 1, 1) := by decide +kernel
theorem dX11_saw_39 : decode cX11_saw 39 = .ok (.iload_n 2, 1) := by decide +kernel
theorem dX11_saw_40 : decode cX11_saw 40 = .ok (.if_icmp .ne 6, 3) := by decide +kernel
theorem dX11_saw_46 : decode cX11_saw 46 = .ok (.aload_n 0, 1) := by decide +kernel
theorem dX11_saw_47 : decode cX11_saw 47 = .ok (.getfield 13, 3) := by decide +kernel
theorem dX11_saw_50 : decode cX11_saw 50 = .ok (.getfield 313, 3) := by decide +kernel
theorem kf11_313 : inW (Cond.fieldLinkNest RX11 313 "KneeOaths$World" "sights" "LKneeOaths$Told;" "KneeOaths") := ⟨List.mem_of_getElem? (i := 284) (by decide +kernel), by decide +kernel⟩
theorem dX11_saw_53 : decode cX11_saw 53 = .ok (.iload_n 1, 1) := by decide +kernel
theorem dX11_saw_54 : decode cX11_saw 54 = .ok (.iload_n 2, 1) := by decide +kernel
theorem dX11_saw_55 : decode cX11_saw 55 = .ok (.iconst 0, 1) := by decide +kernel
theorem dX11_saw_56 : decode cX11_saw 56 = .ok (.invokevirtual 258, 3) := by decide +kernel
theorem dX11_saw_59 : decode cX11_saw 59 = .ok (.ireturn, 1) := by decide +kernel
theorem dX11_saw_5 : decode cX11_saw 5 = .ok (.aload_n 0, 1) := by decide +kernel
theorem dX11_saw_6 : decode cX11_saw 6 = .ok (.getfield 13, 3) := by decide +kernel
theorem dX11_saw_9 : decode cX11_saw 9 = .ok (.getfield 313, 3) := by decide +kernel
theorem dX11_saw_12 : decode cX11_saw 12 = .ok (.invokevirtual 253, 3) := by decide +kernel
theorem dX11_saw_15 : decode cX11_saw 15 = .ok (.ireturn, 1) := by decide +kernel
theorem dX11_known_0 : decode cX11_known 0 = .ok (.aload_n 0, 1) := by decide +kernel
theorem dX11_known_1 : decode cX11_known 1 = .ok (.getfield 13, 3) := by decide +kernel
theorem dX11_known_4 : decode cX11_known 4 = .ok (.iload_n 1, 1) := by decide +kernel
theorem dX11_known_5 : decode cX11_known 5 = .ok (.invokevirtual 192, 3) := by decide +kernel
theorem dX11_known_8 : decode cX11_known 8 = .ok (.ifCond .eq 14, 3) := by decide +kernel
theorem dX11_known_22 : decode cX11_known 22 = .ok (.iconst (-1), 1) := by decide +kernel
theorem dX11_known_23 : decode cX11_known 23 = .ok (.ireturn, 1) := by decide +kernel
theorem dX11_known_11 : decode cX11_known 11 = .ok (.aload_n 0, 1) := by decide +kernel
theorem dX11_known_12 : decode cX11_known 12 = .ok (.getfield 75, 3) := by decide +kernel
theorem dX11_known_15 : decode cX11_known 15 = .ok (.iload_n 1, 1) := by decide +kernel
theorem dX11_known_16 : decode cX11_known 16 = .ok (.invokevirtual 316, 3) := by decide +kernel
theorem km11_316 : inW (Cond.methodLink RX11 316 yX0_wordsOf) := ⟨List.mem_of_getElem? (i := 1387) (by decide +kernel), by decide +kernel⟩
theorem dX11_known_19 : decode cX11_known 19 = .ok (.goto 4, 3) := by decide +kernel
theorem dX11_together_0 : decode cX11_together 0 = .ok (.aload_n 0, 1) := by decide +kernel
theorem dX11_together_1 : decode cX11_together 1 = .ok (.getfield 75, 3) := by decide +kernel
theorem dX11_together_4 : decode cX11_together 4 = .ok (.invokevirtual 319, 3) := by decide +kernel
theorem cw_X0_fewestKnowing : CWv yX0_fewestKnowing cX0_fewestKnowing 4 (some .int) 0 := ⟨⟨⟨List.mem_of_getElem? (i := 136) (by decide +kernel), by decide +kernel⟩, ⟨List.mem_of_getElem? (i := 1398) (by decide +kernel), by decide +kernel⟩, by decide +kernel⟩, ⟨List.mem_of_getElem? (i := 1396) (by decide +kernel), by decide +kernel⟩, ⟨List.mem_of_getElem? (i := 1397) (by decide +kernel), by decide +kernel⟩⟩
theorem km11_319 : inW (Cond.methodLink RX11 319 yX0_fewestKnowing) := ⟨List.mem_of_getElem? (i := 1395) (by decide +kernel), by decide +kernel⟩
theorem dX11_together_7 : decode cX11_together 7 = .ok (.ireturn, 1) := by decide +kernel
theorem dX11_copy_0 : decode cX11_copy 0 = .ok (.aload_n 0, 1) := by decide +kernel
theorem dX11_copy_1 : decode cX11_copy 1 = .ok (.getfield 13, 3) := by decide +kernel
theorem dX11_copy_4 : decode cX11_copy 4 = .ok (.getfield 131, 3) := by decide +kernel
theorem dX11_copy_7 : decode cX11_copy 7 = .ok (.iload_n 1, 1) := by decide +kernel
theorem dX11_copy_8 : decode cX11_copy 8 = .ok (.invokevirtual 322, 3) := by decide +kernel
theorem km11_322 : inW (Cond.methodLink RX11 322 yX4_unreleased) := ⟨List.mem_of_getElem? (i := 1408) (by decide +kernel), by decide +kernel⟩
theorem dX11_copy_11 : decode cX11_copy 11 = .ok (.ifCond .eq 24, 3) := by decide +kernel
theorem dX11_copy_35 : decode cX11_copy 35 = .ok (.ldc_w 325, 3) := by decide +kernel
theorem kk11_325 : inW (Cond.constant RX11 325 (-100000)) := ⟨List.mem_of_getElem? (i := 1409) (by decide +kernel), by decide +kernel⟩
theorem dX11_copy_38 : decode cX11_copy 38 = .ok (.ireturn, 1) := by decide +kernel
theorem dX11_copy_14 : decode cX11_copy 14 = .ok (.iload_n 2, 1) := by decide +kernel
theorem dX11_copy_15 : decode cX11_copy 15 = .ok (.iconst 0, 1) := by decide +kernel
theorem dX11_copy_16 : decode cX11_copy 16 = .ok (.bipush 99, 2) := by decide +kernel
theorem dX11_copy_18 : decode cX11_copy 18 = .ok (.invokestatic 146, 3) := by decide +kernel
theorem dX11_copy_21 : decode cX11_copy 21 = .ok (.ifCond .eq 14, 3) := by decide +kernel
theorem dX11_copy_24 : decode cX11_copy 24 = .ok (.iload_n 3, 1) := by decide +kernel
theorem dX11_copy_25 : decode cX11_copy 25 = .ok (.iconst 0, 1) := by decide +kernel
theorem dX11_copy_26 : decode cX11_copy 26 = .ok (.sipush 9999, 3) := by decide +kernel
theorem dX11_copy_29 : decode cX11_copy 29 = .ok (.invokestatic 146, 3) := by decide +kernel
theorem dX11_copy_32 : decode cX11_copy 32 = .ok (.ifCond .ne 7, 3) := by decide +kernel
theorem dX11_copy_39 : decode cX11_copy 39 = .ok (.aload_n 0, 1) := by decide +kernel
theorem dX11_copy_40 : decode cX11_copy 40 = .ok (.getfield 59, 3) := by decide +kernel
theorem dX11_copy_43 : decode cX11_copy 43 = .ok (.iload_n 1, 1) := by decide +kernel
theorem dX11_copy_44 : decode cX11_copy 44 = .ok (.invokevirtual 246, 3) := by decide +kernel
theorem dX11_copy_47 : decode cX11_copy 47 = .ok (.istore 5, 2) := by decide +kernel
theorem dX11_copy_49 : decode cX11_copy 49 = .ok (.iconst 0, 1) := by decide +kernel
theorem dX11_copy_50 : decode cX11_copy 50 = .ok (.istore 6, 2) := by decide +kernel
theorem dX11_copy_52 : decode cX11_copy 52 = .ok (.iconst 0, 1) := by decide +kernel
theorem dX11_copy_53 : decode cX11_copy 53 = .ok (.istore 7, 2) := by decide +kernel
theorem dX11_copy_55 : decode cX11_copy 55 = .ok (.iconst 0, 1) := by decide +kernel
theorem dX11_copy_56 : decode cX11_copy 56 = .ok (.istore 8, 2) := by decide +kernel
theorem dX11_copy_58 : decode cX11_copy 58 = .ok (.iload 8, 2) := by decide +kernel
theorem dX11_copy_60 : decode cX11_copy 60 = .ok (.bipush 60, 2) := by decide +kernel
theorem dX11_copy_62 : decode cX11_copy 62 = .ok (.if_icmp .gt 54, 3) := by decide +kernel
theorem dX11_copy_65 : decode cX11_copy 65 = .ok (.iload 5, 2) := by decide +kernel
theorem dX11_copy_67 : decode cX11_copy 67 = .ok (.iconst (-1), 1) := by decide +kernel
theorem dX11_copy_68 : decode cX11_copy 68 = .ok (.if_icmp .eq 14, 3) := by decide +kernel
theorem dX11_copy_82 : decode cX11_copy 82 = .ok (.iconst 0, 1) := by decide +kernel
theorem dX11_copy_83 : decode cX11_copy 83 = .ok (.iload_n 2, 1) := by decide +kernel
theorem dX11_copy_84 : decode cX11_copy 84 = .ok (.iload 8, 2) := by decide +kernel
theorem dX11_copy_86 : decode cX11_copy 86 = .ok (.imul, 1) := by decide +kernel
theorem dX11_copy_87 : decode cX11_copy 87 = .ok (.isub, 1) := by decide +kernel
theorem dX11_copy_88 : decode cX11_copy 88 = .ok (.istore 9, 2) := by decide +kernel
theorem dX11_copy_90 : decode cX11_copy 90 = .ok (.iload 8, 2) := by decide +kernel
theorem dX11_copy_92 : decode cX11_copy 92 = .ok (.ifCond .eq 10, 3) := by decide +kernel
theorem dX11_copy_102 : decode cX11_copy 102 = .ok (.iload 8, 2) := by decide +kernel
theorem dX11_copy_104 : decode cX11_copy 104 = .ok (.istore 6, 2) := by decide +kernel
theorem dX11_copy_106 : decode cX11_copy 106 = .ok (.iload 9, 2) := by decide +kernel
theorem dX11_copy_108 : decode cX11_copy 108 = .ok (.istore 7, 2) := by decide +kernel
theorem dX11_copy_110 : decode cX11_copy 110 = .ok (.iinc 8 1, 3) := by decide +kernel
theorem dX11_copy_113 : decode cX11_copy 113 = .ok (.goto (-55), 3) := by decide +kernel
theorem dX11_copy_95 : decode cX11_copy 95 = .ok (.iload 9, 2) := by decide +kernel
theorem dX11_copy_97 : decode cX11_copy 97 = .ok (.iload 7, 2) := by decide +kernel
theorem dX11_copy_99 : decode cX11_copy 99 = .ok (.if_icmp .ge 11, 3) := by decide +kernel
theorem dX11_copy_71 : decode cX11_copy 71 = .ok (.iload 5, 2) := by decide +kernel
theorem dX11_copy_73 : decode cX11_copy 73 = .ok (.iload 8, 2) := by decide +kernel
theorem dX11_copy_75 : decode cX11_copy 75 = .ok (.if_icmp .gt 7, 3) := by decide +kernel
theorem dX11_copy_78 : decode cX11_copy 78 = .ok (.iload_n 3, 1) := by decide +kernel
theorem dX11_copy_79 : decode cX11_copy 79 = .ok (.goto 4, 3) := by decide +kernel
theorem dX11_copy_116 : decode cX11_copy 116 = .ok (.iload 4, 2) := by decide +kernel
theorem dX11_copy_118 : decode cX11_copy 118 = .ok (.ifCond .eq 8, 3) := by decide +kernel
theorem dX11_copy_126 : decode cX11_copy 126 = .ok (.iload 6, 2) := by decide +kernel
theorem dX11_copy_128 : decode cX11_copy 128 = .ok (.ireturn, 1) := by decide +kernel
theorem dX11_copy_121 : decode cX11_copy 121 = .ok (.iload 7, 2) := by decide +kernel
theorem dX11_copy_123 : decode cX11_copy 123 = .ok (.goto 5, 3) := by decide +kernel
theorem dX11_worn_0 : decode cX11_worn 0 = .ok (.iload_n 1, 1) := by decide +kernel
theorem dX11_worn_1 : decode cX11_worn 1 = .ok (.iconst (-1), 1) := by decide +kernel
theorem dX11_worn_2 : decode cX11_worn 2 = .ok (.if_icmp .ne 14, 3) := by decide +kernel
theorem dX11_worn_16 : decode cX11_worn 16 = .ok (.aload_n 0, 1) := by decide +kernel
theorem dX11_worn_17 : decode cX11_worn 17 = .ok (.getfield 13, 3) := by decide +kernel
theorem dX11_worn_20 : decode cX11_worn 20 = .ok (.getfield 131, 3) := by decide +kernel
theorem dX11_worn_23 : decode cX11_worn 23 = .ok (.iload_n 1, 1) := by decide +kernel
theorem dX11_worn_24 : decode cX11_worn 24 = .ok (.invokevirtual 211, 3) := by decide +kernel
theorem dX11_worn_27 : decode cX11_worn 27 = .ok (.ifCond .eq 13, 3) := by decide +kernel
theorem dX11_worn_40 : decode cX11_worn 40 = .ok (.bipush (-2), 2) := by decide +kernel
theorem dX11_worn_42 : decode cX11_worn 42 = .ok (.ireturn, 1) := by decide +kernel
theorem dX11_worn_30 : decode cX11_worn 30 = .ok (.iload_n 2, 1) := by decide +kernel
theorem dX11_worn_31 : decode cX11_worn 31 = .ok (.iconst 0, 1) := by decide +kernel
theorem dX11_worn_32 : decode cX11_worn 32 = .ok (.bipush 99, 2) := by decide +kernel
theorem dX11_worn_34 : decode cX11_worn 34 = .ok (.invokestatic 146, 3) := by decide +kernel
theorem dX11_worn_37 : decode cX11_worn 37 = .ok (.ifCond .ne 6, 3) := by decide +kernel
theorem dX11_worn_43 : decode cX11_worn 43 = .ok (.aload_n 0, 1) := by decide +kernel
theorem dX11_worn_44 : decode cX11_worn 44 = .ok (.getfield 13, 3) := by decide +kernel
theorem dX11_worn_47 : decode cX11_worn 47 = .ok (.getfield 326, 3) := by decide +kernel
theorem kf11_326 : inW (Cond.fieldLinkNest RX11 326 "KneeOaths$World" "wearings" "LKneeOaths$Told;" "KneeOaths") := ⟨List.mem_of_getElem? (i := 287) (by decide +kernel), by decide +kernel⟩
theorem dX11_worn_50 : decode cX11_worn 50 = .ok (.iload_n 1, 1) := by decide +kernel
theorem dX11_worn_51 : decode cX11_worn 51 = .ok (.iload_n 2, 1) := by decide +kernel
theorem dX11_worn_52 : decode cX11_worn 52 = .ok (.iconst 0, 1) := by decide +kernel
theorem dX11_worn_53 : decode cX11_worn 53 = .ok (.invokevirtual 258, 3) := by decide +kernel
theorem dX11_worn_56 : decode cX11_worn 56 = .ok (.ireturn, 1) := by decide +kernel
theorem dX11_worn_5 : decode cX11_worn 5 = .ok (.aload_n 0, 1) := by decide +kernel
theorem dX11_worn_6 : decode cX11_worn 6 = .ok (.getfield 13, 3) := by decide +kernel
theorem dX11_worn_9 : decode cX11_worn 9 = .ok (.getfield 326, 3) := by decide +kernel
theorem dX11_worn_12 : decode cX11_worn 12 = .ok (.invokevirtual 253, 3) := by decide +kernel
theorem dX11_worn_15 : decode cX11_worn 15 = .ok (.ireturn, 1) := by decide +kernel
theorem dX11_whose_0 : decode cX11_whose 0 = .ok (.iconst 0, 1) := by decide +kernel
theorem dX11_whose_1 : decode cX11_whose 1 = .ok (.istore_n 1, 1) := by decide +kernel
theorem dX11_whose_2 : decode cX11_whose 2 = .ok (.iconst 0, 1) := by decide +kernel
theorem dX11_whose_3 : decode cX11_whose 3 = .ok (.istore_n 2, 1) := by decide +kernel
theorem dX11_whose_4 : decode cX11_whose 4 = .ok (.iload_n 2, 1) := by decide +kernel
theorem dX11_whose_5 : decode cX11_whose 5 = .ok (.aload_n 0, 1) := by decide +kernel
theorem dX11_whose_6 : decode cX11_whose 6 = .ok (.getfield 13, 3) := by decide +kernel
theorem dX11_whose_9 : decode cX11_whose 9 = .ok (.getfield 329, 3) := by decide +kernel
theorem kf11_329 : inW (Cond.fieldLinkNest RX11 329 "KneeOaths$World" "textCount" "I" "KneeOaths") := ⟨List.mem_of_getElem? (i := 294) (by decide +kernel), by decide +kernel⟩
theorem dX11_whose_12 : decode cX11_whose 12 = .ok (.if_icmp .ge 26, 3) := by decide +kernel
theorem dX11_whose_38 : decode cX11_whose 38 = .ok (.iload_n 1, 1) := by decide +kernel
theorem dX11_whose_39 : decode cX11_whose 39 = .ok (.ireturn, 1) := by decide +kernel
theorem dX11_whose_15 : decode cX11_whose 15 = .ok (.aload_n 0, 1) := by decide +kernel
theorem dX11_whose_16 : decode cX11_whose 16 = .ok (.getfield 34, 3) := by decide +kernel
theorem dX11_whose_19 : decode cX11_whose 19 = .ok (.iload_n 2, 1) := by decide +kernel
theorem dX11_whose_20 : decode cX11_whose 20 = .ok (.invokevirtual 332, 3) := by decide +kernel
theorem cw_X3_explains : CWv yX3_explains cX3_explains 4 (some .boolean) 1 := ⟨⟨⟨List.mem_of_getElem? (i := 131) (by decide +kernel), by decide +kernel⟩, ⟨List.mem_of_getElem? (i := 1421) (by decide +kernel), by decide +kernel⟩, by decide +kernel⟩, ⟨List.mem_of_getElem? (i := 1419) (by decide +kernel), by decide +kernel⟩, ⟨List.mem_of_getElem? (i := 1420) (by decide +kernel), by decide +kernel⟩⟩
theorem km11_332 : inW (Cond.methodLink RX11 332 yX3_explains) := ⟨List.mem_of_getElem? (i := 1418) (by decide +kernel), by decide +kernel⟩
theorem dX11_whose_23 : decode cX11_whose 23 = .ok (.ifCond .eq 9, 3) := by decide +kernel
theorem dX11_whose_32 : decode cX11_whose 32 = .ok (.iinc 2 1, 3) := by decide +kernel
theorem dX11_whose_35 : decode cX11_whose 35 = .ok (.goto (-31), 3) := by decide +kernel
theorem dX11_whose_26 : decode cX11_whose 26 = .ok (.iload_n 1, 1) := by decide +kernel
theorem dX11_whose_27 : decode cX11_whose 27 = .ok (.iconst 1, 1) := by decide +kernel
theorem dX11_whose_28 : decode cX11_whose 28 = .ok (.iload_n 2, 1) := by decide +kernel
theorem dX11_whose_29 : decode cX11_whose 29 = .ok (.ishl, 1) := by decide +kernel
theorem dX11_whose_30 : decode cX11_whose 30 = .ok (.ior, 1) := by decide +kernel
theorem dX11_whose_31 : decode cX11_whose 31 = .ok (.istore_n 1, 1) := by decide +kernel
theorem dX11_mostSworn_0 : decode cX11_mostSworn 0 = .ok (.aload_n 0, 1) := by decide +kernel
theorem dX11_mostSworn_1 : decode cX11_mostSworn 1 = .ok (.getfield 75, 3) := by decide +kernel
theorem dX11_mostSworn_4 : decode cX11_mostSworn 4 = .ok (.invokevirtual 335, 3) := by decide +kernel
theorem cw_X0_mostOften : CWv yX0_mostOften cX0_mostOften 5 (some .int) 0 := ⟨⟨⟨List.mem_of_getElem? (i := 136) (by decide +kernel), by decide +kernel⟩, ⟨List.mem_of_getElem? (i := 1432) (by decide +kernel), by decide +kernel⟩, by decide +kernel⟩, ⟨List.mem_of_getElem? (i := 1430) (by decide +kernel), by decide +kernel⟩, ⟨List.mem_of_getElem? (i := 1431) (by decide +kernel), by decide +kernel⟩⟩
theorem km11_335 : inW (Cond.methodLink RX11 335 yX0_mostOften) := ⟨List.mem_of_getElem? (i := 1429) (by decide +kernel), by decide +kernel⟩
theorem dX11_mostSworn_7 : decode cX11_mostSworn 7 = .ok (.ireturn, 1) := by decide +kernel
theorem dX11_faithful_0 : decode cX11_faithful 0 = .ok (.aload_n 0, 1) := by decide +kernel
theorem dX11_faithful_1 : decode cX11_faithful 1 = .ok (.getfield 75, 3) := by decide +kernel
theorem dX11_faithful_4 : decode cX11_faithful 4 = .ok (.invokevirtual 338, 3) := by decide +kernel
theorem cw_X0_unbroken : CWv yX0_unbroken cX0_unbroken 3 (some .int) 0 := ⟨⟨⟨List.mem_of_getElem? (i := 136) (by decide +kernel), by decide +kernel⟩, ⟨List.mem_of_getElem? (i := 1444) (by decide +kernel), by decide +kernel⟩, by decide +kernel⟩, ⟨List.mem_of_getElem? (i := 1442) (by decide +kernel), by decide +kernel⟩, ⟨List.mem_of_getElem? (i := 1443) (by decide +kernel), by decide +kernel⟩⟩
theorem km11_338 : inW (Cond.methodLink RX11 338 yX0_unbroken) := ⟨List.mem_of_getElem? (i := 1441) (by decide +kernel), by decide +kernel⟩
theorem dX11_faithful_7 : decode cX11_faithful 7 = .ok (.ireturn, 1) := by decide +kernel
theorem dX11_ached_0 : decode cX11_ached 0 = .ok (.iload_n 1, 1) := by decide +kernel
theorem dX11_ached_1 : decode cX11_ached 1 = .ok (.iconst (-1), 1) := by decide +kernel
theorem dX11_ached_2 : decode cX11_ached 2 = .ok (.if_icmp .eq 17, 3) := by decide +kernel
theorem dX11_ached_19 : decode cX11_ached 19 = .ok (.aload_n 0, 1) := by decide +kernel
theorem dX11_ached_20 : decode cX11_ached 20 = .ok (.getfield 13, 3) := by decide +kernel
theorem dX11_ached_23 : decode cX11_ached 23 = .ok (.getfield 131, 3) := by decide +kernel
theorem dX11_ached_26 : decode cX11_ached 26 = .ok (.iload_n 1, 1) := by decide +kernel
theorem dX11_ached_27 : decode cX11_ached 27 = .ok (.invokevirtual 341, 3) := by decide +kernel
theorem cw_X4_writtenOf : CWv yX4_writtenOf cX4_writtenOf 4 (some .int) 1 := ⟨⟨⟨List.mem_of_getElem? (i := 125) (by decide +kernel), by decide +kernel⟩, ⟨List.mem_of_getElem? (i := 1452) (by decide +kernel), by decide +kernel⟩, by decide +kernel⟩, ⟨List.mem_of_getElem? (i := 1450) (by decide +kernel), by decide +kernel⟩, ⟨List.mem_of_getElem? (i := 1451) (by decide +kernel), by decide +kernel⟩⟩
theorem km11_341 : inW (Cond.methodLink RX11 341 yX4_writtenOf) := ⟨List.mem_of_getElem? (i := 1449) (by decide +kernel), by decide +kernel⟩
theorem dX11_ached_30 : decode cX11_ached 30 = .ok (.ireturn, 1) := by decide +kernel
theorem dX11_ached_5 : decode cX11_ached 5 = .ok (.aload_n 0, 1) := by decide +kernel
theorem dX11_ached_6 : decode cX11_ached 6 = .ok (.getfield 13, 3) := by decide +kernel
theorem dX11_ached_9 : decode cX11_ached 9 = .ok (.iload_n 1, 1) := by decide +kernel
theorem dX11_ached_10 : decode cX11_ached 10 = .ok (.invokevirtual 192, 3) := by decide +kernel
theorem dX11_ached_13 : decode cX11_ached 13 = .ok (.ifCond .ne 6, 3) := by decide +kernel
theorem dX11_ached_16 : decode cX11_ached 16 = .ok (.bipush (-2), 2) := by decide +kernel
theorem dX11_ached_18 : decode cX11_ached 18 = .ok (.ireturn, 1) := by decide +kernel
theorem dX11_worstDay_0 : decode cX11_worstDay 0 = .ok (.aload_n 0, 1) := by decide +kernel
theorem dX11_worstDay_1 : decode cX11_worstDay 1 = .ok (.getfield 13, 3) := by decide +kernel
theorem dX11_worstDay_4 : decode cX11_worstDay 4 = .ok (.getfield 131, 3) := by decide +kernel
theorem dX11_worstDay_7 : decode cX11_worstDay 7 = .ok (.invokevirtual 344, 3) := by decide +kernel
theorem cw_X4_dayOfMost : CWv yX4_dayOfMost cX4_dayOfMost 4 (some .int) 0 := ⟨⟨⟨List.mem_of_getElem? (i := 125) (by decide +kernel), by decide +kernel⟩, ⟨List.mem_of_getElem? (i := 1461) (by decide +kernel), by decide +kernel⟩, by decide +kernel⟩, ⟨List.mem_of_getElem? (i := 1459) (by decide +kernel), by decide +kernel⟩, ⟨List.mem_of_getElem? (i := 1460) (by decide +kernel), by decide +kernel⟩⟩
theorem km11_344 : inW (Cond.methodLink RX11 344 yX4_dayOfMost) := ⟨List.mem_of_getElem? (i := 1458) (by decide +kernel), by decide +kernel⟩
theorem dX11_worstDay_10 : decode cX11_worstDay 10 = .ok (.ireturn, 1) := by decide +kernel
theorem dX11_about_0 : decode cX11_about 0 = .ok (.iload_n 1, 1) := by decide +kernel
theorem dX11_about_1 : decode cX11_about 1 = .ok (.tableswitch 150 0 9 #[55, 63, 71, 79, 87, 98, 109, 120, 131, 142], 55) := by decide +kernel
theorem sw_0_9 (x : Int32) : x = 0 ∨ x = 1 ∨ x = 2 ∨ x = 3 ∨ x = 4 ∨ x = 5 ∨ x = 6 ∨ x = 7 ∨ x = 8 ∨ x = 9 ∨ (x.toInt < 0 ∨ 9 < x.toInt) := by
  have key : ∀ k : Int32, x.toInt = k.toInt → x = k := fun k h => Int32.toInt_inj.mp h
  by_cases h1 : x.toInt < 0
  · simp [h1]
  by_cases h2 : 9 < x.toInt
  · simp [h2]
  have h3 : x.toInt = 0 ∨ x.toInt = 1 ∨ x.toInt = 2 ∨ x.toInt = 3 ∨ x.toInt = 4 ∨ x.toInt = 5 ∨ x.toInt = 6 ∨ x.toInt = 7 ∨ x.toInt = 8 ∨ x.toInt = 9 := by omega
  rcases h3 with h | h | h | h | h | h | h | h | h | h
  · rw [key 0 (h.trans (by decide))]; decide
  · rw [key 1 (h.trans (by decide))]; decide
  · rw [key 2 (h.trans (by decide))]; decide
  · rw [key 3 (h.trans (by decide))]; decide
  · rw [key 4 (h.trans (by decide))]; decide
  · rw [key 5 (h.trans (by decide))]; decide
  · rw [key 6 (h.trans (by decide))]; decide
  · rw [key 7 (h.trans (by decide))]; decide
  · rw [key 8 (h.trans (by decide))]; decide
  · rw [key 9 (h.trans (by decide))]; decide
theorem dX11_about_56 : decode cX11_about 56 = .ok (.aload_n 0, 1) := by decide +kernel
theorem dX11_about_57 : decode cX11_about 57 = .ok (.getfield 13, 3) := by decide +kernel
theorem dX11_about_60 : decode cX11_about 60 = .ok (.getfield 174, 3) := by decide +kernel
theorem dX11_about_63 : decode cX11_about 63 = .ok (.ireturn, 1) := by decide +kernel
theorem dX11_about_64 : decode cX11_about 64 = .ok (.aload_n 0, 1) := by decide +kernel
theorem dX11_about_65 : decode cX11_about 65 = .ok (.getfield 13, 3) := by decide +kernel
theorem dX11_about_68 : decode cX11_about 68 = .ok (.getfield 329, 3) := by decide +kernel
theorem dX11_about_71 : decode cX11_about 71 = .ok (.ireturn, 1) := by decide +kernel
theorem dX11_about_72 : decode cX11_about 72 = .ok (.aload_n 0, 1) := by decide +kernel
theorem dX11_about_73 : decode cX11_about 73 = .ok (.getfield 13, 3) := by decide +kernel
theorem dX11_about_76 : decode cX11_about 76 = .ok (.getfield 212, 3) := by decide +kernel
theorem dX11_about_79 : decode cX11_about 79 = .ok (.ireturn, 1) := by decide +kernel
theorem dX11_about_80 : decode cX11_about 80 = .ok (.aload_n 0, 1) := by decide +kernel
theorem dX11_about_81 : decode cX11_about 81 = .ok (.getfield 13, 3) := by decide +kernel
theorem dX11_about_84 : decode cX11_about 84 = .ok (.getfield 189, 3) := by decide +kernel
theorem dX11_about_87 : decode cX11_about 87 = .ok (.ireturn, 1) := by decide +kernel
theorem dX11_about_88 : decode cX11_about 88 = .ok (.aload_n 0, 1) := by decide +kernel
theorem dX11_about_89 : decode cX11_about 89 = .ok (.getfield 13, 3) := by decide +kernel
theorem dX11_about_92 : decode cX11_about 92 = .ok (.getfield 249, 3) := by decide +kernel
theorem dX11_about_95 : decode cX11_about 95 = .ok (.getfield 350, 3) := by decide +kernel
theorem kf11_350 : inW (Cond.fieldLinkNest RX11 350 "KneeOaths$Told" "count" "I" "KneeOaths") := ⟨List.mem_of_getElem? (i := 224) (by decide +kernel), by decide +kernel⟩
theorem dX11_about_98 : decode cX11_about 98 = .ok (.ireturn, 1) := by decide +kernel
theorem dX11_about_99 : decode cX11_about 99 = .ok (.aload_n 0, 1) := by decide +kernel
theorem dX11_about_100 : decode cX11_about 100 = .ok (.getfield 13, 3) := by decide +kernel
theorem dX11_about_103 : decode cX11_about 103 = .ok (.getfield 284, 3) := by decide +kernel
theorem dX11_about_106 : decode cX11_about 106 = .ok (.getfield 350, 3) := by decide +kernel
theorem dX11_about_109 : decode cX11_about 109 = .ok (.ireturn, 1) := by decide +kernel
theorem dX11_about_110 : decode cX11_about 110 = .ok (.aload_n 0, 1) := by decide +kernel
theorem dX11_about_111 : decode cX11_about 111 = .ok (.getfield 13, 3) := by decide +kernel
theorem dX11_about_114 : decode cX11_about 114 = .ok (.getfield 293, 3) := by decide +kernel
theorem kf11_293 : inW (Cond.fieldLinkNest RX11 293 "KneeOaths$World" "words" "LKneeOaths$Told;" "KneeOaths") := ⟨List.mem_of_getElem? (i := 281) (by decide +kernel), by decide +kernel⟩
theorem dX11_about_117 : decode cX11_about 117 = .ok (.getfield 350, 3) := by decide +kernel
theorem dX11_about_120 : decode cX11_about 120 = .ok (.ireturn, 1) := by decide +kernel
theorem dX11_about_121 : decode cX11_about 121 = .ok (.aload_n 0, 1) := by decide +kernel
theorem dX11_about_122 : decode cX11_about 122 = .ok (.getfield 13, 3) := by decide +kernel
theorem dX11_about_125 : decode cX11_about 125 = .ok (.getfield 313, 3) := by decide +kernel
theorem dX11_about_128 : decode cX11_about 128 = .ok (.getfield 350, 3) := by decide +kernel
theorem dX11_about_131 : decode cX11_about 131 = .ok (.ireturn, 1) := by decide +kernel
theorem dX11_about_132 : decode cX11_about 132 = .ok (.aload_n 0, 1) := by decide +kernel
theorem dX11_about_133 : decode cX11_about 133 = .ok (.getfield 13, 3) := by decide +kernel
theorem dX11_about_136 : decode cX11_about 136 = .ok (.getfield 326, 3) := by decide +kernel
theorem dX11_about_139 : decode cX11_about 139 = .ok (.getfield 350, 3) := by decide +kernel
theorem dX11_about_142 : decode cX11_about 142 = .ok (.ireturn, 1) := by decide +kernel
theorem dX11_about_143 : decode cX11_about 143 = .ok (.aload_n 0, 1) := by decide +kernel
theorem dX11_about_144 : decode cX11_about 144 = .ok (.getfield 25, 3) := by decide +kernel
theorem dX11_about_147 : decode cX11_about 147 = .ok (.invokevirtual 91, 3) := by decide +kernel
theorem dX11_about_150 : decode cX11_about 150 = .ok (.ireturn, 1) := by decide +kernel
theorem dX11_about_151 : decode cX11_about 151 = .ok (.bipush (-2), 2) := by decide +kernel
theorem dX11_about_153 : decode cX11_about 153 = .ok (.ireturn, 1) := by decide +kernel
def ZZp (w : Nat → Int × Int) (q : Nat → (Nat → Int32) → Prop) : Prop := ∀ j, j < 10 → j ≠ 2 → j ≠ 7 → ((w j).1 ≤ 0 ∧ 8 ≤ (w j).2) ∧ ∀ g, q j g
section FEED
variable {B : Nat → Int32} {nL : Int} {i1 i2 i3 i4 i5 : Int32}
def feN (n : Int) : Int := if n + 20 ≤ 300 then n + 20 else n
def feB (B : Nat → Int32) (n : Int) (i1 i2 i3 i4 i5 : Int32) : Nat → Int32 := if n + 20 ≤ 300 then ap4 (ap4 (ap4 (ap4 (ap4 B n.toNat i1) (n.toNat + 4) i2) (n.toNat + 8) i3) (n.toNat + 12) i4) (n.toNat + 16) i5 else B
theorem fe_y (h : nL + 20 ≤ 300) (h0 : 0 ≤ nL) : feN nL = nL + 4 + 4 + 4 + 4 + 4 ∧ feB B nL i1 i2 i3 i4 i5 = ap4 (ap4 (ap4 (ap4 (ap4 B nL.toNat i1) (nL + 4).toNat i2) (nL + 4 + 4).toNat i3) (nL + 4 + 4 + 4).toNat i4) (nL + 4 + 4 + 4 + 4).toNat i5 := by
  unfold feN feB
  rw [if_pos h, if_pos h, show (nL + 4).toNat = nL.toNat + 4 by omega, show (nL + 4 + 4).toNat = nL.toNat + 8 by omega, show (nL + 4 + 4 + 4).toNat = nL.toNat + 12 by omega, show (nL + 4 + 4 + 4 + 4).toNat = nL.toNat + 16 by omega]
  exact ⟨by omega, rfl⟩
theorem fe_n (h : ¬ nL + 20 ≤ 300) : feN nL = nL ∧ feB B nL i1 i2 i3 i4 i5 = B := by
  unfold feN feB
  rw [if_neg h, if_neg h]
  exact ⟨rfl, rfl⟩
def faV (kF pF : Int) (i : Int32) : Int := if i = 0 then kF else if i = 1 then pF else -1
end FEED
set_option maxHeartbeats 4000000 in
set_option maxRecDepth 100000 in
theorem x_X11_one {l : Launch} {G : GG}  {L : List Nat} {f : HF} {ad : Nat → Nat → Nat} {nL : Int} {bT : Nat → Int32} {kF : Int} {pF : Int} {tc w : Nat → Int × Int} {q : Nat → (Nat → Int32) → Prop} {i1 i2 : Int32} (I : SH (spC ((NR 30 0 4, fz (pp nL) FI FI FI FI FI FI (pp kF) (pp pF), tz (EQ bT) TA TA TA, sc0) : RS) ((0, 6) : Int × Int) tc w q) nnC G ad L f) (hW : WBp w 8) (hT : WBp tc 4) (hQ : QIp q) (hZ : ZZp w q) (hE : ∀ j, (tc j).1 = (tc j).2) : PMi l yX11_one cX11_one 3 .int 2 0 0 G [.ref (ad 0 0), .int i1, .int i2] L f (fun r L1 f1 => SH (spC ((NR 30 0 4, fz (pp nL) FI FI FI FI FI FI (pp kF) (pp pF), tz (EQ bT) TA TA TA, sc0) : RS) ((0, 6) : Int × Int) tc w q) nnC G ad L1 f1) := by
  refine PMi.of (post := fun r L1 f1 => SH (spC ((NR 30 0 4, fz (pp nL) FI FI FI FI FI FI (pp kF) (pp pF), tz (EQ bT) TA TA TA, sc0) : RS) ((0, 6) : Int × Int) tc w q) nnC G ad L1 f1) (own := RX11) (by decide) rfl (Nat.le_of_ble_eq_true rfl) (fun sz p e s m args below meth c A ls hA1 hname S Y hl => ?_)
  have hx := S.hx
  have hb := S.hb
  have hl : lv_has ls 3 [(0, .ref (ad 0 0)), (1, .int i1), (2, .int i2)] := hl
  refine lv_aload_n hx hb dX11_one_0 rfl (lv_at hl 0 rfl) ?_
  have p_ad_0_0 := opnC_0 (j := 0) I (by decide)
  have p_ad_0_0 : pt L f (ad 0 0) (.inr (11, [.ref (ad 1 0), .ref (ad 1 1), .ref (ad 2 0), .ref (ad 3 0), .ref (ad 4 0), .ref (ad 5 0), .ref (ad 6 0), .ref (ad 7 0), .ref (ad 8 0)])) := p_ad_0_0
  refine pg_get S Y ok_X11 0 (by decide) kf11_13 (v := .ref (ad 1 0)) p_ad_0_0 rfl dX11_one_1 ?_
  refine lv_iload_n hx hb dX11_one_4 rfl (lv_at hl 1 rfl) ?_
  refine lv_iload_n hx hb dX11_one_5 rfl (lv_at hl 2 rfl) ?_
  refine cVi (As := [.int i1, .int i2]) (rest := []) S Y (x_X10_welcome (l := l) I hW hT hQ) cw_X10_welcome km11_79 (I.opo (k := 1) (j := 0) (by decide) rfl).choose_spec.1 ok_X10.1 rfl rfl ⟨Nat.le_of_ble_eq_true rfl, Nat.le_of_ble_eq_true rfl⟩ hl.1 rfl (Nat.le_of_ble_eq_true rfl) ⟨Nat.le_of_ble_eq_true rfl, Nat.le_of_ble_eq_true rfl⟩ dX11_one_6 (fun r_84970 L_84968 f_84969 H locs I Y => ?_)
  exact prI (post := fun r L1 f1 => SH (spC ((NR 30 0 4, fz (pp nL) FI FI FI FI FI FI (pp kF) (pp pF), tz (EQ bT) TA TA TA, sc0) : RS) ((0, 6) : Int × Int) tc w q) nnC G ad L1 f1) S Y rfl (by decide) (by decide) hA1 I dX11_one_9
set_option maxHeartbeats 4000000 in
set_option maxRecDepth 100000 in
theorem x_X11_feed {l : Launch} {G : GG}  {L : List Nat} {f : HF} {ad : Nat → Nat → Nat} {nL : Int} {bT : Nat → Int32} {kF : Int} {pF : Int} {tc w : Nat → Int × Int} {q : Nat → (Nat → Int32) → Prop} {i1 i2 i3 i4 i5 : Int32} (I : SH (spC ((NR 30 0 4, fz (pp nL) FI FI FI FI FI FI (pp kF) (pp pF), tz (EQ bT) TA TA TA, sc0) : RS) ((0, 6) : Int × Int) tc w q) nnC G ad L f) (hW : WBp w 8) (hT : WBp tc 4) (hQ : QIp q) (hZ : ZZp w q) (hE : ∀ j, (tc j).1 = (tc j).2) (hL : 0 ≤ nL ∧ nL ≤ 300) : PMi l yX11_feed cX11_feed 6 .int 1 0 0 G [.ref (ad 0 0), .int i1, .int i2, .int i3, .int i4, .int i5] L f (fun r L1 f1 => (r.toInt = if nL + 20 ≤ 300 then nL + 20 else -1) ∧ SH (spC ((NR 30 0 4, fz (pp (feN nL)) FI FI FI FI FI FI (pp kF) (pp pF), tz (EQ (feB bT nL i1 i2 i3 i4 i5)) TA TA TA, sc0) : RS) ((0, 6) : Int × Int) tc w q) nnC G ad L1 f1) := by
  refine PMi.of (post := fun r L1 f1 => (r.toInt = if nL + 20 ≤ 300 then nL + 20 else -1) ∧ SH (spC ((NR 30 0 4, fz (pp (feN nL)) FI FI FI FI FI FI (pp kF) (pp pF), tz (EQ (feB bT nL i1 i2 i3 i4 i5)) TA TA TA, sc0) : RS) ((0, 6) : Int × Int) tc w q) nnC G ad L1 f1) (own := RX11) (by decide) rfl (Nat.le_of_ble_eq_true rfl) (fun sz p e s m args below meth c A ls hA1 hname S Y hl => ?_)
  have hx := S.hx
  have hb := S.hb
  have hl : lv_has ls 6 [(0, .ref (ad 0 0)), (1, .int i1), (2, .int i2), (3, .int i3), (4, .int i4), (5, .int i5)] := hl
  refine lv_aload_n hx hb dX11_feed_0 rfl (lv_at hl 0 rfl) ?_
  have p_ad_0_0 := opnC_0 (j := 0) I (by decide)
  have p_ad_0_0 : pt L f (ad 0 0) (.inr (11, [.ref (ad 1 0), .ref (ad 1 1), .ref (ad 2 0), .ref (ad 3 0), .ref (ad 4 0), .ref (ad 5 0), .ref (ad 6 0), .ref (ad 7 0), .ref (ad 8 0)])) := p_ad_0_0
  refine pg_get S Y ok_X11 2 (by decide) kf11_25 (v := .ref (ad 2 0)) p_ad_0_0 rfl dX11_feed_1 ?_
  refine lv_bipush (v := 20) hx hb dX11_feed_4 (by decide) ?_
  refine cVp (As := [.int 20]) (rest := []) S Y (x_X5_hasRoomFor (l := l) I hW hT hQ (bn_w (show bn 20 20 (20 : Int32) from bn_k (by decide)) (by decide))) cw_X5_hasRoomFor km11_83 (I.opo (k := 2) (j := 0) (by decide) rfl).choose_spec.1 ok_X5.1 rfl rfl ⟨Nat.le_of_ble_eq_true rfl, Nat.le_of_ble_eq_true rfl⟩ hl.1 rfl (Nat.le_of_ble_eq_true rfl) ⟨Nat.le_of_ble_eq_true rfl, Nat.le_of_ble_eq_true rfl⟩ dX11_feed_6 (fun r_84999 H locs er_84999 Y => ?_)
  refine lv_if_ne (tgt := 14) hx hb dX11_feed_9 (by decide) (fun c_85000 => ?_) (fun c_85000 => ?_)
  · refine lv_aload_n hx hb dX11_feed_14 rfl (lv_at hl 0 rfl) ?_
    refine pg_get S Y ok_X11 2 (by decide) kf11_25 (v := .ref (ad 2 0)) p_ad_0_0 rfl dX11_feed_15 ?_
    refine lv_iload_n hx hb dX11_feed_18 rfl (lv_at hl 1 rfl) ?_
    refine cVv (As := [.int i1]) (rest := []) S Y (x_X5_append (l := l) I hW hT hQ (by have h9 := (hasL_of er_84999.2 c_85000); have h8 := hL.1; omega)) cw_X5_append km11_87 (I.opo (k := 2) (j := 0) (by decide) rfl).choose_spec.1 ok_X5.1 rfl rfl ⟨Nat.le_of_ble_eq_true rfl, Nat.le_of_ble_eq_true rfl⟩ hl.1 rfl (Nat.le_of_ble_eq_true rfl) ⟨Nat.le_of_ble_eq_true rfl, Nat.le_of_ble_eq_true rfl⟩ dX11_feed_19 (fun L_85002 f_85003 H locs I Y => ?_)
    refine lv_aload_n hx hb dX11_feed_22 rfl (lv_at hl 0 rfl) ?_
    have p_ad_0_0 := opnC_0 (j := 0) I (by decide)
    have p_ad_0_0 : pt L_85002 f_85003 (ad 0 0) (.inr (11, [.ref (ad 1 0), .ref (ad 1 1), .ref (ad 2 0), .ref (ad 3 0), .ref (ad 4 0), .ref (ad 5 0), .ref (ad 6 0), .ref (ad 7 0), .ref (ad 8 0)])) := p_ad_0_0
    refine pg_get S Y ok_X11 2 (by decide) kf11_25 (v := .ref (ad 2 0)) p_ad_0_0 rfl dX11_feed_23 ?_
    refine lv_iload_n hx hb dX11_feed_26 rfl (lv_at hl 2 rfl) ?_
    refine cVv (As := [.int i2]) (rest := []) S Y (x_X5_append (l := l) I hW hT hQ (by have h9 := (hasL_of er_84999.2 c_85000); have h8 := hL.1; omega)) cw_X5_append km11_87 (I.opo (k := 2) (j := 0) (by decide) rfl).choose_spec.1 ok_X5.1 rfl rfl ⟨Nat.le_of_ble_eq_true rfl, Nat.le_of_ble_eq_true rfl⟩ hl.1 rfl (Nat.le_of_ble_eq_true rfl) ⟨Nat.le_of_ble_eq_true rfl, Nat.le_of_ble_eq_true rfl⟩ dX11_feed_27 (fun L_85004 f_85005 H locs I Y => ?_)
    refine lv_aload_n hx hb dX11_feed_30 rfl (lv_at hl 0 rfl) ?_
    have p_ad_0_0 := opnC_0 (j := 0) I (by decide)
    have p_ad_0_0 : pt L_85004 f_85005 (ad 0 0) (.inr (11, [.ref (ad 1 0), .ref (ad 1 1), .ref (ad 2 0), .ref (ad 3 0), .ref (ad 4 0), .ref (ad 5 0), .ref (ad 6 0), .ref (ad 7 0), .ref (ad 8 0)])) := p_ad_0_0
    refine pg_get S Y ok_X11 2 (by decide) kf11_25 (v := .ref (ad 2 0)) p_ad_0_0 rfl dX11_feed_31 ?_
    refine lv_iload_n hx hb dX11_feed_34 rfl (lv_at hl 3 rfl) ?_
    refine cVv (As := [.int i3]) (rest := []) S Y (x_X5_append (l := l) I hW hT hQ (by have h9 := (hasL_of er_84999.2 c_85000); have h8 := hL.1; omega)) cw_X5_append km11_87 (I.opo (k := 2) (j := 0) (by decide) rfl).choose_spec.1 ok_X5.1 rfl rfl ⟨Nat.le_of_ble_eq_true rfl, Nat.le_of_ble_eq_true rfl⟩ hl.1 rfl (Nat.le_of_ble_eq_true rfl) ⟨Nat.le_of_ble_eq_true rfl, Nat.le_of_ble_eq_true rfl⟩ dX11_feed_35 (fun L_85006 f_85007 H locs I Y => ?_)
    refine lv_aload_n hx hb dX11_feed_38 rfl (lv_at hl 0 rfl) ?_
    have p_ad_0_0 := opnC_0 (j := 0) I (by decide)
    have p_ad_0_0 : pt L_85006 f_85007 (ad 0 0) (.inr (11, [.ref (ad 1 0), .ref (ad 1 1), .ref (ad 2 0), .ref (ad 3 0), .ref (ad 4 0), .ref (ad 5 0), .ref (ad 6 0), .ref (ad 7 0), .ref (ad 8 0)])) := p_ad_0_0
    refine pg_get S Y ok_X11 2 (by decide) kf11_25 (v := .ref (ad 2 0)) p_ad_0_0 rfl dX11_feed_39 ?_
    refine lv_iload hx hb dX11_feed_42 (lv_at hl 4 rfl) ?_
    refine cVv (As := [.int i4]) (rest := []) S Y (x_X5_append (l := l) I hW hT hQ (by have h9 := (hasL_of er_84999.2 c_85000); have h8 := hL.1; omega)) cw_X5_append km11_87 (I.opo (k := 2) (j := 0) (by decide) rfl).choose_spec.1 ok_X5.1 rfl rfl ⟨Nat.le_of_ble_eq_true rfl, Nat.le_of_ble_eq_true rfl⟩ hl.1 rfl (Nat.le_of_ble_eq_true rfl) ⟨Nat.le_of_ble_eq_true rfl, Nat.le_of_ble_eq_true rfl⟩ dX11_feed_44 (fun L_85008 f_85009 H locs I Y => ?_)
    refine lv_aload_n hx hb dX11_feed_47 rfl (lv_at hl 0 rfl) ?_
    have p_ad_0_0 := opnC_0 (j := 0) I (by decide)
    have p_ad_0_0 : pt L_85008 f_85009 (ad 0 0) (.inr (11, [.ref (ad 1 0), .ref (ad 1 1), .ref (ad 2 0), .ref (ad 3 0), .ref (ad 4 0), .ref (ad 5 0), .ref (ad 6 0), .ref (ad 7 0), .ref (ad 8 0)])) := p_ad_0_0
    refine pg_get S Y ok_X11 2 (by decide) kf11_25 (v := .ref (ad 2 0)) p_ad_0_0 rfl dX11_feed_48 ?_
    refine lv_iload hx hb dX11_feed_51 (lv_at hl 5 rfl) ?_
    refine cVv (As := [.int i5]) (rest := []) S Y (x_X5_append (l := l) I hW hT hQ (by have h9 := (hasL_of er_84999.2 c_85000); have h8 := hL.1; omega)) cw_X5_append km11_87 (I.opo (k := 2) (j := 0) (by decide) rfl).choose_spec.1 ok_X5.1 rfl rfl ⟨Nat.le_of_ble_eq_true rfl, Nat.le_of_ble_eq_true rfl⟩ hl.1 rfl (Nat.le_of_ble_eq_true rfl) ⟨Nat.le_of_ble_eq_true rfl, Nat.le_of_ble_eq_true rfl⟩ dX11_feed_53 (fun L_85010 f_85011 H locs I Y => ?_)
    refine lv_aload_n hx hb dX11_feed_56 rfl (lv_at hl 0 rfl) ?_
    have p_ad_0_0 := opnC_0 (j := 0) I (by decide)
    have p_ad_0_0 : pt L_85010 f_85011 (ad 0 0) (.inr (11, [.ref (ad 1 0), .ref (ad 1 1), .ref (ad 2 0), .ref (ad 3 0), .ref (ad 4 0), .ref (ad 5 0), .ref (ad 6 0), .ref (ad 7 0), .ref (ad 8 0)])) := p_ad_0_0
    refine pg_get S Y ok_X11 2 (by decide) kf11_25 (v := .ref (ad 2 0)) p_ad_0_0 rfl dX11_feed_57 ?_
    refine cVp (As := []) (rest := []) S Y (x_X5_size (l := l) I hW hT hQ) cw_X5_size km11_91 (I.opo (k := 2) (j := 0) (by decide) rfl).choose_spec.1 ok_X5.1 rfl rfl ⟨Nat.le_of_ble_eq_true rfl, Nat.le_of_ble_eq_true rfl⟩ hl.1 rfl (Nat.le_of_ble_eq_true rfl) ⟨Nat.le_of_ble_eq_true rfl, Nat.le_of_ble_eq_true rfl⟩ dX11_feed_60 (fun r_85012 H locs er_85012 Y => ?_)
    exact prI (post := fun r L1 f1 => (r.toInt = if nL + 20 ≤ 300 then nL + 20 else -1) ∧ SH (spC ((NR 30 0 4, fz (pp (feN nL)) FI FI FI FI FI FI (pp kF) (pp pF), tz (EQ (feB bT nL i1 i2 i3 i4 i5)) TA TA TA, sc0) : RS) ((0, 6) : Int × Int) tc w q) nnC G ad L1 f1) S Y rfl (by decide) (by decide) hA1 ⟨(by rw [if_pos (hasL_of er_84999.2 c_85000)]; have h9 := er_85012; omega), (SHe I (by rw [(fe_y (B := bT) (i1 := i1) (i2 := i2) (i3 := i3) (i4 := i4) (i5 := i5) (hasL_of er_84999.2 c_85000) hL.1).1, (fe_y (hasL_of er_84999.2 c_85000) hL.1).2]))⟩ dX11_feed_63
  · have B_85001 : bn 0 0 r_84999 := bn_w (bn_eq c_85000 (show bn 0 0 (0 : Int32) from bn_k (by decide))) (by decide)
    refine lv_iconst (v := (-1)) hx hb dX11_feed_12 (by decide) ?_
    exact prI (post := fun r L1 f1 => (r.toInt = if nL + 20 ≤ 300 then nL + 20 else -1) ∧ SH (spC ((NR 30 0 4, fz (pp (feN nL)) FI FI FI FI FI FI (pp kF) (pp pF), tz (EQ (feB bT nL i1 i2 i3 i4 i5)) TA TA TA, sc0) : RS) ((0, 6) : Int × Int) tc w q) nnC G ad L1 f1) S Y rfl (by decide) (by decide) hA1 ⟨(show (-1 : Int32).toInt = _ from by rw [if_neg (hasL_no er_84999.2 c_85000)]; rfl), (SHe I (by rw [(fe_n (B := bT) (i1 := i1) (i2 := i2) (i3 := i3) (i4 := i4) (i5 := i5) (hasL_no er_84999.2 c_85000)).1, (fe_n (hasL_no er_84999.2 c_85000)).2]))⟩ dX11_feed_13
set_option maxHeartbeats 4000000 in
set_option maxRecDepth 100000 in
theorem x_X11_end {l : Launch} {G : GG}  {L : List Nat} {f : HF} {ad : Nat → Nat → Nat} {nL : Int} {bT : Nat → Int32} {kF : Int} {pF : Int} {tc w : Nat → Int × Int} {q : Nat → (Nat → Int32) → Prop} {i1 : Int32} (I : SH (spC ((NR 30 0 4, fz (pp nL) FI FI FI FI FI FI (pp kF) (pp pF), tz (EQ bT) TA TA TA, sc0) : RS) ((0, 6) : Int × Int) tc w q) nnC G ad L f) (hW : WBp w 8) (hT : WBp tc 4) (hQ : QIp q) (hZ : ZZp w q) (hE : ∀ j, (tc j).1 = (tc j).2) : PMi l yX11_end cX11_end 2 .int 1 0 0 G [.ref (ad 0 0), .int i1] L f (fun r L1 f1 => (r.toInt = if 0 ≤ i1.toInt ∧ i1.toInt ≤ nL then i1.toInt else -1) ∧ SH (spC ((NR 30 0 4, fz (pp (cuL nL i1.toInt)) FI FI FI FI FI FI (pp kF) (pp pF), tz (EQ bT) TA TA TA, sc0) : RS) ((0, 6) : Int × Int) tc w q) nnC G ad L1 f1) := by
  refine PMi.of (post := fun r L1 f1 => (r.toInt = if 0 ≤ i1.toInt ∧ i1.toInt ≤ nL then i1.toInt else -1) ∧ SH (spC ((NR 30 0 4, fz (pp (cuL nL i1.toInt)) FI FI FI FI FI FI (pp kF) (pp pF), tz (EQ bT) TA TA TA, sc0) : RS) ((0, 6) : Int × Int) tc w q) nnC G ad L1 f1) (own := RX11) (by decide) rfl (Nat.le_of_ble_eq_true rfl) (fun sz p e s m args below meth c A ls hA1 hname S Y hl => ?_)
  have hx := S.hx
  have hb := S.hb
  have hl : lv_has ls 2 [(0, .ref (ad 0 0)), (1, .int i1)] := hl
  refine lv_aload_n hx hb dX11_end_0 rfl (lv_at hl 0 rfl) ?_
  have p_ad_0_0 := opnC_0 (j := 0) I (by decide)
  have p_ad_0_0 : pt L f (ad 0 0) (.inr (11, [.ref (ad 1 0), .ref (ad 1 1), .ref (ad 2 0), .ref (ad 3 0), .ref (ad 4 0), .ref (ad 5 0), .ref (ad 6 0), .ref (ad 7 0), .ref (ad 8 0)])) := p_ad_0_0
  refine pg_get S Y ok_X11 2 (by decide) kf11_25 (v := .ref (ad 2 0)) p_ad_0_0 rfl dX11_end_1 ?_
  refine lv_iload_n hx hb dX11_end_4 rfl (lv_at hl 1 rfl) ?_
  refine cVi (As := [.int i1]) (rest := []) S Y (x_X5_cutTo (l := l) I hW hT hQ) cw_X5_cutTo km11_95 (I.opo (k := 2) (j := 0) (by decide) rfl).choose_spec.1 ok_X5.1 rfl rfl ⟨Nat.le_of_ble_eq_true rfl, Nat.le_of_ble_eq_true rfl⟩ hl.1 rfl (Nat.le_of_ble_eq_true rfl) ⟨Nat.le_of_ble_eq_true rfl, Nat.le_of_ble_eq_true rfl⟩ dX11_end_5 (fun r_85025 L_85023 f_85024 H locs hr_85025 Y => ?_)
  obtain ⟨er_85025, I⟩ := hr_85025
  refine lv_if_eq (tgt := 15) hx hb dX11_end_8 (by decide) (fun c_85026 => ?_) (fun c_85026 => ?_)
  · have B_85027 : bn 0 0 r_85025 := bn_w (bn_eq c_85026 (show bn 0 0 (0 : Int32) from bn_k (by decide))) (by decide)
    refine lv_iconst (v := (-1)) hx hb dX11_end_15 (by decide) ?_
    exact prI (post := fun r L1 f1 => (r.toInt = if 0 ≤ i1.toInt ∧ i1.toInt ≤ nL then i1.toInt else -1) ∧ SH (spC ((NR 30 0 4, fz (pp (cuL nL i1.toInt)) FI FI FI FI FI FI (pp kF) (pp pF), tz (EQ bT) TA TA TA, sc0) : RS) ((0, 6) : Int × Int) tc w q) nnC G ad L1 f1) S Y rfl (by decide) (by decide) hA1 ⟨(show (-1 : Int32).toInt = _ from by rw [if_neg (hasL_no er_85025.2 c_85026)]; rfl), I⟩ dX11_end_16
  · refine lv_iload_n hx hb dX11_end_11 rfl (lv_at hl 1 rfl) ?_
    refine lv_goto (tgt := 16) hx hb dX11_end_12 (by decide) ?_
    exact prI (post := fun r L1 f1 => (r.toInt = if 0 ≤ i1.toInt ∧ i1.toInt ≤ nL then i1.toInt else -1) ∧ SH (spC ((NR 30 0 4, fz (pp (cuL nL i1.toInt)) FI FI FI FI FI FI (pp kF) (pp pF), tz (EQ bT) TA TA TA, sc0) : RS) ((0, 6) : Int × Int) tc w q) nnC G ad L1 f1) S Y rfl (by decide) (by decide) hA1 ⟨(by rw [if_pos (hasL_of er_85025.2 c_85026)]), I⟩ dX11_end_16
set_option maxHeartbeats 4000000 in
set_option maxRecDepth 100000 in
theorem x_X11_fault {l : Launch} {G : GG}  {L : List Nat} {f : HF} {ad : Nat → Nat → Nat} {nL : Int} {bT : Nat → Int32} {kF : Int} {pF : Int} {tc w : Nat → Int × Int} {q : Nat → (Nat → Int32) → Prop} {i1 : Int32} (I : SH (spC ((NR 30 0 4, fz (pp nL) FI FI FI FI FI FI (pp kF) (pp pF), tz (EQ bT) TA TA TA, sc0) : RS) ((0, 6) : Int × Int) tc w q) nnC G ad L f) (hW : WBp w 8) (hT : WBp tc 4) (hQ : QIp q) (hZ : ZZp w q) (hE : ∀ j, (tc j).1 = (tc j).2) : PMi l yX11_fault cX11_fault 2 .int 1 0 0 G [.ref (ad 0 0), .int i1] L f (fun r L1 f1 => (r.toInt = faV kF pF i1) ∧ SH (spC ((NR 30 0 4, fz (pp nL) FI FI FI FI FI FI (pp kF) (pp pF), tz (EQ bT) TA TA TA, sc0) : RS) ((0, 6) : Int × Int) tc w q) nnC G ad L1 f1) := by
  refine PMi.of (post := fun r L1 f1 => (r.toInt = faV kF pF i1) ∧ SH (spC ((NR 30 0 4, fz (pp nL) FI FI FI FI FI FI (pp kF) (pp pF), tz (EQ bT) TA TA TA, sc0) : RS) ((0, 6) : Int × Int) tc w q) nnC G ad L1 f1) (own := RX11) (by decide) rfl (Nat.le_of_ble_eq_true rfl) (fun sz p e s m args below meth c A ls hA1 hname S Y hl => ?_)
  have hx := S.hx
  have hb := S.hb
  have hl : lv_has ls 2 [(0, .ref (ad 0 0)), (1, .int i1)] := hl
  refine lv_iload_n hx hb dX11_fault_0 rfl (lv_at hl 1 rfl) ?_
  refine lv_if_ne (tgt := 12) hx hb dX11_fault_1 (by decide) (fun c_85040 => ?_) (fun c_85040 => ?_)
  · refine lv_iload_n hx hb dX11_fault_12 rfl (lv_at hl 1 rfl) ?_
    refine lv_iconst (v := 1) hx hb dX11_fault_13 (by decide) ?_
    refine lv_icmp_ne (tgt := 27) hx hb dX11_fault_14 (by decide) (fun c_85042 => ?_) (fun c_85042 => ?_)
    · refine lv_iconst (v := (-1)) hx hb dX11_fault_27 (by decide) ?_
      exact prI (post := fun r L1 f1 => (r.toInt = faV kF pF i1) ∧ SH (spC ((NR 30 0 4, fz (pp nL) FI FI FI FI FI FI (pp kF) (pp pF), tz (EQ bT) TA TA TA, sc0) : RS) ((0, 6) : Int × Int) tc w q) nnC G ad L1 f1) S Y rfl (by decide) (by decide) hA1 ⟨(show (-1 : Int32).toInt = faV kF pF i1 from by unfold faV; rw [if_neg c_85040, if_neg c_85042]; rfl), I⟩ dX11_fault_28
    · have B_85043 : bn 1 1 i1 := bn_w (bn_eq c_85042 (show bn 1 1 (1 : Int32) from bn_k (by decide))) (by decide)
      refine lv_aload_n hx hb dX11_fault_17 rfl (lv_at hl 0 rfl) ?_
      have p_ad_0_0 := opnC_0 (j := 0) I (by decide)
      have p_ad_0_0 : pt L f (ad 0 0) (.inr (11, [.ref (ad 1 0), .ref (ad 1 1), .ref (ad 2 0), .ref (ad 3 0), .ref (ad 4 0), .ref (ad 5 0), .ref (ad 6 0), .ref (ad 7 0), .ref (ad 8 0)])) := p_ad_0_0
      refine pg_get S Y ok_X11 2 (by decide) kf11_25 (v := .ref (ad 2 0)) p_ad_0_0 rfl dX11_fault_18 ?_
      refine cVp (As := []) (rest := []) S Y (x_X5_faultPlace (l := l) I hW hT hQ) cw_X5_faultPlace km11_112 (I.opo (k := 2) (j := 0) (by decide) rfl).choose_spec.1 ok_X5.1 rfl rfl ⟨Nat.le_of_ble_eq_true rfl, Nat.le_of_ble_eq_true rfl⟩ hl.1 rfl (Nat.le_of_ble_eq_true rfl) ⟨Nat.le_of_ble_eq_true rfl, Nat.le_of_ble_eq_true rfl⟩ dX11_fault_21 (fun r_85044 H locs er_85044 Y => ?_)
      refine lv_goto (tgt := 28) hx hb dX11_fault_24 (by decide) ?_
      exact prI (post := fun r L1 f1 => (r.toInt = faV kF pF i1) ∧ SH (spC ((NR 30 0 4, fz (pp nL) FI FI FI FI FI FI (pp kF) (pp pF), tz (EQ bT) TA TA TA, sc0) : RS) ((0, 6) : Int × Int) tc w q) nnC G ad L1 f1) S Y rfl (by decide) (by decide) hA1 ⟨(by unfold faV; rw [if_neg c_85040, if_pos c_85042]; exact er_85044), I⟩ dX11_fault_28
  · have B_85041 : bn 0 0 i1 := bn_w (bn_eq c_85040 (show bn 0 0 (0 : Int32) from bn_k (by decide))) (by decide)
    refine lv_aload_n hx hb dX11_fault_4 rfl (lv_at hl 0 rfl) ?_
    have p_ad_0_0 := opnC_0 (j := 0) I (by decide)
    have p_ad_0_0 : pt L f (ad 0 0) (.inr (11, [.ref (ad 1 0), .ref (ad 1 1), .ref (ad 2 0), .ref (ad 3 0), .ref (ad 4 0), .ref (ad 5 0), .ref (ad 6 0), .ref (ad 7 0), .ref (ad 8 0)])) := p_ad_0_0
    refine pg_get S Y ok_X11 2 (by decide) kf11_25 (v := .ref (ad 2 0)) p_ad_0_0 rfl dX11_fault_5 ?_
    refine cVp (As := []) (rest := []) S Y (x_X5_faultKind (l := l) I hW hT hQ) cw_X5_faultKind km11_109 (I.opo (k := 2) (j := 0) (by decide) rfl).choose_spec.1 ok_X5.1 rfl rfl ⟨Nat.le_of_ble_eq_true rfl, Nat.le_of_ble_eq_true rfl⟩ hl.1 rfl (Nat.le_of_ble_eq_true rfl) ⟨Nat.le_of_ble_eq_true rfl, Nat.le_of_ble_eq_true rfl⟩ dX11_fault_8 (fun r_85045 H locs er_85045 Y => ?_)
    exact prI (post := fun r L1 f1 => (r.toInt = faV kF pF i1) ∧ SH (spC ((NR 30 0 4, fz (pp nL) FI FI FI FI FI FI (pp kF) (pp pF), tz (EQ bT) TA TA TA, sc0) : RS) ((0, 6) : Int × Int) tc w q) nnC G ad L1 f1) S Y rfl (by decide) (by decide) hA1 ⟨(by unfold faV; rw [if_pos c_85040]; exact er_85045), I⟩ dX11_fault_11
set_option maxHeartbeats 4000000 in
set_option maxRecDepth 100000 in
theorem x_X11_by {l : Launch} {G : GG}  {L : List Nat} {f : HF} {ad : Nat → Nat → Nat} {nL : Int} {bT : Nat → Int32} {kF : Int} {pF : Int} {tc w : Nat → Int × Int} {q : Nat → (Nat → Int32) → Prop} {i1 : Int32} (I : SH (spC ((NR 30 0 4, fz (pp nL) FI FI FI FI FI FI (pp kF) (pp pF), tz (EQ bT) TA TA TA, sc0) : RS) ((0, 6) : Int × Int) tc w q) nnC G ad L f) (hW : WBp w 8) (hT : WBp tc 4) (hQ : QIp q) (hZ : ZZp w q) (hE : ∀ j, (tc j).1 = (tc j).2) : PMi l yX11_by cX11_by 2 .boolean 2 0 0 G [.ref (ad 0 0), .int i1] L f (fun r L1 f1 => bn 0 1 r ∧ SH (spC ((NR 30 0 4, fz (pp nL) FI FI FI FI FI FI (pp kF) (pp pF), tz (EQ bT) TA TA TA, sc0) : RS) ((0, 6) : Int × Int) tc w q) nnC G ad L1 f1) := by
  refine PMi.of (post := fun r L1 f1 => bn 0 1 r ∧ SH (spC ((NR 30 0 4, fz (pp nL) FI FI FI FI FI FI (pp kF) (pp pF), tz (EQ bT) TA TA TA, sc0) : RS) ((0, 6) : Int × Int) tc w q) nnC G ad L1 f1) (own := RX11) (by decide) rfl (Nat.le_of_ble_eq_true rfl) (fun sz p e s m args below meth c A ls hA1 hname S Y hl => ?_)
  have hx := S.hx
  have hb := S.hb
  have hl : lv_has ls 2 [(0, .ref (ad 0 0)), (1, .int i1)] := hl
  refine lv_aload_n hx hb dX11_by_0 rfl (lv_at hl 0 rfl) ?_
  have p_ad_0_0 := opnC_0 (j := 0) I (by decide)
  have p_ad_0_0 : pt L f (ad 0 0) (.inr (11, [.ref (ad 1 0), .ref (ad 1 1), .ref (ad 2 0), .ref (ad 3 0), .ref (ad 4 0), .ref (ad 5 0), .ref (ad 6 0), .ref (ad 7 0), .ref (ad 8 0)])) := p_ad_0_0
  refine pg_get S Y ok_X11 0 (by decide) kf11_13 (v := .ref (ad 1 0)) p_ad_0_0 rfl dX11_by_1 ?_
  refine lv_iload_n hx hb dX11_by_4 rfl (lv_at hl 1 rfl) ?_
  refine cVi (As := [.int i1]) (rest := []) S Y (x_X10_putUnder (l := l) I hW hT hQ) cw_X10_putUnder km11_115 (I.opo (k := 1) (j := 0) (by decide) rfl).choose_spec.1 ok_X10.1 rfl rfl ⟨Nat.le_of_ble_eq_true rfl, Nat.le_of_ble_eq_true rfl⟩ hl.1 rfl (Nat.le_of_ble_eq_true rfl) ⟨Nat.le_of_ble_eq_true rfl, Nat.le_of_ble_eq_true rfl⟩ dX11_by_5 (fun r_85054 L_85052 f_85053 H locs hr_85054 Y => ?_)
  obtain ⟨er_85054, I⟩ := hr_85054
  exact prI (post := fun r L1 f1 => bn 0 1 r ∧ SH (spC ((NR 30 0 4, fz (pp nL) FI FI FI FI FI FI (pp kF) (pp pF), tz (EQ bT) TA TA TA, sc0) : RS) ((0, 6) : Int × Int) tc w q) nnC G ad L1 f1) S Y (nw_b (bn_w er_85054 (by decide))) (by decide) (by decide) hA1 ⟨bn_w er_85054 (by decide), I⟩ dX11_by_8
set_option maxHeartbeats 4000000 in
set_option maxRecDepth 100000 in
theorem x_X11_swear {l : Launch} {G : GG}  {L : List Nat} {f : HF} {ad : Nat → Nat → Nat} {nL : Int} {bT : Nat → Int32} {kF : Int} {pF : Int} {tc w : Nat → Int × Int} {q : Nat → (Nat → Int32) → Prop} {i1 i2 i3 i4 : Int32} (I : SH (spC ((NR 30 0 4, fz (pp nL) FI FI FI FI FI FI (pp kF) (pp pF), tz (EQ bT) TA TA TA, sc0) : RS) ((0, 6) : Int × Int) tc w q) nnC G ad L f) (hW : WBp w 8) (hT : WBp tc 4) (hQ : QIp q) (hZ : ZZp w q) (hE : ∀ j, (tc j).1 = (tc j).2) : PMi l yX11_swear cX11_swear 5 .int 5 0 0 G [.ref (ad 0 0), .int i1, .int i2, .int i3, .int i4] L f (fun r L1 f1 => SH (spC ((NR 30 0 4, fz (pp nL) FI FI FI FI FI FI (pp kF) (pp pF), tz (EQ bT) TA TA TA, sc0) : RS) ((0, 6) : Int × Int) tc w q) nnC G ad L1 f1) := by
  refine PMi.of (post := fun r L1 f1 => SH (spC ((NR 30 0 4, fz (pp nL) FI FI FI FI FI FI (pp kF) (pp pF), tz (EQ bT) TA TA TA, sc0) : RS) ((0, 6) : Int × Int) tc w q) nnC G ad L1 f1) (own := RX11) (by decide) rfl (Nat.le_of_ble_eq_true rfl) (fun sz p e s m args below meth c A ls hA1 hname S Y hl => ?_)
  have hx := S.hx
  have hb := S.hb
  have hl : lv_has ls 5 [(0, .ref (ad 0 0)), (1, .int i1), (2, .int i2), (3, .int i3), (4, .int i4)] := hl
  refine lv_aload_n hx hb dX11_swear_0 rfl (lv_at hl 0 rfl) ?_
  have p_ad_0_0 := opnC_0 (j := 0) I (by decide)
  have p_ad_0_0 : pt L f (ad 0 0) (.inr (11, [.ref (ad 1 0), .ref (ad 1 1), .ref (ad 2 0), .ref (ad 3 0), .ref (ad 4 0), .ref (ad 5 0), .ref (ad 6 0), .ref (ad 7 0), .ref (ad 8 0)])) := p_ad_0_0
  refine pg_get S Y ok_X11 5 (by decide) kf11_50 (v := .ref (ad 5 0)) p_ad_0_0 rfl dX11_swear_1 ?_
  refine lv_iload_n hx hb dX11_swear_4 rfl (lv_at hl 1 rfl) ?_
  refine lv_iload_n hx hb dX11_swear_5 rfl (lv_at hl 2 rfl) ?_
  refine lv_iload_n hx hb dX11_swear_6 rfl (lv_at hl 3 rfl) ?_
  refine lv_iload hx hb dX11_swear_7 (lv_at hl 4 rfl) ?_
  refine cVi (As := [.int i1, .int i2, .int i3, .int i4]) (rest := []) S Y (x_X1_swearIn (l := l) I hW hT hQ) cw_X1_swearIn km11_118 (I.opo (k := 5) (j := 0) (by decide) rfl).choose_spec.1 ok_X1.1 rfl rfl ⟨Nat.le_of_ble_eq_true rfl, Nat.le_of_ble_eq_true rfl⟩ hl.1 rfl (Nat.le_of_ble_eq_true rfl) ⟨Nat.le_of_ble_eq_true rfl, Nat.le_of_ble_eq_true rfl⟩ dX11_swear_9 (fun r_85063 L_85061 f_85062 H locs I Y => ?_)
  exact prI (post := fun r L1 f1 => SH (spC ((NR 30 0 4, fz (pp nL) FI FI FI FI FI FI (pp kF) (pp pF), tz (EQ bT) TA TA TA, sc0) : RS) ((0, 6) : Int × Int) tc w q) nnC G ad L1 f1) S Y rfl (by decide) (by decide) hA1 I dX11_swear_12
set_option maxHeartbeats 4000000 in
set_option maxRecDepth 100000 in
theorem x_X11_breaks {l : Launch} {G : GG}  {L : List Nat} {f : HF} {ad : Nat → Nat → Nat} {nL : Int} {bT : Nat → Int32} {kF : Int} {pF : Int} {tc w : Nat → Int × Int} {q : Nat → (Nat → Int32) → Prop} {i1 : Int32} (I : SH (spC ((NR 30 0 4, fz (pp nL) FI FI FI FI FI FI (pp kF) (pp pF), tz (EQ bT) TA TA TA, sc0) : RS) ((0, 6) : Int × Int) tc w q) nnC G ad L f) (hW : WBp w 8) (hT : WBp tc 4) (hQ : QIp q) (hZ : ZZp w q) (hE : ∀ j, (tc j).1 = (tc j).2) : PMi l yX11_breaks cX11_breaks 2 .boolean 5 0 0 G [.ref (ad 0 0), .int i1] L f (fun r L1 f1 => bn 0 1 r ∧ SH (spC ((NR 30 0 4, fz (pp nL) FI FI FI FI FI FI (pp kF) (pp pF), tz (EQ bT) TA TA TA, sc0) : RS) ((0, 6) : Int × Int) tc w q) nnC G ad L1 f1) := by
  refine PMi.of (post := fun r L1 f1 => bn 0 1 r ∧ SH (spC ((NR 30 0 4, fz (pp nL) FI FI FI FI FI FI (pp kF) (pp pF), tz (EQ bT) TA TA TA, sc0) : RS) ((0, 6) : Int × Int) tc w q) nnC G ad L1 f1) (own := RX11) (by decide) rfl (Nat.le_of_ble_eq_true rfl) (fun sz p e s m args below meth c A ls hA1 hname S Y hl => ?_)
  have hx := S.hx
  have hb := S.hb
  have hl : lv_has ls 2 [(0, .ref (ad 0 0)), (1, .int i1)] := hl
  refine lv_aload_n hx hb dX11_breaks_0 rfl (lv_at hl 0 rfl) ?_
  have p_ad_0_0 := opnC_0 (j := 0) I (by decide)
  have p_ad_0_0 : pt L f (ad 0 0) (.inr (11, [.ref (ad 1 0), .ref (ad 1 1), .ref (ad 2 0), .ref (ad 3 0), .ref (ad 4 0), .ref (ad 5 0), .ref (ad 6 0), .ref (ad 7 0), .ref (ad 8 0)])) := p_ad_0_0
  refine pg_get S Y ok_X11 5 (by decide) kf11_50 (v := .ref (ad 5 0)) p_ad_0_0 rfl dX11_breaks_1 ?_
  refine lv_iload_n hx hb dX11_breaks_4 rfl (lv_at hl 1 rfl) ?_
  refine cVi (As := [.int i1]) (rest := []) S Y (x_X1_breakOath (l := l) I hW hT hQ) cw_X1_breakOath km11_122 (I.opo (k := 5) (j := 0) (by decide) rfl).choose_spec.1 ok_X1.1 rfl rfl ⟨Nat.le_of_ble_eq_true rfl, Nat.le_of_ble_eq_true rfl⟩ hl.1 rfl (Nat.le_of_ble_eq_true rfl) ⟨Nat.le_of_ble_eq_true rfl, Nat.le_of_ble_eq_true rfl⟩ dX11_breaks_5 (fun r_85072 L_85070 f_85071 H locs hr_85072 Y => ?_)
  obtain ⟨er_85072, I⟩ := hr_85072
  exact prI (post := fun r L1 f1 => bn 0 1 r ∧ SH (spC ((NR 30 0 4, fz (pp nL) FI FI FI FI FI FI (pp kF) (pp pF), tz (EQ bT) TA TA TA, sc0) : RS) ((0, 6) : Int × Int) tc w q) nnC G ad L1 f1) S Y (nw_b (bn_w er_85072 (by decide))) (by decide) (by decide) hA1 ⟨bn_w er_85072 (by decide), I⟩ dX11_breaks_8
set_option maxHeartbeats 4000000 in
set_option maxRecDepth 100000 in
theorem x_X11_release {l : Launch} {G : GG}  {L : List Nat} {f : HF} {ad : Nat → Nat → Nat} {nL : Int} {bT : Nat → Int32} {kF : Int} {pF : Int} {tc w : Nat → Int × Int} {q : Nat → (Nat → Int32) → Prop} {i1 : Int32} (I : SH (spC ((NR 30 0 4, fz (pp nL) FI FI FI FI FI FI (pp kF) (pp pF), tz (EQ bT) TA TA TA, sc0) : RS) ((0, 6) : Int × Int) tc w q) nnC G ad L f) (hW : WBp w 8) (hT : WBp tc 4) (hQ : QIp q) (hZ : ZZp w q) (hE : ∀ j, (tc j).1 = (tc j).2) : PMi l yX11_release cX11_release 2 .boolean 5 0 0 G [.ref (ad 0 0), .int i1] L f (fun r L1 f1 => bn 0 1 r ∧ SH (spC ((NR 30 0 4, fz (pp nL) FI FI FI FI FI FI (pp kF) (pp pF), tz (EQ bT) TA TA TA, sc0) : RS) ((0, 6) : Int × Int) tc w q) nnC G ad L1 f1) := by
  refine PMi.of (post := fun r L1 f1 => bn 0 1 r ∧ SH (spC ((NR 30 0 4, fz (pp nL) FI FI FI FI FI FI (pp kF) (pp pF), tz (EQ bT) TA TA TA, sc0) : RS) ((0, 6) : Int × Int) tc w q) nnC G ad L1 f1) (own := RX11) (by decide) rfl (Nat.le_of_ble_eq_true rfl) (fun sz p e s m args below meth c A ls hA1 hname S Y hl => ?_)
  have hx := S.hx
  have hb := S.hb
  have hl : lv_has ls 2 [(0, .ref (ad 0 0)), (1, .int i1)] := hl
  refine lv_aload_n hx hb dX11_release_0 rfl (lv_at hl 0 rfl) ?_
  have p_ad_0_0 := opnC_0 (j := 0) I (by decide)
  have p_ad_0_0 : pt L f (ad 0 0) (.inr (11, [.ref (ad 1 0), .ref (ad 1 1), .ref (ad 2 0), .ref (ad 3 0), .ref (ad 4 0), .ref (ad 5 0), .ref (ad 6 0), .ref (ad 7 0), .ref (ad 8 0)])) := p_ad_0_0
  refine pg_get S Y ok_X11 5 (by decide) kf11_50 (v := .ref (ad 5 0)) p_ad_0_0 rfl dX11_release_1 ?_
  refine lv_iload_n hx hb dX11_release_4 rfl (lv_at hl 1 rfl) ?_
  refine cVi (As := [.int i1]) (rest := []) S Y (x_X1_releaseOath (l := l) I hW hT hQ) cw_X1_releaseOath km11_125 (I.opo (k := 5) (j := 0) (by decide) rfl).choose_spec.1 ok_X1.1 rfl rfl ⟨Nat.le_of_ble_eq_true rfl, Nat.le_of_ble_eq_true rfl⟩ hl.1 rfl (Nat.le_of_ble_eq_true rfl) ⟨Nat.le_of_ble_eq_true rfl, Nat.le_of_ble_eq_true rfl⟩ dX11_release_5 (fun r_85081 L_85079 f_85080 H locs hr_85081 Y => ?_)
  obtain ⟨er_85081, I⟩ := hr_85081
  exact prI (post := fun r L1 f1 => bn 0 1 r ∧ SH (spC ((NR 30 0 4, fz (pp nL) FI FI FI FI FI FI (pp kF) (pp pF), tz (EQ bT) TA TA TA, sc0) : RS) ((0, 6) : Int × Int) tc w q) nnC G ad L1 f1) S Y (nw_b (bn_w er_85081 (by decide))) (by decide) (by decide) hA1 ⟨bn_w er_85081 (by decide), I⟩ dX11_release_8
set_option maxHeartbeats 4000000 in
set_option maxRecDepth 100000 in
theorem x_X11_kneel {l : Launch} {G : GG}  {L : List Nat} {f : HF} {ad : Nat → Nat → Nat} {nL : Int} {bT : Nat → Int32} {kF : Int} {pF : Int} {tc w : Nat → Int × Int} {q : Nat → (Nat → Int32) → Prop} {i1 : Int32} (I : SH (spC ((NR 30 0 4, fz (pp nL) FI FI FI FI FI FI (pp kF) (pp pF), tz (EQ bT) TA TA TA, sc0) : RS) ((0, 6) : Int × Int) tc w q) nnC G ad L f) (hW : WBp w 8) (hT : WBp tc 4) (hQ : QIp q) (hZ : ZZp w q) (hE : ∀ j, (tc j).1 = (tc j).2) : PMi l yX11_kneel cX11_kneel 2 .int 6 0 0 G [.ref (ad 0 0), .int i1] L f (fun r L1 f1 => SH (spC ((NR 30 0 4, fz (pp nL) FI FI FI FI FI FI (pp kF) (pp pF), tz (EQ bT) TA TA TA, sc0) : RS) ((0, 6) : Int × Int) tc w q) nnC G ad L1 f1) := by
  refine PMi.of (post := fun r L1 f1 => SH (spC ((NR 30 0 4, fz (pp nL) FI FI FI FI FI FI (pp kF) (pp pF), tz (EQ bT) TA TA TA, sc0) : RS) ((0, 6) : Int × Int) tc w q) nnC G ad L1 f1) (own := RX11) (by decide) rfl (Nat.le_of_ble_eq_true rfl) (fun sz p e s m args below meth c A ls hA1 hname S Y hl => ?_)
  have hx := S.hx
  have hb := S.hb
  have hl : lv_has ls 2 [(0, .ref (ad 0 0)), (1, .int i1)] := hl
  refine lv_aload_n hx hb dX11_kneel_0 rfl (lv_at hl 0 rfl) ?_
  have p_ad_0_0 := opnC_0 (j := 0) I (by decide)
  have p_ad_0_0 : pt L f (ad 0 0) (.inr (11, [.ref (ad 1 0), .ref (ad 1 1), .ref (ad 2 0), .ref (ad 3 0), .ref (ad 4 0), .ref (ad 5 0), .ref (ad 6 0), .ref (ad 7 0), .ref (ad 8 0)])) := p_ad_0_0
  refine pg_get S Y ok_X11 5 (by decide) kf11_50 (v := .ref (ad 5 0)) p_ad_0_0 rfl dX11_kneel_1 ?_
  refine lv_iload_n hx hb dX11_kneel_4 rfl (lv_at hl 1 rfl) ?_
  refine cVi (As := [.int i1]) (rest := []) S Y (x_X1_kneelDown (l := l) I hW hT hQ) cw_X1_kneelDown km11_128 (I.opo (k := 5) (j := 0) (by decide) rfl).choose_spec.1 ok_X1.1 rfl rfl ⟨Nat.le_of_ble_eq_true rfl, Nat.le_of_ble_eq_true rfl⟩ hl.1 rfl (Nat.le_of_ble_eq_true rfl) ⟨Nat.le_of_ble_eq_true rfl, Nat.le_of_ble_eq_true rfl⟩ dX11_kneel_5 (fun r_85118 L_85116 f_85117 H locs hr_85118 Y => ?_)
  obtain ⟨er_85118, I⟩ := hr_85118
  refine lv_if_eq (tgt := 25) hx hb dX11_kneel_8 (by decide) (fun c_85119 => ?_) (fun c_85119 => ?_)
  · have B_85120 : bn 0 0 r_85118 := bn_w (bn_eq c_85119 (show bn 0 0 (0 : Int32) from bn_k (by decide))) (by decide)
    refine lv_iconst (v := (-1)) hx hb dX11_kneel_25 (by decide) ?_
    exact prI (post := fun r L1 f1 => SH (spC ((NR 30 0 4, fz (pp nL) FI FI FI FI FI FI (pp kF) (pp pF), tz (EQ bT) TA TA TA, sc0) : RS) ((0, 6) : Int × Int) tc w q) nnC G ad L1 f1) S Y rfl (by decide) (by decide) hA1 I dX11_kneel_26
  · have B_85121 : bn 1 1 r_85118 := bn_w (bn_nel c_85119 er_85118 (show bn 0 0 (0 : Int32) from bn_k (by decide))) (by decide)
    refine lv_aload_n hx hb dX11_kneel_11 rfl (lv_at hl 0 rfl) ?_
    have p_ad_0_0 := opnC_0 (j := 0) I (by decide)
    have p_ad_0_0 : pt L_85116 f_85117 (ad 0 0) (.inr (11, [.ref (ad 1 0), .ref (ad 1 1), .ref (ad 2 0), .ref (ad 3 0), .ref (ad 4 0), .ref (ad 5 0), .ref (ad 6 0), .ref (ad 7 0), .ref (ad 8 0)])) := p_ad_0_0
    refine pg_get S Y ok_X11 0 (by decide) kf11_13 (v := .ref (ad 1 0)) p_ad_0_0 rfl dX11_kneel_12 ?_
    obtain ⟨v_85122, v_85124, v_85126, v_85128, v_85130, p_ad_1_0, b_85123, b_85125, b_85127, b_85129, b_85131⟩ := opnC_1 (j := 0) I (by decide)
    have p_ad_1_0 : pt L_85116 f_85117 (ad 1 0) (.inr (10, [.ref (ad 40 0), .ref (ad 41 0), .ref (ad 42 0), .ref (ad 10 0), .ref (ad 43 0), .ref (ad 20 0), .ref (ad 20 1), .ref (ad 20 2), .ref (ad 20 3), .ref (ad 20 4), .int v_85122, .int v_85124, .int v_85126, .int v_85128, .int v_85130])) := p_ad_1_0
    refine pg_getN S Y ok_X10 3 (by decide) kf11_131 (v := .ref (ad 10 0)) p_ad_1_0 rfl dX11_kneel_15 ?_
    refine lv_iload_n hx hb dX11_kneel_18 rfl (lv_at hl 1 rfl) ?_
    refine cVp (As := [.int i1]) (rest := []) S Y (x_X4_marks (l := l) (j := 0) I hW hT hQ (by decide)) cw_X4_marks km11_135 (I.opo (k := 10) (j := 0) (by decide) rfl).choose_spec.1 ok_X4.1 rfl rfl ⟨Nat.le_of_ble_eq_true rfl, Nat.le_of_ble_eq_true rfl⟩ hl.1 rfl (Nat.le_of_ble_eq_true rfl) ⟨Nat.le_of_ble_eq_true rfl, Nat.le_of_ble_eq_true rfl⟩ dX11_kneel_19 (fun r_85132 H locs er_85132 Y => ?_)
    refine lv_goto (tgt := 26) hx hb dX11_kneel_22 (by decide) ?_
    exact prI (post := fun r L1 f1 => SH (spC ((NR 30 0 4, fz (pp nL) FI FI FI FI FI FI (pp kF) (pp pF), tz (EQ bT) TA TA TA, sc0) : RS) ((0, 6) : Int × Int) tc w q) nnC G ad L1 f1) S Y rfl (by decide) (by decide) hA1 I dX11_kneel_26
set_option maxHeartbeats 4000000 in
set_option maxRecDepth 100000 in
theorem x_X11_skate {l : Launch} {G : GG}  {L : List Nat} {f : HF} {ad : Nat → Nat → Nat} {nL : Int} {bT : Nat → Int32} {kF : Int} {pF : Int} {tc w : Nat → Int × Int} {q : Nat → (Nat → Int32) → Prop} {i1 i2 : Int32} (I : SH (spC ((NR 30 0 4, fz (pp nL) FI FI FI FI FI FI (pp kF) (pp pF), tz (EQ bT) TA TA TA, sc0) : RS) ((0, 6) : Int × Int) tc w q) nnC G ad L f) (hW : WBp w 8) (hT : WBp tc 4) (hQ : QIp q) (hZ : ZZp w q) (hE : ∀ j, (tc j).1 = (tc j).2) : PMi l yX11_skate cX11_skate 3 .int 5 0 0 G [.ref (ad 0 0), .int i1, .int i2] L f (fun r L1 f1 => SH (spC ((NR 30 0 4, fz (pp nL) FI FI FI FI FI FI (pp kF) (pp pF), tz (EQ bT) TA TA TA, sc0) : RS) ((0, 6) : Int × Int) tc w q) nnC G ad L1 f1) := by
  refine PMi.of (post := fun r L1 f1 => SH (spC ((NR 30 0 4, fz (pp nL) FI FI FI FI FI FI (pp kF) (pp pF), tz (EQ bT) TA TA TA, sc0) : RS) ((0, 6) : Int × Int) tc w q) nnC G ad L1 f1) (own := RX11) (by decide) rfl (Nat.le_of_ble_eq_true rfl) (fun sz p e s m args below meth c A ls hA1 hname S Y hl => ?_)
  have hx := S.hx
  have hb := S.hb
  have hl : lv_has ls 3 [(0, .ref (ad 0 0)), (1, .int i1), (2, .int i2)] := hl
  refine lv_aload_n hx hb dX11_skate_0 rfl (lv_at hl 0 rfl) ?_
  have p_ad_0_0 := opnC_0 (j := 0) I (by decide)
  have p_ad_0_0 : pt L f (ad 0 0) (.inr (11, [.ref (ad 1 0), .ref (ad 1 1), .ref (ad 2 0), .ref (ad 3 0), .ref (ad 4 0), .ref (ad 5 0), .ref (ad 6 0), .ref (ad 7 0), .ref (ad 8 0)])) := p_ad_0_0
  refine pg_get S Y ok_X11 5 (by decide) kf11_50 (v := .ref (ad 5 0)) p_ad_0_0 rfl dX11_skate_1 ?_
  refine lv_iload_n hx hb dX11_skate_4 rfl (lv_at hl 1 rfl) ?_
  refine lv_iload_n hx hb dX11_skate_5 rfl (lv_at hl 2 rfl) ?_
  refine cVi (As := [.int i1, .int i2]) (rest := []) S Y (x_X1_slide (l := l) I hW hT hQ) cw_X1_slide km11_139 (I.opo (k := 5) (j := 0) (by decide) rfl).choose_spec.1 ok_X1.1 rfl rfl ⟨Nat.le_of_ble_eq_true rfl, Nat.le_of_ble_eq_true rfl⟩ hl.1 rfl (Nat.le_of_ble_eq_true rfl) ⟨Nat.le_of_ble_eq_true rfl, Nat.le_of_ble_eq_true rfl⟩ dX11_skate_6 (fun r_85169 L_85167 f_85168 H locs hr_85169 Y => ?_)
  obtain ⟨er_85169, I⟩ := hr_85169
  refine lv_if_eq (tgt := 26) hx hb dX11_skate_9 (by decide) (fun c_85170 => ?_) (fun c_85170 => ?_)
  · have B_85171 : bn 0 0 r_85169 := bn_w (bn_eq c_85170 (show bn 0 0 (0 : Int32) from bn_k (by decide))) (by decide)
    refine lv_iconst (v := (-1)) hx hb dX11_skate_26 (by decide) ?_
    exact prI (post := fun r L1 f1 => SH (spC ((NR 30 0 4, fz (pp nL) FI FI FI FI FI FI (pp kF) (pp pF), tz (EQ bT) TA TA TA, sc0) : RS) ((0, 6) : Int × Int) tc w q) nnC G ad L1 f1) S Y rfl (by decide) (by decide) hA1 I dX11_skate_27
  · have B_85172 : bn 1 1 r_85169 := bn_w (bn_nel c_85170 er_85169 (show bn 0 0 (0 : Int32) from bn_k (by decide))) (by decide)
    refine lv_aload_n hx hb dX11_skate_12 rfl (lv_at hl 0 rfl) ?_
    have p_ad_0_0 := opnC_0 (j := 0) I (by decide)
    have p_ad_0_0 : pt L_85167 f_85168 (ad 0 0) (.inr (11, [.ref (ad 1 0), .ref (ad 1 1), .ref (ad 2 0), .ref (ad 3 0), .ref (ad 4 0), .ref (ad 5 0), .ref (ad 6 0), .ref (ad 7 0), .ref (ad 8 0)])) := p_ad_0_0
    refine pg_get S Y ok_X11 0 (by decide) kf11_13 (v := .ref (ad 1 0)) p_ad_0_0 rfl dX11_skate_13 ?_
    obtain ⟨v_85173, v_85175, v_85177, v_85179, v_85181, p_ad_1_0, b_85174, b_85176, b_85178, b_85180, b_85182⟩ := opnC_1 (j := 0) I (by decide)
    have p_ad_1_0 : pt L_85167 f_85168 (ad 1 0) (.inr (10, [.ref (ad 40 0), .ref (ad 41 0), .ref (ad 42 0), .ref (ad 10 0), .ref (ad 43 0), .ref (ad 20 0), .ref (ad 20 1), .ref (ad 20 2), .ref (ad 20 3), .ref (ad 20 4), .int v_85173, .int v_85175, .int v_85177, .int v_85179, .int v_85181])) := p_ad_1_0
    refine pg_getN S Y ok_X10 3 (by decide) kf11_131 (v := .ref (ad 10 0)) p_ad_1_0 rfl dX11_skate_16 ?_
    refine lv_iload_n hx hb dX11_skate_19 rfl (lv_at hl 1 rfl) ?_
    refine cVp (As := [.int i1]) (rest := []) S Y (x_X4_marks (l := l) (j := 0) I hW hT hQ (by decide)) cw_X4_marks km11_135 (I.opo (k := 10) (j := 0) (by decide) rfl).choose_spec.1 ok_X4.1 rfl rfl ⟨Nat.le_of_ble_eq_true rfl, Nat.le_of_ble_eq_true rfl⟩ hl.1 rfl (Nat.le_of_ble_eq_true rfl) ⟨Nat.le_of_ble_eq_true rfl, Nat.le_of_ble_eq_true rfl⟩ dX11_skate_20 (fun r_85183 H locs er_85183 Y => ?_)
    refine lv_goto (tgt := 27) hx hb dX11_skate_23 (by decide) ?_
    exact prI (post := fun r L1 f1 => SH (spC ((NR 30 0 4, fz (pp nL) FI FI FI FI FI FI (pp kF) (pp pF), tz (EQ bT) TA TA TA, sc0) : RS) ((0, 6) : Int × Int) tc w q) nnC G ad L1 f1) S Y rfl (by decide) (by decide) hA1 I dX11_skate_27
set_option maxHeartbeats 4000000 in
set_option maxRecDepth 100000 in
theorem x_X11_strike {l : Launch} {G : GG}  {L : List Nat} {f : HF} {ad : Nat → Nat → Nat} {nL : Int} {bT : Nat → Int32} {kF : Int} {pF : Int} {tc w : Nat → Int × Int} {q : Nat → (Nat → Int32) → Prop} {i1 : Int32} (I : SH (spC ((NR 30 0 4, fz (pp nL) FI FI FI FI FI FI (pp kF) (pp pF), tz (EQ bT) TA TA TA, sc0) : RS) ((0, 6) : Int × Int) tc w q) nnC G ad L f) (hW : WBp w 8) (hT : WBp tc 4) (hQ : QIp q) (hZ : ZZp w q) (hE : ∀ j, (tc j).1 = (tc j).2) : PMi l yX11_strike cX11_strike 2 .int 7 0 0 G [.ref (ad 0 0), .int i1] L f (fun r L1 f1 => SH (spC ((NR 30 0 4, fz (pp nL) FI FI FI FI FI FI (pp kF) (pp pF), tz (EQ bT) TA TA TA, sc0) : RS) ((0, 6) : Int × Int) tc w q) nnC G ad L1 f1) := by
  refine PMi.of (post := fun r L1 f1 => SH (spC ((NR 30 0 4, fz (pp nL) FI FI FI FI FI FI (pp kF) (pp pF), tz (EQ bT) TA TA TA, sc0) : RS) ((0, 6) : Int × Int) tc w q) nnC G ad L1 f1) (own := RX11) (by decide) rfl (Nat.le_of_ble_eq_true rfl) (fun sz p e s m args below meth c A ls hA1 hname S Y hl => ?_)
  have hx := S.hx
  have hb := S.hb
  have hl : lv_has ls 2 [(0, .ref (ad 0 0)), (1, .int i1)] := hl
  refine lv_aload_n hx hb dX11_strike_0 rfl (lv_at hl 0 rfl) ?_
  have p_ad_0_0 := opnC_0 (j := 0) I (by decide)
  have p_ad_0_0 : pt L f (ad 0 0) (.inr (11, [.ref (ad 1 0), .ref (ad 1 1), .ref (ad 2 0), .ref (ad 3 0), .ref (ad 4 0), .ref (ad 5 0), .ref (ad 6 0), .ref (ad 7 0), .ref (ad 8 0)])) := p_ad_0_0
  refine pg_get S Y ok_X11 5 (by decide) kf11_50 (v := .ref (ad 5 0)) p_ad_0_0 rfl dX11_strike_1 ?_
  refine lv_iload_n hx hb dX11_strike_4 rfl (lv_at hl 1 rfl) ?_
  refine cVi (As := [.int i1]) (rest := []) S Y (x_X1_strikeOut (l := l) I hW hT hQ) cw_X1_strikeOut km11_143 (I.opo (k := 5) (j := 0) (by decide) rfl).choose_spec.1 ok_X1.1 rfl rfl ⟨Nat.le_of_ble_eq_true rfl, Nat.le_of_ble_eq_true rfl⟩ hl.1 rfl (Nat.le_of_ble_eq_true rfl) ⟨Nat.le_of_ble_eq_true rfl, Nat.le_of_ble_eq_true rfl⟩ dX11_strike_5 (fun r_85192 L_85190 f_85191 H locs I Y => ?_)
  exact prI (post := fun r L1 f1 => SH (spC ((NR 30 0 4, fz (pp nL) FI FI FI FI FI FI (pp kF) (pp pF), tz (EQ bT) TA TA TA, sc0) : RS) ((0, 6) : Int × Int) tc w q) nnC G ad L1 f1) S Y rfl (by decide) (by decide) hA1 I dX11_strike_8
set_option maxHeartbeats 4000000 in
set_option maxRecDepth 100000 in
theorem x_X11_day {l : Launch} {G : GG}  {L : List Nat} {f : HF} {ad : Nat → Nat → Nat} {nL : Int} {bT : Nat → Int32} {kF : Int} {pF : Int} {tc w : Nat → Int × Int} {q : Nat → (Nat → Int32) → Prop} {i1 : Int32} (I : SH (spC ((NR 30 0 4, fz (pp nL) FI FI FI FI FI FI (pp kF) (pp pF), tz (EQ bT) TA TA TA, sc0) : RS) ((0, 6) : Int × Int) tc w q) nnC G ad L f) (hW : WBp w 8) (hT : WBp tc 4) (hQ : QIp q) (hZ : ZZp w q) (hE : ∀ j, (tc j).1 = (tc j).2) : PMi l yX11_day cX11_day 3 .int 6 0 0 G [.ref (ad 0 0), .int i1] L f (fun r L1 f1 => SH (spC ((NR 30 0 4, fz (pp nL) FI FI FI FI FI FI (pp kF) (pp pF), tz (EQ bT) TA TA TA, sc0) : RS) ((0, 6) : Int × Int) tc w q) nnC G ad L1 f1) := by
  refine PMi.of (post := fun r L1 f1 => SH (spC ((NR 30 0 4, fz (pp nL) FI FI FI FI FI FI (pp kF) (pp pF), tz (EQ bT) TA TA TA, sc0) : RS) ((0, 6) : Int × Int) tc w q) nnC G ad L1 f1) (own := RX11) (by decide) rfl (Nat.le_of_ble_eq_true rfl) (fun sz p e s m args below meth c A ls hA1 hname S Y hl => ?_)
  have hx := S.hx
  have hb := S.hb
  have hl : lv_has ls 3 [(0, .ref (ad 0 0)), (1, .int i1)] := hl
  have J_32 : ∀ (n32 : Nat) (y32_2 : Int32) (L_32 : List Nat) (f_32 : HF) (H : Heap) (locs : List Loc) (ls : Array Slot), (SH (spC ((NR 30 0 4, fz (pp nL) FI FI FI FI FI FI (pp kF) (pp pF), tz (EQ bT) TA TA TA, sc0) : RS) ((0, 6) : Int × Int) tc w q) nnC G ad L_32 f_32) → (bn 0 2147483647 y32_2) → (((2147483647 : Int) - y32_2.toInt).toNat = n32) → (DY G A s [] L_32 f_32 H locs) → (lv_has ls 3 [(0, .ref (ad 0 0)), (1, .int i1), (2, .int y32_2)]) → W p l e (rmD 6 0 0) s m args below meth c H locs (0) (0) (MQ below (va_Qi (fun r (u : List Nat × HF) => (fun r L1 f1 => SH (spC ((NR 30 0 4, fz (pp nL) FI FI FI FI FI FI (pp kF) (pp pF), tz (EQ bT) TA TA TA, sc0) : RS) ((0, 6) : Int × Int) tc w q) nnC G ad L1 f1) r u.1 u.2) (fun u t => pOut G (va_A (va_pl L f) sz) u.1 u.2 t) (va_A (va_pl L f) sz)) args s 0 0 A) (F0 m 32 ls []) := by
    intro n32
    induction n32 using Nat.strongRecOn with
    | _ n32 ih32 =>
      intro y32_2 L_32 f_32 H locs ls I b_y32_2 hm32 Y hl
      refine lv_iload_n hx hb dX11_day_32 rfl (lv_at hl 2 rfl) ?_
      refine lv_iload_n hx hb dX11_day_33 rfl (lv_at hl 1 rfl) ?_
      refine lv_icmp_ge (tgt := 51) hx hb dX11_day_34 (by decide) (fun c_86626 => ?_) (fun c_86626 => ?_)
      · refine lv_aload_n hx hb dX11_day_51 rfl (lv_at hl 0 rfl) ?_
        have p_ad_0_0 := opnC_0 (j := 0) I (by decide)
        have p_ad_0_0 : pt L_32 f_32 (ad 0 0) (.inr (11, [.ref (ad 1 0), .ref (ad 1 1), .ref (ad 2 0), .ref (ad 3 0), .ref (ad 4 0), .ref (ad 5 0), .ref (ad 6 0), .ref (ad 7 0), .ref (ad 8 0)])) := p_ad_0_0
        refine pg_get S Y ok_X11 0 (by decide) kf11_13 (v := .ref (ad 1 0)) p_ad_0_0 rfl dX11_day_52 ?_
        obtain ⟨v_86629, v_86631, v_86633, v_86635, v_86637, p_ad_1_0, b_86630, b_86632, b_86634, b_86636, b_86638⟩ := opnC_1 (j := 0) I (by decide)
        have p_ad_1_0 : pt L_32 f_32 (ad 1 0) (.inr (10, [.ref (ad 40 0), .ref (ad 41 0), .ref (ad 42 0), .ref (ad 10 0), .ref (ad 43 0), .ref (ad 20 0), .ref (ad 20 1), .ref (ad 20 2), .ref (ad 20 3), .ref (ad 20 4), .int v_86629, .int v_86631, .int v_86633, .int v_86635, .int v_86637])) := p_ad_1_0
        refine pg_getN S Y ok_X10 3 (by decide) kf11_131 (v := .ref (ad 10 0)) p_ad_1_0 rfl dX11_day_55 ?_
        obtain ⟨v_86639, v_86641, v_86643, v_86645, v_86647, p_ad_10_0, b_86640, b_86642, b_86644, b_86646, b_86648⟩ := opnC_10 (j := 0) I (by decide)
        have p_ad_10_0 : pt L_32 f_32 (ad 10 0) (.inr (4, [.ref (ad 11 0), .ref (ad 12 0), .int v_86639, .int v_86641, .int v_86643, .int v_86645, .int v_86647])) := p_ad_10_0
        refine pg_getN S Y ok_X4 5 (by decide) kf11_158 (v := .int v_86645) p_ad_10_0 rfl dX11_day_58 ?_
        exact prI (post := fun r L1 f1 => SH (spC ((NR 30 0 4, fz (pp nL) FI FI FI FI FI FI (pp kF) (pp pF), tz (EQ bT) TA TA TA, sc0) : RS) ((0, 6) : Int × Int) tc w q) nnC G ad L1 f1) S Y rfl (by decide) (by decide) hA1 I dX11_day_61
      · have B_86627 : bn 1 2147483647 i1 := bn_w (bn_gtl c_86626 (bn_any i1) b_y32_2) (by decide)
        have B_86628 : bn 0 2147483646 y32_2 := bn_w (bn_gtr c_86626 (bn_any i1) b_y32_2) (by decide)
        refine lv_aload_n hx hb dX11_day_37 rfl (lv_at hl 0 rfl) ?_
        have p_ad_0_0 := opnC_0 (j := 0) I (by decide)
        have p_ad_0_0 : pt L_32 f_32 (ad 0 0) (.inr (11, [.ref (ad 1 0), .ref (ad 1 1), .ref (ad 2 0), .ref (ad 3 0), .ref (ad 4 0), .ref (ad 5 0), .ref (ad 6 0), .ref (ad 7 0), .ref (ad 8 0)])) := p_ad_0_0
        refine pg_get S Y ok_X11 5 (by decide) kf11_50 (v := .ref (ad 5 0)) p_ad_0_0 rfl dX11_day_38 ?_
        refine cVi (As := []) (rest := []) S Y (x_X1_passDay (l := l) I hW hT hQ) cw_X1_passDay km11_154 (I.opo (k := 5) (j := 0) (by decide) rfl).choose_spec.1 ok_X1.1 rfl rfl ⟨Nat.le_of_ble_eq_true rfl, Nat.le_of_ble_eq_true rfl⟩ hl.1 rfl (Nat.le_of_ble_eq_true rfl) ⟨Nat.le_of_ble_eq_true rfl, Nat.le_of_ble_eq_true rfl⟩ dX11_day_41 (fun r_86651 L_86649 f_86650 H locs hr_86651 Y => ?_)
        obtain ⟨er_86651, I⟩ := hr_86651
        refine lv_pop hx hb dX11_day_44 rfl ?_
        obtain ⟨x_86652, ex_86652⟩ : ∃ z : Int32, z = y32_2 + 1 := ⟨_, rfl⟩
        refine lv_iinc (v := x_86652) (lv' := [(2, .int x_86652), (0, .ref (ad 0 0)), (1, .int i1)]) hx hb dX11_day_45 hl (k := 2) rfl (by rw [ex_86652]; rfl) (by decide) rfl (fun ls hl => ?_)
        refine lv_goto (tgt := 32) hx hb dX11_day_48 (by decide) ?_
        exact ih32 _ (by rw [← hm32]; exact ms_up (m := 1) ex_86652 (show bn 1 1 (1 : Int32) from bn_k (by decide)) B_86628 (bn_w (bn_eq ex_86652 (bn_add B_86628 (show bn 1 1 (1 : Int32) from bn_k (by decide)) (by decide))) (by decide) : bn 0 2147483647 x_86652) (by decide)) x_86652 _ _  _ _ _ I (bn_w (bn_eq ex_86652 (bn_add B_86628 (show bn 1 1 (1 : Int32) from bn_k (by decide)) (by decide))) (by decide)) rfl Y (lv_sub hl [1, 2, 0] rfl)
  refine lv_iload_n hx hb dX11_day_0 rfl (lv_at hl 1 rfl) ?_
  refine lv_iconst (v := 1) hx hb dX11_day_1 (by decide) ?_
  refine lv_bipush (v := 60) hx hb dX11_day_2 (by decide) ?_
  refine cSp (As := [.int i1, .int 1, .int 60]) (rest := []) S Y (x_X11_within (l := l) ) cw_X11_within km11_146 rfl ⟨Nat.le_of_ble_eq_true rfl, Nat.le_of_ble_eq_true rfl⟩ hl.1 rfl (Nat.le_of_ble_eq_true rfl) ⟨Nat.le_of_ble_eq_true rfl, Nat.le_of_ble_eq_true rfl⟩ dX11_day_4 (fun r_86653 H locs er_86653 Y => ?_)
  refine lv_if_eq (tgt := 28) hx hb dX11_day_7 (by decide) (fun c_86654 => ?_) (fun c_86654 => ?_)
  · have B_86655 : bn 0 0 r_86653 := bn_w (bn_eq c_86654 (show bn 0 0 (0 : Int32) from bn_k (by decide))) (by decide)
    refine lv_iconst (v := (-1)) hx hb dX11_day_28 (by decide) ?_
    exact prI (post := fun r L1 f1 => SH (spC ((NR 30 0 4, fz (pp nL) FI FI FI FI FI FI (pp kF) (pp pF), tz (EQ bT) TA TA TA, sc0) : RS) ((0, 6) : Int × Int) tc w q) nnC G ad L1 f1) S Y rfl (by decide) (by decide) hA1 I dX11_day_29
  · have B_86656 : bn 1 1 r_86653 := bn_w (bn_nel c_86654 er_86653 (show bn 0 0 (0 : Int32) from bn_k (by decide))) (by decide)
    refine lv_aload_n hx hb dX11_day_10 rfl (lv_at hl 0 rfl) ?_
    have p_ad_0_0 := opnC_0 (j := 0) I (by decide)
    have p_ad_0_0 : pt L f (ad 0 0) (.inr (11, [.ref (ad 1 0), .ref (ad 1 1), .ref (ad 2 0), .ref (ad 3 0), .ref (ad 4 0), .ref (ad 5 0), .ref (ad 6 0), .ref (ad 7 0), .ref (ad 8 0)])) := p_ad_0_0
    refine pg_get S Y ok_X11 0 (by decide) kf11_13 (v := .ref (ad 1 0)) p_ad_0_0 rfl dX11_day_11 ?_
    obtain ⟨v_86657, v_86659, v_86661, v_86663, v_86665, p_ad_1_0, b_86658, b_86660, b_86662, b_86664, b_86666⟩ := opnC_1 (j := 0) I (by decide)
    have p_ad_1_0 : pt L f (ad 1 0) (.inr (10, [.ref (ad 40 0), .ref (ad 41 0), .ref (ad 42 0), .ref (ad 10 0), .ref (ad 43 0), .ref (ad 20 0), .ref (ad 20 1), .ref (ad 20 2), .ref (ad 20 3), .ref (ad 20 4), .int v_86657, .int v_86659, .int v_86661, .int v_86663, .int v_86665])) := p_ad_1_0
    refine pg_getN S Y ok_X10 3 (by decide) kf11_131 (v := .ref (ad 10 0)) p_ad_1_0 rfl dX11_day_14 ?_
    obtain ⟨v_86667, v_86669, v_86671, v_86673, v_86675, p_ad_10_0, b_86668, b_86670, b_86672, b_86674, b_86676⟩ := opnC_10 (j := 0) I (by decide)
    have p_ad_10_0 : pt L f (ad 10 0) (.inr (4, [.ref (ad 11 0), .ref (ad 12 0), .int v_86667, .int v_86669, .int v_86671, .int v_86673, .int v_86675])) := p_ad_10_0
    refine pg_getN S Y ok_X4 4 (by decide) kf11_150 (v := .int v_86671) p_ad_10_0 rfl dX11_day_17 ?_
    refine lv_iload_n hx hb dX11_day_20 rfl (lv_at hl 1 rfl) ?_
    refine lv_iadd hx hb dX11_day_21 ?_
    refine lv_topi (fun x_86677 ex_86677 => ?_)
    refine lv_sipush (v := 9999) hx hb dX11_day_22 (by decide) ?_
    refine lv_icmp_le (tgt := 30) hx hb dX11_day_25 (by decide) (fun c_86678 => ?_) (fun c_86678 => ?_)
    · have B_86679 : bn (-2147483648) 9999 x_86677 := bn_w (bn_lel c_86678 (bn_any x_86677) (show bn 9999 9999 (9999 : Int32) from bn_k (by decide))) (by decide)
      refine lv_iconst (v := 0) hx hb dX11_day_30 (by decide) ?_
      refine lv_istore_n (lv' := [(2, .int 0), (0, .ref (ad 0 0)), (1, .int i1)]) hx hb dX11_day_31 rfl hl (by decide) rfl (fun ls hl => ?_)
      exact J_32 _ 0 _ _  _ _ _ I (bn_w (show bn 0 0 (0 : Int32) from bn_k (by decide)) (by decide)) rfl Y (lv_sub hl [1, 2, 0] rfl)
    · have B_86680 : bn 10000 2147483647 x_86677 := bn_w (bn_gtl c_86678 (bn_any x_86677) (show bn 9999 9999 (9999 : Int32) from bn_k (by decide))) (by decide)
      refine lv_iconst (v := (-1)) hx hb dX11_day_28 (by decide) ?_
      exact prI (post := fun r L1 f1 => SH (spC ((NR 30 0 4, fz (pp nL) FI FI FI FI FI FI (pp kF) (pp pF), tz (EQ bT) TA TA TA, sc0) : RS) ((0, 6) : Int × Int) tc w q) nnC G ad L1 f1) S Y rfl (by decide) (by decide) hA1 I dX11_day_29
set_option maxHeartbeats 4000000 in
set_option maxRecDepth 100000 in
theorem x_X11_played {l : Launch} {G : GG}  {L : List Nat} {f : HF} {ad : Nat → Nat → Nat} {nL : Int} {bT : Nat → Int32} {kF : Int} {pF : Int} {tc w : Nat → Int × Int} {q : Nat → (Nat → Int32) → Prop} {i1 : Int32} (I : SH (spC ((NR 30 0 4, fz (pp nL) FI FI FI FI FI FI (pp kF) (pp pF), tz (EQ bT) TA TA TA, sc0) : RS) ((0, 6) : Int × Int) tc w q) nnC G ad L f) (hW : WBp w 8) (hT : WBp tc 4) (hQ : QIp q) (hZ : ZZp w q) (hE : ∀ j, (tc j).1 = (tc j).2) : PMi l yX11_played cX11_played 4 .int 7 0 0 G [.ref (ad 0 0), .int i1] L f (fun r L1 f1 => SH (spC ((NR 30 0 4, fz (pp nL) FI FI FI FI FI FI (pp kF) (pp pF), tz (EQ bT) TA TA TA, sc0) : RS) ((0, 6) : Int × Int) tc w q) nnC G ad L1 f1) := by
  refine PMi.of (post := fun r L1 f1 => SH (spC ((NR 30 0 4, fz (pp nL) FI FI FI FI FI FI (pp kF) (pp pF), tz (EQ bT) TA TA TA, sc0) : RS) ((0, 6) : Int × Int) tc w q) nnC G ad L1 f1) (own := RX11) (by decide) rfl (Nat.le_of_ble_eq_true rfl) (fun sz p e s m args below meth c A ls hA1 hname S Y hl => ?_)
  have hx := S.hx
  have hb := S.hb
  have hl : lv_has ls 4 [(0, .ref (ad 0 0)), (1, .int i1)] := hl
  have J_18 : ∀ (n18 : Nat) (y18_3 : Int32) (u18_2 : Nat) (L_18 : List Nat) (f_18 : HF) (H : Heap) (locs : List Loc) (ls : Array Slot), (SH (spC ((NR 30 0 4, fz (pp nL) FI FI FI FI FI FI (pp kF) (pp pF), tz (EQ bT) TA TA TA, sc0) : RS) ((0, 6) : Int × Int) tc w q) nnC G ad L_18 f_18) → (u18_2 < 8) → (bn 0 24 y18_3) → (((24 : Int) - y18_3.toInt).toNat = n18) → (DY G A s [] L_18 f_18 H locs) → (lv_has ls 4 [(0, .ref (ad 0 0)), (1, .int i1), (2, .ref (ad 30 u18_2)), (3, .int y18_3)]) → W p l e (rmD 7 0 0) s m args below meth c H locs (0) (0) (MQ below (va_Qi (fun r (u : List Nat × HF) => (fun r L1 f1 => SH (spC ((NR 30 0 4, fz (pp nL) FI FI FI FI FI FI (pp kF) (pp pF), tz (EQ bT) TA TA TA, sc0) : RS) ((0, 6) : Int × Int) tc w q) nnC G ad L1 f1) r u.1 u.2) (fun u t => pOut G (va_A (va_pl L f) sz) u.1 u.2 t) (va_A (va_pl L f) sz)) args s 0 0 A) (F0 m 18 ls []) := by
    intro n18
    induction n18 using Nat.strongRecOn with
    | _ n18 ih18 =>
      intro y18_3 u18_2 L_18 f_18 H locs ls I hu18_2 b_y18_3 hm18 Y hl
      refine lv_iload_n hx hb dX11_played_18 rfl (lv_at hl 3 rfl) ?_
      refine lv_aload_n hx hb dX11_played_19 rfl (lv_at hl 2 rfl) ?_
      obtain ⟨v_86923, v_86925, p_ad_30_u18_2, b_86924, b_86926⟩ := opnC_30 (j := u18_2) I hu18_2
      have p_ad_30_u18_2 : pt L_18 f_18 (ad 30 u18_2) (.inr (7, [.ref (ad 31 u18_2), .ref (ad 32 u18_2), .ref (ad 33 u18_2), .ref (ad 34 u18_2), .ref (ad 35 u18_2), .int v_86923, .int v_86925])) := p_ad_30_u18_2
      refine pg_getN S Y ok_X7 6 (by decide) kf11_165 (v := .int v_86925) p_ad_30_u18_2 rfl dX11_played_20 ?_
      refine lv_icmp_ge (tgt := 46) hx hb dX11_played_23 (by decide) (fun c_86927 => ?_) (fun c_86927 => ?_)
      · refine lv_iconst (v := (-1)) hx hb dX11_played_46 (by decide) ?_
        exact prI (post := fun r L1 f1 => SH (spC ((NR 30 0 4, fz (pp nL) FI FI FI FI FI FI (pp kF) (pp pF), tz (EQ bT) TA TA TA, sc0) : RS) ((0, 6) : Int × Int) tc w q) nnC G ad L1 f1) S Y rfl (by decide) (by decide) hA1 I dX11_played_47
      · have B_86928 : bn 1 24 v_86925 := bn_w (bn_gtl c_86927 (bn_w (a' := 0) (b' := 24) b_86926 (lim_b _ _ _)) b_y18_3) (by decide)
        have B_86929 : bn 0 23 y18_3 := bn_w (bn_gtr c_86927 (bn_w (a' := 0) (b' := 24) b_86926 (lim_b _ _ _)) b_y18_3) (by decide)
        refine lv_aload_n hx hb dX11_played_26 rfl (lv_at hl 0 rfl) ?_
        have p_ad_0_0 := opnC_0 (j := 0) I (by decide)
        have p_ad_0_0 : pt L_18 f_18 (ad 0 0) (.inr (11, [.ref (ad 1 0), .ref (ad 1 1), .ref (ad 2 0), .ref (ad 3 0), .ref (ad 4 0), .ref (ad 5 0), .ref (ad 6 0), .ref (ad 7 0), .ref (ad 8 0)])) := p_ad_0_0
        refine pg_get S Y ok_X11 5 (by decide) kf11_50 (v := .ref (ad 5 0)) p_ad_0_0 rfl dX11_played_27 ?_
        refine lv_aload_n hx hb dX11_played_30 rfl (lv_at hl 2 rfl) ?_
        refine lv_iload_n hx hb dX11_played_31 rfl (lv_at hl 3 rfl) ?_
        refine cVi (As := [.ref (ad 30 u18_2), .int y18_3]) (rest := []) S Y (x_X1_perform (l := l) (j := u18_2) I hW hT hQ hu18_2) cw_X1_perform km11_170 (I.opo (k := 5) (j := 0) (by decide) rfl).choose_spec.1 ok_X1.1 rfl rfl ⟨Nat.le_of_ble_eq_true rfl, Nat.le_of_ble_eq_true rfl⟩ hl.1 rfl (Nat.le_of_ble_eq_true rfl) ⟨Nat.le_of_ble_eq_true rfl, Nat.le_of_ble_eq_true rfl⟩ dX11_played_32 (fun r_86932 L_86930 f_86931 H locs hr_86932 Y => ?_)
        obtain ⟨er_86932, I⟩ := hr_86932
        refine lv_if_ne (tgt := 40) hx hb dX11_played_35 (by decide) (fun c_86933 => ?_) (fun c_86933 => ?_)
        · have B_86934 : bn 1 1 r_86932 := bn_w (bn_nel c_86933 er_86932 (show bn 0 0 (0 : Int32) from bn_k (by decide))) (by decide)
          obtain ⟨x_86936, ex_86936⟩ : ∃ z : Int32, z = y18_3 + 1 := ⟨_, rfl⟩
          refine lv_iinc (v := x_86936) (lv' := [(3, .int x_86936), (0, .ref (ad 0 0)), (1, .int i1), (2, .ref (ad 30 u18_2))]) hx hb dX11_played_40 hl (k := 3) rfl (by rw [ex_86936]; rfl) (by decide) rfl (fun ls hl => ?_)
          refine lv_goto (tgt := 18) hx hb dX11_played_43 (by decide) ?_
          exact ih18 _ (by rw [← hm18]; exact ms_up (m := 1) ex_86936 (show bn 1 1 (1 : Int32) from bn_k (by decide)) B_86929 (bn_w (bn_eq ex_86936 (bn_add B_86929 (show bn 1 1 (1 : Int32) from bn_k (by decide)) (by decide))) (by decide) : bn 0 24 x_86936) (by decide)) x_86936 u18_2 _ _  _ _ _ I hu18_2 (bn_w (bn_eq ex_86936 (bn_add B_86929 (show bn 1 1 (1 : Int32) from bn_k (by decide)) (by decide))) (by decide)) rfl Y (lv_sub hl [1, 2, 3, 0] rfl)
        · have B_86935 : bn 0 0 r_86932 := bn_w (bn_eq c_86933 (show bn 0 0 (0 : Int32) from bn_k (by decide))) (by decide)
          refine lv_iload_n hx hb dX11_played_38 rfl (lv_at hl 3 rfl) ?_
          exact prI (post := fun r L1 f1 => SH (spC ((NR 30 0 4, fz (pp nL) FI FI FI FI FI FI (pp kF) (pp pF), tz (EQ bT) TA TA TA, sc0) : RS) ((0, 6) : Int × Int) tc w q) nnC G ad L1 f1) S Y rfl (by decide) (by decide) hA1 I dX11_played_39
  refine lv_aload_n hx hb dX11_played_0 rfl (lv_at hl 0 rfl) ?_
  have p_ad_0_0 := opnC_0 (j := 0) I (by decide)
  have p_ad_0_0 : pt L f (ad 0 0) (.inr (11, [.ref (ad 1 0), .ref (ad 1 1), .ref (ad 2 0), .ref (ad 3 0), .ref (ad 4 0), .ref (ad 5 0), .ref (ad 6 0), .ref (ad 7 0), .ref (ad 8 0)])) := p_ad_0_0
  refine pg_get S Y ok_X11 0 (by decide) kf11_13 (v := .ref (ad 1 0)) p_ad_0_0 rfl dX11_played_1 ?_
  refine lv_iload_n hx hb dX11_played_4 rfl (lv_at hl 1 rfl) ?_
  refine cVw (As := [.int i1]) (rest := []) S Y (x_X10_script (l := l) I hW hT hQ) cw_X10_script km11_161 (I.opo (k := 1) (j := 0) (by decide) rfl).choose_spec.1 ok_X10.1 rfl rfl ⟨Nat.le_of_ble_eq_true rfl, Nat.le_of_ble_eq_true rfl⟩ hl.1 rfl (Nat.le_of_ble_eq_true rfl) ⟨Nat.le_of_ble_eq_true rfl, Nat.le_of_ble_eq_true rfl⟩ dX11_played_5 (fun r_86937 H locs er_86937 Y => ?_)
  rcases er_86937 with er_86937 | ⟨t_86938, ht_86938, er_86937⟩
  · rw [er_86937]
    show W _ _ _ _ _ _ _ _ _ _ _ _ _ _ _ (F0 _ _ _ (.null :: _))
    refine lv_astore_nN (lv' := [(2, .null), (0, .ref (ad 0 0)), (1, .int i1)]) hx hb dX11_played_8 rfl hl (by decide) rfl (fun ls hl => ?_)
    refine lv_aload_nN hx hb dX11_played_9 rfl (lv_at hl 0 rfl) ?_
    refine lv_ifnonnullN hx hb dX11_played_10 ?_
    refine lv_bipush (v := (-2)) hx hb dX11_played_13 (by decide) ?_
    exact prI (post := fun r L1 f1 => SH (spC ((NR 30 0 4, fz (pp nL) FI FI FI FI FI FI (pp kF) (pp pF), tz (EQ bT) TA TA TA, sc0) : RS) ((0, 6) : Int × Int) tc w q) nnC G ad L1 f1) S Y rfl (by decide) (by decide) hA1 I dX11_played_15
  · rw [er_86937]
    have e9 : 0 + t_86938 = t_86938 := Nat.zero_add _
    rw [e9]
    show W _ _ _ _ _ _ _ _ _ _ _ _ _ _ _ (F0 _ _ _ (.ref (ad 30 t_86938) :: _))
    refine lv_astore_n (lv' := [(2, .ref (ad 30 t_86938)), (0, .ref (ad 0 0)), (1, .int i1)]) hx hb dX11_played_8 rfl hl (by decide) rfl (fun ls hl => ?_)
    refine lv_aload_n hx hb dX11_played_9 rfl (lv_at hl 0 rfl) ?_
    refine lv_ifnonnull (tgt := 16) hx hb dX11_played_10 (by decide) ?_
    refine lv_iconst (v := 0) hx hb dX11_played_16 (by decide) ?_
    refine lv_istore_n (lv' := [(3, .int 0), (2, .ref (ad 30 t_86938)), (0, .ref (ad 0 0)), (1, .int i1)]) hx hb dX11_played_17 rfl hl (by decide) rfl (fun ls hl => ?_)
    exact J_18 _ 0 t_86938 _ _  _ _ _ I (show t_86938 < 8 from by omega) (bn_w (show bn 0 0 (0 : Int32) from bn_k (by decide)) (by decide)) rfl Y (lv_sub hl [2, 3, 1, 0] rfl)
set_option maxHeartbeats 4000000 in
set_option maxRecDepth 100000 in
theorem x_X11_years {l : Launch} {G : GG}  {L : List Nat} {f : HF} {ad : Nat → Nat → Nat} {nL : Int} {bT : Nat → Int32} {kF : Int} {pF : Int} {tc w : Nat → Int × Int} {q : Nat → (Nat → Int32) → Prop} {i1 i2 : Int32} (I : SH (spC ((NR 30 0 4, fz (pp nL) FI FI FI FI FI FI (pp kF) (pp pF), tz (EQ bT) TA TA TA, sc0) : RS) ((0, 6) : Int × Int) tc w q) nnC G ad L f) (hW : WBp w 8) (hT : WBp tc 4) (hQ : QIp q) (hZ : ZZp w q) (hE : ∀ j, (tc j).1 = (tc j).2) : PMi l yX11_years cX11_years 4 .int 7 0 0 G [.ref (ad 0 0), .int i1, .int i2] L f (fun r L1 f1 => SH (spC ((NR 30 0 4, fz (pp nL) FI FI FI FI FI FI (pp kF) (pp pF), tz (EQ bT) TA TA TA, sc0) : RS) ((0, 6) : Int × Int) tc w q) nnC G ad L1 f1) := by
  refine PMi.of (post := fun r L1 f1 => SH (spC ((NR 30 0 4, fz (pp nL) FI FI FI FI FI FI (pp kF) (pp pF), tz (EQ bT) TA TA TA, sc0) : RS) ((0, 6) : Int × Int) tc w q) nnC G ad L1 f1) (own := RX11) (by decide) rfl (Nat.le_of_ble_eq_true rfl) (fun sz p e s m args below meth c A ls hA1 hname S Y hl => ?_)
  have hx := S.hx
  have hb := S.hb
  have hl : lv_has ls 4 [(0, .ref (ad 0 0)), (1, .int i1), (2, .int i2)] := hl
  have J_43 : ∀ (n43 : Nat) (y43_3 : Int32) (L_43 : List Nat) (f_43 : HF) (H : Heap) (locs : List Loc) (ls : Array Slot), (SH (spC ((NR 30 0 4, fz (pp nL) FI FI FI FI FI FI (pp kF) (pp pF), tz (EQ bT) TA TA TA, sc0) : RS) ((0, 6) : Int × Int) tc w q) nnC G ad L_43 f_43) → (bn 0 2147483647 y43_3) → (((2147483647 : Int) - y43_3.toInt).toNat = n43) → (DY G A s [] L_43 f_43 H locs) → (lv_has ls 4 [(0, .ref (ad 0 0)), (1, .int i1), (2, .int i2), (3, .int y43_3)]) → W p l e (rmD 7 0 0) s m args below meth c H locs (0) (0) (MQ below (va_Qi (fun r (u : List Nat × HF) => (fun r L1 f1 => SH (spC ((NR 30 0 4, fz (pp nL) FI FI FI FI FI FI (pp kF) (pp pF), tz (EQ bT) TA TA TA, sc0) : RS) ((0, 6) : Int × Int) tc w q) nnC G ad L1 f1) r u.1 u.2) (fun u t => pOut G (va_A (va_pl L f) sz) u.1 u.2 t) (va_A (va_pl L f) sz)) args s 0 0 A) (F0 m 43 ls []) := by
    intro n43
    induction n43 using Nat.strongRecOn with
    | _ n43 ih43 =>
      intro y43_3 L_43 f_43 H locs ls I b_y43_3 hm43 Y hl
      refine lv_iload_n hx hb dX11_years_43 rfl (lv_at hl 3 rfl) ?_
      refine lv_iload_n hx hb dX11_years_44 rfl (lv_at hl 2 rfl) ?_
      refine lv_icmp_ge (tgt := 61) hx hb dX11_years_45 (by decide) (fun c_88413 => ?_) (fun c_88413 => ?_)
      · refine lv_aload_n hx hb dX11_years_61 rfl (lv_at hl 0 rfl) ?_
        have p_ad_0_0 := opnC_0 (j := 0) I (by decide)
        have p_ad_0_0 : pt L_43 f_43 (ad 0 0) (.inr (11, [.ref (ad 1 0), .ref (ad 1 1), .ref (ad 2 0), .ref (ad 3 0), .ref (ad 4 0), .ref (ad 5 0), .ref (ad 6 0), .ref (ad 7 0), .ref (ad 8 0)])) := p_ad_0_0
        refine pg_get S Y ok_X11 5 (by decide) kf11_50 (v := .ref (ad 5 0)) p_ad_0_0 rfl dX11_years_62 ?_
        refine cVv (As := []) (rest := []) S Y (x_X1_endYears (l := l) I hW hT hQ) cw_X1_endYears km11_183 (I.opo (k := 5) (j := 0) (by decide) rfl).choose_spec.1 ok_X1.1 rfl rfl ⟨Nat.le_of_ble_eq_true rfl, Nat.le_of_ble_eq_true rfl⟩ hl.1 rfl (Nat.le_of_ble_eq_true rfl) ⟨Nat.le_of_ble_eq_true rfl, Nat.le_of_ble_eq_true rfl⟩ dX11_years_65 (fun L_88416 f_88417 H locs I Y => ?_)
        refine lv_aload_n hx hb dX11_years_68 rfl (lv_at hl 0 rfl) ?_
        have p_ad_0_0 := opnC_0 (j := 0) I (by decide)
        have p_ad_0_0 : pt L_88416 f_88417 (ad 0 0) (.inr (11, [.ref (ad 1 0), .ref (ad 1 1), .ref (ad 2 0), .ref (ad 3 0), .ref (ad 4 0), .ref (ad 5 0), .ref (ad 6 0), .ref (ad 7 0), .ref (ad 8 0)])) := p_ad_0_0
        refine pg_get S Y ok_X11 0 (by decide) kf11_13 (v := .ref (ad 1 0)) p_ad_0_0 rfl dX11_years_69 ?_
        obtain ⟨v_88418, v_88420, v_88422, v_88424, v_88426, p_ad_1_0, b_88419, b_88421, b_88423, b_88425, b_88427⟩ := opnC_1 (j := 0) I (by decide)
        have p_ad_1_0 : pt L_88416 f_88417 (ad 1 0) (.inr (10, [.ref (ad 40 0), .ref (ad 41 0), .ref (ad 42 0), .ref (ad 10 0), .ref (ad 43 0), .ref (ad 20 0), .ref (ad 20 1), .ref (ad 20 2), .ref (ad 20 3), .ref (ad 20 4), .int v_88418, .int v_88420, .int v_88422, .int v_88424, .int v_88426])) := p_ad_1_0
        refine pg_getN S Y ok_X10 3 (by decide) kf11_131 (v := .ref (ad 10 0)) p_ad_1_0 rfl dX11_years_72 ?_
        obtain ⟨v_88428, v_88430, v_88432, v_88434, v_88436, p_ad_10_0, b_88429, b_88431, b_88433, b_88435, b_88437⟩ := opnC_10 (j := 0) I (by decide)
        have p_ad_10_0 : pt L_88416 f_88417 (ad 10 0) (.inr (4, [.ref (ad 11 0), .ref (ad 12 0), .int v_88428, .int v_88430, .int v_88432, .int v_88434, .int v_88436])) := p_ad_10_0
        refine pg_getN S Y ok_X4 4 (by decide) kf11_150 (v := .int v_88432) p_ad_10_0 rfl dX11_years_75 ?_
        exact prI (post := fun r L1 f1 => SH (spC ((NR 30 0 4, fz (pp nL) FI FI FI FI FI FI (pp kF) (pp pF), tz (EQ bT) TA TA TA, sc0) : RS) ((0, 6) : Int × Int) tc w q) nnC G ad L1 f1) S Y rfl (by decide) (by decide) hA1 I dX11_years_78
      · have B_88414 : bn 1 2147483647 i2 := bn_w (bn_gtl c_88413 (bn_any i2) b_y43_3) (by decide)
        have B_88415 : bn 0 2147483646 y43_3 := bn_w (bn_gtr c_88413 (bn_any i2) b_y43_3) (by decide)
        refine lv_aload_n hx hb dX11_years_48 rfl (lv_at hl 0 rfl) ?_
        have p_ad_0_0 := opnC_0 (j := 0) I (by decide)
        have p_ad_0_0 : pt L_43 f_43 (ad 0 0) (.inr (11, [.ref (ad 1 0), .ref (ad 1 1), .ref (ad 2 0), .ref (ad 3 0), .ref (ad 4 0), .ref (ad 5 0), .ref (ad 6 0), .ref (ad 7 0), .ref (ad 8 0)])) := p_ad_0_0
        refine pg_get S Y ok_X11 5 (by decide) kf11_50 (v := .ref (ad 5 0)) p_ad_0_0 rfl dX11_years_49 ?_
        refine cVv (As := []) (rest := []) S Y (x_X1_liveOn (l := l) I hW hT hQ) cw_X1_liveOn km11_180 (I.opo (k := 5) (j := 0) (by decide) rfl).choose_spec.1 ok_X1.1 rfl rfl ⟨Nat.le_of_ble_eq_true rfl, Nat.le_of_ble_eq_true rfl⟩ hl.1 rfl (Nat.le_of_ble_eq_true rfl) ⟨Nat.le_of_ble_eq_true rfl, Nat.le_of_ble_eq_true rfl⟩ dX11_years_52 (fun L_88438 f_88439 H locs I Y => ?_)
        obtain ⟨x_88440, ex_88440⟩ : ∃ z : Int32, z = y43_3 + 1 := ⟨_, rfl⟩
        refine lv_iinc (v := x_88440) (lv' := [(3, .int x_88440), (0, .ref (ad 0 0)), (1, .int i1), (2, .int i2)]) hx hb dX11_years_55 hl (k := 3) rfl (by rw [ex_88440]; rfl) (by decide) rfl (fun ls hl => ?_)
        refine lv_goto (tgt := 43) hx hb dX11_years_58 (by decide) ?_
        exact ih43 _ (by rw [← hm43]; exact ms_up (m := 1) ex_88440 (show bn 1 1 (1 : Int32) from bn_k (by decide)) B_88415 (bn_w (bn_eq ex_88440 (bn_add B_88415 (show bn 1 1 (1 : Int32) from bn_k (by decide)) (by decide))) (by decide) : bn 0 2147483647 x_88440) (by decide)) x_88440 _ _  _ _ _ I (bn_w (bn_eq ex_88440 (bn_add B_88415 (show bn 1 1 (1 : Int32) from bn_k (by decide)) (by decide))) (by decide)) rfl Y (lv_sub hl [1, 2, 3, 0] rfl)
  refine lv_iload_n hx hb dX11_years_0 rfl (lv_at hl 1 rfl) ?_
  refine lv_iconst (v := 0) hx hb dX11_years_1 (by decide) ?_
  refine lv_sipush (v := 9999) hx hb dX11_years_2 (by decide) ?_
  refine cSp (As := [.int i1, .int 0, .int 9999]) (rest := []) S Y (x_X11_within (l := l) ) cw_X11_within km11_146 rfl ⟨Nat.le_of_ble_eq_true rfl, Nat.le_of_ble_eq_true rfl⟩ hl.1 rfl (Nat.le_of_ble_eq_true rfl) ⟨Nat.le_of_ble_eq_true rfl, Nat.le_of_ble_eq_true rfl⟩ dX11_years_5 (fun r_88441 H locs er_88441 Y => ?_)
  refine lv_if_eq (tgt := 31) hx hb dX11_years_8 (by decide) (fun c_88442 => ?_) (fun c_88442 => ?_)
  · have B_88443 : bn 0 0 r_88441 := bn_w (bn_eq c_88442 (show bn 0 0 (0 : Int32) from bn_k (by decide))) (by decide)
    refine lv_iconst (v := (-1)) hx hb dX11_years_31 (by decide) ?_
    exact prI (post := fun r L1 f1 => SH (spC ((NR 30 0 4, fz (pp nL) FI FI FI FI FI FI (pp kF) (pp pF), tz (EQ bT) TA TA TA, sc0) : RS) ((0, 6) : Int × Int) tc w q) nnC G ad L1 f1) S Y rfl (by decide) (by decide) hA1 I dX11_years_32
  · have B_88444 : bn 1 1 r_88441 := bn_w (bn_nel c_88442 er_88441 (show bn 0 0 (0 : Int32) from bn_k (by decide))) (by decide)
    refine lv_iload_n hx hb dX11_years_11 rfl (lv_at hl 2 rfl) ?_
    refine lv_iconst (v := 1) hx hb dX11_years_12 (by decide) ?_
    refine lv_bipush (v := 40) hx hb dX11_years_13 (by decide) ?_
    refine cSp (As := [.int i2, .int 1, .int 40]) (rest := []) S Y (x_X11_within (l := l) ) cw_X11_within km11_146 rfl ⟨Nat.le_of_ble_eq_true rfl, Nat.le_of_ble_eq_true rfl⟩ hl.1 rfl (Nat.le_of_ble_eq_true rfl) ⟨Nat.le_of_ble_eq_true rfl, Nat.le_of_ble_eq_true rfl⟩ dX11_years_15 (fun r_88445 H locs er_88445 Y => ?_)
    refine lv_if_eq (tgt := 31) hx hb dX11_years_18 (by decide) (fun c_88446 => ?_) (fun c_88446 => ?_)
    · have B_88447 : bn 0 0 r_88445 := bn_w (bn_eq c_88446 (show bn 0 0 (0 : Int32) from bn_k (by decide))) (by decide)
      refine lv_iconst (v := (-1)) hx hb dX11_years_31 (by decide) ?_
      exact prI (post := fun r L1 f1 => SH (spC ((NR 30 0 4, fz (pp nL) FI FI FI FI FI FI (pp kF) (pp pF), tz (EQ bT) TA TA TA, sc0) : RS) ((0, 6) : Int × Int) tc w q) nnC G ad L1 f1) S Y rfl (by decide) (by decide) hA1 I dX11_years_32
    · have B_88448 : bn 1 1 r_88445 := bn_w (bn_nel c_88446 er_88445 (show bn 0 0 (0 : Int32) from bn_k (by decide))) (by decide)
      refine lv_aload_n hx hb dX11_years_21 rfl (lv_at hl 0 rfl) ?_
      have p_ad_0_0 := opnC_0 (j := 0) I (by decide)
      have p_ad_0_0 : pt L f (ad 0 0) (.inr (11, [.ref (ad 1 0), .ref (ad 1 1), .ref (ad 2 0), .ref (ad 3 0), .ref (ad 4 0), .ref (ad 5 0), .ref (ad 6 0), .ref (ad 7 0), .ref (ad 8 0)])) := p_ad_0_0
      refine pg_get S Y ok_X11 0 (by decide) kf11_13 (v := .ref (ad 1 0)) p_ad_0_0 rfl dX11_years_22 ?_
      obtain ⟨v_88449, v_88451, v_88453, v_88455, v_88457, p_ad_1_0, b_88450, b_88452, b_88454, b_88456, b_88458⟩ := opnC_1 (j := 0) I (by decide)
      have p_ad_1_0 : pt L f (ad 1 0) (.inr (10, [.ref (ad 40 0), .ref (ad 41 0), .ref (ad 42 0), .ref (ad 10 0), .ref (ad 43 0), .ref (ad 20 0), .ref (ad 20 1), .ref (ad 20 2), .ref (ad 20 3), .ref (ad 20 4), .int v_88449, .int v_88451, .int v_88453, .int v_88455, .int v_88457])) := p_ad_1_0
      refine pg_getN S Y ok_X10 10 (by decide) kf11_174 (v := .int v_88449) p_ad_1_0 rfl dX11_years_25 ?_
      refine lv_if_ne (tgt := 33) hx hb dX11_years_28 (by decide) (fun c_88459 => ?_) (fun c_88459 => ?_)
      · have B_88460 : bn 1 6 v_88449 := bn_w (bn_nel c_88459 b_88450 (show bn 0 0 (0 : Int32) from bn_k (by decide))) (by decide)
        refine lv_aload_n hx hb dX11_years_33 rfl (lv_at hl 0 rfl) ?_
        refine pg_get S Y ok_X11 5 (by decide) kf11_50 (v := .ref (ad 5 0)) p_ad_0_0 rfl dX11_years_34 ?_
        refine lv_iload_n hx hb dX11_years_37 rfl (lv_at hl 1 rfl) ?_
        refine cVv (As := [.int i1]) (rest := []) S Y (x_X1_beginYears (l := l) I hW hT hQ) cw_X1_beginYears km11_177 (I.opo (k := 5) (j := 0) (by decide) rfl).choose_spec.1 ok_X1.1 rfl rfl ⟨Nat.le_of_ble_eq_true rfl, Nat.le_of_ble_eq_true rfl⟩ hl.1 rfl (Nat.le_of_ble_eq_true rfl) ⟨Nat.le_of_ble_eq_true rfl, Nat.le_of_ble_eq_true rfl⟩ dX11_years_38 (fun L_88462 f_88463 H locs I Y => ?_)
        refine lv_iconst (v := 0) hx hb dX11_years_41 (by decide) ?_
        refine lv_istore_n (lv' := [(3, .int 0), (0, .ref (ad 0 0)), (1, .int i1), (2, .int i2)]) hx hb dX11_years_42 rfl hl (by decide) rfl (fun ls hl => ?_)
        exact J_43 _ 0 _ _  _ _ _ I (bn_w (show bn 0 0 (0 : Int32) from bn_k (by decide)) (by decide)) rfl Y (lv_sub hl [1, 2, 3, 0] rfl)
      · have B_88461 : bn 0 0 v_88449 := bn_w (bn_eq c_88459 (show bn 0 0 (0 : Int32) from bn_k (by decide))) (by decide)
        refine lv_iconst (v := (-1)) hx hb dX11_years_31 (by decide) ?_
        exact prI (post := fun r L1 f1 => SH (spC ((NR 30 0 4, fz (pp nL) FI FI FI FI FI FI (pp kF) (pp pF), tz (EQ bT) TA TA TA, sc0) : RS) ((0, 6) : Int × Int) tc w q) nnC G ad L1 f1) S Y rfl (by decide) (by decide) hA1 I dX11_years_32
set_option maxHeartbeats 4000000 in
set_option maxRecDepth 100000 in
theorem x_X11_undo {l : Launch} {G : GG}  {L : List Nat} {f : HF} {ad : Nat → Nat → Nat} {nL : Int} {bT : Nat → Int32} {kF : Int} {pF : Int} {tc w : Nat → Int × Int} {q : Nat → (Nat → Int32) → Prop} (I : SH (spC ((NR 30 0 4, fz (pp nL) FI FI FI FI FI FI (pp kF) (pp pF), tz (EQ bT) TA TA TA, sc0) : RS) ((0, 6) : Int × Int) tc w q) nnC G ad L f) (hW : WBp w 8) (hT : WBp tc 4) (hQ : QIp q) (hZ : ZZp w q) (hE : ∀ j, (tc j).1 = (tc j).2) : PMi l yX11_undo cX11_undo 1 .int 3 0 0 G [.ref (ad 0 0)] L f (fun r L1 f1 => SH (spC ((NR 30 0 4, fz (pp nL) FI FI FI FI FI FI (pp kF) (pp pF), tz (EQ bT) TA TA TA, sc0) : RS) ((0, 6) : Int × Int) tc w q) nnC G ad L1 f1) := by
  refine PMi.of (post := fun r L1 f1 => SH (spC ((NR 30 0 4, fz (pp nL) FI FI FI FI FI FI (pp kF) (pp pF), tz (EQ bT) TA TA TA, sc0) : RS) ((0, 6) : Int × Int) tc w q) nnC G ad L1 f1) (own := RX11) (by decide) rfl (Nat.le_of_ble_eq_true rfl) (fun sz p e s m args below meth c A ls hA1 hname S Y hl => ?_)
  have hx := S.hx
  have hb := S.hb
  have hl : lv_has ls 1 [(0, .ref (ad 0 0))] := hl
  refine lv_aload_n hx hb dX11_undo_0 rfl (lv_at hl 0 rfl) ?_
  have p_ad_0_0 := opnC_0 (j := 0) I (by decide)
  have p_ad_0_0 : pt L f (ad 0 0) (.inr (11, [.ref (ad 1 0), .ref (ad 1 1), .ref (ad 2 0), .ref (ad 3 0), .ref (ad 4 0), .ref (ad 5 0), .ref (ad 6 0), .ref (ad 7 0), .ref (ad 8 0)])) := p_ad_0_0
  refine pg_get S Y ok_X11 0 (by decide) kf11_13 (v := .ref (ad 1 0)) p_ad_0_0 rfl dX11_undo_1 ?_
  refine cVi (As := []) (rest := []) S Y (x_X10_takeBack (l := l) I hW hT hQ) cw_X10_takeBack km11_186 (I.opo (k := 1) (j := 0) (by decide) rfl).choose_spec.1 ok_X10.1 rfl rfl ⟨Nat.le_of_ble_eq_true rfl, Nat.le_of_ble_eq_true rfl⟩ hl.1 rfl (Nat.le_of_ble_eq_true rfl) ⟨Nat.le_of_ble_eq_true rfl, Nat.le_of_ble_eq_true rfl⟩ dX11_undo_4 (fun r_88498 L_88496 f_88497 H locs hr_88498 Y => ?_)
  obtain ⟨er_88498, I⟩ := hr_88498
  refine lv_if_eq (tgt := 20) hx hb dX11_undo_7 (by decide) (fun c_88499 => ?_) (fun c_88499 => ?_)
  · have B_88500 : bn 0 0 r_88498 := bn_w (bn_eq c_88499 (show bn 0 0 (0 : Int32) from bn_k (by decide))) (by decide)
    refine lv_iconst (v := (-1)) hx hb dX11_undo_20 (by decide) ?_
    exact prI (post := fun r L1 f1 => SH (spC ((NR 30 0 4, fz (pp nL) FI FI FI FI FI FI (pp kF) (pp pF), tz (EQ bT) TA TA TA, sc0) : RS) ((0, 6) : Int × Int) tc w q) nnC G ad L1 f1) S Y rfl (by decide) (by decide) hA1 I dX11_undo_21
  · have B_88501 : bn 1 1 r_88498 := bn_w (bn_nel c_88499 er_88498 (show bn 0 0 (0 : Int32) from bn_k (by decide))) (by decide)
    refine lv_aload_n hx hb dX11_undo_10 rfl (lv_at hl 0 rfl) ?_
    have p_ad_0_0 := opnC_0 (j := 0) I (by decide)
    have p_ad_0_0 : pt L_88496 f_88497 (ad 0 0) (.inr (11, [.ref (ad 1 0), .ref (ad 1 1), .ref (ad 2 0), .ref (ad 3 0), .ref (ad 4 0), .ref (ad 5 0), .ref (ad 6 0), .ref (ad 7 0), .ref (ad 8 0)])) := p_ad_0_0
    refine pg_get S Y ok_X11 0 (by decide) kf11_13 (v := .ref (ad 1 0)) p_ad_0_0 rfl dX11_undo_11 ?_
    obtain ⟨v_88502, v_88504, v_88506, v_88508, v_88510, p_ad_1_0, b_88503, b_88505, b_88507, b_88509, b_88511⟩ := opnC_1 (j := 0) I (by decide)
    have p_ad_1_0 : pt L_88496 f_88497 (ad 1 0) (.inr (10, [.ref (ad 40 0), .ref (ad 41 0), .ref (ad 42 0), .ref (ad 10 0), .ref (ad 43 0), .ref (ad 20 0), .ref (ad 20 1), .ref (ad 20 2), .ref (ad 20 3), .ref (ad 20 4), .int v_88502, .int v_88504, .int v_88506, .int v_88508, .int v_88510])) := p_ad_1_0
    refine pg_getN S Y ok_X10 14 (by decide) kf11_189 (v := .int v_88510) p_ad_1_0 rfl dX11_undo_14 ?_
    refine lv_goto (tgt := 21) hx hb dX11_undo_17 (by decide) ?_
    exact prI (post := fun r L1 f1 => SH (spC ((NR 30 0 4, fz (pp nL) FI FI FI FI FI FI (pp kF) (pp pF), tz (EQ bT) TA TA TA, sc0) : RS) ((0, 6) : Int × Int) tc w q) nnC G ad L1 f1) S Y rfl (by decide) (by decide) hA1 I dX11_undo_21
set_option maxHeartbeats 4000000 in
set_option maxRecDepth 100000 in
theorem x_X11_of {l : Launch} {G : GG}  {L : List Nat} {f : HF} {ad : Nat → Nat → Nat} {nL : Int} {bT : Nat → Int32} {kF : Int} {pF : Int} {tc w : Nat → Int × Int} {q : Nat → (Nat → Int32) → Prop} {i1 i2 : Int32} (I : SH (spC ((NR 30 0 4, fz (pp nL) FI FI FI FI FI FI (pp kF) (pp pF), tz (EQ bT) TA TA TA, sc0) : RS) ((0, 6) : Int × Int) tc w q) nnC G ad L f) (hW : WBp w 8) (hT : WBp tc 4) (hQ : QIp q) (hZ : ZZp w q) (hE : ∀ j, (tc j).1 = (tc j).2) : PMi l yX11_of cX11_of 3 .int 5 0 0 G [.ref (ad 0 0), .int i1, .int i2] L f (fun r L1 f1 => SH (spC ((NR 30 0 4, fz (pp nL) FI FI FI FI FI FI (pp kF) (pp pF), tz (EQ bT) TA TA TA, sc0) : RS) ((0, 6) : Int × Int) tc w q) nnC G ad L1 f1) := by
  refine PMi.of (post := fun r L1 f1 => SH (spC ((NR 30 0 4, fz (pp nL) FI FI FI FI FI FI (pp kF) (pp pF), tz (EQ bT) TA TA TA, sc0) : RS) ((0, 6) : Int × Int) tc w q) nnC G ad L1 f1) (own := RX11) (by decide) rfl (Nat.le_of_ble_eq_true rfl) (fun sz p e s m args below meth c A ls hA1 hname S Y hl => ?_)
  have hx := S.hx
  have hb := S.hb
  have hl : lv_has ls 3 [(0, .ref (ad 0 0)), (1, .int i1), (2, .int i2)] := hl
  refine lv_aload_n hx hb dX11_of_0 rfl (lv_at hl 0 rfl) ?_
  have p_ad_0_0 := opnC_0 (j := 0) I (by decide)
  have p_ad_0_0 : pt L f (ad 0 0) (.inr (11, [.ref (ad 1 0), .ref (ad 1 1), .ref (ad 2 0), .ref (ad 3 0), .ref (ad 4 0), .ref (ad 5 0), .ref (ad 6 0), .ref (ad 7 0), .ref (ad 8 0)])) := p_ad_0_0
  refine pg_get S Y ok_X11 0 (by decide) kf11_13 (v := .ref (ad 1 0)) p_ad_0_0 rfl dX11_of_1 ?_
  refine lv_iload_n hx hb dX11_of_4 rfl (lv_at hl 1 rfl) ?_
  refine cVp (As := [.int i1]) (rest := []) S Y (x_X10_has (l := l) I hW hT hQ) cw_X10_has km11_192 (I.opo (k := 1) (j := 0) (by decide) rfl).choose_spec.1 ok_X10.1 rfl rfl ⟨Nat.le_of_ble_eq_true rfl, Nat.le_of_ble_eq_true rfl⟩ hl.1 rfl (Nat.le_of_ble_eq_true rfl) ⟨Nat.le_of_ble_eq_true rfl, Nat.le_of_ble_eq_true rfl⟩ dX11_of_5 (fun r_88602 H locs er_88602 Y => ?_)
  refine lv_if_ne (tgt := 15) hx hb dX11_of_8 (by decide) (fun c_88603 => ?_) (fun c_88603 => ?_)
  · have B_88604 : bn 1 1 r_88602 := bn_w (bn_nel c_88603 er_88602 (show bn 0 0 (0 : Int32) from bn_k (by decide))) (by decide)
    refine lv_iload_n hx hb dX11_of_15 rfl (lv_at hl 2 rfl) ?_
    rcases sw_0_5 i2 with h_88606 | h_88606 | h_88606 | h_88606 | h_88606 | h_88606 | h_88606
    · refine lv_fold (z := 0) h_88606 ?_
      refine lv_tableIn (off := 40) (tgt := 56) hx hb dX11_of_16 (by decide) (by decide) (by decide) (by decide) ?_
      refine lv_aload_n hx hb dX11_of_56 rfl (lv_at hl 0 rfl) ?_
      refine pg_get S Y ok_X11 0 (by decide) kf11_13 (v := .ref (ad 1 0)) p_ad_0_0 rfl dX11_of_57 ?_
      refine lv_iload_n hx hb dX11_of_60 rfl (lv_at hl 1 rfl) ?_
      refine cVp (As := [.int i1]) (rest := []) S Y (x_X10_toughOf (l := l) I hW hT hQ) cw_X10_toughOf km11_195 (I.opo (k := 1) (j := 0) (by decide) rfl).choose_spec.1 ok_X10.1 rfl rfl ⟨Nat.le_of_ble_eq_true rfl, Nat.le_of_ble_eq_true rfl⟩ hl.1 rfl (Nat.le_of_ble_eq_true rfl) ⟨Nat.le_of_ble_eq_true rfl, Nat.le_of_ble_eq_true rfl⟩ dX11_of_61 (fun r_88607 H locs er_88607 Y => ?_)
      exact prI (post := fun r L1 f1 => SH (spC ((NR 30 0 4, fz (pp nL) FI FI FI FI FI FI (pp kF) (pp pF), tz (EQ bT) TA TA TA, sc0) : RS) ((0, 6) : Int × Int) tc w q) nnC G ad L1 f1) S Y rfl (by decide) (by decide) hA1 I dX11_of_64
    · refine lv_fold (z := 1) h_88606 ?_
      refine lv_tableIn (off := 49) (tgt := 65) hx hb dX11_of_16 (by decide) (by decide) (by decide) (by decide) ?_
      refine lv_aload_n hx hb dX11_of_65 rfl (lv_at hl 0 rfl) ?_
      refine pg_get S Y ok_X11 0 (by decide) kf11_13 (v := .ref (ad 1 0)) p_ad_0_0 rfl dX11_of_66 ?_
      refine lv_iload_n hx hb dX11_of_69 rfl (lv_at hl 1 rfl) ?_
      refine cVp (As := [.int i1]) (rest := []) S Y (x_X10_ageOf (l := l) I hW hT hQ) cw_X10_ageOf km11_198 (I.opo (k := 1) (j := 0) (by decide) rfl).choose_spec.1 ok_X10.1 rfl rfl ⟨Nat.le_of_ble_eq_true rfl, Nat.le_of_ble_eq_true rfl⟩ hl.1 rfl (Nat.le_of_ble_eq_true rfl) ⟨Nat.le_of_ble_eq_true rfl, Nat.le_of_ble_eq_true rfl⟩ dX11_of_70 (fun r_88608 H locs er_88608 Y => ?_)
      exact prI (post := fun r L1 f1 => SH (spC ((NR 30 0 4, fz (pp nL) FI FI FI FI FI FI (pp kF) (pp pF), tz (EQ bT) TA TA TA, sc0) : RS) ((0, 6) : Int × Int) tc w q) nnC G ad L1 f1) S Y rfl (by decide) (by decide) hA1 I dX11_of_73
    · refine lv_fold (z := 2) h_88606 ?_
      refine lv_tableIn (off := 58) (tgt := 74) hx hb dX11_of_16 (by decide) (by decide) (by decide) (by decide) ?_
      refine lv_aload_n hx hb dX11_of_74 rfl (lv_at hl 0 rfl) ?_
      refine pg_get S Y ok_X11 0 (by decide) kf11_13 (v := .ref (ad 1 0)) p_ad_0_0 rfl dX11_of_75 ?_
      obtain ⟨v_88609, v_88611, v_88613, v_88615, v_88617, p_ad_1_0, b_88610, b_88612, b_88614, b_88616, b_88618⟩ := opnC_1 (j := 0) I (by decide)
      have p_ad_1_0 : pt L f (ad 1 0) (.inr (10, [.ref (ad 40 0), .ref (ad 41 0), .ref (ad 42 0), .ref (ad 10 0), .ref (ad 43 0), .ref (ad 20 0), .ref (ad 20 1), .ref (ad 20 2), .ref (ad 20 3), .ref (ad 20 4), .int v_88609, .int v_88611, .int v_88613, .int v_88615, .int v_88617])) := p_ad_1_0
      refine pg_getN S Y ok_X10 3 (by decide) kf11_131 (v := .ref (ad 10 0)) p_ad_1_0 rfl dX11_of_78 ?_
      refine lv_iload_n hx hb dX11_of_81 rfl (lv_at hl 1 rfl) ?_
      refine cVp (As := [.int i1]) (rest := []) S Y (x_X4_marks (l := l) (j := 0) I hW hT hQ (by decide)) cw_X4_marks km11_135 (I.opo (k := 10) (j := 0) (by decide) rfl).choose_spec.1 ok_X4.1 rfl rfl ⟨Nat.le_of_ble_eq_true rfl, Nat.le_of_ble_eq_true rfl⟩ hl.1 rfl (Nat.le_of_ble_eq_true rfl) ⟨Nat.le_of_ble_eq_true rfl, Nat.le_of_ble_eq_true rfl⟩ dX11_of_82 (fun r_88619 H locs er_88619 Y => ?_)
      exact prI (post := fun r L1 f1 => SH (spC ((NR 30 0 4, fz (pp nL) FI FI FI FI FI FI (pp kF) (pp pF), tz (EQ bT) TA TA TA, sc0) : RS) ((0, 6) : Int × Int) tc w q) nnC G ad L1 f1) S Y rfl (by decide) (by decide) hA1 I dX11_of_85
    · refine lv_fold (z := 3) h_88606 ?_
      refine lv_tableIn (off := 70) (tgt := 86) hx hb dX11_of_16 (by decide) (by decide) (by decide) (by decide) ?_
      refine lv_aload_n hx hb dX11_of_86 rfl (lv_at hl 0 rfl) ?_
      refine pg_get S Y ok_X11 3 (by decide) kf11_34 (v := .ref (ad 3 0)) p_ad_0_0 rfl dX11_of_87 ?_
      refine lv_aload_n hx hb dX11_of_90 rfl (lv_at hl 0 rfl) ?_
      refine pg_get S Y ok_X11 0 (by decide) kf11_13 (v := .ref (ad 1 0)) p_ad_0_0 rfl dX11_of_91 ?_
      obtain ⟨v_88620, v_88622, v_88624, v_88626, v_88628, p_ad_1_0, b_88621, b_88623, b_88625, b_88627, b_88629⟩ := opnC_1 (j := 0) I (by decide)
      have p_ad_1_0 : pt L f (ad 1 0) (.inr (10, [.ref (ad 40 0), .ref (ad 41 0), .ref (ad 42 0), .ref (ad 10 0), .ref (ad 43 0), .ref (ad 20 0), .ref (ad 20 1), .ref (ad 20 2), .ref (ad 20 3), .ref (ad 20 4), .int v_88620, .int v_88622, .int v_88624, .int v_88626, .int v_88628])) := p_ad_1_0
      refine pg_getN S Y ok_X10 3 (by decide) kf11_131 (v := .ref (ad 10 0)) p_ad_1_0 rfl dX11_of_94 ?_
      refine lv_iload_n hx hb dX11_of_97 rfl (lv_at hl 1 rfl) ?_
      refine cVi (As := [.ref (ad 10 0), .int i1]) (rest := []) S Y (x_X3_acheOf (l := l) (j := 0) I hW hT hQ (by decide)) cw_X3_acheOf km11_201 (I.opo (k := 3) (j := 0) (by decide) rfl).choose_spec.1 ok_X3.1 rfl rfl ⟨Nat.le_of_ble_eq_true rfl, Nat.le_of_ble_eq_true rfl⟩ hl.1 rfl (Nat.le_of_ble_eq_true rfl) ⟨Nat.le_of_ble_eq_true rfl, Nat.le_of_ble_eq_true rfl⟩ dX11_of_98 (fun r_88632 L_88630 f_88631 H locs I Y => ?_)
      exact prI (post := fun r L1 f1 => SH (spC ((NR 30 0 4, fz (pp nL) FI FI FI FI FI FI (pp kF) (pp pF), tz (EQ bT) TA TA TA, sc0) : RS) ((0, 6) : Int × Int) tc w q) nnC G ad L1 f1) S Y rfl (by decide) (by decide) hA1 I dX11_of_101
    · refine lv_fold (z := 4) h_88606 ?_
      refine lv_tableIn (off := 86) (tgt := 102) hx hb dX11_of_16 (by decide) (by decide) (by decide) (by decide) ?_
      refine lv_aload_n hx hb dX11_of_102 rfl (lv_at hl 0 rfl) ?_
      refine pg_get S Y ok_X11 3 (by decide) kf11_34 (v := .ref (ad 3 0)) p_ad_0_0 rfl dX11_of_103 ?_
      refine lv_aload_n hx hb dX11_of_106 rfl (lv_at hl 0 rfl) ?_
      refine pg_get S Y ok_X11 0 (by decide) kf11_13 (v := .ref (ad 1 0)) p_ad_0_0 rfl dX11_of_107 ?_
      obtain ⟨v_88633, v_88635, v_88637, v_88639, v_88641, p_ad_1_0, b_88634, b_88636, b_88638, b_88640, b_88642⟩ := opnC_1 (j := 0) I (by decide)
      have p_ad_1_0 : pt L f (ad 1 0) (.inr (10, [.ref (ad 40 0), .ref (ad 41 0), .ref (ad 42 0), .ref (ad 10 0), .ref (ad 43 0), .ref (ad 20 0), .ref (ad 20 1), .ref (ad 20 2), .ref (ad 20 3), .ref (ad 20 4), .int v_88633, .int v_88635, .int v_88637, .int v_88639, .int v_88641])) := p_ad_1_0
      refine pg_getN S Y ok_X10 3 (by decide) kf11_131 (v := .ref (ad 10 0)) p_ad_1_0 rfl dX11_of_110 ?_
      refine lv_iload_n hx hb dX11_of_113 rfl (lv_at hl 1 rfl) ?_
      refine cVi (As := [.ref (ad 10 0), .int i1]) (rest := []) S Y (x_X3_riskOf (l := l) (j := 0) I hW hT hQ (by decide)) cw_X3_riskOf km11_205 (I.opo (k := 3) (j := 0) (by decide) rfl).choose_spec.1 ok_X3.1 rfl rfl ⟨Nat.le_of_ble_eq_true rfl, Nat.le_of_ble_eq_true rfl⟩ hl.1 rfl (Nat.le_of_ble_eq_true rfl) ⟨Nat.le_of_ble_eq_true rfl, Nat.le_of_ble_eq_true rfl⟩ dX11_of_114 (fun r_88645 L_88643 f_88644 H locs I Y => ?_)
      exact prI (post := fun r L1 f1 => SH (spC ((NR 30 0 4, fz (pp nL) FI FI FI FI FI FI (pp kF) (pp pF), tz (EQ bT) TA TA TA, sc0) : RS) ((0, 6) : Int × Int) tc w q) nnC G ad L1 f1) S Y rfl (by decide) (by decide) hA1 I dX11_of_117
    · refine lv_fold (z := 5) h_88606 ?_
      refine lv_tableIn (off := 102) (tgt := 118) hx hb dX11_of_16 (by decide) (by decide) (by decide) (by decide) ?_
      refine lv_aload_n hx hb dX11_of_118 rfl (lv_at hl 0 rfl) ?_
      refine pg_get S Y ok_X11 8 (by decide) kf11_75 (v := .ref (ad 8 0)) p_ad_0_0 rfl dX11_of_119 ?_
      refine lv_iload_n hx hb dX11_of_122 rfl (lv_at hl 1 rfl) ?_
      refine cVp (As := [.int i1]) (rest := []) S Y (x_X0_net (l := l) I hW hT hQ) cw_X0_net km11_208 (I.opo (k := 8) (j := 0) (by decide) rfl).choose_spec.1 ok_X0.1 rfl rfl ⟨Nat.le_of_ble_eq_true rfl, Nat.le_of_ble_eq_true rfl⟩ hl.1 rfl (Nat.le_of_ble_eq_true rfl) ⟨Nat.le_of_ble_eq_true rfl, Nat.le_of_ble_eq_true rfl⟩ dX11_of_123 (fun r_88646 H locs er_88646 Y => ?_)
      exact prI (post := fun r L1 f1 => SH (spC ((NR 30 0 4, fz (pp nL) FI FI FI FI FI FI (pp kF) (pp pF), tz (EQ bT) TA TA TA, sc0) : RS) ((0, 6) : Int × Int) tc w q) nnC G ad L1 f1) S Y rfl (by decide) (by decide) hA1 I dX11_of_126
    · refine lv_tableOut (tgt := 127) hx hb dX11_of_16 h_88606 (by decide) ?_
      refine lv_sipush (v := (-1000)) hx hb dX11_of_127 (by decide) ?_
      exact prI (post := fun r L1 f1 => SH (spC ((NR 30 0 4, fz (pp nL) FI FI FI FI FI FI (pp kF) (pp pF), tz (EQ bT) TA TA TA, sc0) : RS) ((0, 6) : Int × Int) tc w q) nnC G ad L1 f1) S Y rfl (by decide) (by decide) hA1 I dX11_of_130
  · have B_88605 : bn 0 0 r_88602 := bn_w (bn_eq c_88603 (show bn 0 0 (0 : Int32) from bn_k (by decide))) (by decide)
    refine lv_sipush (v := (-1000)) hx hb dX11_of_11 (by decide) ?_
    exact prI (post := fun r L1 f1 => SH (spC ((NR 30 0 4, fz (pp nL) FI FI FI FI FI FI (pp kF) (pp pF), tz (EQ bT) TA TA TA, sc0) : RS) ((0, 6) : Int × Int) tc w q) nnC G ad L1 f1) S Y rfl (by decide) (by decide) hA1 I dX11_of_14
set_option maxHeartbeats 4000000 in
set_option maxRecDepth 100000 in
theorem x_X11_ofOath {l : Launch} {G : GG}  {L : List Nat} {f : HF} {ad : Nat → Nat → Nat} {nL : Int} {bT : Nat → Int32} {kF : Int} {pF : Int} {tc w : Nat → Int × Int} {q : Nat → (Nat → Int32) → Prop} {i1 i2 : Int32} (I : SH (spC ((NR 30 0 4, fz (pp nL) FI FI FI FI FI FI (pp kF) (pp pF), tz (EQ bT) TA TA TA, sc0) : RS) ((0, 6) : Int × Int) tc w q) nnC G ad L f) (hW : WBp w 8) (hT : WBp tc 4) (hQ : QIp q) (hZ : ZZp w q) (hE : ∀ j, (tc j).1 = (tc j).2) : PMi l yX11_ofOath cX11_ofOath 3 .int 4 0 0 G [.ref (ad 0 0), .int i1, .int i2] L f (fun r L1 f1 => SH (spC ((NR 30 0 4, fz (pp nL) FI FI FI FI FI FI (pp kF) (pp pF), tz (EQ bT) TA TA TA, sc0) : RS) ((0, 6) : Int × Int) tc w q) nnC G ad L1 f1) := by
  refine PMi.of (post := fun r L1 f1 => SH (spC ((NR 30 0 4, fz (pp nL) FI FI FI FI FI FI (pp kF) (pp pF), tz (EQ bT) TA TA TA, sc0) : RS) ((0, 6) : Int × Int) tc w q) nnC G ad L1 f1) (own := RX11) (by decide) rfl (Nat.le_of_ble_eq_true rfl) (fun sz p e s m args below meth c A ls hA1 hname S Y hl => ?_)
  have hx := S.hx
  have hb := S.hb
  have hl : lv_has ls 3 [(0, .ref (ad 0 0)), (1, .int i1), (2, .int i2)] := hl
  refine lv_aload_n hx hb dX11_ofOath_0 rfl (lv_at hl 0 rfl) ?_
  have p_ad_0_0 := opnC_0 (j := 0) I (by decide)
  have p_ad_0_0 : pt L f (ad 0 0) (.inr (11, [.ref (ad 1 0), .ref (ad 1 1), .ref (ad 2 0), .ref (ad 3 0), .ref (ad 4 0), .ref (ad 5 0), .ref (ad 6 0), .ref (ad 7 0), .ref (ad 8 0)])) := p_ad_0_0
  refine pg_get S Y ok_X11 0 (by decide) kf11_13 (v := .ref (ad 1 0)) p_ad_0_0 rfl dX11_ofOath_1 ?_
  obtain ⟨v_88697, v_88699, v_88701, v_88703, v_88705, p_ad_1_0, b_88698, b_88700, b_88702, b_88704, b_88706⟩ := opnC_1 (j := 0) I (by decide)
  have p_ad_1_0 : pt L f (ad 1 0) (.inr (10, [.ref (ad 40 0), .ref (ad 41 0), .ref (ad 42 0), .ref (ad 10 0), .ref (ad 43 0), .ref (ad 20 0), .ref (ad 20 1), .ref (ad 20 2), .ref (ad 20 3), .ref (ad 20 4), .int v_88697, .int v_88699, .int v_88701, .int v_88703, .int v_88705])) := p_ad_1_0
  refine pg_getN S Y ok_X10 3 (by decide) kf11_131 (v := .ref (ad 10 0)) p_ad_1_0 rfl dX11_ofOath_4 ?_
  refine lv_iload_n hx hb dX11_ofOath_7 rfl (lv_at hl 1 rfl) ?_
  refine cVp (As := [.int i1]) (rest := []) S Y (x_X4_has (l := l) (j := 0) I hW hT hQ (by decide)) cw_X4_has km11_211 (I.opo (k := 10) (j := 0) (by decide) rfl).choose_spec.1 ok_X4.1 rfl rfl ⟨Nat.le_of_ble_eq_true rfl, Nat.le_of_ble_eq_true rfl⟩ hl.1 rfl (Nat.le_of_ble_eq_true rfl) ⟨Nat.le_of_ble_eq_true rfl, Nat.le_of_ble_eq_true rfl⟩ dX11_ofOath_8 (fun r_88707 H locs er_88707 Y => ?_)
  refine lv_if_ne (tgt := 16) hx hb dX11_ofOath_11 (by decide) (fun c_88708 => ?_) (fun c_88708 => ?_)
  · have B_88709 : bn 1 1 r_88707 := bn_w (bn_nel c_88708 er_88707 (show bn 0 0 (0 : Int32) from bn_k (by decide))) (by decide)
    refine lv_iload_n hx hb dX11_ofOath_16 rfl (lv_at hl 2 rfl) ?_
    refine lv_bipush (v := 7) hx hb dX11_ofOath_17 (by decide) ?_
    refine lv_icmp_ne (tgt := 45) hx hb dX11_ofOath_19 (by decide) (fun c_88711 => ?_) (fun c_88711 => ?_)
    · refine lv_iload_n hx hb dX11_ofOath_45 rfl (lv_at hl 2 rfl) ?_
      refine lv_bipush (v := 8) hx hb dX11_ofOath_46 (by decide) ?_
      refine lv_icmp_ne (tgt := 69) hx hb dX11_ofOath_48 (by decide) (fun c_88713 => ?_) (fun c_88713 => ?_)
      · refine lv_aload_n hx hb dX11_ofOath_69 rfl (lv_at hl 0 rfl) ?_
        refine pg_get S Y ok_X11 0 (by decide) kf11_13 (v := .ref (ad 1 0)) p_ad_0_0 rfl dX11_ofOath_70 ?_
        refine pg_getN S Y ok_X10 3 (by decide) kf11_131 (v := .ref (ad 10 0)) p_ad_1_0 rfl dX11_ofOath_73 ?_
        refine lv_iload_n hx hb dX11_ofOath_76 rfl (lv_at hl 1 rfl) ?_
        refine lv_iload_n hx hb dX11_ofOath_77 rfl (lv_at hl 2 rfl) ?_
        refine cVp (As := [.int i1, .int i2]) (rest := []) S Y (x_X4_get (l := l) (j := 0) I hW hT hQ (by decide)) cw_X4_get km11_222 (I.opo (k := 10) (j := 0) (by decide) rfl).choose_spec.1 ok_X4.1 rfl rfl ⟨Nat.le_of_ble_eq_true rfl, Nat.le_of_ble_eq_true rfl⟩ hl.1 rfl (Nat.le_of_ble_eq_true rfl) ⟨Nat.le_of_ble_eq_true rfl, Nat.le_of_ble_eq_true rfl⟩ dX11_ofOath_78 (fun r_88715 H locs er_88715 Y => ?_)
        exact prI (post := fun r L1 f1 => SH (spC ((NR 30 0 4, fz (pp nL) FI FI FI FI FI FI (pp kF) (pp pF), tz (EQ bT) TA TA TA, sc0) : RS) ((0, 6) : Int × Int) tc w q) nnC G ad L1 f1) S Y rfl (by decide) (by decide) hA1 I dX11_ofOath_81
      · have B_88714 : bn 8 8 i2 := bn_w (bn_eq c_88713 (show bn 8 8 (8 : Int32) from bn_k (by decide))) (by decide)
        refine lv_aload_n hx hb dX11_ofOath_51 rfl (lv_at hl 0 rfl) ?_
        refine pg_get S Y ok_X11 3 (by decide) kf11_34 (v := .ref (ad 3 0)) p_ad_0_0 rfl dX11_ofOath_52 ?_
        refine lv_aload_n hx hb dX11_ofOath_55 rfl (lv_at hl 0 rfl) ?_
        refine pg_get S Y ok_X11 0 (by decide) kf11_13 (v := .ref (ad 1 0)) p_ad_0_0 rfl dX11_ofOath_56 ?_
        refine pg_getN S Y ok_X10 3 (by decide) kf11_131 (v := .ref (ad 10 0)) p_ad_1_0 rfl dX11_ofOath_59 ?_
        refine lv_iload_n hx hb dX11_ofOath_62 rfl (lv_at hl 1 rfl) ?_
        refine cVi (As := [.ref (ad 10 0), .int i1]) (rest := []) S Y (x_X3_painOf (l := l) (j := 0) I hW hT hQ (by decide)) cw_X3_painOf km11_219 (I.opo (k := 3) (j := 0) (by decide) rfl).choose_spec.1 ok_X3.1 rfl rfl ⟨Nat.le_of_ble_eq_true rfl, Nat.le_of_ble_eq_true rfl⟩ hl.1 rfl (Nat.le_of_ble_eq_true rfl) ⟨Nat.le_of_ble_eq_true rfl, Nat.le_of_ble_eq_true rfl⟩ dX11_ofOath_63 (fun r_88718 L_88716 f_88717 H locs I Y => ?_)
        refine lv_goto (tgt := 81) hx hb dX11_ofOath_66 (by decide) ?_
        exact prI (post := fun r L1 f1 => SH (spC ((NR 30 0 4, fz (pp nL) FI FI FI FI FI FI (pp kF) (pp pF), tz (EQ bT) TA TA TA, sc0) : RS) ((0, 6) : Int × Int) tc w q) nnC G ad L1 f1) S Y rfl (by decide) (by decide) hA1 I dX11_ofOath_81
    · have B_88712 : bn 7 7 i2 := bn_w (bn_eq c_88711 (show bn 7 7 (7 : Int32) from bn_k (by decide))) (by decide)
      refine lv_aload_n hx hb dX11_ofOath_22 rfl (lv_at hl 0 rfl) ?_
      refine pg_get S Y ok_X11 3 (by decide) kf11_34 (v := .ref (ad 3 0)) p_ad_0_0 rfl dX11_ofOath_23 ?_
      refine lv_aload_n hx hb dX11_ofOath_26 rfl (lv_at hl 0 rfl) ?_
      refine pg_get S Y ok_X11 0 (by decide) kf11_13 (v := .ref (ad 1 0)) p_ad_0_0 rfl dX11_ofOath_27 ?_
      refine pg_getN S Y ok_X10 12 (by decide) kf11_212 (v := .int v_88701) p_ad_1_0 rfl dX11_ofOath_30 ?_
      refine lv_aload_n hx hb dX11_ofOath_33 rfl (lv_at hl 0 rfl) ?_
      refine pg_get S Y ok_X11 0 (by decide) kf11_13 (v := .ref (ad 1 0)) p_ad_0_0 rfl dX11_ofOath_34 ?_
      refine pg_getN S Y ok_X10 3 (by decide) kf11_131 (v := .ref (ad 10 0)) p_ad_1_0 rfl dX11_ofOath_37 ?_
      refine lv_iload_n hx hb dX11_ofOath_40 rfl (lv_at hl 1 rfl) ?_
      refine cVi (As := [.int v_88701, .ref (ad 10 0), .int i1]) (rest := []) S Y (x_X3_wearOf (l := l) (j := 0) I hW hT hQ (by decide)) cw_X3_wearOf km11_215 (I.opo (k := 3) (j := 0) (by decide) rfl).choose_spec.1 ok_X3.1 rfl rfl ⟨Nat.le_of_ble_eq_true rfl, Nat.le_of_ble_eq_true rfl⟩ hl.1 rfl (Nat.le_of_ble_eq_true rfl) ⟨Nat.le_of_ble_eq_true rfl, Nat.le_of_ble_eq_true rfl⟩ dX11_ofOath_41 (fun r_88721 L_88719 f_88720 H locs I Y => ?_)
      exact prI (post := fun r L1 f1 => SH (spC ((NR 30 0 4, fz (pp nL) FI FI FI FI FI FI (pp kF) (pp pF), tz (EQ bT) TA TA TA, sc0) : RS) ((0, 6) : Int × Int) tc w q) nnC G ad L1 f1) S Y rfl (by decide) (by decide) hA1 I dX11_ofOath_44
  · have B_88710 : bn 0 0 r_88707 := bn_w (bn_eq c_88708 (show bn 0 0 (0 : Int32) from bn_k (by decide))) (by decide)
    refine lv_iconst (v := (-1)) hx hb dX11_ofOath_14 (by decide) ?_
    exact prI (post := fun r L1 f1 => SH (spC ((NR 30 0 4, fz (pp nL) FI FI FI FI FI FI (pp kF) (pp pF), tz (EQ bT) TA TA TA, sc0) : RS) ((0, 6) : Int × Int) tc w q) nnC G ad L1 f1) S Y rfl (by decide) (by decide) hA1 I dX11_ofOath_15
set_option maxHeartbeats 4000000 in
set_option maxRecDepth 100000 in
theorem x_X11_is {l : Launch} {G : GG}  {L : List Nat} {f : HF} {ad : Nat → Nat → Nat} {nL : Int} {bT : Nat → Int32} {kF : Int} {pF : Int} {tc w : Nat → Int × Int} {q : Nat → (Nat → Int32) → Prop} {i1 : Int32} (I : SH (spC ((NR 30 0 4, fz (pp nL) FI FI FI FI FI FI (pp kF) (pp pF), tz (EQ bT) TA TA TA, sc0) : RS) ((0, 6) : Int × Int) tc w q) nnC G ad L f) (hW : WBp w 8) (hT : WBp tc 4) (hQ : QIp q) (hZ : ZZp w q) (hE : ∀ j, (tc j).1 = (tc j).2) : PMi l yX11_is cX11_is 2 .int 0 0 0 G [.ref (ad 0 0), .int i1] L f (fun r L1 f1 => SH (spC ((NR 30 0 4, fz (pp nL) FI FI FI FI FI FI (pp kF) (pp pF), tz (EQ bT) TA TA TA, sc0) : RS) ((0, 6) : Int × Int) tc w q) nnC G ad L1 f1) := by
  refine PMi.of (post := fun r L1 f1 => SH (spC ((NR 30 0 4, fz (pp nL) FI FI FI FI FI FI (pp kF) (pp pF), tz (EQ bT) TA TA TA, sc0) : RS) ((0, 6) : Int × Int) tc w q) nnC G ad L1 f1) (own := RX11) (by decide) rfl (Nat.le_of_ble_eq_true rfl) (fun sz p e s m args below meth c A ls hA1 hname S Y hl => ?_)
  have hx := S.hx
  have hb := S.hb
  have hl : lv_has ls 2 [(0, .ref (ad 0 0)), (1, .int i1)] := hl
  refine lv_iload_n hx hb dX11_is_0 rfl (lv_at hl 1 rfl) ?_
  rcases sw_0_3 i1 with h_88884 | h_88884 | h_88884 | h_88884 | h_88884
  · refine lv_fold (z := 0) h_88884 ?_
    refine lv_tableIn (off := 31) (tgt := 32) hx hb dX11_is_1 (by decide) (by decide) (by decide) (by decide) ?_
    refine lv_aload_n hx hb dX11_is_32 rfl (lv_at hl 0 rfl) ?_
    have p_ad_0_0 := opnC_0 (j := 0) I (by decide)
    have p_ad_0_0 : pt L f (ad 0 0) (.inr (11, [.ref (ad 1 0), .ref (ad 1 1), .ref (ad 2 0), .ref (ad 3 0), .ref (ad 4 0), .ref (ad 5 0), .ref (ad 6 0), .ref (ad 7 0), .ref (ad 8 0)])) := p_ad_0_0
    refine pg_get S Y ok_X11 0 (by decide) kf11_13 (v := .ref (ad 1 0)) p_ad_0_0 rfl dX11_is_33 ?_
    obtain ⟨v_88885, v_88887, v_88889, v_88891, v_88893, p_ad_1_0, b_88886, b_88888, b_88890, b_88892, b_88894⟩ := opnC_1 (j := 0) I (by decide)
    have p_ad_1_0 : pt L f (ad 1 0) (.inr (10, [.ref (ad 40 0), .ref (ad 41 0), .ref (ad 42 0), .ref (ad 10 0), .ref (ad 43 0), .ref (ad 20 0), .ref (ad 20 1), .ref (ad 20 2), .ref (ad 20 3), .ref (ad 20 4), .int v_88885, .int v_88887, .int v_88889, .int v_88891, .int v_88893])) := p_ad_1_0
    refine pg_getN S Y ok_X10 3 (by decide) kf11_131 (v := .ref (ad 10 0)) p_ad_1_0 rfl dX11_is_36 ?_
    obtain ⟨v_88895, v_88897, v_88899, v_88901, v_88903, p_ad_10_0, b_88896, b_88898, b_88900, b_88902, b_88904⟩ := opnC_10 (j := 0) I (by decide)
    have p_ad_10_0 : pt L f (ad 10 0) (.inr (4, [.ref (ad 11 0), .ref (ad 12 0), .int v_88895, .int v_88897, .int v_88899, .int v_88901, .int v_88903])) := p_ad_10_0
    refine pg_getN S Y ok_X4 4 (by decide) kf11_150 (v := .int v_88899) p_ad_10_0 rfl dX11_is_39 ?_
    exact prI (post := fun r L1 f1 => SH (spC ((NR 30 0 4, fz (pp nL) FI FI FI FI FI FI (pp kF) (pp pF), tz (EQ bT) TA TA TA, sc0) : RS) ((0, 6) : Int × Int) tc w q) nnC G ad L1 f1) S Y rfl (by decide) (by decide) hA1 I dX11_is_42
  · refine lv_fold (z := 1) h_88884 ?_
    refine lv_tableIn (off := 42) (tgt := 43) hx hb dX11_is_1 (by decide) (by decide) (by decide) (by decide) ?_
    refine lv_aload_n hx hb dX11_is_43 rfl (lv_at hl 0 rfl) ?_
    have p_ad_0_0 := opnC_0 (j := 0) I (by decide)
    have p_ad_0_0 : pt L f (ad 0 0) (.inr (11, [.ref (ad 1 0), .ref (ad 1 1), .ref (ad 2 0), .ref (ad 3 0), .ref (ad 4 0), .ref (ad 5 0), .ref (ad 6 0), .ref (ad 7 0), .ref (ad 8 0)])) := p_ad_0_0
    refine pg_get S Y ok_X11 0 (by decide) kf11_13 (v := .ref (ad 1 0)) p_ad_0_0 rfl dX11_is_44 ?_
    obtain ⟨v_88905, v_88907, v_88909, v_88911, v_88913, p_ad_1_0, b_88906, b_88908, b_88910, b_88912, b_88914⟩ := opnC_1 (j := 0) I (by decide)
    have p_ad_1_0 : pt L f (ad 1 0) (.inr (10, [.ref (ad 40 0), .ref (ad 41 0), .ref (ad 42 0), .ref (ad 10 0), .ref (ad 43 0), .ref (ad 20 0), .ref (ad 20 1), .ref (ad 20 2), .ref (ad 20 3), .ref (ad 20 4), .int v_88905, .int v_88907, .int v_88909, .int v_88911, .int v_88913])) := p_ad_1_0
    refine pg_getN S Y ok_X10 3 (by decide) kf11_131 (v := .ref (ad 10 0)) p_ad_1_0 rfl dX11_is_47 ?_
    obtain ⟨v_88915, v_88917, v_88919, v_88921, v_88923, p_ad_10_0, b_88916, b_88918, b_88920, b_88922, b_88924⟩ := opnC_10 (j := 0) I (by decide)
    have p_ad_10_0 : pt L f (ad 10 0) (.inr (4, [.ref (ad 11 0), .ref (ad 12 0), .int v_88915, .int v_88917, .int v_88919, .int v_88921, .int v_88923])) := p_ad_10_0
    refine pg_getN S Y ok_X4 5 (by decide) kf11_158 (v := .int v_88921) p_ad_10_0 rfl dX11_is_50 ?_
    exact prI (post := fun r L1 f1 => SH (spC ((NR 30 0 4, fz (pp nL) FI FI FI FI FI FI (pp kF) (pp pF), tz (EQ bT) TA TA TA, sc0) : RS) ((0, 6) : Int × Int) tc w q) nnC G ad L1 f1) S Y rfl (by decide) (by decide) hA1 I dX11_is_53
  · refine lv_fold (z := 2) h_88884 ?_
    refine lv_tableIn (off := 53) (tgt := 54) hx hb dX11_is_1 (by decide) (by decide) (by decide) (by decide) ?_
    refine lv_aload_n hx hb dX11_is_54 rfl (lv_at hl 0 rfl) ?_
    have p_ad_0_0 := opnC_0 (j := 0) I (by decide)
    have p_ad_0_0 : pt L f (ad 0 0) (.inr (11, [.ref (ad 1 0), .ref (ad 1 1), .ref (ad 2 0), .ref (ad 3 0), .ref (ad 4 0), .ref (ad 5 0), .ref (ad 6 0), .ref (ad 7 0), .ref (ad 8 0)])) := p_ad_0_0
    refine pg_get S Y ok_X11 0 (by decide) kf11_13 (v := .ref (ad 1 0)) p_ad_0_0 rfl dX11_is_55 ?_
    obtain ⟨v_88925, v_88927, v_88929, v_88931, v_88933, p_ad_1_0, b_88926, b_88928, b_88930, b_88932, b_88934⟩ := opnC_1 (j := 0) I (by decide)
    have p_ad_1_0 : pt L f (ad 1 0) (.inr (10, [.ref (ad 40 0), .ref (ad 41 0), .ref (ad 42 0), .ref (ad 10 0), .ref (ad 43 0), .ref (ad 20 0), .ref (ad 20 1), .ref (ad 20 2), .ref (ad 20 3), .ref (ad 20 4), .int v_88925, .int v_88927, .int v_88929, .int v_88931, .int v_88933])) := p_ad_1_0
    refine pg_getN S Y ok_X10 3 (by decide) kf11_131 (v := .ref (ad 10 0)) p_ad_1_0 rfl dX11_is_58 ?_
    obtain ⟨v_88935, v_88937, v_88939, v_88941, v_88943, p_ad_10_0, b_88936, b_88938, b_88940, b_88942, b_88944⟩ := opnC_10 (j := 0) I (by decide)
    have p_ad_10_0 : pt L f (ad 10 0) (.inr (4, [.ref (ad 11 0), .ref (ad 12 0), .int v_88935, .int v_88937, .int v_88939, .int v_88941, .int v_88943])) := p_ad_10_0
    refine pg_getN S Y ok_X4 6 (by decide) kf11_225 (v := .int v_88943) p_ad_10_0 rfl dX11_is_61 ?_
    exact prI (post := fun r L1 f1 => SH (spC ((NR 30 0 4, fz (pp nL) FI FI FI FI FI FI (pp kF) (pp pF), tz (EQ bT) TA TA TA, sc0) : RS) ((0, 6) : Int × Int) tc w q) nnC G ad L1 f1) S Y rfl (by decide) (by decide) hA1 I dX11_is_64
  · refine lv_fold (z := 3) h_88884 ?_
    refine lv_tableIn (off := 64) (tgt := 65) hx hb dX11_is_1 (by decide) (by decide) (by decide) (by decide) ?_
    refine lv_aload_n hx hb dX11_is_65 rfl (lv_at hl 0 rfl) ?_
    have p_ad_0_0 := opnC_0 (j := 0) I (by decide)
    have p_ad_0_0 : pt L f (ad 0 0) (.inr (11, [.ref (ad 1 0), .ref (ad 1 1), .ref (ad 2 0), .ref (ad 3 0), .ref (ad 4 0), .ref (ad 5 0), .ref (ad 6 0), .ref (ad 7 0), .ref (ad 8 0)])) := p_ad_0_0
    refine pg_get S Y ok_X11 0 (by decide) kf11_13 (v := .ref (ad 1 0)) p_ad_0_0 rfl dX11_is_66 ?_
    obtain ⟨v_88945, v_88947, v_88949, v_88951, v_88953, p_ad_1_0, b_88946, b_88948, b_88950, b_88952, b_88954⟩ := opnC_1 (j := 0) I (by decide)
    have p_ad_1_0 : pt L f (ad 1 0) (.inr (10, [.ref (ad 40 0), .ref (ad 41 0), .ref (ad 42 0), .ref (ad 10 0), .ref (ad 43 0), .ref (ad 20 0), .ref (ad 20 1), .ref (ad 20 2), .ref (ad 20 3), .ref (ad 20 4), .int v_88945, .int v_88947, .int v_88949, .int v_88951, .int v_88953])) := p_ad_1_0
    refine pg_getN S Y ok_X10 3 (by decide) kf11_131 (v := .ref (ad 10 0)) p_ad_1_0 rfl dX11_is_69 ?_
    obtain ⟨v_88955, v_88957, v_88959, v_88961, v_88963, p_ad_10_0, b_88956, b_88958, b_88960, b_88962, b_88964⟩ := opnC_10 (j := 0) I (by decide)
    have p_ad_10_0 : pt L f (ad 10 0) (.inr (4, [.ref (ad 11 0), .ref (ad 12 0), .int v_88955, .int v_88957, .int v_88959, .int v_88961, .int v_88963])) := p_ad_10_0
    refine pg_getN S Y ok_X4 2 (by decide) kf11_228 (v := .int v_88955) p_ad_10_0 rfl dX11_is_72 ?_
    exact prI (post := fun r L1 f1 => SH (spC ((NR 30 0 4, fz (pp nL) FI FI FI FI FI FI (pp kF) (pp pF), tz (EQ bT) TA TA TA, sc0) : RS) ((0, 6) : Int × Int) tc w q) nnC G ad L1 f1) S Y rfl (by decide) (by decide) hA1 I dX11_is_75
  · refine lv_tableOut (tgt := 76) hx hb dX11_is_1 h_88884 (by decide) ?_
    refine lv_bipush (v := (-2)) hx hb dX11_is_76 (by decide) ?_
    exact prI (post := fun r L1 f1 => SH (spC ((NR 30 0 4, fz (pp nL) FI FI FI FI FI FI (pp kF) (pp pF), tz (EQ bT) TA TA TA, sc0) : RS) ((0, 6) : Int × Int) tc w q) nnC G ad L1 f1) S Y rfl (by decide) (by decide) hA1 I dX11_is_78
set_option maxHeartbeats 4000000 in
set_option maxRecDepth 100000 in
theorem x_X11_book {l : Launch} {G : GG}  {L : List Nat} {f : HF} {ad : Nat → Nat → Nat} {nL : Int} {bT : Nat → Int32} {kF : Int} {pF : Int} {tc w : Nat → Int × Int} {q : Nat → (Nat → Int32) → Prop} {i1 i2 : Int32} (I : SH (spC ((NR 30 0 4, fz (pp nL) FI FI FI FI FI FI (pp kF) (pp pF), tz (EQ bT) TA TA TA, sc0) : RS) ((0, 6) : Int × Int) tc w q) nnC G ad L f) (hW : WBp w 8) (hT : WBp tc 4) (hQ : QIp q) (hZ : ZZp w q) (hE : ∀ j, (tc j).1 = (tc j).2) : PMi l yX11_book cX11_book 3 .int 1 0 0 G [.ref (ad 0 0), .int i1, .int i2] L f (fun r L1 f1 => SH (spC ((NR 30 0 4, fz (pp nL) FI FI FI FI FI FI (pp kF) (pp pF), tz (EQ bT) TA TA TA, sc0) : RS) ((0, 6) : Int × Int) tc w q) nnC G ad L1 f1) := by
  refine PMi.of (post := fun r L1 f1 => SH (spC ((NR 30 0 4, fz (pp nL) FI FI FI FI FI FI (pp kF) (pp pF), tz (EQ bT) TA TA TA, sc0) : RS) ((0, 6) : Int × Int) tc w q) nnC G ad L1 f1) (own := RX11) (by decide) rfl (Nat.le_of_ble_eq_true rfl) (fun sz p e s m args below meth c A ls hA1 hname S Y hl => ?_)
  have hx := S.hx
  have hb := S.hb
  have hl : lv_has ls 3 [(0, .ref (ad 0 0)), (1, .int i1), (2, .int i2)] := hl
  refine lv_iload_n hx hb dX11_book_0 rfl (lv_at hl 1 rfl) ?_
  refine lv_iconst (v := (-1)) hx hb dX11_book_1 (by decide) ?_
  refine lv_icmp_ne (tgt := 18) hx hb dX11_book_2 (by decide) (fun c_89031 => ?_) (fun c_89031 => ?_)
  · refine lv_aload_n hx hb dX11_book_18 rfl (lv_at hl 0 rfl) ?_
    have p_ad_0_0 := opnC_0 (j := 0) I (by decide)
    have p_ad_0_0 : pt L f (ad 0 0) (.inr (11, [.ref (ad 1 0), .ref (ad 1 1), .ref (ad 2 0), .ref (ad 3 0), .ref (ad 4 0), .ref (ad 5 0), .ref (ad 6 0), .ref (ad 7 0), .ref (ad 8 0)])) := p_ad_0_0
    refine pg_get S Y ok_X11 0 (by decide) kf11_13 (v := .ref (ad 1 0)) p_ad_0_0 rfl dX11_book_19 ?_
    obtain ⟨v_89033, v_89035, v_89037, v_89039, v_89041, p_ad_1_0, b_89034, b_89036, b_89038, b_89040, b_89042⟩ := opnC_1 (j := 0) I (by decide)
    have p_ad_1_0 : pt L f (ad 1 0) (.inr (10, [.ref (ad 40 0), .ref (ad 41 0), .ref (ad 42 0), .ref (ad 10 0), .ref (ad 43 0), .ref (ad 20 0), .ref (ad 20 1), .ref (ad 20 2), .ref (ad 20 3), .ref (ad 20 4), .int v_89033, .int v_89035, .int v_89037, .int v_89039, .int v_89041])) := p_ad_1_0
    refine pg_getN S Y ok_X10 3 (by decide) kf11_131 (v := .ref (ad 10 0)) p_ad_1_0 rfl dX11_book_22 ?_
    refine lv_iload_n hx hb dX11_book_25 rfl (lv_at hl 1 rfl) ?_
    refine lv_iload_n hx hb dX11_book_26 rfl (lv_at hl 2 rfl) ?_
    refine cVp (As := [.int i1, .int i2]) (rest := []) S Y (x_X4_written (l := l) (j := 0) I hW hT hQ (by decide)) cw_X4_written km11_234 (I.opo (k := 10) (j := 0) (by decide) rfl).choose_spec.1 ok_X4.1 rfl rfl ⟨Nat.le_of_ble_eq_true rfl, Nat.le_of_ble_eq_true rfl⟩ hl.1 rfl (Nat.le_of_ble_eq_true rfl) ⟨Nat.le_of_ble_eq_true rfl, Nat.le_of_ble_eq_true rfl⟩ dX11_book_27 (fun r_89043 H locs er_89043 Y => ?_)
    exact prI (post := fun r L1 f1 => SH (spC ((NR 30 0 4, fz (pp nL) FI FI FI FI FI FI (pp kF) (pp pF), tz (EQ bT) TA TA TA, sc0) : RS) ((0, 6) : Int × Int) tc w q) nnC G ad L1 f1) S Y rfl (by decide) (by decide) hA1 I dX11_book_30
  · have B_89032 : bn (-1) (-1) i1 := bn_w (bn_eq c_89031 (show bn (-1) (-1) ((-1) : Int32) from bn_k (by decide))) (by decide)
    refine lv_aload_n hx hb dX11_book_5 rfl (lv_at hl 0 rfl) ?_
    have p_ad_0_0 := opnC_0 (j := 0) I (by decide)
    have p_ad_0_0 : pt L f (ad 0 0) (.inr (11, [.ref (ad 1 0), .ref (ad 1 1), .ref (ad 2 0), .ref (ad 3 0), .ref (ad 4 0), .ref (ad 5 0), .ref (ad 6 0), .ref (ad 7 0), .ref (ad 8 0)])) := p_ad_0_0
    refine pg_get S Y ok_X11 0 (by decide) kf11_13 (v := .ref (ad 1 0)) p_ad_0_0 rfl dX11_book_6 ?_
    obtain ⟨v_89044, v_89046, v_89048, v_89050, v_89052, p_ad_1_0, b_89045, b_89047, b_89049, b_89051, b_89053⟩ := opnC_1 (j := 0) I (by decide)
    have p_ad_1_0 : pt L f (ad 1 0) (.inr (10, [.ref (ad 40 0), .ref (ad 41 0), .ref (ad 42 0), .ref (ad 10 0), .ref (ad 43 0), .ref (ad 20 0), .ref (ad 20 1), .ref (ad 20 2), .ref (ad 20 3), .ref (ad 20 4), .int v_89044, .int v_89046, .int v_89048, .int v_89050, .int v_89052])) := p_ad_1_0
    refine pg_getN S Y ok_X10 3 (by decide) kf11_131 (v := .ref (ad 10 0)) p_ad_1_0 rfl dX11_book_9 ?_
    obtain ⟨v_89054, v_89056, v_89058, v_89060, v_89062, p_ad_10_0, b_89055, b_89057, b_89059, b_89061, b_89063⟩ := opnC_10 (j := 0) I (by decide)
    have p_ad_10_0 : pt L f (ad 10 0) (.inr (4, [.ref (ad 11 0), .ref (ad 12 0), .int v_89054, .int v_89056, .int v_89058, .int v_89060, .int v_89062])) := p_ad_10_0
    refine pg_getN S Y ok_X4 3 (by decide) kf11_231 (v := .int v_89056) p_ad_10_0 rfl dX11_book_12 ?_
    refine lv_goto (tgt := 30) hx hb dX11_book_15 (by decide) ?_
    exact prI (post := fun r L1 f1 => SH (spC ((NR 30 0 4, fz (pp nL) FI FI FI FI FI FI (pp kF) (pp pF), tz (EQ bT) TA TA TA, sc0) : RS) ((0, 6) : Int × Int) tc w q) nnC G ad L1 f1) S Y rfl (by decide) (by decide) hA1 I dX11_book_30
set_option maxHeartbeats 4000000 in
set_option maxRecDepth 100000 in
theorem x_X11_foretold {l : Launch} {G : GG}  {L : List Nat} {f : HF} {ad : Nat → Nat → Nat} {nL : Int} {bT : Nat → Int32} {kF : Int} {pF : Int} {tc w : Nat → Int × Int} {q : Nat → (Nat → Int32) → Prop} {i1 i2 : Int32} (I : SH (spC ((NR 30 0 4, fz (pp nL) FI FI FI FI FI FI (pp kF) (pp pF), tz (EQ bT) TA TA TA, sc0) : RS) ((0, 6) : Int × Int) tc w q) nnC G ad L f) (hW : WBp w 8) (hT : WBp tc 4) (hQ : QIp q) (hZ : ZZp w q) (hE : ∀ j, (tc j).1 = (tc j).2) : PMi l yX11_foretold cX11_foretold 3 .int 6 0 0 G [.ref (ad 0 0), .int i1, .int i2] L f (fun r L1 f1 => SH (spC ((NR 30 0 4, fz (pp nL) FI FI FI FI FI FI (pp kF) (pp pF), tz (EQ bT) TA TA TA, sc0) : RS) ((0, 6) : Int × Int) tc w q) nnC G ad L1 f1) := by
  refine PMi.of (post := fun r L1 f1 => SH (spC ((NR 30 0 4, fz (pp nL) FI FI FI FI FI FI (pp kF) (pp pF), tz (EQ bT) TA TA TA, sc0) : RS) ((0, 6) : Int × Int) tc w q) nnC G ad L1 f1) (own := RX11) (by decide) rfl (Nat.le_of_ble_eq_true rfl) (fun sz p e s m args below meth c A ls hA1 hname S Y hl => ?_)
  have hx := S.hx
  have hb := S.hb
  have hl : lv_has ls 3 [(0, .ref (ad 0 0)), (1, .int i1), (2, .int i2)] := hl
  refine lv_iload_n hx hb dX11_foretold_0 rfl (lv_at hl 1 rfl) ?_
  refine lv_iconst (v := 1) hx hb dX11_foretold_1 (by decide) ?_
  refine lv_bipush (v := 60) hx hb dX11_foretold_2 (by decide) ?_
  refine cSp (As := [.int i1, .int 1, .int 60]) (rest := []) S Y (x_X11_within (l := l) ) cw_X11_within km11_146 rfl ⟨Nat.le_of_ble_eq_true rfl, Nat.le_of_ble_eq_true rfl⟩ hl.1 rfl (Nat.le_of_ble_eq_true rfl) ⟨Nat.le_of_ble_eq_true rfl, Nat.le_of_ble_eq_true rfl⟩ dX11_foretold_4 (fun r_89096 H locs er_89096 Y => ?_)
  refine lv_if_ne (tgt := 12) hx hb dX11_foretold_7 (by decide) (fun c_89097 => ?_) (fun c_89097 => ?_)
  · have B_89098 : bn 1 1 r_89096 := bn_w (bn_nel c_89097 er_89096 (show bn 0 0 (0 : Int32) from bn_k (by decide))) (by decide)
    refine lv_iload_n hx hb dX11_foretold_12 rfl (lv_at hl 2 rfl) ?_
    refine lv_iconst (v := (-1)) hx hb dX11_foretold_13 (by decide) ?_
    refine lv_icmp_ne (tgt := 26) hx hb dX11_foretold_14 (by decide) (fun c_89100 => ?_) (fun c_89100 => ?_)
    · refine lv_aload_n hx hb dX11_foretold_26 rfl (lv_at hl 0 rfl) ?_
      have p_ad_0_0 := opnC_0 (j := 0) I (by decide)
      have p_ad_0_0 : pt L f (ad 0 0) (.inr (11, [.ref (ad 1 0), .ref (ad 1 1), .ref (ad 2 0), .ref (ad 3 0), .ref (ad 4 0), .ref (ad 5 0), .ref (ad 6 0), .ref (ad 7 0), .ref (ad 8 0)])) := p_ad_0_0
      refine pg_get S Y ok_X11 0 (by decide) kf11_13 (v := .ref (ad 1 0)) p_ad_0_0 rfl dX11_foretold_27 ?_
      refine lv_iload_n hx hb dX11_foretold_30 rfl (lv_at hl 2 rfl) ?_
      refine cVp (As := [.int i2]) (rest := []) S Y (x_X10_has (l := l) I hW hT hQ) cw_X10_has km11_192 (I.opo (k := 1) (j := 0) (by decide) rfl).choose_spec.1 ok_X10.1 rfl rfl ⟨Nat.le_of_ble_eq_true rfl, Nat.le_of_ble_eq_true rfl⟩ hl.1 rfl (Nat.le_of_ble_eq_true rfl) ⟨Nat.le_of_ble_eq_true rfl, Nat.le_of_ble_eq_true rfl⟩ dX11_foretold_31 (fun r_89102 H locs er_89102 Y => ?_)
      refine lv_if_eq (tgt := 49) hx hb dX11_foretold_34 (by decide) (fun c_89103 => ?_) (fun c_89103 => ?_)
      · have B_89104 : bn 0 0 r_89102 := bn_w (bn_eq c_89103 (show bn 0 0 (0 : Int32) from bn_k (by decide))) (by decide)
        refine lv_iconst (v := (-1)) hx hb dX11_foretold_49 (by decide) ?_
        exact prI (post := fun r L1 f1 => SH (spC ((NR 30 0 4, fz (pp nL) FI FI FI FI FI FI (pp kF) (pp pF), tz (EQ bT) TA TA TA, sc0) : RS) ((0, 6) : Int × Int) tc w q) nnC G ad L1 f1) S Y rfl (by decide) (by decide) hA1 I dX11_foretold_50
      · have B_89105 : bn 1 1 r_89102 := bn_w (bn_nel c_89103 er_89102 (show bn 0 0 (0 : Int32) from bn_k (by decide))) (by decide)
        refine lv_aload_n hx hb dX11_foretold_37 rfl (lv_at hl 0 rfl) ?_
        refine pg_get S Y ok_X11 6 (by decide) kf11_59 (v := .ref (ad 6 0)) p_ad_0_0 rfl dX11_foretold_38 ?_
        refine lv_iload_n hx hb dX11_foretold_41 rfl (lv_at hl 1 rfl) ?_
        refine lv_iload_n hx hb dX11_foretold_42 rfl (lv_at hl 2 rfl) ?_
        refine cVi (As := [.int i1, .int i2]) (rest := []) S Y (x_X2_achesWithin (l := l) I hW hT hQ) cw_X2_achesWithin km11_240 (I.opo (k := 6) (j := 0) (by decide) rfl).choose_spec.1 ok_X2.1 rfl rfl ⟨Nat.le_of_ble_eq_true rfl, Nat.le_of_ble_eq_true rfl⟩ hl.1 rfl (Nat.le_of_ble_eq_true rfl) ⟨Nat.le_of_ble_eq_true rfl, Nat.le_of_ble_eq_true rfl⟩ dX11_foretold_43 (fun r_89108 L_89106 f_89107 H locs I Y => ?_)
        refine lv_goto (tgt := 50) hx hb dX11_foretold_46 (by decide) ?_
        exact prI (post := fun r L1 f1 => SH (spC ((NR 30 0 4, fz (pp nL) FI FI FI FI FI FI (pp kF) (pp pF), tz (EQ bT) TA TA TA, sc0) : RS) ((0, 6) : Int × Int) tc w q) nnC G ad L1 f1) S Y rfl (by decide) (by decide) hA1 I dX11_foretold_50
    · have B_89101 : bn (-1) (-1) i2 := bn_w (bn_eq c_89100 (show bn (-1) (-1) ((-1) : Int32) from bn_k (by decide))) (by decide)
      refine lv_aload_n hx hb dX11_foretold_17 rfl (lv_at hl 0 rfl) ?_
      have p_ad_0_0 := opnC_0 (j := 0) I (by decide)
      have p_ad_0_0 : pt L f (ad 0 0) (.inr (11, [.ref (ad 1 0), .ref (ad 1 1), .ref (ad 2 0), .ref (ad 3 0), .ref (ad 4 0), .ref (ad 5 0), .ref (ad 6 0), .ref (ad 7 0), .ref (ad 8 0)])) := p_ad_0_0
      refine pg_get S Y ok_X11 6 (by decide) kf11_59 (v := .ref (ad 6 0)) p_ad_0_0 rfl dX11_foretold_18 ?_
      refine lv_iload_n hx hb dX11_foretold_21 rfl (lv_at hl 1 rfl) ?_
      refine cVi (As := [.int i1]) (rest := []) S Y (x_X2_rainBehind (l := l) I hW hT hQ) cw_X2_rainBehind km11_237 (I.opo (k := 6) (j := 0) (by decide) rfl).choose_spec.1 ok_X2.1 rfl rfl ⟨Nat.le_of_ble_eq_true rfl, Nat.le_of_ble_eq_true rfl⟩ hl.1 rfl (Nat.le_of_ble_eq_true rfl) ⟨Nat.le_of_ble_eq_true rfl, Nat.le_of_ble_eq_true rfl⟩ dX11_foretold_22 (fun r_89111 L_89109 f_89110 H locs I Y => ?_)
      exact prI (post := fun r L1 f1 => SH (spC ((NR 30 0 4, fz (pp nL) FI FI FI FI FI FI (pp kF) (pp pF), tz (EQ bT) TA TA TA, sc0) : RS) ((0, 6) : Int × Int) tc w q) nnC G ad L1 f1) S Y rfl (by decide) (by decide) hA1 I dX11_foretold_25
  · have B_89099 : bn 0 0 r_89096 := bn_w (bn_eq c_89097 (show bn 0 0 (0 : Int32) from bn_k (by decide))) (by decide)
    refine lv_iconst (v := (-1)) hx hb dX11_foretold_10 (by decide) ?_
    exact prI (post := fun r L1 f1 => SH (spC ((NR 30 0 4, fz (pp nL) FI FI FI FI FI FI (pp kF) (pp pF), tz (EQ bT) TA TA TA, sc0) : RS) ((0, 6) : Int × Int) tc w q) nnC G ad L1 f1) S Y rfl (by decide) (by decide) hA1 I dX11_foretold_11
set_option maxHeartbeats 4000000 in
set_option maxRecDepth 100000 in
theorem x_X11_firstAche {l : Launch} {G : GG}  {L : List Nat} {f : HF} {ad : Nat → Nat → Nat} {nL : Int} {bT : Nat → Int32} {kF : Int} {pF : Int} {tc w : Nat → Int × Int} {q : Nat → (Nat → Int32) → Prop} {i1 : Int32} (I : SH (spC ((NR 30 0 4, fz (pp nL) FI FI FI FI FI FI (pp kF) (pp pF), tz (EQ bT) TA TA TA, sc0) : RS) ((0, 6) : Int × Int) tc w q) nnC G ad L f) (hW : WBp w 8) (hT : WBp tc 4) (hQ : QIp q) (hZ : ZZp w q) (hE : ∀ j, (tc j).1 = (tc j).2) : PMi l yX11_firstAche cX11_firstAche 2 .int 6 0 0 G [.ref (ad 0 0), .int i1] L f (fun r L1 f1 => SH (spC ((NR 30 0 4, fz (pp nL) FI FI FI FI FI FI (pp kF) (pp pF), tz (EQ bT) TA TA TA, sc0) : RS) ((0, 6) : Int × Int) tc w q) nnC G ad L1 f1) := by
  refine PMi.of (post := fun r L1 f1 => SH (spC ((NR 30 0 4, fz (pp nL) FI FI FI FI FI FI (pp kF) (pp pF), tz (EQ bT) TA TA TA, sc0) : RS) ((0, 6) : Int × Int) tc w q) nnC G ad L1 f1) (own := RX11) (by decide) rfl (Nat.le_of_ble_eq_true rfl) (fun sz p e s m args below meth c A ls hA1 hname S Y hl => ?_)
  have hx := S.hx
  have hb := S.hb
  have hl : lv_has ls 2 [(0, .ref (ad 0 0)), (1, .int i1)] := hl
  refine lv_aload_n hx hb dX11_firstAche_0 rfl (lv_at hl 0 rfl) ?_
  have p_ad_0_0 := opnC_0 (j := 0) I (by decide)
  have p_ad_0_0 : pt L f (ad 0 0) (.inr (11, [.ref (ad 1 0), .ref (ad 1 1), .ref (ad 2 0), .ref (ad 3 0), .ref (ad 4 0), .ref (ad 5 0), .ref (ad 6 0), .ref (ad 7 0), .ref (ad 8 0)])) := p_ad_0_0
  refine pg_get S Y ok_X11 0 (by decide) kf11_13 (v := .ref (ad 1 0)) p_ad_0_0 rfl dX11_firstAche_1 ?_
  refine lv_iload_n hx hb dX11_firstAche_4 rfl (lv_at hl 1 rfl) ?_
  refine cVp (As := [.int i1]) (rest := []) S Y (x_X10_has (l := l) I hW hT hQ) cw_X10_has km11_192 (I.opo (k := 1) (j := 0) (by decide) rfl).choose_spec.1 ok_X10.1 rfl rfl ⟨Nat.le_of_ble_eq_true rfl, Nat.le_of_ble_eq_true rfl⟩ hl.1 rfl (Nat.le_of_ble_eq_true rfl) ⟨Nat.le_of_ble_eq_true rfl, Nat.le_of_ble_eq_true rfl⟩ dX11_firstAche_5 (fun r_89126 H locs er_89126 Y => ?_)
  refine lv_if_eq (tgt := 22) hx hb dX11_firstAche_8 (by decide) (fun c_89127 => ?_) (fun c_89127 => ?_)
  · have B_89128 : bn 0 0 r_89126 := bn_w (bn_eq c_89127 (show bn 0 0 (0 : Int32) from bn_k (by decide))) (by decide)
    refine lv_iconst (v := (-1)) hx hb dX11_firstAche_22 (by decide) ?_
    exact prI (post := fun r L1 f1 => SH (spC ((NR 30 0 4, fz (pp nL) FI FI FI FI FI FI (pp kF) (pp pF), tz (EQ bT) TA TA TA, sc0) : RS) ((0, 6) : Int × Int) tc w q) nnC G ad L1 f1) S Y rfl (by decide) (by decide) hA1 I dX11_firstAche_23
  · have B_89129 : bn 1 1 r_89126 := bn_w (bn_nel c_89127 er_89126 (show bn 0 0 (0 : Int32) from bn_k (by decide))) (by decide)
    refine lv_aload_n hx hb dX11_firstAche_11 rfl (lv_at hl 0 rfl) ?_
    refine pg_get S Y ok_X11 6 (by decide) kf11_59 (v := .ref (ad 6 0)) p_ad_0_0 rfl dX11_firstAche_12 ?_
    refine lv_iload_n hx hb dX11_firstAche_15 rfl (lv_at hl 1 rfl) ?_
    refine cVi (As := [.int i1]) (rest := []) S Y (x_X2_daysToAche (l := l) I hW hT hQ) cw_X2_daysToAche km11_243 (I.opo (k := 6) (j := 0) (by decide) rfl).choose_spec.1 ok_X2.1 rfl rfl ⟨Nat.le_of_ble_eq_true rfl, Nat.le_of_ble_eq_true rfl⟩ hl.1 rfl (Nat.le_of_ble_eq_true rfl) ⟨Nat.le_of_ble_eq_true rfl, Nat.le_of_ble_eq_true rfl⟩ dX11_firstAche_16 (fun r_89132 L_89130 f_89131 H locs I Y => ?_)
    refine lv_goto (tgt := 23) hx hb dX11_firstAche_19 (by decide) ?_
    exact prI (post := fun r L1 f1 => SH (spC ((NR 30 0 4, fz (pp nL) FI FI FI FI FI FI (pp kF) (pp pF), tz (EQ bT) TA TA TA, sc0) : RS) ((0, 6) : Int × Int) tc w q) nnC G ad L1 f1) S Y rfl (by decide) (by decide) hA1 I dX11_firstAche_23
set_option maxHeartbeats 4000000 in
set_option maxRecDepth 100000 in
theorem x_X11_fades {l : Launch} {G : GG}  {L : List Nat} {f : HF} {ad : Nat → Nat → Nat} {nL : Int} {bT : Nat → Int32} {kF : Int} {pF : Int} {tc w : Nat → Int × Int} {q : Nat → (Nat → Int32) → Prop} {i1 : Int32} (I : SH (spC ((NR 30 0 4, fz (pp nL) FI FI FI FI FI FI (pp kF) (pp pF), tz (EQ bT) TA TA TA, sc0) : RS) ((0, 6) : Int × Int) tc w q) nnC G ad L f) (hW : WBp w 8) (hT : WBp tc 4) (hQ : QIp q) (hZ : ZZp w q) (hE : ∀ j, (tc j).1 = (tc j).2) : PMi l yX11_fades cX11_fades 2 .int 6 0 0 G [.ref (ad 0 0), .int i1] L f (fun r L1 f1 => SH (spC ((NR 30 0 4, fz (pp nL) FI FI FI FI FI FI (pp kF) (pp pF), tz (EQ bT) TA TA TA, sc0) : RS) ((0, 6) : Int × Int) tc w q) nnC G ad L1 f1) := by
  refine PMi.of (post := fun r L1 f1 => SH (spC ((NR 30 0 4, fz (pp nL) FI FI FI FI FI FI (pp kF) (pp pF), tz (EQ bT) TA TA TA, sc0) : RS) ((0, 6) : Int × Int) tc w q) nnC G ad L1 f1) (own := RX11) (by decide) rfl (Nat.le_of_ble_eq_true rfl) (fun sz p e s m args below meth c A ls hA1 hname S Y hl => ?_)
  have hx := S.hx
  have hb := S.hb
  have hl : lv_has ls 2 [(0, .ref (ad 0 0)), (1, .int i1)] := hl
  refine lv_aload_n hx hb dX11_fades_0 rfl (lv_at hl 0 rfl) ?_
  have p_ad_0_0 := opnC_0 (j := 0) I (by decide)
  have p_ad_0_0 : pt L f (ad 0 0) (.inr (11, [.ref (ad 1 0), .ref (ad 1 1), .ref (ad 2 0), .ref (ad 3 0), .ref (ad 4 0), .ref (ad 5 0), .ref (ad 6 0), .ref (ad 7 0), .ref (ad 8 0)])) := p_ad_0_0
  refine pg_get S Y ok_X11 6 (by decide) kf11_59 (v := .ref (ad 6 0)) p_ad_0_0 rfl dX11_fades_1 ?_
  refine lv_iload_n hx hb dX11_fades_4 rfl (lv_at hl 1 rfl) ?_
  refine cVi (As := [.int i1]) (rest := []) S Y (x_X2_daysToFade (l := l) I hW hT hQ) cw_X2_daysToFade km11_246 (I.opo (k := 6) (j := 0) (by decide) rfl).choose_spec.1 ok_X2.1 rfl rfl ⟨Nat.le_of_ble_eq_true rfl, Nat.le_of_ble_eq_true rfl⟩ hl.1 rfl (Nat.le_of_ble_eq_true rfl) ⟨Nat.le_of_ble_eq_true rfl, Nat.le_of_ble_eq_true rfl⟩ dX11_fades_5 (fun r_89141 L_89139 f_89140 H locs I Y => ?_)
  exact prI (post := fun r L1 f1 => SH (spC ((NR 30 0 4, fz (pp nL) FI FI FI FI FI FI (pp kF) (pp pF), tz (EQ bT) TA TA TA, sc0) : RS) ((0, 6) : Int × Int) tc w q) nnC G ad L1 f1) S Y rfl (by decide) (by decide) hA1 I dX11_fades_8
set_option maxHeartbeats 4000000 in
set_option maxRecDepth 100000 in
theorem x_X11_felt {l : Launch} {G : GG}  {L : List Nat} {f : HF} {ad : Nat → Nat → Nat} {nL : Int} {bT : Nat → Int32} {kF : Int} {pF : Int} {tc w : Nat → Int × Int} {q : Nat → (Nat → Int32) → Prop} {i1 i2 i3 : Int32} (I : SH (spC ((NR 30 0 4, fz (pp nL) FI FI FI FI FI FI (pp kF) (pp pF), tz (EQ bT) TA TA TA, sc0) : RS) ((0, 6) : Int × Int) tc w q) nnC G ad L f) (hW : WBp w 8) (hT : WBp tc 4) (hQ : QIp q) (hZ : ZZp w q) (hE : ∀ j, (tc j).1 = (tc j).2) : PMi l yX11_felt cX11_felt 4 .int 1 0 0 G [.ref (ad 0 0), .int i1, .int i2, .int i3] L f (fun r L1 f1 => SH (spC ((NR 30 0 4, fz (pp nL) FI FI FI FI FI FI (pp kF) (pp pF), tz (EQ bT) TA TA TA, sc0) : RS) ((0, 6) : Int × Int) tc w q) nnC G ad L1 f1) := by
  refine PMi.of (post := fun r L1 f1 => SH (spC ((NR 30 0 4, fz (pp nL) FI FI FI FI FI FI (pp kF) (pp pF), tz (EQ bT) TA TA TA, sc0) : RS) ((0, 6) : Int × Int) tc w q) nnC G ad L1 f1) (own := RX11) (by decide) rfl (Nat.le_of_ble_eq_true rfl) (fun sz p e s m args below meth c A ls hA1 hname S Y hl => ?_)
  have hx := S.hx
  have hb := S.hb
  have hl : lv_has ls 4 [(0, .ref (ad 0 0)), (1, .int i1), (2, .int i2), (3, .int i3)] := hl
  refine lv_iload_n hx hb dX11_felt_0 rfl (lv_at hl 1 rfl) ?_
  refine lv_iconst (v := (-1)) hx hb dX11_felt_1 (by decide) ?_
  refine lv_icmp_ne (tgt := 16) hx hb dX11_felt_2 (by decide) (fun c_89222 => ?_) (fun c_89222 => ?_)
  · refine lv_aload_n hx hb dX11_felt_16 rfl (lv_at hl 0 rfl) ?_
    have p_ad_0_0 := opnC_0 (j := 0) I (by decide)
    have p_ad_0_0 : pt L f (ad 0 0) (.inr (11, [.ref (ad 1 0), .ref (ad 1 1), .ref (ad 2 0), .ref (ad 3 0), .ref (ad 4 0), .ref (ad 5 0), .ref (ad 6 0), .ref (ad 7 0), .ref (ad 8 0)])) := p_ad_0_0
    refine pg_get S Y ok_X11 0 (by decide) kf11_13 (v := .ref (ad 1 0)) p_ad_0_0 rfl dX11_felt_17 ?_
    refine lv_iload_n hx hb dX11_felt_20 rfl (lv_at hl 1 rfl) ?_
    refine cVp (As := [.int i1]) (rest := []) S Y (x_X10_has (l := l) I hW hT hQ) cw_X10_has km11_192 (I.opo (k := 1) (j := 0) (by decide) rfl).choose_spec.1 ok_X10.1 rfl rfl ⟨Nat.le_of_ble_eq_true rfl, Nat.le_of_ble_eq_true rfl⟩ hl.1 rfl (Nat.le_of_ble_eq_true rfl) ⟨Nat.le_of_ble_eq_true rfl, Nat.le_of_ble_eq_true rfl⟩ dX11_felt_21 (fun r_89224 H locs er_89224 Y => ?_)
    refine lv_if_eq (tgt := 48) hx hb dX11_felt_24 (by decide) (fun c_89225 => ?_) (fun c_89225 => ?_)
    · have B_89226 : bn 0 0 r_89224 := bn_w (bn_eq c_89225 (show bn 0 0 (0 : Int32) from bn_k (by decide))) (by decide)
      refine lv_bipush (v := (-2)) hx hb dX11_felt_48 (by decide) ?_
      exact prI (post := fun r L1 f1 => SH (spC ((NR 30 0 4, fz (pp nL) FI FI FI FI FI FI (pp kF) (pp pF), tz (EQ bT) TA TA TA, sc0) : RS) ((0, 6) : Int × Int) tc w q) nnC G ad L1 f1) S Y rfl (by decide) (by decide) hA1 I dX11_felt_50
    · have B_89227 : bn 1 1 r_89224 := bn_w (bn_nel c_89225 er_89224 (show bn 0 0 (0 : Int32) from bn_k (by decide))) (by decide)
      refine lv_iload_n hx hb dX11_felt_27 rfl (lv_at hl 2 rfl) ?_
      refine lv_iconst (v := 0) hx hb dX11_felt_28 (by decide) ?_
      refine lv_bipush (v := 9) hx hb dX11_felt_29 (by decide) ?_
      refine cSp (As := [.int i2, .int 0, .int 9]) (rest := []) S Y (x_X11_within (l := l) ) cw_X11_within km11_146 rfl ⟨Nat.le_of_ble_eq_true rfl, Nat.le_of_ble_eq_true rfl⟩ hl.1 rfl (Nat.le_of_ble_eq_true rfl) ⟨Nat.le_of_ble_eq_true rfl, Nat.le_of_ble_eq_true rfl⟩ dX11_felt_31 (fun r_89228 H locs er_89228 Y => ?_)
      refine lv_if_eq (tgt := 48) hx hb dX11_felt_34 (by decide) (fun c_89229 => ?_) (fun c_89229 => ?_)
      · have B_89230 : bn 0 0 r_89228 := bn_w (bn_eq c_89229 (show bn 0 0 (0 : Int32) from bn_k (by decide))) (by decide)
        refine lv_bipush (v := (-2)) hx hb dX11_felt_48 (by decide) ?_
        exact prI (post := fun r L1 f1 => SH (spC ((NR 30 0 4, fz (pp nL) FI FI FI FI FI FI (pp kF) (pp pF), tz (EQ bT) TA TA TA, sc0) : RS) ((0, 6) : Int × Int) tc w q) nnC G ad L1 f1) S Y rfl (by decide) (by decide) hA1 I dX11_felt_50
      · have B_89231 : bn 1 1 r_89228 := bn_w (bn_nel c_89229 er_89228 (show bn 0 0 (0 : Int32) from bn_k (by decide))) (by decide)
        refine lv_iload_n hx hb dX11_felt_37 rfl (lv_at hl 3 rfl) ?_
        refine lv_iconst (v := 0) hx hb dX11_felt_38 (by decide) ?_
        refine lv_sipush (v := 999) hx hb dX11_felt_39 (by decide) ?_
        refine cSp (As := [.int i3, .int 0, .int 999]) (rest := []) S Y (x_X11_within (l := l) ) cw_X11_within km11_146 rfl ⟨Nat.le_of_ble_eq_true rfl, Nat.le_of_ble_eq_true rfl⟩ hl.1 rfl (Nat.le_of_ble_eq_true rfl) ⟨Nat.le_of_ble_eq_true rfl, Nat.le_of_ble_eq_true rfl⟩ dX11_felt_42 (fun r_89232 H locs er_89232 Y => ?_)
        refine lv_if_ne (tgt := 51) hx hb dX11_felt_45 (by decide) (fun c_89233 => ?_) (fun c_89233 => ?_)
        · have B_89234 : bn 1 1 r_89232 := bn_w (bn_nel c_89233 er_89232 (show bn 0 0 (0 : Int32) from bn_k (by decide))) (by decide)
          refine lv_aload_n hx hb dX11_felt_51 rfl (lv_at hl 0 rfl) ?_
          refine pg_get S Y ok_X11 0 (by decide) kf11_13 (v := .ref (ad 1 0)) p_ad_0_0 rfl dX11_felt_52 ?_
          obtain ⟨v_89236, v_89238, v_89240, v_89242, v_89244, p_ad_1_0, b_89237, b_89239, b_89241, b_89243, b_89245⟩ := opnC_1 (j := 0) I (by decide)
          have p_ad_1_0 : pt L f (ad 1 0) (.inr (10, [.ref (ad 40 0), .ref (ad 41 0), .ref (ad 42 0), .ref (ad 10 0), .ref (ad 43 0), .ref (ad 20 0), .ref (ad 20 1), .ref (ad 20 2), .ref (ad 20 3), .ref (ad 20 4), .int v_89236, .int v_89238, .int v_89240, .int v_89242, .int v_89244])) := p_ad_1_0
          refine pg_getN S Y ok_X10 5 (by decide) kf11_249 (v := .ref (ad 20 0)) p_ad_1_0 rfl dX11_felt_55 ?_
          refine lv_iload_n hx hb dX11_felt_58 rfl (lv_at hl 1 rfl) ?_
          refine lv_iload_n hx hb dX11_felt_59 rfl (lv_at hl 2 rfl) ?_
          refine lv_iload_n hx hb dX11_felt_60 rfl (lv_at hl 3 rfl) ?_
          refine cVi (As := [.int i1, .int i2, .int i3]) (rest := []) S Y (x_X9_tell (l := l) (j := 0) I hW hT hQ (by decide) (hZ _ (by decide) (by decide) (by decide)).1 (hZ _ (by decide) (by decide) (by decide)).2) cw_X9_tell km11_258 (I.opo (k := 20) (j := 0) (by decide) rfl).choose_spec.1 ok_X9.1 rfl rfl ⟨Nat.le_of_ble_eq_true rfl, Nat.le_of_ble_eq_true rfl⟩ hl.1 rfl (Nat.le_of_ble_eq_true rfl) ⟨Nat.le_of_ble_eq_true rfl, Nat.le_of_ble_eq_true rfl⟩ dX11_felt_61 (fun r_89248 L_89246 f_89247 H locs I Y => ?_)
          exact prI (post := fun r L1 f1 => SH (spC ((NR 30 0 4, fz (pp nL) FI FI FI FI FI FI (pp kF) (pp pF), tz (EQ bT) TA TA TA, sc0) : RS) ((0, 6) : Int × Int) tc w q) nnC G ad L1 f1) S Y rfl (by decide) (by decide) hA1 I dX11_felt_64
        · have B_89235 : bn 0 0 r_89232 := bn_w (bn_eq c_89233 (show bn 0 0 (0 : Int32) from bn_k (by decide))) (by decide)
          refine lv_bipush (v := (-2)) hx hb dX11_felt_48 (by decide) ?_
          exact prI (post := fun r L1 f1 => SH (spC ((NR 30 0 4, fz (pp nL) FI FI FI FI FI FI (pp kF) (pp pF), tz (EQ bT) TA TA TA, sc0) : RS) ((0, 6) : Int × Int) tc w q) nnC G ad L1 f1) S Y rfl (by decide) (by decide) hA1 I dX11_felt_50
  · have B_89223 : bn (-1) (-1) i1 := bn_w (bn_eq c_89222 (show bn (-1) (-1) ((-1) : Int32) from bn_k (by decide))) (by decide)
    refine lv_aload_n hx hb dX11_felt_5 rfl (lv_at hl 0 rfl) ?_
    have p_ad_0_0 := opnC_0 (j := 0) I (by decide)
    have p_ad_0_0 : pt L f (ad 0 0) (.inr (11, [.ref (ad 1 0), .ref (ad 1 1), .ref (ad 2 0), .ref (ad 3 0), .ref (ad 4 0), .ref (ad 5 0), .ref (ad 6 0), .ref (ad 7 0), .ref (ad 8 0)])) := p_ad_0_0
    refine pg_get S Y ok_X11 0 (by decide) kf11_13 (v := .ref (ad 1 0)) p_ad_0_0 rfl dX11_felt_6 ?_
    obtain ⟨v_89249, v_89251, v_89253, v_89255, v_89257, p_ad_1_0, b_89250, b_89252, b_89254, b_89256, b_89258⟩ := opnC_1 (j := 0) I (by decide)
    have p_ad_1_0 : pt L f (ad 1 0) (.inr (10, [.ref (ad 40 0), .ref (ad 41 0), .ref (ad 42 0), .ref (ad 10 0), .ref (ad 43 0), .ref (ad 20 0), .ref (ad 20 1), .ref (ad 20 2), .ref (ad 20 3), .ref (ad 20 4), .int v_89249, .int v_89251, .int v_89253, .int v_89255, .int v_89257])) := p_ad_1_0
    refine pg_getN S Y ok_X10 5 (by decide) kf11_249 (v := .ref (ad 20 0)) p_ad_1_0 rfl dX11_felt_9 ?_
    refine cVi (As := []) (rest := []) S Y (x_X9_forget (l := l) (j := 0) I hW hT hQ (by decide) (hZ _ (by decide) (by decide) (by decide)).1 (hZ _ (by decide) (by decide) (by decide)).2) cw_X9_forget km11_253 (I.opo (k := 20) (j := 0) (by decide) rfl).choose_spec.1 ok_X9.1 rfl rfl ⟨Nat.le_of_ble_eq_true rfl, Nat.le_of_ble_eq_true rfl⟩ hl.1 rfl (Nat.le_of_ble_eq_true rfl) ⟨Nat.le_of_ble_eq_true rfl, Nat.le_of_ble_eq_true rfl⟩ dX11_felt_12 (fun r_89261 L_89259 f_89260 H locs hr_89261 Y => ?_)
    obtain ⟨er_89261, I⟩ := hr_89261
    exact prI (post := fun r L1 f1 => SH (spC ((NR 30 0 4, fz (pp nL) FI FI FI FI FI FI (pp kF) (pp pF), tz (EQ bT) TA TA TA, sc0) : RS) ((0, 6) : Int × Int) tc w q) nnC G ad L1 f1) S Y rfl (by decide) (by decide) hA1 I dX11_felt_15
set_option maxHeartbeats 4000000 in
set_option maxRecDepth 100000 in
theorem x_X11_breaches {l : Launch} {G : GG}  {L : List Nat} {f : HF} {ad : Nat → Nat → Nat} {nL : Int} {bT : Nat → Int32} {kF : Int} {pF : Int} {tc w : Nat → Int × Int} {q : Nat → (Nat → Int32) → Prop} {i1 i2 : Int32} (I : SH (spC ((NR 30 0 4, fz (pp nL) FI FI FI FI FI FI (pp kF) (pp pF), tz (EQ bT) TA TA TA, sc0) : RS) ((0, 6) : Int × Int) tc w q) nnC G ad L f) (hW : WBp w 8) (hT : WBp tc 4) (hQ : QIp q) (hZ : ZZp w q) (hE : ∀ j, (tc j).1 = (tc j).2) : PMi l yX11_breaches cX11_breaches 3 .int 6 0 0 G [.ref (ad 0 0), .int i1, .int i2] L f (fun r L1 f1 => SH (spC ((NR 30 0 4, fz (pp nL) FI FI FI FI FI FI (pp kF) (pp pF), tz (EQ bT) TA TA TA, sc0) : RS) ((0, 6) : Int × Int) tc w q) nnC G ad L1 f1) := by
  refine PMi.of (post := fun r L1 f1 => SH (spC ((NR 30 0 4, fz (pp nL) FI FI FI FI FI FI (pp kF) (pp pF), tz (EQ bT) TA TA TA, sc0) : RS) ((0, 6) : Int × Int) tc w q) nnC G ad L1 f1) (own := RX11) (by decide) rfl (Nat.le_of_ble_eq_true rfl) (fun sz p e s m args below meth c A ls hA1 hname S Y hl => ?_)
  have hx := S.hx
  have hb := S.hb
  have hl : lv_has ls 3 [(0, .ref (ad 0 0)), (1, .int i1), (2, .int i2)] := hl
  refine lv_aload_n hx hb dX11_breaches_0 rfl (lv_at hl 0 rfl) ?_
  have p_ad_0_0 := opnC_0 (j := 0) I (by decide)
  have p_ad_0_0 : pt L f (ad 0 0) (.inr (11, [.ref (ad 1 0), .ref (ad 1 1), .ref (ad 2 0), .ref (ad 3 0), .ref (ad 4 0), .ref (ad 5 0), .ref (ad 6 0), .ref (ad 7 0), .ref (ad 8 0)])) := p_ad_0_0
  refine pg_get S Y ok_X11 0 (by decide) kf11_13 (v := .ref (ad 1 0)) p_ad_0_0 rfl dX11_breaches_1 ?_
  refine lv_iload_n hx hb dX11_breaches_4 rfl (lv_at hl 1 rfl) ?_
  refine cVp (As := [.int i1]) (rest := []) S Y (x_X10_has (l := l) I hW hT hQ) cw_X10_has km11_192 (I.opo (k := 1) (j := 0) (by decide) rfl).choose_spec.1 ok_X10.1 rfl rfl ⟨Nat.le_of_ble_eq_true rfl, Nat.le_of_ble_eq_true rfl⟩ hl.1 rfl (Nat.le_of_ble_eq_true rfl) ⟨Nat.le_of_ble_eq_true rfl, Nat.le_of_ble_eq_true rfl⟩ dX11_breaches_5 (fun r_89296 H locs er_89296 Y => ?_)
  refine lv_if_eq (tgt := 20) hx hb dX11_breaches_8 (by decide) (fun c_89297 => ?_) (fun c_89297 => ?_)
  · have B_89298 : bn 0 0 r_89296 := bn_w (bn_eq c_89297 (show bn 0 0 (0 : Int32) from bn_k (by decide))) (by decide)
    refine lv_iconst (v := (-1)) hx hb dX11_breaches_20 (by decide) ?_
    exact prI (post := fun r L1 f1 => SH (spC ((NR 30 0 4, fz (pp nL) FI FI FI FI FI FI (pp kF) (pp pF), tz (EQ bT) TA TA TA, sc0) : RS) ((0, 6) : Int × Int) tc w q) nnC G ad L1 f1) S Y rfl (by decide) (by decide) hA1 I dX11_breaches_21
  · have B_89299 : bn 1 1 r_89296 := bn_w (bn_nel c_89297 er_89296 (show bn 0 0 (0 : Int32) from bn_k (by decide))) (by decide)
    refine lv_iload_n hx hb dX11_breaches_11 rfl (lv_at hl 2 rfl) ?_
    refine lv_iconst (v := 0) hx hb dX11_breaches_12 (by decide) ?_
    refine lv_iconst (v := 2) hx hb dX11_breaches_13 (by decide) ?_
    refine cSp (As := [.int i2, .int 0, .int 2]) (rest := []) S Y (x_X11_within (l := l) ) cw_X11_within km11_146 rfl ⟨Nat.le_of_ble_eq_true rfl, Nat.le_of_ble_eq_true rfl⟩ hl.1 rfl (Nat.le_of_ble_eq_true rfl) ⟨Nat.le_of_ble_eq_true rfl, Nat.le_of_ble_eq_true rfl⟩ dX11_breaches_14 (fun r_89300 H locs er_89300 Y => ?_)
    refine lv_if_ne (tgt := 22) hx hb dX11_breaches_17 (by decide) (fun c_89301 => ?_) (fun c_89301 => ?_)
    · have B_89302 : bn 1 1 r_89300 := bn_w (bn_nel c_89301 er_89300 (show bn 0 0 (0 : Int32) from bn_k (by decide))) (by decide)
      refine lv_aload_n hx hb dX11_breaches_22 rfl (lv_at hl 0 rfl) ?_
      refine pg_get S Y ok_X11 7 (by decide) kf11_68 (v := .ref (ad 7 0)) p_ad_0_0 rfl dX11_breaches_23 ?_
      refine lv_iload_n hx hb dX11_breaches_26 rfl (lv_at hl 1 rfl) ?_
      refine cVv (As := [.int i1]) (rest := []) S Y (x_X8_weigh (l := l) I hW hT hQ) cw_X8_weigh km11_262 (I.opo (k := 7) (j := 0) (by decide) rfl).choose_spec.1 ok_X8.1 rfl rfl ⟨Nat.le_of_ble_eq_true rfl, Nat.le_of_ble_eq_true rfl⟩ hl.1 rfl (Nat.le_of_ble_eq_true rfl) ⟨Nat.le_of_ble_eq_true rfl, Nat.le_of_ble_eq_true rfl⟩ dX11_breaches_27 (fun L_89304 f_89305 H locs I Y => ?_)
      refine lv_iload_n hx hb dX11_breaches_30 rfl (lv_at hl 2 rfl) ?_
      refine lv_if_ne (tgt := 42) hx hb dX11_breaches_31 (by decide) (fun c_89306 => ?_) (fun c_89306 => ?_)
      · refine lv_iload_n hx hb dX11_breaches_42 rfl (lv_at hl 2 rfl) ?_
        refine lv_iconst (v := 1) hx hb dX11_breaches_43 (by decide) ?_
        refine lv_icmp_ne (tgt := 57) hx hb dX11_breaches_44 (by decide) (fun c_89308 => ?_) (fun c_89308 => ?_)
        · refine lv_aload_n hx hb dX11_breaches_57 rfl (lv_at hl 0 rfl) ?_
          have p_ad_0_0 := opnC_0 (j := 0) I (by decide)
          have p_ad_0_0 : pt L_89304 f_89305 (ad 0 0) (.inr (11, [.ref (ad 1 0), .ref (ad 1 1), .ref (ad 2 0), .ref (ad 3 0), .ref (ad 4 0), .ref (ad 5 0), .ref (ad 6 0), .ref (ad 7 0), .ref (ad 8 0)])) := p_ad_0_0
          refine pg_get S Y ok_X11 7 (by decide) kf11_68 (v := .ref (ad 7 0)) p_ad_0_0 rfl dX11_breaches_58 ?_
          refine cVp (As := []) (rest := []) S Y (x_X8_sureKept (l := l) I hW hT hQ) cw_X8_sureKept km11_271 (I.opo (k := 7) (j := 0) (by decide) rfl).choose_spec.1 ok_X8.1 rfl rfl ⟨Nat.le_of_ble_eq_true rfl, Nat.le_of_ble_eq_true rfl⟩ hl.1 rfl (Nat.le_of_ble_eq_true rfl) ⟨Nat.le_of_ble_eq_true rfl, Nat.le_of_ble_eq_true rfl⟩ dX11_breaches_61 (fun r_89310 H locs er_89310 Y => ?_)
          exact prI (post := fun r L1 f1 => SH (spC ((NR 30 0 4, fz (pp nL) FI FI FI FI FI FI (pp kF) (pp pF), tz (EQ bT) TA TA TA, sc0) : RS) ((0, 6) : Int × Int) tc w q) nnC G ad L1 f1) S Y rfl (by decide) (by decide) hA1 I dX11_breaches_64
        · have B_89309 : bn 1 1 i2 := bn_w (bn_eq c_89308 (show bn 1 1 (1 : Int32) from bn_k (by decide))) (by decide)
          refine lv_aload_n hx hb dX11_breaches_47 rfl (lv_at hl 0 rfl) ?_
          have p_ad_0_0 := opnC_0 (j := 0) I (by decide)
          have p_ad_0_0 : pt L_89304 f_89305 (ad 0 0) (.inr (11, [.ref (ad 1 0), .ref (ad 1 1), .ref (ad 2 0), .ref (ad 3 0), .ref (ad 4 0), .ref (ad 5 0), .ref (ad 6 0), .ref (ad 7 0), .ref (ad 8 0)])) := p_ad_0_0
          refine pg_get S Y ok_X11 7 (by decide) kf11_68 (v := .ref (ad 7 0)) p_ad_0_0 rfl dX11_breaches_48 ?_
          refine cVp (As := []) (rest := []) S Y (x_X8_sureBroken (l := l) I hW hT hQ) cw_X8_sureBroken km11_268 (I.opo (k := 7) (j := 0) (by decide) rfl).choose_spec.1 ok_X8.1 rfl rfl ⟨Nat.le_of_ble_eq_true rfl, Nat.le_of_ble_eq_true rfl⟩ hl.1 rfl (Nat.le_of_ble_eq_true rfl) ⟨Nat.le_of_ble_eq_true rfl, Nat.le_of_ble_eq_true rfl⟩ dX11_breaches_51 (fun r_89311 H locs er_89311 Y => ?_)
          refine lv_goto (tgt := 64) hx hb dX11_breaches_54 (by decide) ?_
          exact prI (post := fun r L1 f1 => SH (spC ((NR 30 0 4, fz (pp nL) FI FI FI FI FI FI (pp kF) (pp pF), tz (EQ bT) TA TA TA, sc0) : RS) ((0, 6) : Int × Int) tc w q) nnC G ad L1 f1) S Y rfl (by decide) (by decide) hA1 I dX11_breaches_64
      · have B_89307 : bn 0 0 i2 := bn_w (bn_eq c_89306 (show bn 0 0 (0 : Int32) from bn_k (by decide))) (by decide)
        refine lv_aload_n hx hb dX11_breaches_34 rfl (lv_at hl 0 rfl) ?_
        have p_ad_0_0 := opnC_0 (j := 0) I (by decide)
        have p_ad_0_0 : pt L_89304 f_89305 (ad 0 0) (.inr (11, [.ref (ad 1 0), .ref (ad 1 1), .ref (ad 2 0), .ref (ad 3 0), .ref (ad 4 0), .ref (ad 5 0), .ref (ad 6 0), .ref (ad 7 0), .ref (ad 8 0)])) := p_ad_0_0
        refine pg_get S Y ok_X11 7 (by decide) kf11_68 (v := .ref (ad 7 0)) p_ad_0_0 rfl dX11_breaches_35 ?_
        refine cVp (As := []) (rest := []) S Y (x_X8_sets (l := l) I hW hT hQ) cw_X8_sets km11_265 (I.opo (k := 7) (j := 0) (by decide) rfl).choose_spec.1 ok_X8.1 rfl rfl ⟨Nat.le_of_ble_eq_true rfl, Nat.le_of_ble_eq_true rfl⟩ hl.1 rfl (Nat.le_of_ble_eq_true rfl) ⟨Nat.le_of_ble_eq_true rfl, Nat.le_of_ble_eq_true rfl⟩ dX11_breaches_38 (fun r_89312 H locs er_89312 Y => ?_)
        exact prI (post := fun r L1 f1 => SH (spC ((NR 30 0 4, fz (pp nL) FI FI FI FI FI FI (pp kF) (pp pF), tz (EQ bT) TA TA TA, sc0) : RS) ((0, 6) : Int × Int) tc w q) nnC G ad L1 f1) S Y rfl (by decide) (by decide) hA1 I dX11_breaches_41
    · have B_89303 : bn 0 0 r_89300 := bn_w (bn_eq c_89301 (show bn 0 0 (0 : Int32) from bn_k (by decide))) (by decide)
      refine lv_iconst (v := (-1)) hx hb dX11_breaches_20 (by decide) ?_
      exact prI (post := fun r L1 f1 => SH (spC ((NR 30 0 4, fz (pp nL) FI FI FI FI FI FI (pp kF) (pp pF), tz (EQ bT) TA TA TA, sc0) : RS) ((0, 6) : Int × Int) tc w q) nnC G ad L1 f1) S Y rfl (by decide) (by decide) hA1 I dX11_breaches_21
set_option maxHeartbeats 4000000 in
set_option maxRecDepth 100000 in
theorem x_X11_odds {l : Launch} {G : GG}  {L : List Nat} {f : HF} {ad : Nat → Nat → Nat} {nL : Int} {bT : Nat → Int32} {kF : Int} {pF : Int} {tc w : Nat → Int × Int} {q : Nat → (Nat → Int32) → Prop} {i1 i2 : Int32} (I : SH (spC ((NR 30 0 4, fz (pp nL) FI FI FI FI FI FI (pp kF) (pp pF), tz (EQ bT) TA TA TA, sc0) : RS) ((0, 6) : Int × Int) tc w q) nnC G ad L f) (hW : WBp w 8) (hT : WBp tc 4) (hQ : QIp q) (b_i2 : bn 0 1 i2) (hZ : ZZp w q) (hE : ∀ j, (tc j).1 = (tc j).2) : PMi l yX11_odds cX11_odds 3 .int 6 0 0 G [.ref (ad 0 0), .int i1, .int i2] L f (fun r L1 f1 => SH (spC ((NR 30 0 4, fz (pp nL) FI FI FI FI FI FI (pp kF) (pp pF), tz (EQ bT) TA TA TA, sc0) : RS) ((0, 6) : Int × Int) tc w q) nnC G ad L1 f1) := by
  refine PMi.of (post := fun r L1 f1 => SH (spC ((NR 30 0 4, fz (pp nL) FI FI FI FI FI FI (pp kF) (pp pF), tz (EQ bT) TA TA TA, sc0) : RS) ((0, 6) : Int × Int) tc w q) nnC G ad L1 f1) (own := RX11) (by decide) rfl (Nat.le_of_ble_eq_true rfl) (fun sz p e s m args below meth c A ls hA1 hname S Y hl => ?_)
  have hx := S.hx
  have hb := S.hb
  have hl : lv_has ls 3 [(0, .ref (ad 0 0)), (1, .int i1), (2, .int i2)] := hl
  refine lv_aload_n hx hb dX11_odds_0 rfl (lv_at hl 0 rfl) ?_
  have p_ad_0_0 := opnC_0 (j := 0) I (by decide)
  have p_ad_0_0 : pt L f (ad 0 0) (.inr (11, [.ref (ad 1 0), .ref (ad 1 1), .ref (ad 2 0), .ref (ad 3 0), .ref (ad 4 0), .ref (ad 5 0), .ref (ad 6 0), .ref (ad 7 0), .ref (ad 8 0)])) := p_ad_0_0
  refine pg_get S Y ok_X11 0 (by decide) kf11_13 (v := .ref (ad 1 0)) p_ad_0_0 rfl dX11_odds_1 ?_
  obtain ⟨v_89349, v_89351, v_89353, v_89355, v_89357, p_ad_1_0, b_89350, b_89352, b_89354, b_89356, b_89358⟩ := opnC_1 (j := 0) I (by decide)
  have p_ad_1_0 : pt L f (ad 1 0) (.inr (10, [.ref (ad 40 0), .ref (ad 41 0), .ref (ad 42 0), .ref (ad 10 0), .ref (ad 43 0), .ref (ad 20 0), .ref (ad 20 1), .ref (ad 20 2), .ref (ad 20 3), .ref (ad 20 4), .int v_89349, .int v_89351, .int v_89353, .int v_89355, .int v_89357])) := p_ad_1_0
  refine pg_getN S Y ok_X10 3 (by decide) kf11_131 (v := .ref (ad 10 0)) p_ad_1_0 rfl dX11_odds_4 ?_
  refine lv_iload_n hx hb dX11_odds_7 rfl (lv_at hl 1 rfl) ?_
  refine cVp (As := [.int i1]) (rest := []) S Y (x_X4_legible (l := l) (j := 0) I hW hT hQ (by decide)) cw_X4_legible km11_274 (I.opo (k := 10) (j := 0) (by decide) rfl).choose_spec.1 ok_X4.1 rfl rfl ⟨Nat.le_of_ble_eq_true rfl, Nat.le_of_ble_eq_true rfl⟩ hl.1 rfl (Nat.le_of_ble_eq_true rfl) ⟨Nat.le_of_ble_eq_true rfl, Nat.le_of_ble_eq_true rfl⟩ dX11_odds_8 (fun r_89359 H locs er_89359 Y => ?_)
  refine lv_if_ne (tgt := 16) hx hb dX11_odds_11 (by decide) (fun c_89360 => ?_) (fun c_89360 => ?_)
  · have B_89361 : bn 1 1 r_89359 := bn_w (bn_nel c_89360 er_89359 (show bn 0 0 (0 : Int32) from bn_k (by decide))) (by decide)
    refine lv_aload_n hx hb dX11_odds_16 rfl (lv_at hl 0 rfl) ?_
    refine pg_get S Y ok_X11 7 (by decide) kf11_68 (v := .ref (ad 7 0)) p_ad_0_0 rfl dX11_odds_17 ?_
    refine lv_aload_n hx hb dX11_odds_20 rfl (lv_at hl 0 rfl) ?_
    refine pg_get S Y ok_X11 0 (by decide) kf11_13 (v := .ref (ad 1 0)) p_ad_0_0 rfl dX11_odds_21 ?_
    refine pg_getN S Y ok_X10 3 (by decide) kf11_131 (v := .ref (ad 10 0)) p_ad_1_0 rfl dX11_odds_24 ?_
    refine lv_iload_n hx hb dX11_odds_27 rfl (lv_at hl 1 rfl) ?_
    refine lv_iconst (v := 1) hx hb dX11_odds_28 (by decide) ?_
    refine cVp (As := [.int i1, .int 1]) (rest := [.ref (ad 7 0)]) S Y (x_X4_get (l := l) (j := 0) I hW hT hQ (by decide)) cw_X4_get km11_222 (I.opo (k := 10) (j := 0) (by decide) rfl).choose_spec.1 ok_X4.1 rfl rfl ⟨Nat.le_of_ble_eq_true rfl, Nat.le_of_ble_eq_true rfl⟩ hl.1 rfl (Nat.le_of_ble_eq_true rfl) ⟨Nat.le_of_ble_eq_true rfl, Nat.le_of_ble_eq_true rfl⟩ dX11_odds_29 (fun r_89363 H locs er_89363 Y => ?_)
    refine cVv (As := [.int r_89363]) (rest := []) S Y (x_X8_weigh (l := l) I hW hT hQ) cw_X8_weigh km11_262 (I.opo (k := 7) (j := 0) (by decide) rfl).choose_spec.1 ok_X8.1 rfl rfl ⟨Nat.le_of_ble_eq_true rfl, Nat.le_of_ble_eq_true rfl⟩ hl.1 rfl (Nat.le_of_ble_eq_true rfl) ⟨Nat.le_of_ble_eq_true rfl, Nat.le_of_ble_eq_true rfl⟩ dX11_odds_32 (fun L_89364 f_89365 H locs I Y => ?_)
    refine lv_aload_n hx hb dX11_odds_35 rfl (lv_at hl 0 rfl) ?_
    have p_ad_0_0 := opnC_0 (j := 0) I (by decide)
    have p_ad_0_0 : pt L_89364 f_89365 (ad 0 0) (.inr (11, [.ref (ad 1 0), .ref (ad 1 1), .ref (ad 2 0), .ref (ad 3 0), .ref (ad 4 0), .ref (ad 5 0), .ref (ad 6 0), .ref (ad 7 0), .ref (ad 8 0)])) := p_ad_0_0
    refine pg_get S Y ok_X11 7 (by decide) kf11_68 (v := .ref (ad 7 0)) p_ad_0_0 rfl dX11_odds_36 ?_
    refine lv_iload_n hx hb dX11_odds_39 rfl (lv_at hl 1 rfl) ?_
    refine lv_iload_n hx hb dX11_odds_40 rfl (lv_at hl 2 rfl) ?_
    refine cVp (As := [.int i1, .int i2]) (rest := []) S Y (x_X8_chance (l := l) I hW hT hQ (bn_w b_i2 (by decide))) cw_X8_chance km11_277 (I.opo (k := 7) (j := 0) (by decide) rfl).choose_spec.1 ok_X8.1 rfl rfl ⟨Nat.le_of_ble_eq_true rfl, Nat.le_of_ble_eq_true rfl⟩ hl.1 rfl (Nat.le_of_ble_eq_true rfl) ⟨Nat.le_of_ble_eq_true rfl, Nat.le_of_ble_eq_true rfl⟩ dX11_odds_41 (fun r_89366 H locs er_89366 Y => ?_)
    exact prI (post := fun r L1 f1 => SH (spC ((NR 30 0 4, fz (pp nL) FI FI FI FI FI FI (pp kF) (pp pF), tz (EQ bT) TA TA TA, sc0) : RS) ((0, 6) : Int × Int) tc w q) nnC G ad L1 f1) S Y rfl (by decide) (by decide) hA1 I dX11_odds_44
  · have B_89362 : bn 0 0 r_89359 := bn_w (bn_eq c_89360 (show bn 0 0 (0 : Int32) from bn_k (by decide))) (by decide)
    refine lv_iconst (v := (-1)) hx hb dX11_odds_14 (by decide) ?_
    exact prI (post := fun r L1 f1 => SH (spC ((NR 30 0 4, fz (pp nL) FI FI FI FI FI FI (pp kF) (pp pF), tz (EQ bT) TA TA TA, sc0) : RS) ((0, 6) : Int × Int) tc w q) nnC G ad L1 f1) S Y rfl (by decide) (by decide) hA1 I dX11_odds_15
set_option maxHeartbeats 4000000 in
set_option maxRecDepth 100000 in
theorem x_X11_nextAsked {l : Launch} {G : GG}  {L : List Nat} {f : HF} {ad : Nat → Nat → Nat} {nL : Int} {bT : Nat → Int32} {kF : Int} {pF : Int} {tc w : Nat → Int × Int} {q : Nat → (Nat → Int32) → Prop} {i1 : Int32} (I : SH (spC ((NR 30 0 4, fz (pp nL) FI FI FI FI FI FI (pp kF) (pp pF), tz (EQ bT) TA TA TA, sc0) : RS) ((0, 6) : Int × Int) tc w q) nnC G ad L f) (hW : WBp w 8) (hT : WBp tc 4) (hQ : QIp q) (hZ : ZZp w q) (hE : ∀ j, (tc j).1 = (tc j).2) : PMi l yX11_nextAsked cX11_nextAsked 2 .int 6 0 0 G [.ref (ad 0 0), .int i1] L f (fun r L1 f1 => SH (spC ((NR 30 0 4, fz (pp nL) FI FI FI FI FI FI (pp kF) (pp pF), tz (EQ bT) TA TA TA, sc0) : RS) ((0, 6) : Int × Int) tc w q) nnC G ad L1 f1) := by
  refine PMi.of (post := fun r L1 f1 => SH (spC ((NR 30 0 4, fz (pp nL) FI FI FI FI FI FI (pp kF) (pp pF), tz (EQ bT) TA TA TA, sc0) : RS) ((0, 6) : Int × Int) tc w q) nnC G ad L1 f1) (own := RX11) (by decide) rfl (Nat.le_of_ble_eq_true rfl) (fun sz p e s m args below meth c A ls hA1 hname S Y hl => ?_)
  have hx := S.hx
  have hb := S.hb
  have hl : lv_has ls 2 [(0, .ref (ad 0 0)), (1, .int i1)] := hl
  refine lv_aload_n hx hb dX11_nextAsked_0 rfl (lv_at hl 0 rfl) ?_
  have p_ad_0_0 := opnC_0 (j := 0) I (by decide)
  have p_ad_0_0 : pt L f (ad 0 0) (.inr (11, [.ref (ad 1 0), .ref (ad 1 1), .ref (ad 2 0), .ref (ad 3 0), .ref (ad 4 0), .ref (ad 5 0), .ref (ad 6 0), .ref (ad 7 0), .ref (ad 8 0)])) := p_ad_0_0
  refine pg_get S Y ok_X11 0 (by decide) kf11_13 (v := .ref (ad 1 0)) p_ad_0_0 rfl dX11_nextAsked_1 ?_
  refine lv_iload_n hx hb dX11_nextAsked_4 rfl (lv_at hl 1 rfl) ?_
  refine cVp (As := [.int i1]) (rest := []) S Y (x_X10_has (l := l) I hW hT hQ) cw_X10_has km11_192 (I.opo (k := 1) (j := 0) (by decide) rfl).choose_spec.1 ok_X10.1 rfl rfl ⟨Nat.le_of_ble_eq_true rfl, Nat.le_of_ble_eq_true rfl⟩ hl.1 rfl (Nat.le_of_ble_eq_true rfl) ⟨Nat.le_of_ble_eq_true rfl, Nat.le_of_ble_eq_true rfl⟩ dX11_nextAsked_5 (fun r_89381 H locs er_89381 Y => ?_)
  refine lv_if_ne (tgt := 13) hx hb dX11_nextAsked_8 (by decide) (fun c_89382 => ?_) (fun c_89382 => ?_)
  · have B_89383 : bn 1 1 r_89381 := bn_w (bn_nel c_89382 er_89381 (show bn 0 0 (0 : Int32) from bn_k (by decide))) (by decide)
    refine lv_aload_n hx hb dX11_nextAsked_13 rfl (lv_at hl 0 rfl) ?_
    refine pg_get S Y ok_X11 7 (by decide) kf11_68 (v := .ref (ad 7 0)) p_ad_0_0 rfl dX11_nextAsked_14 ?_
    refine lv_iload_n hx hb dX11_nextAsked_17 rfl (lv_at hl 1 rfl) ?_
    refine cVv (As := [.int i1]) (rest := []) S Y (x_X8_weigh (l := l) I hW hT hQ) cw_X8_weigh km11_262 (I.opo (k := 7) (j := 0) (by decide) rfl).choose_spec.1 ok_X8.1 rfl rfl ⟨Nat.le_of_ble_eq_true rfl, Nat.le_of_ble_eq_true rfl⟩ hl.1 rfl (Nat.le_of_ble_eq_true rfl) ⟨Nat.le_of_ble_eq_true rfl, Nat.le_of_ble_eq_true rfl⟩ dX11_nextAsked_18 (fun L_89385 f_89386 H locs I Y => ?_)
    refine lv_aload_n hx hb dX11_nextAsked_21 rfl (lv_at hl 0 rfl) ?_
    have p_ad_0_0 := opnC_0 (j := 0) I (by decide)
    have p_ad_0_0 : pt L_89385 f_89386 (ad 0 0) (.inr (11, [.ref (ad 1 0), .ref (ad 1 1), .ref (ad 2 0), .ref (ad 3 0), .ref (ad 4 0), .ref (ad 5 0), .ref (ad 6 0), .ref (ad 7 0), .ref (ad 8 0)])) := p_ad_0_0
    refine pg_get S Y ok_X11 7 (by decide) kf11_68 (v := .ref (ad 7 0)) p_ad_0_0 rfl dX11_nextAsked_22 ?_
    refine cVp (As := []) (rest := []) S Y (x_X8_mostTelling (l := l) I hW hT hQ) cw_X8_mostTelling km11_281 (I.opo (k := 7) (j := 0) (by decide) rfl).choose_spec.1 ok_X8.1 rfl rfl ⟨Nat.le_of_ble_eq_true rfl, Nat.le_of_ble_eq_true rfl⟩ hl.1 rfl (Nat.le_of_ble_eq_true rfl) ⟨Nat.le_of_ble_eq_true rfl, Nat.le_of_ble_eq_true rfl⟩ dX11_nextAsked_25 (fun r_89387 H locs er_89387 Y => ?_)
    exact prI (post := fun r L1 f1 => SH (spC ((NR 30 0 4, fz (pp nL) FI FI FI FI FI FI (pp kF) (pp pF), tz (EQ bT) TA TA TA, sc0) : RS) ((0, 6) : Int × Int) tc w q) nnC G ad L1 f1) S Y rfl (by decide) (by decide) hA1 I dX11_nextAsked_28
  · have B_89384 : bn 0 0 r_89381 := bn_w (bn_eq c_89382 (show bn 0 0 (0 : Int32) from bn_k (by decide))) (by decide)
    refine lv_iconst (v := (-1)) hx hb dX11_nextAsked_11 (by decide) ?_
    exact prI (post := fun r L1 f1 => SH (spC ((NR 30 0 4, fz (pp nL) FI FI FI FI FI FI (pp kF) (pp pF), tz (EQ bT) TA TA TA, sc0) : RS) ((0, 6) : Int × Int) tc w q) nnC G ad L1 f1) S Y rfl (by decide) (by decide) hA1 I dX11_nextAsked_12
set_option maxHeartbeats 4000000 in
set_option maxRecDepth 100000 in
theorem x_X11_clash {l : Launch} {G : GG}  {L : List Nat} {f : HF} {ad : Nat → Nat → Nat} {nL : Int} {bT : Nat → Int32} {kF : Int} {pF : Int} {tc w : Nat → Int × Int} {q : Nat → (Nat → Int32) → Prop} {i1 i2 : Int32} (I : SH (spC ((NR 30 0 4, fz (pp nL) FI FI FI FI FI FI (pp kF) (pp pF), tz (EQ bT) TA TA TA, sc0) : RS) ((0, 6) : Int × Int) tc w q) nnC G ad L f) (hW : WBp w 8) (hT : WBp tc 4) (hQ : QIp q) (hZ : ZZp w q) (hE : ∀ j, (tc j).1 = (tc j).2) : PMi l yX11_clash cX11_clash 3 .int 1 0 0 G [.ref (ad 0 0), .int i1, .int i2] L f (fun r L1 f1 => SH (spC ((NR 30 0 4, fz (pp nL) FI FI FI FI FI FI (pp kF) (pp pF), tz (EQ bT) TA TA TA, sc0) : RS) ((0, 6) : Int × Int) tc w q) nnC G ad L1 f1) := by
  refine PMi.of (post := fun r L1 f1 => SH (spC ((NR 30 0 4, fz (pp nL) FI FI FI FI FI FI (pp kF) (pp pF), tz (EQ bT) TA TA TA, sc0) : RS) ((0, 6) : Int × Int) tc w q) nnC G ad L1 f1) (own := RX11) (by decide) rfl (Nat.le_of_ble_eq_true rfl) (fun sz p e s m args below meth c A ls hA1 hname S Y hl => ?_)
  have hx := S.hx
  have hb := S.hb
  have hl : lv_has ls 3 [(0, .ref (ad 0 0)), (1, .int i1), (2, .int i2)] := hl
  refine lv_iload_n hx hb dX11_clash_0 rfl (lv_at hl 1 rfl) ?_
  refine lv_iconst (v := (-1)) hx hb dX11_clash_1 (by decide) ?_
  refine lv_icmp_ne (tgt := 16) hx hb dX11_clash_2 (by decide) (fun c_89462 => ?_) (fun c_89462 => ?_)
  · refine lv_aload_n hx hb dX11_clash_16 rfl (lv_at hl 0 rfl) ?_
    have p_ad_0_0 := opnC_0 (j := 0) I (by decide)
    have p_ad_0_0 : pt L f (ad 0 0) (.inr (11, [.ref (ad 1 0), .ref (ad 1 1), .ref (ad 2 0), .ref (ad 3 0), .ref (ad 4 0), .ref (ad 5 0), .ref (ad 6 0), .ref (ad 7 0), .ref (ad 8 0)])) := p_ad_0_0
    refine pg_get S Y ok_X11 0 (by decide) kf11_13 (v := .ref (ad 1 0)) p_ad_0_0 rfl dX11_clash_17 ?_
    obtain ⟨v_89464, v_89466, v_89468, v_89470, v_89472, p_ad_1_0, b_89465, b_89467, b_89469, b_89471, b_89473⟩ := opnC_1 (j := 0) I (by decide)
    have p_ad_1_0 : pt L f (ad 1 0) (.inr (10, [.ref (ad 40 0), .ref (ad 41 0), .ref (ad 42 0), .ref (ad 10 0), .ref (ad 43 0), .ref (ad 20 0), .ref (ad 20 1), .ref (ad 20 2), .ref (ad 20 3), .ref (ad 20 4), .int v_89464, .int v_89466, .int v_89468, .int v_89470, .int v_89472])) := p_ad_1_0
    refine pg_getN S Y ok_X10 3 (by decide) kf11_131 (v := .ref (ad 10 0)) p_ad_1_0 rfl dX11_clash_20 ?_
    refine lv_iload_n hx hb dX11_clash_23 rfl (lv_at hl 1 rfl) ?_
    refine cVp (As := [.int i1]) (rest := []) S Y (x_X4_has (l := l) (j := 0) I hW hT hQ (by decide)) cw_X4_has km11_211 (I.opo (k := 10) (j := 0) (by decide) rfl).choose_spec.1 ok_X4.1 rfl rfl ⟨Nat.le_of_ble_eq_true rfl, Nat.le_of_ble_eq_true rfl⟩ hl.1 rfl (Nat.le_of_ble_eq_true rfl) ⟨Nat.le_of_ble_eq_true rfl, Nat.le_of_ble_eq_true rfl⟩ dX11_clash_24 (fun r_89474 H locs er_89474 Y => ?_)
    refine lv_if_eq (tgt := 49) hx hb dX11_clash_27 (by decide) (fun c_89475 => ?_) (fun c_89475 => ?_)
    · have B_89476 : bn 0 0 r_89474 := bn_w (bn_eq c_89475 (show bn 0 0 (0 : Int32) from bn_k (by decide))) (by decide)
      refine lv_bipush (v := (-2)) hx hb dX11_clash_49 (by decide) ?_
      exact prI (post := fun r L1 f1 => SH (spC ((NR 30 0 4, fz (pp nL) FI FI FI FI FI FI (pp kF) (pp pF), tz (EQ bT) TA TA TA, sc0) : RS) ((0, 6) : Int × Int) tc w q) nnC G ad L1 f1) S Y rfl (by decide) (by decide) hA1 I dX11_clash_51
    · have B_89477 : bn 1 1 r_89474 := bn_w (bn_nel c_89475 er_89474 (show bn 0 0 (0 : Int32) from bn_k (by decide))) (by decide)
      refine lv_aload_n hx hb dX11_clash_30 rfl (lv_at hl 0 rfl) ?_
      refine pg_get S Y ok_X11 0 (by decide) kf11_13 (v := .ref (ad 1 0)) p_ad_0_0 rfl dX11_clash_31 ?_
      refine pg_getN S Y ok_X10 3 (by decide) kf11_131 (v := .ref (ad 10 0)) p_ad_1_0 rfl dX11_clash_34 ?_
      refine lv_iload_n hx hb dX11_clash_37 rfl (lv_at hl 2 rfl) ?_
      refine cVp (As := [.int i2]) (rest := []) S Y (x_X4_has (l := l) (j := 0) I hW hT hQ (by decide)) cw_X4_has km11_211 (I.opo (k := 10) (j := 0) (by decide) rfl).choose_spec.1 ok_X4.1 rfl rfl ⟨Nat.le_of_ble_eq_true rfl, Nat.le_of_ble_eq_true rfl⟩ hl.1 rfl (Nat.le_of_ble_eq_true rfl) ⟨Nat.le_of_ble_eq_true rfl, Nat.le_of_ble_eq_true rfl⟩ dX11_clash_38 (fun r_89478 H locs er_89478 Y => ?_)
      refine lv_if_eq (tgt := 49) hx hb dX11_clash_41 (by decide) (fun c_89479 => ?_) (fun c_89479 => ?_)
      · have B_89480 : bn 0 0 r_89478 := bn_w (bn_eq c_89479 (show bn 0 0 (0 : Int32) from bn_k (by decide))) (by decide)
        refine lv_bipush (v := (-2)) hx hb dX11_clash_49 (by decide) ?_
        exact prI (post := fun r L1 f1 => SH (spC ((NR 30 0 4, fz (pp nL) FI FI FI FI FI FI (pp kF) (pp pF), tz (EQ bT) TA TA TA, sc0) : RS) ((0, 6) : Int × Int) tc w q) nnC G ad L1 f1) S Y rfl (by decide) (by decide) hA1 I dX11_clash_51
      · have B_89481 : bn 1 1 r_89478 := bn_w (bn_nel c_89479 er_89478 (show bn 0 0 (0 : Int32) from bn_k (by decide))) (by decide)
        refine lv_iload_n hx hb dX11_clash_44 rfl (lv_at hl 1 rfl) ?_
        refine lv_iload_n hx hb dX11_clash_45 rfl (lv_at hl 2 rfl) ?_
        refine lv_icmp_ne (tgt := 52) hx hb dX11_clash_46 (by decide) (fun c_89482 => ?_) (fun c_89482 => ?_)
        · refine lv_aload_n hx hb dX11_clash_52 rfl (lv_at hl 0 rfl) ?_
          refine pg_get S Y ok_X11 0 (by decide) kf11_13 (v := .ref (ad 1 0)) p_ad_0_0 rfl dX11_clash_53 ?_
          refine pg_getN S Y ok_X10 6 (by decide) kf11_284 (v := .ref (ad 20 1)) p_ad_1_0 rfl dX11_clash_56 ?_
          refine lv_iload_n hx hb dX11_clash_59 rfl (lv_at hl 1 rfl) ?_
          refine lv_iload_n hx hb dX11_clash_60 rfl (lv_at hl 2 rfl) ?_
          refine lv_iconst (v := 0) hx hb dX11_clash_61 (by decide) ?_
          refine cVi (As := [.int i1, .int i2, .int 0]) (rest := []) S Y (x_X9_tell (l := l) (j := 1) I hW hT hQ (by decide) (hZ _ (by decide) (by decide) (by decide)).1 (hZ _ (by decide) (by decide) (by decide)).2) cw_X9_tell km11_258 (I.opo (k := 20) (j := 1) (by decide) rfl).choose_spec.1 ok_X9.1 rfl rfl ⟨Nat.le_of_ble_eq_true rfl, Nat.le_of_ble_eq_true rfl⟩ hl.1 rfl (Nat.le_of_ble_eq_true rfl) ⟨Nat.le_of_ble_eq_true rfl, Nat.le_of_ble_eq_true rfl⟩ dX11_clash_62 (fun r_89485 L_89483 f_89484 H locs I Y => ?_)
          exact prI (post := fun r L1 f1 => SH (spC ((NR 30 0 4, fz (pp nL) FI FI FI FI FI FI (pp kF) (pp pF), tz (EQ bT) TA TA TA, sc0) : RS) ((0, 6) : Int × Int) tc w q) nnC G ad L1 f1) S Y rfl (by decide) (by decide) hA1 I dX11_clash_65
        · refine lv_bipush (v := (-2)) hx hb dX11_clash_49 (by decide) ?_
          exact prI (post := fun r L1 f1 => SH (spC ((NR 30 0 4, fz (pp nL) FI FI FI FI FI FI (pp kF) (pp pF), tz (EQ bT) TA TA TA, sc0) : RS) ((0, 6) : Int × Int) tc w q) nnC G ad L1 f1) S Y rfl (by decide) (by decide) hA1 I dX11_clash_51
  · have B_89463 : bn (-1) (-1) i1 := bn_w (bn_eq c_89462 (show bn (-1) (-1) ((-1) : Int32) from bn_k (by decide))) (by decide)
    refine lv_aload_n hx hb dX11_clash_5 rfl (lv_at hl 0 rfl) ?_
    have p_ad_0_0 := opnC_0 (j := 0) I (by decide)
    have p_ad_0_0 : pt L f (ad 0 0) (.inr (11, [.ref (ad 1 0), .ref (ad 1 1), .ref (ad 2 0), .ref (ad 3 0), .ref (ad 4 0), .ref (ad 5 0), .ref (ad 6 0), .ref (ad 7 0), .ref (ad 8 0)])) := p_ad_0_0
    refine pg_get S Y ok_X11 0 (by decide) kf11_13 (v := .ref (ad 1 0)) p_ad_0_0 rfl dX11_clash_6 ?_
    obtain ⟨v_89486, v_89488, v_89490, v_89492, v_89494, p_ad_1_0, b_89487, b_89489, b_89491, b_89493, b_89495⟩ := opnC_1 (j := 0) I (by decide)
    have p_ad_1_0 : pt L f (ad 1 0) (.inr (10, [.ref (ad 40 0), .ref (ad 41 0), .ref (ad 42 0), .ref (ad 10 0), .ref (ad 43 0), .ref (ad 20 0), .ref (ad 20 1), .ref (ad 20 2), .ref (ad 20 3), .ref (ad 20 4), .int v_89486, .int v_89488, .int v_89490, .int v_89492, .int v_89494])) := p_ad_1_0
    refine pg_getN S Y ok_X10 6 (by decide) kf11_284 (v := .ref (ad 20 1)) p_ad_1_0 rfl dX11_clash_9 ?_
    refine cVi (As := []) (rest := []) S Y (x_X9_forget (l := l) (j := 1) I hW hT hQ (by decide) (hZ _ (by decide) (by decide) (by decide)).1 (hZ _ (by decide) (by decide) (by decide)).2) cw_X9_forget km11_253 (I.opo (k := 20) (j := 1) (by decide) rfl).choose_spec.1 ok_X9.1 rfl rfl ⟨Nat.le_of_ble_eq_true rfl, Nat.le_of_ble_eq_true rfl⟩ hl.1 rfl (Nat.le_of_ble_eq_true rfl) ⟨Nat.le_of_ble_eq_true rfl, Nat.le_of_ble_eq_true rfl⟩ dX11_clash_12 (fun r_89498 L_89496 f_89497 H locs hr_89498 Y => ?_)
    obtain ⟨er_89498, I⟩ := hr_89498
    exact prI (post := fun r L1 f1 => SH (spC ((NR 30 0 4, fz (pp nL) FI FI FI FI FI FI (pp kF) (pp pF), tz (EQ bT) TA TA TA, sc0) : RS) ((0, 6) : Int × Int) tc w q) nnC G ad L1 f1) S Y rfl (by decide) (by decide) hA1 I dX11_clash_15
set_option maxHeartbeats 4000000 in
set_option maxRecDepth 100000 in
theorem x_X11_leastReleased {l : Launch} {G : GG}  {L : List Nat} {f : HF} {ad : Nat → Nat → Nat} {nL : Int} {bT : Nat → Int32} {kF : Int} {pF : Int} {tc w : Nat → Int × Int} {q : Nat → (Nat → Int32) → Prop} (I : SH (spC ((NR 30 0 4, fz (pp nL) FI FI FI FI FI FI (pp kF) (pp pF), tz (EQ bT) TA TA TA, sc0) : RS) ((0, 6) : Int × Int) tc w q) nnC G ad L f) (hW : WBp w 8) (hT : WBp tc 4) (hQ : QIp q) (hZ : ZZp w q) (hE : ∀ j, (tc j).1 = (tc j).2) : PMi l yX11_leastReleased cX11_leastReleased 1 .int 3 0 0 G [.ref (ad 0 0)] L f (fun r L1 f1 => SH (spC ((NR 30 0 4, fz (pp nL) FI FI FI FI FI FI (pp kF) (pp pF), tz (EQ bT) TA TA TA, sc0) : RS) ((0, 6) : Int × Int) tc w q) nnC G ad L1 f1) := by
  refine PMi.of (post := fun r L1 f1 => SH (spC ((NR 30 0 4, fz (pp nL) FI FI FI FI FI FI (pp kF) (pp pF), tz (EQ bT) TA TA TA, sc0) : RS) ((0, 6) : Int × Int) tc w q) nnC G ad L1 f1) (own := RX11) (by decide) rfl (Nat.le_of_ble_eq_true rfl) (fun sz p e s m args below meth c A ls hA1 hname S Y hl => ?_)
  have hx := S.hx
  have hb := S.hb
  have hl : lv_has ls 1 [(0, .ref (ad 0 0))] := hl
  refine lv_aload_n hx hb dX11_leastReleased_0 rfl (lv_at hl 0 rfl) ?_
  have p_ad_0_0 := opnC_0 (j := 0) I (by decide)
  have p_ad_0_0 : pt L f (ad 0 0) (.inr (11, [.ref (ad 1 0), .ref (ad 1 1), .ref (ad 2 0), .ref (ad 3 0), .ref (ad 4 0), .ref (ad 5 0), .ref (ad 6 0), .ref (ad 7 0), .ref (ad 8 0)])) := p_ad_0_0
  refine pg_get S Y ok_X11 8 (by decide) kf11_75 (v := .ref (ad 8 0)) p_ad_0_0 rfl dX11_leastReleased_1 ?_
  refine cVi (As := []) (rest := []) S Y (x_X0_fewestReleased (l := l) I hW hT hQ) cw_X0_fewestReleased km11_287 (I.opo (k := 8) (j := 0) (by decide) rfl).choose_spec.1 ok_X0.1 rfl rfl ⟨Nat.le_of_ble_eq_true rfl, Nat.le_of_ble_eq_true rfl⟩ hl.1 rfl (Nat.le_of_ble_eq_true rfl) ⟨Nat.le_of_ble_eq_true rfl, Nat.le_of_ble_eq_true rfl⟩ dX11_leastReleased_4 (fun r_89507 L_89505 f_89506 H locs I Y => ?_)
  exact prI (post := fun r L1 f1 => SH (spC ((NR 30 0 4, fz (pp nL) FI FI FI FI FI FI (pp kF) (pp pF), tz (EQ bT) TA TA TA, sc0) : RS) ((0, 6) : Int × Int) tc w q) nnC G ad L1 f1) S Y rfl (by decide) (by decide) hA1 I dX11_leastReleased_7
set_option maxHeartbeats 4000000 in
set_option maxRecDepth 100000 in
theorem x_X11_forged {l : Launch} {G : GG}  {L : List Nat} {f : HF} {ad : Nat → Nat → Nat} {nL : Int} {bT : Nat → Int32} {kF : Int} {pF : Int} {tc w : Nat → Int × Int} {q : Nat → (Nat → Int32) → Prop} {i1 i2 i3 : Int32} (I : SH (spC ((NR 30 0 4, fz (pp nL) FI FI FI FI FI FI (pp kF) (pp pF), tz (EQ bT) TA TA TA, sc0) : RS) ((0, 6) : Int × Int) tc w q) nnC G ad L f) (hW : WBp w 8) (hT : WBp tc 4) (hQ : QIp q) (hZ : ZZp w q) (hE : ∀ j, (tc j).1 = (tc j).2) : PMi l yX11_forged cX11_forged 4 .int 2 0 0 G [.ref (ad 0 0), .int i1, .int i2, .int i3] L f (fun r L1 f1 => SH (spC ((NR 30 0 4, fz (pp nL) FI FI FI FI FI FI (pp kF) (pp pF), tz (EQ bT) TA TA TA, sc0) : RS) ((0, 6) : Int × Int) tc w q) nnC G ad L1 f1) := by
  refine PMi.of (post := fun r L1 f1 => SH (spC ((NR 30 0 4, fz (pp nL) FI FI FI FI FI FI (pp kF) (pp pF), tz (EQ bT) TA TA TA, sc0) : RS) ((0, 6) : Int × Int) tc w q) nnC G ad L1 f1) (own := RX11) (by decide) rfl (Nat.le_of_ble_eq_true rfl) (fun sz p e s m args below meth c A ls hA1 hname S Y hl => ?_)
  have hx := S.hx
  have hb := S.hb
  have hl : lv_has ls 4 [(0, .ref (ad 0 0)), (1, .int i1), (2, .int i2), (3, .int i3)] := hl
  refine lv_aload_n hx hb dX11_forged_0 rfl (lv_at hl 0 rfl) ?_
  have p_ad_0_0 := opnC_0 (j := 0) I (by decide)
  have p_ad_0_0 : pt L f (ad 0 0) (.inr (11, [.ref (ad 1 0), .ref (ad 1 1), .ref (ad 2 0), .ref (ad 3 0), .ref (ad 4 0), .ref (ad 5 0), .ref (ad 6 0), .ref (ad 7 0), .ref (ad 8 0)])) := p_ad_0_0
  refine pg_get S Y ok_X11 0 (by decide) kf11_13 (v := .ref (ad 1 0)) p_ad_0_0 rfl dX11_forged_1 ?_
  refine lv_iload_n hx hb dX11_forged_4 rfl (lv_at hl 1 rfl) ?_
  refine cVp (As := [.int i1]) (rest := []) S Y (x_X10_has (l := l) I hW hT hQ) cw_X10_has km11_192 (I.opo (k := 1) (j := 0) (by decide) rfl).choose_spec.1 ok_X10.1 rfl rfl ⟨Nat.le_of_ble_eq_true rfl, Nat.le_of_ble_eq_true rfl⟩ hl.1 rfl (Nat.le_of_ble_eq_true rfl) ⟨Nat.le_of_ble_eq_true rfl, Nat.le_of_ble_eq_true rfl⟩ dX11_forged_5 (fun r_89556 H locs er_89556 Y => ?_)
  refine lv_if_eq (tgt := 30) hx hb dX11_forged_8 (by decide) (fun c_89557 => ?_) (fun c_89557 => ?_)
  · have B_89558 : bn 0 0 r_89556 := bn_w (bn_eq c_89557 (show bn 0 0 (0 : Int32) from bn_k (by decide))) (by decide)
    refine lv_sipush (v := (-1000)) hx hb dX11_forged_30 (by decide) ?_
    exact prI (post := fun r L1 f1 => SH (spC ((NR 30 0 4, fz (pp nL) FI FI FI FI FI FI (pp kF) (pp pF), tz (EQ bT) TA TA TA, sc0) : RS) ((0, 6) : Int × Int) tc w q) nnC G ad L1 f1) S Y rfl (by decide) (by decide) hA1 I dX11_forged_33
  · have B_89559 : bn 1 1 r_89556 := bn_w (bn_nel c_89557 er_89556 (show bn 0 0 (0 : Int32) from bn_k (by decide))) (by decide)
    refine lv_iload_n hx hb dX11_forged_11 rfl (lv_at hl 2 rfl) ?_
    refine lv_iconst (v := 0) hx hb dX11_forged_12 (by decide) ?_
    refine lv_iconst (v := 1) hx hb dX11_forged_13 (by decide) ?_
    refine cSp (As := [.int i2, .int 0, .int 1]) (rest := []) S Y (x_X11_within (l := l) ) cw_X11_within km11_146 rfl ⟨Nat.le_of_ble_eq_true rfl, Nat.le_of_ble_eq_true rfl⟩ hl.1 rfl (Nat.le_of_ble_eq_true rfl) ⟨Nat.le_of_ble_eq_true rfl, Nat.le_of_ble_eq_true rfl⟩ dX11_forged_14 (fun r_89560 H locs er_89560 Y => ?_)
    refine lv_if_eq (tgt := 30) hx hb dX11_forged_17 (by decide) (fun c_89561 => ?_) (fun c_89561 => ?_)
    · have B_89562 : bn 0 0 r_89560 := bn_w (bn_eq c_89561 (show bn 0 0 (0 : Int32) from bn_k (by decide))) (by decide)
      refine lv_sipush (v := (-1000)) hx hb dX11_forged_30 (by decide) ?_
      exact prI (post := fun r L1 f1 => SH (spC ((NR 30 0 4, fz (pp nL) FI FI FI FI FI FI (pp kF) (pp pF), tz (EQ bT) TA TA TA, sc0) : RS) ((0, 6) : Int × Int) tc w q) nnC G ad L1 f1) S Y rfl (by decide) (by decide) hA1 I dX11_forged_33
    · have B_89563 : bn 1 1 r_89560 := bn_w (bn_nel c_89561 er_89560 (show bn 0 0 (0 : Int32) from bn_k (by decide))) (by decide)
      refine lv_iload_n hx hb dX11_forged_20 rfl (lv_at hl 3 rfl) ?_
      refine lv_iconst (v := 0) hx hb dX11_forged_21 (by decide) ?_
      refine lv_bipush (v := 99) hx hb dX11_forged_22 (by decide) ?_
      refine cSp (As := [.int i3, .int 0, .int 99]) (rest := []) S Y (x_X11_within (l := l) ) cw_X11_within km11_146 rfl ⟨Nat.le_of_ble_eq_true rfl, Nat.le_of_ble_eq_true rfl⟩ hl.1 rfl (Nat.le_of_ble_eq_true rfl) ⟨Nat.le_of_ble_eq_true rfl, Nat.le_of_ble_eq_true rfl⟩ dX11_forged_24 (fun r_89564 H locs er_89564 Y => ?_)
      refine lv_if_ne (tgt := 34) hx hb dX11_forged_27 (by decide) (fun c_89565 => ?_) (fun c_89565 => ?_)
      · have B_89566 : bn 1 1 r_89564 := bn_w (bn_nel c_89565 er_89564 (show bn 0 0 (0 : Int32) from bn_k (by decide))) (by decide)
        refine lv_iload_n hx hb dX11_forged_34 rfl (lv_at hl 3 rfl) ?_
        refine lv_aload_n hx hb dX11_forged_35 rfl (lv_at hl 0 rfl) ?_
        refine pg_get S Y ok_X11 0 (by decide) kf11_13 (v := .ref (ad 1 0)) p_ad_0_0 rfl dX11_forged_36 ?_
        obtain ⟨v_89568, v_89570, v_89572, v_89574, v_89576, p_ad_1_0, b_89569, b_89571, b_89573, b_89575, b_89577⟩ := opnC_1 (j := 0) I (by decide)
        have p_ad_1_0 : pt L f (ad 1 0) (.inr (10, [.ref (ad 40 0), .ref (ad 41 0), .ref (ad 42 0), .ref (ad 10 0), .ref (ad 43 0), .ref (ad 20 0), .ref (ad 20 1), .ref (ad 20 2), .ref (ad 20 3), .ref (ad 20 4), .int v_89568, .int v_89570, .int v_89572, .int v_89574, .int v_89576])) := p_ad_1_0
        refine pg_getN S Y ok_X10 3 (by decide) kf11_131 (v := .ref (ad 10 0)) p_ad_1_0 rfl dX11_forged_39 ?_
        refine lv_iload_n hx hb dX11_forged_42 rfl (lv_at hl 1 rfl) ?_
        refine lv_iload_n hx hb dX11_forged_43 rfl (lv_at hl 2 rfl) ?_
        refine cVp (As := [.int i1, .int i2]) (rest := [.int i3]) S Y (x_X4_marksOnKnee (l := l) (j := 0) I hW hT hQ (by decide)) cw_X4_marksOnKnee km11_290 (I.opo (k := 10) (j := 0) (by decide) rfl).choose_spec.1 ok_X4.1 rfl rfl ⟨Nat.le_of_ble_eq_true rfl, Nat.le_of_ble_eq_true rfl⟩ hl.1 rfl (Nat.le_of_ble_eq_true rfl) ⟨Nat.le_of_ble_eq_true rfl, Nat.le_of_ble_eq_true rfl⟩ dX11_forged_44 (fun r_89578 H locs er_89578 Y => ?_)
        refine lv_isub hx hb dX11_forged_47 ?_
        refine lv_topi (fun x_89579 ex_89579 => ?_)
        exact prI (post := fun r L1 f1 => SH (spC ((NR 30 0 4, fz (pp nL) FI FI FI FI FI FI (pp kF) (pp pF), tz (EQ bT) TA TA TA, sc0) : RS) ((0, 6) : Int × Int) tc w q) nnC G ad L1 f1) S Y rfl (by decide) (by decide) hA1 I dX11_forged_48
      · have B_89567 : bn 0 0 r_89564 := bn_w (bn_eq c_89565 (show bn 0 0 (0 : Int32) from bn_k (by decide))) (by decide)
        refine lv_sipush (v := (-1000)) hx hb dX11_forged_30 (by decide) ?_
        exact prI (post := fun r L1 f1 => SH (spC ((NR 30 0 4, fz (pp nL) FI FI FI FI FI FI (pp kF) (pp pF), tz (EQ bT) TA TA TA, sc0) : RS) ((0, 6) : Int × Int) tc w q) nnC G ad L1 f1) S Y rfl (by decide) (by decide) hA1 I dX11_forged_33
set_option maxHeartbeats 4000000 in
set_option maxRecDepth 100000 in
theorem x_X11_inTime {l : Launch} {G : GG}  {L : List Nat} {f : HF} {ad : Nat → Nat → Nat} {nL : Int} {bT : Nat → Int32} {kF : Int} {pF : Int} {tc w : Nat → Int × Int} {q : Nat → (Nat → Int32) → Prop} {i1 : Int32} (I : SH (spC ((NR 30 0 4, fz (pp nL) FI FI FI FI FI FI (pp kF) (pp pF), tz (EQ bT) TA TA TA, sc0) : RS) ((0, 6) : Int × Int) tc w q) nnC G ad L f) (hW : WBp w 8) (hT : WBp tc 4) (hQ : QIp q) (hZ : ZZp w q) (hE : ∀ j, (tc j).1 = (tc j).2) : PMi l yX11_inTime cX11_inTime 3 .int 4 0 0 G [.ref (ad 0 0), .int i1] L f (fun r L1 f1 => SH (spC ((NR 30 0 4, fz (pp nL) FI FI FI FI FI FI (pp kF) (pp pF), tz (EQ bT) TA TA TA, sc0) : RS) ((0, 6) : Int × Int) tc w q) nnC G ad L1 f1) := by
  refine PMi.of (post := fun r L1 f1 => SH (spC ((NR 30 0 4, fz (pp nL) FI FI FI FI FI FI (pp kF) (pp pF), tz (EQ bT) TA TA TA, sc0) : RS) ((0, 6) : Int × Int) tc w q) nnC G ad L1 f1) (own := RX11) (by decide) rfl (Nat.le_of_ble_eq_true rfl) (fun sz p e s m args below meth c A ls hA1 hname S Y hl => ?_)
  have hx := S.hx
  have hb := S.hb
  have hl : lv_has ls 3 [(0, .ref (ad 0 0)), (1, .int i1)] := hl
  refine lv_iload_n hx hb dX11_inTime_0 rfl (lv_at hl 1 rfl) ?_
  refine lv_iconst (v := 0) hx hb dX11_inTime_1 (by decide) ?_
  refine lv_iconst (v := 2) hx hb dX11_inTime_2 (by decide) ?_
  refine cSp (As := [.int i1, .int 0, .int 2]) (rest := []) S Y (x_X11_within (l := l) ) cw_X11_within km11_146 rfl ⟨Nat.le_of_ble_eq_true rfl, Nat.le_of_ble_eq_true rfl⟩ hl.1 rfl (Nat.le_of_ble_eq_true rfl) ⟨Nat.le_of_ble_eq_true rfl, Nat.le_of_ble_eq_true rfl⟩ dX11_inTime_3 (fun r_89602 H locs er_89602 Y => ?_)
  refine lv_if_ne (tgt := 11) hx hb dX11_inTime_6 (by decide) (fun c_89603 => ?_) (fun c_89603 => ?_)
  · have B_89604 : bn 1 1 r_89602 := bn_w (bn_nel c_89603 er_89602 (show bn 0 0 (0 : Int32) from bn_k (by decide))) (by decide)
    refine lv_aload_n hx hb dX11_inTime_11 rfl (lv_at hl 0 rfl) ?_
    have p_ad_0_0 := opnC_0 (j := 0) I (by decide)
    have p_ad_0_0 : pt L f (ad 0 0) (.inr (11, [.ref (ad 1 0), .ref (ad 1 1), .ref (ad 2 0), .ref (ad 3 0), .ref (ad 4 0), .ref (ad 5 0), .ref (ad 6 0), .ref (ad 7 0), .ref (ad 8 0)])) := p_ad_0_0
    refine pg_get S Y ok_X11 8 (by decide) kf11_75 (v := .ref (ad 8 0)) p_ad_0_0 rfl dX11_inTime_12 ?_
    refine cVp (As := []) (rest := []) S Y (x_X0_mostInTime (l := l) I hW hT hQ) cw_X0_mostInTime km11_296 (I.opo (k := 8) (j := 0) (by decide) rfl).choose_spec.1 ok_X0.1 rfl rfl ⟨Nat.le_of_ble_eq_true rfl, Nat.le_of_ble_eq_true rfl⟩ hl.1 rfl (Nat.le_of_ble_eq_true rfl) ⟨Nat.le_of_ble_eq_true rfl, Nat.le_of_ble_eq_true rfl⟩ dX11_inTime_15 (fun r_89606 H locs er_89606 Y => ?_)
    refine lv_istore_n (lv' := [(2, .int r_89606), (0, .ref (ad 0 0)), (1, .int i1)]) hx hb dX11_inTime_18 rfl hl (by decide) rfl (fun ls hl => ?_)
    refine lv_iload_n hx hb dX11_inTime_19 rfl (lv_at hl 2 rfl) ?_
    refine lv_if_ne (tgt := 28) hx hb dX11_inTime_20 (by decide) (fun c_89607 => ?_) (fun c_89607 => ?_)
    · refine lv_iload_n hx hb dX11_inTime_28 rfl (lv_at hl 2 rfl) ?_
      refine lv_iconst (v := 1) hx hb dX11_inTime_29 (by decide) ?_
      refine lv_icmp_ne (tgt := 37) hx hb dX11_inTime_30 (by decide) (fun c_89609 => ?_) (fun c_89609 => ?_)
      · refine lv_aload_n hx hb dX11_inTime_37 rfl (lv_at hl 1 rfl) ?_
        refine pg_get S Y ok_X11 8 (by decide) kf11_75 (v := .ref (ad 8 0)) p_ad_0_0 rfl dX11_inTime_38 ?_
        refine lv_iload_n hx hb dX11_inTime_41 rfl (lv_at hl 0 rfl) ?_
        refine lv_sipush (v := 999) hx hb dX11_inTime_42 (by decide) ?_
        refine cVp (As := [.int r_89606, .int 999]) (rest := []) S Y (x_X0_workOf (l := l) I hW hT hQ) cw_X0_workOf km11_304 (I.opo (k := 8) (j := 0) (by decide) rfl).choose_spec.1 ok_X0.1 rfl rfl ⟨Nat.le_of_ble_eq_true rfl, Nat.le_of_ble_eq_true rfl⟩ hl.1 rfl (Nat.le_of_ble_eq_true rfl) ⟨Nat.le_of_ble_eq_true rfl, Nat.le_of_ble_eq_true rfl⟩ dX11_inTime_45 (fun r_89611 H locs er_89611 Y => ?_)
        exact prI (post := fun r L1 f1 => SH (spC ((NR 30 0 4, fz (pp nL) FI FI FI FI FI FI (pp kF) (pp pF), tz (EQ bT) TA TA TA, sc0) : RS) ((0, 6) : Int × Int) tc w q) nnC G ad L1 f1) S Y rfl (by decide) (by decide) hA1 I dX11_inTime_48
      · have B_89610 : bn 1 1 i1 := bn_w (bn_eq c_89609 (show bn 1 1 (1 : Int32) from bn_k (by decide))) (by decide)
        refine lv_iload_n hx hb dX11_inTime_33 rfl (lv_at hl 0 rfl) ?_
        refine lv_goto (tgt := 48) hx hb dX11_inTime_34 (by decide) ?_
        exact prI (post := fun r L1 f1 => SH (spC ((NR 30 0 4, fz (pp nL) FI FI FI FI FI FI (pp kF) (pp pF), tz (EQ bT) TA TA TA, sc0) : RS) ((0, 6) : Int × Int) tc w q) nnC G ad L1 f1) S Y rfl (by decide) (by decide) hA1 I dX11_inTime_48
    · have B_89608 : bn 0 0 i1 := bn_w (bn_eq c_89607 (show bn 0 0 (0 : Int32) from bn_k (by decide))) (by decide)
      refine lv_iload_n hx hb dX11_inTime_23 rfl (lv_at hl 0 rfl) ?_
      refine cSp (As := [.int r_89606]) (rest := []) S Y (x_bitCount (l := l) ) cw_X106_bitCount_0f7a4 km11_299 rfl ⟨Nat.le_of_ble_eq_true rfl, Nat.le_of_ble_eq_true rfl⟩ hl.1 rfl (Nat.le_of_ble_eq_true rfl) ⟨Nat.le_of_ble_eq_true rfl, Nat.le_of_ble_eq_true rfl⟩ dX11_inTime_24 (fun r_89612 H locs er_89612 Y => ?_)
      exact prI (post := fun r L1 f1 => SH (spC ((NR 30 0 4, fz (pp nL) FI FI FI FI FI FI (pp kF) (pp pF), tz (EQ bT) TA TA TA, sc0) : RS) ((0, 6) : Int × Int) tc w q) nnC G ad L1 f1) S Y rfl (by decide) (by decide) hA1 I dX11_inTime_27
  · have B_89605 : bn 0 0 r_89602 := bn_w (bn_eq c_89603 (show bn 0 0 (0 : Int32) from bn_k (by decide))) (by decide)
    refine lv_iconst (v := (-1)) hx hb dX11_inTime_9 (by decide) ?_
    exact prI (post := fun r L1 f1 => SH (spC ((NR 30 0 4, fz (pp nL) FI FI FI FI FI FI (pp kF) (pp pF), tz (EQ bT) TA TA TA, sc0) : RS) ((0, 6) : Int × Int) tc w q) nnC G ad L1 f1) S Y rfl (by decide) (by decide) hA1 I dX11_inTime_10
set_option maxHeartbeats 4000000 in
set_option maxRecDepth 100000 in
theorem x_X11_whom {l : Launch} {G : GG}  {L : List Nat} {f : HF} {ad : Nat → Nat → Nat} {nL : Int} {bT : Nat → Int32} {kF : Int} {pF : Int} {tc w : Nat → Int × Int} {q : Nat → (Nat → Int32) → Prop} {i1 : Int32} (I : SH (spC ((NR 30 0 4, fz (pp nL) FI FI FI FI FI FI (pp kF) (pp pF), tz (EQ bT) TA TA TA, sc0) : RS) ((0, 6) : Int × Int) tc w q) nnC G ad L f) (hW : WBp w 8) (hT : WBp tc 4) (hQ : QIp q) (hZ : ZZp w q) (hE : ∀ j, (tc j).1 = (tc j).2) : PMi l yX11_whom cX11_whom 6 .int 4 0 0 G [.ref (ad 0 0), .int i1] L f (fun r L1 f1 => SH (spC ((NR 30 0 4, fz (pp nL) FI FI FI FI FI FI (pp kF) (pp pF), tz (EQ bT) TA TA TA, sc0) : RS) ((0, 6) : Int × Int) tc w q) nnC G ad L1 f1) := by
  refine PMi.of (post := fun r L1 f1 => SH (spC ((NR 30 0 4, fz (pp nL) FI FI FI FI FI FI (pp kF) (pp pF), tz (EQ bT) TA TA TA, sc0) : RS) ((0, 6) : Int × Int) tc w q) nnC G ad L1 f1) (own := RX11) (by decide) rfl (Nat.le_of_ble_eq_true rfl) (fun sz p e s m args below meth c A ls hA1 hname S Y hl => ?_)
  have hx := S.hx
  have hb := S.hb
  have hl : lv_has ls 6 [(0, .ref (ad 0 0)), (1, .int i1)] := hl
  have J_20 : ∀ (n20 : Nat) (y20_2 y20_3 y20_4 : Int32) (L_20 : List Nat) (f_20 : HF) (H : Heap) (locs : List Loc) (ls : Array Slot), (SH (spC ((NR 30 0 4, fz (pp nL) FI FI FI FI FI FI (pp kF) (pp pF), tz (EQ bT) TA TA TA, sc0) : RS) ((0, 6) : Int × Int) tc w q) nnC G ad L_20 f_20) → (bn (-1) 5 y20_2) → (bn 0 6 y20_4) → (((6 : Int) - y20_4.toInt).toNat = n20) → (DY G A s [] L_20 f_20 H locs) → (lv_has ls 6 [(0, .ref (ad 0 0)), (1, .int i1), (2, .int y20_2), (3, .int y20_3), (4, .int y20_4)]) → W p l e (rmD 4 0 0) s m args below meth c H locs (0) (0) (MQ below (va_Qi (fun r (u : List Nat × HF) => (fun r L1 f1 => SH (spC ((NR 30 0 4, fz (pp nL) FI FI FI FI FI FI (pp kF) (pp pF), tz (EQ bT) TA TA TA, sc0) : RS) ((0, 6) : Int × Int) tc w q) nnC G ad L1 f1) r u.1 u.2) (fun u t => pOut G (va_A (va_pl L f) sz) u.1 u.2 t) (va_A (va_pl L f) sz)) args s 0 0 A) (F0 m 20 ls []) := by
    intro n20
    induction n20 using Nat.strongRecOn with
    | _ n20 ih20 =>
      intro y20_2 y20_3 y20_4 L_20 f_20 H locs ls I b_y20_2 b_y20_4 hm20 Y hl
      refine lv_iload hx hb dX11_whom_20 (lv_at hl 4 rfl) ?_
      refine lv_aload_n hx hb dX11_whom_22 rfl (lv_at hl 0 rfl) ?_
      have p_ad_0_0 := opnC_0 (j := 0) I (by decide)
      have p_ad_0_0 : pt L_20 f_20 (ad 0 0) (.inr (11, [.ref (ad 1 0), .ref (ad 1 1), .ref (ad 2 0), .ref (ad 3 0), .ref (ad 4 0), .ref (ad 5 0), .ref (ad 6 0), .ref (ad 7 0), .ref (ad 8 0)])) := p_ad_0_0
      refine pg_get S Y ok_X11 0 (by decide) kf11_13 (v := .ref (ad 1 0)) p_ad_0_0 rfl dX11_whom_23 ?_
      obtain ⟨v_89836, v_89838, v_89840, v_89842, v_89844, p_ad_1_0, b_89837, b_89839, b_89841, b_89843, b_89845⟩ := opnC_1 (j := 0) I (by decide)
      have p_ad_1_0 : pt L_20 f_20 (ad 1 0) (.inr (10, [.ref (ad 40 0), .ref (ad 41 0), .ref (ad 42 0), .ref (ad 10 0), .ref (ad 43 0), .ref (ad 20 0), .ref (ad 20 1), .ref (ad 20 2), .ref (ad 20 3), .ref (ad 20 4), .int v_89836, .int v_89838, .int v_89840, .int v_89842, .int v_89844])) := p_ad_1_0
      refine pg_getN S Y ok_X10 10 (by decide) kf11_174 (v := .int v_89836) p_ad_1_0 rfl dX11_whom_26 ?_
      refine lv_icmp_ge (tgt := 89) hx hb dX11_whom_29 (by decide) (fun c_89846 => ?_) (fun c_89846 => ?_)
      · refine lv_iload_n hx hb dX11_whom_89 rfl (lv_at hl 2 rfl) ?_
        exact prI (post := fun r L1 f1 => SH (spC ((NR 30 0 4, fz (pp nL) FI FI FI FI FI FI (pp kF) (pp pF), tz (EQ bT) TA TA TA, sc0) : RS) ((0, 6) : Int × Int) tc w q) nnC G ad L1 f1) S Y rfl (by decide) (by decide) hA1 I dX11_whom_90
      · have B_89847 : bn 1 6 v_89836 := bn_w (bn_gtl c_89846 b_89837 b_y20_4) (by decide)
        have B_89848 : bn 0 5 y20_4 := bn_w (bn_gtr c_89846 b_89837 b_y20_4) (by decide)
        refine lv_iload hx hb dX11_whom_32 (lv_at hl 4 rfl) ?_
        refine lv_iload_n hx hb dX11_whom_34 rfl (lv_at hl 1 rfl) ?_
        refine lv_icmp_ne (tgt := 42) hx hb dX11_whom_35 (by decide) (fun c_89849 => ?_) (fun c_89849 => ?_)
        · refine lv_aload_n hx hb dX11_whom_42 rfl (lv_at hl 0 rfl) ?_
          refine pg_get S Y ok_X11 3 (by decide) kf11_34 (v := .ref (ad 3 0)) p_ad_0_0 rfl dX11_whom_43 ?_
          refine lv_aload_n hx hb dX11_whom_46 rfl (lv_at hl 0 rfl) ?_
          refine pg_get S Y ok_X11 0 (by decide) kf11_13 (v := .ref (ad 1 0)) p_ad_0_0 rfl dX11_whom_47 ?_
          refine pg_getN S Y ok_X10 3 (by decide) kf11_131 (v := .ref (ad 10 0)) p_ad_1_0 rfl dX11_whom_50 ?_
          refine lv_iload hx hb dX11_whom_53 (lv_at hl 4 rfl) ?_
          refine cVi (As := [.ref (ad 10 0), .int y20_4]) (rest := []) S Y (x_X3_riskOf (l := l) (j := 0) I hW hT hQ (by decide)) cw_X3_riskOf km11_205 (I.opo (k := 3) (j := 0) (by decide) rfl).choose_spec.1 ok_X3.1 rfl rfl ⟨Nat.le_of_ble_eq_true rfl, Nat.le_of_ble_eq_true rfl⟩ hl.1 rfl (Nat.le_of_ble_eq_true rfl) ⟨Nat.le_of_ble_eq_true rfl, Nat.le_of_ble_eq_true rfl⟩ dX11_whom_55 (fun r_89852 L_89850 f_89851 H locs I Y => ?_)
          refine lv_istore (lv' := [(5, .int r_89852), (0, .ref (ad 0 0)), (1, .int i1), (2, .int y20_2), (3, .int y20_3), (4, .int y20_4)]) hx hb dX11_whom_58 hl (by decide) rfl (fun ls hl => ?_)
          refine lv_iload hx hb dX11_whom_60 (lv_at hl 5 rfl) ?_
          refine lv_iload_n hx hb dX11_whom_62 rfl (lv_at hl 2 rfl) ?_
          refine lv_icmp_eq (tgt := 83) hx hb dX11_whom_63 (by decide) (fun h => absurd h c_89849) (fun _ => ?_)
          refine lv_iload_n hx hb dX11_whom_66 rfl (lv_at hl 3 rfl) ?_
          refine lv_iconst (v := (-1)) hx hb dX11_whom_67 (by decide) ?_
          refine lv_icmp_eq (tgt := 77) hx hb dX11_whom_68 (by decide) (fun c_89853 => ?_) (fun c_89853 => ?_)
          · have B_89854 : bn (-1) (-1) y20_2 := bn_w (bn_eq c_89853 (show bn (-1) (-1) ((-1) : Int32) from bn_k (by decide))) (by decide)
            refine lv_iload hx hb dX11_whom_77 (lv_at hl 5 rfl) ?_
            refine lv_istore_n (lv' := [(2, .int y20_4), (5, .int r_89852), (0, .ref (ad 0 0)), (1, .int i1), (3, .int y20_3), (4, .int y20_4)]) hx hb dX11_whom_79 rfl hl (by decide) rfl (fun ls hl => ?_)
            refine lv_iload hx hb dX11_whom_80 (lv_at hl 1 rfl) ?_
            refine lv_istore_n (lv' := [(3, .int r_89852), (2, .int y20_4), (5, .int r_89852), (0, .ref (ad 0 0)), (1, .int i1), (4, .int y20_4)]) hx hb dX11_whom_82 rfl hl (by decide) rfl (fun ls hl => ?_)
            obtain ⟨x_89856, ex_89856⟩ : ∃ z : Int32, z = y20_4 + 1 := ⟨_, rfl⟩
            refine lv_iinc (v := x_89856) (lv' := [(4, .int x_89856), (3, .int r_89852), (2, .int y20_4), (5, .int r_89852), (0, .ref (ad 0 0)), (1, .int i1)]) hx hb dX11_whom_83 hl (k := 5) rfl (by rw [ex_89856]; rfl) (by decide) rfl (fun ls hl => ?_)
            refine lv_goto (tgt := 20) hx hb dX11_whom_86 (by decide) ?_
            exact ih20 _ (by rw [← hm20]; exact ms_up (m := 1) ex_89856 (show bn 1 1 (1 : Int32) from bn_k (by decide)) B_89848 (bn_w (bn_eq ex_89856 (bn_add B_89848 (show bn 1 1 (1 : Int32) from bn_k (by decide)) (by decide))) (by decide) : bn 0 6 x_89856) (by decide)) y20_4 r_89852 x_89856 _ _  _ _ _ I (bn_w B_89848 (by decide)) (bn_w (bn_eq ex_89856 (bn_add B_89848 (show bn 1 1 (1 : Int32) from bn_k (by decide)) (by decide))) (by decide)) rfl Y (lv_sub hl [4, 5, 2, 1, 0] rfl)
          · have B_89855 : bn 0 5 y20_2 := bn_w (bn_nel c_89853 b_y20_2 (show bn (-1) (-1) ((-1) : Int32) from bn_k (by decide))) (by decide)
            refine lv_iload hx hb dX11_whom_71 (lv_at hl 0 rfl) ?_
            refine lv_iload_n hx hb dX11_whom_73 rfl (lv_at hl 4 rfl) ?_
            refine lv_icmp_ge (tgt := 83) hx hb dX11_whom_74 (by decide) (fun c_89857 => ?_) (fun c_89857 => ?_)
            · obtain ⟨x_89860, ex_89860⟩ : ∃ z : Int32, z = y20_4 + 1 := ⟨_, rfl⟩
              refine lv_iinc (v := x_89860) (lv' := [(4, .int x_89860), (5, .int r_89852), (0, .ref (ad 0 0)), (1, .int i1), (2, .int y20_2), (3, .int y20_3)]) hx hb dX11_whom_83 hl (k := 5) rfl (by rw [ex_89860]; rfl) (by decide) rfl (fun ls hl => ?_)
              refine lv_goto (tgt := 20) hx hb dX11_whom_86 (by decide) ?_
              exact ih20 _ (by rw [← hm20]; exact ms_up (m := 1) ex_89860 (show bn 1 1 (1 : Int32) from bn_k (by decide)) B_89848 (bn_w (bn_eq ex_89860 (bn_add B_89848 (show bn 1 1 (1 : Int32) from bn_k (by decide)) (by decide))) (by decide) : bn 0 6 x_89860) (by decide)) y20_2 y20_3 x_89860 _ _  _ _ _ I (bn_w B_89855 (by decide)) (bn_w (bn_eq ex_89860 (bn_add B_89848 (show bn 1 1 (1 : Int32) from bn_k (by decide)) (by decide))) (by decide)) rfl Y (lv_sub hl [2, 3, 4, 5, 0] rfl)
            · have B_89858 : bn (-2147483647) 2147483647 y20_3 := bn_w (bn_gtl c_89857 (bn_any y20_3) (bn_any r_89852)) (by decide)
              have B_89859 : bn (-2147483648) 2147483646 r_89852 := bn_w (bn_gtr c_89857 (bn_any y20_3) (bn_any r_89852)) (by decide)
              refine lv_iload hx hb dX11_whom_77 (lv_at hl 5 rfl) ?_
              refine lv_istore_n (lv' := [(2, .int y20_4), (5, .int r_89852), (0, .ref (ad 0 0)), (1, .int i1), (3, .int y20_3), (4, .int y20_4)]) hx hb dX11_whom_79 rfl hl (by decide) rfl (fun ls hl => ?_)
              refine lv_iload hx hb dX11_whom_80 (lv_at hl 1 rfl) ?_
              refine lv_istore_n (lv' := [(3, .int r_89852), (2, .int y20_4), (5, .int r_89852), (0, .ref (ad 0 0)), (1, .int i1), (4, .int y20_4)]) hx hb dX11_whom_82 rfl hl (by decide) rfl (fun ls hl => ?_)
              obtain ⟨x_89861, ex_89861⟩ : ∃ z : Int32, z = y20_4 + 1 := ⟨_, rfl⟩
              refine lv_iinc (v := x_89861) (lv' := [(4, .int x_89861), (3, .int r_89852), (2, .int y20_4), (5, .int r_89852), (0, .ref (ad 0 0)), (1, .int i1)]) hx hb dX11_whom_83 hl (k := 5) rfl (by rw [ex_89861]; rfl) (by decide) rfl (fun ls hl => ?_)
              refine lv_goto (tgt := 20) hx hb dX11_whom_86 (by decide) ?_
              exact ih20 _ (by rw [← hm20]; exact ms_up (m := 1) ex_89861 (show bn 1 1 (1 : Int32) from bn_k (by decide)) B_89848 (bn_w (bn_eq ex_89861 (bn_add B_89848 (show bn 1 1 (1 : Int32) from bn_k (by decide)) (by decide))) (by decide) : bn 0 6 x_89861) (by decide)) y20_4 r_89852 x_89861 _ _  _ _ _ I (bn_w B_89848 (by decide)) (bn_w (bn_eq ex_89861 (bn_add B_89848 (show bn 1 1 (1 : Int32) from bn_k (by decide)) (by decide))) (by decide)) rfl Y (lv_sub hl [4, 5, 2, 1, 0] rfl)
        · refine lv_iconst (v := 0) hx hb dX11_whom_38 (by decide) ?_
          refine lv_goto (tgt := 58) hx hb dX11_whom_39 (by decide) ?_
          refine lv_istore (lv' := [(5, .int 0), (0, .ref (ad 0 0)), (1, .int i1), (2, .int y20_2), (3, .int y20_3), (4, .int y20_4)]) hx hb dX11_whom_58 hl (by decide) rfl (fun ls hl => ?_)
          refine lv_iload hx hb dX11_whom_60 (lv_at hl 5 rfl) ?_
          refine lv_iload_n hx hb dX11_whom_62 rfl (lv_at hl 2 rfl) ?_
          refine lv_icmp_eq (tgt := 83) hx hb dX11_whom_63 (by decide) (fun _ => ?_) (fun h => absurd c_89849 h)
          obtain ⟨x_89862, ex_89862⟩ : ∃ z : Int32, z = y20_4 + 1 := ⟨_, rfl⟩
          refine lv_iinc (v := x_89862) (lv' := [(4, .int x_89862), (5, .int 0), (0, .ref (ad 0 0)), (1, .int i1), (2, .int y20_2), (3, .int y20_3)]) hx hb dX11_whom_83 hl (k := 5) rfl (by rw [ex_89862]; rfl) (by decide) rfl (fun ls hl => ?_)
          refine lv_goto (tgt := 20) hx hb dX11_whom_86 (by decide) ?_
          exact ih20 _ (by rw [← hm20]; exact ms_up (m := 1) ex_89862 (show bn 1 1 (1 : Int32) from bn_k (by decide)) B_89848 (bn_w (bn_eq ex_89862 (bn_add B_89848 (show bn 1 1 (1 : Int32) from bn_k (by decide)) (by decide))) (by decide) : bn 0 6 x_89862) (by decide)) y20_2 y20_3 x_89862 _ _  _ _ _ I (bn_w b_y20_2 (by decide)) (bn_w (bn_eq ex_89862 (bn_add B_89848 (show bn 1 1 (1 : Int32) from bn_k (by decide)) (by decide))) (by decide)) rfl Y (lv_sub hl [2, 3, 4, 5, 0] rfl)
  refine lv_aload_n hx hb dX11_whom_0 rfl (lv_at hl 0 rfl) ?_
  have p_ad_0_0 := opnC_0 (j := 0) I (by decide)
  have p_ad_0_0 : pt L f (ad 0 0) (.inr (11, [.ref (ad 1 0), .ref (ad 1 1), .ref (ad 2 0), .ref (ad 3 0), .ref (ad 4 0), .ref (ad 5 0), .ref (ad 6 0), .ref (ad 7 0), .ref (ad 8 0)])) := p_ad_0_0
  refine pg_get S Y ok_X11 0 (by decide) kf11_13 (v := .ref (ad 1 0)) p_ad_0_0 rfl dX11_whom_1 ?_
  refine lv_iload_n hx hb dX11_whom_4 rfl (lv_at hl 1 rfl) ?_
  refine cVp (As := [.int i1]) (rest := []) S Y (x_X10_has (l := l) I hW hT hQ) cw_X10_has km11_192 (I.opo (k := 1) (j := 0) (by decide) rfl).choose_spec.1 ok_X10.1 rfl rfl ⟨Nat.le_of_ble_eq_true rfl, Nat.le_of_ble_eq_true rfl⟩ hl.1 rfl (Nat.le_of_ble_eq_true rfl) ⟨Nat.le_of_ble_eq_true rfl, Nat.le_of_ble_eq_true rfl⟩ dX11_whom_5 (fun r_89863 H locs er_89863 Y => ?_)
  refine lv_if_ne (tgt := 13) hx hb dX11_whom_8 (by decide) (fun c_89864 => ?_) (fun c_89864 => ?_)
  · have B_89865 : bn 1 1 r_89863 := bn_w (bn_nel c_89864 er_89863 (show bn 0 0 (0 : Int32) from bn_k (by decide))) (by decide)
    refine lv_iconst (v := (-1)) hx hb dX11_whom_13 (by decide) ?_
    refine lv_istore_n (lv' := [(2, .int (-1)), (0, .ref (ad 0 0)), (1, .int i1)]) hx hb dX11_whom_14 rfl hl (by decide) rfl (fun ls hl => ?_)
    refine lv_iconst (v := 0) hx hb dX11_whom_15 (by decide) ?_
    refine lv_istore_n (lv' := [(3, .int 0), (2, .int (-1)), (0, .ref (ad 0 0)), (1, .int i1)]) hx hb dX11_whom_16 rfl hl (by decide) rfl (fun ls hl => ?_)
    refine lv_iconst (v := 0) hx hb dX11_whom_17 (by decide) ?_
    refine lv_istore (lv' := [(4, .int 0), (3, .int 0), (2, .int (-1)), (0, .ref (ad 0 0)), (1, .int i1)]) hx hb dX11_whom_18 hl (by decide) rfl (fun ls hl => ?_)
    exact J_20 _ (-1) 0 0 _ _  _ _ _ I (bn_w (show bn (-1) (-1) ((-1) : Int32) from bn_k (by decide)) (by decide)) (bn_w (show bn 0 0 (0 : Int32) from bn_k (by decide)) (by decide)) rfl Y (lv_sub hl [3, 4, 2, 1, 0] rfl)
  · have B_89866 : bn 0 0 r_89863 := bn_w (bn_eq c_89864 (show bn 0 0 (0 : Int32) from bn_k (by decide))) (by decide)
    refine lv_iconst (v := (-1)) hx hb dX11_whom_11 (by decide) ?_
    exact prI (post := fun r L1 f1 => SH (spC ((NR 30 0 4, fz (pp nL) FI FI FI FI FI FI (pp kF) (pp pF), tz (EQ bT) TA TA TA, sc0) : RS) ((0, 6) : Int × Int) tc w q) nnC G ad L1 f1) S Y rfl (by decide) (by decide) hA1 I dX11_whom_12
set_option maxHeartbeats 4000000 in
set_option maxRecDepth 100000 in
theorem x_X11_ring {l : Launch} {G : GG}  {L : List Nat} {f : HF} {ad : Nat → Nat → Nat} {nL : Int} {bT : Nat → Int32} {kF : Int} {pF : Int} {tc w : Nat → Int × Int} {q : Nat → (Nat → Int32) → Prop} (I : SH (spC ((NR 30 0 4, fz (pp nL) FI FI FI FI FI FI (pp kF) (pp pF), tz (EQ bT) TA TA TA, sc0) : RS) ((0, 6) : Int × Int) tc w q) nnC G ad L f) (hW : WBp w 8) (hT : WBp tc 4) (hQ : QIp q) (hZ : ZZp w q) (hE : ∀ j, (tc j).1 = (tc j).2) : PMi l yX11_ring cX11_ring 1 .int 16 0 0 G [.ref (ad 0 0)] L f (fun r L1 f1 => SH (spC ((NR 30 0 4, fz (pp nL) FI FI FI FI FI FI (pp kF) (pp pF), tz (EQ bT) TA TA TA, sc0) : RS) ((0, 6) : Int × Int) tc w q) nnC G ad L1 f1) := by
  refine PMi.of (post := fun r L1 f1 => SH (spC ((NR 30 0 4, fz (pp nL) FI FI FI FI FI FI (pp kF) (pp pF), tz (EQ bT) TA TA TA, sc0) : RS) ((0, 6) : Int × Int) tc w q) nnC G ad L1 f1) (own := RX11) (by decide) rfl (Nat.le_of_ble_eq_true rfl) (fun sz p e s m args below meth c A ls hA1 hname S Y hl => ?_)
  have hx := S.hx
  have hb := S.hb
  have hl : lv_has ls 1 [(0, .ref (ad 0 0))] := hl
  refine lv_aload_n hx hb dX11_ring_0 rfl (lv_at hl 0 rfl) ?_
  have p_ad_0_0 := opnC_0 (j := 0) I (by decide)
  have p_ad_0_0 : pt L f (ad 0 0) (.inr (11, [.ref (ad 1 0), .ref (ad 1 1), .ref (ad 2 0), .ref (ad 3 0), .ref (ad 4 0), .ref (ad 5 0), .ref (ad 6 0), .ref (ad 7 0), .ref (ad 8 0)])) := p_ad_0_0
  refine pg_get S Y ok_X11 4 (by decide) kf11_41 (v := .ref (ad 4 0)) p_ad_0_0 rfl dX11_ring_1 ?_
  refine cVi (As := []) (rest := []) S Y (x_X6_shortest (l := l) I hW hT hQ) cw_X6_shortest km11_307 (I.opo (k := 4) (j := 0) (by decide) rfl).choose_spec.1 ok_X6.1 rfl rfl ⟨Nat.le_of_ble_eq_true rfl, Nat.le_of_ble_eq_true rfl⟩ hl.1 rfl (Nat.le_of_ble_eq_true rfl) ⟨Nat.le_of_ble_eq_true rfl, Nat.le_of_ble_eq_true rfl⟩ dX11_ring_4 (fun r_89875 L_89873 f_89874 H locs I Y => ?_)
  exact prI (post := fun r L1 f1 => SH (spC ((NR 30 0 4, fz (pp nL) FI FI FI FI FI FI (pp kF) (pp pF), tz (EQ bT) TA TA TA, sc0) : RS) ((0, 6) : Int × Int) tc w q) nnC G ad L1 f1) S Y rfl (by decide) (by decide) hA1 I dX11_ring_7
set_option maxHeartbeats 4000000 in
set_option maxRecDepth 100000 in
theorem x_X11_allSeen {l : Launch} {G : GG}  {L : List Nat} {f : HF} {ad : Nat → Nat → Nat} {nL : Int} {bT : Nat → Int32} {kF : Int} {pF : Int} {tc w : Nat → Int × Int} {q : Nat → (Nat → Int32) → Prop} (I : SH (spC ((NR 30 0 4, fz (pp nL) FI FI FI FI FI FI (pp kF) (pp pF), tz (EQ bT) TA TA TA, sc0) : RS) ((0, 6) : Int × Int) tc w q) nnC G ad L f) (hW : WBp w 8) (hT : WBp tc 4) (hQ : QIp q) (hZ : ZZp w q) (hE : ∀ j, (tc j).1 = (tc j).2) : PMi l yX11_allSeen cX11_allSeen 1 .int 5 0 0 G [.ref (ad 0 0)] L f (fun r L1 f1 => SH (spC ((NR 30 0 4, fz (pp nL) FI FI FI FI FI FI (pp kF) (pp pF), tz (EQ bT) TA TA TA, sc0) : RS) ((0, 6) : Int × Int) tc w q) nnC G ad L1 f1) := by
  refine PMi.of (post := fun r L1 f1 => SH (spC ((NR 30 0 4, fz (pp nL) FI FI FI FI FI FI (pp kF) (pp pF), tz (EQ bT) TA TA TA, sc0) : RS) ((0, 6) : Int × Int) tc w q) nnC G ad L1 f1) (own := RX11) (by decide) rfl (Nat.le_of_ble_eq_true rfl) (fun sz p e s m args below meth c A ls hA1 hname S Y hl => ?_)
  have hx := S.hx
  have hb := S.hb
  have hl : lv_has ls 1 [(0, .ref (ad 0 0))] := hl
  refine lv_aload_n hx hb dX11_allSeen_0 rfl (lv_at hl 0 rfl) ?_
  have p_ad_0_0 := opnC_0 (j := 0) I (by decide)
  have p_ad_0_0 : pt L f (ad 0 0) (.inr (11, [.ref (ad 1 0), .ref (ad 1 1), .ref (ad 2 0), .ref (ad 3 0), .ref (ad 4 0), .ref (ad 5 0), .ref (ad 6 0), .ref (ad 7 0), .ref (ad 8 0)])) := p_ad_0_0
  refine pg_get S Y ok_X11 8 (by decide) kf11_75 (v := .ref (ad 8 0)) p_ad_0_0 rfl dX11_allSeen_1 ?_
  refine cVp (As := []) (rest := []) S Y (x_X0_fewestAsked (l := l) I hW hT hQ) cw_X0_fewestAsked km11_310 (I.opo (k := 8) (j := 0) (by decide) rfl).choose_spec.1 ok_X0.1 rfl rfl ⟨Nat.le_of_ble_eq_true rfl, Nat.le_of_ble_eq_true rfl⟩ hl.1 rfl (Nat.le_of_ble_eq_true rfl) ⟨Nat.le_of_ble_eq_true rfl, Nat.le_of_ble_eq_true rfl⟩ dX11_allSeen_4 (fun r_89878 H locs er_89878 Y => ?_)
  exact prI (post := fun r L1 f1 => SH (spC ((NR 30 0 4, fz (pp nL) FI FI FI FI FI FI (pp kF) (pp pF), tz (EQ bT) TA TA TA, sc0) : RS) ((0, 6) : Int × Int) tc w q) nnC G ad L1 f1) S Y rfl (by decide) (by decide) hA1 I dX11_allSeen_7
set_option maxHeartbeats 4000000 in
set_option maxRecDepth 100000 in
theorem x_X11_saw {l : Launch} {G : GG}  {L : List Nat} {f : HF} {ad : Nat → Nat → Nat} {nL : Int} {bT : Nat → Int32} {kF : Int} {pF : Int} {tc w : Nat → Int × Int} {q : Nat → (Nat → Int32) → Prop} {i1 i2 : Int32} (I : SH (spC ((NR 30 0 4, fz (pp nL) FI FI FI FI FI FI (pp kF) (pp pF), tz (EQ bT) TA TA TA, sc0) : RS) ((0, 6) : Int × Int) tc w q) nnC G ad L f) (hW : WBp w 8) (hT : WBp tc 4) (hQ : QIp q) (hZ : ZZp w q) (hE : ∀ j, (tc j).1 = (tc j).2) : PMi l yX11_saw cX11_saw 3 .int 1 0 0 G [.ref (ad 0 0), .int i1, .int i2] L f (fun r L1 f1 => SH (spC ((NR 30 0 4, fz (pp nL) FI FI FI FI FI FI (pp kF) (pp pF), tz (EQ bT) TA TA TA, sc0) : RS) ((0, 6) : Int × Int) tc w q) nnC G ad L1 f1) := by
  refine PMi.of (post := fun r L1 f1 => SH (spC ((NR 30 0 4, fz (pp nL) FI FI FI FI FI FI (pp kF) (pp pF), tz (EQ bT) TA TA TA, sc0) : RS) ((0, 6) : Int × Int) tc w q) nnC G ad L1 f1) (own := RX11) (by decide) rfl (Nat.le_of_ble_eq_true rfl) (fun sz p e s m args below meth c A ls hA1 hname S Y hl => ?_)
  have hx := S.hx
  have hb := S.hb
  have hl : lv_has ls 3 [(0, .ref (ad 0 0)), (1, .int i1), (2, .int i2)] := hl
  refine lv_iload_n hx hb dX11_saw_0 rfl (lv_at hl 1 rfl) ?_
  refine lv_iconst (v := (-1)) hx hb dX11_saw_1 (by decide) ?_
  refine lv_icmp_ne (tgt := 16) hx hb dX11_saw_2 (by decide) (fun c_89953 => ?_) (fun c_89953 => ?_)
  · refine lv_aload_n hx hb dX11_saw_16 rfl (lv_at hl 0 rfl) ?_
    have p_ad_0_0 := opnC_0 (j := 0) I (by decide)
    have p_ad_0_0 : pt L f (ad 0 0) (.inr (11, [.ref (ad 1 0), .ref (ad 1 1), .ref (ad 2 0), .ref (ad 3 0), .ref (ad 4 0), .ref (ad 5 0), .ref (ad 6 0), .ref (ad 7 0), .ref (ad 8 0)])) := p_ad_0_0
    refine pg_get S Y ok_X11 0 (by decide) kf11_13 (v := .ref (ad 1 0)) p_ad_0_0 rfl dX11_saw_17 ?_
    refine lv_iload_n hx hb dX11_saw_20 rfl (lv_at hl 1 rfl) ?_
    refine cVp (As := [.int i1]) (rest := []) S Y (x_X10_has (l := l) I hW hT hQ) cw_X10_has km11_192 (I.opo (k := 1) (j := 0) (by decide) rfl).choose_spec.1 ok_X10.1 rfl rfl ⟨Nat.le_of_ble_eq_true rfl, Nat.le_of_ble_eq_true rfl⟩ hl.1 rfl (Nat.le_of_ble_eq_true rfl) ⟨Nat.le_of_ble_eq_true rfl, Nat.le_of_ble_eq_true rfl⟩ dX11_saw_21 (fun r_89955 H locs er_89955 Y => ?_)
    refine lv_if_eq (tgt := 43) hx hb dX11_saw_24 (by decide) (fun c_89956 => ?_) (fun c_89956 => ?_)
    · have B_89957 : bn 0 0 r_89955 := bn_w (bn_eq c_89956 (show bn 0 0 (0 : Int32) from bn_k (by decide))) (by decide)
      refine lv_bipush (v := (-2)) hx hb dX11_saw_43 (by decide) ?_
      exact prI (post := fun r L1 f1 => SH (spC ((NR 30 0 4, fz (pp nL) FI FI FI FI FI FI (pp kF) (pp pF), tz (EQ bT) TA TA TA, sc0) : RS) ((0, 6) : Int × Int) tc w q) nnC G ad L1 f1) S Y rfl (by decide) (by decide) hA1 I dX11_saw_45
    · have B_89958 : bn 1 1 r_89955 := bn_w (bn_nel c_89956 er_89955 (show bn 0 0 (0 : Int32) from bn_k (by decide))) (by decide)
      refine lv_aload_n hx hb dX11_saw_27 rfl (lv_at hl 0 rfl) ?_
      refine pg_get S Y ok_X11 0 (by decide) kf11_13 (v := .ref (ad 1 0)) p_ad_0_0 rfl dX11_saw_28 ?_
      refine lv_iload_n hx hb dX11_saw_31 rfl (lv_at hl 2 rfl) ?_
      refine cVp (As := [.int i2]) (rest := []) S Y (x_X10_has (l := l) I hW hT hQ) cw_X10_has km11_192 (I.opo (k := 1) (j := 0) (by decide) rfl).choose_spec.1 ok_X10.1 rfl rfl ⟨Nat.le_of_ble_eq_true rfl, Nat.le_of_ble_eq_true rfl⟩ hl.1 rfl (Nat.le_of_ble_eq_true rfl) ⟨Nat.le_of_ble_eq_true rfl, Nat.le_of_ble_eq_true rfl⟩ dX11_saw_32 (fun r_89959 H locs er_89959 Y => ?_)
      refine lv_if_eq (tgt := 43) hx hb dX11_saw_35 (by decide) (fun c_89960 => ?_) (fun c_89960 => ?_)
      · have B_89961 : bn 0 0 r_89959 := bn_w (bn_eq c_89960 (show bn 0 0 (0 : Int32) from bn_k (by decide))) (by decide)
        refine lv_bipush (v := (-2)) hx hb dX11_saw_43 (by decide) ?_
        exact prI (post := fun r L1 f1 => SH (spC ((NR 30 0 4, fz (pp nL) FI FI FI FI FI FI (pp kF) (pp pF), tz (EQ bT) TA TA TA, sc0) : RS) ((0, 6) : Int × Int) tc w q) nnC G ad L1 f1) S Y rfl (by decide) (by decide) hA1 I dX11_saw_45
      · have B_89962 : bn 1 1 r_89959 := bn_w (bn_nel c_89960 er_89959 (show bn 0 0 (0 : Int32) from bn_k (by decide))) (by decide)
        refine lv_iload_n hx hb dX11_saw_38 rfl (lv_at hl 1 rfl) ?_
        refine lv_iload_n hx hb dX11_saw_39 rfl (lv_at hl 2 rfl) ?_
        refine lv_icmp_ne (tgt := 46) hx hb dX11_saw_40 (by decide) (fun c_89963 => ?_) (fun c_89963 => ?_)
        · refine lv_aload_n hx hb dX11_saw_46 rfl (lv_at hl 0 rfl) ?_
          refine pg_get S Y ok_X11 0 (by decide) kf11_13 (v := .ref (ad 1 0)) p_ad_0_0 rfl dX11_saw_47 ?_
          obtain ⟨v_89964, v_89966, v_89968, v_89970, v_89972, p_ad_1_0, b_89965, b_89967, b_89969, b_89971, b_89973⟩ := opnC_1 (j := 0) I (by decide)
          have p_ad_1_0 : pt L f (ad 1 0) (.inr (10, [.ref (ad 40 0), .ref (ad 41 0), .ref (ad 42 0), .ref (ad 10 0), .ref (ad 43 0), .ref (ad 20 0), .ref (ad 20 1), .ref (ad 20 2), .ref (ad 20 3), .ref (ad 20 4), .int v_89964, .int v_89966, .int v_89968, .int v_89970, .int v_89972])) := p_ad_1_0
          refine pg_getN S Y ok_X10 8 (by decide) kf11_313 (v := .ref (ad 20 3)) p_ad_1_0 rfl dX11_saw_50 ?_
          refine lv_iload_n hx hb dX11_saw_53 rfl (lv_at hl 1 rfl) ?_
          refine lv_iload_n hx hb dX11_saw_54 rfl (lv_at hl 2 rfl) ?_
          refine lv_iconst (v := 0) hx hb dX11_saw_55 (by decide) ?_
          refine cVi (As := [.int i1, .int i2, .int 0]) (rest := []) S Y (x_X9_tell (l := l) (j := 3) I hW hT hQ (by decide) (hZ _ (by decide) (by decide) (by decide)).1 (hZ _ (by decide) (by decide) (by decide)).2) cw_X9_tell km11_258 (I.opo (k := 20) (j := 3) (by decide) rfl).choose_spec.1 ok_X9.1 rfl rfl ⟨Nat.le_of_ble_eq_true rfl, Nat.le_of_ble_eq_true rfl⟩ hl.1 rfl (Nat.le_of_ble_eq_true rfl) ⟨Nat.le_of_ble_eq_true rfl, Nat.le_of_ble_eq_true rfl⟩ dX11_saw_56 (fun r_89976 L_89974 f_89975 H locs I Y => ?_)
          exact prI (post := fun r L1 f1 => SH (spC ((NR 30 0 4, fz (pp nL) FI FI FI FI FI FI (pp kF) (pp pF), tz (EQ bT) TA TA TA, sc0) : RS) ((0, 6) : Int × Int) tc w q) nnC G ad L1 f1) S Y rfl (by decide) (by decide) hA1 I dX11_saw_59
        · refine lv_bipush (v := (-2)) hx hb dX11_saw_43 (by decide) ?_
          exact prI (post := fun r L1 f1 => SH (spC ((NR 30 0 4, fz (pp nL) FI FI FI FI FI FI (pp kF) (pp pF), tz (EQ bT) TA TA TA, sc0) : RS) ((0, 6) : Int × Int) tc w q) nnC G ad L1 f1) S Y rfl (by decide) (by decide) hA1 I dX11_saw_45
  · have B_89954 : bn (-1) (-1) i1 := bn_w (bn_eq c_89953 (show bn (-1) (-1) ((-1) : Int32) from bn_k (by decide))) (by decide)
    refine lv_aload_n hx hb dX11_saw_5 rfl (lv_at hl 0 rfl) ?_
    have p_ad_0_0 := opnC_0 (j := 0) I (by decide)
    have p_ad_0_0 : pt L f (ad 0 0) (.inr (11, [.ref (ad 1 0), .ref (ad 1 1), .ref (ad 2 0), .ref (ad 3 0), .ref (ad 4 0), .ref (ad 5 0), .ref (ad 6 0), .ref (ad 7 0), .ref (ad 8 0)])) := p_ad_0_0
    refine pg_get S Y ok_X11 0 (by decide) kf11_13 (v := .ref (ad 1 0)) p_ad_0_0 rfl dX11_saw_6 ?_
    obtain ⟨v_89977, v_89979, v_89981, v_89983, v_89985, p_ad_1_0, b_89978, b_89980, b_89982, b_89984, b_89986⟩ := opnC_1 (j := 0) I (by decide)
    have p_ad_1_0 : pt L f (ad 1 0) (.inr (10, [.ref (ad 40 0), .ref (ad 41 0), .ref (ad 42 0), .ref (ad 10 0), .ref (ad 43 0), .ref (ad 20 0), .ref (ad 20 1), .ref (ad 20 2), .ref (ad 20 3), .ref (ad 20 4), .int v_89977, .int v_89979, .int v_89981, .int v_89983, .int v_89985])) := p_ad_1_0
    refine pg_getN S Y ok_X10 8 (by decide) kf11_313 (v := .ref (ad 20 3)) p_ad_1_0 rfl dX11_saw_9 ?_
    refine cVi (As := []) (rest := []) S Y (x_X9_forget (l := l) (j := 3) I hW hT hQ (by decide) (hZ _ (by decide) (by decide) (by decide)).1 (hZ _ (by decide) (by decide) (by decide)).2) cw_X9_forget km11_253 (I.opo (k := 20) (j := 3) (by decide) rfl).choose_spec.1 ok_X9.1 rfl rfl ⟨Nat.le_of_ble_eq_true rfl, Nat.le_of_ble_eq_true rfl⟩ hl.1 rfl (Nat.le_of_ble_eq_true rfl) ⟨Nat.le_of_ble_eq_true rfl, Nat.le_of_ble_eq_true rfl⟩ dX11_saw_12 (fun r_89989 L_89987 f_89988 H locs hr_89989 Y => ?_)
    obtain ⟨er_89989, I⟩ := hr_89989
    exact prI (post := fun r L1 f1 => SH (spC ((NR 30 0 4, fz (pp nL) FI FI FI FI FI FI (pp kF) (pp pF), tz (EQ bT) TA TA TA, sc0) : RS) ((0, 6) : Int × Int) tc w q) nnC G ad L1 f1) S Y rfl (by decide) (by decide) hA1 I dX11_saw_15
set_option maxHeartbeats 4000000 in
set_option maxRecDepth 100000 in
theorem x_X11_known {l : Launch} {G : GG}  {L : List Nat} {f : HF} {ad : Nat → Nat → Nat} {nL : Int} {bT : Nat → Int32} {kF : Int} {pF : Int} {tc w : Nat → Int × Int} {q : Nat → (Nat → Int32) → Prop} {i1 : Int32} (I : SH (spC ((NR 30 0 4, fz (pp nL) FI FI FI FI FI FI (pp kF) (pp pF), tz (EQ bT) TA TA TA, sc0) : RS) ((0, 6) : Int × Int) tc w q) nnC G ad L f) (hW : WBp w 8) (hT : WBp tc 4) (hQ : QIp q) (hZ : ZZp w q) (hE : ∀ j, (tc j).1 = (tc j).2) : PMi l yX11_known cX11_known 2 .int 4 0 0 G [.ref (ad 0 0), .int i1] L f (fun r L1 f1 => SH (spC ((NR 30 0 4, fz (pp nL) FI FI FI FI FI FI (pp kF) (pp pF), tz (EQ bT) TA TA TA, sc0) : RS) ((0, 6) : Int × Int) tc w q) nnC G ad L1 f1) := by
  refine PMi.of (post := fun r L1 f1 => SH (spC ((NR 30 0 4, fz (pp nL) FI FI FI FI FI FI (pp kF) (pp pF), tz (EQ bT) TA TA TA, sc0) : RS) ((0, 6) : Int × Int) tc w q) nnC G ad L1 f1) (own := RX11) (by decide) rfl (Nat.le_of_ble_eq_true rfl) (fun sz p e s m args below meth c A ls hA1 hname S Y hl => ?_)
  have hx := S.hx
  have hb := S.hb
  have hl : lv_has ls 2 [(0, .ref (ad 0 0)), (1, .int i1)] := hl
  refine lv_aload_n hx hb dX11_known_0 rfl (lv_at hl 0 rfl) ?_
  have p_ad_0_0 := opnC_0 (j := 0) I (by decide)
  have p_ad_0_0 : pt L f (ad 0 0) (.inr (11, [.ref (ad 1 0), .ref (ad 1 1), .ref (ad 2 0), .ref (ad 3 0), .ref (ad 4 0), .ref (ad 5 0), .ref (ad 6 0), .ref (ad 7 0), .ref (ad 8 0)])) := p_ad_0_0
  refine pg_get S Y ok_X11 0 (by decide) kf11_13 (v := .ref (ad 1 0)) p_ad_0_0 rfl dX11_known_1 ?_
  refine lv_iload_n hx hb dX11_known_4 rfl (lv_at hl 1 rfl) ?_
  refine cVp (As := [.int i1]) (rest := []) S Y (x_X10_has (l := l) I hW hT hQ) cw_X10_has km11_192 (I.opo (k := 1) (j := 0) (by decide) rfl).choose_spec.1 ok_X10.1 rfl rfl ⟨Nat.le_of_ble_eq_true rfl, Nat.le_of_ble_eq_true rfl⟩ hl.1 rfl (Nat.le_of_ble_eq_true rfl) ⟨Nat.le_of_ble_eq_true rfl, Nat.le_of_ble_eq_true rfl⟩ dX11_known_5 (fun r_90000 H locs er_90000 Y => ?_)
  refine lv_if_eq (tgt := 22) hx hb dX11_known_8 (by decide) (fun c_90001 => ?_) (fun c_90001 => ?_)
  · have B_90002 : bn 0 0 r_90000 := bn_w (bn_eq c_90001 (show bn 0 0 (0 : Int32) from bn_k (by decide))) (by decide)
    refine lv_iconst (v := (-1)) hx hb dX11_known_22 (by decide) ?_
    exact prI (post := fun r L1 f1 => SH (spC ((NR 30 0 4, fz (pp nL) FI FI FI FI FI FI (pp kF) (pp pF), tz (EQ bT) TA TA TA, sc0) : RS) ((0, 6) : Int × Int) tc w q) nnC G ad L1 f1) S Y rfl (by decide) (by decide) hA1 I dX11_known_23
  · have B_90003 : bn 1 1 r_90000 := bn_w (bn_nel c_90001 er_90000 (show bn 0 0 (0 : Int32) from bn_k (by decide))) (by decide)
    refine lv_aload_n hx hb dX11_known_11 rfl (lv_at hl 0 rfl) ?_
    refine pg_get S Y ok_X11 8 (by decide) kf11_75 (v := .ref (ad 8 0)) p_ad_0_0 rfl dX11_known_12 ?_
    refine lv_iload_n hx hb dX11_known_15 rfl (lv_at hl 1 rfl) ?_
    refine cVp (As := [.int i1]) (rest := []) S Y (x_X0_wordsOf (l := l) I hW hT hQ) cw_X0_wordsOf km11_316 (I.opo (k := 8) (j := 0) (by decide) rfl).choose_spec.1 ok_X0.1 rfl rfl ⟨Nat.le_of_ble_eq_true rfl, Nat.le_of_ble_eq_true rfl⟩ hl.1 rfl (Nat.le_of_ble_eq_true rfl) ⟨Nat.le_of_ble_eq_true rfl, Nat.le_of_ble_eq_true rfl⟩ dX11_known_16 (fun r_90004 H locs er_90004 Y => ?_)
    refine lv_goto (tgt := 23) hx hb dX11_known_19 (by decide) ?_
    exact prI (post := fun r L1 f1 => SH (spC ((NR 30 0 4, fz (pp nL) FI FI FI FI FI FI (pp kF) (pp pF), tz (EQ bT) TA TA TA, sc0) : RS) ((0, 6) : Int × Int) tc w q) nnC G ad L1 f1) S Y rfl (by decide) (by decide) hA1 I dX11_known_23
set_option maxHeartbeats 4000000 in
set_option maxRecDepth 100000 in
theorem x_X11_together {l : Launch} {G : GG}  {L : List Nat} {f : HF} {ad : Nat → Nat → Nat} {nL : Int} {bT : Nat → Int32} {kF : Int} {pF : Int} {tc w : Nat → Int × Int} {q : Nat → (Nat → Int32) → Prop} (I : SH (spC ((NR 30 0 4, fz (pp nL) FI FI FI FI FI FI (pp kF) (pp pF), tz (EQ bT) TA TA TA, sc0) : RS) ((0, 6) : Int × Int) tc w q) nnC G ad L f) (hW : WBp w 8) (hT : WBp tc 4) (hQ : QIp q) (hZ : ZZp w q) (hE : ∀ j, (tc j).1 = (tc j).2) : PMi l yX11_together cX11_together 1 .int 5 0 0 G [.ref (ad 0 0)] L f (fun r L1 f1 => SH (spC ((NR 30 0 4, fz (pp nL) FI FI FI FI FI FI (pp kF) (pp pF), tz (EQ bT) TA TA TA, sc0) : RS) ((0, 6) : Int × Int) tc w q) nnC G ad L1 f1) := by
  refine PMi.of (post := fun r L1 f1 => SH (spC ((NR 30 0 4, fz (pp nL) FI FI FI FI FI FI (pp kF) (pp pF), tz (EQ bT) TA TA TA, sc0) : RS) ((0, 6) : Int × Int) tc w q) nnC G ad L1 f1) (own := RX11) (by decide) rfl (Nat.le_of_ble_eq_true rfl) (fun sz p e s m args below meth c A ls hA1 hname S Y hl => ?_)
  have hx := S.hx
  have hb := S.hb
  have hl : lv_has ls 1 [(0, .ref (ad 0 0))] := hl
  refine lv_aload_n hx hb dX11_together_0 rfl (lv_at hl 0 rfl) ?_
  have p_ad_0_0 := opnC_0 (j := 0) I (by decide)
  have p_ad_0_0 : pt L f (ad 0 0) (.inr (11, [.ref (ad 1 0), .ref (ad 1 1), .ref (ad 2 0), .ref (ad 3 0), .ref (ad 4 0), .ref (ad 5 0), .ref (ad 6 0), .ref (ad 7 0), .ref (ad 8 0)])) := p_ad_0_0
  refine pg_get S Y ok_X11 8 (by decide) kf11_75 (v := .ref (ad 8 0)) p_ad_0_0 rfl dX11_together_1 ?_
  refine cVi (As := []) (rest := []) S Y (x_X0_fewestKnowing (l := l) I hW hT hQ) cw_X0_fewestKnowing km11_319 (I.opo (k := 8) (j := 0) (by decide) rfl).choose_spec.1 ok_X0.1 rfl rfl ⟨Nat.le_of_ble_eq_true rfl, Nat.le_of_ble_eq_true rfl⟩ hl.1 rfl (Nat.le_of_ble_eq_true rfl) ⟨Nat.le_of_ble_eq_true rfl, Nat.le_of_ble_eq_true rfl⟩ dX11_together_4 (fun r_90013 L_90011 f_90012 H locs I Y => ?_)
  exact prI (post := fun r L1 f1 => SH (spC ((NR 30 0 4, fz (pp nL) FI FI FI FI FI FI (pp kF) (pp pF), tz (EQ bT) TA TA TA, sc0) : RS) ((0, 6) : Int × Int) tc w q) nnC G ad L1 f1) S Y rfl (by decide) (by decide) hA1 I dX11_together_7
set_option maxHeartbeats 4000000 in
set_option maxRecDepth 100000 in
theorem x_X11_copy {l : Launch} {G : GG}  {L : List Nat} {f : HF} {ad : Nat → Nat → Nat} {nL : Int} {bT : Nat → Int32} {kF : Int} {pF : Int} {tc w : Nat → Int × Int} {q : Nat → (Nat → Int32) → Prop} {i1 i2 i3 i4 : Int32} (I : SH (spC ((NR 30 0 4, fz (pp nL) FI FI FI FI FI FI (pp kF) (pp pF), tz (EQ bT) TA TA TA, sc0) : RS) ((0, 6) : Int × Int) tc w q) nnC G ad L f) (hW : WBp w 8) (hT : WBp tc 4) (hQ : QIp q) (b_i4 : bn 0 1 i4) (hZ : ZZp w q) (hE : ∀ j, (tc j).1 = (tc j).2) : PMi l yX11_copy cX11_copy 10 .int 6 0 0 G [.ref (ad 0 0), .int i1, .int i2, .int i3, .int i4] L f (fun r L1 f1 => SH (spC ((NR 30 0 4, fz (pp nL) FI FI FI FI FI FI (pp kF) (pp pF), tz (EQ bT) TA TA TA, sc0) : RS) ((0, 6) : Int × Int) tc w q) nnC G ad L1 f1) := by
  refine PMi.of (post := fun r L1 f1 => SH (spC ((NR 30 0 4, fz (pp nL) FI FI FI FI FI FI (pp kF) (pp pF), tz (EQ bT) TA TA TA, sc0) : RS) ((0, 6) : Int × Int) tc w q) nnC G ad L1 f1) (own := RX11) (by decide) rfl (Nat.le_of_ble_eq_true rfl) (fun sz p e s m args below meth c A ls hA1 hname S Y hl => ?_)
  have hx := S.hx
  have hb := S.hb
  have hl : lv_has ls 10 [(0, .ref (ad 0 0)), (1, .int i1), (2, .int i2), (3, .int i3), (4, .int i4)] := hl
  have J_58 : ∀ (n58 : Nat) (y58_5 y58_6 y58_7 y58_8 : Int32) (L_58 : List Nat) (f_58 : HF) (H : Heap) (locs : List Loc) (ls : Array Slot), (SH (spC ((NR 30 0 4, fz (pp nL) FI FI FI FI FI FI (pp kF) (pp pF), tz (EQ bT) TA TA TA, sc0) : RS) ((0, 6) : Int × Int) tc w q) nnC G ad L_58 f_58) → (bn 0 60 y58_6) → (bn 0 61 y58_8) → (((61 : Int) - y58_8.toInt).toNat = n58) → (DY G A s [] L_58 f_58 H locs) → (lv_has ls 10 [(0, .ref (ad 0 0)), (1, .int i1), (2, .int i2), (3, .int i3), (4, .int i4), (5, .int y58_5), (6, .int y58_6), (7, .int y58_7), (8, .int y58_8)]) → W p l e (rmD 6 0 0) s m args below meth c H locs (0) (0) (MQ below (va_Qi (fun r (u : List Nat × HF) => (fun r L1 f1 => SH (spC ((NR 30 0 4, fz (pp nL) FI FI FI FI FI FI (pp kF) (pp pF), tz (EQ bT) TA TA TA, sc0) : RS) ((0, 6) : Int × Int) tc w q) nnC G ad L1 f1) r u.1 u.2) (fun u t => pOut G (va_A (va_pl L f) sz) u.1 u.2 t) (va_A (va_pl L f) sz)) args s 0 0 A) (F0 m 58 ls []) := by
    intro n58
    induction n58 using Nat.strongRecOn with
    | _ n58 ih58 =>
      intro y58_5 y58_6 y58_7 y58_8 L_58 f_58 H locs ls I b_y58_6 b_y58_8 hm58 Y hl
      refine lv_iload hx hb dX11_copy_58 (lv_at hl 8 rfl) ?_
      refine lv_bipush (v := 60) hx hb dX11_copy_60 (by decide) ?_
      refine lv_icmp_gt (tgt := 116) hx hb dX11_copy_62 (by decide) (fun c_91091 => ?_) (fun c_91091 => ?_)
      · have B_91092 : bn 61 61 y58_8 := bn_w (bn_ltr c_91091 (show bn 60 60 (60 : Int32) from bn_k (by decide)) b_y58_8) (by decide)
        refine lv_iload hx hb dX11_copy_116 (lv_at hl 4 rfl) ?_
        refine lv_if_eq (tgt := 126) hx hb dX11_copy_118 (by decide) (fun c_91094 => ?_) (fun c_91094 => ?_)
        · have B_91095 : bn 0 0 i4 := bn_w (bn_eq c_91094 (show bn 0 0 (0 : Int32) from bn_k (by decide))) (by decide)
          refine lv_iload hx hb dX11_copy_126 (lv_at hl 6 rfl) ?_
          exact prI (post := fun r L1 f1 => SH (spC ((NR 30 0 4, fz (pp nL) FI FI FI FI FI FI (pp kF) (pp pF), tz (EQ bT) TA TA TA, sc0) : RS) ((0, 6) : Int × Int) tc w q) nnC G ad L1 f1) S Y rfl (by decide) (by decide) hA1 I dX11_copy_128
        · have B_91096 : bn 1 1 i4 := bn_w (bn_nel c_91094 b_i4 (show bn 0 0 (0 : Int32) from bn_k (by decide))) (by decide)
          refine lv_iload hx hb dX11_copy_121 (lv_at hl 7 rfl) ?_
          refine lv_goto (tgt := 128) hx hb dX11_copy_123 (by decide) ?_
          exact prI (post := fun r L1 f1 => SH (spC ((NR 30 0 4, fz (pp nL) FI FI FI FI FI FI (pp kF) (pp pF), tz (EQ bT) TA TA TA, sc0) : RS) ((0, 6) : Int × Int) tc w q) nnC G ad L1 f1) S Y rfl (by decide) (by decide) hA1 I dX11_copy_128
      · have B_91093 : bn 0 60 y58_8 := bn_w (bn_ger c_91091 (show bn 60 60 (60 : Int32) from bn_k (by decide)) b_y58_8) (by decide)
        refine lv_iload hx hb dX11_copy_65 (lv_at hl 5 rfl) ?_
        refine lv_iconst (v := (-1)) hx hb dX11_copy_67 (by decide) ?_
        refine lv_icmp_eq (tgt := 82) hx hb dX11_copy_68 (by decide) (fun c_91097 => ?_) (fun c_91097 => ?_)
        · have B_91098 : bn (-1) (-1) y58_5 := bn_w (bn_eq c_91097 (show bn (-1) (-1) ((-1) : Int32) from bn_k (by decide))) (by decide)
          refine lv_iconst (v := 0) hx hb dX11_copy_82 (by decide) ?_
          refine lv_iload_n hx hb dX11_copy_83 rfl (lv_at hl 2 rfl) ?_
          refine lv_iload hx hb dX11_copy_84 (lv_at hl 8 rfl) ?_
          refine lv_imul hx hb dX11_copy_86 ?_
          refine lv_topi (fun x_91099 ex_91099 => ?_)
          refine lv_isub hx hb dX11_copy_87 ?_
          refine lv_topi (fun x_91100 ex_91100 => ?_)
          refine lv_istore (lv' := [(9, .int x_91100), (0, .ref (ad 0 0)), (1, .int i1), (2, .int i2), (3, .int i3), (4, .int i4), (5, .int y58_5), (6, .int y58_6), (7, .int y58_7), (8, .int y58_8)]) hx hb dX11_copy_88 hl (by decide) rfl (fun ls hl => ?_)
          refine lv_iload hx hb dX11_copy_90 (lv_at hl 9 rfl) ?_
          refine lv_if_eq (tgt := 102) hx hb dX11_copy_92 (by decide) (fun c_91101 => ?_) (fun c_91101 => ?_)
          · have B_91102 : bn 0 0 y58_8 := bn_w (bn_eq c_91101 (show bn 0 0 (0 : Int32) from bn_k (by decide))) (by decide)
            refine lv_iload hx hb dX11_copy_102 (lv_at hl 9 rfl) ?_
            refine lv_istore (lv' := [(6, .int y58_8), (9, .int x_91100), (0, .ref (ad 0 0)), (1, .int i1), (2, .int i2), (3, .int i3), (4, .int i4), (5, .int y58_5), (7, .int y58_7), (8, .int y58_8)]) hx hb dX11_copy_104 hl (by decide) rfl (fun ls hl => ?_)
            refine lv_iload hx hb dX11_copy_106 (lv_at hl 1 rfl) ?_
            refine lv_istore (lv' := [(7, .int x_91100), (6, .int y58_8), (9, .int x_91100), (0, .ref (ad 0 0)), (1, .int i1), (2, .int i2), (3, .int i3), (4, .int i4), (5, .int y58_5), (8, .int y58_8)]) hx hb dX11_copy_108 hl (by decide) rfl (fun ls hl => ?_)
            obtain ⟨x_91104, ex_91104⟩ : ∃ z : Int32, z = y58_8 + 1 := ⟨_, rfl⟩
            refine lv_iinc (v := x_91104) (lv' := [(8, .int x_91104), (7, .int x_91100), (6, .int y58_8), (9, .int x_91100), (0, .ref (ad 0 0)), (1, .int i1), (2, .int i2), (3, .int i3), (4, .int i4), (5, .int y58_5)]) hx hb dX11_copy_110 hl (k := 9) rfl (by rw [ex_91104]; rfl) (by decide) rfl (fun ls hl => ?_)
            refine lv_goto (tgt := 58) hx hb dX11_copy_113 (by decide) ?_
            exact ih58 _ (by rw [← hm58]; exact ms_up (m := 1) ex_91104 (show bn 1 1 (1 : Int32) from bn_k (by decide)) B_91102 (bn_w (bn_eq ex_91104 (bn_add B_91102 (show bn 1 1 (1 : Int32) from bn_k (by decide)) (by decide))) (by decide) : bn 0 61 x_91104) (by decide)) y58_5 y58_8 x_91100 x_91104 _ _  _ _ _ I (bn_w B_91102 (by decide)) (bn_w (bn_eq ex_91104 (bn_add B_91102 (show bn 1 1 (1 : Int32) from bn_k (by decide)) (by decide))) (by decide)) rfl Y (lv_sub hl [4, 5, 6, 7, 8, 9, 2, 1, 0] rfl)
          · have B_91103 : bn 1 60 y58_8 := bn_w (bn_nel c_91101 B_91093 (show bn 0 0 (0 : Int32) from bn_k (by decide))) (by decide)
            refine lv_iload hx hb dX11_copy_95 (lv_at hl 0 rfl) ?_
            refine lv_iload hx hb dX11_copy_97 (lv_at hl 8 rfl) ?_
            refine lv_icmp_ge (tgt := 110) hx hb dX11_copy_99 (by decide) (fun c_91105 => ?_) (fun c_91105 => ?_)
            · obtain ⟨x_91108, ex_91108⟩ : ∃ z : Int32, z = y58_8 + 1 := ⟨_, rfl⟩
              refine lv_iinc (v := x_91108) (lv' := [(8, .int x_91108), (9, .int x_91100), (0, .ref (ad 0 0)), (1, .int i1), (2, .int i2), (3, .int i3), (4, .int i4), (5, .int y58_5), (6, .int y58_6), (7, .int y58_7)]) hx hb dX11_copy_110 hl (k := 9) rfl (by rw [ex_91108]; rfl) (by decide) rfl (fun ls hl => ?_)
              refine lv_goto (tgt := 58) hx hb dX11_copy_113 (by decide) ?_
              exact ih58 _ (by rw [← hm58]; exact ms_up (m := 1) ex_91108 (show bn 1 1 (1 : Int32) from bn_k (by decide)) B_91103 (bn_w (bn_eq ex_91108 (bn_add B_91103 (show bn 1 1 (1 : Int32) from bn_k (by decide)) (by decide))) (by decide) : bn 0 61 x_91108) (by decide)) y58_5 y58_6 y58_7 x_91108 _ _  _ _ _ I (bn_w b_y58_6 (by decide)) (bn_w (bn_eq ex_91108 (bn_add B_91103 (show bn 1 1 (1 : Int32) from bn_k (by decide)) (by decide))) (by decide)) rfl Y (lv_sub hl [2, 3, 4, 5, 6, 7, 8, 9, 0] rfl)
            · have B_91106 : bn (-2147483647) 2147483647 y58_7 := bn_w (bn_gtl c_91105 (bn_any y58_7) (bn_any x_91100)) (by decide)
              have B_91107 : bn (-2147483648) 2147483646 x_91100 := bn_w (bn_gtr c_91105 (bn_any y58_7) (bn_any x_91100)) (by decide)
              refine lv_iload hx hb dX11_copy_102 (lv_at hl 9 rfl) ?_
              refine lv_istore (lv' := [(6, .int y58_8), (9, .int x_91100), (0, .ref (ad 0 0)), (1, .int i1), (2, .int i2), (3, .int i3), (4, .int i4), (5, .int y58_5), (7, .int y58_7), (8, .int y58_8)]) hx hb dX11_copy_104 hl (by decide) rfl (fun ls hl => ?_)
              refine lv_iload hx hb dX11_copy_106 (lv_at hl 1 rfl) ?_
              refine lv_istore (lv' := [(7, .int x_91100), (6, .int y58_8), (9, .int x_91100), (0, .ref (ad 0 0)), (1, .int i1), (2, .int i2), (3, .int i3), (4, .int i4), (5, .int y58_5), (8, .int y58_8)]) hx hb dX11_copy_108 hl (by decide) rfl (fun ls hl => ?_)
              obtain ⟨x_91109, ex_91109⟩ : ∃ z : Int32, z = y58_8 + 1 := ⟨_, rfl⟩
              refine lv_iinc (v := x_91109) (lv' := [(8, .int x_91109), (7, .int x_91100), (6, .int y58_8), (9, .int x_91100), (0, .ref (ad 0 0)), (1, .int i1), (2, .int i2), (3, .int i3), (4, .int i4), (5, .int y58_5)]) hx hb dX11_copy_110 hl (k := 9) rfl (by rw [ex_91109]; rfl) (by decide) rfl (fun ls hl => ?_)
              refine lv_goto (tgt := 58) hx hb dX11_copy_113 (by decide) ?_
              exact ih58 _ (by rw [← hm58]; exact ms_up (m := 1) ex_91109 (show bn 1 1 (1 : Int32) from bn_k (by decide)) B_91103 (bn_w (bn_eq ex_91109 (bn_add B_91103 (show bn 1 1 (1 : Int32) from bn_k (by decide)) (by decide))) (by decide) : bn 0 61 x_91109) (by decide)) y58_5 y58_8 x_91100 x_91109 _ _  _ _ _ I (bn_w B_91103 (by decide)) (bn_w (bn_eq ex_91109 (bn_add B_91103 (show bn 1 1 (1 : Int32) from bn_k (by decide)) (by decide))) (by decide)) rfl Y (lv_sub hl [4, 5, 6, 7, 8, 9, 2, 1, 0] rfl)
        · refine lv_iload hx hb dX11_copy_71 (lv_at hl 5 rfl) ?_
          refine lv_iload hx hb dX11_copy_73 (lv_at hl 8 rfl) ?_
          refine lv_icmp_gt (tgt := 82) hx hb dX11_copy_75 (by decide) (fun c_91110 => ?_) (fun c_91110 => ?_)
          · have B_91111 : bn 1 2147483647 y58_5 := bn_w (bn_ltr c_91110 B_91093 (bn_any y58_5)) (by decide)
            refine lv_iconst (v := 0) hx hb dX11_copy_82 (by decide) ?_
            refine lv_iload_n hx hb dX11_copy_83 rfl (lv_at hl 2 rfl) ?_
            refine lv_iload hx hb dX11_copy_84 (lv_at hl 8 rfl) ?_
            refine lv_imul hx hb dX11_copy_86 ?_
            refine lv_topi (fun x_91113 ex_91113 => ?_)
            refine lv_isub hx hb dX11_copy_87 ?_
            refine lv_topi (fun x_91114 ex_91114 => ?_)
            refine lv_istore (lv' := [(9, .int x_91114), (0, .ref (ad 0 0)), (1, .int i1), (2, .int i2), (3, .int i3), (4, .int i4), (5, .int y58_5), (6, .int y58_6), (7, .int y58_7), (8, .int y58_8)]) hx hb dX11_copy_88 hl (by decide) rfl (fun ls hl => ?_)
            refine lv_iload hx hb dX11_copy_90 (lv_at hl 9 rfl) ?_
            refine lv_if_eq (tgt := 102) hx hb dX11_copy_92 (by decide) (fun c_91115 => ?_) (fun c_91115 => ?_)
            · have B_91116 : bn 0 0 y58_8 := bn_w (bn_eq c_91115 (show bn 0 0 (0 : Int32) from bn_k (by decide))) (by decide)
              refine lv_iload hx hb dX11_copy_102 (lv_at hl 9 rfl) ?_
              refine lv_istore (lv' := [(6, .int y58_8), (9, .int x_91114), (0, .ref (ad 0 0)), (1, .int i1), (2, .int i2), (3, .int i3), (4, .int i4), (5, .int y58_5), (7, .int y58_7), (8, .int y58_8)]) hx hb dX11_copy_104 hl (by decide) rfl (fun ls hl => ?_)
              refine lv_iload hx hb dX11_copy_106 (lv_at hl 1 rfl) ?_
              refine lv_istore (lv' := [(7, .int x_91114), (6, .int y58_8), (9, .int x_91114), (0, .ref (ad 0 0)), (1, .int i1), (2, .int i2), (3, .int i3), (4, .int i4), (5, .int y58_5), (8, .int y58_8)]) hx hb dX11_copy_108 hl (by decide) rfl (fun ls hl => ?_)
              obtain ⟨x_91118, ex_91118⟩ : ∃ z : Int32, z = y58_8 + 1 := ⟨_, rfl⟩
              refine lv_iinc (v := x_91118) (lv' := [(8, .int x_91118), (7, .int x_91114), (6, .int y58_8), (9, .int x_91114), (0, .ref (ad 0 0)), (1, .int i1), (2, .int i2), (3, .int i3), (4, .int i4), (5, .int y58_5)]) hx hb dX11_copy_110 hl (k := 9) rfl (by rw [ex_91118]; rfl) (by decide) rfl (fun ls hl => ?_)
              refine lv_goto (tgt := 58) hx hb dX11_copy_113 (by decide) ?_
              exact ih58 _ (by rw [← hm58]; exact ms_up (m := 1) ex_91118 (show bn 1 1 (1 : Int32) from bn_k (by decide)) B_91116 (bn_w (bn_eq ex_91118 (bn_add B_91116 (show bn 1 1 (1 : Int32) from bn_k (by decide)) (by decide))) (by decide) : bn 0 61 x_91118) (by decide)) y58_5 y58_8 x_91114 x_91118 _ _  _ _ _ I (bn_w B_91116 (by decide)) (bn_w (bn_eq ex_91118 (bn_add B_91116 (show bn 1 1 (1 : Int32) from bn_k (by decide)) (by decide))) (by decide)) rfl Y (lv_sub hl [4, 5, 6, 7, 8, 9, 2, 1, 0] rfl)
            · have B_91117 : bn 1 60 y58_8 := bn_w (bn_nel c_91115 B_91093 (show bn 0 0 (0 : Int32) from bn_k (by decide))) (by decide)
              refine lv_iload hx hb dX11_copy_95 (lv_at hl 0 rfl) ?_
              refine lv_iload hx hb dX11_copy_97 (lv_at hl 8 rfl) ?_
              refine lv_icmp_ge (tgt := 110) hx hb dX11_copy_99 (by decide) (fun c_91119 => ?_) (fun c_91119 => ?_)
              · obtain ⟨x_91122, ex_91122⟩ : ∃ z : Int32, z = y58_8 + 1 := ⟨_, rfl⟩
                refine lv_iinc (v := x_91122) (lv' := [(8, .int x_91122), (9, .int x_91114), (0, .ref (ad 0 0)), (1, .int i1), (2, .int i2), (3, .int i3), (4, .int i4), (5, .int y58_5), (6, .int y58_6), (7, .int y58_7)]) hx hb dX11_copy_110 hl (k := 9) rfl (by rw [ex_91122]; rfl) (by decide) rfl (fun ls hl => ?_)
                refine lv_goto (tgt := 58) hx hb dX11_copy_113 (by decide) ?_
                exact ih58 _ (by rw [← hm58]; exact ms_up (m := 1) ex_91122 (show bn 1 1 (1 : Int32) from bn_k (by decide)) B_91117 (bn_w (bn_eq ex_91122 (bn_add B_91117 (show bn 1 1 (1 : Int32) from bn_k (by decide)) (by decide))) (by decide) : bn 0 61 x_91122) (by decide)) y58_5 y58_6 y58_7 x_91122 _ _  _ _ _ I (bn_w b_y58_6 (by decide)) (bn_w (bn_eq ex_91122 (bn_add B_91117 (show bn 1 1 (1 : Int32) from bn_k (by decide)) (by decide))) (by decide)) rfl Y (lv_sub hl [2, 3, 4, 5, 6, 7, 8, 9, 0] rfl)
              · have B_91120 : bn (-2147483647) 2147483647 y58_7 := bn_w (bn_gtl c_91119 (bn_any y58_7) (bn_any x_91114)) (by decide)
                have B_91121 : bn (-2147483648) 2147483646 x_91114 := bn_w (bn_gtr c_91119 (bn_any y58_7) (bn_any x_91114)) (by decide)
                refine lv_iload hx hb dX11_copy_102 (lv_at hl 9 rfl) ?_
                refine lv_istore (lv' := [(6, .int y58_8), (9, .int x_91114), (0, .ref (ad 0 0)), (1, .int i1), (2, .int i2), (3, .int i3), (4, .int i4), (5, .int y58_5), (7, .int y58_7), (8, .int y58_8)]) hx hb dX11_copy_104 hl (by decide) rfl (fun ls hl => ?_)
                refine lv_iload hx hb dX11_copy_106 (lv_at hl 1 rfl) ?_
                refine lv_istore (lv' := [(7, .int x_91114), (6, .int y58_8), (9, .int x_91114), (0, .ref (ad 0 0)), (1, .int i1), (2, .int i2), (3, .int i3), (4, .int i4), (5, .int y58_5), (8, .int y58_8)]) hx hb dX11_copy_108 hl (by decide) rfl (fun ls hl => ?_)
                obtain ⟨x_91123, ex_91123⟩ : ∃ z : Int32, z = y58_8 + 1 := ⟨_, rfl⟩
                refine lv_iinc (v := x_91123) (lv' := [(8, .int x_91123), (7, .int x_91114), (6, .int y58_8), (9, .int x_91114), (0, .ref (ad 0 0)), (1, .int i1), (2, .int i2), (3, .int i3), (4, .int i4), (5, .int y58_5)]) hx hb dX11_copy_110 hl (k := 9) rfl (by rw [ex_91123]; rfl) (by decide) rfl (fun ls hl => ?_)
                refine lv_goto (tgt := 58) hx hb dX11_copy_113 (by decide) ?_
                exact ih58 _ (by rw [← hm58]; exact ms_up (m := 1) ex_91123 (show bn 1 1 (1 : Int32) from bn_k (by decide)) B_91117 (bn_w (bn_eq ex_91123 (bn_add B_91117 (show bn 1 1 (1 : Int32) from bn_k (by decide)) (by decide))) (by decide) : bn 0 61 x_91123) (by decide)) y58_5 y58_8 x_91114 x_91123 _ _  _ _ _ I (bn_w B_91117 (by decide)) (bn_w (bn_eq ex_91123 (bn_add B_91117 (show bn 1 1 (1 : Int32) from bn_k (by decide)) (by decide))) (by decide)) rfl Y (lv_sub hl [4, 5, 6, 7, 8, 9, 2, 1, 0] rfl)
          · have B_91112 : bn (-2147483648) 60 y58_5 := bn_w (bn_ger c_91110 B_91093 (bn_any y58_5)) (by decide)
            refine lv_iload_n hx hb dX11_copy_78 rfl (lv_at hl 3 rfl) ?_
            refine lv_goto (tgt := 83) hx hb dX11_copy_79 (by decide) ?_
            refine lv_iload_n hx hb dX11_copy_83 rfl (lv_at hl 2 rfl) ?_
            refine lv_iload hx hb dX11_copy_84 (lv_at hl 8 rfl) ?_
            refine lv_imul hx hb dX11_copy_86 ?_
            refine lv_topi (fun x_91124 ex_91124 => ?_)
            refine lv_isub hx hb dX11_copy_87 ?_
            refine lv_topi (fun x_91125 ex_91125 => ?_)
            refine lv_istore (lv' := [(9, .int x_91125), (0, .ref (ad 0 0)), (1, .int i1), (2, .int i2), (3, .int i3), (4, .int i4), (5, .int y58_5), (6, .int y58_6), (7, .int y58_7), (8, .int y58_8)]) hx hb dX11_copy_88 hl (by decide) rfl (fun ls hl => ?_)
            refine lv_iload hx hb dX11_copy_90 (lv_at hl 9 rfl) ?_
            refine lv_if_eq (tgt := 102) hx hb dX11_copy_92 (by decide) (fun c_91126 => ?_) (fun c_91126 => ?_)
            · have B_91127 : bn 0 0 y58_8 := bn_w (bn_eq c_91126 (show bn 0 0 (0 : Int32) from bn_k (by decide))) (by decide)
              refine lv_iload hx hb dX11_copy_102 (lv_at hl 9 rfl) ?_
              refine lv_istore (lv' := [(6, .int y58_8), (9, .int x_91125), (0, .ref (ad 0 0)), (1, .int i1), (2, .int i2), (3, .int i3), (4, .int i4), (5, .int y58_5), (7, .int y58_7), (8, .int y58_8)]) hx hb dX11_copy_104 hl (by decide) rfl (fun ls hl => ?_)
              refine lv_iload hx hb dX11_copy_106 (lv_at hl 1 rfl) ?_
              refine lv_istore (lv' := [(7, .int x_91125), (6, .int y58_8), (9, .int x_91125), (0, .ref (ad 0 0)), (1, .int i1), (2, .int i2), (3, .int i3), (4, .int i4), (5, .int y58_5), (8, .int y58_8)]) hx hb dX11_copy_108 hl (by decide) rfl (fun ls hl => ?_)
              obtain ⟨x_91129, ex_91129⟩ : ∃ z : Int32, z = y58_8 + 1 := ⟨_, rfl⟩
              refine lv_iinc (v := x_91129) (lv' := [(8, .int x_91129), (7, .int x_91125), (6, .int y58_8), (9, .int x_91125), (0, .ref (ad 0 0)), (1, .int i1), (2, .int i2), (3, .int i3), (4, .int i4), (5, .int y58_5)]) hx hb dX11_copy_110 hl (k := 9) rfl (by rw [ex_91129]; rfl) (by decide) rfl (fun ls hl => ?_)
              refine lv_goto (tgt := 58) hx hb dX11_copy_113 (by decide) ?_
              exact ih58 _ (by rw [← hm58]; exact ms_up (m := 1) ex_91129 (show bn 1 1 (1 : Int32) from bn_k (by decide)) B_91127 (bn_w (bn_eq ex_91129 (bn_add B_91127 (show bn 1 1 (1 : Int32) from bn_k (by decide)) (by decide))) (by decide) : bn 0 61 x_91129) (by decide)) y58_5 y58_8 x_91125 x_91129 _ _  _ _ _ I (bn_w B_91127 (by decide)) (bn_w (bn_eq ex_91129 (bn_add B_91127 (show bn 1 1 (1 : Int32) from bn_k (by decide)) (by decide))) (by decide)) rfl Y (lv_sub hl [4, 5, 6, 7, 8, 9, 2, 1, 0] rfl)
            · have B_91128 : bn 1 60 y58_8 := bn_w (bn_nel c_91126 B_91093 (show bn 0 0 (0 : Int32) from bn_k (by decide))) (by decide)
              refine lv_iload hx hb dX11_copy_95 (lv_at hl 0 rfl) ?_
              refine lv_iload hx hb dX11_copy_97 (lv_at hl 8 rfl) ?_
              refine lv_icmp_ge (tgt := 110) hx hb dX11_copy_99 (by decide) (fun c_91130 => ?_) (fun c_91130 => ?_)
              · obtain ⟨x_91133, ex_91133⟩ : ∃ z : Int32, z = y58_8 + 1 := ⟨_, rfl⟩
                refine lv_iinc (v := x_91133) (lv' := [(8, .int x_91133), (9, .int x_91125), (0, .ref (ad 0 0)), (1, .int i1), (2, .int i2), (3, .int i3), (4, .int i4), (5, .int y58_5), (6, .int y58_6), (7, .int y58_7)]) hx hb dX11_copy_110 hl (k := 9) rfl (by rw [ex_91133]; rfl) (by decide) rfl (fun ls hl => ?_)
                refine lv_goto (tgt := 58) hx hb dX11_copy_113 (by decide) ?_
                exact ih58 _ (by rw [← hm58]; exact ms_up (m := 1) ex_91133 (show bn 1 1 (1 : Int32) from bn_k (by decide)) B_91128 (bn_w (bn_eq ex_91133 (bn_add B_91128 (show bn 1 1 (1 : Int32) from bn_k (by decide)) (by decide))) (by decide) : bn 0 61 x_91133) (by decide)) y58_5 y58_6 y58_7 x_91133 _ _  _ _ _ I (bn_w b_y58_6 (by decide)) (bn_w (bn_eq ex_91133 (bn_add B_91128 (show bn 1 1 (1 : Int32) from bn_k (by decide)) (by decide))) (by decide)) rfl Y (lv_sub hl [2, 3, 4, 5, 6, 7, 8, 9, 0] rfl)
              · have B_91131 : bn (-2147483647) 2147483647 y58_7 := bn_w (bn_gtl c_91130 (bn_any y58_7) (bn_any x_91125)) (by decide)
                have B_91132 : bn (-2147483648) 2147483646 x_91125 := bn_w (bn_gtr c_91130 (bn_any y58_7) (bn_any x_91125)) (by decide)
                refine lv_iload hx hb dX11_copy_102 (lv_at hl 9 rfl) ?_
                refine lv_istore (lv' := [(6, .int y58_8), (9, .int x_91125), (0, .ref (ad 0 0)), (1, .int i1), (2, .int i2), (3, .int i3), (4, .int i4), (5, .int y58_5), (7, .int y58_7), (8, .int y58_8)]) hx hb dX11_copy_104 hl (by decide) rfl (fun ls hl => ?_)
                refine lv_iload hx hb dX11_copy_106 (lv_at hl 1 rfl) ?_
                refine lv_istore (lv' := [(7, .int x_91125), (6, .int y58_8), (9, .int x_91125), (0, .ref (ad 0 0)), (1, .int i1), (2, .int i2), (3, .int i3), (4, .int i4), (5, .int y58_5), (8, .int y58_8)]) hx hb dX11_copy_108 hl (by decide) rfl (fun ls hl => ?_)
                obtain ⟨x_91134, ex_91134⟩ : ∃ z : Int32, z = y58_8 + 1 := ⟨_, rfl⟩
                refine lv_iinc (v := x_91134) (lv' := [(8, .int x_91134), (7, .int x_91125), (6, .int y58_8), (9, .int x_91125), (0, .ref (ad 0 0)), (1, .int i1), (2, .int i2), (3, .int i3), (4, .int i4), (5, .int y58_5)]) hx hb dX11_copy_110 hl (k := 9) rfl (by rw [ex_91134]; rfl) (by decide) rfl (fun ls hl => ?_)
                refine lv_goto (tgt := 58) hx hb dX11_copy_113 (by decide) ?_
                exact ih58 _ (by rw [← hm58]; exact ms_up (m := 1) ex_91134 (show bn 1 1 (1 : Int32) from bn_k (by decide)) B_91128 (bn_w (bn_eq ex_91134 (bn_add B_91128 (show bn 1 1 (1 : Int32) from bn_k (by decide)) (by decide))) (by decide) : bn 0 61 x_91134) (by decide)) y58_5 y58_8 x_91125 x_91134 _ _  _ _ _ I (bn_w B_91128 (by decide)) (bn_w (bn_eq ex_91134 (bn_add B_91128 (show bn 1 1 (1 : Int32) from bn_k (by decide)) (by decide))) (by decide)) rfl Y (lv_sub hl [4, 5, 6, 7, 8, 9, 2, 1, 0] rfl)
  refine lv_aload_n hx hb dX11_copy_0 rfl (lv_at hl 0 rfl) ?_
  have p_ad_0_0 := opnC_0 (j := 0) I (by decide)
  have p_ad_0_0 : pt L f (ad 0 0) (.inr (11, [.ref (ad 1 0), .ref (ad 1 1), .ref (ad 2 0), .ref (ad 3 0), .ref (ad 4 0), .ref (ad 5 0), .ref (ad 6 0), .ref (ad 7 0), .ref (ad 8 0)])) := p_ad_0_0
  refine pg_get S Y ok_X11 0 (by decide) kf11_13 (v := .ref (ad 1 0)) p_ad_0_0 rfl dX11_copy_1 ?_
  obtain ⟨v_91135, v_91137, v_91139, v_91141, v_91143, p_ad_1_0, b_91136, b_91138, b_91140, b_91142, b_91144⟩ := opnC_1 (j := 0) I (by decide)
  have p_ad_1_0 : pt L f (ad 1 0) (.inr (10, [.ref (ad 40 0), .ref (ad 41 0), .ref (ad 42 0), .ref (ad 10 0), .ref (ad 43 0), .ref (ad 20 0), .ref (ad 20 1), .ref (ad 20 2), .ref (ad 20 3), .ref (ad 20 4), .int v_91135, .int v_91137, .int v_91139, .int v_91141, .int v_91143])) := p_ad_1_0
  refine pg_getN S Y ok_X10 3 (by decide) kf11_131 (v := .ref (ad 10 0)) p_ad_1_0 rfl dX11_copy_4 ?_
  refine lv_iload_n hx hb dX11_copy_7 rfl (lv_at hl 1 rfl) ?_
  refine cVp (As := [.int i1]) (rest := []) S Y (x_X4_unreleased (l := l) (j := 0) I hW hT hQ (by decide)) cw_X4_unreleased km11_322 (I.opo (k := 10) (j := 0) (by decide) rfl).choose_spec.1 ok_X4.1 rfl rfl ⟨Nat.le_of_ble_eq_true rfl, Nat.le_of_ble_eq_true rfl⟩ hl.1 rfl (Nat.le_of_ble_eq_true rfl) ⟨Nat.le_of_ble_eq_true rfl, Nat.le_of_ble_eq_true rfl⟩ dX11_copy_8 (fun r_91145 H locs er_91145 Y => ?_)
  refine lv_if_eq (tgt := 35) hx hb dX11_copy_11 (by decide) (fun c_91146 => ?_) (fun c_91146 => ?_)
  · have B_91147 : bn 0 0 r_91145 := bn_w (bn_eq c_91146 (show bn 0 0 (0 : Int32) from bn_k (by decide))) (by decide)
    refine lv_ldcw (v := (-100000)) hx hb S.ow (S.w kk11_325) dX11_copy_35 ?_
    exact prI (post := fun r L1 f1 => SH (spC ((NR 30 0 4, fz (pp nL) FI FI FI FI FI FI (pp kF) (pp pF), tz (EQ bT) TA TA TA, sc0) : RS) ((0, 6) : Int × Int) tc w q) nnC G ad L1 f1) S Y rfl (by decide) (by decide) hA1 I dX11_copy_38
  · have B_91148 : bn 1 1 r_91145 := bn_w (bn_nel c_91146 er_91145 (show bn 0 0 (0 : Int32) from bn_k (by decide))) (by decide)
    refine lv_iload_n hx hb dX11_copy_14 rfl (lv_at hl 2 rfl) ?_
    refine lv_iconst (v := 0) hx hb dX11_copy_15 (by decide) ?_
    refine lv_bipush (v := 99) hx hb dX11_copy_16 (by decide) ?_
    refine cSp (As := [.int i2, .int 0, .int 99]) (rest := []) S Y (x_X11_within (l := l) ) cw_X11_within km11_146 rfl ⟨Nat.le_of_ble_eq_true rfl, Nat.le_of_ble_eq_true rfl⟩ hl.1 rfl (Nat.le_of_ble_eq_true rfl) ⟨Nat.le_of_ble_eq_true rfl, Nat.le_of_ble_eq_true rfl⟩ dX11_copy_18 (fun r_91149 H locs er_91149 Y => ?_)
    refine lv_if_eq (tgt := 35) hx hb dX11_copy_21 (by decide) (fun c_91150 => ?_) (fun c_91150 => ?_)
    · have B_91151 : bn 0 0 r_91149 := bn_w (bn_eq c_91150 (show bn 0 0 (0 : Int32) from bn_k (by decide))) (by decide)
      refine lv_ldcw (v := (-100000)) hx hb S.ow (S.w kk11_325) dX11_copy_35 ?_
      exact prI (post := fun r L1 f1 => SH (spC ((NR 30 0 4, fz (pp nL) FI FI FI FI FI FI (pp kF) (pp pF), tz (EQ bT) TA TA TA, sc0) : RS) ((0, 6) : Int × Int) tc w q) nnC G ad L1 f1) S Y rfl (by decide) (by decide) hA1 I dX11_copy_38
    · have B_91152 : bn 1 1 r_91149 := bn_w (bn_nel c_91150 er_91149 (show bn 0 0 (0 : Int32) from bn_k (by decide))) (by decide)
      refine lv_iload_n hx hb dX11_copy_24 rfl (lv_at hl 3 rfl) ?_
      refine lv_iconst (v := 0) hx hb dX11_copy_25 (by decide) ?_
      refine lv_sipush (v := 9999) hx hb dX11_copy_26 (by decide) ?_
      refine cSp (As := [.int i3, .int 0, .int 9999]) (rest := []) S Y (x_X11_within (l := l) ) cw_X11_within km11_146 rfl ⟨Nat.le_of_ble_eq_true rfl, Nat.le_of_ble_eq_true rfl⟩ hl.1 rfl (Nat.le_of_ble_eq_true rfl) ⟨Nat.le_of_ble_eq_true rfl, Nat.le_of_ble_eq_true rfl⟩ dX11_copy_29 (fun r_91153 H locs er_91153 Y => ?_)
      refine lv_if_ne (tgt := 39) hx hb dX11_copy_32 (by decide) (fun c_91154 => ?_) (fun c_91154 => ?_)
      · have B_91155 : bn 1 1 r_91153 := bn_w (bn_nel c_91154 er_91153 (show bn 0 0 (0 : Int32) from bn_k (by decide))) (by decide)
        refine lv_aload_n hx hb dX11_copy_39 rfl (lv_at hl 0 rfl) ?_
        refine pg_get S Y ok_X11 6 (by decide) kf11_59 (v := .ref (ad 6 0)) p_ad_0_0 rfl dX11_copy_40 ?_
        refine lv_iload_n hx hb dX11_copy_43 rfl (lv_at hl 1 rfl) ?_
        refine cVi (As := [.int i1]) (rest := []) S Y (x_X2_daysToFade (l := l) I hW hT hQ) cw_X2_daysToFade km11_246 (I.opo (k := 6) (j := 0) (by decide) rfl).choose_spec.1 ok_X2.1 rfl rfl ⟨Nat.le_of_ble_eq_true rfl, Nat.le_of_ble_eq_true rfl⟩ hl.1 rfl (Nat.le_of_ble_eq_true rfl) ⟨Nat.le_of_ble_eq_true rfl, Nat.le_of_ble_eq_true rfl⟩ dX11_copy_44 (fun r_91159 L_91157 f_91158 H locs I Y => ?_)
        refine lv_istore (lv' := [(5, .int r_91159), (0, .ref (ad 0 0)), (1, .int i1), (2, .int i2), (3, .int i3), (4, .int i4)]) hx hb dX11_copy_47 hl (by decide) rfl (fun ls hl => ?_)
        refine lv_iconst (v := 0) hx hb dX11_copy_49 (by decide) ?_
        refine lv_istore (lv' := [(6, .int 0), (5, .int r_91159), (0, .ref (ad 0 0)), (1, .int i1), (2, .int i2), (3, .int i3), (4, .int i4)]) hx hb dX11_copy_50 hl (by decide) rfl (fun ls hl => ?_)
        refine lv_iconst (v := 0) hx hb dX11_copy_52 (by decide) ?_
        refine lv_istore (lv' := [(7, .int 0), (6, .int 0), (5, .int r_91159), (0, .ref (ad 0 0)), (1, .int i1), (2, .int i2), (3, .int i3), (4, .int i4)]) hx hb dX11_copy_53 hl (by decide) rfl (fun ls hl => ?_)
        refine lv_iconst (v := 0) hx hb dX11_copy_55 (by decide) ?_
        refine lv_istore (lv' := [(8, .int 0), (7, .int 0), (6, .int 0), (5, .int r_91159), (0, .ref (ad 0 0)), (1, .int i1), (2, .int i2), (3, .int i3), (4, .int i4)]) hx hb dX11_copy_56 hl (by decide) rfl (fun ls hl => ?_)
        exact J_58 _ r_91159 0 0 0 _ _  _ _ _ I (bn_w (show bn 0 0 (0 : Int32) from bn_k (by decide)) (by decide)) (bn_w (show bn 0 0 (0 : Int32) from bn_k (by decide)) (by decide)) rfl Y (lv_sub hl [4, 5, 6, 7, 8, 3, 2, 1, 0] rfl)
      · have B_91156 : bn 0 0 r_91153 := bn_w (bn_eq c_91154 (show bn 0 0 (0 : Int32) from bn_k (by decide))) (by decide)
        refine lv_ldcw (v := (-100000)) hx hb S.ow (S.w kk11_325) dX11_copy_35 ?_
        exact prI (post := fun r L1 f1 => SH (spC ((NR 30 0 4, fz (pp nL) FI FI FI FI FI FI (pp kF) (pp pF), tz (EQ bT) TA TA TA, sc0) : RS) ((0, 6) : Int × Int) tc w q) nnC G ad L1 f1) S Y rfl (by decide) (by decide) hA1 I dX11_copy_38
set_option maxHeartbeats 4000000 in
set_option maxRecDepth 100000 in
theorem x_X11_worn {l : Launch} {G : GG}  {L : List Nat} {f : HF} {ad : Nat → Nat → Nat} {nL : Int} {bT : Nat → Int32} {kF : Int} {pF : Int} {tc w : Nat → Int × Int} {q : Nat → (Nat → Int32) → Prop} {i1 i2 : Int32} (I : SH (spC ((NR 30 0 4, fz (pp nL) FI FI FI FI FI FI (pp kF) (pp pF), tz (EQ bT) TA TA TA, sc0) : RS) ((0, 6) : Int × Int) tc w q) nnC G ad L f) (hW : WBp w 8) (hT : WBp tc 4) (hQ : QIp q) (hZ : ZZp w q) (hE : ∀ j, (tc j).1 = (tc j).2) : PMi l yX11_worn cX11_worn 3 .int 1 0 0 G [.ref (ad 0 0), .int i1, .int i2] L f (fun r L1 f1 => SH (spC ((NR 30 0 4, fz (pp nL) FI FI FI FI FI FI (pp kF) (pp pF), tz (EQ bT) TA TA TA, sc0) : RS) ((0, 6) : Int × Int) tc w q) nnC G ad L1 f1) := by
  refine PMi.of (post := fun r L1 f1 => SH (spC ((NR 30 0 4, fz (pp nL) FI FI FI FI FI FI (pp kF) (pp pF), tz (EQ bT) TA TA TA, sc0) : RS) ((0, 6) : Int × Int) tc w q) nnC G ad L1 f1) (own := RX11) (by decide) rfl (Nat.le_of_ble_eq_true rfl) (fun sz p e s m args below meth c A ls hA1 hname S Y hl => ?_)
  have hx := S.hx
  have hb := S.hb
  have hl : lv_has ls 3 [(0, .ref (ad 0 0)), (1, .int i1), (2, .int i2)] := hl
  refine lv_iload_n hx hb dX11_worn_0 rfl (lv_at hl 1 rfl) ?_
  refine lv_iconst (v := (-1)) hx hb dX11_worn_1 (by decide) ?_
  refine lv_icmp_ne (tgt := 16) hx hb dX11_worn_2 (by decide) (fun c_91232 => ?_) (fun c_91232 => ?_)
  · refine lv_aload_n hx hb dX11_worn_16 rfl (lv_at hl 0 rfl) ?_
    have p_ad_0_0 := opnC_0 (j := 0) I (by decide)
    have p_ad_0_0 : pt L f (ad 0 0) (.inr (11, [.ref (ad 1 0), .ref (ad 1 1), .ref (ad 2 0), .ref (ad 3 0), .ref (ad 4 0), .ref (ad 5 0), .ref (ad 6 0), .ref (ad 7 0), .ref (ad 8 0)])) := p_ad_0_0
    refine pg_get S Y ok_X11 0 (by decide) kf11_13 (v := .ref (ad 1 0)) p_ad_0_0 rfl dX11_worn_17 ?_
    obtain ⟨v_91234, v_91236, v_91238, v_91240, v_91242, p_ad_1_0, b_91235, b_91237, b_91239, b_91241, b_91243⟩ := opnC_1 (j := 0) I (by decide)
    have p_ad_1_0 : pt L f (ad 1 0) (.inr (10, [.ref (ad 40 0), .ref (ad 41 0), .ref (ad 42 0), .ref (ad 10 0), .ref (ad 43 0), .ref (ad 20 0), .ref (ad 20 1), .ref (ad 20 2), .ref (ad 20 3), .ref (ad 20 4), .int v_91234, .int v_91236, .int v_91238, .int v_91240, .int v_91242])) := p_ad_1_0
    refine pg_getN S Y ok_X10 3 (by decide) kf11_131 (v := .ref (ad 10 0)) p_ad_1_0 rfl dX11_worn_20 ?_
    refine lv_iload_n hx hb dX11_worn_23 rfl (lv_at hl 1 rfl) ?_
    refine cVp (As := [.int i1]) (rest := []) S Y (x_X4_has (l := l) (j := 0) I hW hT hQ (by decide)) cw_X4_has km11_211 (I.opo (k := 10) (j := 0) (by decide) rfl).choose_spec.1 ok_X4.1 rfl rfl ⟨Nat.le_of_ble_eq_true rfl, Nat.le_of_ble_eq_true rfl⟩ hl.1 rfl (Nat.le_of_ble_eq_true rfl) ⟨Nat.le_of_ble_eq_true rfl, Nat.le_of_ble_eq_true rfl⟩ dX11_worn_24 (fun r_91244 H locs er_91244 Y => ?_)
    refine lv_if_eq (tgt := 40) hx hb dX11_worn_27 (by decide) (fun c_91245 => ?_) (fun c_91245 => ?_)
    · have B_91246 : bn 0 0 r_91244 := bn_w (bn_eq c_91245 (show bn 0 0 (0 : Int32) from bn_k (by decide))) (by decide)
      refine lv_bipush (v := (-2)) hx hb dX11_worn_40 (by decide) ?_
      exact prI (post := fun r L1 f1 => SH (spC ((NR 30 0 4, fz (pp nL) FI FI FI FI FI FI (pp kF) (pp pF), tz (EQ bT) TA TA TA, sc0) : RS) ((0, 6) : Int × Int) tc w q) nnC G ad L1 f1) S Y rfl (by decide) (by decide) hA1 I dX11_worn_42
    · have B_91247 : bn 1 1 r_91244 := bn_w (bn_nel c_91245 er_91244 (show bn 0 0 (0 : Int32) from bn_k (by decide))) (by decide)
      refine lv_iload_n hx hb dX11_worn_30 rfl (lv_at hl 2 rfl) ?_
      refine lv_iconst (v := 0) hx hb dX11_worn_31 (by decide) ?_
      refine lv_bipush (v := 99) hx hb dX11_worn_32 (by decide) ?_
      refine cSp (As := [.int i2, .int 0, .int 99]) (rest := []) S Y (x_X11_within (l := l) ) cw_X11_within km11_146 rfl ⟨Nat.le_of_ble_eq_true rfl, Nat.le_of_ble_eq_true rfl⟩ hl.1 rfl (Nat.le_of_ble_eq_true rfl) ⟨Nat.le_of_ble_eq_true rfl, Nat.le_of_ble_eq_true rfl⟩ dX11_worn_34 (fun r_91248 H locs er_91248 Y => ?_)
      refine lv_if_ne (tgt := 43) hx hb dX11_worn_37 (by decide) (fun c_91249 => ?_) (fun c_91249 => ?_)
      · have B_91250 : bn 1 1 r_91248 := bn_w (bn_nel c_91249 er_91248 (show bn 0 0 (0 : Int32) from bn_k (by decide))) (by decide)
        refine lv_aload_n hx hb dX11_worn_43 rfl (lv_at hl 0 rfl) ?_
        refine pg_get S Y ok_X11 0 (by decide) kf11_13 (v := .ref (ad 1 0)) p_ad_0_0 rfl dX11_worn_44 ?_
        refine pg_getN S Y ok_X10 9 (by decide) kf11_326 (v := .ref (ad 20 4)) p_ad_1_0 rfl dX11_worn_47 ?_
        refine lv_iload_n hx hb dX11_worn_50 rfl (lv_at hl 1 rfl) ?_
        refine lv_iload_n hx hb dX11_worn_51 rfl (lv_at hl 2 rfl) ?_
        refine lv_iconst (v := 0) hx hb dX11_worn_52 (by decide) ?_
        refine cVi (As := [.int i1, .int i2, .int 0]) (rest := []) S Y (x_X9_tell (l := l) (j := 4) I hW hT hQ (by decide) (hZ _ (by decide) (by decide) (by decide)).1 (hZ _ (by decide) (by decide) (by decide)).2) cw_X9_tell km11_258 (I.opo (k := 20) (j := 4) (by decide) rfl).choose_spec.1 ok_X9.1 rfl rfl ⟨Nat.le_of_ble_eq_true rfl, Nat.le_of_ble_eq_true rfl⟩ hl.1 rfl (Nat.le_of_ble_eq_true rfl) ⟨Nat.le_of_ble_eq_true rfl, Nat.le_of_ble_eq_true rfl⟩ dX11_worn_53 (fun r_91254 L_91252 f_91253 H locs I Y => ?_)
        exact prI (post := fun r L1 f1 => SH (spC ((NR 30 0 4, fz (pp nL) FI FI FI FI FI FI (pp kF) (pp pF), tz (EQ bT) TA TA TA, sc0) : RS) ((0, 6) : Int × Int) tc w q) nnC G ad L1 f1) S Y rfl (by decide) (by decide) hA1 I dX11_worn_56
      · have B_91251 : bn 0 0 r_91248 := bn_w (bn_eq c_91249 (show bn 0 0 (0 : Int32) from bn_k (by decide))) (by decide)
        refine lv_bipush (v := (-2)) hx hb dX11_worn_40 (by decide) ?_
        exact prI (post := fun r L1 f1 => SH (spC ((NR 30 0 4, fz (pp nL) FI FI FI FI FI FI (pp kF) (pp pF), tz (EQ bT) TA TA TA, sc0) : RS) ((0, 6) : Int × Int) tc w q) nnC G ad L1 f1) S Y rfl (by decide) (by decide) hA1 I dX11_worn_42
  · have B_91233 : bn (-1) (-1) i1 := bn_w (bn_eq c_91232 (show bn (-1) (-1) ((-1) : Int32) from bn_k (by decide))) (by decide)
    refine lv_aload_n hx hb dX11_worn_5 rfl (lv_at hl 0 rfl) ?_
    have p_ad_0_0 := opnC_0 (j := 0) I (by decide)
    have p_ad_0_0 : pt L f (ad 0 0) (.inr (11, [.ref (ad 1 0), .ref (ad 1 1), .ref (ad 2 0), .ref (ad 3 0), .ref (ad 4 0), .ref (ad 5 0), .ref (ad 6 0), .ref (ad 7 0), .ref (ad 8 0)])) := p_ad_0_0
    refine pg_get S Y ok_X11 0 (by decide) kf11_13 (v := .ref (ad 1 0)) p_ad_0_0 rfl dX11_worn_6 ?_
    obtain ⟨v_91255, v_91257, v_91259, v_91261, v_91263, p_ad_1_0, b_91256, b_91258, b_91260, b_91262, b_91264⟩ := opnC_1 (j := 0) I (by decide)
    have p_ad_1_0 : pt L f (ad 1 0) (.inr (10, [.ref (ad 40 0), .ref (ad 41 0), .ref (ad 42 0), .ref (ad 10 0), .ref (ad 43 0), .ref (ad 20 0), .ref (ad 20 1), .ref (ad 20 2), .ref (ad 20 3), .ref (ad 20 4), .int v_91255, .int v_91257, .int v_91259, .int v_91261, .int v_91263])) := p_ad_1_0
    refine pg_getN S Y ok_X10 9 (by decide) kf11_326 (v := .ref (ad 20 4)) p_ad_1_0 rfl dX11_worn_9 ?_
    refine cVi (As := []) (rest := []) S Y (x_X9_forget (l := l) (j := 4) I hW hT hQ (by decide) (hZ _ (by decide) (by decide) (by decide)).1 (hZ _ (by decide) (by decide) (by decide)).2) cw_X9_forget km11_253 (I.opo (k := 20) (j := 4) (by decide) rfl).choose_spec.1 ok_X9.1 rfl rfl ⟨Nat.le_of_ble_eq_true rfl, Nat.le_of_ble_eq_true rfl⟩ hl.1 rfl (Nat.le_of_ble_eq_true rfl) ⟨Nat.le_of_ble_eq_true rfl, Nat.le_of_ble_eq_true rfl⟩ dX11_worn_12 (fun r_91267 L_91265 f_91266 H locs hr_91267 Y => ?_)
    obtain ⟨er_91267, I⟩ := hr_91267
    exact prI (post := fun r L1 f1 => SH (spC ((NR 30 0 4, fz (pp nL) FI FI FI FI FI FI (pp kF) (pp pF), tz (EQ bT) TA TA TA, sc0) : RS) ((0, 6) : Int × Int) tc w q) nnC G ad L1 f1) S Y rfl (by decide) (by decide) hA1 I dX11_worn_15
set_option maxHeartbeats 4000000 in
set_option maxRecDepth 100000 in
theorem x_X11_whose {l : Launch} {G : GG}  {L : List Nat} {f : HF} {ad : Nat → Nat → Nat} {nL : Int} {bT : Nat → Int32} {kF : Int} {pF : Int} {tc w : Nat → Int × Int} {q : Nat → (Nat → Int32) → Prop} (I : SH (spC ((NR 30 0 4, fz (pp nL) FI FI FI FI FI FI (pp kF) (pp pF), tz (EQ bT) TA TA TA, sc0) : RS) ((0, 6) : Int × Int) tc w q) nnC G ad L f) (hW : WBp w 8) (hT : WBp tc 4) (hQ : QIp q) (hZ : ZZp w q) (hE : ∀ j, (tc j).1 = (tc j).2) : PMi l yX11_whose cX11_whose 3 .int 5 0 0 G [.ref (ad 0 0)] L f (fun r L1 f1 => SH (spC ((NR 30 0 4, fz (pp nL) FI FI FI FI FI FI (pp kF) (pp pF), tz (EQ bT) TA TA TA, sc0) : RS) ((0, 6) : Int × Int) tc w q) nnC G ad L1 f1) := by
  refine PMi.of (post := fun r L1 f1 => SH (spC ((NR 30 0 4, fz (pp nL) FI FI FI FI FI FI (pp kF) (pp pF), tz (EQ bT) TA TA TA, sc0) : RS) ((0, 6) : Int × Int) tc w q) nnC G ad L1 f1) (own := RX11) (by decide) rfl (Nat.le_of_ble_eq_true rfl) (fun sz p e s m args below meth c A ls hA1 hname S Y hl => ?_)
  have hx := S.hx
  have hb := S.hb
  have hl : lv_has ls 3 [(0, .ref (ad 0 0))] := hl
  have J_4 : ∀ (n4 : Nat) (y4_1 y4_2 : Int32) (L_4 : List Nat) (f_4 : HF) (H : Heap) (locs : List Loc) (ls : Array Slot), (SH (spC ((NR 30 0 4, fz (pp nL) FI FI FI FI FI FI (pp kF) (pp pF), tz (EQ bT) TA TA TA, sc0) : RS) ((0, 6) : Int × Int) tc w q) nnC G ad L_4 f_4) → (bn 0 15 y4_1) → (bn 0 4 y4_2) → (((4 : Int) - y4_2.toInt).toNat = n4) → (DY G A s [] L_4 f_4 H locs) → (lv_has ls 3 [(0, .ref (ad 0 0)), (1, .int y4_1), (2, .int y4_2)]) → W p l e (rmD 5 0 0) s m args below meth c H locs (0) (0) (MQ below (va_Qi (fun r (u : List Nat × HF) => (fun r L1 f1 => SH (spC ((NR 30 0 4, fz (pp nL) FI FI FI FI FI FI (pp kF) (pp pF), tz (EQ bT) TA TA TA, sc0) : RS) ((0, 6) : Int × Int) tc w q) nnC G ad L1 f1) r u.1 u.2) (fun u t => pOut G (va_A (va_pl L f) sz) u.1 u.2 t) (va_A (va_pl L f) sz)) args s 0 0 A) (F0 m 4 ls []) := by
    intro n4
    induction n4 using Nat.strongRecOn with
    | _ n4 ih4 =>
      intro y4_1 y4_2 L_4 f_4 H locs ls I b_y4_1 b_y4_2 hm4 Y hl
      refine lv_iload_n hx hb dX11_whose_4 rfl (lv_at hl 2 rfl) ?_
      refine lv_aload_n hx hb dX11_whose_5 rfl (lv_at hl 0 rfl) ?_
      have p_ad_0_0 := opnC_0 (j := 0) I (by decide)
      have p_ad_0_0 : pt L_4 f_4 (ad 0 0) (.inr (11, [.ref (ad 1 0), .ref (ad 1 1), .ref (ad 2 0), .ref (ad 3 0), .ref (ad 4 0), .ref (ad 5 0), .ref (ad 6 0), .ref (ad 7 0), .ref (ad 8 0)])) := p_ad_0_0
      refine pg_get S Y ok_X11 0 (by decide) kf11_13 (v := .ref (ad 1 0)) p_ad_0_0 rfl dX11_whose_6 ?_
      obtain ⟨v_91406, v_91408, v_91410, v_91412, v_91414, p_ad_1_0, b_91407, b_91409, b_91411, b_91413, b_91415⟩ := opnC_1 (j := 0) I (by decide)
      have p_ad_1_0 : pt L_4 f_4 (ad 1 0) (.inr (10, [.ref (ad 40 0), .ref (ad 41 0), .ref (ad 42 0), .ref (ad 10 0), .ref (ad 43 0), .ref (ad 20 0), .ref (ad 20 1), .ref (ad 20 2), .ref (ad 20 3), .ref (ad 20 4), .int v_91406, .int v_91408, .int v_91410, .int v_91412, .int v_91414])) := p_ad_1_0
      refine pg_getN S Y ok_X10 11 (by decide) kf11_329 (v := .int v_91408) p_ad_1_0 rfl dX11_whose_9 ?_
      refine lv_icmp_ge (tgt := 38) hx hb dX11_whose_12 (by decide) (fun c_91416 => ?_) (fun c_91416 => ?_)
      · refine lv_iload_n hx hb dX11_whose_38 rfl (lv_at hl 1 rfl) ?_
        exact prI (post := fun r L1 f1 => SH (spC ((NR 30 0 4, fz (pp nL) FI FI FI FI FI FI (pp kF) (pp pF), tz (EQ bT) TA TA TA, sc0) : RS) ((0, 6) : Int × Int) tc w q) nnC G ad L1 f1) S Y rfl (by decide) (by decide) hA1 I dX11_whose_39
      · have B_91417 : bn 1 4 v_91408 := bn_w (bn_gtl c_91416 (bn_w (a' := 0) (b' := 4) b_91409 (hT 0)) b_y4_2) (by decide)
        have B_91418 : bn 0 3 y4_2 := bn_w (bn_gtr c_91416 (bn_w (a' := 0) (b' := 4) b_91409 (hT 0)) b_y4_2) (by decide)
        refine lv_aload_n hx hb dX11_whose_15 rfl (lv_at hl 0 rfl) ?_
        refine pg_get S Y ok_X11 3 (by decide) kf11_34 (v := .ref (ad 3 0)) p_ad_0_0 rfl dX11_whose_16 ?_
        refine lv_iload_n hx hb dX11_whose_19 rfl (lv_at hl 2 rfl) ?_
        refine cVi (As := [.int y4_2]) (rest := []) S Y (x_X3_explains (l := l) I hW hT hQ) cw_X3_explains km11_332 (I.opo (k := 3) (j := 0) (by decide) rfl).choose_spec.1 ok_X3.1 rfl rfl ⟨Nat.le_of_ble_eq_true rfl, Nat.le_of_ble_eq_true rfl⟩ hl.1 rfl (Nat.le_of_ble_eq_true rfl) ⟨Nat.le_of_ble_eq_true rfl, Nat.le_of_ble_eq_true rfl⟩ dX11_whose_20 (fun r_91421 L_91419 f_91420 H locs hr_91421 Y => ?_)
        obtain ⟨er_91421, I⟩ := hr_91421
        refine lv_if_eq (tgt := 32) hx hb dX11_whose_23 (by decide) (fun c_91422 => ?_) (fun c_91422 => ?_)
        · have B_91423 : bn 0 0 r_91421 := bn_w (bn_eq c_91422 (show bn 0 0 (0 : Int32) from bn_k (by decide))) (by decide)
          obtain ⟨x_91425, ex_91425⟩ : ∃ z : Int32, z = y4_2 + 1 := ⟨_, rfl⟩
          refine lv_iinc (v := x_91425) (lv' := [(2, .int x_91425), (0, .ref (ad 0 0)), (1, .int y4_1)]) hx hb dX11_whose_32 hl (k := 2) rfl (by rw [ex_91425]; rfl) (by decide) rfl (fun ls hl => ?_)
          refine lv_goto (tgt := 4) hx hb dX11_whose_35 (by decide) ?_
          exact ih4 _ (by rw [← hm4]; exact ms_up (m := 1) ex_91425 (show bn 1 1 (1 : Int32) from bn_k (by decide)) B_91418 (bn_w (bn_eq ex_91425 (bn_add B_91418 (show bn 1 1 (1 : Int32) from bn_k (by decide)) (by decide))) (by decide) : bn 0 4 x_91425) (by decide)) y4_1 x_91425 _ _  _ _ _ I (bn_w b_y4_1 (by decide)) (bn_w (bn_eq ex_91425 (bn_add B_91418 (show bn 1 1 (1 : Int32) from bn_k (by decide)) (by decide))) (by decide)) rfl Y (lv_sub hl [1, 2, 0] rfl)
        · have B_91424 : bn 1 1 r_91421 := bn_w (bn_nel c_91422 er_91421 (show bn 0 0 (0 : Int32) from bn_k (by decide))) (by decide)
          refine lv_iload_n hx hb dX11_whose_26 rfl (lv_at hl 1 rfl) ?_
          refine lv_iconst (v := 1) hx hb dX11_whose_27 (by decide) ?_
          refine lv_iload_n hx hb dX11_whose_28 rfl (lv_at hl 2 rfl) ?_
          refine lv_ishl hx hb dX11_whose_29 ?_
          refine lv_topi (fun x_91426 ex_91426 => ?_)
          refine lv_ior hx hb dX11_whose_30 ?_
          refine lv_topi (fun x_91427 ex_91427 => ?_)
          refine lv_istore_n (lv' := [(1, .int x_91427), (0, .ref (ad 0 0)), (2, .int y4_2)]) hx hb dX11_whose_31 rfl hl (by decide) rfl (fun ls hl => ?_)
          obtain ⟨x_91428, ex_91428⟩ : ∃ z : Int32, z = y4_2 + 1 := ⟨_, rfl⟩
          refine lv_iinc (v := x_91428) (lv' := [(2, .int x_91428), (1, .int x_91427), (0, .ref (ad 0 0))]) hx hb dX11_whose_32 hl (k := 2) rfl (by rw [ex_91428]; rfl) (by decide) rfl (fun ls hl => ?_)
          refine lv_goto (tgt := 4) hx hb dX11_whose_35 (by decide) ?_
          exact ih4 _ (by rw [← hm4]; exact ms_up (m := 1) ex_91428 (show bn 1 1 (1 : Int32) from bn_k (by decide)) B_91418 (bn_w (bn_eq ex_91428 (bn_add B_91418 (show bn 1 1 (1 : Int32) from bn_k (by decide)) (by decide))) (by decide) : bn 0 4 x_91428) (by decide)) x_91427 x_91428 _ _  _ _ _ I (bn_w (bn_eq ex_91427 (bn_or (n := 4) (bn_w b_y4_1 (by decide) : bn 0 15 y4_1) (bn_w (bn_eq ex_91426 (bn_shl (n := 3) (bn_w B_91418 (by decide) : bn 0 3 y4_2) (by decide) (by decide))) (by decide) : bn 0 8 x_91426) (by decide) (by decide))) (by decide)) (bn_w (bn_eq ex_91428 (bn_add B_91418 (show bn 1 1 (1 : Int32) from bn_k (by decide)) (by decide))) (by decide)) rfl Y (lv_sub hl [2, 1, 0] rfl)
  refine lv_iconst (v := 0) hx hb dX11_whose_0 (by decide) ?_
  refine lv_istore_n (lv' := [(1, .int 0), (0, .ref (ad 0 0))]) hx hb dX11_whose_1 rfl hl (by decide) rfl (fun ls hl => ?_)
  refine lv_iconst (v := 0) hx hb dX11_whose_2 (by decide) ?_
  refine lv_istore_n (lv' := [(2, .int 0), (1, .int 0), (0, .ref (ad 0 0))]) hx hb dX11_whose_3 rfl hl (by decide) rfl (fun ls hl => ?_)
  exact J_4 _ 0 0 _ _  _ _ _ I (bn_w (show bn 0 0 (0 : Int32) from bn_k (by decide)) (by decide)) (bn_w (show bn 0 0 (0 : Int32) from bn_k (by decide)) (by decide)) rfl Y (lv_sub hl [2, 1, 0] rfl)
set_option maxHeartbeats 4000000 in
set_option maxRecDepth 100000 in
theorem x_X11_mostSworn {l : Launch} {G : GG}  {L : List Nat} {f : HF} {ad : Nat → Nat → Nat} {nL : Int} {bT : Nat → Int32} {kF : Int} {pF : Int} {tc w : Nat → Int × Int} {q : Nat → (Nat → Int32) → Prop} (I : SH (spC ((NR 30 0 4, fz (pp nL) FI FI FI FI FI FI (pp kF) (pp pF), tz (EQ bT) TA TA TA, sc0) : RS) ((0, 6) : Int × Int) tc w q) nnC G ad L f) (hW : WBp w 8) (hT : WBp tc 4) (hQ : QIp q) (hZ : ZZp w q) (hE : ∀ j, (tc j).1 = (tc j).2) : PMi l yX11_mostSworn cX11_mostSworn 1 .int 5 0 0 G [.ref (ad 0 0)] L f (fun r L1 f1 => SH (spC ((NR 30 0 4, fz (pp nL) FI FI FI FI FI FI (pp kF) (pp pF), tz (EQ bT) TA TA TA, sc0) : RS) ((0, 6) : Int × Int) tc w q) nnC G ad L1 f1) := by
  refine PMi.of (post := fun r L1 f1 => SH (spC ((NR 30 0 4, fz (pp nL) FI FI FI FI FI FI (pp kF) (pp pF), tz (EQ bT) TA TA TA, sc0) : RS) ((0, 6) : Int × Int) tc w q) nnC G ad L1 f1) (own := RX11) (by decide) rfl (Nat.le_of_ble_eq_true rfl) (fun sz p e s m args below meth c A ls hA1 hname S Y hl => ?_)
  have hx := S.hx
  have hb := S.hb
  have hl : lv_has ls 1 [(0, .ref (ad 0 0))] := hl
  refine lv_aload_n hx hb dX11_mostSworn_0 rfl (lv_at hl 0 rfl) ?_
  have p_ad_0_0 := opnC_0 (j := 0) I (by decide)
  have p_ad_0_0 : pt L f (ad 0 0) (.inr (11, [.ref (ad 1 0), .ref (ad 1 1), .ref (ad 2 0), .ref (ad 3 0), .ref (ad 4 0), .ref (ad 5 0), .ref (ad 6 0), .ref (ad 7 0), .ref (ad 8 0)])) := p_ad_0_0
  refine pg_get S Y ok_X11 8 (by decide) kf11_75 (v := .ref (ad 8 0)) p_ad_0_0 rfl dX11_mostSworn_1 ?_
  refine cVp (As := []) (rest := []) S Y (x_X0_mostOften (l := l) I hW hT hQ) cw_X0_mostOften km11_335 (I.opo (k := 8) (j := 0) (by decide) rfl).choose_spec.1 ok_X0.1 rfl rfl ⟨Nat.le_of_ble_eq_true rfl, Nat.le_of_ble_eq_true rfl⟩ hl.1 rfl (Nat.le_of_ble_eq_true rfl) ⟨Nat.le_of_ble_eq_true rfl, Nat.le_of_ble_eq_true rfl⟩ dX11_mostSworn_4 (fun r_91431 H locs er_91431 Y => ?_)
  exact prI (post := fun r L1 f1 => SH (spC ((NR 30 0 4, fz (pp nL) FI FI FI FI FI FI (pp kF) (pp pF), tz (EQ bT) TA TA TA, sc0) : RS) ((0, 6) : Int × Int) tc w q) nnC G ad L1 f1) S Y rfl (by decide) (by decide) hA1 I dX11_mostSworn_7
set_option maxHeartbeats 4000000 in
set_option maxRecDepth 100000 in
theorem x_X11_faithful {l : Launch} {G : GG}  {L : List Nat} {f : HF} {ad : Nat → Nat → Nat} {nL : Int} {bT : Nat → Int32} {kF : Int} {pF : Int} {tc w : Nat → Int × Int} {q : Nat → (Nat → Int32) → Prop} (I : SH (spC ((NR 30 0 4, fz (pp nL) FI FI FI FI FI FI (pp kF) (pp pF), tz (EQ bT) TA TA TA, sc0) : RS) ((0, 6) : Int × Int) tc w q) nnC G ad L f) (hW : WBp w 8) (hT : WBp tc 4) (hQ : QIp q) (hZ : ZZp w q) (hE : ∀ j, (tc j).1 = (tc j).2) : PMi l yX11_faithful cX11_faithful 1 .int 2 0 0 G [.ref (ad 0 0)] L f (fun r L1 f1 => SH (spC ((NR 30 0 4, fz (pp nL) FI FI FI FI FI FI (pp kF) (pp pF), tz (EQ bT) TA TA TA, sc0) : RS) ((0, 6) : Int × Int) tc w q) nnC G ad L1 f1) := by
  refine PMi.of (post := fun r L1 f1 => SH (spC ((NR 30 0 4, fz (pp nL) FI FI FI FI FI FI (pp kF) (pp pF), tz (EQ bT) TA TA TA, sc0) : RS) ((0, 6) : Int × Int) tc w q) nnC G ad L1 f1) (own := RX11) (by decide) rfl (Nat.le_of_ble_eq_true rfl) (fun sz p e s m args below meth c A ls hA1 hname S Y hl => ?_)
  have hx := S.hx
  have hb := S.hb
  have hl : lv_has ls 1 [(0, .ref (ad 0 0))] := hl
  refine lv_aload_n hx hb dX11_faithful_0 rfl (lv_at hl 0 rfl) ?_
  have p_ad_0_0 := opnC_0 (j := 0) I (by decide)
  have p_ad_0_0 : pt L f (ad 0 0) (.inr (11, [.ref (ad 1 0), .ref (ad 1 1), .ref (ad 2 0), .ref (ad 3 0), .ref (ad 4 0), .ref (ad 5 0), .ref (ad 6 0), .ref (ad 7 0), .ref (ad 8 0)])) := p_ad_0_0
  refine pg_get S Y ok_X11 8 (by decide) kf11_75 (v := .ref (ad 8 0)) p_ad_0_0 rfl dX11_faithful_1 ?_
  refine cVp (As := []) (rest := []) S Y (x_X0_unbroken (l := l) I hW hT hQ) cw_X0_unbroken km11_338 (I.opo (k := 8) (j := 0) (by decide) rfl).choose_spec.1 ok_X0.1 rfl rfl ⟨Nat.le_of_ble_eq_true rfl, Nat.le_of_ble_eq_true rfl⟩ hl.1 rfl (Nat.le_of_ble_eq_true rfl) ⟨Nat.le_of_ble_eq_true rfl, Nat.le_of_ble_eq_true rfl⟩ dX11_faithful_4 (fun r_91434 H locs er_91434 Y => ?_)
  exact prI (post := fun r L1 f1 => SH (spC ((NR 30 0 4, fz (pp nL) FI FI FI FI FI FI (pp kF) (pp pF), tz (EQ bT) TA TA TA, sc0) : RS) ((0, 6) : Int × Int) tc w q) nnC G ad L1 f1) S Y rfl (by decide) (by decide) hA1 I dX11_faithful_7
set_option maxHeartbeats 4000000 in
set_option maxRecDepth 100000 in
theorem x_X11_ached {l : Launch} {G : GG}  {L : List Nat} {f : HF} {ad : Nat → Nat → Nat} {nL : Int} {bT : Nat → Int32} {kF : Int} {pF : Int} {tc w : Nat → Int × Int} {q : Nat → (Nat → Int32) → Prop} {i1 : Int32} (I : SH (spC ((NR 30 0 4, fz (pp nL) FI FI FI FI FI FI (pp kF) (pp pF), tz (EQ bT) TA TA TA, sc0) : RS) ((0, 6) : Int × Int) tc w q) nnC G ad L f) (hW : WBp w 8) (hT : WBp tc 4) (hQ : QIp q) (hZ : ZZp w q) (hE : ∀ j, (tc j).1 = (tc j).2) : PMi l yX11_ached cX11_ached 2 .int 2 0 0 G [.ref (ad 0 0), .int i1] L f (fun r L1 f1 => SH (spC ((NR 30 0 4, fz (pp nL) FI FI FI FI FI FI (pp kF) (pp pF), tz (EQ bT) TA TA TA, sc0) : RS) ((0, 6) : Int × Int) tc w q) nnC G ad L1 f1) := by
  refine PMi.of (post := fun r L1 f1 => SH (spC ((NR 30 0 4, fz (pp nL) FI FI FI FI FI FI (pp kF) (pp pF), tz (EQ bT) TA TA TA, sc0) : RS) ((0, 6) : Int × Int) tc w q) nnC G ad L1 f1) (own := RX11) (by decide) rfl (Nat.le_of_ble_eq_true rfl) (fun sz p e s m args below meth c A ls hA1 hname S Y hl => ?_)
  have hx := S.hx
  have hb := S.hb
  have hl : lv_has ls 2 [(0, .ref (ad 0 0)), (1, .int i1)] := hl
  refine lv_iload_n hx hb dX11_ached_0 rfl (lv_at hl 1 rfl) ?_
  refine lv_iconst (v := (-1)) hx hb dX11_ached_1 (by decide) ?_
  refine lv_icmp_eq (tgt := 19) hx hb dX11_ached_2 (by decide) (fun c_91491 => ?_) (fun c_91491 => ?_)
  · have B_91492 : bn (-1) (-1) i1 := bn_w (bn_eq c_91491 (show bn (-1) (-1) ((-1) : Int32) from bn_k (by decide))) (by decide)
    refine lv_aload_n hx hb dX11_ached_19 rfl (lv_at hl 0 rfl) ?_
    have p_ad_0_0 := opnC_0 (j := 0) I (by decide)
    have p_ad_0_0 : pt L f (ad 0 0) (.inr (11, [.ref (ad 1 0), .ref (ad 1 1), .ref (ad 2 0), .ref (ad 3 0), .ref (ad 4 0), .ref (ad 5 0), .ref (ad 6 0), .ref (ad 7 0), .ref (ad 8 0)])) := p_ad_0_0
    refine pg_get S Y ok_X11 0 (by decide) kf11_13 (v := .ref (ad 1 0)) p_ad_0_0 rfl dX11_ached_20 ?_
    obtain ⟨v_91493, v_91495, v_91497, v_91499, v_91501, p_ad_1_0, b_91494, b_91496, b_91498, b_91500, b_91502⟩ := opnC_1 (j := 0) I (by decide)
    have p_ad_1_0 : pt L f (ad 1 0) (.inr (10, [.ref (ad 40 0), .ref (ad 41 0), .ref (ad 42 0), .ref (ad 10 0), .ref (ad 43 0), .ref (ad 20 0), .ref (ad 20 1), .ref (ad 20 2), .ref (ad 20 3), .ref (ad 20 4), .int v_91493, .int v_91495, .int v_91497, .int v_91499, .int v_91501])) := p_ad_1_0
    refine pg_getN S Y ok_X10 3 (by decide) kf11_131 (v := .ref (ad 10 0)) p_ad_1_0 rfl dX11_ached_23 ?_
    refine lv_iload_n hx hb dX11_ached_26 rfl (lv_at hl 1 rfl) ?_
    refine cVp (As := [.int i1]) (rest := []) S Y (x_X4_writtenOf (l := l) (j := 0) I hW hT hQ (by decide)) cw_X4_writtenOf km11_341 (I.opo (k := 10) (j := 0) (by decide) rfl).choose_spec.1 ok_X4.1 rfl rfl ⟨Nat.le_of_ble_eq_true rfl, Nat.le_of_ble_eq_true rfl⟩ hl.1 rfl (Nat.le_of_ble_eq_true rfl) ⟨Nat.le_of_ble_eq_true rfl, Nat.le_of_ble_eq_true rfl⟩ dX11_ached_27 (fun r_91503 H locs er_91503 Y => ?_)
    exact prI (post := fun r L1 f1 => SH (spC ((NR 30 0 4, fz (pp nL) FI FI FI FI FI FI (pp kF) (pp pF), tz (EQ bT) TA TA TA, sc0) : RS) ((0, 6) : Int × Int) tc w q) nnC G ad L1 f1) S Y rfl (by decide) (by decide) hA1 I dX11_ached_30
  · refine lv_aload_n hx hb dX11_ached_5 rfl (lv_at hl 0 rfl) ?_
    have p_ad_0_0 := opnC_0 (j := 0) I (by decide)
    have p_ad_0_0 : pt L f (ad 0 0) (.inr (11, [.ref (ad 1 0), .ref (ad 1 1), .ref (ad 2 0), .ref (ad 3 0), .ref (ad 4 0), .ref (ad 5 0), .ref (ad 6 0), .ref (ad 7 0), .ref (ad 8 0)])) := p_ad_0_0
    refine pg_get S Y ok_X11 0 (by decide) kf11_13 (v := .ref (ad 1 0)) p_ad_0_0 rfl dX11_ached_6 ?_
    refine lv_iload_n hx hb dX11_ached_9 rfl (lv_at hl 1 rfl) ?_
    refine cVp (As := [.int i1]) (rest := []) S Y (x_X10_has (l := l) I hW hT hQ) cw_X10_has km11_192 (I.opo (k := 1) (j := 0) (by decide) rfl).choose_spec.1 ok_X10.1 rfl rfl ⟨Nat.le_of_ble_eq_true rfl, Nat.le_of_ble_eq_true rfl⟩ hl.1 rfl (Nat.le_of_ble_eq_true rfl) ⟨Nat.le_of_ble_eq_true rfl, Nat.le_of_ble_eq_true rfl⟩ dX11_ached_10 (fun r_91504 H locs er_91504 Y => ?_)
    refine lv_if_ne (tgt := 19) hx hb dX11_ached_13 (by decide) (fun c_91505 => ?_) (fun c_91505 => ?_)
    · have B_91506 : bn 1 1 r_91504 := bn_w (bn_nel c_91505 er_91504 (show bn 0 0 (0 : Int32) from bn_k (by decide))) (by decide)
      refine lv_aload_n hx hb dX11_ached_19 rfl (lv_at hl 0 rfl) ?_
      refine pg_get S Y ok_X11 0 (by decide) kf11_13 (v := .ref (ad 1 0)) p_ad_0_0 rfl dX11_ached_20 ?_
      obtain ⟨v_91508, v_91510, v_91512, v_91514, v_91516, p_ad_1_0, b_91509, b_91511, b_91513, b_91515, b_91517⟩ := opnC_1 (j := 0) I (by decide)
      have p_ad_1_0 : pt L f (ad 1 0) (.inr (10, [.ref (ad 40 0), .ref (ad 41 0), .ref (ad 42 0), .ref (ad 10 0), .ref (ad 43 0), .ref (ad 20 0), .ref (ad 20 1), .ref (ad 20 2), .ref (ad 20 3), .ref (ad 20 4), .int v_91508, .int v_91510, .int v_91512, .int v_91514, .int v_91516])) := p_ad_1_0
      refine pg_getN S Y ok_X10 3 (by decide) kf11_131 (v := .ref (ad 10 0)) p_ad_1_0 rfl dX11_ached_23 ?_
      refine lv_iload_n hx hb dX11_ached_26 rfl (lv_at hl 1 rfl) ?_
      refine cVp (As := [.int i1]) (rest := []) S Y (x_X4_writtenOf (l := l) (j := 0) I hW hT hQ (by decide)) cw_X4_writtenOf km11_341 (I.opo (k := 10) (j := 0) (by decide) rfl).choose_spec.1 ok_X4.1 rfl rfl ⟨Nat.le_of_ble_eq_true rfl, Nat.le_of_ble_eq_true rfl⟩ hl.1 rfl (Nat.le_of_ble_eq_true rfl) ⟨Nat.le_of_ble_eq_true rfl, Nat.le_of_ble_eq_true rfl⟩ dX11_ached_27 (fun r_91518 H locs er_91518 Y => ?_)
      exact prI (post := fun r L1 f1 => SH (spC ((NR 30 0 4, fz (pp nL) FI FI FI FI FI FI (pp kF) (pp pF), tz (EQ bT) TA TA TA, sc0) : RS) ((0, 6) : Int × Int) tc w q) nnC G ad L1 f1) S Y rfl (by decide) (by decide) hA1 I dX11_ached_30
    · have B_91507 : bn 0 0 r_91504 := bn_w (bn_eq c_91505 (show bn 0 0 (0 : Int32) from bn_k (by decide))) (by decide)
      refine lv_bipush (v := (-2)) hx hb dX11_ached_16 (by decide) ?_
      exact prI (post := fun r L1 f1 => SH (spC ((NR 30 0 4, fz (pp nL) FI FI FI FI FI FI (pp kF) (pp pF), tz (EQ bT) TA TA TA, sc0) : RS) ((0, 6) : Int × Int) tc w q) nnC G ad L1 f1) S Y rfl (by decide) (by decide) hA1 I dX11_ached_18
set_option maxHeartbeats 4000000 in
set_option maxRecDepth 100000 in
theorem x_X11_worstDay {l : Launch} {G : GG}  {L : List Nat} {f : HF} {ad : Nat → Nat → Nat} {nL : Int} {bT : Nat → Int32} {kF : Int} {pF : Int} {tc w : Nat → Int × Int} {q : Nat → (Nat → Int32) → Prop} (I : SH (spC ((NR 30 0 4, fz (pp nL) FI FI FI FI FI FI (pp kF) (pp pF), tz (EQ bT) TA TA TA, sc0) : RS) ((0, 6) : Int × Int) tc w q) nnC G ad L f) (hW : WBp w 8) (hT : WBp tc 4) (hQ : QIp q) (hZ : ZZp w q) (hE : ∀ j, (tc j).1 = (tc j).2) : PMi l yX11_worstDay cX11_worstDay 1 .int 2 0 0 G [.ref (ad 0 0)] L f (fun r L1 f1 => SH (spC ((NR 30 0 4, fz (pp nL) FI FI FI FI FI FI (pp kF) (pp pF), tz (EQ bT) TA TA TA, sc0) : RS) ((0, 6) : Int × Int) tc w q) nnC G ad L1 f1) := by
  refine PMi.of (post := fun r L1 f1 => SH (spC ((NR 30 0 4, fz (pp nL) FI FI FI FI FI FI (pp kF) (pp pF), tz (EQ bT) TA TA TA, sc0) : RS) ((0, 6) : Int × Int) tc w q) nnC G ad L1 f1) (own := RX11) (by decide) rfl (Nat.le_of_ble_eq_true rfl) (fun sz p e s m args below meth c A ls hA1 hname S Y hl => ?_)
  have hx := S.hx
  have hb := S.hb
  have hl : lv_has ls 1 [(0, .ref (ad 0 0))] := hl
  refine lv_aload_n hx hb dX11_worstDay_0 rfl (lv_at hl 0 rfl) ?_
  have p_ad_0_0 := opnC_0 (j := 0) I (by decide)
  have p_ad_0_0 : pt L f (ad 0 0) (.inr (11, [.ref (ad 1 0), .ref (ad 1 1), .ref (ad 2 0), .ref (ad 3 0), .ref (ad 4 0), .ref (ad 5 0), .ref (ad 6 0), .ref (ad 7 0), .ref (ad 8 0)])) := p_ad_0_0
  refine pg_get S Y ok_X11 0 (by decide) kf11_13 (v := .ref (ad 1 0)) p_ad_0_0 rfl dX11_worstDay_1 ?_
  obtain ⟨v_91541, v_91543, v_91545, v_91547, v_91549, p_ad_1_0, b_91542, b_91544, b_91546, b_91548, b_91550⟩ := opnC_1 (j := 0) I (by decide)
  have p_ad_1_0 : pt L f (ad 1 0) (.inr (10, [.ref (ad 40 0), .ref (ad 41 0), .ref (ad 42 0), .ref (ad 10 0), .ref (ad 43 0), .ref (ad 20 0), .ref (ad 20 1), .ref (ad 20 2), .ref (ad 20 3), .ref (ad 20 4), .int v_91541, .int v_91543, .int v_91545, .int v_91547, .int v_91549])) := p_ad_1_0
  refine pg_getN S Y ok_X10 3 (by decide) kf11_131 (v := .ref (ad 10 0)) p_ad_1_0 rfl dX11_worstDay_4 ?_
  refine cVp (As := []) (rest := []) S Y (x_X4_dayOfMost (l := l) (j := 0) I hW hT hQ (by decide)) cw_X4_dayOfMost km11_344 (I.opo (k := 10) (j := 0) (by decide) rfl).choose_spec.1 ok_X4.1 rfl rfl ⟨Nat.le_of_ble_eq_true rfl, Nat.le_of_ble_eq_true rfl⟩ hl.1 rfl (Nat.le_of_ble_eq_true rfl) ⟨Nat.le_of_ble_eq_true rfl, Nat.le_of_ble_eq_true rfl⟩ dX11_worstDay_7 (fun r_91551 H locs er_91551 Y => ?_)
  exact prI (post := fun r L1 f1 => SH (spC ((NR 30 0 4, fz (pp nL) FI FI FI FI FI FI (pp kF) (pp pF), tz (EQ bT) TA TA TA, sc0) : RS) ((0, 6) : Int × Int) tc w q) nnC G ad L1 f1) S Y rfl (by decide) (by decide) hA1 I dX11_worstDay_10
set_option maxHeartbeats 4000000 in
set_option maxRecDepth 100000 in
theorem x_X11_about {l : Launch} {G : GG}  {L : List Nat} {f : HF} {ad : Nat → Nat → Nat} {nL : Int} {bT : Nat → Int32} {kF : Int} {pF : Int} {tc w : Nat → Int × Int} {q : Nat → (Nat → Int32) → Prop} {i1 : Int32} (I : SH (spC ((NR 30 0 4, fz (pp nL) FI FI FI FI FI FI (pp kF) (pp pF), tz (EQ bT) TA TA TA, sc0) : RS) ((0, 6) : Int × Int) tc w q) nnC G ad L f) (hW : WBp w 8) (hT : WBp tc 4) (hQ : QIp q) (hZ : ZZp w q) (hE : ∀ j, (tc j).1 = (tc j).2) : PMi l yX11_about cX11_about 2 .int 1 0 0 G [.ref (ad 0 0), .int i1] L f (fun r L1 f1 => SH (spC ((NR 30 0 4, fz (pp nL) FI FI FI FI FI FI (pp kF) (pp pF), tz (EQ bT) TA TA TA, sc0) : RS) ((0, 6) : Int × Int) tc w q) nnC G ad L1 f1) := by
  refine PMi.of (post := fun r L1 f1 => SH (spC ((NR 30 0 4, fz (pp nL) FI FI FI FI FI FI (pp kF) (pp pF), tz (EQ bT) TA TA TA, sc0) : RS) ((0, 6) : Int × Int) tc w q) nnC G ad L1 f1) (own := RX11) (by decide) rfl (Nat.le_of_ble_eq_true rfl) (fun sz p e s m args below meth c A ls hA1 hname S Y hl => ?_)
  have hx := S.hx
  have hb := S.hb
  have hl : lv_has ls 2 [(0, .ref (ad 0 0)), (1, .int i1)] := hl
  refine lv_iload_n hx hb dX11_about_0 rfl (lv_at hl 1 rfl) ?_
  rcases sw_0_9 i1 with h_91776 | h_91776 | h_91776 | h_91776 | h_91776 | h_91776 | h_91776 | h_91776 | h_91776 | h_91776 | h_91776
  · refine lv_fold (z := 0) h_91776 ?_
    refine lv_tableIn (off := 55) (tgt := 56) hx hb dX11_about_1 (by decide) (by decide) (by decide) (by decide) ?_
    refine lv_aload_n hx hb dX11_about_56 rfl (lv_at hl 0 rfl) ?_
    have p_ad_0_0 := opnC_0 (j := 0) I (by decide)
    have p_ad_0_0 : pt L f (ad 0 0) (.inr (11, [.ref (ad 1 0), .ref (ad 1 1), .ref (ad 2 0), .ref (ad 3 0), .ref (ad 4 0), .ref (ad 5 0), .ref (ad 6 0), .ref (ad 7 0), .ref (ad 8 0)])) := p_ad_0_0
    refine pg_get S Y ok_X11 0 (by decide) kf11_13 (v := .ref (ad 1 0)) p_ad_0_0 rfl dX11_about_57 ?_
    obtain ⟨v_91777, v_91779, v_91781, v_91783, v_91785, p_ad_1_0, b_91778, b_91780, b_91782, b_91784, b_91786⟩ := opnC_1 (j := 0) I (by decide)
    have p_ad_1_0 : pt L f (ad 1 0) (.inr (10, [.ref (ad 40 0), .ref (ad 41 0), .ref (ad 42 0), .ref (ad 10 0), .ref (ad 43 0), .ref (ad 20 0), .ref (ad 20 1), .ref (ad 20 2), .ref (ad 20 3), .ref (ad 20 4), .int v_91777, .int v_91779, .int v_91781, .int v_91783, .int v_91785])) := p_ad_1_0
    refine pg_getN S Y ok_X10 10 (by decide) kf11_174 (v := .int v_91777) p_ad_1_0 rfl dX11_about_60 ?_
    exact prI (post := fun r L1 f1 => SH (spC ((NR 30 0 4, fz (pp nL) FI FI FI FI FI FI (pp kF) (pp pF), tz (EQ bT) TA TA TA, sc0) : RS) ((0, 6) : Int × Int) tc w q) nnC G ad L1 f1) S Y rfl (by decide) (by decide) hA1 I dX11_about_63
  · refine lv_fold (z := 1) h_91776 ?_
    refine lv_tableIn (off := 63) (tgt := 64) hx hb dX11_about_1 (by decide) (by decide) (by decide) (by decide) ?_
    refine lv_aload_n hx hb dX11_about_64 rfl (lv_at hl 0 rfl) ?_
    have p_ad_0_0 := opnC_0 (j := 0) I (by decide)
    have p_ad_0_0 : pt L f (ad 0 0) (.inr (11, [.ref (ad 1 0), .ref (ad 1 1), .ref (ad 2 0), .ref (ad 3 0), .ref (ad 4 0), .ref (ad 5 0), .ref (ad 6 0), .ref (ad 7 0), .ref (ad 8 0)])) := p_ad_0_0
    refine pg_get S Y ok_X11 0 (by decide) kf11_13 (v := .ref (ad 1 0)) p_ad_0_0 rfl dX11_about_65 ?_
    obtain ⟨v_91787, v_91789, v_91791, v_91793, v_91795, p_ad_1_0, b_91788, b_91790, b_91792, b_91794, b_91796⟩ := opnC_1 (j := 0) I (by decide)
    have p_ad_1_0 : pt L f (ad 1 0) (.inr (10, [.ref (ad 40 0), .ref (ad 41 0), .ref (ad 42 0), .ref (ad 10 0), .ref (ad 43 0), .ref (ad 20 0), .ref (ad 20 1), .ref (ad 20 2), .ref (ad 20 3), .ref (ad 20 4), .int v_91787, .int v_91789, .int v_91791, .int v_91793, .int v_91795])) := p_ad_1_0
    refine pg_getN S Y ok_X10 11 (by decide) kf11_329 (v := .int v_91789) p_ad_1_0 rfl dX11_about_68 ?_
    exact prI (post := fun r L1 f1 => SH (spC ((NR 30 0 4, fz (pp nL) FI FI FI FI FI FI (pp kF) (pp pF), tz (EQ bT) TA TA TA, sc0) : RS) ((0, 6) : Int × Int) tc w q) nnC G ad L1 f1) S Y rfl (by decide) (by decide) hA1 I dX11_about_71
  · refine lv_fold (z := 2) h_91776 ?_
    refine lv_tableIn (off := 71) (tgt := 72) hx hb dX11_about_1 (by decide) (by decide) (by decide) (by decide) ?_
    refine lv_aload_n hx hb dX11_about_72 rfl (lv_at hl 0 rfl) ?_
    have p_ad_0_0 := opnC_0 (j := 0) I (by decide)
    have p_ad_0_0 : pt L f (ad 0 0) (.inr (11, [.ref (ad 1 0), .ref (ad 1 1), .ref (ad 2 0), .ref (ad 3 0), .ref (ad 4 0), .ref (ad 5 0), .ref (ad 6 0), .ref (ad 7 0), .ref (ad 8 0)])) := p_ad_0_0
    refine pg_get S Y ok_X11 0 (by decide) kf11_13 (v := .ref (ad 1 0)) p_ad_0_0 rfl dX11_about_73 ?_
    obtain ⟨v_91797, v_91799, v_91801, v_91803, v_91805, p_ad_1_0, b_91798, b_91800, b_91802, b_91804, b_91806⟩ := opnC_1 (j := 0) I (by decide)
    have p_ad_1_0 : pt L f (ad 1 0) (.inr (10, [.ref (ad 40 0), .ref (ad 41 0), .ref (ad 42 0), .ref (ad 10 0), .ref (ad 43 0), .ref (ad 20 0), .ref (ad 20 1), .ref (ad 20 2), .ref (ad 20 3), .ref (ad 20 4), .int v_91797, .int v_91799, .int v_91801, .int v_91803, .int v_91805])) := p_ad_1_0
    refine pg_getN S Y ok_X10 12 (by decide) kf11_212 (v := .int v_91801) p_ad_1_0 rfl dX11_about_76 ?_
    exact prI (post := fun r L1 f1 => SH (spC ((NR 30 0 4, fz (pp nL) FI FI FI FI FI FI (pp kF) (pp pF), tz (EQ bT) TA TA TA, sc0) : RS) ((0, 6) : Int × Int) tc w q) nnC G ad L1 f1) S Y rfl (by decide) (by decide) hA1 I dX11_about_79
  · refine lv_fold (z := 3) h_91776 ?_
    refine lv_tableIn (off := 79) (tgt := 80) hx hb dX11_about_1 (by decide) (by decide) (by decide) (by decide) ?_
    refine lv_aload_n hx hb dX11_about_80 rfl (lv_at hl 0 rfl) ?_
    have p_ad_0_0 := opnC_0 (j := 0) I (by decide)
    have p_ad_0_0 : pt L f (ad 0 0) (.inr (11, [.ref (ad 1 0), .ref (ad 1 1), .ref (ad 2 0), .ref (ad 3 0), .ref (ad 4 0), .ref (ad 5 0), .ref (ad 6 0), .ref (ad 7 0), .ref (ad 8 0)])) := p_ad_0_0
    refine pg_get S Y ok_X11 0 (by decide) kf11_13 (v := .ref (ad 1 0)) p_ad_0_0 rfl dX11_about_81 ?_
    obtain ⟨v_91807, v_91809, v_91811, v_91813, v_91815, p_ad_1_0, b_91808, b_91810, b_91812, b_91814, b_91816⟩ := opnC_1 (j := 0) I (by decide)
    have p_ad_1_0 : pt L f (ad 1 0) (.inr (10, [.ref (ad 40 0), .ref (ad 41 0), .ref (ad 42 0), .ref (ad 10 0), .ref (ad 43 0), .ref (ad 20 0), .ref (ad 20 1), .ref (ad 20 2), .ref (ad 20 3), .ref (ad 20 4), .int v_91807, .int v_91809, .int v_91811, .int v_91813, .int v_91815])) := p_ad_1_0
    refine pg_getN S Y ok_X10 14 (by decide) kf11_189 (v := .int v_91815) p_ad_1_0 rfl dX11_about_84 ?_
    exact prI (post := fun r L1 f1 => SH (spC ((NR 30 0 4, fz (pp nL) FI FI FI FI FI FI (pp kF) (pp pF), tz (EQ bT) TA TA TA, sc0) : RS) ((0, 6) : Int × Int) tc w q) nnC G ad L1 f1) S Y rfl (by decide) (by decide) hA1 I dX11_about_87
  · refine lv_fold (z := 4) h_91776 ?_
    refine lv_tableIn (off := 87) (tgt := 88) hx hb dX11_about_1 (by decide) (by decide) (by decide) (by decide) ?_
    refine lv_aload_n hx hb dX11_about_88 rfl (lv_at hl 0 rfl) ?_
    have p_ad_0_0 := opnC_0 (j := 0) I (by decide)
    have p_ad_0_0 : pt L f (ad 0 0) (.inr (11, [.ref (ad 1 0), .ref (ad 1 1), .ref (ad 2 0), .ref (ad 3 0), .ref (ad 4 0), .ref (ad 5 0), .ref (ad 6 0), .ref (ad 7 0), .ref (ad 8 0)])) := p_ad_0_0
    refine pg_get S Y ok_X11 0 (by decide) kf11_13 (v := .ref (ad 1 0)) p_ad_0_0 rfl dX11_about_89 ?_
    obtain ⟨v_91817, v_91819, v_91821, v_91823, v_91825, p_ad_1_0, b_91818, b_91820, b_91822, b_91824, b_91826⟩ := opnC_1 (j := 0) I (by decide)
    have p_ad_1_0 : pt L f (ad 1 0) (.inr (10, [.ref (ad 40 0), .ref (ad 41 0), .ref (ad 42 0), .ref (ad 10 0), .ref (ad 43 0), .ref (ad 20 0), .ref (ad 20 1), .ref (ad 20 2), .ref (ad 20 3), .ref (ad 20 4), .int v_91817, .int v_91819, .int v_91821, .int v_91823, .int v_91825])) := p_ad_1_0
    refine pg_getN S Y ok_X10 5 (by decide) kf11_249 (v := .ref (ad 20 0)) p_ad_1_0 rfl dX11_about_92 ?_
    obtain ⟨v_91827, v_91829, p_ad_20_0, b_91828, b_91830⟩ := opnC_20 (j := 0) I (by decide)
    have p_ad_20_0 : pt L f (ad 20 0) (.inr (9, [.ref (ad 21 0), .int v_91827, .int v_91829])) := p_ad_20_0
    refine pg_getN S Y ok_X9 2 (by decide) kf11_350 (v := .int v_91829) p_ad_20_0 rfl dX11_about_95 ?_
    exact prI (post := fun r L1 f1 => SH (spC ((NR 30 0 4, fz (pp nL) FI FI FI FI FI FI (pp kF) (pp pF), tz (EQ bT) TA TA TA, sc0) : RS) ((0, 6) : Int × Int) tc w q) nnC G ad L1 f1) S Y rfl (by decide) (by decide) hA1 I dX11_about_98
  · refine lv_fold (z := 5) h_91776 ?_
    refine lv_tableIn (off := 98) (tgt := 99) hx hb dX11_about_1 (by decide) (by decide) (by decide) (by decide) ?_
    refine lv_aload_n hx hb dX11_about_99 rfl (lv_at hl 0 rfl) ?_
    have p_ad_0_0 := opnC_0 (j := 0) I (by decide)
    have p_ad_0_0 : pt L f (ad 0 0) (.inr (11, [.ref (ad 1 0), .ref (ad 1 1), .ref (ad 2 0), .ref (ad 3 0), .ref (ad 4 0), .ref (ad 5 0), .ref (ad 6 0), .ref (ad 7 0), .ref (ad 8 0)])) := p_ad_0_0
    refine pg_get S Y ok_X11 0 (by decide) kf11_13 (v := .ref (ad 1 0)) p_ad_0_0 rfl dX11_about_100 ?_
    obtain ⟨v_91831, v_91833, v_91835, v_91837, v_91839, p_ad_1_0, b_91832, b_91834, b_91836, b_91838, b_91840⟩ := opnC_1 (j := 0) I (by decide)
    have p_ad_1_0 : pt L f (ad 1 0) (.inr (10, [.ref (ad 40 0), .ref (ad 41 0), .ref (ad 42 0), .ref (ad 10 0), .ref (ad 43 0), .ref (ad 20 0), .ref (ad 20 1), .ref (ad 20 2), .ref (ad 20 3), .ref (ad 20 4), .int v_91831, .int v_91833, .int v_91835, .int v_91837, .int v_91839])) := p_ad_1_0
    refine pg_getN S Y ok_X10 6 (by decide) kf11_284 (v := .ref (ad 20 1)) p_ad_1_0 rfl dX11_about_103 ?_
    obtain ⟨v_91841, v_91843, p_ad_20_1, b_91842, b_91844⟩ := opnC_20 (j := 1) I (by decide)
    have p_ad_20_1 : pt L f (ad 20 1) (.inr (9, [.ref (ad 21 1), .int v_91841, .int v_91843])) := p_ad_20_1
    refine pg_getN S Y ok_X9 2 (by decide) kf11_350 (v := .int v_91843) p_ad_20_1 rfl dX11_about_106 ?_
    exact prI (post := fun r L1 f1 => SH (spC ((NR 30 0 4, fz (pp nL) FI FI FI FI FI FI (pp kF) (pp pF), tz (EQ bT) TA TA TA, sc0) : RS) ((0, 6) : Int × Int) tc w q) nnC G ad L1 f1) S Y rfl (by decide) (by decide) hA1 I dX11_about_109
  · refine lv_fold (z := 6) h_91776 ?_
    refine lv_tableIn (off := 109) (tgt := 110) hx hb dX11_about_1 (by decide) (by decide) (by decide) (by decide) ?_
    refine lv_aload_n hx hb dX11_about_110 rfl (lv_at hl 0 rfl) ?_
    have p_ad_0_0 := opnC_0 (j := 0) I (by decide)
    have p_ad_0_0 : pt L f (ad 0 0) (.inr (11, [.ref (ad 1 0), .ref (ad 1 1), .ref (ad 2 0), .ref (ad 3 0), .ref (ad 4 0), .ref (ad 5 0), .ref (ad 6 0), .ref (ad 7 0), .ref (ad 8 0)])) := p_ad_0_0
    refine pg_get S Y ok_X11 0 (by decide) kf11_13 (v := .ref (ad 1 0)) p_ad_0_0 rfl dX11_about_111 ?_
    obtain ⟨v_91845, v_91847, v_91849, v_91851, v_91853, p_ad_1_0, b_91846, b_91848, b_91850, b_91852, b_91854⟩ := opnC_1 (j := 0) I (by decide)
    have p_ad_1_0 : pt L f (ad 1 0) (.inr (10, [.ref (ad 40 0), .ref (ad 41 0), .ref (ad 42 0), .ref (ad 10 0), .ref (ad 43 0), .ref (ad 20 0), .ref (ad 20 1), .ref (ad 20 2), .ref (ad 20 3), .ref (ad 20 4), .int v_91845, .int v_91847, .int v_91849, .int v_91851, .int v_91853])) := p_ad_1_0
    refine pg_getN S Y ok_X10 7 (by decide) kf11_293 (v := .ref (ad 20 2)) p_ad_1_0 rfl dX11_about_114 ?_
    obtain ⟨v_91855, v_91857, p_ad_20_2, b_91856, b_91858⟩ := opnC_20 (j := 2) I (by decide)
    have p_ad_20_2 : pt L f (ad 20 2) (.inr (9, [.ref (ad 21 2), .int v_91855, .int v_91857])) := p_ad_20_2
    refine pg_getN S Y ok_X9 2 (by decide) kf11_350 (v := .int v_91857) p_ad_20_2 rfl dX11_about_117 ?_
    exact prI (post := fun r L1 f1 => SH (spC ((NR 30 0 4, fz (pp nL) FI FI FI FI FI FI (pp kF) (pp pF), tz (EQ bT) TA TA TA, sc0) : RS) ((0, 6) : Int × Int) tc w q) nnC G ad L1 f1) S Y rfl (by decide) (by decide) hA1 I dX11_about_120
  · refine lv_fold (z := 7) h_91776 ?_
    refine lv_tableIn (off := 120) (tgt := 121) hx hb dX11_about_1 (by decide) (by decide) (by decide) (by decide) ?_
    refine lv_aload_n hx hb dX11_about_121 rfl (lv_at hl 0 rfl) ?_
    have p_ad_0_0 := opnC_0 (j := 0) I (by decide)
    have p_ad_0_0 : pt L f (ad 0 0) (.inr (11, [.ref (ad 1 0), .ref (ad 1 1), .ref (ad 2 0), .ref (ad 3 0), .ref (ad 4 0), .ref (ad 5 0), .ref (ad 6 0), .ref (ad 7 0), .ref (ad 8 0)])) := p_ad_0_0
    refine pg_get S Y ok_X11 0 (by decide) kf11_13 (v := .ref (ad 1 0)) p_ad_0_0 rfl dX11_about_122 ?_
    obtain ⟨v_91859, v_91861, v_91863, v_91865, v_91867, p_ad_1_0, b_91860, b_91862, b_91864, b_91866, b_91868⟩ := opnC_1 (j := 0) I (by decide)
    have p_ad_1_0 : pt L f (ad 1 0) (.inr (10, [.ref (ad 40 0), .ref (ad 41 0), .ref (ad 42 0), .ref (ad 10 0), .ref (ad 43 0), .ref (ad 20 0), .ref (ad 20 1), .ref (ad 20 2), .ref (ad 20 3), .ref (ad 20 4), .int v_91859, .int v_91861, .int v_91863, .int v_91865, .int v_91867])) := p_ad_1_0
    refine pg_getN S Y ok_X10 8 (by decide) kf11_313 (v := .ref (ad 20 3)) p_ad_1_0 rfl dX11_about_125 ?_
    obtain ⟨v_91869, v_91871, p_ad_20_3, b_91870, b_91872⟩ := opnC_20 (j := 3) I (by decide)
    have p_ad_20_3 : pt L f (ad 20 3) (.inr (9, [.ref (ad 21 3), .int v_91869, .int v_91871])) := p_ad_20_3
    refine pg_getN S Y ok_X9 2 (by decide) kf11_350 (v := .int v_91871) p_ad_20_3 rfl dX11_about_128 ?_
    exact prI (post := fun r L1 f1 => SH (spC ((NR 30 0 4, fz (pp nL) FI FI FI FI FI FI (pp kF) (pp pF), tz (EQ bT) TA TA TA, sc0) : RS) ((0, 6) : Int × Int) tc w q) nnC G ad L1 f1) S Y rfl (by decide) (by decide) hA1 I dX11_about_131
  · refine lv_fold (z := 8) h_91776 ?_
    refine lv_tableIn (off := 131) (tgt := 132) hx hb dX11_about_1 (by decide) (by decide) (by decide) (by decide) ?_
    refine lv_aload_n hx hb dX11_about_132 rfl (lv_at hl 0 rfl) ?_
    have p_ad_0_0 := opnC_0 (j := 0) I (by decide)
    have p_ad_0_0 : pt L f (ad 0 0) (.inr (11, [.ref (ad 1 0), .ref (ad 1 1), .ref (ad 2 0), .ref (ad 3 0), .ref (ad 4 0), .ref (ad 5 0), .ref (ad 6 0), .ref (ad 7 0), .ref (ad 8 0)])) := p_ad_0_0
    refine pg_get S Y ok_X11 0 (by decide) kf11_13 (v := .ref (ad 1 0)) p_ad_0_0 rfl dX11_about_133 ?_
    obtain ⟨v_91873, v_91875, v_91877, v_91879, v_91881, p_ad_1_0, b_91874, b_91876, b_91878, b_91880, b_91882⟩ := opnC_1 (j := 0) I (by decide)
    have p_ad_1_0 : pt L f (ad 1 0) (.inr (10, [.ref (ad 40 0), .ref (ad 41 0), .ref (ad 42 0), .ref (ad 10 0), .ref (ad 43 0), .ref (ad 20 0), .ref (ad 20 1), .ref (ad 20 2), .ref (ad 20 3), .ref (ad 20 4), .int v_91873, .int v_91875, .int v_91877, .int v_91879, .int v_91881])) := p_ad_1_0
    refine pg_getN S Y ok_X10 9 (by decide) kf11_326 (v := .ref (ad 20 4)) p_ad_1_0 rfl dX11_about_136 ?_
    obtain ⟨v_91883, v_91885, p_ad_20_4, b_91884, b_91886⟩ := opnC_20 (j := 4) I (by decide)
    have p_ad_20_4 : pt L f (ad 20 4) (.inr (9, [.ref (ad 21 4), .int v_91883, .int v_91885])) := p_ad_20_4
    refine pg_getN S Y ok_X9 2 (by decide) kf11_350 (v := .int v_91885) p_ad_20_4 rfl dX11_about_139 ?_
    exact prI (post := fun r L1 f1 => SH (spC ((NR 30 0 4, fz (pp nL) FI FI FI FI FI FI (pp kF) (pp pF), tz (EQ bT) TA TA TA, sc0) : RS) ((0, 6) : Int × Int) tc w q) nnC G ad L1 f1) S Y rfl (by decide) (by decide) hA1 I dX11_about_142
  · refine lv_fold (z := 9) h_91776 ?_
    refine lv_tableIn (off := 142) (tgt := 143) hx hb dX11_about_1 (by decide) (by decide) (by decide) (by decide) ?_
    refine lv_aload_n hx hb dX11_about_143 rfl (lv_at hl 0 rfl) ?_
    have p_ad_0_0 := opnC_0 (j := 0) I (by decide)
    have p_ad_0_0 : pt L f (ad 0 0) (.inr (11, [.ref (ad 1 0), .ref (ad 1 1), .ref (ad 2 0), .ref (ad 3 0), .ref (ad 4 0), .ref (ad 5 0), .ref (ad 6 0), .ref (ad 7 0), .ref (ad 8 0)])) := p_ad_0_0
    refine pg_get S Y ok_X11 2 (by decide) kf11_25 (v := .ref (ad 2 0)) p_ad_0_0 rfl dX11_about_144 ?_
    refine cVp (As := []) (rest := []) S Y (x_X5_size (l := l) I hW hT hQ) cw_X5_size km11_91 (I.opo (k := 2) (j := 0) (by decide) rfl).choose_spec.1 ok_X5.1 rfl rfl ⟨Nat.le_of_ble_eq_true rfl, Nat.le_of_ble_eq_true rfl⟩ hl.1 rfl (Nat.le_of_ble_eq_true rfl) ⟨Nat.le_of_ble_eq_true rfl, Nat.le_of_ble_eq_true rfl⟩ dX11_about_147 (fun r_91887 H locs er_91887 Y => ?_)
    exact prI (post := fun r L1 f1 => SH (spC ((NR 30 0 4, fz (pp nL) FI FI FI FI FI FI (pp kF) (pp pF), tz (EQ bT) TA TA TA, sc0) : RS) ((0, 6) : Int × Int) tc w q) nnC G ad L1 f1) S Y rfl (by decide) (by decide) hA1 I dX11_about_150
  · refine lv_tableOut (tgt := 151) hx hb dX11_about_1 h_91776 (by decide) ?_
    refine lv_bipush (v := (-2)) hx hb dX11_about_151 (by decide) ?_
    exact prI (post := fun r L1 f1 => SH (spC ((NR 30 0 4, fz (pp nL) FI FI FI FI FI FI (pp kF) (pp pF), tz (EQ bT) TA TA TA, sc0) : RS) ((0, 6) : Int × Int) tc w q) nnC G ad L1 f1) S Y rfl (by decide) (by decide) hA1 I dX11_about_153
