theorem dX11_one_0 : decode cX11_one 0 = .ok (.aload_n 0, 1) := by decide +kernel
theorem dX11_one_1 : decode cX11_one 1 = .ok (.getfield 13, 3) := by decide +kernel
theorem ok_X11 : clOK 11 RX11 TX11 9 tyX11 := ⟨rfl, fun w h => ⟨(show ∀ w ∈ u_ws RX11 TX11 9, w ∈ lw_tbl by decide +kernel) w h, (show ∀ w ∈ u_ws RX11 TX11 9, gw w = true by decide +kernel) w h⟩, tyX11_ok, nmX11⟩
theorem kf11_13 : inW (Cond.fieldLink RX11 13 "KneeOaths" "world" "LKneeOaths$World;") := ⟨List.mem_of_getElem? (i := 505) (by decide +kernel), by decide +kernel⟩
theorem dX11_one_4 : decode cX11_one 4 = .ok (.iload_n 1, 1) := by decide +kernel
theorem dX11_one_5 : decode cX11_one 5 = .ok (.iload_n 2, 1) := by decide +kernel
theorem dX11_one_6 : decode cX11_one 6 = .ok (.invokevirtual 79, 3) := by decide +kernel
theorem cw_X10_welcome : CWv yX10_welcome cX10_welcome 3 (some .int) 2 := ⟨⟨⟨List.mem_of_getElem? (i := 126) (by decide +kernel), by decide +kernel⟩, ⟨List.mem_of_getElem? (i := 540) (by decide +kernel), by decide +kernel⟩, by decide +kernel⟩, ⟨List.mem_of_getElem? (i := 538) (by decide +kernel), by decide +kernel⟩, ⟨List.mem_of_getElem? (i := 539) (by decide +kernel), by decide +kernel⟩⟩
theorem km11_79 : inW (Cond.methodLink RX11 79 yX10_welcome) := ⟨List.mem_of_getElem? (i := 537) (by decide +kernel), by decide +kernel⟩
theorem dX11_one_9 : decode cX11_one 9 = .ok (.ireturn, 1) := by decide +kernel
theorem dX11_end_0 : decode cX11_end 0 = .ok (.aload_n 0, 1) := by decide +kernel
theorem dX11_end_1 : decode cX11_end 1 = .ok (.getfield 25, 3) := by decide +kernel
theorem kf11_25 : inW (Cond.fieldLink RX11 25 "KneeOaths" "reader" "LKneeOaths$Reader;") := ⟨List.mem_of_getElem? (i := 507) (by decide +kernel), by decide +kernel⟩
theorem dX11_end_4 : decode cX11_end 4 = .ok (.iload_n 1, 1) := by decide +kernel
theorem dX11_end_5 : decode cX11_end 5 = .ok (.invokevirtual 95, 3) := by decide +kernel
theorem cw_X5_cutTo : CWv yX5_cutTo cX5_cutTo 2 (some .boolean) 1 := ⟨⟨⟨List.mem_of_getElem? (i := 130) (by decide +kernel), by decide +kernel⟩, ⟨List.mem_of_getElem? (i := 567) (by decide +kernel), by decide +kernel⟩, by decide +kernel⟩, ⟨List.mem_of_getElem? (i := 565) (by decide +kernel), by decide +kernel⟩, ⟨List.mem_of_getElem? (i := 566) (by decide +kernel), by decide +kernel⟩⟩
theorem km11_95 : inW (Cond.methodLink RX11 95 yX5_cutTo) := ⟨List.mem_of_getElem? (i := 564) (by decide +kernel), by decide +kernel⟩
theorem dX11_end_8 : decode cX11_end 8 = .ok (.ifCond .eq 7, 3) := by decide +kernel
theorem dX11_end_15 : decode cX11_end 15 = .ok (.iconst (-1), 1) := by decide +kernel
theorem dX11_end_16 : decode cX11_end 16 = .ok (.ireturn, 1) := by decide +kernel
theorem dX11_end_11 : decode cX11_end 11 = .ok (.iload_n 1, 1) := by decide +kernel
theorem dX11_end_12 : decode cX11_end 12 = .ok (.goto 4, 3) := by decide +kernel
theorem dX11_fault_0 : decode cX11_fault 0 = .ok (.iload_n 1, 1) := by decide +kernel
theorem dX11_fault_1 : decode cX11_fault 1 = .ok (.ifCond .ne 11, 3) := by decide +kernel
theorem dX11_fault_12 : decode cX11_fault 12 = .ok (.iload_n 1, 1) := by decide +kernel
theorem dX11_fault_13 : decode cX11_fault 13 = .ok (.iconst 1, 1) := by decide +kernel
theorem dX11_fault_14 : decode cX11_fault 14 = .ok (.if_icmp .ne 13, 3) := by decide +kernel
theorem dX11_fault_27 : decode cX11_fault 27 = .ok (.iconst (-1), 1) := by decide +kernel
theorem dX11_fault_28 : decode cX11_fault 28 = .ok (.ireturn, 1) := by decide +kernel
theorem dX11_fault_17 : decode cX11_fault 17 = .ok (.aload_n 0, 1) := by decide +kernel
theorem dX11_fault_18 : decode cX11_fault 18 = .ok (.getfield 25, 3) := by decide +kernel
theorem dX11_fault_21 : decode cX11_fault 21 = .ok (.invokevirtual 112, 3) := by decide +kernel
theorem cw_X5_faultPlace : CWv yX5_faultPlace cX5_faultPlace 1 (some .int) 0 := ⟨⟨⟨List.mem_of_getElem? (i := 130) (by decide +kernel), by decide +kernel⟩, ⟨List.mem_of_getElem? (i := 855) (by decide +kernel), by decide +kernel⟩, by decide +kernel⟩, ⟨List.mem_of_getElem? (i := 853) (by decide +kernel), by decide +kernel⟩, ⟨List.mem_of_getElem? (i := 854) (by decide +kernel), by decide +kernel⟩⟩
theorem km11_112 : inW (Cond.methodLink RX11 112 yX5_faultPlace) := ⟨List.mem_of_getElem? (i := 852) (by decide +kernel), by decide +kernel⟩
theorem dX11_fault_24 : decode cX11_fault 24 = .ok (.goto 4, 3) := by decide +kernel
theorem dX11_fault_4 : decode cX11_fault 4 = .ok (.aload_n 0, 1) := by decide +kernel
theorem dX11_fault_5 : decode cX11_fault 5 = .ok (.getfield 25, 3) := by decide +kernel
theorem dX11_fault_8 : decode cX11_fault 8 = .ok (.invokevirtual 109, 3) := by decide +kernel
theorem cw_X5_faultKind : CWv yX5_faultKind cX5_faultKind 1 (some .int) 0 := ⟨⟨⟨List.mem_of_getElem? (i := 130) (by decide +kernel), by decide +kernel⟩, ⟨List.mem_of_getElem? (i := 851) (by decide +kernel), by decide +kernel⟩, by decide +kernel⟩, ⟨List.mem_of_getElem? (i := 849) (by decide +kernel), by decide +kernel⟩, ⟨List.mem_of_getElem? (i := 850) (by decide +kernel), by decide +kernel⟩⟩
theorem km11_109 : inW (Cond.methodLink RX11 109 yX5_faultKind) := ⟨List.mem_of_getElem? (i := 848) (by decide +kernel), by decide +kernel⟩
theorem dX11_fault_11 : decode cX11_fault 11 = .ok (.ireturn, 1) := by decide +kernel
theorem dX11_by_0 : decode cX11_by 0 = .ok (.aload_n 0, 1) := by decide +kernel
theorem dX11_by_1 : decode cX11_by 1 = .ok (.getfield 13, 3) := by decide +kernel
theorem dX11_by_4 : decode cX11_by 4 = .ok (.iload_n 1, 1) := by decide +kernel
theorem dX11_by_5 : decode cX11_by 5 = .ok (.invokevirtual 115, 3) := by decide +kernel
theorem cw_X10_putUnder : CWv yX10_putUnder cX10_putUnder 2 (some .boolean) 1 := ⟨⟨⟨List.mem_of_getElem? (i := 126) (by decide +kernel), by decide +kernel⟩, ⟨List.mem_of_getElem? (i := 863) (by decide +kernel), by decide +kernel⟩, by decide +kernel⟩, ⟨List.mem_of_getElem? (i := 861) (by decide +kernel), by decide +kernel⟩, ⟨List.mem_of_getElem? (i := 862) (by decide +kernel), by decide +kernel⟩⟩
theorem km11_115 : inW (Cond.methodLink RX11 115 yX10_putUnder) := ⟨List.mem_of_getElem? (i := 860) (by decide +kernel), by decide +kernel⟩
theorem dX11_by_8 : decode cX11_by 8 = .ok (.ireturn, 1) := by decide +kernel
theorem dX11_swear_0 : decode cX11_swear 0 = .ok (.aload_n 0, 1) := by decide +kernel
theorem dX11_swear_1 : decode cX11_swear 1 = .ok (.getfield 50, 3) := by decide +kernel
theorem kf11_50 : inW (Cond.fieldLink RX11 50 "KneeOaths" "deeds" "LKneeOaths$Deeds;") := ⟨List.mem_of_getElem? (i := 510) (by decide +kernel), by decide +kernel⟩
theorem dX11_swear_4 : decode cX11_swear 4 = .ok (.iload_n 1, 1) := by decide +kernel
theorem dX11_swear_5 : decode cX11_swear 5 = .ok (.iload_n 2, 1) := by decide +kernel
theorem dX11_swear_6 : decode cX11_swear 6 = .ok (.iload_n 3, 1) := by decide +kernel
theorem dX11_swear_7 : decode cX11_swear 7 = .ok (.iload 4, 2) := by decide +kernel
theorem dX11_swear_9 : decode cX11_swear 9 = .ok (.invokevirtual 118, 3) := by decide +kernel
theorem cw_X1_swearIn : CWv yX1_swearIn cX1_swearIn 5 (some .int) 4 := ⟨⟨⟨List.mem_of_getElem? (i := 133) (by decide +kernel), by decide +kernel⟩, ⟨List.mem_of_getElem? (i := 875) (by decide +kernel), by decide +kernel⟩, by decide +kernel⟩, ⟨List.mem_of_getElem? (i := 873) (by decide +kernel), by decide +kernel⟩, ⟨List.mem_of_getElem? (i := 874) (by decide +kernel), by decide +kernel⟩⟩
theorem km11_118 : inW (Cond.methodLink RX11 118 yX1_swearIn) := ⟨List.mem_of_getElem? (i := 872) (by decide +kernel), by decide +kernel⟩
theorem dX11_swear_12 : decode cX11_swear 12 = .ok (.ireturn, 1) := by decide +kernel
theorem dX11_breaks_0 : decode cX11_breaks 0 = .ok (.aload_n 0, 1) := by decide +kernel
theorem dX11_breaks_1 : decode cX11_breaks 1 = .ok (.getfield 50, 3) := by decide +kernel
theorem dX11_breaks_4 : decode cX11_breaks 4 = .ok (.iload_n 1, 1) := by decide +kernel
theorem dX11_breaks_5 : decode cX11_breaks 5 = .ok (.invokevirtual 122, 3) := by decide +kernel
theorem cw_X1_breakOath : CWv yX1_breakOath cX1_breakOath 2 (some .boolean) 1 := ⟨⟨⟨List.mem_of_getElem? (i := 133) (by decide +kernel), by decide +kernel⟩, ⟨List.mem_of_getElem? (i := 911) (by decide +kernel), by decide +kernel⟩, by decide +kernel⟩, ⟨List.mem_of_getElem? (i := 909) (by decide +kernel), by decide +kernel⟩, ⟨List.mem_of_getElem? (i := 910) (by decide +kernel), by decide +kernel⟩⟩
theorem km11_122 : inW (Cond.methodLink RX11 122 yX1_breakOath) := ⟨List.mem_of_getElem? (i := 908) (by decide +kernel), by decide +kernel⟩
theorem dX11_breaks_8 : decode cX11_breaks 8 = .ok (.ireturn, 1) := by decide +kernel
theorem dX11_release_0 : decode cX11_release 0 = .ok (.aload_n 0, 1) := by decide +kernel
theorem dX11_release_1 : decode cX11_release 1 = .ok (.getfield 50, 3) := by decide +kernel
theorem dX11_release_4 : decode cX11_release 4 = .ok (.iload_n 1, 1) := by decide +kernel
theorem dX11_release_5 : decode cX11_release 5 = .ok (.invokevirtual 125, 3) := by decide +kernel
theorem cw_X1_releaseOath : CWv yX1_releaseOath cX1_releaseOath 2 (some .boolean) 1 := ⟨⟨⟨List.mem_of_getElem? (i := 133) (by decide +kernel), by decide +kernel⟩, ⟨List.mem_of_getElem? (i := 924) (by decide +kernel), by decide +kernel⟩, by decide +kernel⟩, ⟨List.mem_of_getElem? (i := 922) (by decide +kernel), by decide +kernel⟩, ⟨List.mem_of_getElem? (i := 923) (by decide +kernel), by decide +kernel⟩⟩
theorem km11_125 : inW (Cond.methodLink RX11 125 yX1_releaseOath) := ⟨List.mem_of_getElem? (i := 921) (by decide +kernel), by decide +kernel⟩
theorem dX11_release_8 : decode cX11_release 8 = .ok (.ireturn, 1) := by decide +kernel
theorem dX11_kneel_0 : decode cX11_kneel 0 = .ok (.aload_n 0, 1) := by decide +kernel
theorem dX11_kneel_1 : decode cX11_kneel 1 = .ok (.getfield 50, 3) := by decide +kernel
theorem dX11_kneel_4 : decode cX11_kneel 4 = .ok (.iload_n 1, 1) := by decide +kernel
theorem dX11_kneel_5 : decode cX11_kneel 5 = .ok (.invokevirtual 128, 3) := by decide +kernel
theorem cw_X1_kneelDown : CWv yX1_kneelDown cX1_kneelDown 2 (some .boolean) 1 := ⟨⟨⟨List.mem_of_getElem? (i := 133) (by decide +kernel), by decide +kernel⟩, ⟨List.mem_of_getElem? (i := 941) (by decide +kernel), by decide +kernel⟩, by decide +kernel⟩, ⟨List.mem_of_getElem? (i := 939) (by decide +kernel), by decide +kernel⟩, ⟨List.mem_of_getElem? (i := 940) (by decide +kernel), by decide +kernel⟩⟩
theorem km11_128 : inW (Cond.methodLink RX11 128 yX1_kneelDown) := ⟨List.mem_of_getElem? (i := 938) (by decide +kernel), by decide +kernel⟩
theorem dX11_kneel_8 : decode cX11_kneel 8 = .ok (.ifCond .eq 17, 3) := by decide +kernel
theorem dX11_kneel_25 : decode cX11_kneel 25 = .ok (.iconst (-1), 1) := by decide +kernel
theorem dX11_kneel_26 : decode cX11_kneel 26 = .ok (.ireturn, 1) := by decide +kernel
theorem dX11_skate_0 : decode cX11_skate 0 = .ok (.aload_n 0, 1) := by decide +kernel
theorem dX11_skate_1 : decode cX11_skate 1 = .ok (.getfield 50, 3) := by decide +kernel
theorem dX11_skate_4 : decode cX11_skate 4 = .ok (.iload_n 1, 1) := by decide +kernel
theorem dX11_skate_5 : decode cX11_skate 5 = .ok (.iload_n 2, 1) := by decide +kernel
theorem dX11_skate_6 : decode cX11_skate 6 = .ok (.invokevirtual 139, 3) := by decide +kernel
theorem cw_X1_slide : CWv yX1_slide cX1_slide 4 (some .boolean) 2 := ⟨⟨⟨List.mem_of_getElem? (i := 133) (by decide +kernel), by decide +kernel⟩, ⟨List.mem_of_getElem? (i := 1026) (by decide +kernel), by decide +kernel⟩, by decide +kernel⟩, ⟨List.mem_of_getElem? (i := 1024) (by decide +kernel), by decide +kernel⟩, ⟨List.mem_of_getElem? (i := 1025) (by decide +kernel), by decide +kernel⟩⟩
theorem km11_139 : inW (Cond.methodLink RX11 139 yX1_slide) := ⟨List.mem_of_getElem? (i := 1023) (by decide +kernel), by decide +kernel⟩
theorem dX11_skate_9 : decode cX11_skate 9 = .ok (.ifCond .eq 17, 3) := by decide +kernel
theorem dX11_skate_26 : decode cX11_skate 26 = .ok (.iconst (-1), 1) := by decide +kernel
theorem dX11_skate_27 : decode cX11_skate 27 = .ok (.ireturn, 1) := by decide +kernel
theorem dX11_strike_0 : decode cX11_strike 0 = .ok (.aload_n 0, 1) := by decide +kernel
theorem dX11_strike_1 : decode cX11_strike 1 = .ok (.getfield 50, 3) := by decide +kernel
theorem dX11_strike_4 : decode cX11_strike 4 = .ok (.iload_n 1, 1) := by decide +kernel
theorem dX11_strike_5 : decode cX11_strike 5 = .ok (.invokevirtual 143, 3) := by decide +kernel
theorem cw_X1_strikeOut : CWv yX1_strikeOut cX1_strikeOut 6 (some .int) 1 := ⟨⟨⟨List.mem_of_getElem? (i := 133) (by decide +kernel), by decide +kernel⟩, ⟨List.mem_of_getElem? (i := 1034) (by decide +kernel), by decide +kernel⟩, by decide +kernel⟩, ⟨List.mem_of_getElem? (i := 1032) (by decide +kernel), by decide +kernel⟩, ⟨List.mem_of_getElem? (i := 1033) (by decide +kernel), by decide +kernel⟩⟩
theorem km11_143 : inW (Cond.methodLink RX11 143 yX1_strikeOut) := ⟨List.mem_of_getElem? (i := 1031) (by decide +kernel), by decide +kernel⟩
theorem dX11_strike_8 : decode cX11_strike 8 = .ok (.ireturn, 1) := by decide +kernel
theorem dX11_played_0 : decode cX11_played 0 = .ok (.aload_n 0, 1) := by decide +kernel
theorem dX11_played_1 : decode cX11_played 1 = .ok (.getfield 13, 3) := by decide +kernel
theorem dX11_played_4 : decode cX11_played 4 = .ok (.iload_n 1, 1) := by decide +kernel
theorem dX11_played_5 : decode cX11_played 5 = .ok (.invokevirtual 161, 3) := by decide +kernel
theorem km11_161 : inW (Cond.methodLink RX11 161 yX10_script) := ⟨List.mem_of_getElem? (i := 1097) (by decide +kernel), by decide +kernel⟩
theorem dX11_played_8 : decode cX11_played 8 = .ok (.astore_n 2, 1) := by decide +kernel
theorem dX11_played_9 : decode cX11_played 9 = .ok (.aload_n 2, 1) := by decide +kernel
theorem dX11_played_10 : decode cX11_played 10 = .ok (.ifnonnull 6, 3) := by decide +kernel
theorem dX11_played_13 : decode cX11_played 13 = .ok (.bipush (-2), 2) := by decide +kernel
theorem dX11_played_15 : decode cX11_played 15 = .ok (.ireturn, 1) := by decide +kernel
theorem dX11_years_0 : decode cX11_years 0 = .ok (.iload_n 1, 1) := by decide +kernel
theorem dX11_years_1 : decode cX11_years 1 = .ok (.iconst 0, 1) := by decide +kernel
theorem dX11_years_2 : decode cX11_years 2 = .ok (.sipush 9999, 3) := by decide +kernel
theorem dX11_years_5 : decode cX11_years 5 = .ok (.invokestatic 146, 3) := by decide +kernel
theorem km11_146 : inW (Cond.methodLink RX11 146 yX11_within) := ⟨List.mem_of_getElem? (i := 1063) (by decide +kernel), by decide +kernel⟩
theorem dX11_years_8 : decode cX11_years 8 = .ok (.ifCond .eq 23, 3) := by decide +kernel
theorem dX11_years_31 : decode cX11_years 31 = .ok (.iconst (-1), 1) := by decide +kernel
theorem dX11_years_32 : decode cX11_years 32 = .ok (.ireturn, 1) := by decide +kernel
theorem dX11_years_11 : decode cX11_years 11 = .ok (.iload_n 2, 1) := by decide +kernel
theorem dX11_years_12 : decode cX11_years 12 = .ok (.iconst 1, 1) := by decide +kernel
theorem dX11_years_13 : decode cX11_years 13 = .ok (.bipush 40, 2) := by decide +kernel
theorem dX11_years_15 : decode cX11_years 15 = .ok (.invokestatic 146, 3) := by decide +kernel
theorem dX11_years_18 : decode cX11_years 18 = .ok (.ifCond .eq 13, 3) := by decide +kernel
theorem dX11_years_21 : decode cX11_years 21 = .ok (.aload_n 0, 1) := by decide +kernel
theorem dX11_years_22 : decode cX11_years 22 = .ok (.getfield 13, 3) := by decide +kernel
theorem dX11_years_25 : decode cX11_years 25 = .ok (.getfield 174, 3) := by decide +kernel
theorem kf11_174 : inW (Cond.fieldLinkNest RX11 174 "KneeOaths$World" "people" "I" "KneeOaths") := ⟨List.mem_of_getElem? (i := 292) (by decide +kernel), by decide +kernel⟩
theorem dX11_years_28 : decode cX11_years 28 = .ok (.ifCond .ne 5, 3) := by decide +kernel
theorem dX11_undo_0 : decode cX11_undo 0 = .ok (.aload_n 0, 1) := by decide +kernel
theorem dX11_undo_1 : decode cX11_undo 1 = .ok (.getfield 13, 3) := by decide +kernel
theorem dX11_undo_4 : decode cX11_undo 4 = .ok (.invokevirtual 186, 3) := by decide +kernel
theorem cw_X10_takeBack : CWv yX10_takeBack cX10_takeBack 1 (some .boolean) 0 := ⟨⟨⟨List.mem_of_getElem? (i := 126) (by decide +kernel), by decide +kernel⟩, ⟨List.mem_of_getElem? (i := 1137) (by decide +kernel), by decide +kernel⟩, by decide +kernel⟩, ⟨List.mem_of_getElem? (i := 1135) (by decide +kernel), by decide +kernel⟩, ⟨List.mem_of_getElem? (i := 1136) (by decide +kernel), by decide +kernel⟩⟩
theorem km11_186 : inW (Cond.methodLink RX11 186 yX10_takeBack) := ⟨List.mem_of_getElem? (i := 1134) (by decide +kernel), by decide +kernel⟩
theorem dX11_undo_7 : decode cX11_undo 7 = .ok (.ifCond .eq 13, 3) := by decide +kernel
theorem dX11_undo_20 : decode cX11_undo 20 = .ok (.iconst (-1), 1) := by decide +kernel
theorem dX11_undo_21 : decode cX11_undo 21 = .ok (.ireturn, 1) := by decide +kernel
theorem dX11_of_0 : decode cX11_of 0 = .ok (.aload_n 0, 1) := by decide +kernel
theorem dX11_of_1 : decode cX11_of 1 = .ok (.getfield 13, 3) := by decide +kernel
theorem dX11_of_4 : decode cX11_of 4 = .ok (.iload_n 1, 1) := by decide +kernel
theorem dX11_of_5 : decode cX11_of 5 = .ok (.invokevirtual 192, 3) := by decide +kernel
theorem km11_192 : inW (Cond.methodLink RX11 192 yX10_has) := ⟨List.mem_of_getElem? (i := 1142) (by decide +kernel), by decide +kernel⟩
theorem dX11_of_8 : decode cX11_of 8 = .ok (.ifCond .ne 7, 3) := by decide +kernel
theorem dX11_of_11 : decode cX11_of 11 = .ok (.sipush (-1000), 3) := by decide +kernel
theorem dX11_of_14 : decode cX11_of 14 = .ok (.ireturn, 1) := by decide +kernel
theorem dX11_ofOath_0 : decode cX11_ofOath 0 = .ok (.aload_n 0, 1) := by decide +kernel
theorem dX11_ofOath_1 : decode cX11_ofOath 1 = .ok (.getfield 13, 3) := by decide +kernel
theorem dX11_ofOath_4 : decode cX11_ofOath 4 = .ok (.getfield 131, 3) := by decide +kernel
theorem kf11_131 : inW (Cond.fieldLinkNest RX11 131 "KneeOaths$World" "now" "LKneeOaths$Ledger;" "KneeOaths") := ⟨List.mem_of_getElem? (i := 271) (by decide +kernel), by decide +kernel⟩
theorem dX11_ofOath_7 : decode cX11_ofOath 7 = .ok (.iload_n 1, 1) := by decide +kernel
theorem dX11_ofOath_8 : decode cX11_ofOath 8 = .ok (.invokevirtual 211, 3) := by decide +kernel
theorem km11_211 : inW (Cond.methodLink RX11 211 yX4_has) := ⟨List.mem_of_getElem? (i := 1159) (by decide +kernel), by decide +kernel⟩
theorem dX11_ofOath_11 : decode cX11_ofOath 11 = .ok (.ifCond .ne 5, 3) := by decide +kernel
theorem dX11_ofOath_14 : decode cX11_ofOath 14 = .ok (.iconst (-1), 1) := by decide +kernel
theorem dX11_ofOath_15 : decode cX11_ofOath 15 = .ok (.ireturn, 1) := by decide +kernel
theorem dX11_book_0 : decode cX11_book 0 = .ok (.iload_n 1, 1) := by decide +kernel
theorem dX11_book_1 : decode cX11_book 1 = .ok (.iconst (-1), 1) := by decide +kernel
theorem dX11_book_2 : decode cX11_book 2 = .ok (.if_icmp .ne 16, 3) := by decide +kernel
theorem dX11_book_18 : decode cX11_book 18 = .ok (.aload_n 0, 1) := by decide +kernel
theorem dX11_book_19 : decode cX11_book 19 = .ok (.getfield 13, 3) := by decide +kernel
theorem dX11_book_22 : decode cX11_book 22 = .ok (.getfield 131, 3) := by decide +kernel
theorem dX11_book_25 : decode cX11_book 25 = .ok (.iload_n 1, 1) := by decide +kernel
theorem dX11_book_26 : decode cX11_book 26 = .ok (.iload_n 2, 1) := by decide +kernel
theorem dX11_book_27 : decode cX11_book 27 = .ok (.invokevirtual 234, 3) := by decide +kernel
theorem cw_X4_written : CWv yX4_written cX4_written 3 (some .int) 2 := ⟨⟨⟨List.mem_of_getElem? (i := 125) (by decide +kernel), by decide +kernel⟩, ⟨List.mem_of_getElem? (i := 1174) (by decide +kernel), by decide +kernel⟩, by decide +kernel⟩, ⟨List.mem_of_getElem? (i := 1172) (by decide +kernel), by decide +kernel⟩, ⟨List.mem_of_getElem? (i := 1173) (by decide +kernel), by decide +kernel⟩⟩
theorem km11_234 : inW (Cond.methodLink RX11 234 yX4_written) := ⟨List.mem_of_getElem? (i := 1171) (by decide +kernel), by decide +kernel⟩
theorem dX11_book_30 : decode cX11_book 30 = .ok (.ireturn, 1) := by decide +kernel
theorem dX11_book_5 : decode cX11_book 5 = .ok (.aload_n 0, 1) := by decide +kernel
theorem dX11_book_6 : decode cX11_book 6 = .ok (.getfield 13, 3) := by decide +kernel
theorem dX11_book_9 : decode cX11_book 9 = .ok (.getfield 131, 3) := by decide +kernel
theorem dX11_book_12 : decode cX11_book 12 = .ok (.getfield 231, 3) := by decide +kernel
theorem kf11_231 : inW (Cond.fieldLinkNest RX11 231 "KneeOaths$Ledger" "acheCount" "I" "KneeOaths") := ⟨List.mem_of_getElem? (i := 169) (by decide +kernel), by decide +kernel⟩
theorem dX11_book_15 : decode cX11_book 15 = .ok (.goto 15, 3) := by decide +kernel
theorem dX11_firstAche_0 : decode cX11_firstAche 0 = .ok (.aload_n 0, 1) := by decide +kernel
theorem dX11_firstAche_1 : decode cX11_firstAche 1 = .ok (.getfield 13, 3) := by decide +kernel
theorem dX11_firstAche_4 : decode cX11_firstAche 4 = .ok (.iload_n 1, 1) := by decide +kernel
theorem dX11_firstAche_5 : decode cX11_firstAche 5 = .ok (.invokevirtual 192, 3) := by decide +kernel
theorem dX11_firstAche_8 : decode cX11_firstAche 8 = .ok (.ifCond .eq 14, 3) := by decide +kernel
theorem dX11_firstAche_22 : decode cX11_firstAche 22 = .ok (.iconst (-1), 1) := by decide +kernel
theorem dX11_firstAche_23 : decode cX11_firstAche 23 = .ok (.ireturn, 1) := by decide +kernel
theorem dX11_fades_0 : decode cX11_fades 0 = .ok (.aload_n 0, 1) := by decide +kernel
theorem dX11_fades_1 : decode cX11_fades 1 = .ok (.getfield 59, 3) := by decide +kernel
theorem kf11_59 : inW (Cond.fieldLink RX11 59 "KneeOaths" "foresight" "LKneeOaths$Foresight;") := ⟨List.mem_of_getElem? (i := 511) (by decide +kernel), by decide +kernel⟩
theorem dX11_fades_4 : decode cX11_fades 4 = .ok (.iload_n 1, 1) := by decide +kernel
theorem dX11_fades_5 : decode cX11_fades 5 = .ok (.invokevirtual 246, 3) := by decide +kernel
theorem cw_X2_daysToFade : CWv yX2_daysToFade cX2_daysToFade 4 (some .int) 1 := ⟨⟨⟨List.mem_of_getElem? (i := 134) (by decide +kernel), by decide +kernel⟩, ⟨List.mem_of_getElem? (i := 1206) (by decide +kernel), by decide +kernel⟩, by decide +kernel⟩, ⟨List.mem_of_getElem? (i := 1204) (by decide +kernel), by decide +kernel⟩, ⟨List.mem_of_getElem? (i := 1205) (by decide +kernel), by decide +kernel⟩⟩
theorem km11_246 : inW (Cond.methodLink RX11 246 yX2_daysToFade) := ⟨List.mem_of_getElem? (i := 1203) (by decide +kernel), by decide +kernel⟩
theorem dX11_fades_8 : decode cX11_fades 8 = .ok (.ireturn, 1) := by decide +kernel
theorem dX11_felt_0 : decode cX11_felt 0 = .ok (.iload_n 1, 1) := by decide +kernel
theorem dX11_felt_1 : decode cX11_felt 1 = .ok (.iconst (-1), 1) := by decide +kernel
theorem dX11_felt_2 : decode cX11_felt 2 = .ok (.if_icmp .ne 14, 3) := by decide +kernel
theorem dX11_felt_16 : decode cX11_felt 16 = .ok (.aload_n 0, 1) := by decide +kernel
theorem dX11_felt_17 : decode cX11_felt 17 = .ok (.getfield 13, 3) := by decide +kernel
theorem dX11_felt_20 : decode cX11_felt 20 = .ok (.iload_n 1, 1) := by decide +kernel
theorem dX11_felt_21 : decode cX11_felt 21 = .ok (.invokevirtual 192, 3) := by decide +kernel
theorem dX11_felt_24 : decode cX11_felt 24 = .ok (.ifCond .eq 24, 3) := by decide +kernel
theorem dX11_felt_48 : decode cX11_felt 48 = .ok (.bipush (-2), 2) := by decide +kernel
theorem dX11_felt_50 : decode cX11_felt 50 = .ok (.ireturn, 1) := by decide +kernel
theorem dX11_felt_5 : decode cX11_felt 5 = .ok (.aload_n 0, 1) := by decide +kernel
theorem dX11_felt_6 : decode cX11_felt 6 = .ok (.getfield 13, 3) := by decide +kernel
theorem dX11_felt_9 : decode cX11_felt 9 = .ok (.getfield 249, 3) := by decide +kernel
theorem kf11_249 : inW (Cond.fieldLinkNest RX11 249 "KneeOaths$World" "feelings" "LKneeOaths$Told;" "KneeOaths") := ⟨List.mem_of_getElem? (i := 275) (by decide +kernel), by decide +kernel⟩
theorem dX11_felt_12 : decode cX11_felt 12 = .ok (.invokevirtual 253, 3) := by decide +kernel
theorem cw_X9_forget : CWv yX9_forget cX9_forget 1 (some .int) 0 := ⟨⟨⟨List.mem_of_getElem? (i := 127) (by decide +kernel), by decide +kernel⟩, ⟨List.mem_of_getElem? (i := 1218) (by decide +kernel), by decide +kernel⟩, by decide +kernel⟩, ⟨List.mem_of_getElem? (i := 1216) (by decide +kernel), by decide +kernel⟩, ⟨List.mem_of_getElem? (i := 1217) (by decide +kernel), by decide +kernel⟩⟩
theorem km11_253 : inW (Cond.methodLink RX11 253 yX9_forget) := ⟨List.mem_of_getElem? (i := 1215) (by decide +kernel), by decide +kernel⟩
theorem dX11_felt_15 : decode cX11_felt 15 = .ok (.ireturn, 1) := by decide +kernel
theorem dX11_clash_0 : decode cX11_clash 0 = .ok (.iload_n 1, 1) := by decide +kernel
theorem dX11_clash_1 : decode cX11_clash 1 = .ok (.iconst (-1), 1) := by decide +kernel
theorem dX11_clash_2 : decode cX11_clash 2 = .ok (.if_icmp .ne 14, 3) := by decide +kernel
theorem dX11_clash_16 : decode cX11_clash 16 = .ok (.aload_n 0, 1) := by decide +kernel
theorem dX11_clash_17 : decode cX11_clash 17 = .ok (.getfield 13, 3) := by decide +kernel
theorem dX11_clash_20 : decode cX11_clash 20 = .ok (.getfield 131, 3) := by decide +kernel
theorem dX11_clash_23 : decode cX11_clash 23 = .ok (.iload_n 1, 1) := by decide +kernel
theorem dX11_clash_24 : decode cX11_clash 24 = .ok (.invokevirtual 211, 3) := by decide +kernel
theorem dX11_clash_27 : decode cX11_clash 27 = .ok (.ifCond .eq 22, 3) := by decide +kernel
theorem dX11_clash_49 : decode cX11_clash 49 = .ok (.bipush (-2), 2) := by decide +kernel
theorem dX11_clash_51 : decode cX11_clash 51 = .ok (.ireturn, 1) := by decide +kernel
theorem dX11_clash_5 : decode cX11_clash 5 = .ok (.aload_n 0, 1) := by decide +kernel
theorem dX11_clash_6 : decode cX11_clash 6 = .ok (.getfield 13, 3) := by decide +kernel
theorem dX11_clash_9 : decode cX11_clash 9 = .ok (.getfield 284, 3) := by decide +kernel
theorem kf11_284 : inW (Cond.fieldLinkNest RX11 284 "KneeOaths$World" "clashes" "LKneeOaths$Told;" "KneeOaths") := ⟨List.mem_of_getElem? (i := 278) (by decide +kernel), by decide +kernel⟩
theorem dX11_clash_12 : decode cX11_clash 12 = .ok (.invokevirtual 253, 3) := by decide +kernel
theorem dX11_clash_15 : decode cX11_clash 15 = .ok (.ireturn, 1) := by decide +kernel
theorem dX11_saw_0 : decode cX11_saw 0 = .ok (.iload_n 1, 1) := by decide +kernel
theorem dX11_saw_1 : decode cX11_saw 1 = .ok (.iconst (-1), 1) := by decide +kernel
theorem dX11_saw_2 : decode cX11_saw 2 = .ok (.if_icmp .ne 14, 3) := by decide +kernel
theorem dX11_saw_16 : decode cX11_saw 16 = .ok (.aload_n 0, 1) := by decide +kernel
theorem dX11_saw_17 : decode cX11_saw 17 = .ok (.getfield 13, 3) := by decide +kernel
theorem dX11_saw_20 : decode cX11_saw 20 = .ok (.iload_n 1, 1) := by decide +kernel
theorem dX11_saw_21 : decode cX11_saw 21 = .ok (.invokevirtual 192, 3) := by decide +kernel
theorem dX11_saw_24 : decode cX11_saw 24 = .ok (.ifCond .eq 19, 3) := by decide +kernel
theorem dX11_saw_43 : decode cX11_saw 43 = .ok (.bipush (-2), 2) := by decide +kernel
theorem dX11_saw_45 : decode cX11_saw 45 = .ok (.ireturn, 1) := by decide +kernel
theorem dX11_saw_5 : decode cX11_saw 5 = .ok (.aload_n 0, 1) := by decide +kernel
theorem dX11_saw_6 : decode cX11_saw 6 = .ok (.getfield 13, 3) := by decide +kernel
theorem dX11_saw_9 : decode cX11_saw 9 = .ok (.getfield 313, 3) := by decide +kernel
theorem kf11_313 : inW (Cond.fieldLinkNest RX11 313 "KneeOaths$World" "sights" "LKneeOaths$Told;" "KneeOaths") := ⟨List.mem_of_getElem? (i := 284) (by decide +kernel), by decide +kernel⟩
theorem dX11_saw_12 : decode cX11_saw 12 = .ok (.invokevirtual 253, 3) := by decide +kernel
theorem dX11_saw_15 : decode cX11_saw 15 = .ok (.ireturn, 1) := by decide +kernel
theorem dX11_worn_0 : decode cX11_worn 0 = .ok (.iload_n 1, 1) := by decide +kernel
theorem dX11_worn_1 : decode cX11_worn 1 = .ok (.iconst (-1), 1) := by decide +kernel
theorem dX11_worn_2 : decode cX11_worn 2 = .ok (.if_icmp .ne 14, 3) := by decide +kernel
theorem dX11_worn_16 : decode cX11_worn 16 = .ok (.aload_n 0, 1) := by decide +kernel
theorem dX11_worn_17 : decode cX11_worn 17 = .ok (.getfield 13, 3) := by decide +kernel
theorem dX11_worn_20 : decode cX11_worn 20 = .ok (.getfield 131, 3) := by decide +kernel
theorem dX11_worn_23 : decode cX11_worn 23 = .ok (.iload_n 1, 1) := by decide +kernel
theorem dX11_worn_24 : decode cX11_worn 24 = .ok (.invokevirtual 211, 3) := by decide +kernel
theorem dX11_worn_27 : decode cX11_worn 27 = .ok (.ifCond .eq 13, 3) := by decide +kernel
theorem dX11_worn_40 : decode cX11_worn 40 = .ok (.bipush (-2), 2) := by decide +kernel
theorem dX11_worn_42 : decode cX11_worn 42 = .ok (.ireturn, 1) := by decide +kernel
theorem dX11_worn_5 : decode cX11_worn 5 = .ok (.aload_n 0, 1) := by decide +kernel
theorem dX11_worn_6 : decode cX11_worn 6 = .ok (.getfield 13, 3) := by decide +kernel
theorem dX11_worn_9 : decode cX11_worn 9 = .ok (.getfield 326, 3) := by decide +kernel
theorem kf11_326 : inW (Cond.fieldLinkNest RX11 326 "KneeOaths$World" "wearings" "LKneeOaths$Told;" "KneeOaths") := ⟨List.mem_of_getElem? (i := 287) (by decide +kernel), by decide +kernel⟩
theorem dX11_worn_12 : decode cX11_worn 12 = .ok (.invokevirtual 253, 3) := by decide +kernel
theorem dX11_worn_15 : decode cX11_worn 15 = .ok (.ireturn, 1) := by decide +kernel
theorem dX11_breaches_0 : decode cX11_breaches 0 = .ok (.aload_n 0, 1) := by decide +kernel
theorem dX11_breaches_1 : decode cX11_breaches 1 = .ok (.getfield 13, 3) := by decide +kernel
theorem dX11_breaches_4 : decode cX11_breaches 4 = .ok (.iload_n 1, 1) := by decide +kernel
theorem dX11_breaches_5 : decode cX11_breaches 5 = .ok (.invokevirtual 192, 3) := by decide +kernel
theorem dX11_breaches_8 : decode cX11_breaches 8 = .ok (.ifCond .eq 12, 3) := by decide +kernel
theorem dX11_breaches_20 : decode cX11_breaches 20 = .ok (.iconst (-1), 1) := by decide +kernel
theorem dX11_breaches_21 : decode cX11_breaches 21 = .ok (.ireturn, 1) := by decide +kernel
theorem dX11_odds_0 : decode cX11_odds 0 = .ok (.aload_n 0, 1) := by decide +kernel
theorem dX11_odds_1 : decode cX11_odds 1 = .ok (.getfield 13, 3) := by decide +kernel
theorem dX11_odds_4 : decode cX11_odds 4 = .ok (.getfield 131, 3) := by decide +kernel
theorem dX11_odds_7 : decode cX11_odds 7 = .ok (.iload_n 1, 1) := by decide +kernel
theorem dX11_odds_8 : decode cX11_odds 8 = .ok (.invokevirtual 274, 3) := by decide +kernel
theorem cw_X4_legible : CWv yX4_legible cX4_legible 2 (some .boolean) 1 := ⟨⟨⟨List.mem_of_getElem? (i := 125) (by decide +kernel), by decide +kernel⟩, ⟨List.mem_of_getElem? (i := 1057) (by decide +kernel), by decide +kernel⟩, by decide +kernel⟩, ⟨List.mem_of_getElem? (i := 1055) (by decide +kernel), by decide +kernel⟩, ⟨List.mem_of_getElem? (i := 1056) (by decide +kernel), by decide +kernel⟩⟩
theorem km11_274 : inW (Cond.methodLink RX11 274 yX4_legible) := ⟨List.mem_of_getElem? (i := 1275) (by decide +kernel), by decide +kernel⟩
theorem dX11_odds_11 : decode cX11_odds 11 = .ok (.ifCond .ne 5, 3) := by decide +kernel
theorem dX11_odds_14 : decode cX11_odds 14 = .ok (.iconst (-1), 1) := by decide +kernel
theorem dX11_odds_15 : decode cX11_odds 15 = .ok (.ireturn, 1) := by decide +kernel
theorem dX11_nextAsked_0 : decode cX11_nextAsked 0 = .ok (.aload_n 0, 1) := by decide +kernel
theorem dX11_nextAsked_1 : decode cX11_nextAsked 1 = .ok (.getfield 13, 3) := by decide +kernel
theorem dX11_nextAsked_4 : decode cX11_nextAsked 4 = .ok (.iload_n 1, 1) := by decide +kernel
theorem dX11_nextAsked_5 : decode cX11_nextAsked 5 = .ok (.invokevirtual 192, 3) := by decide +kernel
theorem dX11_nextAsked_8 : decode cX11_nextAsked 8 = .ok (.ifCond .ne 5, 3) := by decide +kernel
theorem dX11_nextAsked_11 : decode cX11_nextAsked 11 = .ok (.iconst (-1), 1) := by decide +kernel
theorem dX11_nextAsked_12 : decode cX11_nextAsked 12 = .ok (.ireturn, 1) := by decide +kernel
theorem dX11_leastReleased_0 : decode cX11_leastReleased 0 = .ok (.aload_n 0, 1) := by decide +kernel
theorem dX11_leastReleased_1 : decode cX11_leastReleased 1 = .ok (.getfield 75, 3) := by decide +kernel
theorem kf11_75 : inW (Cond.fieldLink RX11 75 "KneeOaths" "choices" "LKneeOaths$Choices;") := ⟨List.mem_of_getElem? (i := 513) (by decide +kernel), by decide +kernel⟩
theorem dX11_leastReleased_4 : decode cX11_leastReleased 4 = .ok (.invokevirtual 287, 3) := by decide +kernel
theorem cw_X0_fewestReleased : CWv yX0_fewestReleased cX0_fewestReleased 5 (some .int) 0 := ⟨⟨⟨List.mem_of_getElem? (i := 136) (by decide +kernel), by decide +kernel⟩, ⟨List.mem_of_getElem? (i := 1305) (by decide +kernel), by decide +kernel⟩, by decide +kernel⟩, ⟨List.mem_of_getElem? (i := 1303) (by decide +kernel), by decide +kernel⟩, ⟨List.mem_of_getElem? (i := 1304) (by decide +kernel), by decide +kernel⟩⟩
theorem km11_287 : inW (Cond.methodLink RX11 287 yX0_fewestReleased) := ⟨List.mem_of_getElem? (i := 1302) (by decide +kernel), by decide +kernel⟩
theorem dX11_leastReleased_7 : decode cX11_leastReleased 7 = .ok (.ireturn, 1) := by decide +kernel
theorem dX11_forged_0 : decode cX11_forged 0 = .ok (.aload_n 0, 1) := by decide +kernel
theorem dX11_forged_1 : decode cX11_forged 1 = .ok (.getfield 13, 3) := by decide +kernel
theorem dX11_forged_4 : decode cX11_forged 4 = .ok (.iload_n 1, 1) := by decide +kernel
theorem dX11_forged_5 : decode cX11_forged 5 = .ok (.invokevirtual 192, 3) := by decide +kernel
theorem dX11_forged_8 : decode cX11_forged 8 = .ok (.ifCond .eq 22, 3) := by decide +kernel
theorem dX11_forged_30 : decode cX11_forged 30 = .ok (.sipush (-1000), 3) := by decide +kernel
theorem dX11_forged_33 : decode cX11_forged 33 = .ok (.ireturn, 1) := by decide +kernel
theorem dX11_word_0 : decode cX11_word 0 = .ok (.iload_n 1, 1) := by decide +kernel
theorem dX11_word_1 : decode cX11_word 1 = .ok (.iconst (-1), 1) := by decide +kernel
theorem dX11_word_2 : decode cX11_word 2 = .ok (.if_icmp .ne 14, 3) := by decide +kernel
theorem dX11_word_16 : decode cX11_word 16 = .ok (.iload_n 1, 1) := by decide +kernel
theorem dX11_word_17 : decode cX11_word 17 = .ok (.iconst 1, 1) := by decide +kernel
theorem dX11_word_18 : decode cX11_word 18 = .ok (.bipush 99, 2) := by decide +kernel
theorem dX11_word_20 : decode cX11_word 20 = .ok (.invokestatic 146, 3) := by decide +kernel
theorem dX11_word_23 : decode cX11_word 23 = .ok (.ifCond .eq 14, 3) := by decide +kernel
theorem dX11_word_37 : decode cX11_word 37 = .ok (.bipush (-2), 2) := by decide +kernel
theorem dX11_word_39 : decode cX11_word 39 = .ok (.ireturn, 1) := by decide +kernel
theorem dX11_word_26 : decode cX11_word 26 = .ok (.iload_n 2, 1) := by decide +kernel
theorem dX11_word_27 : decode cX11_word 27 = .ok (.iconst 0, 1) := by decide +kernel
theorem dX11_word_28 : decode cX11_word 28 = .ok (.sipush 999, 3) := by decide +kernel
theorem dX11_word_31 : decode cX11_word 31 = .ok (.invokestatic 146, 3) := by decide +kernel
theorem dX11_word_34 : decode cX11_word 34 = .ok (.ifCond .ne 6, 3) := by decide +kernel
theorem dX11_word_40 : decode cX11_word 40 = .ok (.aload_n 0, 1) := by decide +kernel
theorem dX11_word_41 : decode cX11_word 41 = .ok (.getfield 13, 3) := by decide +kernel
theorem dX11_word_44 : decode cX11_word 44 = .ok (.getfield 293, 3) := by decide +kernel
theorem kf11_293 : inW (Cond.fieldLinkNest RX11 293 "KneeOaths$World" "words" "LKneeOaths$Told;" "KneeOaths") := ⟨List.mem_of_getElem? (i := 281) (by decide +kernel), by decide +kernel⟩
theorem dX11_word_47 : decode cX11_word 47 = .ok (.iload_n 1, 1) := by decide +kernel
theorem dX11_word_48 : decode cX11_word 48 = .ok (.iload_n 2, 1) := by decide +kernel
theorem dX11_word_49 : decode cX11_word 49 = .ok (.iconst 0, 1) := by decide +kernel
theorem dX11_word_50 : decode cX11_word 50 = .ok (.invokevirtual 258, 3) := by decide +kernel
theorem cw_X9_tell : CWv yX9_tell cX9_tell 5 (some .int) 3 := ⟨⟨⟨List.mem_of_getElem? (i := 127) (by decide +kernel), by decide +kernel⟩, ⟨List.mem_of_getElem? (i := 1222) (by decide +kernel), by decide +kernel⟩, by decide +kernel⟩, ⟨List.mem_of_getElem? (i := 1220) (by decide +kernel), by decide +kernel⟩, ⟨List.mem_of_getElem? (i := 1221) (by decide +kernel), by decide +kernel⟩⟩
theorem km11_258 : inW (Cond.methodLink RX11 258 yX9_tell) := ⟨List.mem_of_getElem? (i := 1219) (by decide +kernel), by decide +kernel⟩
theorem dX11_word_53 : decode cX11_word 53 = .ok (.ireturn, 1) := by decide +kernel
theorem dX11_word_5 : decode cX11_word 5 = .ok (.aload_n 0, 1) := by decide +kernel
theorem dX11_word_6 : decode cX11_word 6 = .ok (.getfield 13, 3) := by decide +kernel
theorem dX11_word_9 : decode cX11_word 9 = .ok (.getfield 293, 3) := by decide +kernel
theorem dX11_word_12 : decode cX11_word 12 = .ok (.invokevirtual 253, 3) := by decide +kernel
theorem dX11_word_15 : decode cX11_word 15 = .ok (.ireturn, 1) := by decide +kernel
theorem dX11_inTime_0 : decode cX11_inTime 0 = .ok (.iload_n 1, 1) := by decide +kernel
theorem dX11_inTime_1 : decode cX11_inTime 1 = .ok (.iconst 0, 1) := by decide +kernel
theorem dX11_inTime_2 : decode cX11_inTime 2 = .ok (.iconst 2, 1) := by decide +kernel
theorem dX11_inTime_3 : decode cX11_inTime 3 = .ok (.invokestatic 146, 3) := by decide +kernel
theorem dX11_inTime_6 : decode cX11_inTime 6 = .ok (.ifCond .ne 5, 3) := by decide +kernel
theorem dX11_inTime_11 : decode cX11_inTime 11 = .ok (.aload_n 0, 1) := by decide +kernel
theorem dX11_inTime_12 : decode cX11_inTime 12 = .ok (.getfield 75, 3) := by decide +kernel
theorem dX11_inTime_15 : decode cX11_inTime 15 = .ok (.invokevirtual 296, 3) := by decide +kernel
theorem cw_X0_mostInTime : CWv yX0_mostInTime cX0_mostInTime 3 (some .int) 0 := ⟨⟨⟨List.mem_of_getElem? (i := 136) (by decide +kernel), by decide +kernel⟩, ⟨List.mem_of_getElem? (i := 1335) (by decide +kernel), by decide +kernel⟩, by decide +kernel⟩, ⟨List.mem_of_getElem? (i := 1333) (by decide +kernel), by decide +kernel⟩, ⟨List.mem_of_getElem? (i := 1334) (by decide +kernel), by decide +kernel⟩⟩
theorem km11_296 : inW (Cond.methodLink RX11 296 yX0_mostInTime) := ⟨List.mem_of_getElem? (i := 1332) (by decide +kernel), by decide +kernel⟩
theorem dX11_inTime_18 : decode cX11_inTime 18 = .ok (.istore_n 2, 1) := by decide +kernel
theorem dX11_inTime_19 : decode cX11_inTime 19 = .ok (.iload_n 1, 1) := by decide +kernel
theorem dX11_inTime_20 : decode cX11_inTime 20 = .ok (.ifCond .ne 8, 3) := by decide +kernel
theorem dX11_inTime_28 : decode cX11_inTime 28 = .ok (.iload_n 1, 1) := by decide +kernel
theorem dX11_inTime_29 : decode cX11_inTime 29 = .ok (.iconst 1, 1) := by decide +kernel
theorem dX11_inTime_30 : decode cX11_inTime 30 = .ok (.if_icmp .ne 7, 3) := by decide +kernel
theorem dX11_inTime_37 : decode cX11_inTime 37 = .ok (.aload_n 0, 1) := by decide +kernel
theorem dX11_inTime_38 : decode cX11_inTime 38 = .ok (.getfield 75, 3) := by decide +kernel
theorem dX11_inTime_41 : decode cX11_inTime 41 = .ok (.iload_n 2, 1) := by decide +kernel
theorem dX11_inTime_42 : decode cX11_inTime 42 = .ok (.sipush 999, 3) := by decide +kernel
theorem dX11_inTime_45 : decode cX11_inTime 45 = .ok (.invokevirtual 304, 3) := by decide +kernel
theorem cw_X0_workOf : CWv yX0_workOf cX0_workOf 5 (some .int) 2 := ⟨⟨⟨List.mem_of_getElem? (i := 136) (by decide +kernel), by decide +kernel⟩, ⟨List.mem_of_getElem? (i := 1343) (by decide +kernel), by decide +kernel⟩, by decide +kernel⟩, ⟨List.mem_of_getElem? (i := 1341) (by decide +kernel), by decide +kernel⟩, ⟨List.mem_of_getElem? (i := 1342) (by decide +kernel), by decide +kernel⟩⟩
theorem km11_304 : inW (Cond.methodLink RX11 304 yX0_workOf) := ⟨List.mem_of_getElem? (i := 1345) (by decide +kernel), by decide +kernel⟩
theorem dX11_inTime_48 : decode cX11_inTime 48 = .ok (.ireturn, 1) := by decide +kernel
theorem dX11_inTime_33 : decode cX11_inTime 33 = .ok (.iload_n 2, 1) := by decide +kernel
theorem dX11_inTime_34 : decode cX11_inTime 34 = .ok (.goto 14, 3) := by decide +kernel
theorem dX11_inTime_23 : decode cX11_inTime 23 = .ok (.iload_n 2, 1) := by decide +kernel
theorem dX11_inTime_24 : decode cX11_inTime 24 = .ok (.invokestatic 299, 3) := by decide +kernel
theorem km11_299 : inW (Cond.methodLink RX11 299 yJ6_bitCount_0f7a4) := ⟨List.mem_of_getElem? (i := 1344) (by decide +kernel), by decide +kernel⟩
theorem dX11_inTime_27 : decode cX11_inTime 27 = .ok (.ireturn, 1) := by decide +kernel
theorem dX11_inTime_9 : decode cX11_inTime 9 = .ok (.iconst (-1), 1) := by decide +kernel
theorem dX11_inTime_10 : decode cX11_inTime 10 = .ok (.ireturn, 1) := by decide +kernel
theorem dX11_whom_0 : decode cX11_whom 0 = .ok (.aload_n 0, 1) := by decide +kernel
theorem dX11_whom_1 : decode cX11_whom 1 = .ok (.getfield 13, 3) := by decide +kernel
theorem dX11_whom_4 : decode cX11_whom 4 = .ok (.iload_n 1, 1) := by decide +kernel
theorem dX11_whom_5 : decode cX11_whom 5 = .ok (.invokevirtual 192, 3) := by decide +kernel
theorem dX11_whom_8 : decode cX11_whom 8 = .ok (.ifCond .ne 5, 3) := by decide +kernel
theorem dX11_whom_11 : decode cX11_whom 11 = .ok (.iconst (-1), 1) := by decide +kernel
theorem dX11_whom_12 : decode cX11_whom 12 = .ok (.ireturn, 1) := by decide +kernel
theorem dX11_ring_0 : decode cX11_ring 0 = .ok (.aload_n 0, 1) := by decide +kernel
theorem dX11_ring_1 : decode cX11_ring 1 = .ok (.getfield 41, 3) := by decide +kernel
theorem kf11_41 : inW (Cond.fieldLink RX11 41 "KneeOaths" "rings" "LKneeOaths$Rings;") := ⟨List.mem_of_getElem? (i := 509) (by decide +kernel), by decide +kernel⟩
theorem dX11_ring_4 : decode cX11_ring 4 = .ok (.invokevirtual 307, 3) := by decide +kernel
theorem cw_X6_shortest : CWv yX6_shortest cX6_shortest 2 (some .int) 0 := ⟨⟨⟨List.mem_of_getElem? (i := 132) (by decide +kernel), by decide +kernel⟩, ⟨List.mem_of_getElem? (i := 1357) (by decide +kernel), by decide +kernel⟩, by decide +kernel⟩, ⟨List.mem_of_getElem? (i := 1355) (by decide +kernel), by decide +kernel⟩, ⟨List.mem_of_getElem? (i := 1356) (by decide +kernel), by decide +kernel⟩⟩
theorem km11_307 : inW (Cond.methodLink RX11 307 yX6_shortest) := ⟨List.mem_of_getElem? (i := 1354) (by decide +kernel), by decide +kernel⟩
theorem dX11_ring_7 : decode cX11_ring 7 = .ok (.ireturn, 1) := by decide +kernel
theorem dX11_allSeen_0 : decode cX11_allSeen 0 = .ok (.aload_n 0, 1) := by decide +kernel
theorem dX11_allSeen_1 : decode cX11_allSeen 1 = .ok (.getfield 75, 3) := by decide +kernel
theorem dX11_allSeen_4 : decode cX11_allSeen 4 = .ok (.invokevirtual 310, 3) := by decide +kernel
theorem cw_X0_fewestAsked : CWv yX0_fewestAsked cX0_fewestAsked 3 (some .int) 0 := ⟨⟨⟨List.mem_of_getElem? (i := 136) (by decide +kernel), by decide +kernel⟩, ⟨List.mem_of_getElem? (i := 1373) (by decide +kernel), by decide +kernel⟩, by decide +kernel⟩, ⟨List.mem_of_getElem? (i := 1371) (by decide +kernel), by decide +kernel⟩, ⟨List.mem_of_getElem? (i := 1372) (by decide +kernel), by decide +kernel⟩⟩
theorem km11_310 : inW (Cond.methodLink RX11 310 yX0_fewestAsked) := ⟨List.mem_of_getElem? (i := 1370) (by decide +kernel), by decide +kernel⟩
theorem dX11_allSeen_7 : decode cX11_allSeen 7 = .ok (.ireturn, 1) := by decide +kernel
theorem dX11_known_0 : decode cX11_known 0 = .ok (.aload_n 0, 1) := by decide +kernel
theorem dX11_known_1 : decode cX11_known 1 = .ok (.getfield 13, 3) := by decide +kernel
theorem dX11_known_4 : decode cX11_known 4 = .ok (.iload_n 1, 1) := by decide +kernel
theorem dX11_known_5 : decode cX11_known 5 = .ok (.invokevirtual 192, 3) := by decide +kernel
theorem dX11_known_8 : decode cX11_known 8 = .ok (.ifCond .eq 14, 3) := by decide +kernel
theorem dX11_known_22 : decode cX11_known 22 = .ok (.iconst (-1), 1) := by decide +kernel
theorem dX11_known_23 : decode cX11_known 23 = .ok (.ireturn, 1) := by decide +kernel
theorem dX11_together_0 : decode cX11_together 0 = .ok (.aload_n 0, 1) := by decide +kernel
theorem dX11_together_1 : decode cX11_together 1 = .ok (.getfield 75, 3) := by decide +kernel
theorem dX11_together_4 : decode cX11_together 4 = .ok (.invokevirtual 319, 3) := by decide +kernel
theorem cw_X0_fewestKnowing : CWv yX0_fewestKnowing cX0_fewestKnowing 4 (some .int) 0 := ⟨⟨⟨List.mem_of_getElem? (i := 136) (by decide +kernel), by decide +kernel⟩, ⟨List.mem_of_getElem? (i := 1398) (by decide +kernel), by decide +kernel⟩, by decide +kernel⟩, ⟨List.mem_of_getElem? (i := 1396) (by decide +kernel), by decide +kernel⟩, ⟨List.mem_of_getElem? (i := 1397) (by decide +kernel), by decide +kernel⟩⟩
theorem km11_319 : inW (Cond.methodLink RX11 319 yX0_fewestKnowing) := ⟨List.mem_of_getElem? (i := 1395) (by decide +kernel), by decide +kernel⟩
theorem dX11_together_7 : decode cX11_together 7 = .ok (.ireturn, 1) := by decide +kernel
theorem dX11_copy_0 : decode cX11_copy 0 = .ok (.aload_n 0, 1) := by decide +kernel
theorem dX11_copy_1 : decode cX11_copy 1 = .ok (.getfield 13, 3) := by decide +kernel
theorem dX11_copy_4 : decode cX11_copy 4 = .ok (.getfield 131, 3) := by decide +kernel
theorem dX11_copy_7 : decode cX11_copy 7 = .ok (.iload_n 1, 1) := by decide +kernel
theorem dX11_copy_8 : decode cX11_copy 8 = .ok (.invokevirtual 322, 3) := by decide +kernel
theorem km11_322 : inW (Cond.methodLink RX11 322 yX4_unreleased) := ⟨List.mem_of_getElem? (i := 1408) (by decide +kernel), by decide +kernel⟩
theorem dX11_copy_11 : decode cX11_copy 11 = .ok (.ifCond .eq 24, 3) := by decide +kernel
theorem dX11_copy_35 : decode cX11_copy 35 = .ok (.ldc_w 325, 3) := by decide +kernel
theorem kk11_325 : inW (Cond.constant RX11 325 (-100000)) := ⟨List.mem_of_getElem? (i := 1409) (by decide +kernel), by decide +kernel⟩
theorem dX11_copy_38 : decode cX11_copy 38 = .ok (.ireturn, 1) := by decide +kernel
theorem dX11_whose_0 : decode cX11_whose 0 = .ok (.iconst 0, 1) := by decide +kernel
theorem dX11_whose_1 : decode cX11_whose 1 = .ok (.istore_n 1, 1) := by decide +kernel
theorem dX11_whose_2 : decode cX11_whose 2 = .ok (.iconst 0, 1) := by decide +kernel
theorem dX11_whose_3 : decode cX11_whose 3 = .ok (.istore_n 2, 1) := by decide +kernel
theorem dX11_whose_4 : decode cX11_whose 4 = .ok (.iload_n 2, 1) := by decide +kernel
theorem dX11_whose_5 : decode cX11_whose 5 = .ok (.aload_n 0, 1) := by decide +kernel
theorem dX11_whose_6 : decode cX11_whose 6 = .ok (.getfield 13, 3) := by decide +kernel
theorem dX11_whose_9 : decode cX11_whose 9 = .ok (.getfield 329, 3) := by decide +kernel
theorem kf11_329 : inW (Cond.fieldLinkNest RX11 329 "KneeOaths$World" "textCount" "I" "KneeOaths") := ⟨List.mem_of_getElem? (i := 294) (by decide +kernel), by decide +kernel⟩
theorem dX11_whose_12 : decode cX11_whose 12 = .ok (.if_icmp .ge 26, 3) := by decide +kernel
theorem dX11_whose_38 : decode cX11_whose 38 = .ok (.iload_n 1, 1) := by decide +kernel
theorem dX11_whose_39 : decode cX11_whose 39 = .ok (.ireturn, 1) := by decide +kernel
theorem dX11_mostSworn_0 : decode cX11_mostSworn 0 = .ok (.aload_n 0, 1) := by decide +kernel
theorem dX11_mostSworn_1 : decode cX11_mostSworn 1 = .ok (.getfield 75, 3) := by decide +kernel
theorem dX11_mostSworn_4 : decode cX11_mostSworn 4 = .ok (.invokevirtual 335, 3) := by decide +kernel
theorem cw_X0_mostOften : CWv yX0_mostOften cX0_mostOften 5 (some .int) 0 := ⟨⟨⟨List.mem_of_getElem? (i := 136) (by decide +kernel), by decide +kernel⟩, ⟨List.mem_of_getElem? (i := 1432) (by decide +kernel), by decide +kernel⟩, by decide +kernel⟩, ⟨List.mem_of_getElem? (i := 1430) (by decide +kernel), by decide +kernel⟩, ⟨List.mem_of_getElem? (i := 1431) (by decide +kernel), by decide +kernel⟩⟩
theorem km11_335 : inW (Cond.methodLink RX11 335 yX0_mostOften) := ⟨List.mem_of_getElem? (i := 1429) (by decide +kernel), by decide +kernel⟩
theorem dX11_mostSworn_7 : decode cX11_mostSworn 7 = .ok (.ireturn, 1) := by decide +kernel
theorem dX11_faithful_0 : decode cX11_faithful 0 = .ok (.aload_n 0, 1) := by decide +kernel
theorem dX11_faithful_1 : decode cX11_faithful 1 = .ok (.getfield 75, 3) := by decide +kernel
theorem dX11_faithful_4 : decode cX11_faithful 4 = .ok (.invokevirtual 338, 3) := by decide +kernel
theorem cw_X0_unbroken : CWv yX0_unbroken cX0_unbroken 3 (some .int) 0 := ⟨⟨⟨List.mem_of_getElem? (i := 136) (by decide +kernel), by decide +kernel⟩, ⟨List.mem_of_getElem? (i := 1444) (by decide +kernel), by decide +kernel⟩, by decide +kernel⟩, ⟨List.mem_of_getElem? (i := 1442) (by decide +kernel), by decide +kernel⟩, ⟨List.mem_of_getElem? (i := 1443) (by decide +kernel), by decide +kernel⟩⟩
theorem km11_338 : inW (Cond.methodLink RX11 338 yX0_unbroken) := ⟨List.mem_of_getElem? (i := 1441) (by decide +kernel), by decide +kernel⟩
theorem dX11_faithful_7 : decode cX11_faithful 7 = .ok (.ireturn, 1) := by decide +kernel
theorem dX11_ached_0 : decode cX11_ached 0 = .ok (.iload_n 1, 1) := by decide +kernel
theorem dX11_ached_1 : decode cX11_ached 1 = .ok (.iconst (-1), 1) := by decide +kernel
theorem dX11_ached_2 : decode cX11_ached 2 = .ok (.if_icmp .eq 17, 3) := by decide +kernel
theorem dX11_ached_19 : decode cX11_ached 19 = .ok (.aload_n 0, 1) := by decide +kernel
theorem dX11_ached_20 : decode cX11_ached 20 = .ok (.getfield 13, 3) := by decide +kernel
theorem dX11_ached_23 : decode cX11_ached 23 = .ok (.getfield 131, 3) := by decide +kernel
theorem dX11_ached_26 : decode cX11_ached 26 = .ok (.iload_n 1, 1) := by decide +kernel
theorem dX11_ached_27 : decode cX11_ached 27 = .ok (.invokevirtual 341, 3) := by decide +kernel
theorem cw_X4_writtenOf : CWv yX4_writtenOf cX4_writtenOf 4 (some .int) 1 := ⟨⟨⟨List.mem_of_getElem? (i := 125) (by decide +kernel), by decide +kernel⟩, ⟨List.mem_of_getElem? (i := 1452) (by decide +kernel), by decide +kernel⟩, by decide +kernel⟩, ⟨List.mem_of_getElem? (i := 1450) (by decide +kernel), by decide +kernel⟩, ⟨List.mem_of_getElem? (i := 1451) (by decide +kernel), by decide +kernel⟩⟩
theorem km11_341 : inW (Cond.methodLink RX11 341 yX4_writtenOf) := ⟨List.mem_of_getElem? (i := 1449) (by decide +kernel), by decide +kernel⟩
theorem dX11_ached_30 : decode cX11_ached 30 = .ok (.ireturn, 1) := by decide +kernel
theorem dX11_ached_5 : decode cX11_ached 5 = .ok (.aload_n 0, 1) := by decide +kernel
theorem dX11_ached_6 : decode cX11_ached 6 = .ok (.getfield 13, 3) := by decide +kernel
theorem dX11_ached_9 : decode cX11_ached 9 = .ok (.iload_n 1, 1) := by decide +kernel
theorem dX11_ached_10 : decode cX11_ached 10 = .ok (.invokevirtual 192, 3) := by decide +kernel
theorem dX11_ached_13 : decode cX11_ached 13 = .ok (.ifCond .ne 6, 3) := by decide +kernel
theorem dX11_ached_16 : decode cX11_ached 16 = .ok (.bipush (-2), 2) := by decide +kernel
theorem dX11_ached_18 : decode cX11_ached 18 = .ok (.ireturn, 1) := by decide +kernel
theorem dX11_worstDay_0 : decode cX11_worstDay 0 = .ok (.aload_n 0, 1) := by decide +kernel
theorem dX11_worstDay_1 : decode cX11_worstDay 1 = .ok (.getfield 13, 3) := by decide +kernel
theorem dX11_worstDay_4 : decode cX11_worstDay 4 = .ok (.getfield 131, 3) := by decide +kernel
theorem dX11_worstDay_7 : decode cX11_worstDay 7 = .ok (.invokevirtual 344, 3) := by decide +kernel
theorem cw_X4_dayOfMost : CWv yX4_dayOfMost cX4_dayOfMost 4 (some .int) 0 := ⟨⟨⟨List.mem_of_getElem? (i := 125) (by decide +kernel), by decide +kernel⟩, ⟨List.mem_of_getElem? (i := 1461) (by decide +kernel), by decide +kernel⟩, by decide +kernel⟩, ⟨List.mem_of_getElem? (i := 1459) (by decide +kernel), by decide +kernel⟩, ⟨List.mem_of_getElem? (i := 1460) (by decide +kernel), by decide +kernel⟩⟩
theorem km11_344 : inW (Cond.methodLink RX11 344 yX4_dayOfMost) := ⟨List.mem_of_getElem? (i := 1458) (by decide +kernel), by decide +kernel⟩
theorem dX11_worstDay_10 : decode cX11_worstDay 10 = .ok (.ireturn, 1) := by decide +kernel
theorem dX11_is_0 : decode cX11_is 0 = .ok (.iload_n 1, 1) := by decide +kernel
theorem dX11_is_1 : decode cX11_is 1 = .ok (.tableswitch 75 0 3 #[31, 42, 53, 64], 31) := by decide +kernel
theorem sw_0_3 (x : Int32) : x = 0 ∨ x = 1 ∨ x = 2 ∨ x = 3 ∨ (x.toInt < 0 ∨ 3 < x.toInt) := by
  have key : ∀ k : Int32, x.toInt = k.toInt → x = k := fun k h => Int32.toInt_inj.mp h
  by_cases h1 : x.toInt < 0
  · simp [h1]
  by_cases h2 : 3 < x.toInt
  · simp [h2]
  have h3 : x.toInt = 0 ∨ x.toInt = 1 ∨ x.toInt = 2 ∨ x.toInt = 3 := by omega
  rcases h3 with h | h | h | h
  · rw [key 0 (h.trans (by decide))]; decide
  · rw [key 1 (h.trans (by decide))]; decide
  · rw [key 2 (h.trans (by decide))]; decide
  · rw [key 3 (h.trans (by decide))]; decide
theorem dX11_is_32 : decode cX11_is 32 = .ok (.aload_n 0, 1) := by decide +kernel
theorem dX11_is_33 : decode cX11_is 33 = .ok (.getfield 13, 3) := by decide +kernel
theorem dX11_is_36 : decode cX11_is 36 = .ok (.getfield 131, 3) := by decide +kernel
theorem dX11_is_39 : decode cX11_is 39 = .ok (.getfield 150, 3) := by decide +kernel
theorem kf11_150 : inW (Cond.fieldLinkNest RX11 150 "KneeOaths$Ledger" "date" "I" "KneeOaths") := ⟨List.mem_of_getElem? (i := 173) (by decide +kernel), by decide +kernel⟩
theorem dX11_is_42 : decode cX11_is 42 = .ok (.ireturn, 1) := by decide +kernel
theorem dX11_is_43 : decode cX11_is 43 = .ok (.aload_n 0, 1) := by decide +kernel
theorem dX11_is_44 : decode cX11_is 44 = .ok (.getfield 13, 3) := by decide +kernel
theorem dX11_is_47 : decode cX11_is 47 = .ok (.getfield 131, 3) := by decide +kernel
theorem dX11_is_50 : decode cX11_is 50 = .ok (.getfield 158, 3) := by decide +kernel
theorem kf11_158 : inW (Cond.fieldLinkNest RX11 158 "KneeOaths$Ledger" "rain" "I" "KneeOaths") := ⟨List.mem_of_getElem? (i := 178) (by decide +kernel), by decide +kernel⟩
theorem dX11_is_53 : decode cX11_is 53 = .ok (.ireturn, 1) := by decide +kernel
theorem dX11_is_54 : decode cX11_is 54 = .ok (.aload_n 0, 1) := by decide +kernel
theorem dX11_is_55 : decode cX11_is 55 = .ok (.getfield 13, 3) := by decide +kernel
theorem dX11_is_58 : decode cX11_is 58 = .ok (.getfield 131, 3) := by decide +kernel
theorem dX11_is_61 : decode cX11_is 61 = .ok (.getfield 225, 3) := by decide +kernel
theorem kf11_225 : inW (Cond.fieldLinkNest RX11 225 "KneeOaths$Ledger" "x" "I" "KneeOaths") := ⟨List.mem_of_getElem? (i := 181) (by decide +kernel), by decide +kernel⟩
theorem dX11_is_64 : decode cX11_is 64 = .ok (.ireturn, 1) := by decide +kernel
theorem dX11_is_65 : decode cX11_is 65 = .ok (.aload_n 0, 1) := by decide +kernel
theorem dX11_is_66 : decode cX11_is 66 = .ok (.getfield 13, 3) := by decide +kernel
theorem dX11_is_69 : decode cX11_is 69 = .ok (.getfield 131, 3) := by decide +kernel
theorem dX11_is_72 : decode cX11_is 72 = .ok (.getfield 228, 3) := by decide +kernel
theorem kf11_228 : inW (Cond.fieldLinkNest RX11 228 "KneeOaths$Ledger" "oathCount" "I" "KneeOaths") := ⟨List.mem_of_getElem? (i := 167) (by decide +kernel), by decide +kernel⟩
theorem dX11_is_75 : decode cX11_is 75 = .ok (.ireturn, 1) := by decide +kernel
theorem dX11_is_76 : decode cX11_is 76 = .ok (.bipush (-2), 2) := by decide +kernel
theorem dX11_is_78 : decode cX11_is 78 = .ok (.ireturn, 1) := by decide +kernel
theorem dX11_about_0 : decode cX11_about 0 = .ok (.iload_n 1, 1) := by decide +kernel
theorem dX11_about_1 : decode cX11_about 1 = .ok (.tableswitch 150 0 9 #[55, 63, 71, 79, 87, 98, 109, 120, 131, 142], 55) := by decide +kernel
theorem sw_0_9 (x : Int32) : x = 0 ∨ x = 1 ∨ x = 2 ∨ x = 3 ∨ x = 4 ∨ x = 5 ∨ x = 6 ∨ x = 7 ∨ x = 8 ∨ x = 9 ∨ (x.toInt < 0 ∨ 9 < x.toInt) := by
  have key : ∀ k : Int32, x.toInt = k.toInt → x = k := fun k h => Int32.toInt_inj.mp h
  by_cases h1 : x.toInt < 0
  · simp [h1]
  by_cases h2 : 9 < x.toInt
  · simp [h2]
  have h3 : x.toInt = 0 ∨ x.toInt = 1 ∨ x.toInt = 2 ∨ x.toInt = 3 ∨ x.toInt = 4 ∨ x.toInt = 5 ∨ x.toInt = 6 ∨ x.toInt = 7 ∨ x.toInt = 8 ∨ x.toInt = 9 := by omega
  rcases h3 with h | h | h | h | h | h | h | h | h | h
  · rw [key 0 (h.trans (by decide))]; decide
  · rw [key 1 (h.trans (by decide))]; decide
  · rw [key 2 (h.trans (by decide))]; decide
  · rw [key 3 (h.trans (by decide))]; decide
  · rw [key 4 (h.trans (by decide))]; decide
  · rw [key 5 (h.trans (by decide))]; decide
  · rw [key 6 (h.trans (by decide))]; decide
  · rw [key 7 (h.trans (by decide))]; decide
  · rw [key 8 (h.trans (by decide))]; decide
  · rw [key 9 (h.trans (by decide))]; decide
theorem dX11_about_56 : decode cX11_about 56 = .ok (.aload_n 0, 1) := by decide +kernel
theorem dX11_about_57 : decode cX11_about 57 = .ok (.getfield 13, 3) := by decide +kernel
theorem dX11_about_60 : decode cX11_about 60 = .ok (.getfield 174, 3) := by decide +kernel
theorem dX11_about_63 : decode cX11_about 63 = .ok (.ireturn, 1) := by decide +kernel
theorem dX11_about_64 : decode cX11_about 64 = .ok (.aload_n 0, 1) := by decide +kernel
theorem dX11_about_65 : decode cX11_about 65 = .ok (.getfield 13, 3) := by decide +kernel
theorem dX11_about_68 : decode cX11_about 68 = .ok (.getfield 329, 3) := by decide +kernel
theorem dX11_about_71 : decode cX11_about 71 = .ok (.ireturn, 1) := by decide +kernel
theorem dX11_about_72 : decode cX11_about 72 = .ok (.aload_n 0, 1) := by decide +kernel
theorem dX11_about_73 : decode cX11_about 73 = .ok (.getfield 13, 3) := by decide +kernel
theorem dX11_about_76 : decode cX11_about 76 = .ok (.getfield 212, 3) := by decide +kernel
theorem kf11_212 : inW (Cond.fieldLinkNest RX11 212 "KneeOaths$World" "ruling" "I" "KneeOaths") := ⟨List.mem_of_getElem? (i := 298) (by decide +kernel), by decide +kernel⟩
theorem dX11_about_79 : decode cX11_about 79 = .ok (.ireturn, 1) := by decide +kernel
theorem dX11_about_80 : decode cX11_about 80 = .ok (.aload_n 0, 1) := by decide +kernel
theorem dX11_about_81 : decode cX11_about 81 = .ok (.getfield 13, 3) := by decide +kernel
theorem dX11_about_84 : decode cX11_about 84 = .ok (.getfield 189, 3) := by decide +kernel
theorem kf11_189 : inW (Cond.fieldLinkNest RX11 189 "KneeOaths$World" "steps" "I" "KneeOaths") := ⟨List.mem_of_getElem? (i := 301) (by decide +kernel), by decide +kernel⟩
theorem dX11_about_87 : decode cX11_about 87 = .ok (.ireturn, 1) := by decide +kernel
theorem dX11_about_88 : decode cX11_about 88 = .ok (.aload_n 0, 1) := by decide +kernel
theorem dX11_about_89 : decode cX11_about 89 = .ok (.getfield 13, 3) := by decide +kernel
theorem dX11_about_92 : decode cX11_about 92 = .ok (.getfield 249, 3) := by decide +kernel
theorem dX11_about_95 : decode cX11_about 95 = .ok (.getfield 350, 3) := by decide +kernel
theorem kf11_350 : inW (Cond.fieldLinkNest RX11 350 "KneeOaths$Told" "count" "I" "KneeOaths") := ⟨List.mem_of_getElem? (i := 224) (by decide +kernel), by decide +kernel⟩
theorem dX11_about_98 : decode cX11_about 98 = .ok (.ireturn, 1) := by decide +kernel
theorem dX11_about_99 : decode cX11_about 99 = .ok (.aload_n 0, 1) := by decide +kernel
theorem dX11_about_100 : decode cX11_about 100 = .ok (.getfield 13, 3) := by decide +kernel
theorem dX11_about_103 : decode cX11_about 103 = .ok (.getfield 284, 3) := by decide +kernel
theorem dX11_about_106 : decode cX11_about 106 = .ok (.getfield 350, 3) := by decide +kernel
theorem dX11_about_109 : decode cX11_about 109 = .ok (.ireturn, 1) := by decide +kernel
theorem dX11_about_110 : decode cX11_about 110 = .ok (.aload_n 0, 1) := by decide +kernel
theorem dX11_about_111 : decode cX11_about 111 = .ok (.getfield 13, 3) := by decide +kernel
theorem dX11_about_114 : decode cX11_about 114 = .ok (.getfield 293, 3) := by decide +kernel
theorem dX11_about_117 : decode cX11_about 117 = .ok (.getfield 350, 3) := by decide +kernel
theorem dX11_about_120 : decode cX11_about 120 = .ok (.ireturn, 1) := by decide +kernel
theorem dX11_about_121 : decode cX11_about 121 = .ok (.aload_n 0, 1) := by decide +kernel
theorem dX11_about_122 : decode cX11_about 122 = .ok (.getfield 13, 3) := by decide +kernel
theorem dX11_about_125 : decode cX11_about 125 = .ok (.getfield 313, 3) := by decide +kernel
theorem dX11_about_128 : decode cX11_about 128 = .ok (.getfield 350, 3) := by decide +kernel
theorem dX11_about_131 : decode cX11_about 131 = .ok (.ireturn, 1) := by decide +kernel
theorem dX11_about_132 : decode cX11_about 132 = .ok (.aload_n 0, 1) := by decide +kernel
theorem dX11_about_133 : decode cX11_about 133 = .ok (.getfield 13, 3) := by decide +kernel
theorem dX11_about_136 : decode cX11_about 136 = .ok (.getfield 326, 3) := by decide +kernel
theorem dX11_about_139 : decode cX11_about 139 = .ok (.getfield 350, 3) := by decide +kernel
theorem dX11_about_142 : decode cX11_about 142 = .ok (.ireturn, 1) := by decide +kernel
theorem dX11_about_143 : decode cX11_about 143 = .ok (.aload_n 0, 1) := by decide +kernel
theorem dX11_about_144 : decode cX11_about 144 = .ok (.getfield 25, 3) := by decide +kernel
theorem dX11_about_147 : decode cX11_about 147 = .ok (.invokevirtual 91, 3) := by decide +kernel
theorem cw_X5_size : CWv yX5_size cX5_size 1 (some .int) 0 := ⟨⟨⟨List.mem_of_getElem? (i := 130) (by decide +kernel), by decide +kernel⟩, ⟨List.mem_of_getElem? (i := 559) (by decide +kernel), by decide +kernel⟩, by decide +kernel⟩, ⟨List.mem_of_getElem? (i := 557) (by decide +kernel), by decide +kernel⟩, ⟨List.mem_of_getElem? (i := 558) (by decide +kernel), by decide +kernel⟩⟩
theorem km11_91 : inW (Cond.methodLink RX11 91 yX5_size) := ⟨List.mem_of_getElem? (i := 556) (by decide +kernel), by decide +kernel⟩
theorem dX11_about_150 : decode cX11_about 150 = .ok (.ireturn, 1) := by decide +kernel
theorem dX11_about_151 : decode cX11_about 151 = .ok (.bipush (-2), 2) := by decide +kernel
theorem dX11_about_153 : decode cX11_about 153 = .ok (.ireturn, 1) := by decide +kernel
set_option maxHeartbeats 4000000 in
set_option maxRecDepth 100000 in
theorem c_X11_one {l : Launch} {G : GG} {L : List Nat} {f : HF} {h w k rd jd rg dd fo su ch ta ag sc nw pa fe cl wo si we : Nat} {t a : Int32} {g1 g2 : Nat → Int32}  (p_h : pt L f h (.inr (11, [.ref w, .ref k, .ref rd, .ref jd, .ref rg, .ref dd, .ref fo, .ref su, .ref ch]))) (p_w : pt L f w (.inr (10, [.ref ta, .ref ag, .ref sc, .ref nw, .ref pa, .ref fe, .ref cl, .ref wo, .ref si, .ref we, .int 0, .int 0, .int (-1), .int 0, .int 0]))) (p_ta : pt L f ta (.inl (G.2 0, 6, .inl g1))) (p_ag : pt L f ag (.inl (G.2 0, 6, .inl g2))) (n1 : ta ≠ ag) : PMi l yX11_one cX11_one 3 .int 2 0 0 G [.ref h, .int t, .int a] L f (fun r L1 f1 => r = if wi t 0 9 = 0 then -1 else if wi a 0 99 = 0 then -1 else 0) := by
  refine PMi.of (post := fun r L1 f1 => r = if wi t 0 9 = 0 then -1 else if wi a 0 99 = 0 then -1 else 0) (own := RX11) (by decide) rfl (Nat.le_of_ble_eq_true rfl) (fun sz p e s m args below meth c A ls hA1 hname S Y hl => ?_)
  have hx := S.hx
  have hb := S.hb
  have hl : lv_has ls 3 [(0, .ref h), (1, .int t), (2, .int a)] := hl
  refine lv_aload_n hx hb dX11_one_0 rfl (lv_at hl 0 rfl) ?_
  refine pg_get S Y ok_X11 0 (by decide) kf11_13 (v := .ref w) p_h rfl dX11_one_1 ?_
  refine lv_iload_n hx hb dX11_one_4 rfl (lv_at hl 1 rfl) ?_
  refine lv_iload_n hx hb dX11_one_5 rfl (lv_at hl 2 rfl) ?_
  refine cVi (As := [.int t, .int a]) (rest := []) S Y (c_X10_welcome (l := l) p_w p_ta p_ag (n1)) cw_X10_welcome km11_79 p_w ok_X10.1 rfl rfl ⟨Nat.le_of_ble_eq_true rfl, Nat.le_of_ble_eq_true rfl⟩ hl.1 rfl (Nat.le_of_ble_eq_true rfl) ⟨Nat.le_of_ble_eq_true rfl, Nat.le_of_ble_eq_true rfl⟩ dX11_one_6 (fun r_51 L_52 f_53 H locs hf_53 Y => ?_)
  exact prI (post := fun r L1 f1 => r = if wi t 0 9 = 0 then -1 else if wi a 0 99 = 0 then -1 else 0) S Y rfl (by decide) (by decide) hA1 hf_53 dX11_one_9
set_option maxHeartbeats 4000000 in
set_option maxRecDepth 100000 in
theorem c_X11_end {l : Launch} {G : GG} {L : List Nat} {f : HF} {h w k rd jd rg dd fo su ch ta ag sc nw pa fe cl wo si we tp ki pl va : Nat} {n : Int32}  (p_h : pt L f h (.inr (11, [.ref w, .ref k, .ref rd, .ref jd, .ref rg, .ref dd, .ref fo, .ref su, .ref ch]))) (p_w : pt L f w (.inr (10, [.ref ta, .ref ag, .ref sc, .ref nw, .ref pa, .ref fe, .ref cl, .ref wo, .ref si, .ref we, .int 0, .int 0, .int (-1), .int 0, .int 0]))) (p_rd : pt L f rd (.inr (5, [.ref tp, .ref ki, .ref pl, .ref va, .int 0, .int 0, .int 0, .int 0, .int 0, .int 0, .int 0, .null, .int (-1), .int (-1)])))  : PMi l yX11_end cX11_end 2 .int 1 0 0 G [.ref h, .int n] L f (fun r L1 f1 => r = if wi n 0 0 = 0 then -1 else n) := by
  refine PMi.of (post := fun r L1 f1 => r = if wi n 0 0 = 0 then -1 else n) (own := RX11) (by decide) rfl (Nat.le_of_ble_eq_true rfl) (fun sz p e s m args below meth c A ls hA1 hname S Y hl => ?_)
  have hx := S.hx
  have hb := S.hb
  have hl : lv_has ls 2 [(0, .ref h), (1, .int n)] := hl
  refine lv_aload_n hx hb dX11_end_0 rfl (lv_at hl 0 rfl) ?_
  refine pg_get S Y ok_X11 2 (by decide) kf11_25 (v := .ref rd) p_h rfl dX11_end_1 ?_
  refine lv_iload_n hx hb dX11_end_4 rfl (lv_at hl 1 rfl) ?_
  refine cVi (As := [.int n]) (rest := []) S Y (c_X5_cutTo (l := l) p_rd) cw_X5_cutTo km11_95 p_rd ok_X5.1 rfl rfl ⟨Nat.le_of_ble_eq_true rfl, Nat.le_of_ble_eq_true rfl⟩ hl.1 rfl (Nat.le_of_ble_eq_true rfl) ⟨Nat.le_of_ble_eq_true rfl, Nat.le_of_ble_eq_true rfl⟩ dX11_end_5 (fun r_54 L_55 f_56 H locs hf_56 Y => ?_)
  refine lv_fold (z := (wi n 0 0)) hf_56 ?_
  refine lv_if_eq (tgt := 15) hx hb dX11_end_8 (by decide) (fun c_57 => ?_) (fun c_57 => ?_)
  · refine lv_iconst (v := (-1)) hx hb dX11_end_15 (by decide) ?_
    exact prI (post := fun r L1 f1 => r = if wi n 0 0 = 0 then -1 else n) S Y rfl (by decide) (by decide) hA1 (by rw [if_pos c_57]) dX11_end_16
  · refine lv_iload_n hx hb dX11_end_11 rfl (lv_at hl 1 rfl) ?_
    refine lv_goto (tgt := 16) hx hb dX11_end_12 (by decide) ?_
    exact prI (post := fun r L1 f1 => r = if wi n 0 0 = 0 then -1 else n) S Y rfl (by decide) (by decide) hA1 (by rw [if_neg c_57]) dX11_end_16
set_option maxHeartbeats 4000000 in
set_option maxRecDepth 100000 in
theorem c_X11_fault {l : Launch} {G : GG} {L : List Nat} {f : HF} {h w k rd jd rg dd fo su ch ta ag sc nw pa fe cl wo si we tp ki pl va : Nat} {q : Int32}  (p_h : pt L f h (.inr (11, [.ref w, .ref k, .ref rd, .ref jd, .ref rg, .ref dd, .ref fo, .ref su, .ref ch]))) (p_w : pt L f w (.inr (10, [.ref ta, .ref ag, .ref sc, .ref nw, .ref pa, .ref fe, .ref cl, .ref wo, .ref si, .ref we, .int 0, .int 0, .int (-1), .int 0, .int 0]))) (p_rd : pt L f rd (.inr (5, [.ref tp, .ref ki, .ref pl, .ref va, .int 0, .int 0, .int 0, .int 0, .int 0, .int 0, .int 0, .null, .int (-1), .int (-1)])))  : PMp l yX11_fault cX11_fault 2 .int 1 0 0 G [.ref h, .int q] L f (fun r => r = (-1)) := by
  refine PMi.of (post := fun r L1 f1 => (r = (-1)) ∧ L1 = L ∧ f1 = f) (own := RX11) (by decide) rfl (Nat.le_of_ble_eq_true rfl) (fun sz p e s m args below meth c A ls hA1 hname S Y hl => ?_)
  have hx := S.hx
  have hb := S.hb
  have hl : lv_has ls 2 [(0, .ref h), (1, .int q)] := hl
  refine lv_iload_n hx hb dX11_fault_0 rfl (lv_at hl 1 rfl) ?_
  refine lv_if_ne (tgt := 12) hx hb dX11_fault_1 (by decide) (fun c_58 => ?_) (fun c_58 => ?_)
  · refine lv_iload_n hx hb dX11_fault_12 rfl (lv_at hl 1 rfl) ?_
    refine lv_iconst (v := 1) hx hb dX11_fault_13 (by decide) ?_
    refine lv_icmp_ne (tgt := 27) hx hb dX11_fault_14 (by decide) (fun c_59 => ?_) (fun c_59 => ?_)
    · refine lv_iconst (v := (-1)) hx hb dX11_fault_27 (by decide) ?_
      exact prI (post := fun r L1 f1 => (r = (-1)) ∧ L1 = L ∧ f1 = f) S Y rfl (by decide) (by decide) hA1 ⟨rfl, rfl, rfl⟩ dX11_fault_28
    · refine lv_aload_n hx hb dX11_fault_17 rfl (lv_at hl 0 rfl) ?_
      refine pg_get S Y ok_X11 2 (by decide) kf11_25 (v := .ref rd) p_h rfl dX11_fault_18 ?_
      refine cVp (As := []) (rest := []) S Y (c_X5_faultPlace (l := l) p_rd) cw_X5_faultPlace km11_112 p_rd ok_X5.1 rfl rfl ⟨Nat.le_of_ble_eq_true rfl, Nat.le_of_ble_eq_true rfl⟩ hl.1 rfl (Nat.le_of_ble_eq_true rfl) ⟨Nat.le_of_ble_eq_true rfl, Nat.le_of_ble_eq_true rfl⟩ dX11_fault_21 (fun r_60 H locs er_60 Y => ?_)
      refine lv_fold (z := (-1)) er_60 ?_
      refine lv_goto (tgt := 28) hx hb dX11_fault_24 (by decide) ?_
      exact prI (post := fun r L1 f1 => (r = (-1)) ∧ L1 = L ∧ f1 = f) S Y rfl (by decide) (by decide) hA1 ⟨rfl, rfl, rfl⟩ dX11_fault_28
  · refine lv_aload_n hx hb dX11_fault_4 rfl (lv_at hl 0 rfl) ?_
    refine pg_get S Y ok_X11 2 (by decide) kf11_25 (v := .ref rd) p_h rfl dX11_fault_5 ?_
    refine cVp (As := []) (rest := []) S Y (c_X5_faultKind (l := l) p_rd) cw_X5_faultKind km11_109 p_rd ok_X5.1 rfl rfl ⟨Nat.le_of_ble_eq_true rfl, Nat.le_of_ble_eq_true rfl⟩ hl.1 rfl (Nat.le_of_ble_eq_true rfl) ⟨Nat.le_of_ble_eq_true rfl, Nat.le_of_ble_eq_true rfl⟩ dX11_fault_8 (fun r_61 H locs er_61 Y => ?_)
    refine lv_fold (z := (-1)) er_61 ?_
    exact prI (post := fun r L1 f1 => (r = (-1)) ∧ L1 = L ∧ f1 = f) S Y rfl (by decide) (by decide) hA1 ⟨rfl, rfl, rfl⟩ dX11_fault_11
set_option maxHeartbeats 4000000 in
set_option maxRecDepth 100000 in
theorem c_X11_by {l : Launch} {G : GG} {L : List Nat} {f : HF} {h w k rd jd rg dd fo su ch ta ag sc nw pa fe cl wo si we : Nat} {t : Int32}  (p_h : pt L f h (.inr (11, [.ref w, .ref k, .ref rd, .ref jd, .ref rg, .ref dd, .ref fo, .ref su, .ref ch]))) (p_w : pt L f w (.inr (10, [.ref ta, .ref ag, .ref sc, .ref nw, .ref pa, .ref fe, .ref cl, .ref wo, .ref si, .ref we, .int 0, .int 0, .int (-1), .int 0, .int 0])))  : PMi l yX11_by cX11_by 2 .boolean 2 0 0 G [.ref h, .int t] L f (fun r L1 f1 => r = if t = -1 then 1 else 0) := by
  refine PMi.of (post := fun r L1 f1 => r = if t = -1 then 1 else 0) (own := RX11) (by decide) rfl (Nat.le_of_ble_eq_true rfl) (fun sz p e s m args below meth c A ls hA1 hname S Y hl => ?_)
  have hx := S.hx
  have hb := S.hb
  have hl : lv_has ls 2 [(0, .ref h), (1, .int t)] := hl
  refine lv_aload_n hx hb dX11_by_0 rfl (lv_at hl 0 rfl) ?_
  refine pg_get S Y ok_X11 0 (by decide) kf11_13 (v := .ref w) p_h rfl dX11_by_1 ?_
  refine lv_iload_n hx hb dX11_by_4 rfl (lv_at hl 1 rfl) ?_
  refine cVi (As := [.int t]) (rest := []) S Y (c_X10_putUnder (l := l) p_w) cw_X10_putUnder km11_115 p_w ok_X10.1 rfl rfl ⟨Nat.le_of_ble_eq_true rfl, Nat.le_of_ble_eq_true rfl⟩ hl.1 rfl (Nat.le_of_ble_eq_true rfl) ⟨Nat.le_of_ble_eq_true rfl, Nat.le_of_ble_eq_true rfl⟩ dX11_by_5 (fun r_62 L_63 f_64 H locs hf_64 Y => ?_)
  exact prI (post := fun r L1 f1 => r = if t = -1 then 1 else 0) S Y (by rw [hf_64]; split <;> rfl) (by decide) (by decide) hA1 hf_64 dX11_by_8
set_option maxHeartbeats 4000000 in
set_option maxRecDepth 100000 in
theorem c_X11_swear {l : Launch} {G : GG} {L : List Nat} {f : HF} {h w k rd jd rg dd fo su ch ta ag sc nw pa fe cl wo si we mo : Nat} {a b c0 d0 : Int32}  (p_h : pt L f h (.inr (11, [.ref w, .ref k, .ref rd, .ref jd, .ref rg, .ref dd, .ref fo, .ref su, .ref ch]))) (p_w : pt L f w (.inr (10, [.ref ta, .ref ag, .ref sc, .ref nw, .ref pa, .ref fe, .ref cl, .ref wo, .ref si, .ref we, .int 0, .int 0, .int (-1), .int 0, .int 0]))) (p_dd : pt L f dd (.inr (1, [.ref w, .ref jd, .ref rg, .ref mo, .int 0])))  : PMp l yX11_swear cX11_swear 5 .int 2 0 0 G [.ref h, .int a, .int b, .int c0, .int d0] L f (fun r => r = (-1)) := by
  refine PMi.of (post := fun r L1 f1 => (r = (-1)) ∧ L1 = L ∧ f1 = f) (own := RX11) (by decide) rfl (Nat.le_of_ble_eq_true rfl) (fun sz p e s m args below meth c A ls hA1 hname S Y hl => ?_)
  have hx := S.hx
  have hb := S.hb
  have hl : lv_has ls 5 [(0, .ref h), (1, .int a), (2, .int b), (3, .int c0), (4, .int d0)] := hl
  refine lv_aload_n hx hb dX11_swear_0 rfl (lv_at hl 0 rfl) ?_
  refine pg_get S Y ok_X11 5 (by decide) kf11_50 (v := .ref dd) p_h rfl dX11_swear_1 ?_
  refine lv_iload_n hx hb dX11_swear_4 rfl (lv_at hl 1 rfl) ?_
  refine lv_iload_n hx hb dX11_swear_5 rfl (lv_at hl 2 rfl) ?_
  refine lv_iload_n hx hb dX11_swear_6 rfl (lv_at hl 3 rfl) ?_
  refine lv_iload hx hb dX11_swear_7 (lv_at hl 4 rfl) ?_
  refine cVp (As := [.int a, .int b, .int c0, .int d0]) (rest := []) S Y (c_X1_swearIn (l := l) p_dd p_w) cw_X1_swearIn km11_118 p_dd ok_X1.1 rfl rfl ⟨Nat.le_of_ble_eq_true rfl, Nat.le_of_ble_eq_true rfl⟩ hl.1 rfl (Nat.le_of_ble_eq_true rfl) ⟨Nat.le_of_ble_eq_true rfl, Nat.le_of_ble_eq_true rfl⟩ dX11_swear_9 (fun r_65 H locs er_65 Y => ?_)
  refine lv_fold (z := (-1)) er_65 ?_
  exact prI (post := fun r L1 f1 => (r = (-1)) ∧ L1 = L ∧ f1 = f) S Y rfl (by decide) (by decide) hA1 ⟨rfl, rfl, rfl⟩ dX11_swear_12
set_option maxHeartbeats 4000000 in
set_option maxRecDepth 100000 in
theorem c_X11_breaks {l : Launch} {G : GG} {L : List Nat} {f : HF} {h w k rd jd rg dd fo su ch ta ag sc nw pa fe cl wo si we mo oa aa : Nat} {o : Int32}  (p_h : pt L f h (.inr (11, [.ref w, .ref k, .ref rd, .ref jd, .ref rg, .ref dd, .ref fo, .ref su, .ref ch]))) (p_w : pt L f w (.inr (10, [.ref ta, .ref ag, .ref sc, .ref nw, .ref pa, .ref fe, .ref cl, .ref wo, .ref si, .ref we, .int 0, .int 0, .int (-1), .int 0, .int 0]))) (p_dd : pt L f dd (.inr (1, [.ref w, .ref jd, .ref rg, .ref mo, .int 0]))) (p_nw : pt L f nw (.inr (4, [.ref oa, .ref aa, .int 0, .int 0, .int 0, .int 0, .int 137])))  : PMp l yX11_breaks cX11_breaks 2 .boolean 2 0 0 G [.ref h, .int o] L f (fun r => r = 0) := by
  refine PMi.of (post := fun r L1 f1 => (r = 0) ∧ L1 = L ∧ f1 = f) (own := RX11) (by decide) rfl (Nat.le_of_ble_eq_true rfl) (fun sz p e s m args below meth c A ls hA1 hname S Y hl => ?_)
  have hx := S.hx
  have hb := S.hb
  have hl : lv_has ls 2 [(0, .ref h), (1, .int o)] := hl
  refine lv_aload_n hx hb dX11_breaks_0 rfl (lv_at hl 0 rfl) ?_
  refine pg_get S Y ok_X11 5 (by decide) kf11_50 (v := .ref dd) p_h rfl dX11_breaks_1 ?_
  refine lv_iload_n hx hb dX11_breaks_4 rfl (lv_at hl 1 rfl) ?_
  refine cVp (As := [.int o]) (rest := []) S Y (c_X1_breakOath (l := l) p_dd p_w p_nw) cw_X1_breakOath km11_122 p_dd ok_X1.1 rfl rfl ⟨Nat.le_of_ble_eq_true rfl, Nat.le_of_ble_eq_true rfl⟩ hl.1 rfl (Nat.le_of_ble_eq_true rfl) ⟨Nat.le_of_ble_eq_true rfl, Nat.le_of_ble_eq_true rfl⟩ dX11_breaks_5 (fun r_66 H locs er_66 Y => ?_)
  refine lv_fold (z := 0) er_66 ?_
  exact prI (post := fun r L1 f1 => (r = 0) ∧ L1 = L ∧ f1 = f) S Y rfl (by decide) (by decide) hA1 ⟨rfl, rfl, rfl⟩ dX11_breaks_8
set_option maxHeartbeats 4000000 in
set_option maxRecDepth 100000 in
theorem c_X11_release {l : Launch} {G : GG} {L : List Nat} {f : HF} {h w k rd jd rg dd fo su ch ta ag sc nw pa fe cl wo si we mo oa aa : Nat} {o : Int32}  (p_h : pt L f h (.inr (11, [.ref w, .ref k, .ref rd, .ref jd, .ref rg, .ref dd, .ref fo, .ref su, .ref ch]))) (p_w : pt L f w (.inr (10, [.ref ta, .ref ag, .ref sc, .ref nw, .ref pa, .ref fe, .ref cl, .ref wo, .ref si, .ref we, .int 0, .int 0, .int (-1), .int 0, .int 0]))) (p_dd : pt L f dd (.inr (1, [.ref w, .ref jd, .ref rg, .ref mo, .int 0]))) (p_nw : pt L f nw (.inr (4, [.ref oa, .ref aa, .int 0, .int 0, .int 0, .int 0, .int 137])))  : PMp l yX11_release cX11_release 2 .boolean 3 0 0 G [.ref h, .int o] L f (fun r => r = 0) := by
  refine PMi.of (post := fun r L1 f1 => (r = 0) ∧ L1 = L ∧ f1 = f) (own := RX11) (by decide) rfl (Nat.le_of_ble_eq_true rfl) (fun sz p e s m args below meth c A ls hA1 hname S Y hl => ?_)
  have hx := S.hx
  have hb := S.hb
  have hl : lv_has ls 2 [(0, .ref h), (1, .int o)] := hl
  refine lv_aload_n hx hb dX11_release_0 rfl (lv_at hl 0 rfl) ?_
  refine pg_get S Y ok_X11 5 (by decide) kf11_50 (v := .ref dd) p_h rfl dX11_release_1 ?_
  refine lv_iload_n hx hb dX11_release_4 rfl (lv_at hl 1 rfl) ?_
  refine cVp (As := [.int o]) (rest := []) S Y (c_X1_releaseOath (l := l) p_dd p_w p_nw) cw_X1_releaseOath km11_125 p_dd ok_X1.1 rfl rfl ⟨Nat.le_of_ble_eq_true rfl, Nat.le_of_ble_eq_true rfl⟩ hl.1 rfl (Nat.le_of_ble_eq_true rfl) ⟨Nat.le_of_ble_eq_true rfl, Nat.le_of_ble_eq_true rfl⟩ dX11_release_5 (fun r_67 H locs er_67 Y => ?_)
  refine lv_fold (z := 0) er_67 ?_
  exact prI (post := fun r L1 f1 => (r = 0) ∧ L1 = L ∧ f1 = f) S Y rfl (by decide) (by decide) hA1 ⟨rfl, rfl, rfl⟩ dX11_release_8
set_option maxHeartbeats 4000000 in
set_option maxRecDepth 100000 in
theorem c_X11_kneel {l : Launch} {G : GG} {L : List Nat} {f : HF} {h w k rd jd rg dd fo su ch ta ag sc nw pa fe cl wo si we mo : Nat} {o : Int32}  (p_h : pt L f h (.inr (11, [.ref w, .ref k, .ref rd, .ref jd, .ref rg, .ref dd, .ref fo, .ref su, .ref ch]))) (p_w : pt L f w (.inr (10, [.ref ta, .ref ag, .ref sc, .ref nw, .ref pa, .ref fe, .ref cl, .ref wo, .ref si, .ref we, .int 0, .int 0, .int (-1), .int 0, .int 0]))) (p_dd : pt L f dd (.inr (1, [.ref w, .ref jd, .ref rg, .ref mo, .int 0])))  : PMp l yX11_kneel cX11_kneel 2 .int 2 0 0 G [.ref h, .int o] L f (fun r => r = (-1)) := by
  refine PMi.of (post := fun r L1 f1 => (r = (-1)) ∧ L1 = L ∧ f1 = f) (own := RX11) (by decide) rfl (Nat.le_of_ble_eq_true rfl) (fun sz p e s m args below meth c A ls hA1 hname S Y hl => ?_)
  have hx := S.hx
  have hb := S.hb
  have hl : lv_has ls 2 [(0, .ref h), (1, .int o)] := hl
  refine lv_aload_n hx hb dX11_kneel_0 rfl (lv_at hl 0 rfl) ?_
  refine pg_get S Y ok_X11 5 (by decide) kf11_50 (v := .ref dd) p_h rfl dX11_kneel_1 ?_
  refine lv_iload_n hx hb dX11_kneel_4 rfl (lv_at hl 1 rfl) ?_
  refine cVp (As := [.int o]) (rest := []) S Y (c_X1_kneelDown (l := l) p_dd p_w) cw_X1_kneelDown km11_128 p_dd ok_X1.1 rfl rfl ⟨Nat.le_of_ble_eq_true rfl, Nat.le_of_ble_eq_true rfl⟩ hl.1 rfl (Nat.le_of_ble_eq_true rfl) ⟨Nat.le_of_ble_eq_true rfl, Nat.le_of_ble_eq_true rfl⟩ dX11_kneel_5 (fun r_68 H locs er_68 Y => ?_)
  refine lv_fold (z := 0) er_68 ?_
  refine lv_if_eq (tgt := 25) hx hb dX11_kneel_8 (by decide) (fun _ => ?_) (fun h => absurd (by decide) h)
  refine lv_iconst (v := (-1)) hx hb dX11_kneel_25 (by decide) ?_
  exact prI (post := fun r L1 f1 => (r = (-1)) ∧ L1 = L ∧ f1 = f) S Y rfl (by decide) (by decide) hA1 ⟨rfl, rfl, rfl⟩ dX11_kneel_26
set_option maxHeartbeats 4000000 in
set_option maxRecDepth 100000 in
theorem c_X11_skate {l : Launch} {G : GG} {L : List Nat} {f : HF} {h w k rd jd rg dd fo su ch ta ag sc nw pa fe cl wo si we mo : Nat} {o q : Int32}  (p_h : pt L f h (.inr (11, [.ref w, .ref k, .ref rd, .ref jd, .ref rg, .ref dd, .ref fo, .ref su, .ref ch]))) (p_w : pt L f w (.inr (10, [.ref ta, .ref ag, .ref sc, .ref nw, .ref pa, .ref fe, .ref cl, .ref wo, .ref si, .ref we, .int 0, .int 0, .int (-1), .int 0, .int 0]))) (p_dd : pt L f dd (.inr (1, [.ref w, .ref jd, .ref rg, .ref mo, .int 0])))  : PMp l yX11_skate cX11_skate 3 .int 2 0 0 G [.ref h, .int o, .int q] L f (fun r => r = (-1)) := by
  refine PMi.of (post := fun r L1 f1 => (r = (-1)) ∧ L1 = L ∧ f1 = f) (own := RX11) (by decide) rfl (Nat.le_of_ble_eq_true rfl) (fun sz p e s m args below meth c A ls hA1 hname S Y hl => ?_)
  have hx := S.hx
  have hb := S.hb
  have hl : lv_has ls 3 [(0, .ref h), (1, .int o), (2, .int q)] := hl
  refine lv_aload_n hx hb dX11_skate_0 rfl (lv_at hl 0 rfl) ?_
  refine pg_get S Y ok_X11 5 (by decide) kf11_50 (v := .ref dd) p_h rfl dX11_skate_1 ?_
  refine lv_iload_n hx hb dX11_skate_4 rfl (lv_at hl 1 rfl) ?_
  refine lv_iload_n hx hb dX11_skate_5 rfl (lv_at hl 2 rfl) ?_
  refine cVp (As := [.int o, .int q]) (rest := []) S Y (c_X1_slide (l := l) p_dd p_w) cw_X1_slide km11_139 p_dd ok_X1.1 rfl rfl ⟨Nat.le_of_ble_eq_true rfl, Nat.le_of_ble_eq_true rfl⟩ hl.1 rfl (Nat.le_of_ble_eq_true rfl) ⟨Nat.le_of_ble_eq_true rfl, Nat.le_of_ble_eq_true rfl⟩ dX11_skate_6 (fun r_69 H locs er_69 Y => ?_)
  refine lv_fold (z := 0) er_69 ?_
  refine lv_if_eq (tgt := 26) hx hb dX11_skate_9 (by decide) (fun _ => ?_) (fun h => absurd (by decide) h)
  refine lv_iconst (v := (-1)) hx hb dX11_skate_26 (by decide) ?_
  exact prI (post := fun r L1 f1 => (r = (-1)) ∧ L1 = L ∧ f1 = f) S Y rfl (by decide) (by decide) hA1 ⟨rfl, rfl, rfl⟩ dX11_skate_27
set_option maxHeartbeats 4000000 in
set_option maxRecDepth 100000 in
theorem c_X11_strike {l : Launch} {G : GG} {L : List Nat} {f : HF} {h w k rd jd rg dd fo su ch ta ag sc nw pa fe cl wo si we mo oa aa : Nat} {o be : Int32}  (p_h : pt L f h (.inr (11, [.ref w, .ref k, .ref rd, .ref jd, .ref rg, .ref dd, .ref fo, .ref su, .ref ch]))) (p_w : pt L f w (.inr (10, [.ref ta, .ref ag, .ref sc, .ref nw, .ref pa, .ref fe, .ref cl, .ref wo, .ref si, .ref we, .int 0, .int 0, .int (-1), .int 0, .int 0]))) (p_dd : pt L f dd (.inr (1, [.ref w, .ref jd, .ref rg, .ref mo, .int 0]))) (p_rg : pt L f rg (.inr (6, [.ref w, .int be]))) (p_nw : pt L f nw (.inr (4, [.ref oa, .ref aa, .int 0, .int 0, .int 0, .int 0, .int 137])))  : PMp l yX11_strike cX11_strike 2 .int 2 0 0 G [.ref h, .int o] L f (fun r => r = (-1)) := by
  refine PMi.of (post := fun r L1 f1 => (r = (-1)) ∧ L1 = L ∧ f1 = f) (own := RX11) (by decide) rfl (Nat.le_of_ble_eq_true rfl) (fun sz p e s m args below meth c A ls hA1 hname S Y hl => ?_)
  have hx := S.hx
  have hb := S.hb
  have hl : lv_has ls 2 [(0, .ref h), (1, .int o)] := hl
  refine lv_aload_n hx hb dX11_strike_0 rfl (lv_at hl 0 rfl) ?_
  refine pg_get S Y ok_X11 5 (by decide) kf11_50 (v := .ref dd) p_h rfl dX11_strike_1 ?_
  refine lv_iload_n hx hb dX11_strike_4 rfl (lv_at hl 1 rfl) ?_
  refine cVp (As := [.int o]) (rest := []) S Y (c_X1_strikeOut (l := l) p_dd p_w p_rg p_nw) cw_X1_strikeOut km11_143 p_dd ok_X1.1 rfl rfl ⟨Nat.le_of_ble_eq_true rfl, Nat.le_of_ble_eq_true rfl⟩ hl.1 rfl (Nat.le_of_ble_eq_true rfl) ⟨Nat.le_of_ble_eq_true rfl, Nat.le_of_ble_eq_true rfl⟩ dX11_strike_5 (fun r_70 H locs er_70 Y => ?_)
  refine lv_fold (z := (-1)) er_70 ?_
  exact prI (post := fun r L1 f1 => (r = (-1)) ∧ L1 = L ∧ f1 = f) S Y rfl (by decide) (by decide) hA1 ⟨rfl, rfl, rfl⟩ dX11_strike_8
set_option maxHeartbeats 4000000 in
set_option maxRecDepth 100000 in
theorem c_X11_played {l : Launch} {G : GG} {L : List Nat} {f : HF} {h w k rd jd rg dd fo su ch ta ag sc nw pa fe cl wo si we : Nat} {t : Int32}  (p_h : pt L f h (.inr (11, [.ref w, .ref k, .ref rd, .ref jd, .ref rg, .ref dd, .ref fo, .ref su, .ref ch]))) (p_w : pt L f w (.inr (10, [.ref ta, .ref ag, .ref sc, .ref nw, .ref pa, .ref fe, .ref cl, .ref wo, .ref si, .ref we, .int 0, .int 0, .int (-1), .int 0, .int 0])))  : PMp l yX11_played cX11_played 4 .int 1 0 0 G [.ref h, .int t] L f (fun r => r = (-2)) := by
  refine PMi.of (post := fun r L1 f1 => (r = (-2)) ∧ L1 = L ∧ f1 = f) (own := RX11) (by decide) rfl (Nat.le_of_ble_eq_true rfl) (fun sz p e s m args below meth c A ls hA1 hname S Y hl => ?_)
  have hx := S.hx
  have hb := S.hb
  have hl : lv_has ls 4 [(0, .ref h), (1, .int t)] := hl
  refine lv_aload_n hx hb dX11_played_0 rfl (lv_at hl 0 rfl) ?_
  refine pg_get S Y ok_X11 0 (by decide) kf11_13 (v := .ref w) p_h rfl dX11_played_1 ?_
  refine lv_iload_n hx hb dX11_played_4 rfl (lv_at hl 1 rfl) ?_
  refine cVw (As := [.int t]) (rest := []) S Y (c_X10_script (l := l) p_w) cw_X10_script km11_161 p_w ok_X10.1 rfl rfl ⟨Nat.le_of_ble_eq_true rfl, Nat.le_of_ble_eq_true rfl⟩ hl.1 rfl (Nat.le_of_ble_eq_true rfl) ⟨Nat.le_of_ble_eq_true rfl, Nat.le_of_ble_eq_true rfl⟩ dX11_played_5 (fun r_71 H locs er_71 Y => ?_)
  refine lv_foldv (z := .null) (by rw [er_71]; rfl) ?_
  refine lv_astore_nN (lv' := [(2, .null), (0, .ref h), (1, .int t)]) hx hb dX11_played_8 rfl hl (by decide) rfl (fun ls hl => ?_)
  refine lv_aload_nN hx hb dX11_played_9 rfl (lv_at hl 0 rfl) ?_
  refine lv_ifnonnullN hx hb dX11_played_10 ?_
  refine lv_bipush (v := (-2)) hx hb dX11_played_13 (by decide) ?_
  exact prI (post := fun r L1 f1 => (r = (-2)) ∧ L1 = L ∧ f1 = f) S Y rfl (by decide) (by decide) hA1 ⟨rfl, rfl, rfl⟩ dX11_played_15
set_option maxHeartbeats 4000000 in
set_option maxRecDepth 100000 in
theorem c_X11_years {l : Launch} {G : GG} {L : List Nat} {f : HF} {h w k rd jd rg dd fo su ch ta ag sc nw pa fe cl wo si we : Nat} {t n : Int32}  (p_h : pt L f h (.inr (11, [.ref w, .ref k, .ref rd, .ref jd, .ref rg, .ref dd, .ref fo, .ref su, .ref ch]))) (p_w : pt L f w (.inr (10, [.ref ta, .ref ag, .ref sc, .ref nw, .ref pa, .ref fe, .ref cl, .ref wo, .ref si, .ref we, .int 0, .int 0, .int (-1), .int 0, .int 0])))  : PMp l yX11_years cX11_years 4 .int 1 0 0 G [.ref h, .int t, .int n] L f (fun r => r = (-1)) := by
  refine PMi.of (post := fun r L1 f1 => (r = (-1)) ∧ L1 = L ∧ f1 = f) (own := RX11) (by decide) rfl (Nat.le_of_ble_eq_true rfl) (fun sz p e s m args below meth c A ls hA1 hname S Y hl => ?_)
  have hx := S.hx
  have hb := S.hb
  have hl : lv_has ls 4 [(0, .ref h), (1, .int t), (2, .int n)] := hl
  refine lv_iload_n hx hb dX11_years_0 rfl (lv_at hl 1 rfl) ?_
  refine lv_iconst (v := 0) hx hb dX11_years_1 (by decide) ?_
  refine lv_sipush (v := 9999) hx hb dX11_years_2 (by decide) ?_
  refine cSp (As := [.int t, .int 0, .int 9999]) (rest := []) S Y (c_X11_within (l := l)) cw_X11_within km11_146 rfl ⟨Nat.le_of_ble_eq_true rfl, Nat.le_of_ble_eq_true rfl⟩ hl.1 rfl (Nat.le_of_ble_eq_true rfl) ⟨Nat.le_of_ble_eq_true rfl, Nat.le_of_ble_eq_true rfl⟩ dX11_years_5 (fun r_72 H locs er_72 Y => ?_)
  refine lv_fold (z := (wi t 0 9999)) er_72 ?_
  refine lv_if_eq (tgt := 31) hx hb dX11_years_8 (by decide) (fun c_73 => ?_) (fun c_73 => ?_)
  · refine lv_iconst (v := (-1)) hx hb dX11_years_31 (by decide) ?_
    exact prI (post := fun r L1 f1 => (r = (-1)) ∧ L1 = L ∧ f1 = f) S Y rfl (by decide) (by decide) hA1 ⟨rfl, rfl, rfl⟩ dX11_years_32
  · refine lv_iload_n hx hb dX11_years_11 rfl (lv_at hl 2 rfl) ?_
    refine lv_iconst (v := 1) hx hb dX11_years_12 (by decide) ?_
    refine lv_bipush (v := 40) hx hb dX11_years_13 (by decide) ?_
    refine cSp (As := [.int n, .int 1, .int 40]) (rest := []) S Y (c_X11_within (l := l)) cw_X11_within km11_146 rfl ⟨Nat.le_of_ble_eq_true rfl, Nat.le_of_ble_eq_true rfl⟩ hl.1 rfl (Nat.le_of_ble_eq_true rfl) ⟨Nat.le_of_ble_eq_true rfl, Nat.le_of_ble_eq_true rfl⟩ dX11_years_15 (fun r_74 H locs er_74 Y => ?_)
    refine lv_fold (z := (wi n 1 40)) er_74 ?_
    refine lv_if_eq (tgt := 31) hx hb dX11_years_18 (by decide) (fun c_75 => ?_) (fun c_75 => ?_)
    · refine lv_iconst (v := (-1)) hx hb dX11_years_31 (by decide) ?_
      exact prI (post := fun r L1 f1 => (r = (-1)) ∧ L1 = L ∧ f1 = f) S Y rfl (by decide) (by decide) hA1 ⟨rfl, rfl, rfl⟩ dX11_years_32
    · refine lv_aload_n hx hb dX11_years_21 rfl (lv_at hl 0 rfl) ?_
      refine pg_get S Y ok_X11 0 (by decide) kf11_13 (v := .ref w) p_h rfl dX11_years_22 ?_
      refine pg_getN S Y ok_X10 10 (by decide) kf11_174 (v := .int 0) p_w rfl dX11_years_25 ?_
      refine lv_if_ne (tgt := 33) hx hb dX11_years_28 (by decide) (fun h => absurd (by decide) h) (fun _ => ?_)
      refine lv_iconst (v := (-1)) hx hb dX11_years_31 (by decide) ?_
      exact prI (post := fun r L1 f1 => (r = (-1)) ∧ L1 = L ∧ f1 = f) S Y rfl (by decide) (by decide) hA1 ⟨rfl, rfl, rfl⟩ dX11_years_32
set_option maxHeartbeats 4000000 in
set_option maxRecDepth 100000 in
theorem c_X11_undo {l : Launch} {G : GG} {L : List Nat} {f : HF} {h w k rd jd rg dd fo su ch ta ag sc nw pa fe cl wo si we : Nat}  (p_h : pt L f h (.inr (11, [.ref w, .ref k, .ref rd, .ref jd, .ref rg, .ref dd, .ref fo, .ref su, .ref ch]))) (p_w : pt L f w (.inr (10, [.ref ta, .ref ag, .ref sc, .ref nw, .ref pa, .ref fe, .ref cl, .ref wo, .ref si, .ref we, .int 0, .int 0, .int (-1), .int 0, .int 0])))  : PMp l yX11_undo cX11_undo 1 .int 1 0 0 G [.ref h] L f (fun r => r = (-1)) := by
  refine PMi.of (post := fun r L1 f1 => (r = (-1)) ∧ L1 = L ∧ f1 = f) (own := RX11) (by decide) rfl (Nat.le_of_ble_eq_true rfl) (fun sz p e s m args below meth c A ls hA1 hname S Y hl => ?_)
  have hx := S.hx
  have hb := S.hb
  have hl : lv_has ls 1 [(0, .ref h)] := hl
  refine lv_aload_n hx hb dX11_undo_0 rfl (lv_at hl 0 rfl) ?_
  refine pg_get S Y ok_X11 0 (by decide) kf11_13 (v := .ref w) p_h rfl dX11_undo_1 ?_
  refine cVp (As := []) (rest := []) S Y (c_X10_takeBack (l := l) p_w) cw_X10_takeBack km11_186 p_w ok_X10.1 rfl rfl ⟨Nat.le_of_ble_eq_true rfl, Nat.le_of_ble_eq_true rfl⟩ hl.1 rfl (Nat.le_of_ble_eq_true rfl) ⟨Nat.le_of_ble_eq_true rfl, Nat.le_of_ble_eq_true rfl⟩ dX11_undo_4 (fun r_76 H locs er_76 Y => ?_)
  refine lv_fold (z := 0) er_76 ?_
  refine lv_if_eq (tgt := 20) hx hb dX11_undo_7 (by decide) (fun _ => ?_) (fun h => absurd (by decide) h)
  refine lv_iconst (v := (-1)) hx hb dX11_undo_20 (by decide) ?_
  exact prI (post := fun r L1 f1 => (r = (-1)) ∧ L1 = L ∧ f1 = f) S Y rfl (by decide) (by decide) hA1 ⟨rfl, rfl, rfl⟩ dX11_undo_21
set_option maxHeartbeats 4000000 in
set_option maxRecDepth 100000 in
theorem c_X11_of {l : Launch} {G : GG} {L : List Nat} {f : HF} {h w k rd jd rg dd fo su ch ta ag sc nw pa fe cl wo si we : Nat} {o q : Int32}  (p_h : pt L f h (.inr (11, [.ref w, .ref k, .ref rd, .ref jd, .ref rg, .ref dd, .ref fo, .ref su, .ref ch]))) (p_w : pt L f w (.inr (10, [.ref ta, .ref ag, .ref sc, .ref nw, .ref pa, .ref fe, .ref cl, .ref wo, .ref si, .ref we, .int 0, .int 0, .int (-1), .int 0, .int 0])))  : PMp l yX11_of cX11_of 3 .int 1 0 0 G [.ref h, .int o, .int q] L f (fun r => r = (-1000)) := by
  refine PMi.of (post := fun r L1 f1 => (r = (-1000)) ∧ L1 = L ∧ f1 = f) (own := RX11) (by decide) rfl (Nat.le_of_ble_eq_true rfl) (fun sz p e s m args below meth c A ls hA1 hname S Y hl => ?_)
  have hx := S.hx
  have hb := S.hb
  have hl : lv_has ls 3 [(0, .ref h), (1, .int o), (2, .int q)] := hl
  refine lv_aload_n hx hb dX11_of_0 rfl (lv_at hl 0 rfl) ?_
  refine pg_get S Y ok_X11 0 (by decide) kf11_13 (v := .ref w) p_h rfl dX11_of_1 ?_
  refine lv_iload_n hx hb dX11_of_4 rfl (lv_at hl 1 rfl) ?_
  refine cVp (As := [.int o]) (rest := []) S Y (c_X10_has (l := l) p_w) cw_X10_has km11_192 p_w ok_X10.1 rfl rfl ⟨Nat.le_of_ble_eq_true rfl, Nat.le_of_ble_eq_true rfl⟩ hl.1 rfl (Nat.le_of_ble_eq_true rfl) ⟨Nat.le_of_ble_eq_true rfl, Nat.le_of_ble_eq_true rfl⟩ dX11_of_5 (fun r_77 H locs er_77 Y => ?_)
  refine lv_fold (z := 0) er_77 ?_
  refine lv_if_ne (tgt := 15) hx hb dX11_of_8 (by decide) (fun h => absurd (by decide) h) (fun _ => ?_)
  refine lv_sipush (v := (-1000)) hx hb dX11_of_11 (by decide) ?_
  exact prI (post := fun r L1 f1 => (r = (-1000)) ∧ L1 = L ∧ f1 = f) S Y rfl (by decide) (by decide) hA1 ⟨rfl, rfl, rfl⟩ dX11_of_14
set_option maxHeartbeats 4000000 in
set_option maxRecDepth 100000 in
theorem c_X11_ofOath {l : Launch} {G : GG} {L : List Nat} {f : HF} {h w k rd jd rg dd fo su ch ta ag sc nw pa fe cl wo si we oa aa : Nat} {o q : Int32}  (p_h : pt L f h (.inr (11, [.ref w, .ref k, .ref rd, .ref jd, .ref rg, .ref dd, .ref fo, .ref su, .ref ch]))) (p_w : pt L f w (.inr (10, [.ref ta, .ref ag, .ref sc, .ref nw, .ref pa, .ref fe, .ref cl, .ref wo, .ref si, .ref we, .int 0, .int 0, .int (-1), .int 0, .int 0]))) (p_nw : pt L f nw (.inr (4, [.ref oa, .ref aa, .int 0, .int 0, .int 0, .int 0, .int 137])))  : PMp l yX11_ofOath cX11_ofOath 3 .int 1 0 0 G [.ref h, .int o, .int q] L f (fun r => r = (-1)) := by
  refine PMi.of (post := fun r L1 f1 => (r = (-1)) ∧ L1 = L ∧ f1 = f) (own := RX11) (by decide) rfl (Nat.le_of_ble_eq_true rfl) (fun sz p e s m args below meth c A ls hA1 hname S Y hl => ?_)
  have hx := S.hx
  have hb := S.hb
  have hl : lv_has ls 3 [(0, .ref h), (1, .int o), (2, .int q)] := hl
  refine lv_aload_n hx hb dX11_ofOath_0 rfl (lv_at hl 0 rfl) ?_
  refine pg_get S Y ok_X11 0 (by decide) kf11_13 (v := .ref w) p_h rfl dX11_ofOath_1 ?_
  refine pg_getN S Y ok_X10 3 (by decide) kf11_131 (v := .ref nw) p_w rfl dX11_ofOath_4 ?_
  refine lv_iload_n hx hb dX11_ofOath_7 rfl (lv_at hl 1 rfl) ?_
  refine cVp (As := [.int o]) (rest := []) S Y (c_X4_has (l := l) p_nw) cw_X4_has km11_211 p_nw ok_X4.1 rfl rfl ⟨Nat.le_of_ble_eq_true rfl, Nat.le_of_ble_eq_true rfl⟩ hl.1 rfl (Nat.le_of_ble_eq_true rfl) ⟨Nat.le_of_ble_eq_true rfl, Nat.le_of_ble_eq_true rfl⟩ dX11_ofOath_8 (fun r_78 H locs er_78 Y => ?_)
  refine lv_fold (z := 0) er_78 ?_
  refine lv_if_ne (tgt := 16) hx hb dX11_ofOath_11 (by decide) (fun h => absurd (by decide) h) (fun _ => ?_)
  refine lv_iconst (v := (-1)) hx hb dX11_ofOath_14 (by decide) ?_
  exact prI (post := fun r L1 f1 => (r = (-1)) ∧ L1 = L ∧ f1 = f) S Y rfl (by decide) (by decide) hA1 ⟨rfl, rfl, rfl⟩ dX11_ofOath_15
set_option maxHeartbeats 4000000 in
set_option maxRecDepth 100000 in
theorem c_X11_book {l : Launch} {G : GG} {L : List Nat} {f : HF} {h w k rd jd rg dd fo su ch ta ag sc nw pa fe cl wo si we oa aa : Nat} {i q : Int32}  (p_h : pt L f h (.inr (11, [.ref w, .ref k, .ref rd, .ref jd, .ref rg, .ref dd, .ref fo, .ref su, .ref ch]))) (p_w : pt L f w (.inr (10, [.ref ta, .ref ag, .ref sc, .ref nw, .ref pa, .ref fe, .ref cl, .ref wo, .ref si, .ref we, .int 0, .int 0, .int (-1), .int 0, .int 0]))) (p_nw : pt L f nw (.inr (4, [.ref oa, .ref aa, .int 0, .int 0, .int 0, .int 0, .int 137])))  : PMp l yX11_book cX11_book 3 .int 1 0 0 G [.ref h, .int i, .int q] L f (fun r => r = if i = -1 then 0 else -2) := by
  refine PMi.of (post := fun r L1 f1 => (r = if i = -1 then 0 else -2) ∧ L1 = L ∧ f1 = f) (own := RX11) (by decide) rfl (Nat.le_of_ble_eq_true rfl) (fun sz p e s m args below meth c A ls hA1 hname S Y hl => ?_)
  have hx := S.hx
  have hb := S.hb
  have hl : lv_has ls 3 [(0, .ref h), (1, .int i), (2, .int q)] := hl
  refine lv_iload_n hx hb dX11_book_0 rfl (lv_at hl 1 rfl) ?_
  refine lv_iconst (v := (-1)) hx hb dX11_book_1 (by decide) ?_
  refine lv_icmp_ne (tgt := 18) hx hb dX11_book_2 (by decide) (fun c_79 => ?_) (fun c_79 => ?_)
  · refine lv_aload_n hx hb dX11_book_18 rfl (lv_at hl 0 rfl) ?_
    refine pg_get S Y ok_X11 0 (by decide) kf11_13 (v := .ref w) p_h rfl dX11_book_19 ?_
    refine pg_getN S Y ok_X10 3 (by decide) kf11_131 (v := .ref nw) p_w rfl dX11_book_22 ?_
    refine lv_iload_n hx hb dX11_book_25 rfl (lv_at hl 1 rfl) ?_
    refine lv_iload_n hx hb dX11_book_26 rfl (lv_at hl 2 rfl) ?_
    refine cVp (As := [.int i, .int q]) (rest := []) S Y (c_X4_written (l := l) p_nw) cw_X4_written km11_234 p_nw ok_X4.1 rfl rfl ⟨Nat.le_of_ble_eq_true rfl, Nat.le_of_ble_eq_true rfl⟩ hl.1 rfl (Nat.le_of_ble_eq_true rfl) ⟨Nat.le_of_ble_eq_true rfl, Nat.le_of_ble_eq_true rfl⟩ dX11_book_27 (fun r_80 H locs er_80 Y => ?_)
    refine lv_fold (z := (-2)) er_80 ?_
    exact prI (post := fun r L1 f1 => (r = if i = -1 then 0 else -2) ∧ L1 = L ∧ f1 = f) S Y rfl (by decide) (by decide) hA1 ⟨(by rw [if_neg c_79]), rfl, rfl⟩ dX11_book_30
  · refine lv_aload_n hx hb dX11_book_5 rfl (lv_at hl 0 rfl) ?_
    refine pg_get S Y ok_X11 0 (by decide) kf11_13 (v := .ref w) p_h rfl dX11_book_6 ?_
    refine pg_getN S Y ok_X10 3 (by decide) kf11_131 (v := .ref nw) p_w rfl dX11_book_9 ?_
    refine pg_getN S Y ok_X4 3 (by decide) kf11_231 (v := .int 0) p_nw rfl dX11_book_12 ?_
    refine lv_goto (tgt := 30) hx hb dX11_book_15 (by decide) ?_
    exact prI (post := fun r L1 f1 => (r = if i = -1 then 0 else -2) ∧ L1 = L ∧ f1 = f) S Y rfl (by decide) (by decide) hA1 ⟨(by rw [if_pos c_79]), rfl, rfl⟩ dX11_book_30
set_option maxHeartbeats 4000000 in
set_option maxRecDepth 100000 in
theorem c_X11_firstAche {l : Launch} {G : GG} {L : List Nat} {f : HF} {h w k rd jd rg dd fo su ch ta ag sc nw pa fe cl wo si we : Nat} {o : Int32}  (p_h : pt L f h (.inr (11, [.ref w, .ref k, .ref rd, .ref jd, .ref rg, .ref dd, .ref fo, .ref su, .ref ch]))) (p_w : pt L f w (.inr (10, [.ref ta, .ref ag, .ref sc, .ref nw, .ref pa, .ref fe, .ref cl, .ref wo, .ref si, .ref we, .int 0, .int 0, .int (-1), .int 0, .int 0])))  : PMp l yX11_firstAche cX11_firstAche 2 .int 1 0 0 G [.ref h, .int o] L f (fun r => r = (-1)) := by
  refine PMi.of (post := fun r L1 f1 => (r = (-1)) ∧ L1 = L ∧ f1 = f) (own := RX11) (by decide) rfl (Nat.le_of_ble_eq_true rfl) (fun sz p e s m args below meth c A ls hA1 hname S Y hl => ?_)
  have hx := S.hx
  have hb := S.hb
  have hl : lv_has ls 2 [(0, .ref h), (1, .int o)] := hl
  refine lv_aload_n hx hb dX11_firstAche_0 rfl (lv_at hl 0 rfl) ?_
  refine pg_get S Y ok_X11 0 (by decide) kf11_13 (v := .ref w) p_h rfl dX11_firstAche_1 ?_
  refine lv_iload_n hx hb dX11_firstAche_4 rfl (lv_at hl 1 rfl) ?_
  refine cVp (As := [.int o]) (rest := []) S Y (c_X10_has (l := l) p_w) cw_X10_has km11_192 p_w ok_X10.1 rfl rfl ⟨Nat.le_of_ble_eq_true rfl, Nat.le_of_ble_eq_true rfl⟩ hl.1 rfl (Nat.le_of_ble_eq_true rfl) ⟨Nat.le_of_ble_eq_true rfl, Nat.le_of_ble_eq_true rfl⟩ dX11_firstAche_5 (fun r_81 H locs er_81 Y => ?_)
  refine lv_fold (z := 0) er_81 ?_
  refine lv_if_eq (tgt := 22) hx hb dX11_firstAche_8 (by decide) (fun _ => ?_) (fun h => absurd (by decide) h)
  refine lv_iconst (v := (-1)) hx hb dX11_firstAche_22 (by decide) ?_
  exact prI (post := fun r L1 f1 => (r = (-1)) ∧ L1 = L ∧ f1 = f) S Y rfl (by decide) (by decide) hA1 ⟨rfl, rfl, rfl⟩ dX11_firstAche_23
set_option maxHeartbeats 4000000 in
set_option maxRecDepth 100000 in
theorem c_X11_fades {l : Launch} {G : GG} {L : List Nat} {f : HF} {h w k rd jd rg dd fo su ch ta ag sc nw pa fe cl wo si we sl oa aa : Nat} {o : Int32}  (p_h : pt L f h (.inr (11, [.ref w, .ref k, .ref rd, .ref jd, .ref rg, .ref dd, .ref fo, .ref su, .ref ch]))) (p_w : pt L f w (.inr (10, [.ref ta, .ref ag, .ref sc, .ref nw, .ref pa, .ref fe, .ref cl, .ref wo, .ref si, .ref we, .int 0, .int 0, .int (-1), .int 0, .int 0]))) (p_fo : pt L f fo (.inr (2, [.ref w, .ref jd, .ref dd, .ref sl]))) (p_nw : pt L f nw (.inr (4, [.ref oa, .ref aa, .int 0, .int 0, .int 0, .int 0, .int 137])))  : PMp l yX11_fades cX11_fades 2 .int 3 0 0 G [.ref h, .int o] L f (fun r => r = (-1)) := by
  refine PMi.of (post := fun r L1 f1 => (r = (-1)) ∧ L1 = L ∧ f1 = f) (own := RX11) (by decide) rfl (Nat.le_of_ble_eq_true rfl) (fun sz p e s m args below meth c A ls hA1 hname S Y hl => ?_)
  have hx := S.hx
  have hb := S.hb
  have hl : lv_has ls 2 [(0, .ref h), (1, .int o)] := hl
  refine lv_aload_n hx hb dX11_fades_0 rfl (lv_at hl 0 rfl) ?_
  refine pg_get S Y ok_X11 6 (by decide) kf11_59 (v := .ref fo) p_h rfl dX11_fades_1 ?_
  refine lv_iload_n hx hb dX11_fades_4 rfl (lv_at hl 1 rfl) ?_
  refine cVp (As := [.int o]) (rest := []) S Y (c_X2_daysToFade (l := l) p_fo p_w p_nw) cw_X2_daysToFade km11_246 p_fo ok_X2.1 rfl rfl ⟨Nat.le_of_ble_eq_true rfl, Nat.le_of_ble_eq_true rfl⟩ hl.1 rfl (Nat.le_of_ble_eq_true rfl) ⟨Nat.le_of_ble_eq_true rfl, Nat.le_of_ble_eq_true rfl⟩ dX11_fades_5 (fun r_82 H locs er_82 Y => ?_)
  refine lv_fold (z := (-1)) er_82 ?_
  exact prI (post := fun r L1 f1 => (r = (-1)) ∧ L1 = L ∧ f1 = f) S Y rfl (by decide) (by decide) hA1 ⟨rfl, rfl, rfl⟩ dX11_fades_8
set_option maxHeartbeats 4000000 in
set_option maxRecDepth 100000 in
theorem c_X11_felt {l : Launch} {G : GG} {L : List Nat} {f : HF} {h w k rd jd rg dd fo su ch ta ag sc nw pa fe cl wo si we oa aa ce : Nat} {o a b : Int32}  (p_h : pt L f h (.inr (11, [.ref w, .ref k, .ref rd, .ref jd, .ref rg, .ref dd, .ref fo, .ref su, .ref ch]))) (p_w : pt L f w (.inr (10, [.ref ta, .ref ag, .ref sc, .ref nw, .ref pa, .ref fe, .ref cl, .ref wo, .ref si, .ref we, .int 0, .int 0, .int (-1), .int 0, .int 0]))) (p_nw : pt L f nw (.inr (4, [.ref oa, .ref aa, .int 0, .int 0, .int 0, .int 0, .int 137]))) (p_fe : pt L f fe (.inr (9, [.ref ce, .int 6, .int 0])))  : PMi l yX11_felt cX11_felt 4 .int 1 0 0 G [.ref h, .int o, .int a, .int b] L f (fun r L1 f1 => r = if o = -1 then 0 else -2) := by
  refine PMi.of (post := fun r L1 f1 => r = if o = -1 then 0 else -2) (own := RX11) (by decide) rfl (Nat.le_of_ble_eq_true rfl) (fun sz p e s m args below meth c A ls hA1 hname S Y hl => ?_)
  have hx := S.hx
  have hb := S.hb
  have hl : lv_has ls 4 [(0, .ref h), (1, .int o), (2, .int a), (3, .int b)] := hl
  refine lv_iload_n hx hb dX11_felt_0 rfl (lv_at hl 1 rfl) ?_
  refine lv_iconst (v := (-1)) hx hb dX11_felt_1 (by decide) ?_
  refine lv_icmp_ne (tgt := 16) hx hb dX11_felt_2 (by decide) (fun c_83 => ?_) (fun c_83 => ?_)
  · refine lv_aload_n hx hb dX11_felt_16 rfl (lv_at hl 0 rfl) ?_
    refine pg_get S Y ok_X11 0 (by decide) kf11_13 (v := .ref w) p_h rfl dX11_felt_17 ?_
    refine lv_iload_n hx hb dX11_felt_20 rfl (lv_at hl 1 rfl) ?_
    refine cVp (As := [.int o]) (rest := []) S Y (c_X10_has (l := l) p_w) cw_X10_has km11_192 p_w ok_X10.1 rfl rfl ⟨Nat.le_of_ble_eq_true rfl, Nat.le_of_ble_eq_true rfl⟩ hl.1 rfl (Nat.le_of_ble_eq_true rfl) ⟨Nat.le_of_ble_eq_true rfl, Nat.le_of_ble_eq_true rfl⟩ dX11_felt_21 (fun r_84 H locs er_84 Y => ?_)
    refine lv_fold (z := 0) er_84 ?_
    refine lv_if_eq (tgt := 48) hx hb dX11_felt_24 (by decide) (fun _ => ?_) (fun h => absurd (by decide) h)
    refine lv_bipush (v := (-2)) hx hb dX11_felt_48 (by decide) ?_
    exact prI (post := fun r L1 f1 => r = if o = -1 then 0 else -2) S Y rfl (by decide) (by decide) hA1 (by rw [if_neg c_83]) dX11_felt_50
  · refine lv_aload_n hx hb dX11_felt_5 rfl (lv_at hl 0 rfl) ?_
    refine pg_get S Y ok_X11 0 (by decide) kf11_13 (v := .ref w) p_h rfl dX11_felt_6 ?_
    refine pg_getN S Y ok_X10 5 (by decide) kf11_249 (v := .ref fe) p_w rfl dX11_felt_9 ?_
    refine cVi (As := []) (rest := []) S Y (c_X9_forget (l := l) p_fe) cw_X9_forget km11_253 p_fe ok_X9.1 rfl rfl ⟨Nat.le_of_ble_eq_true rfl, Nat.le_of_ble_eq_true rfl⟩ hl.1 rfl (Nat.le_of_ble_eq_true rfl) ⟨Nat.le_of_ble_eq_true rfl, Nat.le_of_ble_eq_true rfl⟩ dX11_felt_12 (fun r_85 L_86 f_87 H locs hf_87 Y => ?_)
    refine lv_fold (z := 0) hf_87 ?_
    exact prI (post := fun r L1 f1 => r = if o = -1 then 0 else -2) S Y rfl (by decide) (by decide) hA1 (by rw [if_pos c_83]) dX11_felt_15
set_option maxHeartbeats 4000000 in
set_option maxRecDepth 100000 in
theorem c_X11_clash {l : Launch} {G : GG} {L : List Nat} {f : HF} {h w k rd jd rg dd fo su ch ta ag sc nw pa fe cl wo si we oa aa ce : Nat} {o a : Int32}  (p_h : pt L f h (.inr (11, [.ref w, .ref k, .ref rd, .ref jd, .ref rg, .ref dd, .ref fo, .ref su, .ref ch]))) (p_w : pt L f w (.inr (10, [.ref ta, .ref ag, .ref sc, .ref nw, .ref pa, .ref fe, .ref cl, .ref wo, .ref si, .ref we, .int 0, .int 0, .int (-1), .int 0, .int 0]))) (p_nw : pt L f nw (.inr (4, [.ref oa, .ref aa, .int 0, .int 0, .int 0, .int 0, .int 137]))) (p_cl : pt L f cl (.inr (9, [.ref ce, .int 8, .int 0])))  : PMi l yX11_clash cX11_clash 3 .int 1 0 0 G [.ref h, .int o, .int a] L f (fun r L1 f1 => r = if o = -1 then 0 else -2) := by
  refine PMi.of (post := fun r L1 f1 => r = if o = -1 then 0 else -2) (own := RX11) (by decide) rfl (Nat.le_of_ble_eq_true rfl) (fun sz p e s m args below meth c A ls hA1 hname S Y hl => ?_)
  have hx := S.hx
  have hb := S.hb
  have hl : lv_has ls 3 [(0, .ref h), (1, .int o), (2, .int a)] := hl
  refine lv_iload_n hx hb dX11_clash_0 rfl (lv_at hl 1 rfl) ?_
  refine lv_iconst (v := (-1)) hx hb dX11_clash_1 (by decide) ?_
  refine lv_icmp_ne (tgt := 16) hx hb dX11_clash_2 (by decide) (fun c_88 => ?_) (fun c_88 => ?_)
  · refine lv_aload_n hx hb dX11_clash_16 rfl (lv_at hl 0 rfl) ?_
    refine pg_get S Y ok_X11 0 (by decide) kf11_13 (v := .ref w) p_h rfl dX11_clash_17 ?_
    refine pg_getN S Y ok_X10 3 (by decide) kf11_131 (v := .ref nw) p_w rfl dX11_clash_20 ?_
    refine lv_iload_n hx hb dX11_clash_23 rfl (lv_at hl 1 rfl) ?_
    refine cVp (As := [.int o]) (rest := []) S Y (c_X4_has (l := l) p_nw) cw_X4_has km11_211 p_nw ok_X4.1 rfl rfl ⟨Nat.le_of_ble_eq_true rfl, Nat.le_of_ble_eq_true rfl⟩ hl.1 rfl (Nat.le_of_ble_eq_true rfl) ⟨Nat.le_of_ble_eq_true rfl, Nat.le_of_ble_eq_true rfl⟩ dX11_clash_24 (fun r_89 H locs er_89 Y => ?_)
    refine lv_fold (z := 0) er_89 ?_
    refine lv_if_eq (tgt := 49) hx hb dX11_clash_27 (by decide) (fun _ => ?_) (fun h => absurd (by decide) h)
    refine lv_bipush (v := (-2)) hx hb dX11_clash_49 (by decide) ?_
    exact prI (post := fun r L1 f1 => r = if o = -1 then 0 else -2) S Y rfl (by decide) (by decide) hA1 (by rw [if_neg c_88]) dX11_clash_51
  · refine lv_aload_n hx hb dX11_clash_5 rfl (lv_at hl 0 rfl) ?_
    refine pg_get S Y ok_X11 0 (by decide) kf11_13 (v := .ref w) p_h rfl dX11_clash_6 ?_
    refine pg_getN S Y ok_X10 6 (by decide) kf11_284 (v := .ref cl) p_w rfl dX11_clash_9 ?_
    refine cVi (As := []) (rest := []) S Y (c_X9_forget (l := l) p_cl) cw_X9_forget km11_253 p_cl ok_X9.1 rfl rfl ⟨Nat.le_of_ble_eq_true rfl, Nat.le_of_ble_eq_true rfl⟩ hl.1 rfl (Nat.le_of_ble_eq_true rfl) ⟨Nat.le_of_ble_eq_true rfl, Nat.le_of_ble_eq_true rfl⟩ dX11_clash_12 (fun r_90 L_91 f_92 H locs hf_92 Y => ?_)
    refine lv_fold (z := 0) hf_92 ?_
    exact prI (post := fun r L1 f1 => r = if o = -1 then 0 else -2) S Y rfl (by decide) (by decide) hA1 (by rw [if_pos c_88]) dX11_clash_15
set_option maxHeartbeats 4000000 in
set_option maxRecDepth 100000 in
theorem c_X11_saw {l : Launch} {G : GG} {L : List Nat} {f : HF} {h w k rd jd rg dd fo su ch ta ag sc nw pa fe cl wo si we oa aa ce : Nat} {o a : Int32}  (p_h : pt L f h (.inr (11, [.ref w, .ref k, .ref rd, .ref jd, .ref rg, .ref dd, .ref fo, .ref su, .ref ch]))) (p_w : pt L f w (.inr (10, [.ref ta, .ref ag, .ref sc, .ref nw, .ref pa, .ref fe, .ref cl, .ref wo, .ref si, .ref we, .int 0, .int 0, .int (-1), .int 0, .int 0]))) (p_nw : pt L f nw (.inr (4, [.ref oa, .ref aa, .int 0, .int 0, .int 0, .int 0, .int 137]))) (p_si : pt L f si (.inr (9, [.ref ce, .int 8, .int 0])))  : PMi l yX11_saw cX11_saw 3 .int 1 0 0 G [.ref h, .int o, .int a] L f (fun r L1 f1 => r = if o = -1 then 0 else -2) := by
  refine PMi.of (post := fun r L1 f1 => r = if o = -1 then 0 else -2) (own := RX11) (by decide) rfl (Nat.le_of_ble_eq_true rfl) (fun sz p e s m args below meth c A ls hA1 hname S Y hl => ?_)
  have hx := S.hx
  have hb := S.hb
  have hl : lv_has ls 3 [(0, .ref h), (1, .int o), (2, .int a)] := hl
  refine lv_iload_n hx hb dX11_saw_0 rfl (lv_at hl 1 rfl) ?_
  refine lv_iconst (v := (-1)) hx hb dX11_saw_1 (by decide) ?_
  refine lv_icmp_ne (tgt := 16) hx hb dX11_saw_2 (by decide) (fun c_93 => ?_) (fun c_93 => ?_)
  · refine lv_aload_n hx hb dX11_saw_16 rfl (lv_at hl 0 rfl) ?_
    refine pg_get S Y ok_X11 0 (by decide) kf11_13 (v := .ref w) p_h rfl dX11_saw_17 ?_
    refine lv_iload_n hx hb dX11_saw_20 rfl (lv_at hl 1 rfl) ?_
    refine cVp (As := [.int o]) (rest := []) S Y (c_X10_has (l := l) p_w) cw_X10_has km11_192 p_w ok_X10.1 rfl rfl ⟨Nat.le_of_ble_eq_true rfl, Nat.le_of_ble_eq_true rfl⟩ hl.1 rfl (Nat.le_of_ble_eq_true rfl) ⟨Nat.le_of_ble_eq_true rfl, Nat.le_of_ble_eq_true rfl⟩ dX11_saw_21 (fun r_94 H locs er_94 Y => ?_)
    refine lv_fold (z := 0) er_94 ?_
    refine lv_if_eq (tgt := 43) hx hb dX11_saw_24 (by decide) (fun _ => ?_) (fun h => absurd (by decide) h)
    refine lv_bipush (v := (-2)) hx hb dX11_saw_43 (by decide) ?_
    exact prI (post := fun r L1 f1 => r = if o = -1 then 0 else -2) S Y rfl (by decide) (by decide) hA1 (by rw [if_neg c_93]) dX11_saw_45
  · refine lv_aload_n hx hb dX11_saw_5 rfl (lv_at hl 0 rfl) ?_
    refine pg_get S Y ok_X11 0 (by decide) kf11_13 (v := .ref w) p_h rfl dX11_saw_6 ?_
    refine pg_getN S Y ok_X10 8 (by decide) kf11_313 (v := .ref si) p_w rfl dX11_saw_9 ?_
    refine cVi (As := []) (rest := []) S Y (c_X9_forget (l := l) p_si) cw_X9_forget km11_253 p_si ok_X9.1 rfl rfl ⟨Nat.le_of_ble_eq_true rfl, Nat.le_of_ble_eq_true rfl⟩ hl.1 rfl (Nat.le_of_ble_eq_true rfl) ⟨Nat.le_of_ble_eq_true rfl, Nat.le_of_ble_eq_true rfl⟩ dX11_saw_12 (fun r_95 L_96 f_97 H locs hf_97 Y => ?_)
    refine lv_fold (z := 0) hf_97 ?_
    exact prI (post := fun r L1 f1 => r = if o = -1 then 0 else -2) S Y rfl (by decide) (by decide) hA1 (by rw [if_pos c_93]) dX11_saw_15
set_option maxHeartbeats 4000000 in
set_option maxRecDepth 100000 in
theorem c_X11_worn {l : Launch} {G : GG} {L : List Nat} {f : HF} {h w k rd jd rg dd fo su ch ta ag sc nw pa fe cl wo si we oa aa ce : Nat} {o a : Int32}  (p_h : pt L f h (.inr (11, [.ref w, .ref k, .ref rd, .ref jd, .ref rg, .ref dd, .ref fo, .ref su, .ref ch]))) (p_w : pt L f w (.inr (10, [.ref ta, .ref ag, .ref sc, .ref nw, .ref pa, .ref fe, .ref cl, .ref wo, .ref si, .ref we, .int 0, .int 0, .int (-1), .int 0, .int 0]))) (p_nw : pt L f nw (.inr (4, [.ref oa, .ref aa, .int 0, .int 0, .int 0, .int 0, .int 137]))) (p_we : pt L f we (.inr (9, [.ref ce, .int 8, .int 0])))  : PMi l yX11_worn cX11_worn 3 .int 1 0 0 G [.ref h, .int o, .int a] L f (fun r L1 f1 => r = if o = -1 then 0 else -2) := by
  refine PMi.of (post := fun r L1 f1 => r = if o = -1 then 0 else -2) (own := RX11) (by decide) rfl (Nat.le_of_ble_eq_true rfl) (fun sz p e s m args below meth c A ls hA1 hname S Y hl => ?_)
  have hx := S.hx
  have hb := S.hb
  have hl : lv_has ls 3 [(0, .ref h), (1, .int o), (2, .int a)] := hl
  refine lv_iload_n hx hb dX11_worn_0 rfl (lv_at hl 1 rfl) ?_
  refine lv_iconst (v := (-1)) hx hb dX11_worn_1 (by decide) ?_
  refine lv_icmp_ne (tgt := 16) hx hb dX11_worn_2 (by decide) (fun c_98 => ?_) (fun c_98 => ?_)
  · refine lv_aload_n hx hb dX11_worn_16 rfl (lv_at hl 0 rfl) ?_
    refine pg_get S Y ok_X11 0 (by decide) kf11_13 (v := .ref w) p_h rfl dX11_worn_17 ?_
    refine pg_getN S Y ok_X10 3 (by decide) kf11_131 (v := .ref nw) p_w rfl dX11_worn_20 ?_
    refine lv_iload_n hx hb dX11_worn_23 rfl (lv_at hl 1 rfl) ?_
    refine cVp (As := [.int o]) (rest := []) S Y (c_X4_has (l := l) p_nw) cw_X4_has km11_211 p_nw ok_X4.1 rfl rfl ⟨Nat.le_of_ble_eq_true rfl, Nat.le_of_ble_eq_true rfl⟩ hl.1 rfl (Nat.le_of_ble_eq_true rfl) ⟨Nat.le_of_ble_eq_true rfl, Nat.le_of_ble_eq_true rfl⟩ dX11_worn_24 (fun r_99 H locs er_99 Y => ?_)
    refine lv_fold (z := 0) er_99 ?_
    refine lv_if_eq (tgt := 40) hx hb dX11_worn_27 (by decide) (fun _ => ?_) (fun h => absurd (by decide) h)
    refine lv_bipush (v := (-2)) hx hb dX11_worn_40 (by decide) ?_
    exact prI (post := fun r L1 f1 => r = if o = -1 then 0 else -2) S Y rfl (by decide) (by decide) hA1 (by rw [if_neg c_98]) dX11_worn_42
  · refine lv_aload_n hx hb dX11_worn_5 rfl (lv_at hl 0 rfl) ?_
    refine pg_get S Y ok_X11 0 (by decide) kf11_13 (v := .ref w) p_h rfl dX11_worn_6 ?_
    refine pg_getN S Y ok_X10 9 (by decide) kf11_326 (v := .ref we) p_w rfl dX11_worn_9 ?_
    refine cVi (As := []) (rest := []) S Y (c_X9_forget (l := l) p_we) cw_X9_forget km11_253 p_we ok_X9.1 rfl rfl ⟨Nat.le_of_ble_eq_true rfl, Nat.le_of_ble_eq_true rfl⟩ hl.1 rfl (Nat.le_of_ble_eq_true rfl) ⟨Nat.le_of_ble_eq_true rfl, Nat.le_of_ble_eq_true rfl⟩ dX11_worn_12 (fun r_100 L_101 f_102 H locs hf_102 Y => ?_)
    refine lv_fold (z := 0) hf_102 ?_
    exact prI (post := fun r L1 f1 => r = if o = -1 then 0 else -2) S Y rfl (by decide) (by decide) hA1 (by rw [if_pos c_98]) dX11_worn_15
set_option maxHeartbeats 4000000 in
set_option maxRecDepth 100000 in
theorem c_X11_breaches {l : Launch} {G : GG} {L : List Nat} {f : HF} {h w k rd jd rg dd fo su ch ta ag sc nw pa fe cl wo si we : Nat} {o q : Int32}  (p_h : pt L f h (.inr (11, [.ref w, .ref k, .ref rd, .ref jd, .ref rg, .ref dd, .ref fo, .ref su, .ref ch]))) (p_w : pt L f w (.inr (10, [.ref ta, .ref ag, .ref sc, .ref nw, .ref pa, .ref fe, .ref cl, .ref wo, .ref si, .ref we, .int 0, .int 0, .int (-1), .int 0, .int 0])))  : PMp l yX11_breaches cX11_breaches 3 .int 1 0 0 G [.ref h, .int o, .int q] L f (fun r => r = (-1)) := by
  refine PMi.of (post := fun r L1 f1 => (r = (-1)) ∧ L1 = L ∧ f1 = f) (own := RX11) (by decide) rfl (Nat.le_of_ble_eq_true rfl) (fun sz p e s m args below meth c A ls hA1 hname S Y hl => ?_)
  have hx := S.hx
  have hb := S.hb
  have hl : lv_has ls 3 [(0, .ref h), (1, .int o), (2, .int q)] := hl
  refine lv_aload_n hx hb dX11_breaches_0 rfl (lv_at hl 0 rfl) ?_
  refine pg_get S Y ok_X11 0 (by decide) kf11_13 (v := .ref w) p_h rfl dX11_breaches_1 ?_
  refine lv_iload_n hx hb dX11_breaches_4 rfl (lv_at hl 1 rfl) ?_
  refine cVp (As := [.int o]) (rest := []) S Y (c_X10_has (l := l) p_w) cw_X10_has km11_192 p_w ok_X10.1 rfl rfl ⟨Nat.le_of_ble_eq_true rfl, Nat.le_of_ble_eq_true rfl⟩ hl.1 rfl (Nat.le_of_ble_eq_true rfl) ⟨Nat.le_of_ble_eq_true rfl, Nat.le_of_ble_eq_true rfl⟩ dX11_breaches_5 (fun r_103 H locs er_103 Y => ?_)
  refine lv_fold (z := 0) er_103 ?_
  refine lv_if_eq (tgt := 20) hx hb dX11_breaches_8 (by decide) (fun _ => ?_) (fun h => absurd (by decide) h)
  refine lv_iconst (v := (-1)) hx hb dX11_breaches_20 (by decide) ?_
  exact prI (post := fun r L1 f1 => (r = (-1)) ∧ L1 = L ∧ f1 = f) S Y rfl (by decide) (by decide) hA1 ⟨rfl, rfl, rfl⟩ dX11_breaches_21
set_option maxHeartbeats 4000000 in
set_option maxRecDepth 100000 in
theorem c_X11_odds {l : Launch} {G : GG} {L : List Nat} {f : HF} {h w k rd jd rg dd fo su ch ta ag sc nw pa fe cl wo si we oa aa : Nat} {o q : Int32}  (p_h : pt L f h (.inr (11, [.ref w, .ref k, .ref rd, .ref jd, .ref rg, .ref dd, .ref fo, .ref su, .ref ch]))) (p_w : pt L f w (.inr (10, [.ref ta, .ref ag, .ref sc, .ref nw, .ref pa, .ref fe, .ref cl, .ref wo, .ref si, .ref we, .int 0, .int 0, .int (-1), .int 0, .int 0]))) (p_nw : pt L f nw (.inr (4, [.ref oa, .ref aa, .int 0, .int 0, .int 0, .int 0, .int 137])))  : PMp l yX11_odds cX11_odds 3 .int 3 0 0 G [.ref h, .int o, .int q] L f (fun r => r = (-1)) := by
  refine PMi.of (post := fun r L1 f1 => (r = (-1)) ∧ L1 = L ∧ f1 = f) (own := RX11) (by decide) rfl (Nat.le_of_ble_eq_true rfl) (fun sz p e s m args below meth c A ls hA1 hname S Y hl => ?_)
  have hx := S.hx
  have hb := S.hb
  have hl : lv_has ls 3 [(0, .ref h), (1, .int o), (2, .int q)] := hl
  refine lv_aload_n hx hb dX11_odds_0 rfl (lv_at hl 0 rfl) ?_
  refine pg_get S Y ok_X11 0 (by decide) kf11_13 (v := .ref w) p_h rfl dX11_odds_1 ?_
  refine pg_getN S Y ok_X10 3 (by decide) kf11_131 (v := .ref nw) p_w rfl dX11_odds_4 ?_
  refine lv_iload_n hx hb dX11_odds_7 rfl (lv_at hl 1 rfl) ?_
  refine cVp (As := [.int o]) (rest := []) S Y (c_X4_legible (l := l) p_nw) cw_X4_legible km11_274 p_nw ok_X4.1 rfl rfl ⟨Nat.le_of_ble_eq_true rfl, Nat.le_of_ble_eq_true rfl⟩ hl.1 rfl (Nat.le_of_ble_eq_true rfl) ⟨Nat.le_of_ble_eq_true rfl, Nat.le_of_ble_eq_true rfl⟩ dX11_odds_8 (fun r_104 H locs er_104 Y => ?_)
  refine lv_fold (z := 0) er_104 ?_
  refine lv_if_ne (tgt := 16) hx hb dX11_odds_11 (by decide) (fun h => absurd (by decide) h) (fun _ => ?_)
  refine lv_iconst (v := (-1)) hx hb dX11_odds_14 (by decide) ?_
  exact prI (post := fun r L1 f1 => (r = (-1)) ∧ L1 = L ∧ f1 = f) S Y rfl (by decide) (by decide) hA1 ⟨rfl, rfl, rfl⟩ dX11_odds_15
set_option maxHeartbeats 4000000 in
set_option maxRecDepth 100000 in
theorem c_X11_nextAsked {l : Launch} {G : GG} {L : List Nat} {f : HF} {h w k rd jd rg dd fo su ch ta ag sc nw pa fe cl wo si we : Nat} {o : Int32}  (p_h : pt L f h (.inr (11, [.ref w, .ref k, .ref rd, .ref jd, .ref rg, .ref dd, .ref fo, .ref su, .ref ch]))) (p_w : pt L f w (.inr (10, [.ref ta, .ref ag, .ref sc, .ref nw, .ref pa, .ref fe, .ref cl, .ref wo, .ref si, .ref we, .int 0, .int 0, .int (-1), .int 0, .int 0])))  : PMp l yX11_nextAsked cX11_nextAsked 2 .int 1 0 0 G [.ref h, .int o] L f (fun r => r = (-1)) := by
  refine PMi.of (post := fun r L1 f1 => (r = (-1)) ∧ L1 = L ∧ f1 = f) (own := RX11) (by decide) rfl (Nat.le_of_ble_eq_true rfl) (fun sz p e s m args below meth c A ls hA1 hname S Y hl => ?_)
  have hx := S.hx
  have hb := S.hb
  have hl : lv_has ls 2 [(0, .ref h), (1, .int o)] := hl
  refine lv_aload_n hx hb dX11_nextAsked_0 rfl (lv_at hl 0 rfl) ?_
  refine pg_get S Y ok_X11 0 (by decide) kf11_13 (v := .ref w) p_h rfl dX11_nextAsked_1 ?_
  refine lv_iload_n hx hb dX11_nextAsked_4 rfl (lv_at hl 1 rfl) ?_
  refine cVp (As := [.int o]) (rest := []) S Y (c_X10_has (l := l) p_w) cw_X10_has km11_192 p_w ok_X10.1 rfl rfl ⟨Nat.le_of_ble_eq_true rfl, Nat.le_of_ble_eq_true rfl⟩ hl.1 rfl (Nat.le_of_ble_eq_true rfl) ⟨Nat.le_of_ble_eq_true rfl, Nat.le_of_ble_eq_true rfl⟩ dX11_nextAsked_5 (fun r_105 H locs er_105 Y => ?_)
  refine lv_fold (z := 0) er_105 ?_
  refine lv_if_ne (tgt := 13) hx hb dX11_nextAsked_8 (by decide) (fun h => absurd (by decide) h) (fun _ => ?_)
  refine lv_iconst (v := (-1)) hx hb dX11_nextAsked_11 (by decide) ?_
  exact prI (post := fun r L1 f1 => (r = (-1)) ∧ L1 = L ∧ f1 = f) S Y rfl (by decide) (by decide) hA1 ⟨rfl, rfl, rfl⟩ dX11_nextAsked_12
set_option maxHeartbeats 4000000 in
set_option maxRecDepth 100000 in
theorem c_X11_leastReleased {l : Launch} {G : GG} {L : List Nat} {f : HF} {h w k rd jd rg dd fo su ch ta ag sc nw pa fe cl wo si we pr kn cc : Nat}  (p_h : pt L f h (.inr (11, [.ref w, .ref k, .ref rd, .ref jd, .ref rg, .ref dd, .ref fo, .ref su, .ref ch]))) (p_w : pt L f w (.inr (10, [.ref ta, .ref ag, .ref sc, .ref nw, .ref pa, .ref fe, .ref cl, .ref wo, .ref si, .ref we, .int 0, .int 0, .int (-1), .int 0, .int 0]))) (p_ch : pt L f ch (.inr (0, [.ref w, .ref pr, .ref kn]))) (p_cl : pt L f cl (.inr (9, [.ref cc, .int 8, .int 0])))  : PMp l yX11_leastReleased cX11_leastReleased 1 .int 2 0 0 G [.ref h] L f (fun r => r = 0) := by
  refine PMi.of (post := fun r L1 f1 => (r = 0) ∧ L1 = L ∧ f1 = f) (own := RX11) (by decide) rfl (Nat.le_of_ble_eq_true rfl) (fun sz p e s m args below meth c A ls hA1 hname S Y hl => ?_)
  have hx := S.hx
  have hb := S.hb
  have hl : lv_has ls 1 [(0, .ref h)] := hl
  refine lv_aload_n hx hb dX11_leastReleased_0 rfl (lv_at hl 0 rfl) ?_
  refine pg_get S Y ok_X11 8 (by decide) kf11_75 (v := .ref ch) p_h rfl dX11_leastReleased_1 ?_
  refine cVp (As := []) (rest := []) S Y (c_X0_fewestReleased (l := l) p_ch p_w p_cl) cw_X0_fewestReleased km11_287 p_ch ok_X0.1 rfl rfl ⟨Nat.le_of_ble_eq_true rfl, Nat.le_of_ble_eq_true rfl⟩ hl.1 rfl (Nat.le_of_ble_eq_true rfl) ⟨Nat.le_of_ble_eq_true rfl, Nat.le_of_ble_eq_true rfl⟩ dX11_leastReleased_4 (fun r_106 H locs er_106 Y => ?_)
  refine lv_fold (z := 0) er_106 ?_
  exact prI (post := fun r L1 f1 => (r = 0) ∧ L1 = L ∧ f1 = f) S Y rfl (by decide) (by decide) hA1 ⟨rfl, rfl, rfl⟩ dX11_leastReleased_7
set_option maxHeartbeats 4000000 in
set_option maxRecDepth 100000 in
theorem c_X11_forged {l : Launch} {G : GG} {L : List Nat} {f : HF} {h w k rd jd rg dd fo su ch ta ag sc nw pa fe cl wo si we : Nat} {o a b : Int32}  (p_h : pt L f h (.inr (11, [.ref w, .ref k, .ref rd, .ref jd, .ref rg, .ref dd, .ref fo, .ref su, .ref ch]))) (p_w : pt L f w (.inr (10, [.ref ta, .ref ag, .ref sc, .ref nw, .ref pa, .ref fe, .ref cl, .ref wo, .ref si, .ref we, .int 0, .int 0, .int (-1), .int 0, .int 0])))  : PMp l yX11_forged cX11_forged 4 .int 1 0 0 G [.ref h, .int o, .int a, .int b] L f (fun r => r = (-1000)) := by
  refine PMi.of (post := fun r L1 f1 => (r = (-1000)) ∧ L1 = L ∧ f1 = f) (own := RX11) (by decide) rfl (Nat.le_of_ble_eq_true rfl) (fun sz p e s m args below meth c A ls hA1 hname S Y hl => ?_)
  have hx := S.hx
  have hb := S.hb
  have hl : lv_has ls 4 [(0, .ref h), (1, .int o), (2, .int a), (3, .int b)] := hl
  refine lv_aload_n hx hb dX11_forged_0 rfl (lv_at hl 0 rfl) ?_
  refine pg_get S Y ok_X11 0 (by decide) kf11_13 (v := .ref w) p_h rfl dX11_forged_1 ?_
  refine lv_iload_n hx hb dX11_forged_4 rfl (lv_at hl 1 rfl) ?_
  refine cVp (As := [.int o]) (rest := []) S Y (c_X10_has (l := l) p_w) cw_X10_has km11_192 p_w ok_X10.1 rfl rfl ⟨Nat.le_of_ble_eq_true rfl, Nat.le_of_ble_eq_true rfl⟩ hl.1 rfl (Nat.le_of_ble_eq_true rfl) ⟨Nat.le_of_ble_eq_true rfl, Nat.le_of_ble_eq_true rfl⟩ dX11_forged_5 (fun r_107 H locs er_107 Y => ?_)
  refine lv_fold (z := 0) er_107 ?_
  refine lv_if_eq (tgt := 30) hx hb dX11_forged_8 (by decide) (fun _ => ?_) (fun h => absurd (by decide) h)
  refine lv_sipush (v := (-1000)) hx hb dX11_forged_30 (by decide) ?_
  exact prI (post := fun r L1 f1 => (r = (-1000)) ∧ L1 = L ∧ f1 = f) S Y rfl (by decide) (by decide) hA1 ⟨rfl, rfl, rfl⟩ dX11_forged_33
set_option maxHeartbeats 4000000 in
set_option maxRecDepth 100000 in
theorem c_X11_word {l : Launch} {G : GG} {L : List Nat} {f : HF} {h w k rd jd rg dd fo su ch ta ag sc nw pa fe cl wo si we ce : Nat} {a b : Int32} {g : Nat → Int32}  (p_h : pt L f h (.inr (11, [.ref w, .ref k, .ref rd, .ref jd, .ref rg, .ref dd, .ref fo, .ref su, .ref ch]))) (p_w : pt L f w (.inr (10, [.ref ta, .ref ag, .ref sc, .ref nw, .ref pa, .ref fe, .ref cl, .ref wo, .ref si, .ref we, .int 0, .int 0, .int (-1), .int 0, .int 0]))) (p_wo : pt L f wo (.inr (9, [.ref ce, .int 8, .int 0]))) (p_ce : pt L f ce (.inl (G.2 0, 24, .inl g)))  : PMi l yX11_word cX11_word 3 .int 1 0 0 G [.ref h, .int a, .int b] L f (fun r L1 f1 => r = if a = -1 then 0 else if wi a 1 99 = 0 then -2 else if wi b 0 999 = 0 then -2 else 1) := by
  refine PMi.of (post := fun r L1 f1 => r = if a = -1 then 0 else if wi a 1 99 = 0 then -2 else if wi b 0 999 = 0 then -2 else 1) (own := RX11) (by decide) rfl (Nat.le_of_ble_eq_true rfl) (fun sz p e s m args below meth c A ls hA1 hname S Y hl => ?_)
  have hx := S.hx
  have hb := S.hb
  have hl : lv_has ls 3 [(0, .ref h), (1, .int a), (2, .int b)] := hl
  refine lv_iload_n hx hb dX11_word_0 rfl (lv_at hl 1 rfl) ?_
  refine lv_iconst (v := (-1)) hx hb dX11_word_1 (by decide) ?_
  refine lv_icmp_ne (tgt := 16) hx hb dX11_word_2 (by decide) (fun c_108 => ?_) (fun c_108 => ?_)
  · refine lv_iload_n hx hb dX11_word_16 rfl (lv_at hl 1 rfl) ?_
    refine lv_iconst (v := 1) hx hb dX11_word_17 (by decide) ?_
    refine lv_bipush (v := 99) hx hb dX11_word_18 (by decide) ?_
    refine cSp (As := [.int a, .int 1, .int 99]) (rest := []) S Y (c_X11_within (l := l)) cw_X11_within km11_146 rfl ⟨Nat.le_of_ble_eq_true rfl, Nat.le_of_ble_eq_true rfl⟩ hl.1 rfl (Nat.le_of_ble_eq_true rfl) ⟨Nat.le_of_ble_eq_true rfl, Nat.le_of_ble_eq_true rfl⟩ dX11_word_20 (fun r_109 H locs er_109 Y => ?_)
    refine lv_fold (z := (wi a 1 99)) er_109 ?_
    refine lv_if_eq (tgt := 37) hx hb dX11_word_23 (by decide) (fun c_110 => ?_) (fun c_110 => ?_)
    · refine lv_bipush (v := (-2)) hx hb dX11_word_37 (by decide) ?_
      exact prI (post := fun r L1 f1 => r = if a = -1 then 0 else if wi a 1 99 = 0 then -2 else if wi b 0 999 = 0 then -2 else 1) S Y rfl (by decide) (by decide) hA1 (by rw [if_neg c_108, if_pos c_110]) dX11_word_39
    · refine lv_iload_n hx hb dX11_word_26 rfl (lv_at hl 2 rfl) ?_
      refine lv_iconst (v := 0) hx hb dX11_word_27 (by decide) ?_
      refine lv_sipush (v := 999) hx hb dX11_word_28 (by decide) ?_
      refine cSp (As := [.int b, .int 0, .int 999]) (rest := []) S Y (c_X11_within (l := l)) cw_X11_within km11_146 rfl ⟨Nat.le_of_ble_eq_true rfl, Nat.le_of_ble_eq_true rfl⟩ hl.1 rfl (Nat.le_of_ble_eq_true rfl) ⟨Nat.le_of_ble_eq_true rfl, Nat.le_of_ble_eq_true rfl⟩ dX11_word_31 (fun r_111 H locs er_111 Y => ?_)
      refine lv_fold (z := (wi b 0 999)) er_111 ?_
      refine lv_if_ne (tgt := 40) hx hb dX11_word_34 (by decide) (fun c_112 => ?_) (fun c_112 => ?_)
      · refine lv_aload_n hx hb dX11_word_40 rfl (lv_at hl 0 rfl) ?_
        refine pg_get S Y ok_X11 0 (by decide) kf11_13 (v := .ref w) p_h rfl dX11_word_41 ?_
        refine pg_getN S Y ok_X10 7 (by decide) kf11_293 (v := .ref wo) p_w rfl dX11_word_44 ?_
        refine lv_iload_n hx hb dX11_word_47 rfl (lv_at hl 1 rfl) ?_
        refine lv_iload_n hx hb dX11_word_48 rfl (lv_at hl 2 rfl) ?_
        refine lv_iconst (v := 0) hx hb dX11_word_49 (by decide) ?_
        refine cVi (As := [.int a, .int b, .int 0]) (rest := []) S Y (c_X9_tell (l := l) p_wo p_ce) cw_X9_tell km11_258 p_wo ok_X9.1 rfl rfl ⟨Nat.le_of_ble_eq_true rfl, Nat.le_of_ble_eq_true rfl⟩ hl.1 rfl (Nat.le_of_ble_eq_true rfl) ⟨Nat.le_of_ble_eq_true rfl, Nat.le_of_ble_eq_true rfl⟩ dX11_word_50 (fun r_113 L_114 f_115 H locs hf_115 Y => ?_)
        refine lv_fold (z := 1) hf_115 ?_
        exact prI (post := fun r L1 f1 => r = if a = -1 then 0 else if wi a 1 99 = 0 then -2 else if wi b 0 999 = 0 then -2 else 1) S Y rfl (by decide) (by decide) hA1 (by rw [if_neg c_108, if_neg c_110, if_neg c_112]) dX11_word_53
      · refine lv_bipush (v := (-2)) hx hb dX11_word_37 (by decide) ?_
        exact prI (post := fun r L1 f1 => r = if a = -1 then 0 else if wi a 1 99 = 0 then -2 else if wi b 0 999 = 0 then -2 else 1) S Y rfl (by decide) (by decide) hA1 (by rw [if_neg c_108, if_neg c_110, if_pos c_112]) dX11_word_39
  · refine lv_aload_n hx hb dX11_word_5 rfl (lv_at hl 0 rfl) ?_
    refine pg_get S Y ok_X11 0 (by decide) kf11_13 (v := .ref w) p_h rfl dX11_word_6 ?_
    refine pg_getN S Y ok_X10 7 (by decide) kf11_293 (v := .ref wo) p_w rfl dX11_word_9 ?_
    refine cVi (As := []) (rest := []) S Y (c_X9_forget (l := l) p_wo) cw_X9_forget km11_253 p_wo ok_X9.1 rfl rfl ⟨Nat.le_of_ble_eq_true rfl, Nat.le_of_ble_eq_true rfl⟩ hl.1 rfl (Nat.le_of_ble_eq_true rfl) ⟨Nat.le_of_ble_eq_true rfl, Nat.le_of_ble_eq_true rfl⟩ dX11_word_12 (fun r_116 L_117 f_118 H locs hf_118 Y => ?_)
    refine lv_fold (z := 0) hf_118 ?_
    exact prI (post := fun r L1 f1 => r = if a = -1 then 0 else if wi a 1 99 = 0 then -2 else if wi b 0 999 = 0 then -2 else 1) S Y rfl (by decide) (by decide) hA1 (by rw [if_pos c_108]) dX11_word_15
set_option maxHeartbeats 4000000 in
set_option maxRecDepth 100000 in
theorem c_X11_inTime {l : Launch} {G : GG} {L : List Nat} {f : HF} {h w k rd jd rg dd fo su ch ta ag sc nw pa fe cl wo si we pr kn oc : Nat} {q : Int32}  (p_h : pt L f h (.inr (11, [.ref w, .ref k, .ref rd, .ref jd, .ref rg, .ref dd, .ref fo, .ref su, .ref ch]))) (p_w : pt L f w (.inr (10, [.ref ta, .ref ag, .ref sc, .ref nw, .ref pa, .ref fe, .ref cl, .ref wo, .ref si, .ref we, .int 0, .int 0, .int (-1), .int 0, .int 0]))) (p_ch : pt L f ch (.inr (0, [.ref w, .ref pr, .ref kn]))) (p_wo : pt L f wo (.inr (9, [.ref oc, .int 8, .int 0])))  : PMp l yX11_inTime cX11_inTime 3 .int 1 0 0 G [.ref h, .int q] L f (fun r => r = if wi q 0 2 = 0 then -1 else 0) := by
  refine PMi.of (post := fun r L1 f1 => (r = if wi q 0 2 = 0 then -1 else 0) ∧ L1 = L ∧ f1 = f) (own := RX11) (by decide) rfl (Nat.le_of_ble_eq_true rfl) (fun sz p e s m args below meth c A ls hA1 hname S Y hl => ?_)
  have hx := S.hx
  have hb := S.hb
  have hl : lv_has ls 3 [(0, .ref h), (1, .int q)] := hl
  refine lv_iload_n hx hb dX11_inTime_0 rfl (lv_at hl 1 rfl) ?_
  refine lv_iconst (v := 0) hx hb dX11_inTime_1 (by decide) ?_
  refine lv_iconst (v := 2) hx hb dX11_inTime_2 (by decide) ?_
  refine cSp (As := [.int q, .int 0, .int 2]) (rest := []) S Y (c_X11_within (l := l)) cw_X11_within km11_146 rfl ⟨Nat.le_of_ble_eq_true rfl, Nat.le_of_ble_eq_true rfl⟩ hl.1 rfl (Nat.le_of_ble_eq_true rfl) ⟨Nat.le_of_ble_eq_true rfl, Nat.le_of_ble_eq_true rfl⟩ dX11_inTime_3 (fun r_119 H locs er_119 Y => ?_)
  refine lv_fold (z := (wi q 0 2)) er_119 ?_
  refine lv_if_ne (tgt := 11) hx hb dX11_inTime_6 (by decide) (fun c_120 => ?_) (fun c_120 => ?_)
  · refine lv_aload_n hx hb dX11_inTime_11 rfl (lv_at hl 0 rfl) ?_
    refine pg_get S Y ok_X11 8 (by decide) kf11_75 (v := .ref ch) p_h rfl dX11_inTime_12 ?_
    refine cVp (As := []) (rest := []) S Y (c_X0_mostInTime (l := l) p_ch p_w p_wo) cw_X0_mostInTime km11_296 p_ch ok_X0.1 rfl rfl ⟨Nat.le_of_ble_eq_true rfl, Nat.le_of_ble_eq_true rfl⟩ hl.1 rfl (Nat.le_of_ble_eq_true rfl) ⟨Nat.le_of_ble_eq_true rfl, Nat.le_of_ble_eq_true rfl⟩ dX11_inTime_15 (fun r_121 H locs er_121 Y => ?_)
    refine lv_fold (z := 0) er_121 ?_
    refine lv_istore_n (lv' := [(2, .int 0), (0, .ref h), (1, .int q)]) hx hb dX11_inTime_18 rfl hl (by decide) rfl (fun ls hl => ?_)
    refine lv_iload_n hx hb dX11_inTime_19 rfl (lv_at hl 2 rfl) ?_
    refine lv_if_ne (tgt := 28) hx hb dX11_inTime_20 (by decide) (fun c_122 => ?_) (fun c_122 => ?_)
    · refine lv_iload_n hx hb dX11_inTime_28 rfl (lv_at hl 2 rfl) ?_
      refine lv_iconst (v := 1) hx hb dX11_inTime_29 (by decide) ?_
      refine lv_icmp_ne (tgt := 37) hx hb dX11_inTime_30 (by decide) (fun c_123 => ?_) (fun c_123 => ?_)
      · refine lv_aload_n hx hb dX11_inTime_37 rfl (lv_at hl 1 rfl) ?_
        refine pg_get S Y ok_X11 8 (by decide) kf11_75 (v := .ref ch) p_h rfl dX11_inTime_38 ?_
        refine lv_iload_n hx hb dX11_inTime_41 rfl (lv_at hl 0 rfl) ?_
        refine lv_sipush (v := 999) hx hb dX11_inTime_42 (by decide) ?_
        refine cVp (As := [.int 0, .int 999]) (rest := []) S Y (c_X0_workOf (l := l) p_ch p_w p_wo) cw_X0_workOf km11_304 p_ch ok_X0.1 rfl rfl ⟨Nat.le_of_ble_eq_true rfl, Nat.le_of_ble_eq_true rfl⟩ hl.1 rfl (Nat.le_of_ble_eq_true rfl) ⟨Nat.le_of_ble_eq_true rfl, Nat.le_of_ble_eq_true rfl⟩ dX11_inTime_45 (fun r_124 H locs er_124 Y => ?_)
        refine lv_fold (z := 0) er_124 ?_
        exact prI (post := fun r L1 f1 => (r = if wi q 0 2 = 0 then -1 else 0) ∧ L1 = L ∧ f1 = f) S Y rfl (by decide) (by decide) hA1 ⟨(by rw [if_neg c_120]), rfl, rfl⟩ dX11_inTime_48
      · refine lv_iload_n hx hb dX11_inTime_33 rfl (lv_at hl 0 rfl) ?_
        refine lv_goto (tgt := 48) hx hb dX11_inTime_34 (by decide) ?_
        exact prI (post := fun r L1 f1 => (r = if wi q 0 2 = 0 then -1 else 0) ∧ L1 = L ∧ f1 = f) S Y rfl (by decide) (by decide) hA1 ⟨(by rw [if_neg c_120]), rfl, rfl⟩ dX11_inTime_48
    · refine lv_iload_n hx hb dX11_inTime_23 rfl (lv_at hl 0 rfl) ?_
      refine cSp (As := [.int 0]) (rest := []) S Y (c_bitCount0 (l := l)) cw_X106_bitCount_0f7a4 km11_299 rfl ⟨Nat.le_of_ble_eq_true rfl, Nat.le_of_ble_eq_true rfl⟩ hl.1 rfl (Nat.le_of_ble_eq_true rfl) ⟨Nat.le_of_ble_eq_true rfl, Nat.le_of_ble_eq_true rfl⟩ dX11_inTime_24 (fun r_125 H locs er_125 Y => ?_)
      refine lv_fold (z := 0) er_125 ?_
      exact prI (post := fun r L1 f1 => (r = if wi q 0 2 = 0 then -1 else 0) ∧ L1 = L ∧ f1 = f) S Y rfl (by decide) (by decide) hA1 ⟨(by rw [if_neg c_120]), rfl, rfl⟩ dX11_inTime_27
  · refine lv_iconst (v := (-1)) hx hb dX11_inTime_9 (by decide) ?_
    exact prI (post := fun r L1 f1 => (r = if wi q 0 2 = 0 then -1 else 0) ∧ L1 = L ∧ f1 = f) S Y rfl (by decide) (by decide) hA1 ⟨(by rw [if_pos c_120]), rfl, rfl⟩ dX11_inTime_10
set_option maxHeartbeats 4000000 in
set_option maxRecDepth 100000 in
theorem c_X11_whom {l : Launch} {G : GG} {L : List Nat} {f : HF} {h w k rd jd rg dd fo su ch ta ag sc nw pa fe cl wo si we : Nat} {o : Int32}  (p_h : pt L f h (.inr (11, [.ref w, .ref k, .ref rd, .ref jd, .ref rg, .ref dd, .ref fo, .ref su, .ref ch]))) (p_w : pt L f w (.inr (10, [.ref ta, .ref ag, .ref sc, .ref nw, .ref pa, .ref fe, .ref cl, .ref wo, .ref si, .ref we, .int 0, .int 0, .int (-1), .int 0, .int 0])))  : PMp l yX11_whom cX11_whom 6 .int 1 0 0 G [.ref h, .int o] L f (fun r => r = (-1)) := by
  refine PMi.of (post := fun r L1 f1 => (r = (-1)) ∧ L1 = L ∧ f1 = f) (own := RX11) (by decide) rfl (Nat.le_of_ble_eq_true rfl) (fun sz p e s m args below meth c A ls hA1 hname S Y hl => ?_)
  have hx := S.hx
  have hb := S.hb
  have hl : lv_has ls 6 [(0, .ref h), (1, .int o)] := hl
  refine lv_aload_n hx hb dX11_whom_0 rfl (lv_at hl 0 rfl) ?_
  refine pg_get S Y ok_X11 0 (by decide) kf11_13 (v := .ref w) p_h rfl dX11_whom_1 ?_
  refine lv_iload_n hx hb dX11_whom_4 rfl (lv_at hl 1 rfl) ?_
  refine cVp (As := [.int o]) (rest := []) S Y (c_X10_has (l := l) p_w) cw_X10_has km11_192 p_w ok_X10.1 rfl rfl ⟨Nat.le_of_ble_eq_true rfl, Nat.le_of_ble_eq_true rfl⟩ hl.1 rfl (Nat.le_of_ble_eq_true rfl) ⟨Nat.le_of_ble_eq_true rfl, Nat.le_of_ble_eq_true rfl⟩ dX11_whom_5 (fun r_126 H locs er_126 Y => ?_)
  refine lv_fold (z := 0) er_126 ?_
  refine lv_if_ne (tgt := 13) hx hb dX11_whom_8 (by decide) (fun h => absurd (by decide) h) (fun _ => ?_)
  refine lv_iconst (v := (-1)) hx hb dX11_whom_11 (by decide) ?_
  exact prI (post := fun r L1 f1 => (r = (-1)) ∧ L1 = L ∧ f1 = f) S Y rfl (by decide) (by decide) hA1 ⟨rfl, rfl, rfl⟩ dX11_whom_12
set_option maxHeartbeats 4000000 in
set_option maxRecDepth 100000 in
theorem c_X11_ring {l : Launch} {G : GG} {L : List Nat} {f : HF} {h w k rd jd rg dd fo su ch ta ag sc nw pa fe cl wo si we oa aa : Nat} {be : Int32}  (p_h : pt L f h (.inr (11, [.ref w, .ref k, .ref rd, .ref jd, .ref rg, .ref dd, .ref fo, .ref su, .ref ch]))) (p_w : pt L f w (.inr (10, [.ref ta, .ref ag, .ref sc, .ref nw, .ref pa, .ref fe, .ref cl, .ref wo, .ref si, .ref we, .int 0, .int 0, .int (-1), .int 0, .int 0]))) (p_rg : pt L f rg (.inr (6, [.ref w, .int be]))) (p_nw : pt L f nw (.inr (4, [.ref oa, .ref aa, .int 0, .int 0, .int 0, .int 0, .int 137])))  : PMi l yX11_ring cX11_ring 1 .int 1 0 0 G [.ref h] L f (fun r L1 f1 => r = 0) := by
  refine PMi.of (post := fun r L1 f1 => r = 0) (own := RX11) (by decide) rfl (Nat.le_of_ble_eq_true rfl) (fun sz p e s m args below meth c A ls hA1 hname S Y hl => ?_)
  have hx := S.hx
  have hb := S.hb
  have hl : lv_has ls 1 [(0, .ref h)] := hl
  refine lv_aload_n hx hb dX11_ring_0 rfl (lv_at hl 0 rfl) ?_
  refine pg_get S Y ok_X11 4 (by decide) kf11_41 (v := .ref rg) p_h rfl dX11_ring_1 ?_
  refine cVi (As := []) (rest := []) S Y (c_X6_shortest (l := l) p_rg p_w p_nw) cw_X6_shortest km11_307 p_rg ok_X6.1 rfl rfl ⟨Nat.le_of_ble_eq_true rfl, Nat.le_of_ble_eq_true rfl⟩ hl.1 rfl (Nat.le_of_ble_eq_true rfl) ⟨Nat.le_of_ble_eq_true rfl, Nat.le_of_ble_eq_true rfl⟩ dX11_ring_4 (fun r_127 L_128 f_129 H locs hf_129 Y => ?_)
  refine lv_fold (z := 0) hf_129 ?_
  exact prI (post := fun r L1 f1 => r = 0) S Y rfl (by decide) (by decide) hA1 rfl dX11_ring_7
set_option maxHeartbeats 4000000 in
set_option maxRecDepth 100000 in
theorem c_X11_allSeen {l : Launch} {G : GG} {L : List Nat} {f : HF} {h w k rd jd rg dd fo su ch ta ag sc nw pa fe cl wo si we pr kn : Nat}  (p_h : pt L f h (.inr (11, [.ref w, .ref k, .ref rd, .ref jd, .ref rg, .ref dd, .ref fo, .ref su, .ref ch]))) (p_w : pt L f w (.inr (10, [.ref ta, .ref ag, .ref sc, .ref nw, .ref pa, .ref fe, .ref cl, .ref wo, .ref si, .ref we, .int 0, .int 0, .int (-1), .int 0, .int 0]))) (p_ch : pt L f ch (.inr (0, [.ref w, .ref pr, .ref kn])))  : PMp l yX11_allSeen cX11_allSeen 1 .int 2 0 0 G [.ref h] L f (fun r => r = 0) := by
  refine PMi.of (post := fun r L1 f1 => (r = 0) ∧ L1 = L ∧ f1 = f) (own := RX11) (by decide) rfl (Nat.le_of_ble_eq_true rfl) (fun sz p e s m args below meth c A ls hA1 hname S Y hl => ?_)
  have hx := S.hx
  have hb := S.hb
  have hl : lv_has ls 1 [(0, .ref h)] := hl
  refine lv_aload_n hx hb dX11_allSeen_0 rfl (lv_at hl 0 rfl) ?_
  refine pg_get S Y ok_X11 8 (by decide) kf11_75 (v := .ref ch) p_h rfl dX11_allSeen_1 ?_
  refine cVp (As := []) (rest := []) S Y (c_X0_fewestAsked (l := l) p_ch p_w) cw_X0_fewestAsked km11_310 p_ch ok_X0.1 rfl rfl ⟨Nat.le_of_ble_eq_true rfl, Nat.le_of_ble_eq_true rfl⟩ hl.1 rfl (Nat.le_of_ble_eq_true rfl) ⟨Nat.le_of_ble_eq_true rfl, Nat.le_of_ble_eq_true rfl⟩ dX11_allSeen_4 (fun r_130 H locs er_130 Y => ?_)
  refine lv_fold (z := 0) er_130 ?_
  exact prI (post := fun r L1 f1 => (r = 0) ∧ L1 = L ∧ f1 = f) S Y rfl (by decide) (by decide) hA1 ⟨rfl, rfl, rfl⟩ dX11_allSeen_7
set_option maxHeartbeats 4000000 in
set_option maxRecDepth 100000 in
theorem c_X11_known {l : Launch} {G : GG} {L : List Nat} {f : HF} {h w k rd jd rg dd fo su ch ta ag sc nw pa fe cl wo si we : Nat} {o : Int32}  (p_h : pt L f h (.inr (11, [.ref w, .ref k, .ref rd, .ref jd, .ref rg, .ref dd, .ref fo, .ref su, .ref ch]))) (p_w : pt L f w (.inr (10, [.ref ta, .ref ag, .ref sc, .ref nw, .ref pa, .ref fe, .ref cl, .ref wo, .ref si, .ref we, .int 0, .int 0, .int (-1), .int 0, .int 0])))  : PMp l yX11_known cX11_known 2 .int 1 0 0 G [.ref h, .int o] L f (fun r => r = (-1)) := by
  refine PMi.of (post := fun r L1 f1 => (r = (-1)) ∧ L1 = L ∧ f1 = f) (own := RX11) (by decide) rfl (Nat.le_of_ble_eq_true rfl) (fun sz p e s m args below meth c A ls hA1 hname S Y hl => ?_)
  have hx := S.hx
  have hb := S.hb
  have hl : lv_has ls 2 [(0, .ref h), (1, .int o)] := hl
  refine lv_aload_n hx hb dX11_known_0 rfl (lv_at hl 0 rfl) ?_
  refine pg_get S Y ok_X11 0 (by decide) kf11_13 (v := .ref w) p_h rfl dX11_known_1 ?_
  refine lv_iload_n hx hb dX11_known_4 rfl (lv_at hl 1 rfl) ?_
  refine cVp (As := [.int o]) (rest := []) S Y (c_X10_has (l := l) p_w) cw_X10_has km11_192 p_w ok_X10.1 rfl rfl ⟨Nat.le_of_ble_eq_true rfl, Nat.le_of_ble_eq_true rfl⟩ hl.1 rfl (Nat.le_of_ble_eq_true rfl) ⟨Nat.le_of_ble_eq_true rfl, Nat.le_of_ble_eq_true rfl⟩ dX11_known_5 (fun r_131 H locs er_131 Y => ?_)
  refine lv_fold (z := 0) er_131 ?_
  refine lv_if_eq (tgt := 22) hx hb dX11_known_8 (by decide) (fun _ => ?_) (fun h => absurd (by decide) h)
  refine lv_iconst (v := (-1)) hx hb dX11_known_22 (by decide) ?_
  exact prI (post := fun r L1 f1 => (r = (-1)) ∧ L1 = L ∧ f1 = f) S Y rfl (by decide) (by decide) hA1 ⟨rfl, rfl, rfl⟩ dX11_known_23
set_option maxHeartbeats 4000000 in
set_option maxRecDepth 100000 in
theorem c_X11_together {l : Launch} {G : GG} {L : List Nat} {f : HF} {h w k rd jd rg dd fo su ch ta ag sc nw pa fe cl wo si we pr kn : Nat}  (p_h : pt L f h (.inr (11, [.ref w, .ref k, .ref rd, .ref jd, .ref rg, .ref dd, .ref fo, .ref su, .ref ch]))) (p_w : pt L f w (.inr (10, [.ref ta, .ref ag, .ref sc, .ref nw, .ref pa, .ref fe, .ref cl, .ref wo, .ref si, .ref we, .int 0, .int 0, .int (-1), .int 0, .int 0]))) (p_ch : pt L f ch (.inr (0, [.ref w, .ref pr, .ref kn])))  : PMp l yX11_together cX11_together 1 .int 2 0 0 G [.ref h] L f (fun r => r = 0) := by
  refine PMi.of (post := fun r L1 f1 => (r = 0) ∧ L1 = L ∧ f1 = f) (own := RX11) (by decide) rfl (Nat.le_of_ble_eq_true rfl) (fun sz p e s m args below meth c A ls hA1 hname S Y hl => ?_)
  have hx := S.hx
  have hb := S.hb
  have hl : lv_has ls 1 [(0, .ref h)] := hl
  refine lv_aload_n hx hb dX11_together_0 rfl (lv_at hl 0 rfl) ?_
  refine pg_get S Y ok_X11 8 (by decide) kf11_75 (v := .ref ch) p_h rfl dX11_together_1 ?_
  refine cVp (As := []) (rest := []) S Y (c_X0_fewestKnowing (l := l) p_ch p_w) cw_X0_fewestKnowing km11_319 p_ch ok_X0.1 rfl rfl ⟨Nat.le_of_ble_eq_true rfl, Nat.le_of_ble_eq_true rfl⟩ hl.1 rfl (Nat.le_of_ble_eq_true rfl) ⟨Nat.le_of_ble_eq_true rfl, Nat.le_of_ble_eq_true rfl⟩ dX11_together_4 (fun r_132 H locs er_132 Y => ?_)
  refine lv_fold (z := 0) er_132 ?_
  exact prI (post := fun r L1 f1 => (r = 0) ∧ L1 = L ∧ f1 = f) S Y rfl (by decide) (by decide) hA1 ⟨rfl, rfl, rfl⟩ dX11_together_7
set_option maxHeartbeats 4000000 in
set_option maxRecDepth 100000 in
theorem c_X11_copy {l : Launch} {G : GG} {L : List Nat} {f : HF} {h w k rd jd rg dd fo su ch ta ag sc nw pa fe cl wo si we oa aa : Nat} {o a b q : Int32}  (p_h : pt L f h (.inr (11, [.ref w, .ref k, .ref rd, .ref jd, .ref rg, .ref dd, .ref fo, .ref su, .ref ch]))) (p_w : pt L f w (.inr (10, [.ref ta, .ref ag, .ref sc, .ref nw, .ref pa, .ref fe, .ref cl, .ref wo, .ref si, .ref we, .int 0, .int 0, .int (-1), .int 0, .int 0]))) (p_nw : pt L f nw (.inr (4, [.ref oa, .ref aa, .int 0, .int 0, .int 0, .int 0, .int 137])))  : PMp l yX11_copy cX11_copy 10 .int 2 0 0 G [.ref h, .int o, .int a, .int b, .int q] L f (fun r => r = (-100000)) := by
  refine PMi.of (post := fun r L1 f1 => (r = (-100000)) ∧ L1 = L ∧ f1 = f) (own := RX11) (by decide) rfl (Nat.le_of_ble_eq_true rfl) (fun sz p e s m args below meth c A ls hA1 hname S Y hl => ?_)
  have hx := S.hx
  have hb := S.hb
  have hl : lv_has ls 10 [(0, .ref h), (1, .int o), (2, .int a), (3, .int b), (4, .int q)] := hl
  refine lv_aload_n hx hb dX11_copy_0 rfl (lv_at hl 0 rfl) ?_
  refine pg_get S Y ok_X11 0 (by decide) kf11_13 (v := .ref w) p_h rfl dX11_copy_1 ?_
  refine pg_getN S Y ok_X10 3 (by decide) kf11_131 (v := .ref nw) p_w rfl dX11_copy_4 ?_
  refine lv_iload_n hx hb dX11_copy_7 rfl (lv_at hl 1 rfl) ?_
  refine cVp (As := [.int o]) (rest := []) S Y (c_X4_unreleased (l := l) p_nw) cw_X4_unreleased km11_322 p_nw ok_X4.1 rfl rfl ⟨Nat.le_of_ble_eq_true rfl, Nat.le_of_ble_eq_true rfl⟩ hl.1 rfl (Nat.le_of_ble_eq_true rfl) ⟨Nat.le_of_ble_eq_true rfl, Nat.le_of_ble_eq_true rfl⟩ dX11_copy_8 (fun r_133 H locs er_133 Y => ?_)
  refine lv_fold (z := 0) er_133 ?_
  refine lv_if_eq (tgt := 35) hx hb dX11_copy_11 (by decide) (fun _ => ?_) (fun h => absurd (by decide) h)
  refine lv_ldcw (v := (-100000)) hx hb S.ow (S.w kk11_325) dX11_copy_35 ?_
  exact prI (post := fun r L1 f1 => (r = (-100000)) ∧ L1 = L ∧ f1 = f) S Y rfl (by decide) (by decide) hA1 ⟨rfl, rfl, rfl⟩ dX11_copy_38
set_option maxHeartbeats 4000000 in
set_option maxRecDepth 100000 in
theorem c_X11_whose {l : Launch} {G : GG} {L : List Nat} {f : HF} {h w k rd jd rg dd fo su ch ta ag sc nw pa fe cl wo si we : Nat}  (p_h : pt L f h (.inr (11, [.ref w, .ref k, .ref rd, .ref jd, .ref rg, .ref dd, .ref fo, .ref su, .ref ch]))) (p_w : pt L f w (.inr (10, [.ref ta, .ref ag, .ref sc, .ref nw, .ref pa, .ref fe, .ref cl, .ref wo, .ref si, .ref we, .int 0, .int 0, .int (-1), .int 0, .int 0])))  : PMp l yX11_whose cX11_whose 3 .int 0 0 0 G [.ref h] L f (fun r => r = 0) := by
  refine PMi.of (post := fun r L1 f1 => (r = 0) ∧ L1 = L ∧ f1 = f) (own := RX11) (by decide) rfl (Nat.le_of_ble_eq_true rfl) (fun sz p e s m args below meth c A ls hA1 hname S Y hl => ?_)
  have hx := S.hx
  have hb := S.hb
  have hl : lv_has ls 3 [(0, .ref h)] := hl
  refine lv_iconst (v := 0) hx hb dX11_whose_0 (by decide) ?_
  refine lv_istore_n (lv' := [(1, .int 0), (0, .ref h)]) hx hb dX11_whose_1 rfl hl (by decide) rfl (fun ls hl => ?_)
  refine lv_iconst (v := 0) hx hb dX11_whose_2 (by decide) ?_
  refine lv_istore_n (lv' := [(2, .int 0), (1, .int 0), (0, .ref h)]) hx hb dX11_whose_3 rfl hl (by decide) rfl (fun ls hl => ?_)
  refine lv_iload_n hx hb dX11_whose_4 rfl (lv_at hl 0 rfl) ?_
  refine lv_aload_n hx hb dX11_whose_5 rfl (lv_at hl 2 rfl) ?_
  refine pg_get S Y ok_X11 0 (by decide) kf11_13 (v := .ref w) p_h rfl dX11_whose_6 ?_
  refine pg_getN S Y ok_X10 11 (by decide) kf11_329 (v := .int 0) p_w rfl dX11_whose_9 ?_
  refine lv_icmp_ge (tgt := 38) hx hb dX11_whose_12 (by decide) (fun _ => ?_) (fun h => absurd (by decide) h)
  refine lv_iload_n hx hb dX11_whose_38 rfl (lv_at hl 1 rfl) ?_
  exact prI (post := fun r L1 f1 => (r = 0) ∧ L1 = L ∧ f1 = f) S Y rfl (by decide) (by decide) hA1 ⟨rfl, rfl, rfl⟩ dX11_whose_39
set_option maxHeartbeats 4000000 in
set_option maxRecDepth 100000 in
theorem c_X11_mostSworn {l : Launch} {G : GG} {L : List Nat} {f : HF} {h w k rd jd rg dd fo su ch ta ag sc nw pa fe cl wo si we pr kn : Nat}  (p_h : pt L f h (.inr (11, [.ref w, .ref k, .ref rd, .ref jd, .ref rg, .ref dd, .ref fo, .ref su, .ref ch]))) (p_w : pt L f w (.inr (10, [.ref ta, .ref ag, .ref sc, .ref nw, .ref pa, .ref fe, .ref cl, .ref wo, .ref si, .ref we, .int 0, .int 0, .int (-1), .int 0, .int 0]))) (p_ch : pt L f ch (.inr (0, [.ref w, .ref pr, .ref kn])))  : PMp l yX11_mostSworn cX11_mostSworn 1 .int 1 0 0 G [.ref h] L f (fun r => r = (-1)) := by
  refine PMi.of (post := fun r L1 f1 => (r = (-1)) ∧ L1 = L ∧ f1 = f) (own := RX11) (by decide) rfl (Nat.le_of_ble_eq_true rfl) (fun sz p e s m args below meth c A ls hA1 hname S Y hl => ?_)
  have hx := S.hx
  have hb := S.hb
  have hl : lv_has ls 1 [(0, .ref h)] := hl
  refine lv_aload_n hx hb dX11_mostSworn_0 rfl (lv_at hl 0 rfl) ?_
  refine pg_get S Y ok_X11 8 (by decide) kf11_75 (v := .ref ch) p_h rfl dX11_mostSworn_1 ?_
  refine cVp (As := []) (rest := []) S Y (c_X0_mostOften (l := l) p_ch p_w) cw_X0_mostOften km11_335 p_ch ok_X0.1 rfl rfl ⟨Nat.le_of_ble_eq_true rfl, Nat.le_of_ble_eq_true rfl⟩ hl.1 rfl (Nat.le_of_ble_eq_true rfl) ⟨Nat.le_of_ble_eq_true rfl, Nat.le_of_ble_eq_true rfl⟩ dX11_mostSworn_4 (fun r_134 H locs er_134 Y => ?_)
  refine lv_fold (z := (-1)) er_134 ?_
  exact prI (post := fun r L1 f1 => (r = (-1)) ∧ L1 = L ∧ f1 = f) S Y rfl (by decide) (by decide) hA1 ⟨rfl, rfl, rfl⟩ dX11_mostSworn_7
set_option maxHeartbeats 4000000 in
set_option maxRecDepth 100000 in
theorem c_X11_faithful {l : Launch} {G : GG} {L : List Nat} {f : HF} {h w k rd jd rg dd fo su ch ta ag sc nw pa fe cl wo si we pr kn oa aa : Nat}  (p_h : pt L f h (.inr (11, [.ref w, .ref k, .ref rd, .ref jd, .ref rg, .ref dd, .ref fo, .ref su, .ref ch]))) (p_w : pt L f w (.inr (10, [.ref ta, .ref ag, .ref sc, .ref nw, .ref pa, .ref fe, .ref cl, .ref wo, .ref si, .ref we, .int 0, .int 0, .int (-1), .int 0, .int 0]))) (p_ch : pt L f ch (.inr (0, [.ref w, .ref pr, .ref kn]))) (p_nw : pt L f nw (.inr (4, [.ref oa, .ref aa, .int 0, .int 0, .int 0, .int 0, .int 137])))  : PMp l yX11_faithful cX11_faithful 1 .int 1 0 0 G [.ref h] L f (fun r => r = 0) := by
  refine PMi.of (post := fun r L1 f1 => (r = 0) ∧ L1 = L ∧ f1 = f) (own := RX11) (by decide) rfl (Nat.le_of_ble_eq_true rfl) (fun sz p e s m args below meth c A ls hA1 hname S Y hl => ?_)
  have hx := S.hx
  have hb := S.hb
  have hl : lv_has ls 1 [(0, .ref h)] := hl
  refine lv_aload_n hx hb dX11_faithful_0 rfl (lv_at hl 0 rfl) ?_
  refine pg_get S Y ok_X11 8 (by decide) kf11_75 (v := .ref ch) p_h rfl dX11_faithful_1 ?_
  refine cVp (As := []) (rest := []) S Y (c_X0_unbroken (l := l) p_ch p_w p_nw) cw_X0_unbroken km11_338 p_ch ok_X0.1 rfl rfl ⟨Nat.le_of_ble_eq_true rfl, Nat.le_of_ble_eq_true rfl⟩ hl.1 rfl (Nat.le_of_ble_eq_true rfl) ⟨Nat.le_of_ble_eq_true rfl, Nat.le_of_ble_eq_true rfl⟩ dX11_faithful_4 (fun r_135 H locs er_135 Y => ?_)
  refine lv_fold (z := 0) er_135 ?_
  exact prI (post := fun r L1 f1 => (r = 0) ∧ L1 = L ∧ f1 = f) S Y rfl (by decide) (by decide) hA1 ⟨rfl, rfl, rfl⟩ dX11_faithful_7
set_option maxHeartbeats 4000000 in
set_option maxRecDepth 100000 in
theorem c_X11_ached {l : Launch} {G : GG} {L : List Nat} {f : HF} {h w k rd jd rg dd fo su ch ta ag sc nw pa fe cl wo si we oa aa : Nat} {o : Int32}  (p_h : pt L f h (.inr (11, [.ref w, .ref k, .ref rd, .ref jd, .ref rg, .ref dd, .ref fo, .ref su, .ref ch]))) (p_w : pt L f w (.inr (10, [.ref ta, .ref ag, .ref sc, .ref nw, .ref pa, .ref fe, .ref cl, .ref wo, .ref si, .ref we, .int 0, .int 0, .int (-1), .int 0, .int 0]))) (p_nw : pt L f nw (.inr (4, [.ref oa, .ref aa, .int 0, .int 0, .int 0, .int 0, .int 137])))  : PMp l yX11_ached cX11_ached 2 .int 1 0 0 G [.ref h, .int o] L f (fun r => r = if o = -1 then 0 else -2) := by
  refine PMi.of (post := fun r L1 f1 => (r = if o = -1 then 0 else -2) ∧ L1 = L ∧ f1 = f) (own := RX11) (by decide) rfl (Nat.le_of_ble_eq_true rfl) (fun sz p e s m args below meth c A ls hA1 hname S Y hl => ?_)
  have hx := S.hx
  have hb := S.hb
  have hl : lv_has ls 2 [(0, .ref h), (1, .int o)] := hl
  refine lv_iload_n hx hb dX11_ached_0 rfl (lv_at hl 1 rfl) ?_
  refine lv_iconst (v := (-1)) hx hb dX11_ached_1 (by decide) ?_
  refine lv_icmp_eq (tgt := 19) hx hb dX11_ached_2 (by decide) (fun c_136 => ?_) (fun c_136 => ?_)
  · refine lv_aload_n hx hb dX11_ached_19 rfl (lv_at hl 0 rfl) ?_
    refine pg_get S Y ok_X11 0 (by decide) kf11_13 (v := .ref w) p_h rfl dX11_ached_20 ?_
    refine pg_getN S Y ok_X10 3 (by decide) kf11_131 (v := .ref nw) p_w rfl dX11_ached_23 ?_
    refine lv_iload_n hx hb dX11_ached_26 rfl (lv_at hl 1 rfl) ?_
    refine cVp (As := [.int o]) (rest := []) S Y (c_X4_writtenOf (l := l) p_nw) cw_X4_writtenOf km11_341 p_nw ok_X4.1 rfl rfl ⟨Nat.le_of_ble_eq_true rfl, Nat.le_of_ble_eq_true rfl⟩ hl.1 rfl (Nat.le_of_ble_eq_true rfl) ⟨Nat.le_of_ble_eq_true rfl, Nat.le_of_ble_eq_true rfl⟩ dX11_ached_27 (fun r_137 H locs er_137 Y => ?_)
    refine lv_fold (z := 0) er_137 ?_
    exact prI (post := fun r L1 f1 => (r = if o = -1 then 0 else -2) ∧ L1 = L ∧ f1 = f) S Y rfl (by decide) (by decide) hA1 ⟨(by rw [if_pos c_136]), rfl, rfl⟩ dX11_ached_30
  · refine lv_aload_n hx hb dX11_ached_5 rfl (lv_at hl 0 rfl) ?_
    refine pg_get S Y ok_X11 0 (by decide) kf11_13 (v := .ref w) p_h rfl dX11_ached_6 ?_
    refine lv_iload_n hx hb dX11_ached_9 rfl (lv_at hl 1 rfl) ?_
    refine cVp (As := [.int o]) (rest := []) S Y (c_X10_has (l := l) p_w) cw_X10_has km11_192 p_w ok_X10.1 rfl rfl ⟨Nat.le_of_ble_eq_true rfl, Nat.le_of_ble_eq_true rfl⟩ hl.1 rfl (Nat.le_of_ble_eq_true rfl) ⟨Nat.le_of_ble_eq_true rfl, Nat.le_of_ble_eq_true rfl⟩ dX11_ached_10 (fun r_138 H locs er_138 Y => ?_)
    refine lv_fold (z := 0) er_138 ?_
    refine lv_if_ne (tgt := 19) hx hb dX11_ached_13 (by decide) (fun h => absurd (by decide) h) (fun _ => ?_)
    refine lv_bipush (v := (-2)) hx hb dX11_ached_16 (by decide) ?_
    exact prI (post := fun r L1 f1 => (r = if o = -1 then 0 else -2) ∧ L1 = L ∧ f1 = f) S Y rfl (by decide) (by decide) hA1 ⟨(by rw [if_neg c_136]), rfl, rfl⟩ dX11_ached_18
set_option maxHeartbeats 4000000 in
set_option maxRecDepth 100000 in
theorem c_X11_worstDay {l : Launch} {G : GG} {L : List Nat} {f : HF} {h w k rd jd rg dd fo su ch ta ag sc nw pa fe cl wo si we oa aa : Nat}  (p_h : pt L f h (.inr (11, [.ref w, .ref k, .ref rd, .ref jd, .ref rg, .ref dd, .ref fo, .ref su, .ref ch]))) (p_w : pt L f w (.inr (10, [.ref ta, .ref ag, .ref sc, .ref nw, .ref pa, .ref fe, .ref cl, .ref wo, .ref si, .ref we, .int 0, .int 0, .int (-1), .int 0, .int 0]))) (p_nw : pt L f nw (.inr (4, [.ref oa, .ref aa, .int 0, .int 0, .int 0, .int 0, .int 137])))  : PMp l yX11_worstDay cX11_worstDay 1 .int 1 0 0 G [.ref h] L f (fun r => r = (-1)) := by
  refine PMi.of (post := fun r L1 f1 => (r = (-1)) ∧ L1 = L ∧ f1 = f) (own := RX11) (by decide) rfl (Nat.le_of_ble_eq_true rfl) (fun sz p e s m args below meth c A ls hA1 hname S Y hl => ?_)
  have hx := S.hx
  have hb := S.hb
  have hl : lv_has ls 1 [(0, .ref h)] := hl
  refine lv_aload_n hx hb dX11_worstDay_0 rfl (lv_at hl 0 rfl) ?_
  refine pg_get S Y ok_X11 0 (by decide) kf11_13 (v := .ref w) p_h rfl dX11_worstDay_1 ?_
  refine pg_getN S Y ok_X10 3 (by decide) kf11_131 (v := .ref nw) p_w rfl dX11_worstDay_4 ?_
  refine cVp (As := []) (rest := []) S Y (c_X4_dayOfMost (l := l) p_nw) cw_X4_dayOfMost km11_344 p_nw ok_X4.1 rfl rfl ⟨Nat.le_of_ble_eq_true rfl, Nat.le_of_ble_eq_true rfl⟩ hl.1 rfl (Nat.le_of_ble_eq_true rfl) ⟨Nat.le_of_ble_eq_true rfl, Nat.le_of_ble_eq_true rfl⟩ dX11_worstDay_7 (fun r_139 H locs er_139 Y => ?_)
  refine lv_fold (z := (-1)) er_139 ?_
  exact prI (post := fun r L1 f1 => (r = (-1)) ∧ L1 = L ∧ f1 = f) S Y rfl (by decide) (by decide) hA1 ⟨rfl, rfl, rfl⟩ dX11_worstDay_10
def isF (k : Int32) : Int32 := if k = 0 then 0 else if k = 1 then 0 else if k = 2 then 137 else if k = 3 then 0 else -2
def aboutF (k : Int32) : Int32 := if k = 2 then -1 else if k = 0 ∨ k = 1 ∨ k = 3 ∨ k = 4 ∨ k = 5 ∨ k = 6 ∨ k = 7 ∨ k = 8 ∨ k = 9 then 0 else -2
set_option maxHeartbeats 4000000 in
set_option maxRecDepth 100000 in
theorem c_X11_is {l : Launch} {G : GG} {L : List Nat} {f : HF} {h w k rd jd rg dd fo su ch ta ag sc nw pa fe cl wo si we oa aa : Nat} {q : Int32}  (p_h : pt L f h (.inr (11, [.ref w, .ref k, .ref rd, .ref jd, .ref rg, .ref dd, .ref fo, .ref su, .ref ch]))) (p_w : pt L f w (.inr (10, [.ref ta, .ref ag, .ref sc, .ref nw, .ref pa, .ref fe, .ref cl, .ref wo, .ref si, .ref we, .int 0, .int 0, .int (-1), .int 0, .int 0]))) (p_nw : pt L f nw (.inr (4, [.ref oa, .ref aa, .int 0, .int 0, .int 0, .int 0, .int 137])))  : PMp l yX11_is cX11_is 2 .int 0 0 0 G [.ref h, .int q] L f (fun r => r = isF q) := by
  refine PMi.of (post := fun r L1 f1 => (r = isF q) ∧ L1 = L ∧ f1 = f) (own := RX11) (by decide) rfl (Nat.le_of_ble_eq_true rfl) (fun sz p e s m args below meth c A ls hA1 hname S Y hl => ?_)
  have hx := S.hx
  have hb := S.hb
  have hl : lv_has ls 2 [(0, .ref h), (1, .int q)] := hl
  refine lv_iload_n hx hb dX11_is_0 rfl (lv_at hl 1 rfl) ?_
  rcases sw_0_3 q with h_140 | h_140 | h_140 | h_140 | h_140
  · refine lv_fold (z := 0) h_140 ?_
    refine lv_tableIn (off := 31) (tgt := 32) hx hb dX11_is_1 (by decide) (by decide) (by decide) (by decide) ?_
    refine lv_aload_n hx hb dX11_is_32 rfl (lv_at hl 0 rfl) ?_
    refine pg_get S Y ok_X11 0 (by decide) kf11_13 (v := .ref w) p_h rfl dX11_is_33 ?_
    refine pg_getN S Y ok_X10 3 (by decide) kf11_131 (v := .ref nw) p_w rfl dX11_is_36 ?_
    refine pg_getN S Y ok_X4 4 (by decide) kf11_150 (v := .int 0) p_nw rfl dX11_is_39 ?_
    exact prI (post := fun r L1 f1 => (r = isF q) ∧ L1 = L ∧ f1 = f) S Y rfl (by decide) (by decide) hA1 ⟨(by rw [h_140]; decide), rfl, rfl⟩ dX11_is_42
  · refine lv_fold (z := 1) h_140 ?_
    refine lv_tableIn (off := 42) (tgt := 43) hx hb dX11_is_1 (by decide) (by decide) (by decide) (by decide) ?_
    refine lv_aload_n hx hb dX11_is_43 rfl (lv_at hl 0 rfl) ?_
    refine pg_get S Y ok_X11 0 (by decide) kf11_13 (v := .ref w) p_h rfl dX11_is_44 ?_
    refine pg_getN S Y ok_X10 3 (by decide) kf11_131 (v := .ref nw) p_w rfl dX11_is_47 ?_
    refine pg_getN S Y ok_X4 5 (by decide) kf11_158 (v := .int 0) p_nw rfl dX11_is_50 ?_
    exact prI (post := fun r L1 f1 => (r = isF q) ∧ L1 = L ∧ f1 = f) S Y rfl (by decide) (by decide) hA1 ⟨(by rw [h_140]; decide), rfl, rfl⟩ dX11_is_53
  · refine lv_fold (z := 2) h_140 ?_
    refine lv_tableIn (off := 53) (tgt := 54) hx hb dX11_is_1 (by decide) (by decide) (by decide) (by decide) ?_
    refine lv_aload_n hx hb dX11_is_54 rfl (lv_at hl 0 rfl) ?_
    refine pg_get S Y ok_X11 0 (by decide) kf11_13 (v := .ref w) p_h rfl dX11_is_55 ?_
    refine pg_getN S Y ok_X10 3 (by decide) kf11_131 (v := .ref nw) p_w rfl dX11_is_58 ?_
    refine pg_getN S Y ok_X4 6 (by decide) kf11_225 (v := .int 137) p_nw rfl dX11_is_61 ?_
    exact prI (post := fun r L1 f1 => (r = isF q) ∧ L1 = L ∧ f1 = f) S Y rfl (by decide) (by decide) hA1 ⟨(by rw [h_140]; decide), rfl, rfl⟩ dX11_is_64
  · refine lv_fold (z := 3) h_140 ?_
    refine lv_tableIn (off := 64) (tgt := 65) hx hb dX11_is_1 (by decide) (by decide) (by decide) (by decide) ?_
    refine lv_aload_n hx hb dX11_is_65 rfl (lv_at hl 0 rfl) ?_
    refine pg_get S Y ok_X11 0 (by decide) kf11_13 (v := .ref w) p_h rfl dX11_is_66 ?_
    refine pg_getN S Y ok_X10 3 (by decide) kf11_131 (v := .ref nw) p_w rfl dX11_is_69 ?_
    refine pg_getN S Y ok_X4 2 (by decide) kf11_228 (v := .int 0) p_nw rfl dX11_is_72 ?_
    exact prI (post := fun r L1 f1 => (r = isF q) ∧ L1 = L ∧ f1 = f) S Y rfl (by decide) (by decide) hA1 ⟨(by rw [h_140]; decide), rfl, rfl⟩ dX11_is_75
  · refine lv_tableOut (tgt := 76) hx hb dX11_is_1 h_140 (by decide) ?_
    refine lv_bipush (v := (-2)) hx hb dX11_is_76 (by decide) ?_
    exact prI (post := fun r L1 f1 => (r = isF q) ∧ L1 = L ∧ f1 = f) S Y rfl (by decide) (by decide) hA1 ⟨(by
      have key : ∀ j : Int32, 0 ≤ j.toInt → j.toInt ≤ 3 → ¬ q = j := fun j h1 h2 z => by rw [z] at h_140; omega
      unfold isF
      simp [key 0 (by decide) (by decide), key 1 (by decide) (by decide), key 2 (by decide) (by decide), key 3 (by decide) (by decide)]), rfl, rfl⟩ dX11_is_78
set_option maxHeartbeats 4000000 in
set_option maxRecDepth 100000 in
theorem c_X11_about {l : Launch} {G : GG} {L : List Nat} {f : HF} {h w k rd jd rg dd fo su ch ta ag sc nw pa fe cl wo si we c1 c2 c3 c4 c5 tp ki pl va : Nat} {q : Int32}  (p_h : pt L f h (.inr (11, [.ref w, .ref k, .ref rd, .ref jd, .ref rg, .ref dd, .ref fo, .ref su, .ref ch]))) (p_w : pt L f w (.inr (10, [.ref ta, .ref ag, .ref sc, .ref nw, .ref pa, .ref fe, .ref cl, .ref wo, .ref si, .ref we, .int 0, .int 0, .int (-1), .int 0, .int 0]))) (p_fe : pt L f fe (.inr (9, [.ref c1, .int 6, .int 0]))) (p_cl : pt L f cl (.inr (9, [.ref c2, .int 8, .int 0]))) (p_wo : pt L f wo (.inr (9, [.ref c3, .int 8, .int 0]))) (p_si : pt L f si (.inr (9, [.ref c4, .int 8, .int 0]))) (p_we : pt L f we (.inr (9, [.ref c5, .int 8, .int 0]))) (p_rd : pt L f rd (.inr (5, [.ref tp, .ref ki, .ref pl, .ref va, .int 0, .int 0, .int 0, .int 0, .int 0, .int 0, .int 0, .null, .int (-1), .int (-1)])))  : PMp l yX11_about cX11_about 2 .int 1 0 0 G [.ref h, .int q] L f (fun r => r = aboutF q) := by
  refine PMi.of (post := fun r L1 f1 => (r = aboutF q) ∧ L1 = L ∧ f1 = f) (own := RX11) (by decide) rfl (Nat.le_of_ble_eq_true rfl) (fun sz p e s m args below meth c A ls hA1 hname S Y hl => ?_)
  have hx := S.hx
  have hb := S.hb
  have hl : lv_has ls 2 [(0, .ref h), (1, .int q)] := hl
  refine lv_iload_n hx hb dX11_about_0 rfl (lv_at hl 1 rfl) ?_
  rcases sw_0_9 q with h_141 | h_141 | h_141 | h_141 | h_141 | h_141 | h_141 | h_141 | h_141 | h_141 | h_141
  · refine lv_fold (z := 0) h_141 ?_
    refine lv_tableIn (off := 55) (tgt := 56) hx hb dX11_about_1 (by decide) (by decide) (by decide) (by decide) ?_
    refine lv_aload_n hx hb dX11_about_56 rfl (lv_at hl 0 rfl) ?_
    refine pg_get S Y ok_X11 0 (by decide) kf11_13 (v := .ref w) p_h rfl dX11_about_57 ?_
    refine pg_getN S Y ok_X10 10 (by decide) kf11_174 (v := .int 0) p_w rfl dX11_about_60 ?_
    exact prI (post := fun r L1 f1 => (r = aboutF q) ∧ L1 = L ∧ f1 = f) S Y rfl (by decide) (by decide) hA1 ⟨(by rw [h_141]; decide), rfl, rfl⟩ dX11_about_63
  · refine lv_fold (z := 1) h_141 ?_
    refine lv_tableIn (off := 63) (tgt := 64) hx hb dX11_about_1 (by decide) (by decide) (by decide) (by decide) ?_
    refine lv_aload_n hx hb dX11_about_64 rfl (lv_at hl 0 rfl) ?_
    refine pg_get S Y ok_X11 0 (by decide) kf11_13 (v := .ref w) p_h rfl dX11_about_65 ?_
    refine pg_getN S Y ok_X10 11 (by decide) kf11_329 (v := .int 0) p_w rfl dX11_about_68 ?_
    exact prI (post := fun r L1 f1 => (r = aboutF q) ∧ L1 = L ∧ f1 = f) S Y rfl (by decide) (by decide) hA1 ⟨(by rw [h_141]; decide), rfl, rfl⟩ dX11_about_71
  · refine lv_fold (z := 2) h_141 ?_
    refine lv_tableIn (off := 71) (tgt := 72) hx hb dX11_about_1 (by decide) (by decide) (by decide) (by decide) ?_
    refine lv_aload_n hx hb dX11_about_72 rfl (lv_at hl 0 rfl) ?_
    refine pg_get S Y ok_X11 0 (by decide) kf11_13 (v := .ref w) p_h rfl dX11_about_73 ?_
    refine pg_getN S Y ok_X10 12 (by decide) kf11_212 (v := .int (-1)) p_w rfl dX11_about_76 ?_
    exact prI (post := fun r L1 f1 => (r = aboutF q) ∧ L1 = L ∧ f1 = f) S Y rfl (by decide) (by decide) hA1 ⟨(by rw [h_141]; decide), rfl, rfl⟩ dX11_about_79
  · refine lv_fold (z := 3) h_141 ?_
    refine lv_tableIn (off := 79) (tgt := 80) hx hb dX11_about_1 (by decide) (by decide) (by decide) (by decide) ?_
    refine lv_aload_n hx hb dX11_about_80 rfl (lv_at hl 0 rfl) ?_
    refine pg_get S Y ok_X11 0 (by decide) kf11_13 (v := .ref w) p_h rfl dX11_about_81 ?_
    refine pg_getN S Y ok_X10 14 (by decide) kf11_189 (v := .int 0) p_w rfl dX11_about_84 ?_
    exact prI (post := fun r L1 f1 => (r = aboutF q) ∧ L1 = L ∧ f1 = f) S Y rfl (by decide) (by decide) hA1 ⟨(by rw [h_141]; decide), rfl, rfl⟩ dX11_about_87
  · refine lv_fold (z := 4) h_141 ?_
    refine lv_tableIn (off := 87) (tgt := 88) hx hb dX11_about_1 (by decide) (by decide) (by decide) (by decide) ?_
    refine lv_aload_n hx hb dX11_about_88 rfl (lv_at hl 0 rfl) ?_
    refine pg_get S Y ok_X11 0 (by decide) kf11_13 (v := .ref w) p_h rfl dX11_about_89 ?_
    refine pg_getN S Y ok_X10 5 (by decide) kf11_249 (v := .ref fe) p_w rfl dX11_about_92 ?_
    refine pg_getN S Y ok_X9 2 (by decide) kf11_350 (v := .int 0) p_fe rfl dX11_about_95 ?_
    exact prI (post := fun r L1 f1 => (r = aboutF q) ∧ L1 = L ∧ f1 = f) S Y rfl (by decide) (by decide) hA1 ⟨(by rw [h_141]; decide), rfl, rfl⟩ dX11_about_98
  · refine lv_fold (z := 5) h_141 ?_
    refine lv_tableIn (off := 98) (tgt := 99) hx hb dX11_about_1 (by decide) (by decide) (by decide) (by decide) ?_
    refine lv_aload_n hx hb dX11_about_99 rfl (lv_at hl 0 rfl) ?_
    refine pg_get S Y ok_X11 0 (by decide) kf11_13 (v := .ref w) p_h rfl dX11_about_100 ?_
    refine pg_getN S Y ok_X10 6 (by decide) kf11_284 (v := .ref cl) p_w rfl dX11_about_103 ?_
    refine pg_getN S Y ok_X9 2 (by decide) kf11_350 (v := .int 0) p_cl rfl dX11_about_106 ?_
    exact prI (post := fun r L1 f1 => (r = aboutF q) ∧ L1 = L ∧ f1 = f) S Y rfl (by decide) (by decide) hA1 ⟨(by rw [h_141]; decide), rfl, rfl⟩ dX11_about_109
  · refine lv_fold (z := 6) h_141 ?_
    refine lv_tableIn (off := 109) (tgt := 110) hx hb dX11_about_1 (by decide) (by decide) (by decide) (by decide) ?_
    refine lv_aload_n hx hb dX11_about_110 rfl (lv_at hl 0 rfl) ?_
    refine pg_get S Y ok_X11 0 (by decide) kf11_13 (v := .ref w) p_h rfl dX11_about_111 ?_
    refine pg_getN S Y ok_X10 7 (by decide) kf11_293 (v := .ref wo) p_w rfl dX11_about_114 ?_
    refine pg_getN S Y ok_X9 2 (by decide) kf11_350 (v := .int 0) p_wo rfl dX11_about_117 ?_
    exact prI (post := fun r L1 f1 => (r = aboutF q) ∧ L1 = L ∧ f1 = f) S Y rfl (by decide) (by decide) hA1 ⟨(by rw [h_141]; decide), rfl, rfl⟩ dX11_about_120
  · refine lv_fold (z := 7) h_141 ?_
    refine lv_tableIn (off := 120) (tgt := 121) hx hb dX11_about_1 (by decide) (by decide) (by decide) (by decide) ?_
    refine lv_aload_n hx hb dX11_about_121 rfl (lv_at hl 0 rfl) ?_
    refine pg_get S Y ok_X11 0 (by decide) kf11_13 (v := .ref w) p_h rfl dX11_about_122 ?_
    refine pg_getN S Y ok_X10 8 (by decide) kf11_313 (v := .ref si) p_w rfl dX11_about_125 ?_
    refine pg_getN S Y ok_X9 2 (by decide) kf11_350 (v := .int 0) p_si rfl dX11_about_128 ?_
    exact prI (post := fun r L1 f1 => (r = aboutF q) ∧ L1 = L ∧ f1 = f) S Y rfl (by decide) (by decide) hA1 ⟨(by rw [h_141]; decide), rfl, rfl⟩ dX11_about_131
  · refine lv_fold (z := 8) h_141 ?_
    refine lv_tableIn (off := 131) (tgt := 132) hx hb dX11_about_1 (by decide) (by decide) (by decide) (by decide) ?_
    refine lv_aload_n hx hb dX11_about_132 rfl (lv_at hl 0 rfl) ?_
    refine pg_get S Y ok_X11 0 (by decide) kf11_13 (v := .ref w) p_h rfl dX11_about_133 ?_
    refine pg_getN S Y ok_X10 9 (by decide) kf11_326 (v := .ref we) p_w rfl dX11_about_136 ?_
    refine pg_getN S Y ok_X9 2 (by decide) kf11_350 (v := .int 0) p_we rfl dX11_about_139 ?_
    exact prI (post := fun r L1 f1 => (r = aboutF q) ∧ L1 = L ∧ f1 = f) S Y rfl (by decide) (by decide) hA1 ⟨(by rw [h_141]; decide), rfl, rfl⟩ dX11_about_142
  · refine lv_fold (z := 9) h_141 ?_
    refine lv_tableIn (off := 142) (tgt := 143) hx hb dX11_about_1 (by decide) (by decide) (by decide) (by decide) ?_
    refine lv_aload_n hx hb dX11_about_143 rfl (lv_at hl 0 rfl) ?_
    refine pg_get S Y ok_X11 2 (by decide) kf11_25 (v := .ref rd) p_h rfl dX11_about_144 ?_
    refine cVp (As := []) (rest := []) S Y (c_X5_size (l := l) p_rd) cw_X5_size km11_91 p_rd ok_X5.1 rfl rfl ⟨Nat.le_of_ble_eq_true rfl, Nat.le_of_ble_eq_true rfl⟩ hl.1 rfl (Nat.le_of_ble_eq_true rfl) ⟨Nat.le_of_ble_eq_true rfl, Nat.le_of_ble_eq_true rfl⟩ dX11_about_147 (fun r_142 H locs er_142 Y => ?_)
    refine lv_fold (z := 0) er_142 ?_
    exact prI (post := fun r L1 f1 => (r = aboutF q) ∧ L1 = L ∧ f1 = f) S Y rfl (by decide) (by decide) hA1 ⟨(by rw [h_141]; decide), rfl, rfl⟩ dX11_about_150
  · refine lv_tableOut (tgt := 151) hx hb dX11_about_1 h_141 (by decide) ?_
    refine lv_bipush (v := (-2)) hx hb dX11_about_151 (by decide) ?_
    exact prI (post := fun r L1 f1 => (r = aboutF q) ∧ L1 = L ∧ f1 = f) S Y rfl (by decide) (by decide) hA1 ⟨(by
      have key : ∀ j : Int32, 0 ≤ j.toInt → j.toInt ≤ 9 → ¬ q = j := fun j h1 h2 z => by rw [z] at h_141; omega
      unfold aboutF
      simp [key 0 (by decide) (by decide), key 1 (by decide) (by decide), key 2 (by decide) (by decide), key 3 (by decide) (by decide), key 4 (by decide) (by decide), key 5 (by decide) (by decide), key 6 (by decide) (by decide), key 7 (by decide) (by decide), key 8 (by decide) (by decide), key 9 (by decide) (by decide)]), rfl, rfl⟩ dX11_about_153
